theorem dX11_owns_4 : decode cX11_owns 4 = .ok (.ifCond .ne 18, 3) := by decide +kernel
theorem dX11_owns_7 : decode cX11_owns 7 = .ok (.iload_n 1, 1) := by decide +kernel
theorem dX11_owns_8 : decode cX11_owns 8 = .ok (.ifCond .lt 14, 3) := by decide +kernel
theorem dX11_owns_11 : decode cX11_owns 11 = .ok (.iload_n 1, 1) := by decide +kernel
theorem dX11_owns_12 : decode cX11_owns 12 = .ok (.aload_n 0, 1) := by decide +kernel
theorem dX11_owns_13 : decode cX11_owns 13 = .ok (.getfield 19, 3) := by decide +kernel
theorem dX11_owns_16 : decode cX11_owns 16 = .ok (.getfield 228, 3) := by decide +kernel
theorem dX11_owns_19 : decode cX11_owns 19 = .ok (.if_icmp .le 6, 3) := by decide +kernel
theorem dX11_owns_22 : decode cX11_owns 22 = .ok (.bipush (-2), 2) := by decide +kernel
theorem dX11_owns_24 : decode cX11_owns 24 = .ok (.ireturn, 1) := by decide +kernel
theorem dX11_owns_25 : decode cX11_owns 25 = .ok (.aload_n 0, 1) := by decide +kernel
theorem dX11_owns_26 : decode cX11_owns 26 = .ok (.getfield 51, 3) := by decide +kernel
theorem dX11_owns_29 : decode cX11_owns 29 = .ok (.aload_n 0, 1) := by decide +kernel
theorem dX11_owns_30 : decode cX11_owns 30 = .ok (.getfield 19, 3) := by decide +kernel
theorem dX11_owns_33 : decode cX11_owns 33 = .ok (.invokevirtual 222, 3) := by decide +kernel
theorem dX11_owns_36 : decode cX11_owns 36 = .ok (.iconst 0, 1) := by decide +kernel
theorem dX11_owns_37 : decode cX11_owns 37 = .ok (.istore_n 2, 1) := by decide +kernel
theorem dX11_owns_38 : decode cX11_owns 38 = .ok (.iconst 0, 1) := by decide +kernel
theorem dX11_owns_39 : decode cX11_owns 39 = .ok (.istore_n 3, 1) := by decide +kernel
theorem dX11_owns_40 : decode cX11_owns 40 = .ok (.iload_n 3, 1) := by decide +kernel
theorem dX11_owns_41 : decode cX11_owns 41 = .ok (.aload_n 0, 1) := by decide +kernel
theorem dX11_owns_42 : decode cX11_owns 42 = .ok (.getfield 19, 3) := by decide +kernel
theorem dX11_owns_45 : decode cX11_owns 45 = .ok (.getfield 192, 3) := by decide +kernel
theorem dX11_owns_48 : decode cX11_owns 48 = .ok (.if_icmp .ge 28, 3) := by decide +kernel
theorem dX11_owns_51 : decode cX11_owns 51 = .ok (.aload_n 0, 1) := by decide +kernel
theorem dX11_owns_52 : decode cX11_owns 52 = .ok (.getfield 51, 3) := by decide +kernel
theorem dX11_owns_55 : decode cX11_owns 55 = .ok (.getfield 225, 3) := by decide +kernel
theorem dX11_owns_58 : decode cX11_owns 58 = .ok (.iload_n 3, 1) := by decide +kernel
theorem dX11_owns_59 : decode cX11_owns 59 = .ok (.iaload, 1) := by decide +kernel
theorem dX11_owns_60 : decode cX11_owns 60 = .ok (.iload_n 1, 1) := by decide +kernel
theorem dX11_owns_61 : decode cX11_owns 61 = .ok (.if_icmp .ne 9, 3) := by decide +kernel
theorem dX11_owns_64 : decode cX11_owns 64 = .ok (.iload_n 2, 1) := by decide +kernel
theorem dX11_owns_65 : decode cX11_owns 65 = .ok (.iconst 1, 1) := by decide +kernel
theorem dX11_owns_66 : decode cX11_owns 66 = .ok (.iload_n 3, 1) := by decide +kernel
theorem dX11_owns_67 : decode cX11_owns 67 = .ok (.ishl, 1) := by decide +kernel
theorem dX11_owns_68 : decode cX11_owns 68 = .ok (.ior, 1) := by decide +kernel
theorem dX11_owns_69 : decode cX11_owns 69 = .ok (.istore_n 2, 1) := by decide +kernel
theorem dX11_owns_70 : decode cX11_owns 70 = .ok (.iinc 3 1, 3) := by decide +kernel
theorem dX11_owns_73 : decode cX11_owns 73 = .ok (.goto (-33), 3) := by decide +kernel
theorem dX11_owns_76 : decode cX11_owns 76 = .ok (.iload_n 2, 1) := by decide +kernel
theorem dX11_owns_77 : decode cX11_owns 77 = .ok (.ireturn, 1) := by decide +kernel
theorem dX11_front_0 : decode cX11_front 0 = .ok (.aload_n 0, 1) := by decide +kernel
theorem dX11_front_1 : decode cX11_front 1 = .ok (.invokevirtual 186, 3) := by decide +kernel
theorem dX11_front_4 : decode cX11_front 4 = .ok (.ifCond .eq 6, 3) := by decide +kernel
theorem dX11_front_7 : decode cX11_front 7 = .ok (.bipush (-2), 2) := by decide +kernel
theorem dX11_front_9 : decode cX11_front 9 = .ok (.ireturn, 1) := by decide +kernel
theorem dX11_front_10 : decode cX11_front 10 = .ok (.aload_n 0, 1) := by decide +kernel
theorem dX11_front_11 : decode cX11_front 11 = .ok (.getfield 51, 3) := by decide +kernel
theorem dX11_front_14 : decode cX11_front 14 = .ok (.aload_n 0, 1) := by decide +kernel
theorem dX11_front_15 : decode cX11_front 15 = .ok (.getfield 19, 3) := by decide +kernel
theorem dX11_front_18 : decode cX11_front 18 = .ok (.invokevirtual 222, 3) := by decide +kernel
theorem dX11_front_21 : decode cX11_front 21 = .ok (.iconst 0, 1) := by decide +kernel
theorem dX11_front_22 : decode cX11_front 22 = .ok (.istore_n 1, 1) := by decide +kernel
theorem dX11_front_23 : decode cX11_front 23 = .ok (.iconst 0, 1) := by decide +kernel
theorem dX11_front_24 : decode cX11_front 24 = .ok (.istore_n 2, 1) := by decide +kernel
theorem dX11_front_25 : decode cX11_front 25 = .ok (.iload_n 2, 1) := by decide +kernel
theorem dX11_front_26 : decode cX11_front 26 = .ok (.aload_n 0, 1) := by decide +kernel
theorem dX11_front_27 : decode cX11_front 27 = .ok (.getfield 19, 3) := by decide +kernel
theorem dX11_front_30 : decode cX11_front 30 = .ok (.getfield 199, 3) := by decide +kernel
theorem dX11_front_33 : decode cX11_front 33 = .ok (.if_icmp .ge 38, 3) := by decide +kernel
theorem dX11_front_36 : decode cX11_front 36 = .ok (.aload_n 0, 1) := by decide +kernel
theorem dX11_front_37 : decode cX11_front 37 = .ok (.iload_n 2, 1) := by decide +kernel
theorem dX11_front_38 : decode cX11_front 38 = .ok (.invokevirtual 202, 3) := by decide +kernel
theorem dX11_front_41 : decode cX11_front 41 = .ok (.ifCond .eq 24, 3) := by decide +kernel
theorem dX11_front_44 : decode cX11_front 44 = .ok (.aload_n 0, 1) := by decide +kernel
theorem dX11_front_45 : decode cX11_front 45 = .ok (.getfield 51, 3) := by decide +kernel
theorem dX11_front_48 : decode cX11_front 48 = .ok (.aload_n 0, 1) := by decide +kernel
theorem dX11_front_49 : decode cX11_front 49 = .ok (.getfield 19, 3) := by decide +kernel
theorem dX11_front_52 : decode cX11_front 52 = .ok (.iload_n 2, 1) := by decide +kernel
theorem dX11_front_53 : decode cX11_front 53 = .ok (.invokevirtual 231, 3) := by decide +kernel
theorem dX11_front_56 : decode cX11_front 56 = .ok (.ifCond .eq 9, 3) := by decide +kernel
theorem dX11_front_59 : decode cX11_front 59 = .ok (.iload_n 1, 1) := by decide +kernel
theorem dX11_front_60 : decode cX11_front 60 = .ok (.iconst 1, 1) := by decide +kernel
theorem dX11_front_61 : decode cX11_front 61 = .ok (.iload_n 2, 1) := by decide +kernel
theorem dX11_front_62 : decode cX11_front 62 = .ok (.ishl, 1) := by decide +kernel
theorem dX11_front_63 : decode cX11_front 63 = .ok (.ior, 1) := by decide +kernel
theorem dX11_front_64 : decode cX11_front 64 = .ok (.istore_n 1, 1) := by decide +kernel
theorem dX11_front_65 : decode cX11_front 65 = .ok (.iinc 2 1, 3) := by decide +kernel
theorem dX11_front_68 : decode cX11_front 68 = .ok (.goto (-43), 3) := by decide +kernel
theorem dX11_front_71 : decode cX11_front 71 = .ok (.iload_n 1, 1) := by decide +kernel
theorem dX11_front_72 : decode cX11_front 72 = .ok (.ireturn, 1) := by decide +kernel
theorem dX11_late_0 : decode cX11_late 0 = .ok (.aload_n 0, 1) := by decide +kernel
theorem dX11_late_1 : decode cX11_late 1 = .ok (.iload_n 1, 1) := by decide +kernel
theorem dX11_late_2 : decode cX11_late 2 = .ok (.invokevirtual 160, 3) := by decide +kernel
theorem dX11_late_5 : decode cX11_late 5 = .ok (.ifCond .ne 6, 3) := by decide +kernel
theorem dX11_late_8 : decode cX11_late 8 = .ok (.bipush (-2), 2) := by decide +kernel
theorem dX11_late_10 : decode cX11_late 10 = .ok (.ireturn, 1) := by decide +kernel
theorem dX11_late_11 : decode cX11_late 11 = .ok (.aload_n 0, 1) := by decide +kernel
theorem dX11_late_12 : decode cX11_late 12 = .ok (.getfield 51, 3) := by decide +kernel
theorem dX11_late_15 : decode cX11_late 15 = .ok (.aload_n 0, 1) := by decide +kernel
theorem dX11_late_16 : decode cX11_late 16 = .ok (.getfield 19, 3) := by decide +kernel
theorem dX11_late_19 : decode cX11_late 19 = .ok (.invokevirtual 222, 3) := by decide +kernel
theorem dX11_late_22 : decode cX11_late 22 = .ok (.aload_n 0, 1) := by decide +kernel
theorem dX11_late_23 : decode cX11_late 23 = .ok (.getfield 51, 3) := by decide +kernel
theorem dX11_late_26 : decode cX11_late 26 = .ok (.getfield 225, 3) := by decide +kernel
theorem dX11_late_29 : decode cX11_late 29 = .ok (.iload_n 1, 1) := by decide +kernel
theorem dX11_late_30 : decode cX11_late 30 = .ok (.iaload, 1) := by decide +kernel
theorem dX11_late_31 : decode cX11_late 31 = .ok (.ifCond .eq 5, 3) := by decide +kernel
theorem dX11_late_34 : decode cX11_late 34 = .ok (.iconst (-1), 1) := by decide +kernel
theorem dX11_late_35 : decode cX11_late 35 = .ok (.ireturn, 1) := by decide +kernel
theorem dX11_late_36 : decode cX11_late 36 = .ok (.sipush 999, 3) := by decide +kernel
theorem dX11_late_39 : decode cX11_late 39 = .ok (.aload_n 0, 1) := by decide +kernel
theorem dX11_late_40 : decode cX11_late 40 = .ok (.getfield 51, 3) := by decide +kernel
theorem dX11_late_43 : decode cX11_late 43 = .ok (.getfield 235, 3) := by decide +kernel
theorem dX11_late_46 : decode cX11_late 46 = .ok (.iload_n 1, 1) := by decide +kernel
theorem dX11_late_47 : decode cX11_late 47 = .ok (.iaload, 1) := by decide +kernel
theorem dX11_late_48 : decode cX11_late 48 = .ok (.aload_n 0, 1) := by decide +kernel
theorem dX11_late_49 : decode cX11_late 49 = .ok (.getfield 51, 3) := by decide +kernel
theorem dX11_late_52 : decode cX11_late 52 = .ok (.iload_n 1, 1) := by decide +kernel
theorem dX11_late_53 : decode cX11_late 53 = .ok (.invokevirtual 238, 3) := by decide +kernel
theorem dX11_late_56 : decode cX11_late 56 = .ok (.isub, 1) := by decide +kernel
theorem dX11_late_57 : decode cX11_late 57 = .ok (.invokestatic 216, 3) := by decide +kernel
theorem dX11_late_60 : decode cX11_late 60 = .ok (.ireturn, 1) := by decide +kernel
theorem dX11_glad_0 : decode cX11_glad 0 = .ok (.aload_n 0, 1) := by decide +kernel
theorem dX11_glad_1 : decode cX11_glad 1 = .ok (.iload_n 1, 1) := by decide +kernel
theorem dX11_glad_2 : decode cX11_glad 2 = .ok (.invokevirtual 145, 3) := by decide +kernel
theorem dX11_glad_5 : decode cX11_glad 5 = .ok (.ifCond .ne 6, 3) := by decide +kernel
theorem dX11_glad_8 : decode cX11_glad 8 = .ok (.bipush (-2), 2) := by decide +kernel
theorem dX11_glad_10 : decode cX11_glad 10 = .ok (.ireturn, 1) := by decide +kernel
theorem dX11_glad_11 : decode cX11_glad 11 = .ok (.aload_n 0, 1) := by decide +kernel
theorem dX11_glad_12 : decode cX11_glad 12 = .ok (.getfield 41, 3) := by decide +kernel
theorem dX11_glad_15 : decode cX11_glad 15 = .ok (.aload_n 0, 1) := by decide +kernel
theorem dX11_glad_16 : decode cX11_glad 16 = .ok (.getfield 19, 3) := by decide +kernel
theorem dX11_glad_19 : decode cX11_glad 19 = .ok (.invokevirtual 163, 3) := by decide +kernel
theorem dX11_glad_22 : decode cX11_glad 22 = .ok (.aload_n 0, 1) := by decide +kernel
theorem dX11_glad_23 : decode cX11_glad 23 = .ok (.getfield 41, 3) := by decide +kernel
theorem dX11_glad_26 : decode cX11_glad 26 = .ok (.aload_n 0, 1) := by decide +kernel
theorem dX11_glad_27 : decode cX11_glad 27 = .ok (.getfield 19, 3) := by decide +kernel
theorem dX11_glad_30 : decode cX11_glad 30 = .ok (.iload_n 1, 1) := by decide +kernel
theorem dX11_glad_31 : decode cX11_glad 31 = .ok (.invokevirtual 241, 3) := by decide +kernel
theorem dX11_glad_34 : decode cX11_glad 34 = .ok (.ireturn, 1) := by decide +kernel
theorem dX11_all_0 : decode cX11_all 0 = .ok (.aload_n 0, 1) := by decide +kernel
theorem dX11_all_1 : decode cX11_all 1 = .ok (.invokevirtual 186, 3) := by decide +kernel
theorem dX11_all_4 : decode cX11_all 4 = .ok (.ifCond .eq 6, 3) := by decide +kernel
theorem dX11_all_7 : decode cX11_all 7 = .ok (.bipush (-2), 2) := by decide +kernel
theorem dX11_all_9 : decode cX11_all 9 = .ok (.ireturn, 1) := by decide +kernel
theorem dX11_all_10 : decode cX11_all 10 = .ok (.aload_n 0, 1) := by decide +kernel
theorem dX11_all_11 : decode cX11_all 11 = .ok (.getfield 41, 3) := by decide +kernel
theorem dX11_all_14 : decode cX11_all 14 = .ok (.aload_n 0, 1) := by decide +kernel
theorem dX11_all_15 : decode cX11_all 15 = .ok (.getfield 19, 3) := by decide +kernel
theorem dX11_all_18 : decode cX11_all 18 = .ok (.invokevirtual 163, 3) := by decide +kernel
theorem dX11_all_21 : decode cX11_all 21 = .ok (.aload_n 0, 1) := by decide +kernel
theorem dX11_all_22 : decode cX11_all 22 = .ok (.getfield 41, 3) := by decide +kernel
theorem dX11_all_25 : decode cX11_all 25 = .ok (.aload_n 0, 1) := by decide +kernel
theorem dX11_all_26 : decode cX11_all 26 = .ok (.getfield 19, 3) := by decide +kernel
theorem dX11_all_29 : decode cX11_all 29 = .ok (.invokevirtual 244, 3) := by decide +kernel
theorem dX11_all_32 : decode cX11_all 32 = .ok (.ireturn, 1) := by decide +kernel
theorem dX11_steps_0 : decode cX11_steps 0 = .ok (.aload_n 0, 1) := by decide +kernel
theorem dX11_steps_1 : decode cX11_steps 1 = .ok (.iload_n 1, 1) := by decide +kernel
theorem dX11_steps_2 : decode cX11_steps 2 = .ok (.invokevirtual 160, 3) := by decide +kernel
theorem dX11_steps_5 : decode cX11_steps 5 = .ok (.ifCond .ne 6, 3) := by decide +kernel
theorem dX11_steps_8 : decode cX11_steps 8 = .ok (.bipush (-2), 2) := by decide +kernel
theorem dX11_steps_10 : decode cX11_steps 10 = .ok (.ireturn, 1) := by decide +kernel
theorem dX11_steps_11 : decode cX11_steps 11 = .ok (.aload_n 0, 1) := by decide +kernel
theorem dX11_steps_12 : decode cX11_steps 12 = .ok (.getfield 41, 3) := by decide +kernel
theorem dX11_steps_15 : decode cX11_steps 15 = .ok (.aload_n 0, 1) := by decide +kernel
theorem dX11_steps_16 : decode cX11_steps 16 = .ok (.getfield 19, 3) := by decide +kernel
theorem dX11_steps_19 : decode cX11_steps 19 = .ok (.invokevirtual 163, 3) := by decide +kernel
theorem dX11_steps_22 : decode cX11_steps 22 = .ok (.aload_n 0, 1) := by decide +kernel
theorem dX11_steps_23 : decode cX11_steps 23 = .ok (.getfield 41, 3) := by decide +kernel
theorem dX11_steps_26 : decode cX11_steps 26 = .ok (.getfield 167, 3) := by decide +kernel
theorem dX11_steps_29 : decode cX11_steps 29 = .ok (.iload_n 1, 1) := by decide +kernel
theorem dX11_steps_30 : decode cX11_steps 30 = .ok (.iaload, 1) := by decide +kernel
theorem dX11_steps_31 : decode cX11_steps 31 = .ok (.ldc 174, 2) := by decide +kernel
theorem dX11_steps_33 : decode cX11_steps 33 = .ok (.if_icmp .lt 7, 3) := by decide +kernel
theorem dX11_steps_36 : decode cX11_steps 36 = .ok (.iconst (-1), 1) := by decide +kernel
theorem dX11_steps_37 : decode cX11_steps 37 = .ok (.goto 18, 3) := by decide +kernel
theorem dX11_steps_40 : decode cX11_steps 40 = .ok (.aload_n 0, 1) := by decide +kernel
theorem dX11_steps_41 : decode cX11_steps 41 = .ok (.getfield 41, 3) := by decide +kernel
theorem dX11_steps_44 : decode cX11_steps 44 = .ok (.aload_n 0, 1) := by decide +kernel
theorem dX11_steps_45 : decode cX11_steps 45 = .ok (.getfield 19, 3) := by decide +kernel
theorem dX11_steps_48 : decode cX11_steps 48 = .ok (.iload_n 1, 1) := by decide +kernel
theorem dX11_steps_49 : decode cX11_steps 49 = .ok (.invokevirtual 247, 3) := by decide +kernel
theorem dX11_steps_52 : decode cX11_steps 52 = .ok (.invokestatic 250, 3) := by decide +kernel
theorem dX11_steps_55 : decode cX11_steps 55 = .ok (.ireturn, 1) := by decide +kernel
theorem dX11_have_0 : decode cX11_have 0 = .ok (.aload_n 0, 1) := by decide +kernel
theorem dX11_have_1 : decode cX11_have 1 = .ok (.invokevirtual 186, 3) := by decide +kernel
theorem dX11_have_4 : decode cX11_have 4 = .ok (.ifCond .ne 10, 3) := by decide +kernel
theorem dX11_have_7 : decode cX11_have 7 = .ok (.iload_n 1, 1) := by decide +kernel
theorem dX11_have_8 : decode cX11_have 8 = .ok (.invokestatic 189, 3) := by decide +kernel
theorem dX11_have_11 : decode cX11_have 11 = .ok (.ifCond .ne 6, 3) := by decide +kernel
theorem dX11_have_14 : decode cX11_have 14 = .ok (.bipush (-2), 2) := by decide +kernel
theorem dX11_have_16 : decode cX11_have 16 = .ok (.ireturn, 1) := by decide +kernel
theorem dX11_have_17 : decode cX11_have 17 = .ok (.aload_n 0, 1) := by decide +kernel
theorem dX11_have_18 : decode cX11_have 18 = .ok (.getfield 41, 3) := by decide +kernel
theorem dX11_have_21 : decode cX11_have 21 = .ok (.aload_n 0, 1) := by decide +kernel
theorem dX11_have_22 : decode cX11_have 22 = .ok (.getfield 19, 3) := by decide +kernel
theorem dX11_have_25 : decode cX11_have 25 = .ok (.invokevirtual 163, 3) := by decide +kernel
theorem dX11_have_28 : decode cX11_have 28 = .ok (.iconst 0, 1) := by decide +kernel
theorem dX11_have_29 : decode cX11_have 29 = .ok (.istore_n 2, 1) := by decide +kernel
theorem dX11_have_30 : decode cX11_have 30 = .ok (.iconst 0, 1) := by decide +kernel
theorem dX11_have_31 : decode cX11_have 31 = .ok (.istore_n 3, 1) := by decide +kernel
theorem dX11_have_32 : decode cX11_have 32 = .ok (.iload_n 3, 1) := by decide +kernel
theorem dX11_have_33 : decode cX11_have 33 = .ok (.aload_n 0, 1) := by decide +kernel
theorem dX11_have_34 : decode cX11_have 34 = .ok (.getfield 19, 3) := by decide +kernel
theorem dX11_have_37 : decode cX11_have 37 = .ok (.getfield 255, 3) := by decide +kernel
theorem dX11_have_40 : decode cX11_have 40 = .ok (.if_icmp .ge 36, 3) := by decide +kernel
theorem dX11_have_43 : decode cX11_have 43 = .ok (.aload_n 0, 1) := by decide +kernel
theorem dX11_have_44 : decode cX11_have 44 = .ok (.getfield 41, 3) := by decide +kernel
theorem dX11_have_47 : decode cX11_have 47 = .ok (.getfield 167, 3) := by decide +kernel
theorem dX11_have_50 : decode cX11_have 50 = .ok (.aload_n 0, 1) := by decide +kernel
theorem dX11_have_51 : decode cX11_have 51 = .ok (.getfield 19, 3) := by decide +kernel
theorem dX11_have_54 : decode cX11_have 54 = .ok (.getfield 148, 3) := by decide +kernel
theorem dX11_have_57 : decode cX11_have 57 = .ok (.iload_n 3, 1) := by decide +kernel
theorem dX11_have_58 : decode cX11_have 58 = .ok (.iaload, 1) := by decide +kernel
theorem dX11_have_59 : decode cX11_have 59 = .ok (.iaload, 1) := by decide +kernel
theorem dX11_have_60 : decode cX11_have 60 = .ok (.iload_n 1, 1) := by decide +kernel
theorem dX11_have_61 : decode cX11_have 61 = .ok (.if_icmp .gt 9, 3) := by decide +kernel
theorem dX11_have_64 : decode cX11_have 64 = .ok (.iload_n 2, 1) := by decide +kernel
theorem dX11_have_65 : decode cX11_have 65 = .ok (.iconst 1, 1) := by decide +kernel
theorem dX11_have_66 : decode cX11_have 66 = .ok (.iload_n 3, 1) := by decide +kernel
theorem dX11_have_67 : decode cX11_have 67 = .ok (.ishl, 1) := by decide +kernel
theorem dX11_have_68 : decode cX11_have 68 = .ok (.ior, 1) := by decide +kernel
theorem dX11_have_69 : decode cX11_have 69 = .ok (.istore_n 2, 1) := by decide +kernel
theorem dX11_have_70 : decode cX11_have 70 = .ok (.iinc 3 1, 3) := by decide +kernel
theorem dX11_have_73 : decode cX11_have 73 = .ok (.goto (-41), 3) := by decide +kernel
theorem dX11_have_76 : decode cX11_have 76 = .ok (.iload_n 2, 1) := by decide +kernel
theorem dX11_have_77 : decode cX11_have 77 = .ok (.ireturn, 1) := by decide +kernel
theorem dX11_gladdest_0 : decode cX11_gladdest 0 = .ok (.aload_n 0, 1) := by decide +kernel
theorem dX11_gladdest_1 : decode cX11_gladdest 1 = .ok (.invokevirtual 186, 3) := by decide +kernel
theorem dX11_gladdest_4 : decode cX11_gladdest 4 = .ok (.ifCond .eq 6, 3) := by decide +kernel
theorem dX11_gladdest_7 : decode cX11_gladdest 7 = .ok (.bipush (-2), 2) := by decide +kernel
theorem dX11_gladdest_9 : decode cX11_gladdest 9 = .ok (.ireturn, 1) := by decide +kernel
theorem dX11_gladdest_10 : decode cX11_gladdest 10 = .ok (.aload_n 0, 1) := by decide +kernel
theorem dX11_gladdest_11 : decode cX11_gladdest 11 = .ok (.getfield 41, 3) := by decide +kernel
theorem dX11_gladdest_14 : decode cX11_gladdest 14 = .ok (.aload_n 0, 1) := by decide +kernel
theorem dX11_gladdest_15 : decode cX11_gladdest 15 = .ok (.getfield 19, 3) := by decide +kernel
theorem dX11_gladdest_18 : decode cX11_gladdest 18 = .ok (.invokevirtual 163, 3) := by decide +kernel
theorem dX11_gladdest_21 : decode cX11_gladdest 21 = .ok (.iconst (-1), 1) := by decide +kernel
theorem dX11_gladdest_22 : decode cX11_gladdest 22 = .ok (.istore_n 1, 1) := by decide +kernel
theorem dX11_gladdest_23 : decode cX11_gladdest 23 = .ok (.iconst 0, 1) := by decide +kernel
theorem dX11_gladdest_24 : decode cX11_gladdest 24 = .ok (.istore_n 2, 1) := by decide +kernel
theorem dX11_gladdest_25 : decode cX11_gladdest 25 = .ok (.iconst 0, 1) := by decide +kernel
theorem dX11_gladdest_26 : decode cX11_gladdest 26 = .ok (.istore_n 3, 1) := by decide +kernel
theorem dX11_gladdest_27 : decode cX11_gladdest 27 = .ok (.iload_n 3, 1) := by decide +kernel
theorem dX11_gladdest_28 : decode cX11_gladdest 28 = .ok (.aload_n 0, 1) := by decide +kernel
theorem dX11_gladdest_29 : decode cX11_gladdest 29 = .ok (.getfield 19, 3) := by decide +kernel
theorem dX11_gladdest_32 : decode cX11_gladdest 32 = .ok (.getfield 255, 3) := by decide +kernel
theorem dX11_gladdest_35 : decode cX11_gladdest 35 = .ok (.if_icmp .ge 34, 3) := by decide +kernel
theorem dX11_gladdest_38 : decode cX11_gladdest 38 = .ok (.aload_n 0, 1) := by decide +kernel
theorem dX11_gladdest_39 : decode cX11_gladdest 39 = .ok (.getfield 41, 3) := by decide +kernel
theorem dX11_gladdest_42 : decode cX11_gladdest 42 = .ok (.aload_n 0, 1) := by decide +kernel
theorem dX11_gladdest_43 : decode cX11_gladdest 43 = .ok (.getfield 19, 3) := by decide +kernel
theorem dX11_gladdest_46 : decode cX11_gladdest 46 = .ok (.iload_n 3, 1) := by decide +kernel
theorem dX11_gladdest_47 : decode cX11_gladdest 47 = .ok (.invokevirtual 241, 3) := by decide +kernel
theorem dX11_gladdest_50 : decode cX11_gladdest 50 = .ok (.istore 4, 2) := by decide +kernel
theorem dX11_gladdest_52 : decode cX11_gladdest 52 = .ok (.iload 4, 2) := by decide +kernel
theorem dX11_gladdest_54 : decode cX11_gladdest 54 = .ok (.iload_n 2, 1) := by decide +kernel
theorem dX11_gladdest_55 : decode cX11_gladdest 55 = .ok (.if_icmp .le 8, 3) := by decide +kernel
theorem dX11_gladdest_58 : decode cX11_gladdest 58 = .ok (.iload 4, 2) := by decide +kernel
theorem dX11_gladdest_60 : decode cX11_gladdest 60 = .ok (.istore_n 2, 1) := by decide +kernel
theorem dX11_gladdest_61 : decode cX11_gladdest 61 = .ok (.iload_n 3, 1) := by decide +kernel
theorem dX11_gladdest_62 : decode cX11_gladdest 62 = .ok (.istore_n 1, 1) := by decide +kernel
theorem dX11_gladdest_63 : decode cX11_gladdest 63 = .ok (.iinc 3 1, 3) := by decide +kernel
theorem dX11_gladdest_66 : decode cX11_gladdest 66 = .ok (.goto (-39), 3) := by decide +kernel
theorem dX11_gladdest_69 : decode cX11_gladdest 69 = .ok (.iload_n 1, 1) := by decide +kernel
theorem dX11_gladdest_70 : decode cX11_gladdest 70 = .ok (.ireturn, 1) := by decide +kernel
theorem dX11_best_0 : decode cX11_best 0 = .ok (.aload_n 0, 1) := by decide +kernel
theorem dX11_best_1 : decode cX11_best 1 = .ok (.invokevirtual 186, 3) := by decide +kernel
theorem dX11_best_4 : decode cX11_best 4 = .ok (.ifCond .ne 10, 3) := by decide +kernel
theorem dX11_best_7 : decode cX11_best 7 = .ok (.iload_n 1, 1) := by decide +kernel
theorem dX11_best_8 : decode cX11_best 8 = .ok (.invokestatic 258, 3) := by decide +kernel
theorem dX11_best_11 : decode cX11_best 11 = .ok (.ifCond .ne 6, 3) := by decide +kernel
theorem dX11_best_14 : decode cX11_best 14 = .ok (.bipush (-2), 2) := by decide +kernel
theorem dX11_best_16 : decode cX11_best 16 = .ok (.ireturn, 1) := by decide +kernel
theorem dX11_best_17 : decode cX11_best 17 = .ok (.aload_n 0, 1) := by decide +kernel
theorem dX11_best_18 : decode cX11_best 18 = .ok (.getfield 58, 3) := by decide +kernel
theorem dX11_best_21 : decode cX11_best 21 = .ok (.aload_n 0, 1) := by decide +kernel
theorem dX11_best_22 : decode cX11_best 22 = .ok (.getfield 19, 3) := by decide +kernel
theorem dX11_best_25 : decode cX11_best 25 = .ok (.aload_n 0, 1) := by decide +kernel
theorem dX11_best_26 : decode cX11_best 26 = .ok (.getfield 19, 3) := by decide +kernel
theorem dX11_best_29 : decode cX11_best 29 = .ok (.invokevirtual 205, 3) := by decide +kernel
theorem dX11_best_32 : decode cX11_best 32 = .ok (.iload_n 1, 1) := by decide +kernel
theorem dX11_best_33 : decode cX11_best 33 = .ok (.invokevirtual 261, 3) := by decide +kernel
theorem dX11_best_36 : decode cX11_best 36 = .ok (.aload_n 0, 1) := by decide +kernel
theorem dX11_best_37 : decode cX11_best 37 = .ok (.getfield 58, 3) := by decide +kernel
theorem dX11_best_40 : decode cX11_best 40 = .ok (.getfield 264, 3) := by decide +kernel
theorem dX11_best_43 : decode cX11_best 43 = .ok (.ireturn, 1) := by decide +kernel
theorem dX11_bars_0 : decode cX11_bars 0 = .ok (.aload_n 0, 1) := by decide +kernel
theorem dX11_bars_1 : decode cX11_bars 1 = .ok (.invokevirtual 186, 3) := by decide +kernel
theorem dX11_bars_4 : decode cX11_bars 4 = .ok (.ifCond .ne 10, 3) := by decide +kernel
theorem dX11_bars_7 : decode cX11_bars 7 = .ok (.iload_n 1, 1) := by decide +kernel
theorem dX11_bars_8 : decode cX11_bars 8 = .ok (.invokestatic 258, 3) := by decide +kernel
theorem dX11_bars_11 : decode cX11_bars 11 = .ok (.ifCond .ne 6, 3) := by decide +kernel
theorem dX11_bars_14 : decode cX11_bars 14 = .ok (.bipush (-2), 2) := by decide +kernel
theorem dX11_bars_16 : decode cX11_bars 16 = .ok (.ireturn, 1) := by decide +kernel
theorem dX11_bars_17 : decode cX11_bars 17 = .ok (.aload_n 0, 1) := by decide +kernel
theorem dX11_bars_18 : decode cX11_bars 18 = .ok (.getfield 58, 3) := by decide +kernel
theorem dX11_bars_21 : decode cX11_bars 21 = .ok (.aload_n 0, 1) := by decide +kernel
theorem dX11_bars_22 : decode cX11_bars 22 = .ok (.getfield 19, 3) := by decide +kernel
theorem dX11_bars_25 : decode cX11_bars 25 = .ok (.aload_n 0, 1) := by decide +kernel
theorem dX11_bars_26 : decode cX11_bars 26 = .ok (.getfield 19, 3) := by decide +kernel
theorem dX11_bars_29 : decode cX11_bars 29 = .ok (.invokevirtual 205, 3) := by decide +kernel
theorem dX11_bars_32 : decode cX11_bars 32 = .ok (.iload_n 1, 1) := by decide +kernel
theorem dX11_bars_33 : decode cX11_bars 33 = .ok (.invokevirtual 261, 3) := by decide +kernel
theorem dX11_bars_36 : decode cX11_bars 36 = .ok (.aload_n 0, 1) := by decide +kernel
theorem dX11_bars_37 : decode cX11_bars 37 = .ok (.getfield 58, 3) := by decide +kernel
theorem dX11_bars_40 : decode cX11_bars 40 = .ok (.getfield 267, 3) := by decide +kernel
theorem dX11_bars_43 : decode cX11_bars 43 = .ok (.ireturn, 1) := by decide +kernel
theorem dX11_opens_0 : decode cX11_opens 0 = .ok (.aload_n 0, 1) := by decide +kernel
theorem dX11_opens_1 : decode cX11_opens 1 = .ok (.invokevirtual 186, 3) := by decide +kernel
theorem dX11_opens_4 : decode cX11_opens 4 = .ok (.ifCond .ne 10, 3) := by decide +kernel
theorem dX11_opens_7 : decode cX11_opens 7 = .ok (.iload_n 1, 1) := by decide +kernel
theorem dX11_opens_8 : decode cX11_opens 8 = .ok (.invokestatic 258, 3) := by decide +kernel
theorem dX11_opens_11 : decode cX11_opens 11 = .ok (.ifCond .ne 6, 3) := by decide +kernel
theorem dX11_opens_14 : decode cX11_opens 14 = .ok (.bipush (-2), 2) := by decide +kernel
theorem dX11_opens_16 : decode cX11_opens 16 = .ok (.ireturn, 1) := by decide +kernel
theorem dX11_opens_17 : decode cX11_opens 17 = .ok (.aload_n 0, 1) := by decide +kernel
theorem dX11_opens_18 : decode cX11_opens 18 = .ok (.getfield 58, 3) := by decide +kernel
theorem dX11_opens_21 : decode cX11_opens 21 = .ok (.aload_n 0, 1) := by decide +kernel
theorem dX11_opens_22 : decode cX11_opens 22 = .ok (.getfield 19, 3) := by decide +kernel
theorem dX11_opens_25 : decode cX11_opens 25 = .ok (.aload_n 0, 1) := by decide +kernel
theorem dX11_opens_26 : decode cX11_opens 26 = .ok (.getfield 19, 3) := by decide +kernel
theorem dX11_opens_29 : decode cX11_opens 29 = .ok (.getfield 133, 3) := by decide +kernel
theorem dX11_opens_32 : decode cX11_opens 32 = .ok (.iload_n 1, 1) := by decide +kernel
theorem dX11_opens_33 : decode cX11_opens 33 = .ok (.invokevirtual 261, 3) := by decide +kernel
theorem dX11_opens_36 : decode cX11_opens 36 = .ok (.aload_n 0, 1) := by decide +kernel
theorem dX11_opens_37 : decode cX11_opens 37 = .ok (.getfield 58, 3) := by decide +kernel
theorem dX11_opens_40 : decode cX11_opens 40 = .ok (.getfield 264, 3) := by decide +kernel
theorem dX11_opens_43 : decode cX11_opens 43 = .ok (.ireturn, 1) := by decide +kernel
theorem dX11_cut_0 : decode cX11_cut 0 = .ok (.aload_n 0, 1) := by decide +kernel
theorem dX11_cut_1 : decode cX11_cut 1 = .ok (.iload_n 1, 1) := by decide +kernel
theorem dX11_cut_2 : decode cX11_cut 2 = .ok (.invokevirtual 160, 3) := by decide +kernel
theorem dX11_cut_5 : decode cX11_cut 5 = .ok (.ifCond .eq 10, 3) := by decide +kernel
theorem dX11_cut_8 : decode cX11_cut 8 = .ok (.iload_n 2, 1) := by decide +kernel
theorem dX11_cut_9 : decode cX11_cut 9 = .ok (.invokestatic 270, 3) := by decide +kernel
theorem dX11_cut_12 : decode cX11_cut 12 = .ok (.ifCond .ne 6, 3) := by decide +kernel
theorem dX11_cut_15 : decode cX11_cut 15 = .ok (.bipush (-2), 2) := by decide +kernel
theorem dX11_cut_17 : decode cX11_cut 17 = .ok (.ireturn, 1) := by decide +kernel
theorem dX11_cut_18 : decode cX11_cut 18 = .ok (.aload_n 0, 1) := by decide +kernel
theorem dX11_cut_19 : decode cX11_cut 19 = .ok (.getfield 58, 3) := by decide +kernel
theorem dX11_cut_22 : decode cX11_cut 22 = .ok (.aload_n 0, 1) := by decide +kernel
theorem dX11_cut_23 : decode cX11_cut 23 = .ok (.getfield 19, 3) := by decide +kernel
theorem dX11_cut_26 : decode cX11_cut 26 = .ok (.iload_n 1, 1) := by decide +kernel
theorem dX11_cut_27 : decode cX11_cut 27 = .ok (.iload_n 2, 1) := by decide +kernel
theorem dX11_cut_28 : decode cX11_cut 28 = .ok (.invokevirtual 273, 3) := by decide +kernel
theorem dX11_cut_31 : decode cX11_cut 31 = .ok (.istore_n 3, 1) := by decide +kernel
theorem dX11_cut_32 : decode cX11_cut 32 = .ok (.iload_n 3, 1) := by decide +kernel
theorem dX11_cut_33 : decode cX11_cut 33 = .ok (.iconst (-1), 1) := by decide +kernel
theorem dX11_cut_34 : decode cX11_cut 34 = .ok (.if_icmp .ne 7, 3) := by decide +kernel
theorem dX11_cut_37 : decode cX11_cut 37 = .ok (.iconst (-1), 1) := by decide +kernel
theorem dX11_cut_38 : decode cX11_cut 38 = .ok (.goto 7, 3) := by decide +kernel
theorem dX11_cut_41 : decode cX11_cut 41 = .ok (.iload_n 3, 1) := by decide +kernel
theorem dX11_cut_42 : decode cX11_cut 42 = .ok (.invokestatic 250, 3) := by decide +kernel
theorem dX11_cut_45 : decode cX11_cut 45 = .ok (.ireturn, 1) := by decide +kernel
theorem dX11_cuts_0 : decode cX11_cuts 0 = .ok (.aload_n 0, 1) := by decide +kernel
theorem dX11_cuts_1 : decode cX11_cuts 1 = .ok (.iload_n 1, 1) := by decide +kernel
theorem dX11_cuts_2 : decode cX11_cuts 2 = .ok (.invokevirtual 160, 3) := by decide +kernel
theorem dX11_cuts_5 : decode cX11_cuts 5 = .ok (.ifCond .eq 10, 3) := by decide +kernel
theorem dX11_cuts_8 : decode cX11_cuts 8 = .ok (.iload_n 2, 1) := by decide +kernel
theorem dX11_cuts_9 : decode cX11_cuts 9 = .ok (.invokestatic 270, 3) := by decide +kernel
theorem dX11_cuts_12 : decode cX11_cuts 12 = .ok (.ifCond .ne 6, 3) := by decide +kernel
theorem dX11_cuts_15 : decode cX11_cuts 15 = .ok (.bipush (-2), 2) := by decide +kernel
theorem dX11_cuts_17 : decode cX11_cuts 17 = .ok (.ireturn, 1) := by decide +kernel
theorem dX11_cuts_18 : decode cX11_cuts 18 = .ok (.aload_n 0, 1) := by decide +kernel
theorem dX11_cuts_19 : decode cX11_cuts 19 = .ok (.getfield 58, 3) := by decide +kernel
theorem dX11_cuts_22 : decode cX11_cuts 22 = .ok (.aload_n 0, 1) := by decide +kernel
theorem dX11_cuts_23 : decode cX11_cuts 23 = .ok (.getfield 19, 3) := by decide +kernel
theorem dX11_cuts_26 : decode cX11_cuts 26 = .ok (.iload_n 1, 1) := by decide +kernel
theorem dX11_cuts_27 : decode cX11_cuts 27 = .ok (.iload_n 2, 1) := by decide +kernel
theorem dX11_cuts_28 : decode cX11_cuts 28 = .ok (.invokevirtual 273, 3) := by decide +kernel
theorem dX11_cuts_31 : decode cX11_cuts 31 = .ok (.ireturn, 1) := by decide +kernel
theorem dX11_hold_0 : decode cX11_hold 0 = .ok (.aload_n 0, 1) := by decide +kernel
theorem dX11_hold_1 : decode cX11_hold 1 = .ok (.iload_n 1, 1) := by decide +kernel
theorem dX11_hold_2 : decode cX11_hold 2 = .ok (.invokevirtual 136, 3) := by decide +kernel
theorem dX11_hold_5 : decode cX11_hold 5 = .ok (.ifCond .eq 18, 3) := by decide +kernel
theorem dX11_hold_8 : decode cX11_hold 8 = .ok (.aload_n 0, 1) := by decide +kernel
theorem dX11_hold_9 : decode cX11_hold 9 = .ok (.iload_n 2, 1) := by decide +kernel
theorem dX11_hold_10 : decode cX11_hold 10 = .ok (.invokevirtual 160, 3) := by decide +kernel
theorem dX11_hold_13 : decode cX11_hold 13 = .ok (.ifCond .eq 10, 3) := by decide +kernel
theorem dX11_hold_16 : decode cX11_hold 16 = .ok (.iload_n 3, 1) := by decide +kernel
theorem dX11_hold_17 : decode cX11_hold 17 = .ok (.invokestatic 189, 3) := by decide +kernel
theorem dX11_hold_20 : decode cX11_hold 20 = .ok (.ifCond .ne 6, 3) := by decide +kernel
theorem dX11_hold_23 : decode cX11_hold 23 = .ok (.bipush (-2), 2) := by decide +kernel
theorem dX11_hold_25 : decode cX11_hold 25 = .ok (.ireturn, 1) := by decide +kernel
theorem dX11_hold_26 : decode cX11_hold 26 = .ok (.aload_n 0, 1) := by decide +kernel
theorem dX11_hold_27 : decode cX11_hold 27 = .ok (.getfield 65, 3) := by decide +kernel
theorem dX11_hold_30 : decode cX11_hold 30 = .ok (.aload_n 0, 1) := by decide +kernel
theorem dX11_hold_31 : decode cX11_hold 31 = .ok (.getfield 19, 3) := by decide +kernel
theorem dX11_hold_34 : decode cX11_hold 34 = .ok (.iload_n 1, 1) := by decide +kernel
theorem dX11_hold_35 : decode cX11_hold 35 = .ok (.invokevirtual 277, 3) := by decide +kernel
theorem dX11_hold_38 : decode cX11_hold 38 = .ok (.iconst 0, 1) := by decide +kernel
theorem dX11_hold_39 : decode cX11_hold 39 = .ok (.istore 4, 2) := by decide +kernel
theorem dX11_hold_41 : decode cX11_hold 41 = .ok (.iload 4, 2) := by decide +kernel
theorem dX11_hold_43 : decode cX11_hold 43 = .ok (.bipush 100, 2) := by decide +kernel
theorem dX11_hold_45 : decode cX11_hold 45 = .ok (.if_icmp .ge 27, 3) := by decide +kernel
theorem dX11_hold_48 : decode cX11_hold 48 = .ok (.aload_n 0, 1) := by decide +kernel
theorem dX11_hold_49 : decode cX11_hold 49 = .ok (.getfield 65, 3) := by decide +kernel
theorem dX11_hold_52 : decode cX11_hold 52 = .ok (.iload_n 1, 1) := by decide +kernel
theorem dX11_hold_53 : decode cX11_hold 53 = .ok (.iload 4, 2) := by decide +kernel
theorem dX11_hold_55 : decode cX11_hold 55 = .ok (.iload_n 2, 1) := by decide +kernel
theorem dX11_hold_56 : decode cX11_hold 56 = .ok (.invokevirtual 281, 3) := by decide +kernel
theorem dX11_hold_59 : decode cX11_hold 59 = .ok (.iload_n 3, 1) := by decide +kernel
theorem dX11_hold_60 : decode cX11_hold 60 = .ok (.if_icmp .lt 6, 3) := by decide +kernel
theorem dX11_hold_63 : decode cX11_hold 63 = .ok (.iload 4, 2) := by decide +kernel
theorem dX11_hold_65 : decode cX11_hold 65 = .ok (.ireturn, 1) := by decide +kernel
theorem dX11_hold_66 : decode cX11_hold 66 = .ok (.iinc 4 1, 3) := by decide +kernel
theorem dX11_hold_69 : decode cX11_hold 69 = .ok (.goto (-28), 3) := by decide +kernel
theorem dX11_hold_72 : decode cX11_hold 72 = .ok (.iconst (-1), 1) := by decide +kernel
theorem dX11_hold_73 : decode cX11_hold 73 = .ok (.ireturn, 1) := by decide +kernel
theorem dX11_asks_0 : decode cX11_asks 0 = .ok (.aload_n 0, 1) := by decide +kernel
theorem dX11_asks_1 : decode cX11_asks 1 = .ok (.iload_n 1, 1) := by decide +kernel
theorem dX11_asks_2 : decode cX11_asks 2 = .ok (.invokevirtual 136, 3) := by decide +kernel
theorem dX11_asks_5 : decode cX11_asks 5 = .ok (.ifCond .ne 6, 3) := by decide +kernel
theorem dX11_asks_8 : decode cX11_asks 8 = .ok (.bipush (-2), 2) := by decide +kernel
theorem dX11_asks_10 : decode cX11_asks 10 = .ok (.ireturn, 1) := by decide +kernel
theorem dX11_asks_11 : decode cX11_asks 11 = .ok (.aload_n 0, 1) := by decide +kernel
theorem dX11_asks_12 : decode cX11_asks 12 = .ok (.getfield 65, 3) := by decide +kernel
theorem dX11_asks_15 : decode cX11_asks 15 = .ok (.aload_n 0, 1) := by decide +kernel
theorem dX11_asks_16 : decode cX11_asks 16 = .ok (.getfield 19, 3) := by decide +kernel
theorem dX11_asks_19 : decode cX11_asks 19 = .ok (.iload_n 1, 1) := by decide +kernel
theorem dX11_asks_20 : decode cX11_asks 20 = .ok (.invokevirtual 285, 3) := by decide +kernel
theorem dX11_asks_23 : decode cX11_asks 23 = .ok (.ireturn, 1) := by decide +kernel
theorem dX11_brings_0 : decode cX11_brings 0 = .ok (.aload_n 0, 1) := by decide +kernel
theorem dX11_brings_1 : decode cX11_brings 1 = .ok (.iload_n 1, 1) := by decide +kernel
theorem dX11_brings_2 : decode cX11_brings 2 = .ok (.invokevirtual 136, 3) := by decide +kernel
theorem dX11_brings_5 : decode cX11_brings 5 = .ok (.ifCond .ne 6, 3) := by decide +kernel
theorem dX11_brings_8 : decode cX11_brings 8 = .ok (.bipush (-2), 2) := by decide +kernel
theorem dX11_brings_10 : decode cX11_brings 10 = .ok (.ireturn, 1) := by decide +kernel
theorem dX11_brings_11 : decode cX11_brings 11 = .ok (.aload_n 0, 1) := by decide +kernel
theorem dX11_brings_12 : decode cX11_brings 12 = .ok (.getfield 65, 3) := by decide +kernel
theorem dX11_brings_15 : decode cX11_brings 15 = .ok (.aload_n 0, 1) := by decide +kernel
theorem dX11_brings_16 : decode cX11_brings 16 = .ok (.getfield 19, 3) := by decide +kernel
theorem dX11_brings_19 : decode cX11_brings 19 = .ok (.iload_n 1, 1) := by decide +kernel
theorem dX11_brings_20 : decode cX11_brings 20 = .ok (.aload_n 0, 1) := by decide +kernel
theorem dX11_brings_21 : decode cX11_brings 21 = .ok (.getfield 65, 3) := by decide +kernel
theorem dX11_brings_24 : decode cX11_brings 24 = .ok (.aload_n 0, 1) := by decide +kernel
theorem dX11_brings_25 : decode cX11_brings 25 = .ok (.getfield 19, 3) := by decide +kernel
theorem dX11_brings_28 : decode cX11_brings 28 = .ok (.iload_n 1, 1) := by decide +kernel
theorem dX11_brings_29 : decode cX11_brings 29 = .ok (.invokevirtual 285, 3) := by decide +kernel
theorem dX11_brings_32 : decode cX11_brings 32 = .ok (.invokevirtual 288, 3) := by decide +kernel
theorem dX11_brings_35 : decode cX11_brings 35 = .ok (.ireturn, 1) := by decide +kernel
theorem dX11_fits_0 : decode cX11_fits 0 = .ok (.aload_n 0, 1) := by decide +kernel
theorem dX11_fits_1 : decode cX11_fits 1 = .ok (.iload_n 1, 1) := by decide +kernel
theorem dX11_fits_2 : decode cX11_fits 2 = .ok (.invokevirtual 291, 3) := by decide +kernel
theorem dX11_fits_5 : decode cX11_fits 5 = .ok (.istore_n 2, 1) := by decide +kernel
theorem dX11_fits_6 : decode cX11_fits 6 = .ok (.iload_n 2, 1) := by decide +kernel
theorem dX11_fits_7 : decode cX11_fits 7 = .ok (.ifCond .eq 5, 3) := by decide +kernel
theorem dX11_fits_10 : decode cX11_fits 10 = .ok (.iload_n 2, 1) := by decide +kernel
theorem dX11_fits_11 : decode cX11_fits 11 = .ok (.ireturn, 1) := by decide +kernel
theorem dX11_fits_12 : decode cX11_fits 12 = .ok (.aload_n 0, 1) := by decide +kernel
theorem dX11_fits_13 : decode cX11_fits 13 = .ok (.getfield 65, 3) := by decide +kernel
theorem dX11_fits_16 : decode cX11_fits 16 = .ok (.aload_n 0, 1) := by decide +kernel
theorem dX11_fits_17 : decode cX11_fits 17 = .ok (.getfield 19, 3) := by decide +kernel
theorem dX11_fits_20 : decode cX11_fits 20 = .ok (.aload_n 0, 1) := by decide +kernel
theorem dX11_fits_21 : decode cX11_fits 21 = .ok (.getfield 34, 3) := by decide +kernel
theorem dX11_fits_24 : decode cX11_fits 24 = .ok (.iload_n 1, 1) := by decide +kernel
theorem dX11_fits_25 : decode cX11_fits 25 = .ok (.invokevirtual 294, 3) := by decide +kernel
theorem dX11_fits_28 : decode cX11_fits 28 = .ok (.aload_n 0, 1) := by decide +kernel
theorem dX11_fits_29 : decode cX11_fits 29 = .ok (.getfield 65, 3) := by decide +kernel
theorem dX11_fits_32 : decode cX11_fits 32 = .ok (.getfield 298, 3) := by decide +kernel
theorem dX11_fits_35 : decode cX11_fits 35 = .ok (.ireturn, 1) := by decide +kernel
theorem dX11_held_0 : decode cX11_held 0 = .ok (.aload_n 0, 1) := by decide +kernel
theorem dX11_held_1 : decode cX11_held 1 = .ok (.iload_n 1, 1) := by decide +kernel
theorem dX11_held_2 : decode cX11_held 2 = .ok (.invokevirtual 291, 3) := by decide +kernel
theorem dX11_held_5 : decode cX11_held 5 = .ok (.istore_n 2, 1) := by decide +kernel
theorem dX11_held_6 : decode cX11_held 6 = .ok (.iload_n 2, 1) := by decide +kernel
theorem dX11_held_7 : decode cX11_held 7 = .ok (.ifCond .eq 5, 3) := by decide +kernel
theorem dX11_held_10 : decode cX11_held 10 = .ok (.iload_n 2, 1) := by decide +kernel
theorem dX11_held_11 : decode cX11_held 11 = .ok (.ireturn, 1) := by decide +kernel
theorem dX11_held_12 : decode cX11_held 12 = .ok (.aload_n 0, 1) := by decide +kernel
theorem dX11_held_13 : decode cX11_held 13 = .ok (.getfield 65, 3) := by decide +kernel
theorem dX11_held_16 : decode cX11_held 16 = .ok (.aload_n 0, 1) := by decide +kernel
theorem dX11_held_17 : decode cX11_held 17 = .ok (.getfield 19, 3) := by decide +kernel
theorem dX11_held_20 : decode cX11_held 20 = .ok (.aload_n 0, 1) := by decide +kernel
theorem dX11_held_21 : decode cX11_held 21 = .ok (.getfield 34, 3) := by decide +kernel
theorem dX11_held_24 : decode cX11_held 24 = .ok (.iload_n 1, 1) := by decide +kernel
theorem dX11_held_25 : decode cX11_held 25 = .ok (.invokevirtual 294, 3) := by decide +kernel
theorem dX11_held_28 : decode cX11_held 28 = .ok (.iconst 0, 1) := by decide +kernel
theorem dX11_held_29 : decode cX11_held 29 = .ok (.istore_n 3, 1) := by decide +kernel
theorem dX11_held_30 : decode cX11_held 30 = .ok (.iconst 0, 1) := by decide +kernel
theorem dX11_held_31 : decode cX11_held 31 = .ok (.istore 4, 2) := by decide +kernel
theorem dX11_held_33 : decode cX11_held 33 = .ok (.iload 4, 2) := by decide +kernel
theorem dX11_held_35 : decode cX11_held 35 = .ok (.aload_n 0, 1) := by decide +kernel
theorem dX11_held_36 : decode cX11_held 36 = .ok (.getfield 19, 3) := by decide +kernel
theorem dX11_held_39 : decode cX11_held 39 = .ok (.getfield 175, 3) := by decide +kernel
theorem dX11_held_42 : decode cX11_held 42 = .ok (.if_icmp .ge 29, 3) := by decide +kernel
theorem dX11_held_45 : decode cX11_held 45 = .ok (.aload_n 0, 1) := by decide +kernel
theorem dX11_held_46 : decode cX11_held 46 = .ok (.getfield 65, 3) := by decide +kernel
theorem dX11_held_49 : decode cX11_held 49 = .ok (.iload 4, 2) := by decide +kernel
theorem dX11_held_51 : decode cX11_held 51 = .ok (.invokevirtual 301, 3) := by decide +kernel
theorem dX11_held_54 : decode cX11_held 54 = .ok (.iconst (-1), 1) := by decide +kernel
theorem dX11_held_55 : decode cX11_held 55 = .ok (.if_icmp .eq 10, 3) := by decide +kernel
theorem dX11_held_58 : decode cX11_held 58 = .ok (.iload_n 3, 1) := by decide +kernel
theorem dX11_held_59 : decode cX11_held 59 = .ok (.iconst 1, 1) := by decide +kernel
theorem dX11_held_60 : decode cX11_held 60 = .ok (.iload 4, 2) := by decide +kernel
theorem dX11_held_62 : decode cX11_held 62 = .ok (.ishl, 1) := by decide +kernel
theorem dX11_held_63 : decode cX11_held 63 = .ok (.ior, 1) := by decide +kernel
theorem dX11_held_64 : decode cX11_held 64 = .ok (.istore_n 3, 1) := by decide +kernel
theorem dX11_held_65 : decode cX11_held 65 = .ok (.iinc 4 1, 3) := by decide +kernel
theorem dX11_held_68 : decode cX11_held 68 = .ok (.goto (-35), 3) := by decide +kernel
theorem dX11_held_71 : decode cX11_held 71 = .ok (.iload_n 3, 1) := by decide +kernel
theorem dX11_held_72 : decode cX11_held 72 = .ok (.ireturn, 1) := by decide +kernel
theorem dX11_fit_0 : decode cX11_fit 0 = .ok (.aload_n 0, 1) := by decide +kernel
theorem dX11_fit_1 : decode cX11_fit 1 = .ok (.iload_n 2, 1) := by decide +kernel
theorem dX11_fit_2 : decode cX11_fit 2 = .ok (.invokevirtual 136, 3) := by decide +kernel
theorem dX11_fit_5 : decode cX11_fit 5 = .ok (.ifCond .ne 6, 3) := by decide +kernel
theorem dX11_fit_8 : decode cX11_fit 8 = .ok (.bipush (-2), 2) := by decide +kernel
theorem dX11_fit_10 : decode cX11_fit 10 = .ok (.ireturn, 1) := by decide +kernel
theorem dX11_fit_11 : decode cX11_fit 11 = .ok (.aload_n 0, 1) := by decide +kernel
theorem dX11_fit_12 : decode cX11_fit 12 = .ok (.iload_n 1, 1) := by decide +kernel
theorem dX11_fit_13 : decode cX11_fit 13 = .ok (.invokevirtual 291, 3) := by decide +kernel
theorem dX11_fit_16 : decode cX11_fit 16 = .ok (.istore_n 3, 1) := by decide +kernel
theorem dX11_fit_17 : decode cX11_fit 17 = .ok (.iload_n 3, 1) := by decide +kernel
theorem dX11_fit_18 : decode cX11_fit 18 = .ok (.ifCond .eq 5, 3) := by decide +kernel
theorem dX11_fit_21 : decode cX11_fit 21 = .ok (.iload_n 3, 1) := by decide +kernel
theorem dX11_fit_22 : decode cX11_fit 22 = .ok (.ireturn, 1) := by decide +kernel
theorem dX11_fit_23 : decode cX11_fit 23 = .ok (.aload_n 0, 1) := by decide +kernel
theorem dX11_fit_24 : decode cX11_fit 24 = .ok (.getfield 65, 3) := by decide +kernel
theorem dX11_fit_27 : decode cX11_fit 27 = .ok (.aload_n 0, 1) := by decide +kernel
theorem dX11_fit_28 : decode cX11_fit 28 = .ok (.getfield 19, 3) := by decide +kernel
theorem dX11_fit_31 : decode cX11_fit 31 = .ok (.aload_n 0, 1) := by decide +kernel
theorem dX11_fit_32 : decode cX11_fit 32 = .ok (.getfield 34, 3) := by decide +kernel
theorem dX11_fit_35 : decode cX11_fit 35 = .ok (.iload_n 1, 1) := by decide +kernel
theorem dX11_fit_36 : decode cX11_fit 36 = .ok (.invokevirtual 294, 3) := by decide +kernel
theorem dX11_fit_39 : decode cX11_fit 39 = .ok (.aload_n 0, 1) := by decide +kernel
theorem dX11_fit_40 : decode cX11_fit 40 = .ok (.getfield 65, 3) := by decide +kernel
theorem dX11_fit_43 : decode cX11_fit 43 = .ok (.iload_n 2, 1) := by decide +kernel
theorem dX11_fit_44 : decode cX11_fit 44 = .ok (.invokevirtual 301, 3) := by decide +kernel
theorem dX11_fit_47 : decode cX11_fit 47 = .ok (.ireturn, 1) := by decide +kernel
theorem dX11_ask_0 : decode cX11_ask 0 = .ok (.aload_n 0, 1) := by decide +kernel
theorem dX11_ask_1 : decode cX11_ask 1 = .ok (.iload_n 1, 1) := by decide +kernel
theorem dX11_ask_2 : decode cX11_ask 2 = .ok (.invokevirtual 291, 3) := by decide +kernel
theorem dX11_ask_5 : decode cX11_ask 5 = .ok (.istore_n 2, 1) := by decide +kernel
theorem dX11_ask_6 : decode cX11_ask 6 = .ok (.iload_n 2, 1) := by decide +kernel
theorem dX11_ask_7 : decode cX11_ask 7 = .ok (.ifCond .eq 5, 3) := by decide +kernel
theorem dX11_ask_10 : decode cX11_ask 10 = .ok (.iload_n 2, 1) := by decide +kernel
theorem dX11_ask_11 : decode cX11_ask 11 = .ok (.ireturn, 1) := by decide +kernel
theorem dX11_ask_12 : decode cX11_ask 12 = .ok (.aload_n 0, 1) := by decide +kernel
theorem dX11_ask_13 : decode cX11_ask 13 = .ok (.getfield 65, 3) := by decide +kernel
theorem dX11_ask_16 : decode cX11_ask 16 = .ok (.aload_n 0, 1) := by decide +kernel
theorem dX11_ask_17 : decode cX11_ask 17 = .ok (.getfield 19, 3) := by decide +kernel
theorem dX11_ask_20 : decode cX11_ask 20 = .ok (.aload_n 0, 1) := by decide +kernel
theorem dX11_ask_21 : decode cX11_ask 21 = .ok (.getfield 34, 3) := by decide +kernel
theorem dX11_ask_24 : decode cX11_ask 24 = .ok (.iload_n 1, 1) := by decide +kernel
theorem dX11_ask_25 : decode cX11_ask 25 = .ok (.invokevirtual 294, 3) := by decide +kernel
theorem dX11_ask_28 : decode cX11_ask 28 = .ok (.aload_n 0, 1) := by decide +kernel
theorem dX11_ask_29 : decode cX11_ask 29 = .ok (.getfield 65, 3) := by decide +kernel
theorem dX11_ask_32 : decode cX11_ask 32 = .ok (.aload_n 0, 1) := by decide +kernel
theorem dX11_ask_33 : decode cX11_ask 33 = .ok (.getfield 19, 3) := by decide +kernel
theorem dX11_ask_36 : decode cX11_ask 36 = .ok (.invokevirtual 304, 3) := by decide +kernel
theorem dX11_ask_39 : decode cX11_ask 39 = .ok (.ireturn, 1) := by decide +kernel
theorem dX11_leaves_0 : decode cX11_leaves 0 = .ok (.aload_n 0, 1) := by decide +kernel
theorem dX11_leaves_1 : decode cX11_leaves 1 = .ok (.iload_n 1, 1) := by decide +kernel
theorem dX11_leaves_2 : decode cX11_leaves 2 = .ok (.invokevirtual 307, 3) := by decide +kernel
theorem dX11_leaves_5 : decode cX11_leaves 5 = .ok (.istore_n 2, 1) := by decide +kernel
theorem dX11_leaves_6 : decode cX11_leaves 6 = .ok (.iload_n 2, 1) := by decide +kernel
theorem dX11_leaves_7 : decode cX11_leaves 7 = .ok (.iconst (-1), 1) := by decide +kernel
theorem dX11_leaves_8 : decode cX11_leaves 8 = .ok (.if_icmp .ge 5, 3) := by decide +kernel
theorem dX11_leaves_11 : decode cX11_leaves 11 = .ok (.iload_n 2, 1) := by decide +kernel
theorem dX11_leaves_12 : decode cX11_leaves 12 = .ok (.ireturn, 1) := by decide +kernel
theorem dX11_leaves_13 : decode cX11_leaves 13 = .ok (.iload_n 2, 1) := by decide +kernel
theorem dX11_leaves_14 : decode cX11_leaves 14 = .ok (.iconst (-1), 1) := by decide +kernel
theorem dX11_leaves_15 : decode cX11_leaves 15 = .ok (.if_icmp .ne 13, 3) := by decide +kernel
theorem dX11_leaves_18 : decode cX11_leaves 18 = .ok (.aload_n 0, 1) := by decide +kernel
theorem dX11_leaves_19 : decode cX11_leaves 19 = .ok (.getfield 65, 3) := by decide +kernel
theorem dX11_leaves_22 : decode cX11_leaves 22 = .ok (.getfield 298, 3) := by decide +kernel
theorem dX11_leaves_25 : decode cX11_leaves 25 = .ok (.goto 15, 3) := by decide +kernel
theorem dX11_leaves_28 : decode cX11_leaves 28 = .ok (.aload_n 0, 1) := by decide +kernel
theorem dX11_leaves_29 : decode cX11_leaves 29 = .ok (.getfield 65, 3) := by decide +kernel
theorem dX11_leaves_32 : decode cX11_leaves 32 = .ok (.aload_n 0, 1) := by decide +kernel
theorem dX11_leaves_33 : decode cX11_leaves 33 = .ok (.getfield 19, 3) := by decide +kernel
theorem dX11_leaves_36 : decode cX11_leaves 36 = .ok (.iload_n 2, 1) := by decide +kernel
theorem dX11_leaves_37 : decode cX11_leaves 37 = .ok (.invokevirtual 310, 3) := by decide +kernel
theorem dX11_leaves_40 : decode cX11_leaves 40 = .ok (.ireturn, 1) := by decide +kernel
theorem dX11_place_0 : decode cX11_place 0 = .ok (.aload_n 0, 1) := by decide +kernel
theorem dX11_place_1 : decode cX11_place 1 = .ok (.invokevirtual 186, 3) := by decide +kernel
theorem dX11_place_4 : decode cX11_place 4 = .ok (.ifCond .ne 10, 3) := by decide +kernel
theorem dX11_place_7 : decode cX11_place 7 = .ok (.iload_n 1, 1) := by decide +kernel
theorem dX11_place_8 : decode cX11_place 8 = .ok (.invokestatic 313, 3) := by decide +kernel
theorem dX11_place_11 : decode cX11_place 11 = .ok (.ifCond .ne 6, 3) := by decide +kernel
theorem dX11_place_14 : decode cX11_place 14 = .ok (.bipush (-2), 2) := by decide +kernel
theorem dX11_place_16 : decode cX11_place 16 = .ok (.ireturn, 1) := by decide +kernel
theorem dX11_place_17 : decode cX11_place 17 = .ok (.aload_n 0, 1) := by decide +kernel
theorem dX11_place_18 : decode cX11_place 18 = .ok (.getfield 72, 3) := by decide +kernel
theorem dX11_place_21 : decode cX11_place 21 = .ok (.aload_n 0, 1) := by decide +kernel
theorem dX11_place_22 : decode cX11_place 22 = .ok (.getfield 19, 3) := by decide +kernel
theorem dX11_place_25 : decode cX11_place 25 = .ok (.iload_n 1, 1) := by decide +kernel
theorem dX11_place_26 : decode cX11_place 26 = .ok (.invokevirtual 316, 3) := by decide +kernel
theorem dX11_place_29 : decode cX11_place 29 = .ok (.aload_n 0, 1) := by decide +kernel
theorem dX11_place_30 : decode cX11_place 30 = .ok (.getfield 72, 3) := by decide +kernel
theorem dX11_place_33 : decode cX11_place 33 = .ok (.getfield 319, 3) := by decide +kernel
theorem dX11_place_36 : decode cX11_place 36 = .ok (.invokestatic 170, 3) := by decide +kernel
theorem dX11_place_39 : decode cX11_place 39 = .ok (.ireturn, 1) := by decide +kernel
theorem dX11_places_0 : decode cX11_places 0 = .ok (.aload_n 0, 1) := by decide +kernel
theorem dX11_places_1 : decode cX11_places 1 = .ok (.invokevirtual 186, 3) := by decide +kernel
theorem dX11_places_4 : decode cX11_places 4 = .ok (.ifCond .ne 10, 3) := by decide +kernel
theorem dX11_places_7 : decode cX11_places 7 = .ok (.iload_n 1, 1) := by decide +kernel
theorem dX11_places_8 : decode cX11_places 8 = .ok (.invokestatic 313, 3) := by decide +kernel
theorem dX11_places_11 : decode cX11_places 11 = .ok (.ifCond .ne 6, 3) := by decide +kernel
theorem dX11_places_14 : decode cX11_places 14 = .ok (.bipush (-2), 2) := by decide +kernel
theorem dX11_places_16 : decode cX11_places 16 = .ok (.ireturn, 1) := by decide +kernel
theorem dX11_places_17 : decode cX11_places 17 = .ok (.aload_n 0, 1) := by decide +kernel
theorem dX11_places_18 : decode cX11_places 18 = .ok (.getfield 72, 3) := by decide +kernel
theorem dX11_places_21 : decode cX11_places 21 = .ok (.aload_n 0, 1) := by decide +kernel
theorem dX11_places_22 : decode cX11_places 22 = .ok (.getfield 19, 3) := by decide +kernel
theorem dX11_places_25 : decode cX11_places 25 = .ok (.iload_n 1, 1) := by decide +kernel
theorem dX11_places_26 : decode cX11_places 26 = .ok (.invokevirtual 316, 3) := by decide +kernel
theorem dX11_places_29 : decode cX11_places 29 = .ok (.aload_n 0, 1) := by decide +kernel
theorem dX11_places_30 : decode cX11_places 30 = .ok (.getfield 72, 3) := by decide +kernel
theorem dX11_places_33 : decode cX11_places 33 = .ok (.getfield 322, 3) := by decide +kernel
theorem dX11_places_36 : decode cX11_places 36 = .ok (.ireturn, 1) := by decide +kernel
theorem dX11_soon_0 : decode cX11_soon 0 = .ok (.aload_n 0, 1) := by decide +kernel
theorem dX11_soon_1 : decode cX11_soon 1 = .ok (.invokevirtual 186, 3) := by decide +kernel
theorem dX11_soon_4 : decode cX11_soon 4 = .ok (.ifCond .ne 10, 3) := by decide +kernel
theorem dX11_soon_7 : decode cX11_soon 7 = .ok (.iload_n 1, 1) := by decide +kernel
theorem dX11_soon_8 : decode cX11_soon 8 = .ok (.invokestatic 313, 3) := by decide +kernel
theorem dX11_soon_11 : decode cX11_soon 11 = .ok (.ifCond .ne 6, 3) := by decide +kernel
theorem dX11_soon_14 : decode cX11_soon 14 = .ok (.bipush (-2), 2) := by decide +kernel
theorem dX11_soon_16 : decode cX11_soon 16 = .ok (.ireturn, 1) := by decide +kernel
theorem dX11_soon_17 : decode cX11_soon 17 = .ok (.aload_n 0, 1) := by decide +kernel
theorem dX11_soon_18 : decode cX11_soon 18 = .ok (.getfield 72, 3) := by decide +kernel
theorem dX11_soon_21 : decode cX11_soon 21 = .ok (.aload_n 0, 1) := by decide +kernel
theorem dX11_soon_22 : decode cX11_soon 22 = .ok (.getfield 19, 3) := by decide +kernel
theorem dX11_soon_25 : decode cX11_soon 25 = .ok (.iload_n 1, 1) := by decide +kernel
theorem dX11_soon_26 : decode cX11_soon 26 = .ok (.invokevirtual 316, 3) := by decide +kernel
theorem dX11_soon_29 : decode cX11_soon 29 = .ok (.aload_n 0, 1) := by decide +kernel
theorem dX11_soon_30 : decode cX11_soon 30 = .ok (.getfield 72, 3) := by decide +kernel
theorem dX11_soon_33 : decode cX11_soon 33 = .ok (.getfield 325, 3) := by decide +kernel
theorem dX11_soon_36 : decode cX11_soon 36 = .ok (.invokestatic 170, 3) := by decide +kernel
theorem dX11_soon_39 : decode cX11_soon 39 = .ok (.ireturn, 1) := by decide +kernel
theorem dX11_carts_0 : decode cX11_carts 0 = .ok (.aload_n 0, 1) := by decide +kernel
theorem dX11_carts_1 : decode cX11_carts 1 = .ok (.invokevirtual 186, 3) := by decide +kernel
theorem dX11_carts_4 : decode cX11_carts 4 = .ok (.ifCond .ne 10, 3) := by decide +kernel
theorem dX11_carts_7 : decode cX11_carts 7 = .ok (.iload_n 1, 1) := by decide +kernel
theorem dX11_carts_8 : decode cX11_carts 8 = .ok (.invokestatic 328, 3) := by decide +kernel
theorem dX11_carts_11 : decode cX11_carts 11 = .ok (.ifCond .ne 6, 3) := by decide +kernel
theorem dX11_carts_14 : decode cX11_carts 14 = .ok (.bipush (-2), 2) := by decide +kernel
theorem dX11_carts_16 : decode cX11_carts 16 = .ok (.ireturn, 1) := by decide +kernel
theorem dX11_carts_17 : decode cX11_carts 17 = .ok (.aload_n 0, 1) := by decide +kernel
theorem dX11_carts_18 : decode cX11_carts 18 = .ok (.getfield 79, 3) := by decide +kernel
theorem dX11_carts_21 : decode cX11_carts 21 = .ok (.aload_n 0, 1) := by decide +kernel
theorem dX11_carts_22 : decode cX11_carts 22 = .ok (.getfield 19, 3) := by decide +kernel
theorem dX11_carts_25 : decode cX11_carts 25 = .ok (.iload_n 1, 1) := by decide +kernel
theorem dX11_carts_26 : decode cX11_carts 26 = .ok (.invokevirtual 331, 3) := by decide +kernel
theorem dX11_carts_29 : decode cX11_carts 29 = .ok (.ireturn, 1) := by decide +kernel
theorem dX11_cart_0 : decode cX11_cart 0 = .ok (.aload_n 0, 1) := by decide +kernel
theorem dX11_cart_1 : decode cX11_cart 1 = .ok (.invokevirtual 186, 3) := by decide +kernel
theorem dX11_cart_4 : decode cX11_cart 4 = .ok (.ifCond .ne 10, 3) := by decide +kernel
theorem dX11_cart_7 : decode cX11_cart 7 = .ok (.iload_n 1, 1) := by decide +kernel
theorem dX11_cart_8 : decode cX11_cart 8 = .ok (.invokestatic 328, 3) := by decide +kernel
theorem dX11_cart_11 : decode cX11_cart 11 = .ok (.ifCond .ne 6, 3) := by decide +kernel
theorem dX11_cart_14 : decode cX11_cart 14 = .ok (.bipush (-2), 2) := by decide +kernel
theorem dX11_cart_16 : decode cX11_cart 16 = .ok (.ireturn, 1) := by decide +kernel
theorem dX11_cart_17 : decode cX11_cart 17 = .ok (.aload_n 0, 1) := by decide +kernel
theorem dX11_cart_18 : decode cX11_cart 18 = .ok (.getfield 79, 3) := by decide +kernel
theorem dX11_cart_21 : decode cX11_cart 21 = .ok (.aload_n 0, 1) := by decide +kernel
theorem dX11_cart_22 : decode cX11_cart 22 = .ok (.getfield 19, 3) := by decide +kernel
theorem dX11_cart_25 : decode cX11_cart 25 = .ok (.iload_n 1, 1) := by decide +kernel
theorem dX11_cart_26 : decode cX11_cart 26 = .ok (.invokevirtual 331, 3) := by decide +kernel
theorem dX11_cart_29 : decode cX11_cart 29 = .ok (.istore_n 3, 1) := by decide +kernel
theorem dX11_cart_30 : decode cX11_cart 30 = .ok (.iload_n 2, 1) := by decide +kernel
theorem dX11_cart_31 : decode cX11_cart 31 = .ok (.ifCond .lt 8, 3) := by decide +kernel
theorem dX11_cart_34 : decode cX11_cart 34 = .ok (.iload_n 2, 1) := by decide +kernel
theorem dX11_cart_35 : decode cX11_cart 35 = .ok (.iload_n 3, 1) := by decide +kernel
theorem dX11_cart_36 : decode cX11_cart 36 = .ok (.if_icmp .lt 7, 3) := by decide +kernel
theorem dX11_cart_39 : decode cX11_cart 39 = .ok (.iconst (-1), 1) := by decide +kernel
theorem dX11_cart_40 : decode cX11_cart 40 = .ok (.goto 15, 3) := by decide +kernel
theorem dX11_cart_43 : decode cX11_cart 43 = .ok (.aload_n 0, 1) := by decide +kernel
theorem dX11_cart_44 : decode cX11_cart 44 = .ok (.getfield 79, 3) := by decide +kernel
theorem dX11_cart_47 : decode cX11_cart 47 = .ok (.aload_n 0, 1) := by decide +kernel
theorem dX11_cart_48 : decode cX11_cart 48 = .ok (.getfield 19, 3) := by decide +kernel
theorem dX11_cart_51 : decode cX11_cart 51 = .ok (.iload_n 2, 1) := by decide +kernel
theorem dX11_cart_52 : decode cX11_cart 52 = .ok (.invokevirtual 334, 3) := by decide +kernel
theorem dX11_cart_55 : decode cX11_cart 55 = .ok (.ireturn, 1) := by decide +kernel
theorem dX11_wins_0 : decode cX11_wins 0 = .ok (.aload_n 0, 1) := by decide +kernel
theorem dX11_wins_1 : decode cX11_wins 1 = .ok (.invokevirtual 186, 3) := by decide +kernel
theorem dX11_wins_4 : decode cX11_wins 4 = .ok (.ifCond .eq 8, 3) := by decide +kernel
theorem dX11_wins_7 : decode cX11_wins 7 = .ok (.bipush (-2), 2) := by decide +kernel
theorem dX11_wins_9 : decode cX11_wins 9 = .ok (.goto 11, 3) := by decide +kernel
theorem dX11_wins_12 : decode cX11_wins 12 = .ok (.aload_n 0, 1) := by decide +kernel
theorem dX11_wins_13 : decode cX11_wins 13 = .ok (.getfield 19, 3) := by decide +kernel
theorem dX11_wins_16 : decode cX11_wins 16 = .ok (.iconst (-1), 1) := by decide +kernel
theorem dX11_wins_17 : decode cX11_wins 17 = .ok (.invokevirtual 337, 3) := by decide +kernel
theorem dX11_wins_20 : decode cX11_wins 20 = .ok (.ireturn, 1) := by decide +kernel
theorem dX11_price_0 : decode cX11_price 0 = .ok (.aload_n 0, 1) := by decide +kernel
theorem dX11_price_1 : decode cX11_price 1 = .ok (.invokevirtual 186, 3) := by decide +kernel
theorem dX11_price_4 : decode cX11_price 4 = .ok (.ifCond .eq 6, 3) := by decide +kernel
theorem dX11_price_7 : decode cX11_price 7 = .ok (.bipush (-2), 2) := by decide +kernel
theorem dX11_price_9 : decode cX11_price 9 = .ok (.ireturn, 1) := by decide +kernel
theorem dX11_price_10 : decode cX11_price 10 = .ok (.aload_n 0, 1) := by decide +kernel
theorem dX11_price_11 : decode cX11_price 11 = .ok (.getfield 19, 3) := by decide +kernel
theorem dX11_price_14 : decode cX11_price 14 = .ok (.iconst (-1), 1) := by decide +kernel
theorem dX11_price_15 : decode cX11_price 15 = .ok (.invokevirtual 337, 3) := by decide +kernel
theorem dX11_price_18 : decode cX11_price 18 = .ok (.istore_n 1, 1) := by decide +kernel
theorem dX11_price_19 : decode cX11_price 19 = .ok (.iload_n 1, 1) := by decide +kernel
theorem dX11_price_20 : decode cX11_price 20 = .ok (.iconst (-1), 1) := by decide +kernel
theorem dX11_price_21 : decode cX11_price 21 = .ok (.if_icmp .ne 5, 3) := by decide +kernel
theorem dX11_price_24 : decode cX11_price 24 = .ok (.iconst (-1), 1) := by decide +kernel
theorem dX11_price_25 : decode cX11_price 25 = .ok (.ireturn, 1) := by decide +kernel
theorem dX11_price_26 : decode cX11_price 26 = .ok (.aload_n 0, 1) := by decide +kernel
theorem dX11_price_27 : decode cX11_price 27 = .ok (.getfield 19, 3) := by decide +kernel
theorem dX11_price_30 : decode cX11_price 30 = .ok (.iload_n 1, 1) := by decide +kernel
theorem dX11_price_31 : decode cX11_price 31 = .ok (.invokevirtual 337, 3) := by decide +kernel
theorem dX11_price_34 : decode cX11_price 34 = .ok (.istore_n 2, 1) := by decide +kernel
theorem dX11_price_35 : decode cX11_price 35 = .ok (.aload_n 0, 1) := by decide +kernel
theorem dX11_price_36 : decode cX11_price 36 = .ok (.iload_n 2, 1) := by decide +kernel
theorem dX11_price_37 : decode cX11_price 37 = .ok (.invokevirtual 145, 3) := by decide +kernel
theorem dX11_price_40 : decode cX11_price 40 = .ok (.ifCond .eq 15, 3) := by decide +kernel
theorem dX11_price_43 : decode cX11_price 43 = .ok (.aload_n 0, 1) := by decide +kernel
theorem dX11_price_44 : decode cX11_price 44 = .ok (.getfield 19, 3) := by decide +kernel
theorem dX11_price_47 : decode cX11_price 47 = .ok (.getfield 154, 3) := by decide +kernel
theorem dX11_price_50 : decode cX11_price 50 = .ok (.iload_n 2, 1) := by decide +kernel
theorem dX11_price_51 : decode cX11_price 51 = .ok (.iaload, 1) := by decide +kernel
theorem dX11_price_52 : decode cX11_price 52 = .ok (.goto 4, 3) := by decide +kernel
theorem dX11_price_55 : decode cX11_price 55 = .ok (.iconst 0, 1) := by decide +kernel
theorem dX11_price_56 : decode cX11_price 56 = .ok (.ireturn, 1) := by decide +kernel
theorem dX11_rests_0 : decode cX11_rests 0 = .ok (.aload_n 0, 1) := by decide +kernel
theorem dX11_rests_1 : decode cX11_rests 1 = .ok (.invokevirtual 186, 3) := by decide +kernel
theorem dX11_rests_4 : decode cX11_rests 4 = .ok (.ifCond .eq 6, 3) := by decide +kernel
theorem dX11_rests_7 : decode cX11_rests 7 = .ok (.bipush (-2), 2) := by decide +kernel
theorem dX11_rests_9 : decode cX11_rests 9 = .ok (.ireturn, 1) := by decide +kernel
theorem dX11_rests_10 : decode cX11_rests 10 = .ok (.aload_n 0, 1) := by decide +kernel
theorem dX11_rests_11 : decode cX11_rests 11 = .ok (.getfield 58, 3) := by decide +kernel
theorem dX11_rests_14 : decode cX11_rests 14 = .ok (.aload_n 0, 1) := by decide +kernel
theorem dX11_rests_15 : decode cX11_rests 15 = .ok (.getfield 19, 3) := by decide +kernel
theorem dX11_rests_18 : decode cX11_rests 18 = .ok (.invokevirtual 340, 3) := by decide +kernel
theorem dX11_rests_21 : decode cX11_rests 21 = .ok (.aload_n 0, 1) := by decide +kernel
theorem dX11_rests_22 : decode cX11_rests 22 = .ok (.getfield 58, 3) := by decide +kernel
theorem dX11_rests_25 : decode cX11_rests 25 = .ok (.aload_n 0, 1) := by decide +kernel
theorem dX11_rests_26 : decode cX11_rests 26 = .ok (.getfield 19, 3) := by decide +kernel
theorem dX11_rests_29 : decode cX11_rests 29 = .ok (.invokevirtual 343, 3) := by decide +kernel
theorem dX11_rests_32 : decode cX11_rests 32 = .ok (.ireturn, 1) := by decide +kernel
theorem dX11_clerk_0 : decode cX11_clerk 0 = .ok (.aload_n 0, 1) := by decide +kernel
theorem dX11_clerk_1 : decode cX11_clerk 1 = .ok (.invokevirtual 186, 3) := by decide +kernel
theorem dX11_clerk_4 : decode cX11_clerk 4 = .ok (.ifCond .eq 6, 3) := by decide +kernel
theorem dX11_clerk_7 : decode cX11_clerk 7 = .ok (.bipush (-2), 2) := by decide +kernel
theorem dX11_clerk_9 : decode cX11_clerk 9 = .ok (.ireturn, 1) := by decide +kernel
theorem dX11_clerk_10 : decode cX11_clerk 10 = .ok (.aload_n 0, 1) := by decide +kernel
theorem dX11_clerk_11 : decode cX11_clerk 11 = .ok (.getfield 58, 3) := by decide +kernel
theorem dX11_clerk_14 : decode cX11_clerk 14 = .ok (.aload_n 0, 1) := by decide +kernel
theorem dX11_clerk_15 : decode cX11_clerk 15 = .ok (.getfield 19, 3) := by decide +kernel
theorem dX11_clerk_18 : decode cX11_clerk 18 = .ok (.invokevirtual 340, 3) := by decide +kernel
theorem dX11_clerk_21 : decode cX11_clerk 21 = .ok (.aload_n 0, 1) := by decide +kernel
theorem dX11_clerk_22 : decode cX11_clerk 22 = .ok (.getfield 58, 3) := by decide +kernel
theorem dX11_clerk_25 : decode cX11_clerk 25 = .ok (.aload_n 0, 1) := by decide +kernel
theorem dX11_clerk_26 : decode cX11_clerk 26 = .ok (.getfield 19, 3) := by decide +kernel
theorem dX11_clerk_29 : decode cX11_clerk 29 = .ok (.invokevirtual 346, 3) := by decide +kernel
theorem dX11_clerk_32 : decode cX11_clerk 32 = .ok (.ireturn, 1) := by decide +kernel
theorem dX11_chance_0 : decode cX11_chance 0 = .ok (.aload_n 0, 1) := by decide +kernel
theorem dX11_chance_1 : decode cX11_chance 1 = .ok (.iload_n 1, 1) := by decide +kernel
theorem dX11_chance_2 : decode cX11_chance 2 = .ok (.invokevirtual 160, 3) := by decide +kernel
theorem dX11_chance_5 : decode cX11_chance 5 = .ok (.ifCond .eq 19, 3) := by decide +kernel
theorem dX11_chance_8 : decode cX11_chance 8 = .ok (.iload_n 2, 1) := by decide +kernel
theorem dX11_chance_9 : decode cX11_chance 9 = .ok (.invokestatic 189, 3) := by decide +kernel
theorem dX11_chance_12 : decode cX11_chance 12 = .ok (.ifCond .eq 12, 3) := by decide +kernel
theorem dX11_chance_15 : decode cX11_chance 15 = .ok (.iload_n 3, 1) := by decide +kernel
theorem dX11_chance_16 : decode cX11_chance 16 = .ok (.ifCond .lt 8, 3) := by decide +kernel
theorem dX11_chance_19 : decode cX11_chance 19 = .ok (.iload_n 3, 1) := by decide +kernel
theorem dX11_chance_20 : decode cX11_chance 20 = .ok (.iconst 1, 1) := by decide +kernel
theorem dX11_chance_21 : decode cX11_chance 21 = .ok (.if_icmp .le 7, 3) := by decide +kernel
theorem dX11_chance_24 : decode cX11_chance 24 = .ok (.ldc2_w 349, 3) := by decide +kernel
theorem dX11_chance_27 : decode cX11_chance 27 = .ok (.lreturn, 1) := by decide +kernel
theorem dX11_chance_28 : decode cX11_chance 28 = .ok (.aload_n 0, 1) := by decide +kernel
theorem dX11_chance_29 : decode cX11_chance 29 = .ok (.getfield 86, 3) := by decide +kernel
theorem dX11_chance_32 : decode cX11_chance 32 = .ok (.aload_n 0, 1) := by decide +kernel
theorem dX11_chance_33 : decode cX11_chance 33 = .ok (.getfield 19, 3) := by decide +kernel
theorem dX11_chance_36 : decode cX11_chance 36 = .ok (.iload_n 1, 1) := by decide +kernel
theorem dX11_chance_37 : decode cX11_chance 37 = .ok (.invokevirtual 351, 3) := by decide +kernel
theorem dX11_chance_40 : decode cX11_chance 40 = .ok (.aload_n 0, 1) := by decide +kernel
theorem dX11_chance_41 : decode cX11_chance 41 = .ok (.getfield 86, 3) := by decide +kernel
theorem dX11_chance_44 : decode cX11_chance 44 = .ok (.iload_n 2, 1) := by decide +kernel
theorem dX11_chance_45 : decode cX11_chance 45 = .ok (.iload_n 3, 1) := by decide +kernel
theorem dX11_chance_46 : decode cX11_chance 46 = .ok (.iconst 1, 1) := by decide +kernel
theorem dX11_chance_47 : decode cX11_chance 47 = .ok (.if_icmp .ne 7, 3) := by decide +kernel
theorem dX11_chance_50 : decode cX11_chance 50 = .ok (.iconst 1, 1) := by decide +kernel
theorem dX11_chance_51 : decode cX11_chance 51 = .ok (.goto 4, 3) := by decide +kernel
theorem dX11_chance_54 : decode cX11_chance 54 = .ok (.iconst 0, 1) := by decide +kernel
theorem dX11_chance_55 : decode cX11_chance 55 = .ok (.invokevirtual 354, 3) := by decide +kernel
theorem dX11_chance_58 : decode cX11_chance 58 = .ok (.lreturn, 1) := by decide +kernel
theorem dX11_sure_0 : decode cX11_sure 0 = .ok (.aload_n 0, 1) := by decide +kernel
theorem dX11_sure_1 : decode cX11_sure 1 = .ok (.iload_n 1, 1) := by decide +kernel
theorem dX11_sure_2 : decode cX11_sure 2 = .ok (.invokevirtual 160, 3) := by decide +kernel
theorem dX11_sure_5 : decode cX11_sure 5 = .ok (.ifCond .eq 13, 3) := by decide +kernel
theorem dX11_sure_8 : decode cX11_sure 8 = .ok (.iload_n 2, 1) := by decide +kernel
theorem dX11_sure_9 : decode cX11_sure 9 = .ok (.ifCond .lt 9, 3) := by decide +kernel
theorem dX11_sure_12 : decode cX11_sure 12 = .ok (.iload_n 2, 1) := by decide +kernel
theorem dX11_sure_13 : decode cX11_sure 13 = .ok (.bipush 100, 2) := by decide +kernel
theorem dX11_sure_15 : decode cX11_sure 15 = .ok (.if_icmp .le 6, 3) := by decide +kernel
theorem dX11_sure_18 : decode cX11_sure 18 = .ok (.bipush (-2), 2) := by decide +kernel
theorem dX11_sure_20 : decode cX11_sure 20 = .ok (.ireturn, 1) := by decide +kernel
theorem dX11_sure_21 : decode cX11_sure 21 = .ok (.aload_n 0, 1) := by decide +kernel
theorem dX11_sure_22 : decode cX11_sure 22 = .ok (.getfield 86, 3) := by decide +kernel
theorem dX11_sure_25 : decode cX11_sure 25 = .ok (.aload_n 0, 1) := by decide +kernel
theorem dX11_sure_26 : decode cX11_sure 26 = .ok (.getfield 19, 3) := by decide +kernel
theorem dX11_sure_29 : decode cX11_sure 29 = .ok (.iload_n 1, 1) := by decide +kernel
theorem dX11_sure_30 : decode cX11_sure 30 = .ok (.invokevirtual 351, 3) := by decide +kernel
theorem dX11_sure_33 : decode cX11_sure 33 = .ok (.aload_n 0, 1) := by decide +kernel
theorem dX11_sure_34 : decode cX11_sure 34 = .ok (.getfield 86, 3) := by decide +kernel
theorem dX11_sure_37 : decode cX11_sure 37 = .ok (.iload_n 2, 1) := by decide +kernel
theorem dX11_sure_38 : decode cX11_sure 38 = .ok (.invokevirtual 358, 3) := by decide +kernel
theorem dX11_sure_41 : decode cX11_sure 41 = .ok (.ireturn, 1) := by decide +kernel
theorem dX11_bar_0 : decode cX11_bar 0 = .ok (.aload_n 0, 1) := by decide +kernel
theorem dX11_bar_1 : decode cX11_bar 1 = .ok (.iload_n 1, 1) := by decide +kernel
theorem dX11_bar_2 : decode cX11_bar 2 = .ok (.invokevirtual 116, 3) := by decide +kernel
theorem dX11_bar_5 : decode cX11_bar 5 = .ok (.ifCond .eq 12, 3) := by decide +kernel
theorem dX11_bar_8 : decode cX11_bar 8 = .ok (.iload_n 2, 1) := by decide +kernel
theorem dX11_bar_9 : decode cX11_bar 9 = .ok (.ifCond .lt 8, 3) := by decide +kernel
theorem dX11_bar_12 : decode cX11_bar 12 = .ok (.iload_n 2, 1) := by decide +kernel
theorem dX11_bar_13 : decode cX11_bar 13 = .ok (.iconst 1, 1) := by decide +kernel
