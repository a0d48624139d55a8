theorem dX9_init_4 : decode cX9_init 4 = .ok (.aload_n 0, 1) := by decide +kernel
theorem dX9_init_40 : decode cX9_init 40 = .ok (.iconst 0, 1) := by decide +kernel
theorem dX9_init_41 : decode cX9_init 41 = .ok (.putfield 32, 3) := by decide +kernel
theorem dX9_init_44 : decode cX9_init 44 = .ok (.aload_n 0, 1) := by decide +kernel
theorem dX9_init_45 : decode cX9_init 45 = .ok (.iconst 0, 1) := by decide +kernel
theorem dX9_init_46 : decode cX9_init 46 = .ok (.putfield 35, 3) := by decide +kernel
theorem dX9_init_49 : decode cX9_init 49 = .ok (.aload_n 0, 1) := by decide +kernel
theorem dX9_init_5 : decode cX9_init 5 = .ok (.iconst 0, 1) := by decide +kernel
theorem dX9_init_50 : decode cX9_init 50 = .ok (.iconst 0, 1) := by decide +kernel
theorem dX9_init_51 : decode cX9_init 51 = .ok (.putfield 38, 3) := by decide +kernel
theorem dX9_init_54 : decode cX9_init 54 = .ok (.aload_n 0, 1) := by decide +kernel
theorem dX9_init_55 : decode cX9_init 55 = .ok (.iconst 0, 1) := by decide +kernel
theorem dX9_init_56 : decode cX9_init 56 = .ok (.putfield 41, 3) := by decide +kernel
theorem dX9_init_59 : decode cX9_init 59 = .ok (.return_, 1) := by decide +kernel
theorem dX9_init_6 : decode cX9_init 6 = .ok (.putfield 9, 3) := by decide +kernel
theorem dX9_init_9 : decode cX9_init 9 = .ok (.aload_n 0, 1) := by decide +kernel
theorem dX9_reads_0 : decode cX9_reads 0 = .ok (.aload_n 0, 1) := by decide +kernel
theorem dX9_reads_1 : decode cX9_reads 1 = .ok (.getfield 24, 3) := by decide +kernel
theorem dX9_reads_12 : decode cX9_reads 12 = .ok (.aload_n 0, 1) := by decide +kernel
theorem dX9_reads_13 : decode cX9_reads 13 = .ok (.iconst (-1), 1) := by decide +kernel
theorem dX9_reads_14 : decode cX9_reads 14 = .ok (.putfield 18, 3) := by decide +kernel
theorem dX9_reads_17 : decode cX9_reads 17 = .ok (.aload_n 0, 1) := by decide +kernel
theorem dX9_reads_18 : decode cX9_reads 18 = .ok (.iconst 0, 1) := by decide +kernel
theorem dX9_reads_19 : decode cX9_reads 19 = .ok (.putfield 38, 3) := by decide +kernel
theorem dX9_reads_22 : decode cX9_reads 22 = .ok (.iconst 0, 1) := by decide +kernel
theorem dX9_reads_23 : decode cX9_reads 23 = .ok (.istore_n 1, 1) := by decide +kernel
theorem dX9_reads_24 : decode cX9_reads 24 = .ok (.iload_n 1, 1) := by decide +kernel
theorem dX9_reads_25 : decode cX9_reads 25 = .ok (.sipush 1000, 3) := by decide +kernel
theorem dX9_reads_28 : decode cX9_reads 28 = .ok (.if_icmp .gt 44, 3) := by decide +kernel
theorem dX9_reads_31 : decode cX9_reads 31 = .ok (.aload_n 0, 1) := by decide +kernel
theorem dX9_reads_32 : decode cX9_reads 32 = .ok (.invokevirtual 47, 3) := by decide +kernel
theorem dX9_reads_35 : decode cX9_reads 35 = .ok (.aload_n 0, 1) := by decide +kernel
theorem dX9_reads_36 : decode cX9_reads 36 = .ok (.getfield 32, 3) := by decide +kernel
theorem dX9_reads_39 : decode cX9_reads 39 = .ok (.ifCond .ne 5, 3) := by decide +kernel
theorem dX9_reads_4 : decode cX9_reads 4 = .ok (.invokevirtual 44, 3) := by decide +kernel
theorem dX9_reads_42 : decode cX9_reads 42 = .ok (.iconst 1, 1) := by decide +kernel
theorem dX9_reads_43 : decode cX9_reads 43 = .ok (.ireturn, 1) := by decide +kernel
theorem dX9_reads_7 : decode cX9_reads 7 = .ok (.aload_n 0, 1) := by decide +kernel
theorem dX9_reads_8 : decode cX9_reads 8 = .ok (.iconst 0, 1) := by decide +kernel
theorem dX9_reads_9 : decode cX9_reads 9 = .ok (.putfield 15, 3) := by decide +kernel
