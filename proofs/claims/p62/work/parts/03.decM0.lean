theorem dX0_init_0 : decode cX0_init 0 = .ok (.aload_n 0, 1) := by decide +kernel
theorem dX0_init_1 : decode cX0_init 1 = .ok (.invokespecial 3, 3) := by decide +kernel
theorem dX0_init_4 : decode cX0_init 4 = .ok (.aload_n 0, 1) := by decide +kernel
theorem dX0_init_5 : decode cX0_init 5 = .ok (.iconst 0, 1) := by decide +kernel
theorem dX0_init_6 : decode cX0_init 6 = .ok (.putfield 9, 3) := by decide +kernel
theorem dX0_init_9 : decode cX0_init 9 = .ok (.aload_n 0, 1) := by decide +kernel
theorem dX0_init_10 : decode cX0_init 10 = .ok (.bipush 40, 2) := by decide +kernel
theorem dX0_init_12 : decode cX0_init 12 = .ok (.newarray .int, 2) := by decide +kernel
theorem dX0_init_14 : decode cX0_init 14 = .ok (.putfield 15, 3) := by decide +kernel
theorem dX0_init_17 : decode cX0_init 17 = .ok (.aload_n 0, 1) := by decide +kernel
theorem dX0_init_18 : decode cX0_init 18 = .ok (.bipush 40, 2) := by decide +kernel
theorem dX0_init_20 : decode cX0_init 20 = .ok (.newarray .int, 2) := by decide +kernel
theorem dX0_init_22 : decode cX0_init 22 = .ok (.putfield 19, 3) := by decide +kernel
theorem dX0_init_25 : decode cX0_init 25 = .ok (.aload_n 0, 1) := by decide +kernel
theorem dX0_init_26 : decode cX0_init 26 = .ok (.bipush 40, 2) := by decide +kernel
theorem dX0_init_28 : decode cX0_init 28 = .ok (.newarray .int, 2) := by decide +kernel
theorem dX0_init_30 : decode cX0_init 30 = .ok (.putfield 22, 3) := by decide +kernel
theorem dX0_init_33 : decode cX0_init 33 = .ok (.return_, 1) := by decide +kernel
theorem dX0_keep_0 : decode cX0_keep 0 = .ok (.aload_n 0, 1) := by decide +kernel
theorem dX0_keep_1 : decode cX0_keep 1 = .ok (.getfield 9, 3) := by decide +kernel
theorem dX0_keep_4 : decode cX0_keep 4 = .ok (.bipush 40, 2) := by decide +kernel
theorem dX0_keep_6 : decode cX0_keep 6 = .ok (.if_icmp .ge 43, 3) := by decide +kernel
theorem dX0_keep_9 : decode cX0_keep 9 = .ok (.aload_n 0, 1) := by decide +kernel
theorem dX0_keep_10 : decode cX0_keep 10 = .ok (.getfield 15, 3) := by decide +kernel
theorem dX0_keep_13 : decode cX0_keep 13 = .ok (.aload_n 0, 1) := by decide +kernel
theorem dX0_keep_14 : decode cX0_keep 14 = .ok (.getfield 9, 3) := by decide +kernel
theorem dX0_keep_17 : decode cX0_keep 17 = .ok (.iload_n 1, 1) := by decide +kernel
theorem dX0_keep_18 : decode cX0_keep 18 = .ok (.iastore, 1) := by decide +kernel
theorem dX0_keep_19 : decode cX0_keep 19 = .ok (.aload_n 0, 1) := by decide +kernel
theorem dX0_keep_20 : decode cX0_keep 20 = .ok (.getfield 19, 3) := by decide +kernel
theorem dX0_keep_23 : decode cX0_keep 23 = .ok (.aload_n 0, 1) := by decide +kernel
theorem dX0_keep_24 : decode cX0_keep 24 = .ok (.getfield 9, 3) := by decide +kernel
theorem dX0_keep_27 : decode cX0_keep 27 = .ok (.iload_n 2, 1) := by decide +kernel
theorem dX0_keep_28 : decode cX0_keep 28 = .ok (.iastore, 1) := by decide +kernel
theorem dX0_keep_29 : decode cX0_keep 29 = .ok (.aload_n 0, 1) := by decide +kernel
theorem dX0_keep_30 : decode cX0_keep 30 = .ok (.getfield 22, 3) := by decide +kernel
theorem dX0_keep_33 : decode cX0_keep 33 = .ok (.aload_n 0, 1) := by decide +kernel
theorem dX0_keep_34 : decode cX0_keep 34 = .ok (.getfield 9, 3) := by decide +kernel
theorem dX0_keep_37 : decode cX0_keep 37 = .ok (.iload_n 3, 1) := by decide +kernel
theorem dX0_keep_38 : decode cX0_keep 38 = .ok (.iastore, 1) := by decide +kernel
theorem dX0_keep_39 : decode cX0_keep 39 = .ok (.aload_n 0, 1) := by decide +kernel
theorem dX0_keep_40 : decode cX0_keep 40 = .ok (.dup, 1) := by decide +kernel
theorem dX0_keep_41 : decode cX0_keep 41 = .ok (.getfield 9, 3) := by decide +kernel
theorem dX0_keep_44 : decode cX0_keep 44 = .ok (.iconst 1, 1) := by decide +kernel
theorem dX0_keep_45 : decode cX0_keep 45 = .ok (.iadd, 1) := by decide +kernel
theorem dX0_keep_46 : decode cX0_keep 46 = .ok (.putfield 9, 3) := by decide +kernel
theorem dX0_keep_49 : decode cX0_keep 49 = .ok (.return_, 1) := by decide +kernel
theorem dX0_become_0 : decode cX0_become 0 = .ok (.aload_n 0, 1) := by decide +kernel
theorem dX0_become_1 : decode cX0_become 1 = .ok (.aload_n 1, 1) := by decide +kernel
theorem dX0_become_2 : decode cX0_become 2 = .ok (.getfield 9, 3) := by decide +kernel
theorem dX0_become_5 : decode cX0_become 5 = .ok (.putfield 9, 3) := by decide +kernel
theorem dX0_become_8 : decode cX0_become 8 = .ok (.aload_n 1, 1) := by decide +kernel
theorem dX0_become_9 : decode cX0_become 9 = .ok (.getfield 15, 3) := by decide +kernel
theorem dX0_become_12 : decode cX0_become 12 = .ok (.iconst 0, 1) := by decide +kernel
theorem dX0_become_13 : decode cX0_become 13 = .ok (.aload_n 0, 1) := by decide +kernel
theorem dX0_become_14 : decode cX0_become 14 = .ok (.getfield 15, 3) := by decide +kernel
theorem dX0_become_17 : decode cX0_become 17 = .ok (.iconst 0, 1) := by decide +kernel
theorem dX0_become_18 : decode cX0_become 18 = .ok (.bipush 40, 2) := by decide +kernel
theorem dX0_become_20 : decode cX0_become 20 = .ok (.invokestatic 25, 3) := by decide +kernel
theorem dX0_become_23 : decode cX0_become 23 = .ok (.aload_n 1, 1) := by decide +kernel
theorem dX0_become_24 : decode cX0_become 24 = .ok (.getfield 19, 3) := by decide +kernel
theorem dX0_become_27 : decode cX0_become 27 = .ok (.iconst 0, 1) := by decide +kernel
theorem dX0_become_28 : decode cX0_become 28 = .ok (.aload_n 0, 1) := by decide +kernel
theorem dX0_become_29 : decode cX0_become 29 = .ok (.getfield 19, 3) := by decide +kernel
theorem dX0_become_32 : decode cX0_become 32 = .ok (.iconst 0, 1) := by decide +kernel
theorem dX0_become_33 : decode cX0_become 33 = .ok (.bipush 40, 2) := by decide +kernel
theorem dX0_become_35 : decode cX0_become 35 = .ok (.invokestatic 25, 3) := by decide +kernel
theorem dX0_become_38 : decode cX0_become 38 = .ok (.aload_n 1, 1) := by decide +kernel
theorem dX0_become_39 : decode cX0_become 39 = .ok (.getfield 22, 3) := by decide +kernel
theorem dX0_become_42 : decode cX0_become 42 = .ok (.iconst 0, 1) := by decide +kernel
theorem dX0_become_43 : decode cX0_become 43 = .ok (.aload_n 0, 1) := by decide +kernel
theorem dX0_become_44 : decode cX0_become 44 = .ok (.getfield 22, 3) := by decide +kernel
theorem dX0_become_47 : decode cX0_become 47 = .ok (.iconst 0, 1) := by decide +kernel
theorem dX0_become_48 : decode cX0_become 48 = .ok (.bipush 40, 2) := by decide +kernel
theorem dX0_become_50 : decode cX0_become 50 = .ok (.invokestatic 25, 3) := by decide +kernel
theorem dX0_become_53 : decode cX0_become 53 = .ok (.return_, 1) := by decide +kernel
theorem dX1_init_0 : decode cX1_init 0 = .ok (.aload_n 0, 1) := by decide +kernel
theorem dX1_init_1 : decode cX1_init 1 = .ok (.invokespecial 3, 3) := by decide +kernel
theorem dX1_init_4 : decode cX1_init 4 = .ok (.aload_n 0, 1) := by decide +kernel
theorem dX1_init_5 : decode cX1_init 5 = .ok (.bipush 8, 2) := by decide +kernel
theorem dX1_init_7 : decode cX1_init 7 = .ok (.newarray .int, 2) := by decide +kernel
theorem dX1_init_9 : decode cX1_init 9 = .ok (.putfield 9, 3) := by decide +kernel
theorem dX1_init_12 : decode cX1_init 12 = .ok (.aload_n 0, 1) := by decide +kernel
theorem dX1_init_13 : decode cX1_init 13 = .ok (.iconst 0, 1) := by decide +kernel
theorem dX1_init_14 : decode cX1_init 14 = .ok (.putfield 15, 3) := by decide +kernel
theorem dX1_init_17 : decode cX1_init 17 = .ok (.aload_n 0, 1) := by decide +kernel
theorem dX1_init_18 : decode cX1_init 18 = .ok (.iconst 0, 1) := by decide +kernel
theorem dX1_init_19 : decode cX1_init 19 = .ok (.putfield 19, 3) := by decide +kernel
theorem dX1_init_22 : decode cX1_init 22 = .ok (.return_, 1) := by decide +kernel
theorem dX1_fallNow_0 : decode cX1_fallNow 0 = .ok (.aload_n 0, 1) := by decide +kernel
theorem dX1_fallNow_1 : decode cX1_fallNow 1 = .ok (.aload_n 1, 1) := by decide +kernel
theorem dX1_fallNow_2 : decode cX1_fallNow 2 = .ok (.aload_n 1, 1) := by decide +kernel
theorem dX1_fallNow_3 : decode cX1_fallNow 3 = .ok (.invokevirtual 22, 3) := by decide +kernel
theorem dX1_fallNow_6 : decode cX1_fallNow 6 = .ok (.iconst 0, 1) := by decide +kernel
theorem dX1_fallNow_7 : decode cX1_fallNow 7 = .ok (.invokevirtual 28, 3) := by decide +kernel
theorem dX1_fallNow_10 : decode cX1_fallNow 10 = .ok (.return_, 1) := by decide +kernel
theorem dX1_fall_0 : decode cX1_fall 0 = .ok (.aload_n 0, 1) := by decide +kernel
theorem dX1_fall_1 : decode cX1_fall 1 = .ok (.aload_n 1, 1) := by decide +kernel
theorem dX1_fall_2 : decode cX1_fall 2 = .ok (.iconst (-1), 1) := by decide +kernel
theorem dX1_fall_3 : decode cX1_fall 3 = .ok (.iconst 0, 1) := by decide +kernel
theorem dX1_fall_4 : decode cX1_fall 4 = .ok (.iload_n 2, 1) := by decide +kernel
theorem dX1_fall_5 : decode cX1_fall 5 = .ok (.iload_n 3, 1) := by decide +kernel
theorem dX1_fall_6 : decode cX1_fall 6 = .ok (.invokevirtual 32, 3) := by decide +kernel
theorem dX1_fall_9 : decode cX1_fall 9 = .ok (.return_, 1) := by decide +kernel
theorem dX1_fallHeld_0 : decode cX1_fallHeld 0 = .ok (.aload_n 0, 1) := by decide +kernel
theorem dX1_fallHeld_1 : decode cX1_fallHeld 1 = .ok (.getfield 9, 3) := by decide +kernel
theorem dX1_fallHeld_4 : decode cX1_fallHeld 4 = .ok (.ldc 36, 2) := by decide +kernel
theorem dX1_fallHeld_6 : decode cX1_fallHeld 6 = .ok (.invokestatic 37, 3) := by decide +kernel
theorem dX1_fallHeld_9 : decode cX1_fallHeld 9 = .ok (.iconst 0, 1) := by decide +kernel
theorem dX1_fallHeld_10 : decode cX1_fallHeld 10 = .ok (.istore 6, 2) := by decide +kernel
theorem dX1_fallHeld_12 : decode cX1_fallHeld 12 = .ok (.iload 6, 2) := by decide +kernel
theorem dX1_fallHeld_14 : decode cX1_fallHeld 14 = .ok (.aload_n 1, 1) := by decide +kernel
theorem dX1_fallHeld_15 : decode cX1_fallHeld 15 = .ok (.getfield 43, 3) := by decide +kernel
theorem dX1_fallHeld_18 : decode cX1_fallHeld 18 = .ok (.if_icmp .ge 37, 3) := by decide +kernel
theorem dX1_fallHeld_21 : decode cX1_fallHeld 21 = .ok (.aload_n 0, 1) := by decide +kernel
theorem dX1_fallHeld_22 : decode cX1_fallHeld 22 = .ok (.aload_n 1, 1) := by decide +kernel
theorem dX1_fallHeld_23 : decode cX1_fallHeld 23 = .ok (.getfield 46, 3) := by decide +kernel
theorem dX1_fallHeld_26 : decode cX1_fallHeld 26 = .ok (.iload 6, 2) := by decide +kernel
theorem dX1_fallHeld_28 : decode cX1_fallHeld 28 = .ok (.iaload, 1) := by decide +kernel
theorem dX1_fallHeld_29 : decode cX1_fallHeld 29 = .ok (.iload 6, 2) := by decide +kernel
theorem dX1_fallHeld_31 : decode cX1_fallHeld 31 = .ok (.iload_n 2, 1) := by decide +kernel
theorem dX1_fallHeld_32 : decode cX1_fallHeld 32 = .ok (.if_icmp .ne 7, 3) := by decide +kernel
theorem dX1_fallHeld_35 : decode cX1_fallHeld 35 = .ok (.iload_n 3, 1) := by decide +kernel
theorem dX1_fallHeld_36 : decode cX1_fallHeld 36 = .ok (.goto 10, 3) := by decide +kernel
theorem dX1_fallHeld_39 : decode cX1_fallHeld 39 = .ok (.aload_n 1, 1) := by decide +kernel
theorem dX1_fallHeld_40 : decode cX1_fallHeld 40 = .ok (.getfield 49, 3) := by decide +kernel
theorem dX1_fallHeld_43 : decode cX1_fallHeld 43 = .ok (.iload 6, 2) := by decide +kernel
theorem dX1_fallHeld_45 : decode cX1_fallHeld 45 = .ok (.iaload, 1) := by decide +kernel
theorem dX1_fallHeld_46 : decode cX1_fallHeld 46 = .ok (.invokevirtual 52, 3) := by decide +kernel
theorem dX1_fallHeld_49 : decode cX1_fallHeld 49 = .ok (.iinc 6 1, 3) := by decide +kernel
theorem dX1_fallHeld_52 : decode cX1_fallHeld 52 = .ok (.goto (-40), 3) := by decide +kernel
theorem dX1_fallHeld_55 : decode cX1_fallHeld 55 = .ok (.aload_n 0, 1) := by decide +kernel
theorem dX1_fallHeld_56 : decode cX1_fallHeld 56 = .ok (.aload_n 1, 1) := by decide +kernel
theorem dX1_fallHeld_57 : decode cX1_fallHeld 57 = .ok (.iload 4, 2) := by decide +kernel
theorem dX1_fallHeld_59 : decode cX1_fallHeld 59 = .ok (.iload 5, 2) := by decide +kernel
theorem dX1_fallHeld_61 : decode cX1_fallHeld 61 = .ok (.invokevirtual 56, 3) := by decide +kernel
theorem dX1_fallHeld_64 : decode cX1_fallHeld 64 = .ok (.return_, 1) := by decide +kernel
theorem dX1_fallFrom_0 : decode cX1_fallFrom 0 = .ok (.aload_n 0, 1) := by decide +kernel
theorem dX1_fallFrom_1 : decode cX1_fallFrom 1 = .ok (.getfield 9, 3) := by decide +kernel
theorem dX1_fallFrom_4 : decode cX1_fallFrom 4 = .ok (.ldc 36, 2) := by decide +kernel
theorem dX1_fallFrom_6 : decode cX1_fallFrom 6 = .ok (.invokestatic 37, 3) := by decide +kernel
theorem dX1_fallFrom_9 : decode cX1_fallFrom 9 = .ok (.aload_n 0, 1) := by decide +kernel
theorem dX1_fallFrom_10 : decode cX1_fallFrom 10 = .ok (.iload_n 2, 1) := by decide +kernel
theorem dX1_fallFrom_11 : decode cX1_fallFrom 11 = .ok (.iload_n 3, 1) := by decide +kernel
theorem dX1_fallFrom_12 : decode cX1_fallFrom 12 = .ok (.invokevirtual 52, 3) := by decide +kernel
theorem dX1_fallFrom_15 : decode cX1_fallFrom 15 = .ok (.aload_n 0, 1) := by decide +kernel
theorem dX1_fallFrom_16 : decode cX1_fallFrom 16 = .ok (.aload_n 1, 1) := by decide +kernel
theorem dX1_fallFrom_17 : decode cX1_fallFrom 17 = .ok (.aload_n 1, 1) := by decide +kernel
theorem dX1_fallFrom_18 : decode cX1_fallFrom 18 = .ok (.invokevirtual 22, 3) := by decide +kernel
theorem dX1_fallFrom_21 : decode cX1_fallFrom 21 = .ok (.iconst 0, 1) := by decide +kernel
theorem dX1_fallFrom_22 : decode cX1_fallFrom 22 = .ok (.invokevirtual 56, 3) := by decide +kernel
theorem dX1_fallFrom_25 : decode cX1_fallFrom 25 = .ok (.return_, 1) := by decide +kernel
theorem dX1_fallAt_0 : decode cX1_fallAt 0 = .ok (.aload_n 0, 1) := by decide +kernel
theorem dX1_fallAt_1 : decode cX1_fallAt 1 = .ok (.getfield 9, 3) := by decide +kernel
theorem dX1_fallAt_4 : decode cX1_fallAt 4 = .ok (.ldc 36, 2) := by decide +kernel
theorem dX1_fallAt_6 : decode cX1_fallAt 6 = .ok (.invokestatic 37, 3) := by decide +kernel
theorem dX1_fallAt_9 : decode cX1_fallAt 9 = .ok (.iconst 0, 1) := by decide +kernel
theorem dX1_fallAt_10 : decode cX1_fallAt 10 = .ok (.istore_n 3, 1) := by decide +kernel
theorem dX1_fallAt_11 : decode cX1_fallAt 11 = .ok (.iload_n 3, 1) := by decide +kernel
theorem dX1_fallAt_12 : decode cX1_fallAt 12 = .ok (.aload_n 1, 1) := by decide +kernel
theorem dX1_fallAt_13 : decode cX1_fallAt 13 = .ok (.getfield 59, 3) := by decide +kernel
theorem dX1_fallAt_16 : decode cX1_fallAt 16 = .ok (.if_icmp .ge 24, 3) := by decide +kernel
theorem dX1_fallAt_19 : decode cX1_fallAt 19 = .ok (.iload_n 2, 1) := by decide +kernel
theorem dX1_fallAt_20 : decode cX1_fallAt 20 = .ok (.iload_n 3, 1) := by decide +kernel
theorem dX1_fallAt_21 : decode cX1_fallAt 21 = .ok (.ishr, 1) := by decide +kernel
theorem dX1_fallAt_22 : decode cX1_fallAt 22 = .ok (.iconst 1, 1) := by decide +kernel
theorem dX1_fallAt_23 : decode cX1_fallAt 23 = .ok (.iand, 1) := by decide +kernel
theorem dX1_fallAt_24 : decode cX1_fallAt 24 = .ok (.iconst 1, 1) := by decide +kernel
theorem dX1_fallAt_25 : decode cX1_fallAt 25 = .ok (.if_icmp .ne 9, 3) := by decide +kernel
theorem dX1_fallAt_28 : decode cX1_fallAt 28 = .ok (.aload_n 0, 1) := by decide +kernel
theorem dX1_fallAt_29 : decode cX1_fallAt 29 = .ok (.iload_n 3, 1) := by decide +kernel
theorem dX1_fallAt_30 : decode cX1_fallAt 30 = .ok (.iconst 0, 1) := by decide +kernel
theorem dX1_fallAt_31 : decode cX1_fallAt 31 = .ok (.invokevirtual 52, 3) := by decide +kernel
theorem dX1_fallAt_34 : decode cX1_fallAt 34 = .ok (.iinc 3 1, 3) := by decide +kernel
theorem dX1_fallAt_37 : decode cX1_fallAt 37 = .ok (.goto (-26), 3) := by decide +kernel
theorem dX1_fallAt_40 : decode cX1_fallAt 40 = .ok (.aload_n 0, 1) := by decide +kernel
theorem dX1_fallAt_41 : decode cX1_fallAt 41 = .ok (.aload_n 1, 1) := by decide +kernel
theorem dX1_fallAt_42 : decode cX1_fallAt 42 = .ok (.aload_n 1, 1) := by decide +kernel
theorem dX1_fallAt_43 : decode cX1_fallAt 43 = .ok (.invokevirtual 22, 3) := by decide +kernel
theorem dX1_fallAt_46 : decode cX1_fallAt 46 = .ok (.iconst 0, 1) := by decide +kernel
theorem dX1_fallAt_47 : decode cX1_fallAt 47 = .ok (.invokevirtual 56, 3) := by decide +kernel
theorem dX1_fallAt_50 : decode cX1_fallAt 50 = .ok (.return_, 1) := by decide +kernel
theorem dX1_enter_0 : decode cX1_enter 0 = .ok (.iload_n 1, 1) := by decide +kernel
theorem dX1_enter_1 : decode cX1_enter 1 = .ok (.ifCond .lt 26, 3) := by decide +kernel
theorem dX1_enter_4 : decode cX1_enter 4 = .ok (.iload_n 1, 1) := by decide +kernel
theorem dX1_enter_5 : decode cX1_enter 5 = .ok (.bipush 8, 2) := by decide +kernel
theorem dX1_enter_7 : decode cX1_enter 7 = .ok (.if_icmp .ge 20, 3) := by decide +kernel
theorem dX1_enter_10 : decode cX1_enter 10 = .ok (.iload_n 2, 1) := by decide +kernel
theorem dX1_enter_11 : decode cX1_enter 11 = .ok (.aload_n 0, 1) := by decide +kernel
theorem dX1_enter_12 : decode cX1_enter 12 = .ok (.getfield 9, 3) := by decide +kernel
theorem dX1_enter_15 : decode cX1_enter 15 = .ok (.iload_n 1, 1) := by decide +kernel
theorem dX1_enter_16 : decode cX1_enter 16 = .ok (.iaload, 1) := by decide +kernel
theorem dX1_enter_17 : decode cX1_enter 17 = .ok (.if_icmp .ge 10, 3) := by decide +kernel
theorem dX1_enter_20 : decode cX1_enter 20 = .ok (.aload_n 0, 1) := by decide +kernel
theorem dX1_enter_21 : decode cX1_enter 21 = .ok (.getfield 9, 3) := by decide +kernel
theorem dX1_enter_24 : decode cX1_enter 24 = .ok (.iload_n 1, 1) := by decide +kernel
theorem dX1_enter_25 : decode cX1_enter 25 = .ok (.iload_n 2, 1) := by decide +kernel
theorem dX1_enter_26 : decode cX1_enter 26 = .ok (.iastore, 1) := by decide +kernel
theorem dX1_enter_27 : decode cX1_enter 27 = .ok (.return_, 1) := by decide +kernel
theorem dX1_flow_0 : decode cX1_flow 0 = .ok (.aload_n 0, 1) := by decide +kernel
theorem dX1_flow_1 : decode cX1_flow 1 = .ok (.iload_n 2, 1) := by decide +kernel
theorem dX1_flow_2 : decode cX1_flow 2 = .ok (.putfield 15, 3) := by decide +kernel
theorem dX1_flow_5 : decode cX1_flow 5 = .ok (.aload_n 0, 1) := by decide +kernel
theorem dX1_flow_6 : decode cX1_flow 6 = .ok (.iload_n 3, 1) := by decide +kernel
theorem dX1_flow_7 : decode cX1_flow 7 = .ok (.putfield 19, 3) := by decide +kernel
theorem dX1_flow_10 : decode cX1_flow 10 = .ok (.iconst 1, 1) := by decide +kernel
theorem dX1_flow_11 : decode cX1_flow 11 = .ok (.istore 4, 2) := by decide +kernel
theorem dX1_flow_13 : decode cX1_flow 13 = .ok (.iconst 0, 1) := by decide +kernel
theorem dX1_flow_14 : decode cX1_flow 14 = .ok (.istore 5, 2) := by decide +kernel
theorem dX1_flow_16 : decode cX1_flow 16 = .ok (.iload 4, 2) := by decide +kernel
theorem dX1_flow_18 : decode cX1_flow 18 = .ok (.ifCond .eq 162, 3) := by decide +kernel
theorem dX1_flow_21 : decode cX1_flow 21 = .ok (.iload 5, 2) := by decide +kernel
theorem dX1_flow_23 : decode cX1_flow 23 = .ok (.aload_n 1, 1) := by decide +kernel
theorem dX1_flow_24 : decode cX1_flow 24 = .ok (.getfield 59, 3) := by decide +kernel
theorem dX1_flow_27 : decode cX1_flow 27 = .ok (.if_icmp .ge 153, 3) := by decide +kernel
theorem dX1_flow_30 : decode cX1_flow 30 = .ok (.iconst 0, 1) := by decide +kernel
theorem dX1_flow_31 : decode cX1_flow 31 = .ok (.istore 4, 2) := by decide +kernel
theorem dX1_flow_33 : decode cX1_flow 33 = .ok (.iconst 0, 1) := by decide +kernel
theorem dX1_flow_34 : decode cX1_flow 34 = .ok (.istore 6, 2) := by decide +kernel
theorem dX1_flow_36 : decode cX1_flow 36 = .ok (.iload 6, 2) := by decide +kernel
theorem dX1_flow_38 : decode cX1_flow 38 = .ok (.aload_n 1, 1) := by decide +kernel
theorem dX1_flow_39 : decode cX1_flow 39 = .ok (.getfield 62, 3) := by decide +kernel
theorem dX1_flow_42 : decode cX1_flow 42 = .ok (.if_icmp .ge 132, 3) := by decide +kernel
theorem dX1_flow_45 : decode cX1_flow 45 = .ok (.aload_n 0, 1) := by decide +kernel
theorem dX1_flow_46 : decode cX1_flow 46 = .ok (.getfield 15, 3) := by decide +kernel
theorem dX1_flow_49 : decode cX1_flow 49 = .ok (.iload 6, 2) := by decide +kernel
theorem dX1_flow_51 : decode cX1_flow 51 = .ok (.ishr, 1) := by decide +kernel
theorem dX1_flow_52 : decode cX1_flow 52 = .ok (.iconst 1, 1) := by decide +kernel
theorem dX1_flow_53 : decode cX1_flow 53 = .ok (.iand, 1) := by decide +kernel
theorem dX1_flow_54 : decode cX1_flow 54 = .ok (.iconst 1, 1) := by decide +kernel
theorem dX1_flow_55 : decode cX1_flow 55 = .ok (.if_icmp .ne 113, 3) := by decide +kernel
theorem dX1_flow_58 : decode cX1_flow 58 = .ok (.aload_n 1, 1) := by decide +kernel
theorem dX1_flow_59 : decode cX1_flow 59 = .ok (.getfield 65, 3) := by decide +kernel
theorem dX1_flow_62 : decode cX1_flow 62 = .ok (.iload 6, 2) := by decide +kernel
theorem dX1_flow_64 : decode cX1_flow 64 = .ok (.iaload, 1) := by decide +kernel
theorem dX1_flow_65 : decode cX1_flow 65 = .ok (.istore 7, 2) := by decide +kernel
theorem dX1_flow_67 : decode cX1_flow 67 = .ok (.aload_n 1, 1) := by decide +kernel
theorem dX1_flow_68 : decode cX1_flow 68 = .ok (.getfield 68, 3) := by decide +kernel
theorem dX1_flow_71 : decode cX1_flow 71 = .ok (.iload 6, 2) := by decide +kernel
theorem dX1_flow_73 : decode cX1_flow 73 = .ok (.iaload, 1) := by decide +kernel
theorem dX1_flow_74 : decode cX1_flow 74 = .ok (.istore 8, 2) := by decide +kernel
theorem dX1_flow_76 : decode cX1_flow 76 = .ok (.aload_n 0, 1) := by decide +kernel
theorem dX1_flow_77 : decode cX1_flow 77 = .ok (.aload_n 1, 1) := by decide +kernel
theorem dX1_flow_78 : decode cX1_flow 78 = .ok (.iload 6, 2) := by decide +kernel
theorem dX1_flow_80 : decode cX1_flow 80 = .ok (.invokevirtual 71, 3) := by decide +kernel
theorem dX1_flow_83 : decode cX1_flow 83 = .ok (.istore 9, 2) := by decide +kernel
theorem dX1_flow_85 : decode cX1_flow 85 = .ok (.aload_n 0, 1) := by decide +kernel
theorem dX1_flow_86 : decode cX1_flow 86 = .ok (.getfield 9, 3) := by decide +kernel
theorem dX1_flow_89 : decode cX1_flow 89 = .ok (.iload 7, 2) := by decide +kernel
theorem dX1_flow_91 : decode cX1_flow 91 = .ok (.iaload, 1) := by decide +kernel
theorem dX1_flow_92 : decode cX1_flow 92 = .ok (.iload 9, 2) := by decide +kernel
theorem dX1_flow_94 : decode cX1_flow 94 = .ok (.iadd, 1) := by decide +kernel
theorem dX1_flow_95 : decode cX1_flow 95 = .ok (.aload_n 0, 1) := by decide +kernel
theorem dX1_flow_96 : decode cX1_flow 96 = .ok (.getfield 9, 3) := by decide +kernel
theorem dX1_flow_99 : decode cX1_flow 99 = .ok (.iload 8, 2) := by decide +kernel
theorem dX1_flow_101 : decode cX1_flow 101 = .ok (.iaload, 1) := by decide +kernel
theorem dX1_flow_102 : decode cX1_flow 102 = .ok (.if_icmp .ge 26, 3) := by decide +kernel
theorem dX1_flow_105 : decode cX1_flow 105 = .ok (.aload_n 0, 1) := by decide +kernel
theorem dX1_flow_106 : decode cX1_flow 106 = .ok (.getfield 9, 3) := by decide +kernel
theorem dX1_flow_109 : decode cX1_flow 109 = .ok (.iload 8, 2) := by decide +kernel
theorem dX1_flow_111 : decode cX1_flow 111 = .ok (.aload_n 0, 1) := by decide +kernel
theorem dX1_flow_112 : decode cX1_flow 112 = .ok (.getfield 9, 3) := by decide +kernel
theorem dX1_flow_115 : decode cX1_flow 115 = .ok (.iload 7, 2) := by decide +kernel
theorem dX1_flow_117 : decode cX1_flow 117 = .ok (.iaload, 1) := by decide +kernel
theorem dX1_flow_118 : decode cX1_flow 118 = .ok (.iload 9, 2) := by decide +kernel
theorem dX1_flow_120 : decode cX1_flow 120 = .ok (.iadd, 1) := by decide +kernel
theorem dX1_flow_121 : decode cX1_flow 121 = .ok (.iastore, 1) := by decide +kernel
theorem dX1_flow_122 : decode cX1_flow 122 = .ok (.iconst 1, 1) := by decide +kernel
theorem dX1_flow_123 : decode cX1_flow 123 = .ok (.istore 4, 2) := by decide +kernel
theorem dX1_flow_125 : decode cX1_flow 125 = .ok (.goto 43, 3) := by decide +kernel
theorem dX1_flow_128 : decode cX1_flow 128 = .ok (.aload_n 0, 1) := by decide +kernel
theorem dX1_flow_129 : decode cX1_flow 129 = .ok (.getfield 9, 3) := by decide +kernel
theorem dX1_flow_132 : decode cX1_flow 132 = .ok (.iload 8, 2) := by decide +kernel
theorem dX1_flow_134 : decode cX1_flow 134 = .ok (.iaload, 1) := by decide +kernel
theorem dX1_flow_135 : decode cX1_flow 135 = .ok (.iload 9, 2) := by decide +kernel
theorem dX1_flow_137 : decode cX1_flow 137 = .ok (.iadd, 1) := by decide +kernel
theorem dX1_flow_138 : decode cX1_flow 138 = .ok (.aload_n 0, 1) := by decide +kernel
theorem dX1_flow_139 : decode cX1_flow 139 = .ok (.getfield 9, 3) := by decide +kernel
theorem dX1_flow_142 : decode cX1_flow 142 = .ok (.iload 7, 2) := by decide +kernel
theorem dX1_flow_144 : decode cX1_flow 144 = .ok (.iaload, 1) := by decide +kernel
theorem dX1_flow_145 : decode cX1_flow 145 = .ok (.if_icmp .ge 23, 3) := by decide +kernel
theorem dX1_flow_148 : decode cX1_flow 148 = .ok (.aload_n 0, 1) := by decide +kernel
theorem dX1_flow_149 : decode cX1_flow 149 = .ok (.getfield 9, 3) := by decide +kernel
theorem dX1_flow_152 : decode cX1_flow 152 = .ok (.iload 7, 2) := by decide +kernel
theorem dX1_flow_154 : decode cX1_flow 154 = .ok (.aload_n 0, 1) := by decide +kernel
theorem dX1_flow_155 : decode cX1_flow 155 = .ok (.getfield 9, 3) := by decide +kernel
theorem dX1_flow_158 : decode cX1_flow 158 = .ok (.iload 8, 2) := by decide +kernel
theorem dX1_flow_160 : decode cX1_flow 160 = .ok (.iaload, 1) := by decide +kernel
theorem dX1_flow_161 : decode cX1_flow 161 = .ok (.iload 9, 2) := by decide +kernel
theorem dX1_flow_163 : decode cX1_flow 163 = .ok (.iadd, 1) := by decide +kernel
theorem dX1_flow_164 : decode cX1_flow 164 = .ok (.iastore, 1) := by decide +kernel
theorem dX1_flow_165 : decode cX1_flow 165 = .ok (.iconst 1, 1) := by decide +kernel
theorem dX1_flow_166 : decode cX1_flow 166 = .ok (.istore 4, 2) := by decide +kernel
theorem dX1_flow_168 : decode cX1_flow 168 = .ok (.iinc 6 1, 3) := by decide +kernel
theorem dX1_flow_171 : decode cX1_flow 171 = .ok (.goto (-135), 3) := by decide +kernel
theorem dX1_flow_174 : decode cX1_flow 174 = .ok (.iinc 5 1, 3) := by decide +kernel
theorem dX1_flow_177 : decode cX1_flow 177 = .ok (.goto (-161), 3) := by decide +kernel
theorem dX1_flow_180 : decode cX1_flow 180 = .ok (.return_, 1) := by decide +kernel
theorem dX1_minutesOf_0 : decode cX1_minutesOf 0 = .ok (.aload_n 1, 1) := by decide +kernel
theorem dX1_minutesOf_1 : decode cX1_minutesOf 1 = .ok (.getfield 75, 3) := by decide +kernel
theorem dX1_minutesOf_4 : decode cX1_minutesOf 4 = .ok (.iload_n 2, 1) := by decide +kernel
theorem dX1_minutesOf_5 : decode cX1_minutesOf 5 = .ok (.iaload, 1) := by decide +kernel
theorem dX1_minutesOf_6 : decode cX1_minutesOf 6 = .ok (.aload_n 0, 1) := by decide +kernel
theorem dX1_minutesOf_7 : decode cX1_minutesOf 7 = .ok (.getfield 19, 3) := by decide +kernel
theorem dX1_minutesOf_10 : decode cX1_minutesOf 10 = .ok (.iload_n 2, 1) := by decide +kernel
theorem dX1_minutesOf_11 : decode cX1_minutesOf 11 = .ok (.ishr, 1) := by decide +kernel
theorem dX1_minutesOf_12 : decode cX1_minutesOf 12 = .ok (.iconst 1, 1) := by decide +kernel
theorem dX1_minutesOf_13 : decode cX1_minutesOf 13 = .ok (.iand, 1) := by decide +kernel
theorem dX1_minutesOf_14 : decode cX1_minutesOf 14 = .ok (.bipush 10, 2) := by decide +kernel
theorem dX1_minutesOf_16 : decode cX1_minutesOf 16 = .ok (.imul, 1) := by decide +kernel
theorem dX1_minutesOf_17 : decode cX1_minutesOf 17 = .ok (.iadd, 1) := by decide +kernel
theorem dX1_minutesOf_18 : decode cX1_minutesOf 18 = .ok (.ireturn, 1) := by decide +kernel
theorem dX1_isLike_0 : decode cX1_isLike 0 = .ok (.iconst 0, 1) := by decide +kernel
theorem dX1_isLike_1 : decode cX1_isLike 1 = .ok (.istore_n 3, 1) := by decide +kernel
theorem dX1_isLike_2 : decode cX1_isLike 2 = .ok (.iload_n 3, 1) := by decide +kernel
theorem dX1_isLike_3 : decode cX1_isLike 3 = .ok (.iload_n 2, 1) := by decide +kernel
theorem dX1_isLike_4 : decode cX1_isLike 4 = .ok (.if_icmp .ge 26, 3) := by decide +kernel
theorem dX1_isLike_7 : decode cX1_isLike 7 = .ok (.aload_n 0, 1) := by decide +kernel
theorem dX1_isLike_8 : decode cX1_isLike 8 = .ok (.getfield 9, 3) := by decide +kernel
theorem dX1_isLike_11 : decode cX1_isLike 11 = .ok (.iload_n 3, 1) := by decide +kernel
theorem dX1_isLike_12 : decode cX1_isLike 12 = .ok (.iaload, 1) := by decide +kernel
theorem dX1_isLike_13 : decode cX1_isLike 13 = .ok (.aload_n 1, 1) := by decide +kernel
theorem dX1_isLike_14 : decode cX1_isLike 14 = .ok (.getfield 9, 3) := by decide +kernel
theorem dX1_isLike_17 : decode cX1_isLike 17 = .ok (.iload_n 3, 1) := by decide +kernel
theorem dX1_isLike_18 : decode cX1_isLike 18 = .ok (.iaload, 1) := by decide +kernel
theorem dX1_isLike_19 : decode cX1_isLike 19 = .ok (.if_icmp .eq 5, 3) := by decide +kernel
theorem dX1_isLike_22 : decode cX1_isLike 22 = .ok (.iconst 0, 1) := by decide +kernel
theorem dX1_isLike_23 : decode cX1_isLike 23 = .ok (.ireturn, 1) := by decide +kernel
theorem dX1_isLike_24 : decode cX1_isLike 24 = .ok (.iinc 3 1, 3) := by decide +kernel
theorem dX1_isLike_27 : decode cX1_isLike 27 = .ok (.goto (-25), 3) := by decide +kernel
theorem dX1_isLike_30 : decode cX1_isLike 30 = .ok (.iconst 1, 1) := by decide +kernel
theorem dX1_isLike_31 : decode cX1_isLike 31 = .ok (.ireturn, 1) := by decide +kernel
theorem dX1_latest_0 : decode cX1_latest 0 = .ok (.iconst 0, 1) := by decide +kernel
theorem dX1_latest_1 : decode cX1_latest 1 = .ok (.istore_n 2, 1) := by decide +kernel
theorem dX1_latest_2 : decode cX1_latest 2 = .ok (.iconst 0, 1) := by decide +kernel
theorem dX1_latest_3 : decode cX1_latest 3 = .ok (.istore_n 3, 1) := by decide +kernel
theorem dX1_latest_4 : decode cX1_latest 4 = .ok (.iload_n 3, 1) := by decide +kernel
theorem dX1_latest_5 : decode cX1_latest 5 = .ok (.aload_n 1, 1) := by decide +kernel
theorem dX1_latest_6 : decode cX1_latest 6 = .ok (.getfield 59, 3) := by decide +kernel
theorem dX1_latest_9 : decode cX1_latest 9 = .ok (.if_icmp .ge 20, 3) := by decide +kernel
theorem dX1_latest_12 : decode cX1_latest 12 = .ok (.iload_n 2, 1) := by decide +kernel
theorem dX1_latest_13 : decode cX1_latest 13 = .ok (.aload_n 0, 1) := by decide +kernel
theorem dX1_latest_14 : decode cX1_latest 14 = .ok (.getfield 9, 3) := by decide +kernel
theorem dX1_latest_17 : decode cX1_latest 17 = .ok (.iload_n 3, 1) := by decide +kernel
theorem dX1_latest_18 : decode cX1_latest 18 = .ok (.iaload, 1) := by decide +kernel
theorem dX1_latest_19 : decode cX1_latest 19 = .ok (.invokestatic 78, 3) := by decide +kernel
theorem dX1_latest_22 : decode cX1_latest 22 = .ok (.istore_n 2, 1) := by decide +kernel
theorem dX1_latest_23 : decode cX1_latest 23 = .ok (.iinc 3 1, 3) := by decide +kernel
theorem dX1_latest_26 : decode cX1_latest 26 = .ok (.goto (-22), 3) := by decide +kernel
theorem dX1_latest_29 : decode cX1_latest 29 = .ok (.iload_n 2, 1) := by decide +kernel
theorem dX1_latest_30 : decode cX1_latest 30 = .ok (.ireturn, 1) := by decide +kernel
theorem dX1_laneInto_0 : decode cX1_laneInto 0 = .ok (.aload_n 0, 1) := by decide +kernel
theorem dX1_laneInto_1 : decode cX1_laneInto 1 = .ok (.getfield 9, 3) := by decide +kernel
theorem dX1_laneInto_4 : decode cX1_laneInto 4 = .ok (.iload_n 2, 1) := by decide +kernel
theorem dX1_laneInto_5 : decode cX1_laneInto 5 = .ok (.iaload, 1) := by decide +kernel
theorem dX1_laneInto_6 : decode cX1_laneInto 6 = .ok (.ldc 36, 2) := by decide +kernel
theorem dX1_laneInto_8 : decode cX1_laneInto 8 = .ok (.if_icmp .lt 5, 3) := by decide +kernel
theorem dX1_laneInto_11 : decode cX1_laneInto 11 = .ok (.iconst (-1), 1) := by decide +kernel
theorem dX1_laneInto_12 : decode cX1_laneInto 12 = .ok (.ireturn, 1) := by decide +kernel
theorem dX1_laneInto_13 : decode cX1_laneInto 13 = .ok (.iconst 0, 1) := by decide +kernel
theorem dX1_laneInto_14 : decode cX1_laneInto 14 = .ok (.istore_n 3, 1) := by decide +kernel
theorem dX1_laneInto_15 : decode cX1_laneInto 15 = .ok (.iload_n 3, 1) := by decide +kernel
theorem dX1_laneInto_16 : decode cX1_laneInto 16 = .ok (.aload_n 1, 1) := by decide +kernel
theorem dX1_laneInto_17 : decode cX1_laneInto 17 = .ok (.getfield 43, 3) := by decide +kernel
theorem dX1_laneInto_20 : decode cX1_laneInto 20 = .ok (.if_icmp .ge 36, 3) := by decide +kernel
theorem dX1_laneInto_23 : decode cX1_laneInto 23 = .ok (.aload_n 1, 1) := by decide +kernel
theorem dX1_laneInto_24 : decode cX1_laneInto 24 = .ok (.getfield 46, 3) := by decide +kernel
theorem dX1_laneInto_27 : decode cX1_laneInto 27 = .ok (.iload_n 3, 1) := by decide +kernel
theorem dX1_laneInto_28 : decode cX1_laneInto 28 = .ok (.iaload, 1) := by decide +kernel
theorem dX1_laneInto_29 : decode cX1_laneInto 29 = .ok (.iload_n 2, 1) := by decide +kernel
theorem dX1_laneInto_30 : decode cX1_laneInto 30 = .ok (.if_icmp .ne 20, 3) := by decide +kernel
theorem dX1_laneInto_33 : decode cX1_laneInto 33 = .ok (.aload_n 1, 1) := by decide +kernel
theorem dX1_laneInto_34 : decode cX1_laneInto 34 = .ok (.getfield 49, 3) := by decide +kernel
theorem dX1_laneInto_37 : decode cX1_laneInto 37 = .ok (.iload_n 3, 1) := by decide +kernel
theorem dX1_laneInto_38 : decode cX1_laneInto 38 = .ok (.iaload, 1) := by decide +kernel
theorem dX1_laneInto_39 : decode cX1_laneInto 39 = .ok (.aload_n 0, 1) := by decide +kernel
theorem dX1_laneInto_40 : decode cX1_laneInto 40 = .ok (.getfield 9, 3) := by decide +kernel
theorem dX1_laneInto_43 : decode cX1_laneInto 43 = .ok (.iload_n 2, 1) := by decide +kernel
theorem dX1_laneInto_44 : decode cX1_laneInto 44 = .ok (.iaload, 1) := by decide +kernel
theorem dX1_laneInto_45 : decode cX1_laneInto 45 = .ok (.if_icmp .ne 5, 3) := by decide +kernel
theorem dX1_laneInto_48 : decode cX1_laneInto 48 = .ok (.iconst (-1), 1) := by decide +kernel
theorem dX1_laneInto_49 : decode cX1_laneInto 49 = .ok (.ireturn, 1) := by decide +kernel
theorem dX1_laneInto_50 : decode cX1_laneInto 50 = .ok (.iinc 3 1, 3) := by decide +kernel
theorem dX1_laneInto_53 : decode cX1_laneInto 53 = .ok (.goto (-38), 3) := by decide +kernel
theorem dX1_laneInto_56 : decode cX1_laneInto 56 = .ok (.iconst 0, 1) := by decide +kernel
theorem dX1_laneInto_57 : decode cX1_laneInto 57 = .ok (.istore_n 3, 1) := by decide +kernel
theorem dX1_laneInto_58 : decode cX1_laneInto 58 = .ok (.iload_n 3, 1) := by decide +kernel
theorem dX1_laneInto_59 : decode cX1_laneInto 59 = .ok (.aload_n 1, 1) := by decide +kernel
theorem dX1_laneInto_60 : decode cX1_laneInto 60 = .ok (.getfield 62, 3) := by decide +kernel
theorem dX1_laneInto_63 : decode cX1_laneInto 63 = .ok (.if_icmp .ge 49, 3) := by decide +kernel
theorem dX1_laneInto_66 : decode cX1_laneInto 66 = .ok (.aload_n 0, 1) := by decide +kernel
theorem dX1_laneInto_67 : decode cX1_laneInto 67 = .ok (.aload_n 1, 1) := by decide +kernel
theorem dX1_laneInto_68 : decode cX1_laneInto 68 = .ok (.iload_n 3, 1) := by decide +kernel
theorem dX1_laneInto_69 : decode cX1_laneInto 69 = .ok (.iload_n 2, 1) := by decide +kernel
theorem dX1_laneInto_70 : decode cX1_laneInto 70 = .ok (.invokevirtual 84, 3) := by decide +kernel
theorem dX1_laneInto_73 : decode cX1_laneInto 73 = .ok (.istore 4, 2) := by decide +kernel
theorem dX1_laneInto_75 : decode cX1_laneInto 75 = .ok (.iload 4, 2) := by decide +kernel
theorem dX1_laneInto_77 : decode cX1_laneInto 77 = .ok (.iconst (-1), 1) := by decide +kernel
theorem dX1_laneInto_78 : decode cX1_laneInto 78 = .ok (.if_icmp .eq 28, 3) := by decide +kernel
theorem dX1_laneInto_81 : decode cX1_laneInto 81 = .ok (.aload_n 0, 1) := by decide +kernel
theorem dX1_laneInto_82 : decode cX1_laneInto 82 = .ok (.getfield 9, 3) := by decide +kernel
theorem dX1_laneInto_85 : decode cX1_laneInto 85 = .ok (.iload 4, 2) := by decide +kernel
theorem dX1_laneInto_87 : decode cX1_laneInto 87 = .ok (.iaload, 1) := by decide +kernel
theorem dX1_laneInto_88 : decode cX1_laneInto 88 = .ok (.aload_n 0, 1) := by decide +kernel
theorem dX1_laneInto_89 : decode cX1_laneInto 89 = .ok (.aload_n 1, 1) := by decide +kernel
theorem dX1_laneInto_90 : decode cX1_laneInto 90 = .ok (.iload_n 3, 1) := by decide +kernel
theorem dX1_laneInto_91 : decode cX1_laneInto 91 = .ok (.invokevirtual 71, 3) := by decide +kernel
theorem dX1_laneInto_94 : decode cX1_laneInto 94 = .ok (.iadd, 1) := by decide +kernel
theorem dX1_laneInto_95 : decode cX1_laneInto 95 = .ok (.aload_n 0, 1) := by decide +kernel
theorem dX1_laneInto_96 : decode cX1_laneInto 96 = .ok (.getfield 9, 3) := by decide +kernel
theorem dX1_laneInto_99 : decode cX1_laneInto 99 = .ok (.iload_n 2, 1) := by decide +kernel
theorem dX1_laneInto_100 : decode cX1_laneInto 100 = .ok (.iaload, 1) := by decide +kernel
theorem dX1_laneInto_101 : decode cX1_laneInto 101 = .ok (.if_icmp .ne 5, 3) := by decide +kernel
theorem dX1_laneInto_104 : decode cX1_laneInto 104 = .ok (.iload_n 3, 1) := by decide +kernel
theorem dX1_laneInto_105 : decode cX1_laneInto 105 = .ok (.ireturn, 1) := by decide +kernel
theorem dX1_laneInto_106 : decode cX1_laneInto 106 = .ok (.iinc 3 1, 3) := by decide +kernel
theorem dX1_laneInto_109 : decode cX1_laneInto 109 = .ok (.goto (-51), 3) := by decide +kernel
theorem dX1_laneInto_112 : decode cX1_laneInto 112 = .ok (.iconst (-1), 1) := by decide +kernel
theorem dX1_laneInto_113 : decode cX1_laneInto 113 = .ok (.ireturn, 1) := by decide +kernel
theorem dX1_acrossLane_0 : decode cX1_acrossLane 0 = .ok (.aload_n 0, 1) := by decide +kernel
theorem dX1_acrossLane_1 : decode cX1_acrossLane 1 = .ok (.getfield 15, 3) := by decide +kernel
theorem dX1_acrossLane_4 : decode cX1_acrossLane 4 = .ok (.iload_n 2, 1) := by decide +kernel
theorem dX1_acrossLane_5 : decode cX1_acrossLane 5 = .ok (.ishr, 1) := by decide +kernel
theorem dX1_acrossLane_6 : decode cX1_acrossLane 6 = .ok (.iconst 1, 1) := by decide +kernel
theorem dX1_acrossLane_7 : decode cX1_acrossLane 7 = .ok (.iand, 1) := by decide +kernel
theorem dX1_acrossLane_8 : decode cX1_acrossLane 8 = .ok (.ifCond .ne 5, 3) := by decide +kernel
theorem dX1_acrossLane_11 : decode cX1_acrossLane 11 = .ok (.iconst (-1), 1) := by decide +kernel
theorem dX1_acrossLane_12 : decode cX1_acrossLane 12 = .ok (.ireturn, 1) := by decide +kernel
theorem dX1_acrossLane_13 : decode cX1_acrossLane 13 = .ok (.aload_n 1, 1) := by decide +kernel
theorem dX1_acrossLane_14 : decode cX1_acrossLane 14 = .ok (.getfield 65, 3) := by decide +kernel
theorem dX1_acrossLane_17 : decode cX1_acrossLane 17 = .ok (.iload_n 2, 1) := by decide +kernel
theorem dX1_acrossLane_18 : decode cX1_acrossLane 18 = .ok (.iaload, 1) := by decide +kernel
theorem dX1_acrossLane_19 : decode cX1_acrossLane 19 = .ok (.iload_n 3, 1) := by decide +kernel
theorem dX1_acrossLane_20 : decode cX1_acrossLane 20 = .ok (.if_icmp .ne 10, 3) := by decide +kernel
theorem dX1_acrossLane_23 : decode cX1_acrossLane 23 = .ok (.aload_n 1, 1) := by decide +kernel
theorem dX1_acrossLane_24 : decode cX1_acrossLane 24 = .ok (.getfield 68, 3) := by decide +kernel
theorem dX1_acrossLane_27 : decode cX1_acrossLane 27 = .ok (.iload_n 2, 1) := by decide +kernel
theorem dX1_acrossLane_28 : decode cX1_acrossLane 28 = .ok (.iaload, 1) := by decide +kernel
theorem dX1_acrossLane_29 : decode cX1_acrossLane 29 = .ok (.ireturn, 1) := by decide +kernel
theorem dX1_acrossLane_30 : decode cX1_acrossLane 30 = .ok (.aload_n 1, 1) := by decide +kernel
theorem dX1_acrossLane_31 : decode cX1_acrossLane 31 = .ok (.getfield 68, 3) := by decide +kernel
theorem dX1_acrossLane_34 : decode cX1_acrossLane 34 = .ok (.iload_n 2, 1) := by decide +kernel
theorem dX1_acrossLane_35 : decode cX1_acrossLane 35 = .ok (.iaload, 1) := by decide +kernel
theorem dX1_acrossLane_36 : decode cX1_acrossLane 36 = .ok (.iload_n 3, 1) := by decide +kernel
theorem dX1_acrossLane_37 : decode cX1_acrossLane 37 = .ok (.if_icmp .ne 12, 3) := by decide +kernel
theorem dX1_acrossLane_40 : decode cX1_acrossLane 40 = .ok (.aload_n 1, 1) := by decide +kernel
theorem dX1_acrossLane_41 : decode cX1_acrossLane 41 = .ok (.getfield 65, 3) := by decide +kernel
theorem dX1_acrossLane_44 : decode cX1_acrossLane 44 = .ok (.iload_n 2, 1) := by decide +kernel
theorem dX1_acrossLane_45 : decode cX1_acrossLane 45 = .ok (.iaload, 1) := by decide +kernel
theorem dX1_acrossLane_46 : decode cX1_acrossLane 46 = .ok (.goto 4, 3) := by decide +kernel
theorem dX1_acrossLane_49 : decode cX1_acrossLane 49 = .ok (.iconst (-1), 1) := by decide +kernel
theorem dX1_acrossLane_50 : decode cX1_acrossLane 50 = .ok (.ireturn, 1) := by decide +kernel
theorem dX1_wayTo_0 : decode cX1_wayTo 0 = .ok (.iconst 0, 1) := by decide +kernel
theorem dX1_wayTo_1 : decode cX1_wayTo 1 = .ok (.istore_n 3, 1) := by decide +kernel
theorem dX1_wayTo_2 : decode cX1_wayTo 2 = .ok (.iload_n 2, 1) := by decide +kernel
theorem dX1_wayTo_3 : decode cX1_wayTo 3 = .ok (.istore 4, 2) := by decide +kernel
theorem dX1_wayTo_5 : decode cX1_wayTo 5 = .ok (.iconst 0, 1) := by decide +kernel
theorem dX1_wayTo_6 : decode cX1_wayTo 6 = .ok (.istore 5, 2) := by decide +kernel
theorem dX1_wayTo_8 : decode cX1_wayTo 8 = .ok (.iload 5, 2) := by decide +kernel
theorem dX1_wayTo_10 : decode cX1_wayTo 10 = .ok (.bipush 8, 2) := by decide +kernel
theorem dX1_wayTo_12 : decode cX1_wayTo 12 = .ok (.if_icmp .ge 65, 3) := by decide +kernel
theorem dX1_wayTo_15 : decode cX1_wayTo 15 = .ok (.aload_n 0, 1) := by decide +kernel
theorem dX1_wayTo_16 : decode cX1_wayTo 16 = .ok (.aload_n 1, 1) := by decide +kernel
theorem dX1_wayTo_17 : decode cX1_wayTo 17 = .ok (.iload 4, 2) := by decide +kernel
theorem dX1_wayTo_19 : decode cX1_wayTo 19 = .ok (.invokevirtual 88, 3) := by decide +kernel
theorem dX1_wayTo_22 : decode cX1_wayTo 22 = .ok (.istore 6, 2) := by decide +kernel
theorem dX1_wayTo_24 : decode cX1_wayTo 24 = .ok (.iload 6, 2) := by decide +kernel
theorem dX1_wayTo_26 : decode cX1_wayTo 26 = .ok (.iconst (-1), 1) := by decide +kernel
theorem dX1_wayTo_27 : decode cX1_wayTo 27 = .ok (.if_icmp .ne 6, 3) := by decide +kernel
theorem dX1_wayTo_30 : decode cX1_wayTo 30 = .ok (.goto 47, 3) := by decide +kernel
theorem dX1_wayTo_33 : decode cX1_wayTo 33 = .ok (.iload_n 3, 1) := by decide +kernel
theorem dX1_wayTo_34 : decode cX1_wayTo 34 = .ok (.iconst 1, 1) := by decide +kernel
theorem dX1_wayTo_35 : decode cX1_wayTo 35 = .ok (.iload 6, 2) := by decide +kernel
theorem dX1_wayTo_37 : decode cX1_wayTo 37 = .ok (.ishl, 1) := by decide +kernel
theorem dX1_wayTo_38 : decode cX1_wayTo 38 = .ok (.ior, 1) := by decide +kernel
theorem dX1_wayTo_39 : decode cX1_wayTo 39 = .ok (.istore_n 3, 1) := by decide +kernel
theorem dX1_wayTo_40 : decode cX1_wayTo 40 = .ok (.aload_n 1, 1) := by decide +kernel
theorem dX1_wayTo_41 : decode cX1_wayTo 41 = .ok (.getfield 65, 3) := by decide +kernel
theorem dX1_wayTo_44 : decode cX1_wayTo 44 = .ok (.iload 6, 2) := by decide +kernel
theorem dX1_wayTo_46 : decode cX1_wayTo 46 = .ok (.iaload, 1) := by decide +kernel
theorem dX1_wayTo_47 : decode cX1_wayTo 47 = .ok (.iload 4, 2) := by decide +kernel
theorem dX1_wayTo_49 : decode cX1_wayTo 49 = .ok (.if_icmp .ne 13, 3) := by decide +kernel
theorem dX1_wayTo_52 : decode cX1_wayTo 52 = .ok (.aload_n 1, 1) := by decide +kernel
theorem dX1_wayTo_53 : decode cX1_wayTo 53 = .ok (.getfield 68, 3) := by decide +kernel
theorem dX1_wayTo_56 : decode cX1_wayTo 56 = .ok (.iload 6, 2) := by decide +kernel
theorem dX1_wayTo_58 : decode cX1_wayTo 58 = .ok (.iaload, 1) := by decide +kernel
theorem dX1_wayTo_59 : decode cX1_wayTo 59 = .ok (.goto 10, 3) := by decide +kernel
theorem dX1_wayTo_62 : decode cX1_wayTo 62 = .ok (.aload_n 1, 1) := by decide +kernel
theorem dX1_wayTo_63 : decode cX1_wayTo 63 = .ok (.getfield 65, 3) := by decide +kernel
theorem dX1_wayTo_66 : decode cX1_wayTo 66 = .ok (.iload 6, 2) := by decide +kernel
theorem dX1_wayTo_68 : decode cX1_wayTo 68 = .ok (.iaload, 1) := by decide +kernel
theorem dX1_wayTo_69 : decode cX1_wayTo 69 = .ok (.istore 4, 2) := by decide +kernel
theorem dX1_wayTo_71 : decode cX1_wayTo 71 = .ok (.iinc 5 1, 3) := by decide +kernel
theorem dX1_wayTo_74 : decode cX1_wayTo 74 = .ok (.goto (-66), 3) := by decide +kernel
theorem dX1_wayTo_77 : decode cX1_wayTo 77 = .ok (.iload_n 3, 1) := by decide +kernel
theorem dX1_wayTo_78 : decode cX1_wayTo 78 = .ok (.ireturn, 1) := by decide +kernel
theorem dX1_gladOf_0 : decode cX1_gladOf 0 = .ok (.aload_n 1, 1) := by decide +kernel
theorem dX1_gladOf_1 : decode cX1_gladOf 1 = .ok (.iload_n 2, 1) := by decide +kernel
theorem dX1_gladOf_2 : decode cX1_gladOf 2 = .ok (.aload_n 0, 1) := by decide +kernel
theorem dX1_gladOf_3 : decode cX1_gladOf 3 = .ok (.getfield 9, 3) := by decide +kernel
theorem dX1_gladOf_6 : decode cX1_gladOf 6 = .ok (.aload_n 1, 1) := by decide +kernel
theorem dX1_gladOf_7 : decode cX1_gladOf 7 = .ok (.getfield 91, 3) := by decide +kernel
theorem dX1_gladOf_10 : decode cX1_gladOf 10 = .ok (.iload_n 2, 1) := by decide +kernel
theorem dX1_gladOf_11 : decode cX1_gladOf 11 = .ok (.iaload, 1) := by decide +kernel
theorem dX1_gladOf_12 : decode cX1_gladOf 12 = .ok (.iaload, 1) := by decide +kernel
theorem dX1_gladOf_13 : decode cX1_gladOf 13 = .ok (.invokestatic 94, 3) := by decide +kernel
theorem dX1_gladOf_16 : decode cX1_gladOf 16 = .ok (.ireturn, 1) := by decide +kernel
theorem dX1_gladAt_0 : decode cX1_gladAt 0 = .ok (.iload_n 2, 1) := by decide +kernel
theorem dX1_gladAt_1 : decode cX1_gladAt 1 = .ok (.ldc 36, 2) := by decide +kernel
theorem dX1_gladAt_3 : decode cX1_gladAt 3 = .ok (.if_icmp .lt 5, 3) := by decide +kernel
theorem dX1_gladAt_6 : decode cX1_gladAt 6 = .ok (.iconst 0, 1) := by decide +kernel
theorem dX1_gladAt_7 : decode cX1_gladAt 7 = .ok (.ireturn, 1) := by decide +kernel
theorem dX1_gladAt_8 : decode cX1_gladAt 8 = .ok (.iconst 0, 1) := by decide +kernel
theorem dX1_gladAt_9 : decode cX1_gladAt 9 = .ok (.aload_n 0, 1) := by decide +kernel
theorem dX1_gladAt_10 : decode cX1_gladAt 10 = .ok (.getfield 97, 3) := by decide +kernel
theorem dX1_gladAt_13 : decode cX1_gladAt 13 = .ok (.iload_n 1, 1) := by decide +kernel
theorem dX1_gladAt_14 : decode cX1_gladAt 14 = .ok (.iaload, 1) := by decide +kernel
theorem dX1_gladAt_15 : decode cX1_gladAt 15 = .ok (.aload_n 0, 1) := by decide +kernel
theorem dX1_gladAt_16 : decode cX1_gladAt 16 = .ok (.getfield 100, 3) := by decide +kernel
theorem dX1_gladAt_19 : decode cX1_gladAt 19 = .ok (.iload_n 1, 1) := by decide +kernel
theorem dX1_gladAt_20 : decode cX1_gladAt 20 = .ok (.iaload, 1) := by decide +kernel
theorem dX1_gladAt_21 : decode cX1_gladAt 21 = .ok (.iload_n 2, 1) := by decide +kernel
theorem dX1_gladAt_22 : decode cX1_gladAt 22 = .ok (.isub, 1) := by decide +kernel
theorem dX1_gladAt_23 : decode cX1_gladAt 23 = .ok (.invokestatic 103, 3) := by decide +kernel
theorem dX1_gladAt_26 : decode cX1_gladAt 26 = .ok (.isub, 1) := by decide +kernel
theorem dX1_gladAt_27 : decode cX1_gladAt 27 = .ok (.invokestatic 78, 3) := by decide +kernel
theorem dX1_gladAt_30 : decode cX1_gladAt 30 = .ok (.ireturn, 1) := by decide +kernel
theorem dX1_gladOfAll_0 : decode cX1_gladOfAll 0 = .ok (.iconst 0, 1) := by decide +kernel
theorem dX1_gladOfAll_1 : decode cX1_gladOfAll 1 = .ok (.istore_n 2, 1) := by decide +kernel
theorem dX1_gladOfAll_2 : decode cX1_gladOfAll 2 = .ok (.iconst 0, 1) := by decide +kernel
theorem dX1_gladOfAll_3 : decode cX1_gladOfAll 3 = .ok (.istore_n 3, 1) := by decide +kernel
theorem dX1_gladOfAll_4 : decode cX1_gladOfAll 4 = .ok (.iload_n 3, 1) := by decide +kernel
theorem dX1_gladOfAll_5 : decode cX1_gladOfAll 5 = .ok (.aload_n 1, 1) := by decide +kernel
theorem dX1_gladOfAll_6 : decode cX1_gladOfAll 6 = .ok (.getfield 107, 3) := by decide +kernel
theorem dX1_gladOfAll_9 : decode cX1_gladOfAll 9 = .ok (.if_icmp .ge 18, 3) := by decide +kernel
theorem dX1_gladOfAll_12 : decode cX1_gladOfAll 12 = .ok (.iload_n 2, 1) := by decide +kernel
theorem dX1_gladOfAll_13 : decode cX1_gladOfAll 13 = .ok (.aload_n 0, 1) := by decide +kernel
theorem dX1_gladOfAll_14 : decode cX1_gladOfAll 14 = .ok (.aload_n 1, 1) := by decide +kernel
theorem dX1_gladOfAll_15 : decode cX1_gladOfAll 15 = .ok (.iload_n 3, 1) := by decide +kernel
theorem dX1_gladOfAll_16 : decode cX1_gladOfAll 16 = .ok (.invokevirtual 110, 3) := by decide +kernel
theorem dX1_gladOfAll_19 : decode cX1_gladOfAll 19 = .ok (.iadd, 1) := by decide +kernel
theorem dX1_gladOfAll_20 : decode cX1_gladOfAll 20 = .ok (.istore_n 2, 1) := by decide +kernel
theorem dX1_gladOfAll_21 : decode cX1_gladOfAll 21 = .ok (.iinc 3 1, 3) := by decide +kernel
theorem dX1_gladOfAll_24 : decode cX1_gladOfAll 24 = .ok (.goto (-20), 3) := by decide +kernel
theorem dX1_gladOfAll_27 : decode cX1_gladOfAll 27 = .ok (.iload_n 2, 1) := by decide +kernel
theorem dX1_gladOfAll_28 : decode cX1_gladOfAll 28 = .ok (.ireturn, 1) := by decide +kernel
theorem dX2_init_0 : decode cX2_init 0 = .ok (.aload_n 0, 1) := by decide +kernel
theorem dX2_init_1 : decode cX2_init 1 = .ok (.invokespecial 3, 3) := by decide +kernel
theorem dX2_init_4 : decode cX2_init 4 = .ok (.aload_n 0, 1) := by decide +kernel
theorem dX2_init_5 : decode cX2_init 5 = .ok (.iconst 0, 1) := by decide +kernel
theorem dX2_init_6 : decode cX2_init 6 = .ok (.putfield 9, 3) := by decide +kernel
theorem dX2_init_9 : decode cX2_init 9 = .ok (.aload_n 0, 1) := by decide +kernel
theorem dX2_init_10 : decode cX2_init 10 = .ok (.new 15, 3) := by decide +kernel
theorem dX2_init_13 : decode cX2_init 13 = .ok (.dup, 1) := by decide +kernel
theorem dX2_init_14 : decode cX2_init 14 = .ok (.invokespecial 17, 3) := by decide +kernel
theorem dX2_init_17 : decode cX2_init 17 = .ok (.putfield 18, 3) := by decide +kernel
theorem dX2_init_20 : decode cX2_init 20 = .ok (.aload_n 0, 1) := by decide +kernel
theorem dX2_init_21 : decode cX2_init 21 = .ok (.bipush 32, 2) := by decide +kernel
theorem dX2_init_23 : decode cX2_init 23 = .ok (.newarray .int, 2) := by decide +kernel
theorem dX2_init_25 : decode cX2_init 25 = .ok (.putfield 22, 3) := by decide +kernel
theorem dX2_init_28 : decode cX2_init 28 = .ok (.aload_n 0, 1) := by decide +kernel
theorem dX2_init_29 : decode cX2_init 29 = .ok (.bipush 32, 2) := by decide +kernel
theorem dX2_init_31 : decode cX2_init 31 = .ok (.newarray .int, 2) := by decide +kernel
theorem dX2_init_33 : decode cX2_init 33 = .ok (.putfield 26, 3) := by decide +kernel
theorem dX2_init_36 : decode cX2_init 36 = .ok (.aload_n 0, 1) := by decide +kernel
theorem dX2_init_37 : decode cX2_init 37 = .ok (.sipush 400, 3) := by decide +kernel
theorem dX2_init_40 : decode cX2_init 40 = .ok (.newarray .boolean, 2) := by decide +kernel
theorem dX2_init_42 : decode cX2_init 42 = .ok (.putfield 29, 3) := by decide +kernel
theorem dX2_init_45 : decode cX2_init 45 = .ok (.aload_n 0, 1) := by decide +kernel
theorem dX2_init_46 : decode cX2_init 46 = .ok (.sipush 1001, 3) := by decide +kernel
theorem dX2_init_49 : decode cX2_init 49 = .ok (.newarray .int, 2) := by decide +kernel
theorem dX2_init_51 : decode cX2_init 51 = .ok (.putfield 33, 3) := by decide +kernel
theorem dX2_init_54 : decode cX2_init 54 = .ok (.return_, 1) := by decide +kernel
theorem dX2_learnGate_0 : decode cX2_learnGate 0 = .ok (.aload_n 0, 1) := by decide +kernel
theorem dX2_learnGate_1 : decode cX2_learnGate 1 = .ok (.getfield 18, 3) := by decide +kernel
theorem dX2_learnGate_4 : decode cX2_learnGate 4 = .ok (.aload_n 1, 1) := by decide +kernel
theorem dX2_learnGate_5 : decode cX2_learnGate 5 = .ok (.iload_n 2, 1) := by decide +kernel
theorem dX2_learnGate_6 : decode cX2_learnGate 6 = .ok (.ldc 36, 2) := by decide +kernel
theorem dX2_learnGate_8 : decode cX2_learnGate 8 = .ok (.aload_n 1, 1) := by decide +kernel
theorem dX2_learnGate_9 : decode cX2_learnGate 9 = .ok (.invokevirtual 37, 3) := by decide +kernel
theorem dX2_learnGate_12 : decode cX2_learnGate 12 = .ok (.iconst 0, 1) := by decide +kernel
theorem dX2_learnGate_13 : decode cX2_learnGate 13 = .ok (.invokevirtual 43, 3) := by decide +kernel
theorem dX2_learnGate_16 : decode cX2_learnGate 16 = .ok (.aload_n 0, 1) := by decide +kernel
theorem dX2_learnGate_17 : decode cX2_learnGate 17 = .ok (.getfield 18, 3) := by decide +kernel
theorem dX2_learnGate_20 : decode cX2_learnGate 20 = .ok (.getfield 47, 3) := by decide +kernel
theorem dX2_learnGate_23 : decode cX2_learnGate 23 = .ok (.iconst 0, 1) := by decide +kernel
theorem dX2_learnGate_24 : decode cX2_learnGate 24 = .ok (.aload_n 0, 1) := by decide +kernel
theorem dX2_learnGate_25 : decode cX2_learnGate 25 = .ok (.getfield 22, 3) := by decide +kernel
theorem dX2_learnGate_28 : decode cX2_learnGate 28 = .ok (.iload_n 2, 1) := by decide +kernel
theorem dX2_learnGate_29 : decode cX2_learnGate 29 = .ok (.bipush 8, 2) := by decide +kernel
theorem dX2_learnGate_31 : decode cX2_learnGate 31 = .ok (.imul, 1) := by decide +kernel
theorem dX2_learnGate_32 : decode cX2_learnGate 32 = .ok (.bipush 8, 2) := by decide +kernel
theorem dX2_learnGate_34 : decode cX2_learnGate 34 = .ok (.invokestatic 50, 3) := by decide +kernel
theorem dX2_learnGate_37 : decode cX2_learnGate 37 = .ok (.aload_n 0, 1) := by decide +kernel
theorem dX2_learnGate_38 : decode cX2_learnGate 38 = .ok (.getfield 18, 3) := by decide +kernel
theorem dX2_learnGate_41 : decode cX2_learnGate 41 = .ok (.aload_n 1, 1) := by decide +kernel
theorem dX2_learnGate_42 : decode cX2_learnGate 42 = .ok (.aload_n 1, 1) := by decide +kernel
theorem dX2_learnGate_43 : decode cX2_learnGate 43 = .ok (.getfield 56, 3) := by decide +kernel
theorem dX2_learnGate_46 : decode cX2_learnGate 46 = .ok (.iload_n 2, 1) := by decide +kernel
theorem dX2_learnGate_47 : decode cX2_learnGate 47 = .ok (.iaload, 1) := by decide +kernel
theorem dX2_learnGate_48 : decode cX2_learnGate 48 = .ok (.iconst 0, 1) := by decide +kernel
theorem dX2_learnGate_49 : decode cX2_learnGate 49 = .ok (.invokevirtual 59, 3) := by decide +kernel
theorem dX2_learnGate_52 : decode cX2_learnGate 52 = .ok (.aload_n 0, 1) := by decide +kernel
theorem dX2_learnGate_53 : decode cX2_learnGate 53 = .ok (.getfield 18, 3) := by decide +kernel
theorem dX2_learnGate_56 : decode cX2_learnGate 56 = .ok (.getfield 47, 3) := by decide +kernel
theorem dX2_learnGate_59 : decode cX2_learnGate 59 = .ok (.iconst 0, 1) := by decide +kernel
theorem dX2_learnGate_60 : decode cX2_learnGate 60 = .ok (.aload_n 0, 1) := by decide +kernel
theorem dX2_learnGate_61 : decode cX2_learnGate 61 = .ok (.getfield 26, 3) := by decide +kernel
theorem dX2_learnGate_64 : decode cX2_learnGate 64 = .ok (.iload_n 2, 1) := by decide +kernel
theorem dX2_learnGate_65 : decode cX2_learnGate 65 = .ok (.bipush 8, 2) := by decide +kernel
theorem dX2_learnGate_67 : decode cX2_learnGate 67 = .ok (.imul, 1) := by decide +kernel
theorem dX2_learnGate_68 : decode cX2_learnGate 68 = .ok (.bipush 8, 2) := by decide +kernel
theorem dX2_learnGate_70 : decode cX2_learnGate 70 = .ok (.invokestatic 50, 3) := by decide +kernel
theorem dX2_learnGate_73 : decode cX2_learnGate 73 = .ok (.return_, 1) := by decide +kernel
theorem dX2_minuteWith_0 : decode cX2_minuteWith 0 = .ok (.iload_n 1, 1) := by decide +kernel
theorem dX2_minuteWith_1 : decode cX2_minuteWith 1 = .ok (.bipush 8, 2) := by decide +kernel
theorem dX2_minuteWith_3 : decode cX2_minuteWith 3 = .ok (.imul, 1) := by decide +kernel
theorem dX2_minuteWith_4 : decode cX2_minuteWith 4 = .ok (.iload_n 3, 1) := by decide +kernel
theorem dX2_minuteWith_5 : decode cX2_minuteWith 5 = .ok (.iadd, 1) := by decide +kernel
theorem dX2_minuteWith_6 : decode cX2_minuteWith 6 = .ok (.istore 4, 2) := by decide +kernel
theorem dX2_minuteWith_8 : decode cX2_minuteWith 8 = .ok (.aload_n 0, 1) := by decide +kernel
theorem dX2_minuteWith_9 : decode cX2_minuteWith 9 = .ok (.getfield 22, 3) := by decide +kernel
theorem dX2_minuteWith_12 : decode cX2_minuteWith 12 = .ok (.iload 4, 2) := by decide +kernel
theorem dX2_minuteWith_14 : decode cX2_minuteWith 14 = .ok (.iaload, 1) := by decide +kernel
theorem dX2_minuteWith_15 : decode cX2_minuteWith 15 = .ok (.aload_n 0, 1) := by decide +kernel
theorem dX2_minuteWith_16 : decode cX2_minuteWith 16 = .ok (.getfield 26, 3) := by decide +kernel
theorem dX2_minuteWith_19 : decode cX2_minuteWith 19 = .ok (.iload 4, 2) := by decide +kernel
theorem dX2_minuteWith_21 : decode cX2_minuteWith 21 = .ok (.iaload, 1) := by decide +kernel
theorem dX2_minuteWith_22 : decode cX2_minuteWith 22 = .ok (.iload_n 2, 1) := by decide +kernel
theorem dX2_minuteWith_23 : decode cX2_minuteWith 23 = .ok (.iadd, 1) := by decide +kernel
theorem dX2_minuteWith_24 : decode cX2_minuteWith 24 = .ok (.invokestatic 63, 3) := by decide +kernel
theorem dX2_minuteWith_27 : decode cX2_minuteWith 27 = .ok (.ireturn, 1) := by decide +kernel
theorem dX2_gladWith_0 : decode cX2_gladWith 0 = .ok (.iconst 0, 1) := by decide +kernel
theorem dX2_gladWith_1 : decode cX2_gladWith 1 = .ok (.istore 4, 2) := by decide +kernel
theorem dX2_gladWith_3 : decode cX2_gladWith 3 = .ok (.iconst 0, 1) := by decide +kernel
theorem dX2_gladWith_4 : decode cX2_gladWith 4 = .ok (.istore 5, 2) := by decide +kernel
theorem dX2_gladWith_6 : decode cX2_gladWith 6 = .ok (.iload 5, 2) := by decide +kernel
theorem dX2_gladWith_8 : decode cX2_gladWith 8 = .ok (.aload_n 1, 1) := by decide +kernel
theorem dX2_gladWith_9 : decode cX2_gladWith 9 = .ok (.getfield 69, 3) := by decide +kernel
theorem dX2_gladWith_12 : decode cX2_gladWith 12 = .ok (.if_icmp .ge 33, 3) := by decide +kernel
theorem dX2_gladWith_15 : decode cX2_gladWith 15 = .ok (.iload 4, 2) := by decide +kernel
theorem dX2_gladWith_17 : decode cX2_gladWith 17 = .ok (.aload_n 1, 1) := by decide +kernel
theorem dX2_gladWith_18 : decode cX2_gladWith 18 = .ok (.iload 5, 2) := by decide +kernel
theorem dX2_gladWith_20 : decode cX2_gladWith 20 = .ok (.aload_n 0, 1) := by decide +kernel
theorem dX2_gladWith_21 : decode cX2_gladWith 21 = .ok (.iload_n 2, 1) := by decide +kernel
theorem dX2_gladWith_22 : decode cX2_gladWith 22 = .ok (.iload_n 3, 1) := by decide +kernel
theorem dX2_gladWith_23 : decode cX2_gladWith 23 = .ok (.aload_n 1, 1) := by decide +kernel
theorem dX2_gladWith_24 : decode cX2_gladWith 24 = .ok (.getfield 72, 3) := by decide +kernel
theorem dX2_gladWith_27 : decode cX2_gladWith 27 = .ok (.iload 5, 2) := by decide +kernel
theorem dX2_gladWith_29 : decode cX2_gladWith 29 = .ok (.iaload, 1) := by decide +kernel
theorem dX2_gladWith_30 : decode cX2_gladWith 30 = .ok (.invokevirtual 75, 3) := by decide +kernel
theorem dX2_gladWith_33 : decode cX2_gladWith 33 = .ok (.invokestatic 79, 3) := by decide +kernel
theorem dX2_gladWith_36 : decode cX2_gladWith 36 = .ok (.iadd, 1) := by decide +kernel
theorem dX2_gladWith_37 : decode cX2_gladWith 37 = .ok (.istore 4, 2) := by decide +kernel
theorem dX2_gladWith_39 : decode cX2_gladWith 39 = .ok (.iinc 5 1, 3) := by decide +kernel
theorem dX2_gladWith_42 : decode cX2_gladWith 42 = .ok (.goto (-36), 3) := by decide +kernel
theorem dX2_gladWith_45 : decode cX2_gladWith 45 = .ok (.iload 4, 2) := by decide +kernel
theorem dX2_gladWith_47 : decode cX2_gladWith 47 = .ok (.ireturn, 1) := by decide +kernel
theorem dX2_gladdestHold_0 : decode cX2_gladdestHold 0 = .ok (.aload_n 0, 1) := by decide +kernel
theorem dX2_gladdestHold_1 : decode cX2_gladdestHold 1 = .ok (.aload_n 1, 1) := by decide +kernel
theorem dX2_gladdestHold_2 : decode cX2_gladdestHold 2 = .ok (.iload_n 2, 1) := by decide +kernel
theorem dX2_gladdestHold_3 : decode cX2_gladdestHold 3 = .ok (.invokevirtual 83, 3) := by decide +kernel
theorem dX2_gladdestHold_6 : decode cX2_gladdestHold 6 = .ok (.iconst 0, 1) := by decide +kernel
theorem dX2_gladdestHold_7 : decode cX2_gladdestHold 7 = .ok (.istore_n 3, 1) := by decide +kernel
theorem dX2_gladdestHold_8 : decode cX2_gladdestHold 8 = .ok (.iconst (-1), 1) := by decide +kernel
theorem dX2_gladdestHold_9 : decode cX2_gladdestHold 9 = .ok (.istore 4, 2) := by decide +kernel
theorem dX2_gladdestHold_11 : decode cX2_gladdestHold 11 = .ok (.iconst 0, 1) := by decide +kernel
theorem dX2_gladdestHold_12 : decode cX2_gladdestHold 12 = .ok (.istore 5, 2) := by decide +kernel
theorem dX2_gladdestHold_14 : decode cX2_gladdestHold 14 = .ok (.iload 5, 2) := by decide +kernel
theorem dX2_gladdestHold_16 : decode cX2_gladdestHold 16 = .ok (.bipush 100, 2) := by decide +kernel
theorem dX2_gladdestHold_18 : decode cX2_gladdestHold 18 = .ok (.if_icmp .ge 33, 3) := by decide +kernel
theorem dX2_gladdestHold_21 : decode cX2_gladdestHold 21 = .ok (.aload_n 0, 1) := by decide +kernel
theorem dX2_gladdestHold_22 : decode cX2_gladdestHold 22 = .ok (.aload_n 1, 1) := by decide +kernel
theorem dX2_gladdestHold_23 : decode cX2_gladdestHold 23 = .ok (.iload_n 2, 1) := by decide +kernel
theorem dX2_gladdestHold_24 : decode cX2_gladdestHold 24 = .ok (.iload 5, 2) := by decide +kernel
theorem dX2_gladdestHold_26 : decode cX2_gladdestHold 26 = .ok (.invokevirtual 87, 3) := by decide +kernel
theorem dX2_gladdestHold_29 : decode cX2_gladdestHold 29 = .ok (.istore 6, 2) := by decide +kernel
theorem dX2_gladdestHold_31 : decode cX2_gladdestHold 31 = .ok (.iload 6, 2) := by decide +kernel
theorem dX2_gladdestHold_33 : decode cX2_gladdestHold 33 = .ok (.iload 4, 2) := by decide +kernel
theorem dX2_gladdestHold_35 : decode cX2_gladdestHold 35 = .ok (.if_icmp .le 10, 3) := by decide +kernel
theorem dX2_gladdestHold_38 : decode cX2_gladdestHold 38 = .ok (.iload 6, 2) := by decide +kernel
theorem dX2_gladdestHold_40 : decode cX2_gladdestHold 40 = .ok (.istore 4, 2) := by decide +kernel
theorem dX2_gladdestHold_42 : decode cX2_gladdestHold 42 = .ok (.iload 5, 2) := by decide +kernel
theorem dX2_gladdestHold_44 : decode cX2_gladdestHold 44 = .ok (.istore_n 3, 1) := by decide +kernel
theorem dX2_gladdestHold_45 : decode cX2_gladdestHold 45 = .ok (.iinc 5 1, 3) := by decide +kernel
theorem dX2_gladdestHold_48 : decode cX2_gladdestHold 48 = .ok (.goto (-34), 3) := by decide +kernel
theorem dX2_gladdestHold_51 : decode cX2_gladdestHold 51 = .ok (.iload_n 3, 1) := by decide +kernel
theorem dX2_gladdestHold_52 : decode cX2_gladdestHold 52 = .ok (.ireturn, 1) := by decide +kernel
theorem dX2_match_0 : decode cX2_match 0 = .ok (.aload_n 0, 1) := by decide +kernel
theorem dX2_match_1 : decode cX2_match 1 = .ok (.iconst 0, 1) := by decide +kernel
theorem dX2_match_2 : decode cX2_match 2 = .ok (.putfield 9, 3) := by decide +kernel
theorem dX2_match_5 : decode cX2_match 5 = .ok (.iconst 0, 1) := by decide +kernel
theorem dX2_match_6 : decode cX2_match 6 = .ok (.istore 4, 2) := by decide +kernel
theorem dX2_match_8 : decode cX2_match 8 = .ok (.iload 4, 2) := by decide +kernel
theorem dX2_match_10 : decode cX2_match 10 = .ok (.sipush 400, 3) := by decide +kernel
theorem dX2_match_13 : decode cX2_match 13 = .ok (.if_icmp .ge 17, 3) := by decide +kernel
theorem dX2_match_16 : decode cX2_match 16 = .ok (.aload_n 0, 1) := by decide +kernel
theorem dX2_match_17 : decode cX2_match 17 = .ok (.getfield 29, 3) := by decide +kernel
theorem dX2_match_20 : decode cX2_match 20 = .ok (.iload 4, 2) := by decide +kernel
theorem dX2_match_22 : decode cX2_match 22 = .ok (.iconst 0, 1) := by decide +kernel
theorem dX2_match_23 : decode cX2_match 23 = .ok (.bastore, 1) := by decide +kernel
theorem dX2_match_24 : decode cX2_match 24 = .ok (.iinc 4 1, 3) := by decide +kernel
theorem dX2_match_27 : decode cX2_match 27 = .ok (.goto (-19), 3) := by decide +kernel
theorem dX2_match_30 : decode cX2_match 30 = .ok (.iconst 0, 1) := by decide +kernel
theorem dX2_match_31 : decode cX2_match 31 = .ok (.istore 4, 2) := by decide +kernel
theorem dX2_match_33 : decode cX2_match 33 = .ok (.iload 4, 2) := by decide +kernel
theorem dX2_match_35 : decode cX2_match 35 = .ok (.aload_n 1, 1) := by decide +kernel
theorem dX2_match_36 : decode cX2_match 36 = .ok (.getfield 90, 3) := by decide +kernel
theorem dX2_match_39 : decode cX2_match 39 = .ok (.if_icmp .ge 69, 3) := by decide +kernel
theorem dX2_match_42 : decode cX2_match 42 = .ok (.aload_n 0, 1) := by decide +kernel
theorem dX2_match_43 : decode cX2_match 43 = .ok (.aload_n 1, 1) := by decide +kernel
theorem dX2_match_44 : decode cX2_match 44 = .ok (.iload 4, 2) := by decide +kernel
theorem dX2_match_46 : decode cX2_match 46 = .ok (.invokevirtual 83, 3) := by decide +kernel
theorem dX2_match_49 : decode cX2_match 49 = .ok (.iconst 0, 1) := by decide +kernel
theorem dX2_match_50 : decode cX2_match 50 = .ok (.istore 5, 2) := by decide +kernel
theorem dX2_match_52 : decode cX2_match 52 = .ok (.iload 5, 2) := by decide +kernel
theorem dX2_match_54 : decode cX2_match 54 = .ok (.bipush 100, 2) := by decide +kernel
theorem dX2_match_56 : decode cX2_match 56 = .ok (.if_icmp .ge 46, 3) := by decide +kernel
theorem dX2_match_59 : decode cX2_match 59 = .ok (.aload_n 0, 1) := by decide +kernel
theorem dX2_match_60 : decode cX2_match 60 = .ok (.aload_n 2, 1) := by decide +kernel
theorem dX2_match_61 : decode cX2_match 61 = .ok (.iload_n 3, 1) := by decide +kernel
theorem dX2_match_62 : decode cX2_match 62 = .ok (.iload 4, 2) := by decide +kernel
theorem dX2_match_64 : decode cX2_match 64 = .ok (.iload 5, 2) := by decide +kernel
theorem dX2_match_66 : decode cX2_match 66 = .ok (.invokevirtual 93, 3) := by decide +kernel
theorem dX2_match_69 : decode cX2_match 69 = .ok (.ifCond .eq 27, 3) := by decide +kernel
theorem dX2_match_72 : decode cX2_match 72 = .ok (.aload_n 0, 1) := by decide +kernel
theorem dX2_match_73 : decode cX2_match 73 = .ok (.getfield 29, 3) := by decide +kernel
theorem dX2_match_76 : decode cX2_match 76 = .ok (.iload 4, 2) := by decide +kernel
theorem dX2_match_78 : decode cX2_match 78 = .ok (.bipush 100, 2) := by decide +kernel
theorem dX2_match_80 : decode cX2_match 80 = .ok (.imul, 1) := by decide +kernel
theorem dX2_match_81 : decode cX2_match 81 = .ok (.iload 5, 2) := by decide +kernel
theorem dX2_match_83 : decode cX2_match 83 = .ok (.iadd, 1) := by decide +kernel
theorem dX2_match_84 : decode cX2_match 84 = .ok (.iconst 1, 1) := by decide +kernel
theorem dX2_match_85 : decode cX2_match 85 = .ok (.bastore, 1) := by decide +kernel
theorem dX2_match_86 : decode cX2_match 86 = .ok (.aload_n 0, 1) := by decide +kernel
theorem dX2_match_87 : decode cX2_match 87 = .ok (.dup, 1) := by decide +kernel
theorem dX2_match_88 : decode cX2_match 88 = .ok (.getfield 9, 3) := by decide +kernel
theorem dX2_match_91 : decode cX2_match 91 = .ok (.iconst 1, 1) := by decide +kernel
theorem dX2_match_92 : decode cX2_match 92 = .ok (.iadd, 1) := by decide +kernel
theorem dX2_match_93 : decode cX2_match 93 = .ok (.putfield 9, 3) := by decide +kernel
theorem dX2_match_96 : decode cX2_match 96 = .ok (.iinc 5 1, 3) := by decide +kernel
theorem dX2_match_99 : decode cX2_match 99 = .ok (.goto (-47), 3) := by decide +kernel
theorem dX2_match_102 : decode cX2_match 102 = .ok (.iinc 4 1, 3) := by decide +kernel
theorem dX2_match_105 : decode cX2_match 105 = .ok (.goto (-72), 3) := by decide +kernel
theorem dX2_match_108 : decode cX2_match 108 = .ok (.return_, 1) := by decide +kernel
theorem dX2_matches_0 : decode cX2_matches 0 = .ok (.iconst 0, 1) := by decide +kernel
theorem dX2_matches_1 : decode cX2_matches 1 = .ok (.istore 5, 2) := by decide +kernel
theorem dX2_matches_3 : decode cX2_matches 3 = .ok (.iload 5, 2) := by decide +kernel
theorem dX2_matches_5 : decode cX2_matches 5 = .ok (.iconst 1, 1) := by decide +kernel
theorem dX2_matches_6 : decode cX2_matches 6 = .ok (.iadd, 1) := by decide +kernel
theorem dX2_matches_7 : decode cX2_matches 7 = .ok (.aload_n 1, 1) := by decide +kernel
theorem dX2_matches_8 : decode cX2_matches 8 = .ok (.iload_n 2, 1) := by decide +kernel
theorem dX2_matches_9 : decode cX2_matches 9 = .ok (.invokevirtual 97, 3) := by decide +kernel
theorem dX2_matches_12 : decode cX2_matches 12 = .ok (.if_icmp .ge 47, 3) := by decide +kernel
theorem dX2_matches_15 : decode cX2_matches 15 = .ok (.aload_n 1, 1) := by decide +kernel
theorem dX2_matches_16 : decode cX2_matches 16 = .ok (.iload_n 2, 1) := by decide +kernel
theorem dX2_matches_17 : decode cX2_matches 17 = .ok (.iload 5, 2) := by decide +kernel
theorem dX2_matches_19 : decode cX2_matches 19 = .ok (.invokevirtual 103, 3) := by decide +kernel
theorem dX2_matches_22 : decode cX2_matches 22 = .ok (.l2i, 1) := by decide +kernel
theorem dX2_matches_23 : decode cX2_matches 23 = .ok (.istore 6, 2) := by decide +kernel
theorem dX2_matches_25 : decode cX2_matches 25 = .ok (.aload_n 0, 1) := by decide +kernel
theorem dX2_matches_26 : decode cX2_matches 26 = .ok (.iload_n 3, 1) := by decide +kernel
theorem dX2_matches_27 : decode cX2_matches 27 = .ok (.iload 4, 2) := by decide +kernel
theorem dX2_matches_29 : decode cX2_matches 29 = .ok (.iload 6, 2) := by decide +kernel
theorem dX2_matches_31 : decode cX2_matches 31 = .ok (.invokevirtual 75, 3) := by decide +kernel
theorem dX2_matches_34 : decode cX2_matches 34 = .ok (.invokestatic 107, 3) := by decide +kernel
theorem dX2_matches_37 : decode cX2_matches 37 = .ok (.i2l, 1) := by decide +kernel
theorem dX2_matches_38 : decode cX2_matches 38 = .ok (.aload_n 1, 1) := by decide +kernel
theorem dX2_matches_39 : decode cX2_matches 39 = .ok (.iload_n 2, 1) := by decide +kernel
theorem dX2_matches_40 : decode cX2_matches 40 = .ok (.iload 5, 2) := by decide +kernel
theorem dX2_matches_42 : decode cX2_matches 42 = .ok (.iconst 1, 1) := by decide +kernel
theorem dX2_matches_43 : decode cX2_matches 43 = .ok (.iadd, 1) := by decide +kernel
theorem dX2_matches_44 : decode cX2_matches 44 = .ok (.invokevirtual 103, 3) := by decide +kernel
theorem dX2_matches_47 : decode cX2_matches 47 = .ok (.lcmp, 1) := by decide +kernel
theorem dX2_matches_48 : decode cX2_matches 48 = .ok (.ifCond .eq 5, 3) := by decide +kernel
theorem dX2_matches_51 : decode cX2_matches 51 = .ok (.iconst 0, 1) := by decide +kernel
theorem dX2_matches_52 : decode cX2_matches 52 = .ok (.ireturn, 1) := by decide +kernel
theorem dX2_matches_53 : decode cX2_matches 53 = .ok (.iinc 5 2, 3) := by decide +kernel
theorem dX2_matches_56 : decode cX2_matches 56 = .ok (.goto (-53), 3) := by decide +kernel
theorem dX2_matches_59 : decode cX2_matches 59 = .ok (.iconst 1, 1) := by decide +kernel
theorem dX2_matches_60 : decode cX2_matches 60 = .ok (.ireturn, 1) := by decide +kernel
theorem dX2_leastFitting_0 : decode cX2_leastFitting 0 = .ok (.iconst 0, 1) := by decide +kernel
theorem dX2_leastFitting_1 : decode cX2_leastFitting 1 = .ok (.istore_n 2, 1) := by decide +kernel
theorem dX2_leastFitting_2 : decode cX2_leastFitting 2 = .ok (.iload_n 2, 1) := by decide +kernel
theorem dX2_leastFitting_3 : decode cX2_leastFitting 3 = .ok (.bipush 100, 2) := by decide +kernel
theorem dX2_leastFitting_5 : decode cX2_leastFitting 5 = .ok (.if_icmp .ge 25, 3) := by decide +kernel
theorem dX2_leastFitting_8 : decode cX2_leastFitting 8 = .ok (.aload_n 0, 1) := by decide +kernel
theorem dX2_leastFitting_9 : decode cX2_leastFitting 9 = .ok (.getfield 29, 3) := by decide +kernel
theorem dX2_leastFitting_12 : decode cX2_leastFitting 12 = .ok (.iload_n 1, 1) := by decide +kernel
theorem dX2_leastFitting_13 : decode cX2_leastFitting 13 = .ok (.bipush 100, 2) := by decide +kernel
theorem dX2_leastFitting_15 : decode cX2_leastFitting 15 = .ok (.imul, 1) := by decide +kernel
theorem dX2_leastFitting_16 : decode cX2_leastFitting 16 = .ok (.iload_n 2, 1) := by decide +kernel
theorem dX2_leastFitting_17 : decode cX2_leastFitting 17 = .ok (.iadd, 1) := by decide +kernel
theorem dX2_leastFitting_18 : decode cX2_leastFitting 18 = .ok (.baload, 1) := by decide +kernel
theorem dX2_leastFitting_19 : decode cX2_leastFitting 19 = .ok (.ifCond .eq 5, 3) := by decide +kernel
theorem dX2_leastFitting_22 : decode cX2_leastFitting 22 = .ok (.iload_n 2, 1) := by decide +kernel
theorem dX2_leastFitting_23 : decode cX2_leastFitting 23 = .ok (.ireturn, 1) := by decide +kernel
theorem dX2_leastFitting_24 : decode cX2_leastFitting 24 = .ok (.iinc 2 1, 3) := by decide +kernel
theorem dX2_leastFitting_27 : decode cX2_leastFitting 27 = .ok (.goto (-25), 3) := by decide +kernel
theorem dX2_leastFitting_30 : decode cX2_leastFitting 30 = .ok (.iconst (-1), 1) := by decide +kernel
