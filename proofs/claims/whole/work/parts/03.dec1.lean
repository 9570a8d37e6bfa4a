theorem dX0_add_0 : decode cX0_add 0 = .ok (.aload_n 0, 1) := by decide +kernel
theorem dX0_add_1 : decode cX0_add 1 = .ok (.getfield 24, 3) := by decide +kernel
theorem dX0_add_4 : decode cX0_add 4 = .ok (.sipush 200, 3) := by decide +kernel
theorem dX0_add_7 : decode cX0_add 7 = .ok (.if_icmp .ge 54, 3) := by decide +kernel
theorem dX0_add_10 : decode cX0_add 10 = .ok (.aload_n 0, 1) := by decide +kernel
theorem dX0_add_11 : decode cX0_add 11 = .ok (.getfield 9, 3) := by decide +kernel
theorem dX0_add_14 : decode cX0_add 14 = .ok (.aload_n 0, 1) := by decide +kernel
theorem dX0_add_15 : decode cX0_add 15 = .ok (.getfield 24, 3) := by decide +kernel
theorem dX0_add_18 : decode cX0_add 18 = .ok (.iload_n 1, 1) := by decide +kernel
theorem dX0_add_19 : decode cX0_add 19 = .ok (.iastore, 1) := by decide +kernel
theorem dX0_add_20 : decode cX0_add 20 = .ok (.aload_n 0, 1) := by decide +kernel
theorem dX0_add_21 : decode cX0_add 21 = .ok (.getfield 15, 3) := by decide +kernel
theorem dX0_add_24 : decode cX0_add 24 = .ok (.aload_n 0, 1) := by decide +kernel
theorem dX0_add_25 : decode cX0_add 25 = .ok (.getfield 24, 3) := by decide +kernel
theorem dX0_add_28 : decode cX0_add 28 = .ok (.iload_n 2, 1) := by decide +kernel
theorem dX0_add_29 : decode cX0_add 29 = .ok (.iastore, 1) := by decide +kernel
theorem dX0_add_30 : decode cX0_add 30 = .ok (.aload_n 0, 1) := by decide +kernel
theorem dX0_add_31 : decode cX0_add 31 = .ok (.getfield 18, 3) := by decide +kernel
theorem dX0_add_34 : decode cX0_add 34 = .ok (.aload_n 0, 1) := by decide +kernel
theorem dX0_add_35 : decode cX0_add 35 = .ok (.getfield 24, 3) := by decide +kernel
theorem dX0_add_38 : decode cX0_add 38 = .ok (.iload_n 3, 1) := by decide +kernel
theorem dX0_add_39 : decode cX0_add 39 = .ok (.iastore, 1) := by decide +kernel
theorem dX0_add_40 : decode cX0_add 40 = .ok (.aload_n 0, 1) := by decide +kernel
theorem dX0_add_41 : decode cX0_add 41 = .ok (.getfield 21, 3) := by decide +kernel
theorem dX0_add_44 : decode cX0_add 44 = .ok (.aload_n 0, 1) := by decide +kernel
theorem dX0_add_45 : decode cX0_add 45 = .ok (.getfield 24, 3) := by decide +kernel
theorem dX0_add_48 : decode cX0_add 48 = .ok (.iload 4, 2) := by decide +kernel
theorem dX0_add_50 : decode cX0_add 50 = .ok (.iastore, 1) := by decide +kernel
theorem dX0_add_51 : decode cX0_add 51 = .ok (.aload_n 0, 1) := by decide +kernel
theorem dX0_add_52 : decode cX0_add 52 = .ok (.dup, 1) := by decide +kernel
theorem dX0_add_53 : decode cX0_add 53 = .ok (.getfield 24, 3) := by decide +kernel
theorem dX0_add_56 : decode cX0_add 56 = .ok (.iconst 1, 1) := by decide +kernel
theorem dX0_add_57 : decode cX0_add 57 = .ok (.iadd, 1) := by decide +kernel
theorem dX0_add_58 : decode cX0_add 58 = .ok (.putfield 24, 3) := by decide +kernel
theorem dX0_add_61 : decode cX0_add 61 = .ok (.return_, 1) := by decide +kernel
theorem dX0_clear_0 : decode cX0_clear 0 = .ok (.aload_n 0, 1) := by decide +kernel
theorem dX0_clear_1 : decode cX0_clear 1 = .ok (.iconst 0, 1) := by decide +kernel
theorem dX0_clear_2 : decode cX0_clear 2 = .ok (.putfield 24, 3) := by decide +kernel
theorem dX0_clear_5 : decode cX0_clear 5 = .ok (.return_, 1) := by decide +kernel
theorem dX0_init_0 : decode cX0_init 0 = .ok (.aload_n 0, 1) := by decide +kernel
theorem dX0_init_1 : decode cX0_init 1 = .ok (.invokespecial 3, 3) := by decide +kernel
theorem dX0_init_4 : decode cX0_init 4 = .ok (.aload_n 0, 1) := by decide +kernel
theorem dX0_init_5 : decode cX0_init 5 = .ok (.sipush 200, 3) := by decide +kernel
theorem dX0_init_8 : decode cX0_init 8 = .ok (.newarray .int, 2) := by decide +kernel
theorem dX0_init_10 : decode cX0_init 10 = .ok (.putfield 9, 3) := by decide +kernel
theorem dX0_init_13 : decode cX0_init 13 = .ok (.aload_n 0, 1) := by decide +kernel
theorem dX0_init_14 : decode cX0_init 14 = .ok (.sipush 200, 3) := by decide +kernel
theorem dX0_init_17 : decode cX0_init 17 = .ok (.newarray .int, 2) := by decide +kernel
theorem dX0_init_19 : decode cX0_init 19 = .ok (.putfield 15, 3) := by decide +kernel
theorem dX0_init_22 : decode cX0_init 22 = .ok (.aload_n 0, 1) := by decide +kernel
theorem dX0_init_23 : decode cX0_init 23 = .ok (.sipush 200, 3) := by decide +kernel
theorem dX0_init_26 : decode cX0_init 26 = .ok (.newarray .int, 2) := by decide +kernel
theorem dX0_init_28 : decode cX0_init 28 = .ok (.putfield 18, 3) := by decide +kernel
theorem dX0_init_31 : decode cX0_init 31 = .ok (.aload_n 0, 1) := by decide +kernel
theorem dX0_init_32 : decode cX0_init 32 = .ok (.sipush 200, 3) := by decide +kernel
theorem dX0_init_35 : decode cX0_init 35 = .ok (.newarray .int, 2) := by decide +kernel
theorem dX0_init_37 : decode cX0_init 37 = .ok (.putfield 21, 3) := by decide +kernel
theorem dX0_init_40 : decode cX0_init 40 = .ok (.return_, 1) := by decide +kernel
theorem dX1_add_0 : decode cX1_add 0 = .ok (.aload_n 0, 1) := by decide +kernel
theorem dX1_add_1 : decode cX1_add 1 = .ok (.getfield 34, 3) := by decide +kernel
theorem dX1_add_4 : decode cX1_add 4 = .ok (.istore 4, 2) := by decide +kernel
theorem dX1_add_6 : decode cX1_add 6 = .ok (.aload_n 0, 1) := by decide +kernel
theorem dX1_add_7 : decode cX1_add 7 = .ok (.getfield 9, 3) := by decide +kernel
theorem dX1_add_10 : decode cX1_add 10 = .ok (.iload 4, 2) := by decide +kernel
theorem dX1_add_12 : decode cX1_add 12 = .ok (.iload_n 1, 1) := by decide +kernel
theorem dX1_add_13 : decode cX1_add 13 = .ok (.iastore, 1) := by decide +kernel
theorem dX1_add_14 : decode cX1_add 14 = .ok (.aload_n 0, 1) := by decide +kernel
theorem dX1_add_15 : decode cX1_add 15 = .ok (.getfield 15, 3) := by decide +kernel
theorem dX1_add_18 : decode cX1_add 18 = .ok (.iload 4, 2) := by decide +kernel
theorem dX1_add_20 : decode cX1_add 20 = .ok (.iload_n 2, 1) := by decide +kernel
theorem dX1_add_21 : decode cX1_add 21 = .ok (.iastore, 1) := by decide +kernel
theorem dX1_add_22 : decode cX1_add 22 = .ok (.aload_n 0, 1) := by decide +kernel
theorem dX1_add_23 : decode cX1_add 23 = .ok (.getfield 18, 3) := by decide +kernel
theorem dX1_add_26 : decode cX1_add 26 = .ok (.iload 4, 2) := by decide +kernel
theorem dX1_add_28 : decode cX1_add 28 = .ok (.iload_n 3, 1) := by decide +kernel
theorem dX1_add_29 : decode cX1_add 29 = .ok (.iastore, 1) := by decide +kernel
theorem dX1_add_30 : decode cX1_add 30 = .ok (.aload_n 0, 1) := by decide +kernel
theorem dX1_add_31 : decode cX1_add 31 = .ok (.getfield 21, 3) := by decide +kernel
theorem dX1_add_34 : decode cX1_add 34 = .ok (.iload 4, 2) := by decide +kernel
theorem dX1_add_36 : decode cX1_add 36 = .ok (.iconst (-1), 1) := by decide +kernel
theorem dX1_add_37 : decode cX1_add 37 = .ok (.iastore, 1) := by decide +kernel
theorem dX1_add_38 : decode cX1_add 38 = .ok (.aload_n 0, 1) := by decide +kernel
theorem dX1_add_39 : decode cX1_add 39 = .ok (.iload 4, 2) := by decide +kernel
theorem dX1_add_41 : decode cX1_add 41 = .ok (.invokevirtual 38, 3) := by decide +kernel
theorem dX1_add_44 : decode cX1_add 44 = .ok (.aload_n 0, 1) := by decide +kernel
theorem dX1_add_45 : decode cX1_add 45 = .ok (.dup, 1) := by decide +kernel
theorem dX1_add_46 : decode cX1_add 46 = .ok (.getfield 34, 3) := by decide +kernel
theorem dX1_add_49 : decode cX1_add 49 = .ok (.iconst 1, 1) := by decide +kernel
theorem dX1_add_50 : decode cX1_add 50 = .ok (.iadd, 1) := by decide +kernel
theorem dX1_add_51 : decode cX1_add 51 = .ok (.putfield 34, 3) := by decide +kernel
theorem dX1_add_54 : decode cX1_add 54 = .ok (.iload 4, 2) := by decide +kernel
theorem dX1_add_56 : decode cX1_add 56 = .ok (.ireturn, 1) := by decide +kernel
theorem dX1_canUse_0 : decode cX1_canUse 0 = .ok (.iload_n 2, 1) := by decide +kernel
theorem dX1_canUse_1 : decode cX1_canUse 1 = .ok (.aload_n 0, 1) := by decide +kernel
theorem dX1_canUse_2 : decode cX1_canUse 2 = .ok (.getfield 18, 3) := by decide +kernel
theorem dX1_canUse_5 : decode cX1_canUse 5 = .ok (.iload_n 1, 1) := by decide +kernel
theorem dX1_canUse_6 : decode cX1_canUse 6 = .ok (.iaload, 1) := by decide +kernel
theorem dX1_canUse_7 : decode cX1_canUse 7 = .ok (.if_icmp .lt 7, 3) := by decide +kernel
theorem dX1_canUse_10 : decode cX1_canUse 10 = .ok (.iconst 1, 1) := by decide +kernel
theorem dX1_canUse_11 : decode cX1_canUse 11 = .ok (.goto 4, 3) := by decide +kernel
theorem dX1_canUse_14 : decode cX1_canUse 14 = .ok (.iconst 0, 1) := by decide +kernel
theorem dX1_canUse_15 : decode cX1_canUse 15 = .ok (.ireturn, 1) := by decide +kernel
theorem dX1_init_0 : decode cX1_init 0 = .ok (.aload_n 0, 1) := by decide +kernel
theorem dX1_init_1 : decode cX1_init 1 = .ok (.invokespecial 3, 3) := by decide +kernel
theorem dX1_init_4 : decode cX1_init 4 = .ok (.aload_n 0, 1) := by decide +kernel
theorem dX1_init_5 : decode cX1_init 5 = .ok (.bipush 60, 2) := by decide +kernel
theorem dX1_init_7 : decode cX1_init 7 = .ok (.newarray .int, 2) := by decide +kernel
theorem dX1_init_9 : decode cX1_init 9 = .ok (.putfield 9, 3) := by decide +kernel
theorem dX1_init_12 : decode cX1_init 12 = .ok (.aload_n 0, 1) := by decide +kernel
theorem dX1_init_13 : decode cX1_init 13 = .ok (.bipush 60, 2) := by decide +kernel
theorem dX1_init_15 : decode cX1_init 15 = .ok (.newarray .int, 2) := by decide +kernel
theorem dX1_init_17 : decode cX1_init 17 = .ok (.putfield 15, 3) := by decide +kernel
theorem dX1_init_20 : decode cX1_init 20 = .ok (.aload_n 0, 1) := by decide +kernel
theorem dX1_init_21 : decode cX1_init 21 = .ok (.bipush 60, 2) := by decide +kernel
theorem dX1_init_23 : decode cX1_init 23 = .ok (.newarray .int, 2) := by decide +kernel
theorem dX1_init_25 : decode cX1_init 25 = .ok (.putfield 18, 3) := by decide +kernel
theorem dX1_init_28 : decode cX1_init 28 = .ok (.aload_n 0, 1) := by decide +kernel
theorem dX1_init_29 : decode cX1_init 29 = .ok (.bipush 60, 2) := by decide +kernel
theorem dX1_init_31 : decode cX1_init 31 = .ok (.newarray .int, 2) := by decide +kernel
theorem dX1_init_33 : decode cX1_init 33 = .ok (.putfield 21, 3) := by decide +kernel
theorem dX1_init_36 : decode cX1_init 36 = .ok (.aload_n 0, 1) := by decide +kernel
theorem dX1_init_37 : decode cX1_init 37 = .ok (.bipush 60, 2) := by decide +kernel
theorem dX1_init_39 : decode cX1_init 39 = .ok (.newarray .boolean, 2) := by decide +kernel
theorem dX1_init_41 : decode cX1_init 41 = .ok (.putfield 24, 3) := by decide +kernel
theorem dX1_init_44 : decode cX1_init 44 = .ok (.aload_n 0, 1) := by decide +kernel
theorem dX1_init_45 : decode cX1_init 45 = .ok (.bipush 60, 2) := by decide +kernel
theorem dX1_init_47 : decode cX1_init 47 = .ok (.newarray .boolean, 2) := by decide +kernel
theorem dX1_init_49 : decode cX1_init 49 = .ok (.putfield 28, 3) := by decide +kernel
theorem dX1_init_52 : decode cX1_init 52 = .ok (.aload_n 0, 1) := by decide +kernel
theorem dX1_init_53 : decode cX1_init 53 = .ok (.bipush 60, 2) := by decide +kernel
theorem dX1_init_55 : decode cX1_init 55 = .ok (.newarray .int, 2) := by decide +kernel
theorem dX1_init_57 : decode cX1_init 57 = .ok (.putfield 31, 3) := by decide +kernel
theorem dX1_init_60 : decode cX1_init 60 = .ok (.return_, 1) := by decide +kernel
theorem dX1_insertBySchedule_0 : decode cX1_insertBySchedule 0 = .ok (.iload_n 1, 1) := by decide +kernel
theorem dX1_insertBySchedule_1 : decode cX1_insertBySchedule 1 = .ok (.istore_n 2, 1) := by decide +kernel
theorem dX1_insertBySchedule_2 : decode cX1_insertBySchedule 2 = .ok (.iload_n 2, 1) := by decide +kernel
theorem dX1_insertBySchedule_3 : decode cX1_insertBySchedule 3 = .ok (.ifCond .le 45, 3) := by decide +kernel
theorem dX1_insertBySchedule_6 : decode cX1_insertBySchedule 6 = .ok (.aload_n 0, 1) := by decide +kernel
theorem dX1_insertBySchedule_7 : decode cX1_insertBySchedule 7 = .ok (.getfield 15, 3) := by decide +kernel
theorem dX1_insertBySchedule_10 : decode cX1_insertBySchedule 10 = .ok (.aload_n 0, 1) := by decide +kernel
theorem dX1_insertBySchedule_11 : decode cX1_insertBySchedule 11 = .ok (.getfield 31, 3) := by decide +kernel
theorem dX1_insertBySchedule_14 : decode cX1_insertBySchedule 14 = .ok (.iload_n 2, 1) := by decide +kernel
theorem dX1_insertBySchedule_15 : decode cX1_insertBySchedule 15 = .ok (.iconst 1, 1) := by decide +kernel
theorem dX1_insertBySchedule_16 : decode cX1_insertBySchedule 16 = .ok (.isub, 1) := by decide +kernel
theorem dX1_insertBySchedule_17 : decode cX1_insertBySchedule 17 = .ok (.iaload, 1) := by decide +kernel
theorem dX1_insertBySchedule_18 : decode cX1_insertBySchedule 18 = .ok (.iaload, 1) := by decide +kernel
theorem dX1_insertBySchedule_19 : decode cX1_insertBySchedule 19 = .ok (.aload_n 0, 1) := by decide +kernel
theorem dX1_insertBySchedule_20 : decode cX1_insertBySchedule 20 = .ok (.getfield 15, 3) := by decide +kernel
theorem dX1_insertBySchedule_23 : decode cX1_insertBySchedule 23 = .ok (.iload_n 1, 1) := by decide +kernel
theorem dX1_insertBySchedule_24 : decode cX1_insertBySchedule 24 = .ok (.iaload, 1) := by decide +kernel
theorem dX1_insertBySchedule_25 : decode cX1_insertBySchedule 25 = .ok (.if_icmp .le 23, 3) := by decide +kernel
theorem dX1_insertBySchedule_28 : decode cX1_insertBySchedule 28 = .ok (.aload_n 0, 1) := by decide +kernel
theorem dX1_insertBySchedule_29 : decode cX1_insertBySchedule 29 = .ok (.getfield 31, 3) := by decide +kernel
theorem dX1_insertBySchedule_32 : decode cX1_insertBySchedule 32 = .ok (.iload_n 2, 1) := by decide +kernel
theorem dX1_insertBySchedule_33 : decode cX1_insertBySchedule 33 = .ok (.aload_n 0, 1) := by decide +kernel
theorem dX1_insertBySchedule_34 : decode cX1_insertBySchedule 34 = .ok (.getfield 31, 3) := by decide +kernel
theorem dX1_insertBySchedule_37 : decode cX1_insertBySchedule 37 = .ok (.iload_n 2, 1) := by decide +kernel
theorem dX1_insertBySchedule_38 : decode cX1_insertBySchedule 38 = .ok (.iconst 1, 1) := by decide +kernel
theorem dX1_insertBySchedule_39 : decode cX1_insertBySchedule 39 = .ok (.isub, 1) := by decide +kernel
theorem dX1_insertBySchedule_40 : decode cX1_insertBySchedule 40 = .ok (.iaload, 1) := by decide +kernel
theorem dX1_insertBySchedule_41 : decode cX1_insertBySchedule 41 = .ok (.iastore, 1) := by decide +kernel
theorem dX1_insertBySchedule_42 : decode cX1_insertBySchedule 42 = .ok (.iinc 2 (-1), 3) := by decide +kernel
theorem dX1_insertBySchedule_45 : decode cX1_insertBySchedule 45 = .ok (.goto (-43), 3) := by decide +kernel
theorem dX1_insertBySchedule_48 : decode cX1_insertBySchedule 48 = .ok (.aload_n 0, 1) := by decide +kernel
theorem dX1_insertBySchedule_49 : decode cX1_insertBySchedule 49 = .ok (.getfield 31, 3) := by decide +kernel
theorem dX1_insertBySchedule_52 : decode cX1_insertBySchedule 52 = .ok (.iload_n 2, 1) := by decide +kernel
theorem dX1_insertBySchedule_53 : decode cX1_insertBySchedule 53 = .ok (.iload_n 1, 1) := by decide +kernel
theorem dX1_insertBySchedule_54 : decode cX1_insertBySchedule 54 = .ok (.iastore, 1) := by decide +kernel
theorem dX1_insertBySchedule_55 : decode cX1_insertBySchedule 55 = .ok (.return_, 1) := by decide +kernel
theorem dX1_isPlannable_0 : decode cX1_isPlannable 0 = .ok (.aload_n 0, 1) := by decide +kernel
theorem dX1_isPlannable_1 : decode cX1_isPlannable 1 = .ok (.getfield 24, 3) := by decide +kernel
theorem dX1_isPlannable_4 : decode cX1_isPlannable 4 = .ok (.iload_n 1, 1) := by decide +kernel
theorem dX1_isPlannable_5 : decode cX1_isPlannable 5 = .ok (.baload, 1) := by decide +kernel
theorem dX1_isPlannable_6 : decode cX1_isPlannable 6 = .ok (.ifCond .ne 16, 3) := by decide +kernel
theorem dX1_isPlannable_9 : decode cX1_isPlannable 9 = .ok (.aload_n 0, 1) := by decide +kernel
theorem dX1_isPlannable_10 : decode cX1_isPlannable 10 = .ok (.getfield 28, 3) := by decide +kernel
theorem dX1_isPlannable_13 : decode cX1_isPlannable 13 = .ok (.iload_n 1, 1) := by decide +kernel
theorem dX1_isPlannable_14 : decode cX1_isPlannable 14 = .ok (.baload, 1) := by decide +kernel
theorem dX1_isPlannable_15 : decode cX1_isPlannable 15 = .ok (.ifCond .ne 7, 3) := by decide +kernel
theorem dX1_isPlannable_18 : decode cX1_isPlannable 18 = .ok (.iconst 1, 1) := by decide +kernel
theorem dX1_isPlannable_19 : decode cX1_isPlannable 19 = .ok (.goto 4, 3) := by decide +kernel
theorem dX1_isPlannable_22 : decode cX1_isPlannable 22 = .ok (.iconst 0, 1) := by decide +kernel
theorem dX1_isPlannable_23 : decode cX1_isPlannable 23 = .ok (.ireturn, 1) := by decide +kernel
theorem dX2_add_0 : decode cX2_add 0 = .ok (.aload_n 0, 1) := by decide +kernel
theorem dX2_add_1 : decode cX2_add 1 = .ok (.getfield 25, 3) := by decide +kernel
theorem dX2_add_4 : decode cX2_add 4 = .ok (.istore 4, 2) := by decide +kernel
theorem dX2_add_6 : decode cX2_add 6 = .ok (.aload_n 0, 1) := by decide +kernel
theorem dX2_add_7 : decode cX2_add 7 = .ok (.getfield 9, 3) := by decide +kernel
theorem dX2_add_10 : decode cX2_add 10 = .ok (.iload 4, 2) := by decide +kernel
theorem dX2_add_12 : decode cX2_add 12 = .ok (.iload_n 1, 1) := by decide +kernel
theorem dX2_add_13 : decode cX2_add 13 = .ok (.iastore, 1) := by decide +kernel
theorem dX2_add_14 : decode cX2_add 14 = .ok (.aload_n 0, 1) := by decide +kernel
theorem dX2_add_15 : decode cX2_add 15 = .ok (.getfield 15, 3) := by decide +kernel
theorem dX2_add_18 : decode cX2_add 18 = .ok (.iload 4, 2) := by decide +kernel
theorem dX2_add_20 : decode cX2_add 20 = .ok (.iload_n 2, 1) := by decide +kernel
theorem dX2_add_21 : decode cX2_add 21 = .ok (.iastore, 1) := by decide +kernel
theorem dX2_add_22 : decode cX2_add 22 = .ok (.aload_n 0, 1) := by decide +kernel
theorem dX2_add_23 : decode cX2_add 23 = .ok (.getfield 18, 3) := by decide +kernel
theorem dX2_add_26 : decode cX2_add 26 = .ok (.iload 4, 2) := by decide +kernel
theorem dX2_add_28 : decode cX2_add 28 = .ok (.iload_n 3, 1) := by decide +kernel
theorem dX2_add_29 : decode cX2_add 29 = .ok (.iastore, 1) := by decide +kernel
theorem dX2_add_30 : decode cX2_add 30 = .ok (.aload_n 0, 1) := by decide +kernel
theorem dX2_add_31 : decode cX2_add 31 = .ok (.getfield 21, 3) := by decide +kernel
theorem dX2_add_34 : decode cX2_add 34 = .ok (.iload 4, 2) := by decide +kernel
theorem dX2_add_36 : decode cX2_add 36 = .ok (.iconst 1, 1) := by decide +kernel
theorem dX2_add_37 : decode cX2_add 37 = .ok (.bastore, 1) := by decide +kernel
theorem dX2_add_38 : decode cX2_add 38 = .ok (.aload_n 0, 1) := by decide +kernel
theorem dX2_add_39 : decode cX2_add 39 = .ok (.dup, 1) := by decide +kernel
theorem dX2_add_40 : decode cX2_add 40 = .ok (.getfield 25, 3) := by decide +kernel
theorem dX2_add_43 : decode cX2_add 43 = .ok (.iconst 1, 1) := by decide +kernel
theorem dX2_add_44 : decode cX2_add 44 = .ok (.iadd, 1) := by decide +kernel
theorem dX2_add_45 : decode cX2_add 45 = .ok (.putfield 25, 3) := by decide +kernel
theorem dX2_add_48 : decode cX2_add 48 = .ok (.iload 4, 2) := by decide +kernel
theorem dX2_add_50 : decode cX2_add 50 = .ok (.ireturn, 1) := by decide +kernel
theorem dX2_areOpposite_0 : decode cX2_areOpposite 0 = .ok (.aload_n 0, 1) := by decide +kernel
theorem dX2_areOpposite_1 : decode cX2_areOpposite 1 = .ok (.getfield 9, 3) := by decide +kernel
theorem dX2_areOpposite_4 : decode cX2_areOpposite 4 = .ok (.iload_n 1, 1) := by decide +kernel
theorem dX2_areOpposite_5 : decode cX2_areOpposite 5 = .ok (.iaload, 1) := by decide +kernel
theorem dX2_areOpposite_6 : decode cX2_areOpposite 6 = .ok (.aload_n 0, 1) := by decide +kernel
theorem dX2_areOpposite_7 : decode cX2_areOpposite 7 = .ok (.getfield 9, 3) := by decide +kernel
theorem dX2_areOpposite_10 : decode cX2_areOpposite 10 = .ok (.iload_n 2, 1) := by decide +kernel
theorem dX2_areOpposite_11 : decode cX2_areOpposite 11 = .ok (.iaload, 1) := by decide +kernel
theorem dX2_areOpposite_12 : decode cX2_areOpposite 12 = .ok (.if_icmp .eq 37, 3) := by decide +kernel
theorem dX2_areOpposite_15 : decode cX2_areOpposite 15 = .ok (.aload_n 0, 1) := by decide +kernel
theorem dX2_areOpposite_16 : decode cX2_areOpposite 16 = .ok (.getfield 15, 3) := by decide +kernel
theorem dX2_areOpposite_19 : decode cX2_areOpposite 19 = .ok (.iload_n 1, 1) := by decide +kernel
theorem dX2_areOpposite_20 : decode cX2_areOpposite 20 = .ok (.iaload, 1) := by decide +kernel
theorem dX2_areOpposite_21 : decode cX2_areOpposite 21 = .ok (.aload_n 0, 1) := by decide +kernel
theorem dX2_areOpposite_22 : decode cX2_areOpposite 22 = .ok (.getfield 18, 3) := by decide +kernel
theorem dX2_areOpposite_25 : decode cX2_areOpposite 25 = .ok (.iload_n 2, 1) := by decide +kernel
theorem dX2_areOpposite_26 : decode cX2_areOpposite 26 = .ok (.iaload, 1) := by decide +kernel
theorem dX2_areOpposite_27 : decode cX2_areOpposite 27 = .ok (.if_icmp .ne 22, 3) := by decide +kernel
theorem dX2_areOpposite_30 : decode cX2_areOpposite 30 = .ok (.aload_n 0, 1) := by decide +kernel
theorem dX2_areOpposite_31 : decode cX2_areOpposite 31 = .ok (.getfield 18, 3) := by decide +kernel
theorem dX2_areOpposite_34 : decode cX2_areOpposite 34 = .ok (.iload_n 1, 1) := by decide +kernel
theorem dX2_areOpposite_35 : decode cX2_areOpposite 35 = .ok (.iaload, 1) := by decide +kernel
theorem dX2_areOpposite_36 : decode cX2_areOpposite 36 = .ok (.aload_n 0, 1) := by decide +kernel
theorem dX2_areOpposite_37 : decode cX2_areOpposite 37 = .ok (.getfield 15, 3) := by decide +kernel
theorem dX2_areOpposite_40 : decode cX2_areOpposite 40 = .ok (.iload_n 2, 1) := by decide +kernel
theorem dX2_areOpposite_41 : decode cX2_areOpposite 41 = .ok (.iaload, 1) := by decide +kernel
theorem dX2_areOpposite_42 : decode cX2_areOpposite 42 = .ok (.if_icmp .ne 7, 3) := by decide +kernel
theorem dX2_areOpposite_45 : decode cX2_areOpposite 45 = .ok (.iconst 1, 1) := by decide +kernel
theorem dX2_areOpposite_46 : decode cX2_areOpposite 46 = .ok (.goto 4, 3) := by decide +kernel
theorem dX2_areOpposite_49 : decode cX2_areOpposite 49 = .ok (.iconst 0, 1) := by decide +kernel
theorem dX2_areOpposite_50 : decode cX2_areOpposite 50 = .ok (.ireturn, 1) := by decide +kernel
theorem dX2_init_0 : decode cX2_init 0 = .ok (.aload_n 0, 1) := by decide +kernel
theorem dX2_init_1 : decode cX2_init 1 = .ok (.invokespecial 3, 3) := by decide +kernel
theorem dX2_init_4 : decode cX2_init 4 = .ok (.aload_n 0, 1) := by decide +kernel
theorem dX2_init_5 : decode cX2_init 5 = .ok (.bipush 40, 2) := by decide +kernel
theorem dX2_init_7 : decode cX2_init 7 = .ok (.newarray .int, 2) := by decide +kernel
theorem dX2_init_9 : decode cX2_init 9 = .ok (.putfield 9, 3) := by decide +kernel
theorem dX2_init_12 : decode cX2_init 12 = .ok (.aload_n 0, 1) := by decide +kernel
theorem dX2_init_13 : decode cX2_init 13 = .ok (.bipush 40, 2) := by decide +kernel
theorem dX2_init_15 : decode cX2_init 15 = .ok (.newarray .int, 2) := by decide +kernel
theorem dX2_init_17 : decode cX2_init 17 = .ok (.putfield 15, 3) := by decide +kernel
theorem dX2_init_20 : decode cX2_init 20 = .ok (.aload_n 0, 1) := by decide +kernel
theorem dX2_init_21 : decode cX2_init 21 = .ok (.bipush 40, 2) := by decide +kernel
theorem dX2_init_23 : decode cX2_init 23 = .ok (.newarray .int, 2) := by decide +kernel
theorem dX2_init_25 : decode cX2_init 25 = .ok (.putfield 18, 3) := by decide +kernel
theorem dX2_init_28 : decode cX2_init 28 = .ok (.aload_n 0, 1) := by decide +kernel
theorem dX2_init_29 : decode cX2_init 29 = .ok (.bipush 40, 2) := by decide +kernel
theorem dX2_init_31 : decode cX2_init 31 = .ok (.newarray .boolean, 2) := by decide +kernel
theorem dX2_init_33 : decode cX2_init 33 = .ok (.putfield 21, 3) := by decide +kernel
theorem dX2_init_36 : decode cX2_init 36 = .ok (.return_, 1) := by decide +kernel
theorem dX3_countWithOwner_0 : decode cX3_countWithOwner 0 = .ok (.iconst 0, 1) := by decide +kernel
theorem dX3_countWithOwner_1 : decode cX3_countWithOwner 1 = .ok (.istore_n 2, 1) := by decide +kernel
theorem dX3_countWithOwner_2 : decode cX3_countWithOwner 2 = .ok (.iconst 0, 1) := by decide +kernel
theorem dX3_countWithOwner_3 : decode cX3_countWithOwner 3 = .ok (.istore_n 3, 1) := by decide +kernel
theorem dX3_countWithOwner_4 : decode cX3_countWithOwner 4 = .ok (.iload_n 3, 1) := by decide +kernel
theorem dX3_countWithOwner_5 : decode cX3_countWithOwner 5 = .ok (.sipush 240, 3) := by decide +kernel
theorem dX3_countWithOwner_8 : decode cX3_countWithOwner 8 = .ok (.if_icmp .ge 31, 3) := by decide +kernel
theorem dX3_countWithOwner_11 : decode cX3_countWithOwner 11 = .ok (.aload_n 0, 1) := by decide +kernel
theorem dX3_countWithOwner_12 : decode cX3_countWithOwner 12 = .ok (.getfield 9, 3) := by decide +kernel
theorem dX3_countWithOwner_15 : decode cX3_countWithOwner 15 = .ok (.iload_n 3, 1) := by decide +kernel
theorem dX3_countWithOwner_16 : decode cX3_countWithOwner 16 = .ok (.baload, 1) := by decide +kernel
theorem dX3_countWithOwner_17 : decode cX3_countWithOwner 17 = .ok (.ifCond .eq 16, 3) := by decide +kernel
theorem dX3_countWithOwner_20 : decode cX3_countWithOwner 20 = .ok (.aload_n 0, 1) := by decide +kernel
theorem dX3_countWithOwner_21 : decode cX3_countWithOwner 21 = .ok (.getfield 15, 3) := by decide +kernel
theorem dX3_countWithOwner_24 : decode cX3_countWithOwner 24 = .ok (.iload_n 3, 1) := by decide +kernel
theorem dX3_countWithOwner_25 : decode cX3_countWithOwner 25 = .ok (.iaload, 1) := by decide +kernel
theorem dX3_countWithOwner_26 : decode cX3_countWithOwner 26 = .ok (.iload_n 1, 1) := by decide +kernel
theorem dX3_countWithOwner_27 : decode cX3_countWithOwner 27 = .ok (.if_icmp .ne 6, 3) := by decide +kernel
theorem dX3_countWithOwner_30 : decode cX3_countWithOwner 30 = .ok (.iinc 2 1, 3) := by decide +kernel
theorem dX3_countWithOwner_33 : decode cX3_countWithOwner 33 = .ok (.iinc 3 1, 3) := by decide +kernel
theorem dX3_countWithOwner_36 : decode cX3_countWithOwner 36 = .ok (.goto (-32), 3) := by decide +kernel
theorem dX3_countWithOwner_39 : decode cX3_countWithOwner 39 = .ok (.iload_n 2, 1) := by decide +kernel
theorem dX3_countWithOwner_40 : decode cX3_countWithOwner 40 = .ok (.ireturn, 1) := by decide +kernel
theorem dX3_init_0 : decode cX3_init 0 = .ok (.aload_n 0, 1) := by decide +kernel
theorem dX3_init_1 : decode cX3_init 1 = .ok (.invokespecial 3, 3) := by decide +kernel
theorem dX3_init_4 : decode cX3_init 4 = .ok (.aload_n 0, 1) := by decide +kernel
theorem dX3_init_5 : decode cX3_init 5 = .ok (.sipush 240, 3) := by decide +kernel
theorem dX3_init_8 : decode cX3_init 8 = .ok (.newarray .boolean, 2) := by decide +kernel
theorem dX3_init_10 : decode cX3_init 10 = .ok (.putfield 9, 3) := by decide +kernel
theorem dX3_init_13 : decode cX3_init 13 = .ok (.aload_n 0, 1) := by decide +kernel
theorem dX3_init_14 : decode cX3_init 14 = .ok (.sipush 240, 3) := by decide +kernel
theorem dX3_init_17 : decode cX3_init 17 = .ok (.newarray .int, 2) := by decide +kernel
theorem dX3_init_19 : decode cX3_init 19 = .ok (.putfield 15, 3) := by decide +kernel
theorem dX3_init_22 : decode cX3_init 22 = .ok (.aload_n 0, 1) := by decide +kernel
theorem dX3_init_23 : decode cX3_init 23 = .ok (.sipush 240, 3) := by decide +kernel
theorem dX3_init_26 : decode cX3_init 26 = .ok (.newarray .int, 2) := by decide +kernel
theorem dX3_init_28 : decode cX3_init 28 = .ok (.putfield 19, 3) := by decide +kernel
theorem dX3_init_31 : decode cX3_init 31 = .ok (.aload_n 0, 1) := by decide +kernel
theorem dX3_init_32 : decode cX3_init 32 = .ok (.getfield 15, 3) := by decide +kernel
theorem dX3_init_35 : decode cX3_init 35 = .ok (.iconst (-1), 1) := by decide +kernel
theorem dX3_init_36 : decode cX3_init 36 = .ok (.invokestatic 22, 3) := by decide +kernel
theorem dX3_init_39 : decode cX3_init 39 = .ok (.aload_n 0, 1) := by decide +kernel
theorem dX3_init_40 : decode cX3_init 40 = .ok (.getfield 19, 3) := by decide +kernel
theorem dX3_init_43 : decode cX3_init 43 = .ok (.iconst (-1), 1) := by decide +kernel
theorem dX3_init_44 : decode cX3_init 44 = .ok (.invokestatic 22, 3) := by decide +kernel
theorem dX3_init_47 : decode cX3_init 47 = .ok (.return_, 1) := by decide +kernel
theorem dX3_isEmpty_0 : decode cX3_isEmpty 0 = .ok (.aload_n 0, 1) := by decide +kernel
theorem dX3_isEmpty_1 : decode cX3_isEmpty 1 = .ok (.iload_n 1, 1) := by decide +kernel
theorem dX3_isEmpty_2 : decode cX3_isEmpty 2 = .ok (.invokevirtual 28, 3) := by decide +kernel
theorem dX3_isEmpty_5 : decode cX3_isEmpty 5 = .ok (.ifCond .eq 17, 3) := by decide +kernel
theorem dX3_isEmpty_8 : decode cX3_isEmpty 8 = .ok (.aload_n 0, 1) := by decide +kernel
theorem dX3_isEmpty_9 : decode cX3_isEmpty 9 = .ok (.getfield 19, 3) := by decide +kernel
theorem dX3_isEmpty_12 : decode cX3_isEmpty 12 = .ok (.iload_n 1, 1) := by decide +kernel
theorem dX3_isEmpty_13 : decode cX3_isEmpty 13 = .ok (.iaload, 1) := by decide +kernel
theorem dX3_isEmpty_14 : decode cX3_isEmpty 14 = .ok (.iconst (-1), 1) := by decide +kernel
theorem dX3_isEmpty_15 : decode cX3_isEmpty 15 = .ok (.if_icmp .ne 7, 3) := by decide +kernel
theorem dX3_isEmpty_18 : decode cX3_isEmpty 18 = .ok (.iconst 1, 1) := by decide +kernel
theorem dX3_isEmpty_19 : decode cX3_isEmpty 19 = .ok (.goto 4, 3) := by decide +kernel
theorem dX3_isEmpty_22 : decode cX3_isEmpty 22 = .ok (.iconst 0, 1) := by decide +kernel
theorem dX3_isEmpty_23 : decode cX3_isEmpty 23 = .ok (.ireturn, 1) := by decide +kernel
theorem dX3_isOffsetAtRate_0 : decode cX3_isOffsetAtRate 0 = .ok (.iconst 0, 1) := by decide +kernel
theorem dX3_isOffsetAtRate_1 : decode cX3_isOffsetAtRate 1 = .ok (.istore_n 2, 1) := by decide +kernel
theorem dX3_isOffsetAtRate_2 : decode cX3_isOffsetAtRate 2 = .ok (.iload_n 2, 1) := by decide +kernel
theorem dX3_isOffsetAtRate_3 : decode cX3_isOffsetAtRate 3 = .ok (.iload_n 1, 1) := by decide +kernel
theorem dX3_isOffsetAtRate_4 : decode cX3_isOffsetAtRate 4 = .ok (.if_icmp .ge 21, 3) := by decide +kernel
theorem dX3_isOffsetAtRate_7 : decode cX3_isOffsetAtRate 7 = .ok (.bipush 15, 2) := by decide +kernel
theorem dX3_isOffsetAtRate_9 : decode cX3_isOffsetAtRate 9 = .ok (.iload_n 2, 1) := by decide +kernel
theorem dX3_isOffsetAtRate_10 : decode cX3_isOffsetAtRate 10 = .ok (.imul, 1) := by decide +kernel
theorem dX3_isOffsetAtRate_11 : decode cX3_isOffsetAtRate 11 = .ok (.iload_n 1, 1) := by decide +kernel
theorem dX3_isOffsetAtRate_12 : decode cX3_isOffsetAtRate 12 = .ok (.idiv, 1) := by decide +kernel
theorem dX3_isOffsetAtRate_13 : decode cX3_isOffsetAtRate 13 = .ok (.iload_n 0, 1) := by decide +kernel
theorem dX3_isOffsetAtRate_14 : decode cX3_isOffsetAtRate 14 = .ok (.if_icmp .ne 5, 3) := by decide +kernel
theorem dX3_isOffsetAtRate_17 : decode cX3_isOffsetAtRate 17 = .ok (.iconst 1, 1) := by decide +kernel
theorem dX3_isOffsetAtRate_18 : decode cX3_isOffsetAtRate 18 = .ok (.ireturn, 1) := by decide +kernel
theorem dX3_isOffsetAtRate_19 : decode cX3_isOffsetAtRate 19 = .ok (.iinc 2 1, 3) := by decide +kernel
theorem dX3_isOffsetAtRate_22 : decode cX3_isOffsetAtRate 22 = .ok (.goto (-20), 3) := by decide +kernel
theorem dX3_isOffsetAtRate_25 : decode cX3_isOffsetAtRate 25 = .ok (.iconst 0, 1) := by decide +kernel
theorem dX3_isOffsetAtRate_26 : decode cX3_isOffsetAtRate 26 = .ok (.ireturn, 1) := by decide +kernel
theorem dX3_isSlot_0 : decode cX3_isSlot 0 = .ok (.iload_n 1, 1) := by decide +kernel
theorem dX3_isSlot_1 : decode cX3_isSlot 1 = .ok (.ifCond .lt 23, 3) := by decide +kernel
theorem dX3_isSlot_4 : decode cX3_isSlot 4 = .ok (.iload_n 1, 1) := by decide +kernel
theorem dX3_isSlot_5 : decode cX3_isSlot 5 = .ok (.sipush 240, 3) := by decide +kernel
theorem dX3_isSlot_8 : decode cX3_isSlot 8 = .ok (.if_icmp .ge 16, 3) := by decide +kernel
theorem dX3_isSlot_11 : decode cX3_isSlot 11 = .ok (.aload_n 0, 1) := by decide +kernel
theorem dX3_isSlot_12 : decode cX3_isSlot 12 = .ok (.getfield 9, 3) := by decide +kernel
theorem dX3_isSlot_15 : decode cX3_isSlot 15 = .ok (.iload_n 1, 1) := by decide +kernel
theorem dX3_isSlot_16 : decode cX3_isSlot 16 = .ok (.baload, 1) := by decide +kernel
theorem dX3_isSlot_17 : decode cX3_isSlot 17 = .ok (.ifCond .eq 7, 3) := by decide +kernel
theorem dX3_isSlot_20 : decode cX3_isSlot 20 = .ok (.iconst 1, 1) := by decide +kernel
theorem dX3_isSlot_21 : decode cX3_isSlot 21 = .ok (.goto 4, 3) := by decide +kernel
theorem dX3_isSlot_24 : decode cX3_isSlot 24 = .ok (.iconst 0, 1) := by decide +kernel
theorem dX3_isSlot_25 : decode cX3_isSlot 25 = .ok (.ireturn, 1) := by decide +kernel
theorem dX3_setRate_0 : decode cX3_setRate 0 = .ok (.iload_n 1, 1) := by decide +kernel
theorem dX3_setRate_1 : decode cX3_setRate 1 = .ok (.bipush 15, 2) := by decide +kernel
theorem dX3_setRate_3 : decode cX3_setRate 3 = .ok (.imul, 1) := by decide +kernel
theorem dX3_setRate_4 : decode cX3_setRate 4 = .ok (.istore_n 3, 1) := by decide +kernel
theorem dX3_setRate_5 : decode cX3_setRate 5 = .ok (.iconst 0, 1) := by decide +kernel
theorem dX3_setRate_6 : decode cX3_setRate 6 = .ok (.istore 4, 2) := by decide +kernel
theorem dX3_setRate_8 : decode cX3_setRate 8 = .ok (.iload 4, 2) := by decide +kernel
theorem dX3_setRate_10 : decode cX3_setRate 10 = .ok (.bipush 15, 2) := by decide +kernel
theorem dX3_setRate_12 : decode cX3_setRate 12 = .ok (.if_icmp .ge 24, 3) := by decide +kernel
theorem dX3_setRate_15 : decode cX3_setRate 15 = .ok (.aload_n 0, 1) := by decide +kernel
theorem dX3_setRate_16 : decode cX3_setRate 16 = .ok (.getfield 9, 3) := by decide +kernel
theorem dX3_setRate_19 : decode cX3_setRate 19 = .ok (.iload_n 3, 1) := by decide +kernel
theorem dX3_setRate_20 : decode cX3_setRate 20 = .ok (.iload 4, 2) := by decide +kernel
theorem dX3_setRate_22 : decode cX3_setRate 22 = .ok (.iadd, 1) := by decide +kernel
theorem dX3_setRate_23 : decode cX3_setRate 23 = .ok (.iload 4, 2) := by decide +kernel
theorem dX3_setRate_25 : decode cX3_setRate 25 = .ok (.iload_n 2, 1) := by decide +kernel
theorem dX3_setRate_26 : decode cX3_setRate 26 = .ok (.invokestatic 32, 3) := by decide +kernel
theorem dX3_setRate_29 : decode cX3_setRate 29 = .ok (.bastore, 1) := by decide +kernel
theorem dX3_setRate_30 : decode cX3_setRate 30 = .ok (.iinc 4 1, 3) := by decide +kernel
theorem dX3_setRate_33 : decode cX3_setRate 33 = .ok (.goto (-25), 3) := by decide +kernel
theorem dX3_setRate_36 : decode cX3_setRate 36 = .ok (.return_, 1) := by decide +kernel
