theorem dX4_gaps_0 : decode cX4_gaps 0 = .ok (.iconst 0, 1) := by decide +kernel
theorem dX4_gaps_1 : decode cX4_gaps 1 = .ok (.istore_n 1, 1) := by decide +kernel
theorem dX4_gaps_2 : decode cX4_gaps 2 = .ok (.iconst 0, 1) := by decide +kernel
theorem dX4_gaps_3 : decode cX4_gaps 3 = .ok (.istore_n 2, 1) := by decide +kernel
theorem dX4_gaps_4 : decode cX4_gaps 4 = .ok (.iload_n 2, 1) := by decide +kernel
theorem dX4_gaps_5 : decode cX4_gaps 5 = .ok (.sipush 240, 3) := by decide +kernel
theorem dX4_gaps_8 : decode cX4_gaps 8 = .ok (.if_icmp .ge 28, 3) := by decide +kernel
theorem dX4_gaps_11 : decode cX4_gaps 11 = .ok (.aload_n 0, 1) := by decide +kernel
theorem dX4_gaps_12 : decode cX4_gaps 12 = .ok (.getfield 12, 3) := by decide +kernel
theorem dX4_gaps_15 : decode cX4_gaps 15 = .ok (.iload_n 2, 1) := by decide +kernel
theorem dX4_gaps_16 : decode cX4_gaps 16 = .ok (.invokevirtual 169, 3) := by decide +kernel
theorem dX4_gaps_19 : decode cX4_gaps 19 = .ok (.ifCond .eq 11, 3) := by decide +kernel
theorem dX4_gaps_22 : decode cX4_gaps 22 = .ok (.iload_n 1, 1) := by decide +kernel
theorem dX4_gaps_23 : decode cX4_gaps 23 = .ok (.aload_n 0, 1) := by decide +kernel
theorem dX4_gaps_24 : decode cX4_gaps 24 = .ok (.iload_n 2, 1) := by decide +kernel
theorem dX4_gaps_25 : decode cX4_gaps 25 = .ok (.invokevirtual 172, 3) := by decide +kernel
theorem dX4_gaps_28 : decode cX4_gaps 28 = .ok (.iadd, 1) := by decide +kernel
theorem dX4_gaps_29 : decode cX4_gaps 29 = .ok (.istore_n 1, 1) := by decide +kernel
theorem dX4_gaps_30 : decode cX4_gaps 30 = .ok (.iinc 2 1, 3) := by decide +kernel
theorem dX4_gaps_33 : decode cX4_gaps 33 = .ok (.goto (-29), 3) := by decide +kernel
theorem dX4_gaps_36 : decode cX4_gaps 36 = .ok (.iload_n 1, 1) := by decide +kernel
theorem dX4_gaps_37 : decode cX4_gaps 37 = .ok (.ireturn, 1) := by decide +kernel
theorem dX4_init_0 : decode cX4_init 0 = .ok (.aload_n 0, 1) := by decide +kernel
theorem dX4_init_1 : decode cX4_init 1 = .ok (.invokespecial 3, 3) := by decide +kernel
theorem dX4_init_4 : decode cX4_init 4 = .ok (.aload_n 0, 1) := by decide +kernel
theorem dX4_init_5 : decode cX4_init 5 = .ok (.new 9, 3) := by decide +kernel
theorem dX4_init_8 : decode cX4_init 8 = .ok (.dup, 1) := by decide +kernel
theorem dX4_init_9 : decode cX4_init 9 = .ok (.invokespecial 11, 3) := by decide +kernel
theorem dX4_init_12 : decode cX4_init 12 = .ok (.putfield 12, 3) := by decide +kernel
theorem dX4_init_15 : decode cX4_init 15 = .ok (.aload_n 0, 1) := by decide +kernel
theorem dX4_init_16 : decode cX4_init 16 = .ok (.new 16, 3) := by decide +kernel
theorem dX4_init_19 : decode cX4_init 19 = .ok (.dup, 1) := by decide +kernel
theorem dX4_init_20 : decode cX4_init 20 = .ok (.invokespecial 18, 3) := by decide +kernel
theorem dX4_init_23 : decode cX4_init 23 = .ok (.putfield 19, 3) := by decide +kernel
theorem dX4_init_26 : decode cX4_init 26 = .ok (.aload_n 0, 1) := by decide +kernel
theorem dX4_init_27 : decode cX4_init 27 = .ok (.new 23, 3) := by decide +kernel
theorem dX4_init_30 : decode cX4_init 30 = .ok (.dup, 1) := by decide +kernel
theorem dX4_init_31 : decode cX4_init 31 = .ok (.invokespecial 25, 3) := by decide +kernel
theorem dX4_init_34 : decode cX4_init 34 = .ok (.putfield 26, 3) := by decide +kernel
theorem dX4_init_37 : decode cX4_init 37 = .ok (.aload_n 0, 1) := by decide +kernel
theorem dX4_init_38 : decode cX4_init 38 = .ok (.new 30, 3) := by decide +kernel
theorem dX4_init_41 : decode cX4_init 41 = .ok (.dup, 1) := by decide +kernel
theorem dX4_init_42 : decode cX4_init 42 = .ok (.invokespecial 32, 3) := by decide +kernel
theorem dX4_init_45 : decode cX4_init 45 = .ok (.putfield 33, 3) := by decide +kernel
theorem dX4_init_48 : decode cX4_init 48 = .ok (.return_, 1) := by decide +kernel
theorem dX4_isFrozen_0 : decode cX4_isFrozen 0 = .ok (.aload_n 0, 1) := by decide +kernel
theorem dX4_isFrozen_1 : decode cX4_isFrozen 1 = .ok (.getfield 12, 3) := by decide +kernel
theorem dX4_isFrozen_4 : decode cX4_isFrozen 4 = .ok (.getfield 100, 3) := by decide +kernel
theorem dX4_isFrozen_7 : decode cX4_isFrozen 7 = .ok (.iload_n 1, 1) := by decide +kernel
theorem dX4_isFrozen_8 : decode cX4_isFrozen 8 = .ok (.iaload, 1) := by decide +kernel
theorem dX4_isFrozen_9 : decode cX4_isFrozen 9 = .ok (.istore_n 2, 1) := by decide +kernel
theorem dX4_isFrozen_10 : decode cX4_isFrozen 10 = .ok (.iload_n 2, 1) := by decide +kernel
theorem dX4_isFrozen_11 : decode cX4_isFrozen 11 = .ok (.iconst (-1), 1) := by decide +kernel
theorem dX4_isFrozen_12 : decode cX4_isFrozen 12 = .ok (.if_icmp .eq 19, 3) := by decide +kernel
theorem dX4_isFrozen_15 : decode cX4_isFrozen 15 = .ok (.aload_n 0, 1) := by decide +kernel
theorem dX4_isFrozen_16 : decode cX4_isFrozen 16 = .ok (.getfield 19, 3) := by decide +kernel
theorem dX4_isFrozen_19 : decode cX4_isFrozen 19 = .ok (.getfield 119, 3) := by decide +kernel
theorem dX4_isFrozen_22 : decode cX4_isFrozen 22 = .ok (.iload_n 2, 1) := by decide +kernel
theorem dX4_isFrozen_23 : decode cX4_isFrozen 23 = .ok (.baload, 1) := by decide +kernel
theorem dX4_isFrozen_24 : decode cX4_isFrozen 24 = .ok (.ifCond .eq 7, 3) := by decide +kernel
theorem dX4_isFrozen_27 : decode cX4_isFrozen 27 = .ok (.iconst 1, 1) := by decide +kernel
theorem dX4_isFrozen_28 : decode cX4_isFrozen 28 = .ok (.goto 4, 3) := by decide +kernel
theorem dX4_isFrozen_31 : decode cX4_isFrozen 31 = .ok (.iconst 0, 1) := by decide +kernel
theorem dX4_isFrozen_32 : decode cX4_isFrozen 32 = .ok (.ireturn, 1) := by decide +kernel
theorem dX4_isGood_0 : decode cX4_isGood 0 = .ok (.aload_n 0, 1) := by decide +kernel
theorem dX4_isGood_1 : decode cX4_isGood 1 = .ok (.getfield 26, 3) := by decide +kernel
theorem dX4_isGood_4 : decode cX4_isGood 4 = .ok (.getfield 237, 3) := by decide +kernel
theorem dX4_isGood_7 : decode cX4_isGood 7 = .ok (.iload_n 1, 1) := by decide +kernel
theorem dX4_isGood_8 : decode cX4_isGood 8 = .ok (.iaload, 1) := by decide +kernel
theorem dX4_isGood_9 : decode cX4_isGood 9 = .ok (.istore_n 2, 1) := by decide +kernel
theorem dX4_isGood_10 : decode cX4_isGood 10 = .ok (.aload_n 0, 1) := by decide +kernel
theorem dX4_isGood_11 : decode cX4_isGood 11 = .ok (.getfield 26, 3) := by decide +kernel
theorem dX4_isGood_14 : decode cX4_isGood 14 = .ok (.getfield 240, 3) := by decide +kernel
theorem dX4_isGood_17 : decode cX4_isGood 17 = .ok (.iload_n 1, 1) := by decide +kernel
theorem dX4_isGood_18 : decode cX4_isGood 18 = .ok (.iaload, 1) := by decide +kernel
theorem dX4_isGood_19 : decode cX4_isGood 19 = .ok (.istore_n 3, 1) := by decide +kernel
theorem dX4_isGood_20 : decode cX4_isGood 20 = .ok (.aload_n 0, 1) := by decide +kernel
theorem dX4_isGood_21 : decode cX4_isGood 21 = .ok (.getfield 26, 3) := by decide +kernel
theorem dX4_isGood_24 : decode cX4_isGood 24 = .ok (.getfield 152, 3) := by decide +kernel
theorem dX4_isGood_27 : decode cX4_isGood 27 = .ok (.iload_n 1, 1) := by decide +kernel
theorem dX4_isGood_28 : decode cX4_isGood 28 = .ok (.baload, 1) := by decide +kernel
theorem dX4_isGood_29 : decode cX4_isGood 29 = .ok (.ifCond .eq 75, 3) := by decide +kernel
theorem dX4_isGood_32 : decode cX4_isGood 32 = .ok (.aload_n 0, 1) := by decide +kernel
theorem dX4_isGood_33 : decode cX4_isGood 33 = .ok (.getfield 12, 3) := by decide +kernel
theorem dX4_isGood_36 : decode cX4_isGood 36 = .ok (.iload_n 2, 1) := by decide +kernel
theorem dX4_isGood_37 : decode cX4_isGood 37 = .ok (.invokevirtual 206, 3) := by decide +kernel
theorem dX4_isGood_40 : decode cX4_isGood 40 = .ok (.ifCond .eq 64, 3) := by decide +kernel
theorem dX4_isGood_43 : decode cX4_isGood 43 = .ok (.aload_n 0, 1) := by decide +kernel
theorem dX4_isGood_44 : decode cX4_isGood 44 = .ok (.getfield 12, 3) := by decide +kernel
theorem dX4_isGood_47 : decode cX4_isGood 47 = .ok (.getfield 97, 3) := by decide +kernel
theorem dX4_isGood_50 : decode cX4_isGood 50 = .ok (.iload_n 2, 1) := by decide +kernel
theorem dX4_isGood_51 : decode cX4_isGood 51 = .ok (.iaload, 1) := by decide +kernel
theorem dX4_isGood_52 : decode cX4_isGood 52 = .ok (.aload_n 0, 1) := by decide +kernel
theorem dX4_isGood_53 : decode cX4_isGood 53 = .ok (.getfield 26, 3) := by decide +kernel
theorem dX4_isGood_56 : decode cX4_isGood 56 = .ok (.getfield 243, 3) := by decide +kernel
theorem dX4_isGood_59 : decode cX4_isGood 59 = .ok (.iload_n 1, 1) := by decide +kernel
theorem dX4_isGood_60 : decode cX4_isGood 60 = .ok (.iaload, 1) := by decide +kernel
theorem dX4_isGood_61 : decode cX4_isGood 61 = .ok (.if_icmp .ne 43, 3) := by decide +kernel
theorem dX4_isGood_64 : decode cX4_isGood 64 = .ok (.aload_n 0, 1) := by decide +kernel
theorem dX4_isGood_65 : decode cX4_isGood 65 = .ok (.iload_n 2, 1) := by decide +kernel
theorem dX4_isGood_66 : decode cX4_isGood 66 = .ok (.invokevirtual 219, 3) := by decide +kernel
theorem dX4_isGood_69 : decode cX4_isGood 69 = .ok (.ifCond .ne 35, 3) := by decide +kernel
theorem dX4_isGood_72 : decode cX4_isGood 72 = .ok (.aload_n 0, 1) := by decide +kernel
theorem dX4_isGood_73 : decode cX4_isGood 73 = .ok (.getfield 12, 3) := by decide +kernel
theorem dX4_isGood_76 : decode cX4_isGood 76 = .ok (.iload_n 3, 1) := by decide +kernel
theorem dX4_isGood_77 : decode cX4_isGood 77 = .ok (.invokevirtual 206, 3) := by decide +kernel
theorem dX4_isGood_80 : decode cX4_isGood 80 = .ok (.ifCond .eq 24, 3) := by decide +kernel
theorem dX4_isGood_83 : decode cX4_isGood 83 = .ok (.aload_n 0, 1) := by decide +kernel
theorem dX4_isGood_84 : decode cX4_isGood 84 = .ok (.iload_n 3, 1) := by decide +kernel
theorem dX4_isGood_85 : decode cX4_isGood 85 = .ok (.invokevirtual 219, 3) := by decide +kernel
theorem dX4_isGood_88 : decode cX4_isGood 88 = .ok (.ifCond .ne 16, 3) := by decide +kernel
theorem dX4_isGood_91 : decode cX4_isGood 91 = .ok (.aload_n 0, 1) := by decide +kernel
theorem dX4_isGood_92 : decode cX4_isGood 92 = .ok (.iload_n 2, 1) := by decide +kernel
theorem dX4_isGood_93 : decode cX4_isGood 93 = .ok (.iload_n 3, 1) := by decide +kernel
theorem dX4_isGood_94 : decode cX4_isGood 94 = .ok (.invokevirtual 244, 3) := by decide +kernel
theorem dX4_isGood_97 : decode cX4_isGood 97 = .ok (.ifCond .eq 7, 3) := by decide +kernel
theorem dX4_isGood_100 : decode cX4_isGood 100 = .ok (.iconst 1, 1) := by decide +kernel
theorem dX4_isGood_101 : decode cX4_isGood 101 = .ok (.goto 4, 3) := by decide +kernel
theorem dX4_isGood_104 : decode cX4_isGood 104 = .ok (.iconst 0, 1) := by decide +kernel
theorem dX4_isGood_105 : decode cX4_isGood 105 = .ok (.ireturn, 1) := by decide +kernel
theorem dX4_later_0 : decode cX4_later 0 = .ok (.aload_n 0, 1) := by decide +kernel
theorem dX4_later_1 : decode cX4_later 1 = .ok (.iload_n 1, 1) := by decide +kernel
theorem dX4_later_2 : decode cX4_later 2 = .ok (.invokevirtual 87, 3) := by decide +kernel
theorem dX4_later_5 : decode cX4_later 5 = .ok (.iload_n 2, 1) := by decide +kernel
theorem dX4_later_6 : decode cX4_later 6 = .ok (.aload_n 0, 1) := by decide +kernel
theorem dX4_later_7 : decode cX4_later 7 = .ok (.getfield 19, 3) := by decide +kernel
theorem dX4_later_10 : decode cX4_later 10 = .ok (.getfield 103, 3) := by decide +kernel
theorem dX4_later_13 : decode cX4_later 13 = .ok (.iload_n 1, 1) := by decide +kernel
theorem dX4_later_14 : decode cX4_later 14 = .ok (.iaload, 1) := by decide +kernel
theorem dX4_later_15 : decode cX4_later 15 = .ok (.if_icmp .lt 10, 3) := by decide +kernel
theorem dX4_later_18 : decode cX4_later 18 = .ok (.iload_n 2, 1) := by decide +kernel
theorem dX4_later_19 : decode cX4_later 19 = .ok (.sipush 300, 3) := by decide +kernel
theorem dX4_later_22 : decode cX4_later 22 = .ok (.if_icmp .le 13, 3) := by decide +kernel
theorem dX4_later_25 : decode cX4_later 25 = .ok (.new 37, 3) := by decide +kernel
theorem dX4_later_28 : decode cX4_later 28 = .ok (.dup, 1) := by decide +kernel
theorem dX4_later_29 : decode cX4_later 29 = .ok (.ldc 75, 2) := by decide +kernel
theorem dX4_later_31 : decode cX4_later 31 = .ok (.invokespecial 41, 3) := by decide +kernel
theorem dX4_later_34 : decode cX4_later 34 = .ok (.athrow, 1) := by decide +kernel
theorem dX4_later_35 : decode cX4_later 35 = .ok (.aload_n 0, 1) := by decide +kernel
theorem dX4_later_36 : decode cX4_later 36 = .ok (.iload_n 1, 1) := by decide +kernel
theorem dX4_later_37 : decode cX4_later 37 = .ok (.invokevirtual 106, 3) := by decide +kernel
theorem dX4_later_40 : decode cX4_later 40 = .ok (.aload_n 0, 1) := by decide +kernel
theorem dX4_later_41 : decode cX4_later 41 = .ok (.getfield 19, 3) := by decide +kernel
theorem dX4_later_44 : decode cX4_later 44 = .ok (.getfield 103, 3) := by decide +kernel
theorem dX4_later_47 : decode cX4_later 47 = .ok (.iload_n 1, 1) := by decide +kernel
theorem dX4_later_48 : decode cX4_later 48 = .ok (.iload_n 2, 1) := by decide +kernel
theorem dX4_later_49 : decode cX4_later 49 = .ok (.iastore, 1) := by decide +kernel
theorem dX4_later_50 : decode cX4_later 50 = .ok (.aload_n 0, 1) := by decide +kernel
theorem dX4_later_51 : decode cX4_later 51 = .ok (.getfield 19, 3) := by decide +kernel
theorem dX4_later_54 : decode cX4_later 54 = .ok (.getfield 90, 3) := by decide +kernel
theorem dX4_later_57 : decode cX4_later 57 = .ok (.iload_n 1, 1) := by decide +kernel
theorem dX4_later_58 : decode cX4_later 58 = .ok (.iaload, 1) := by decide +kernel
theorem dX4_later_59 : decode cX4_later 59 = .ok (.iconst (-1), 1) := by decide +kernel
theorem dX4_later_60 : decode cX4_later 60 = .ok (.if_icmp .eq 23, 3) := by decide +kernel
theorem dX4_later_63 : decode cX4_later 63 = .ok (.aload_n 0, 1) := by decide +kernel
theorem dX4_later_64 : decode cX4_later 64 = .ok (.getfield 19, 3) := by decide +kernel
theorem dX4_later_67 : decode cX4_later 67 = .ok (.iload_n 1, 1) := by decide +kernel
theorem dX4_later_68 : decode cX4_later 68 = .ok (.aload_n 0, 1) := by decide +kernel
theorem dX4_later_69 : decode cX4_later 69 = .ok (.getfield 19, 3) := by decide +kernel
theorem dX4_later_72 : decode cX4_later 72 = .ok (.getfield 90, 3) := by decide +kernel
theorem dX4_later_75 : decode cX4_later 75 = .ok (.iload_n 1, 1) := by decide +kernel
theorem dX4_later_76 : decode cX4_later 76 = .ok (.iaload, 1) := by decide +kernel
theorem dX4_later_77 : decode cX4_later 77 = .ok (.invokevirtual 109, 3) := by decide +kernel
theorem dX4_later_80 : decode cX4_later 80 = .ok (.ifCond .eq 5, 3) := by decide +kernel
theorem dX4_later_83 : decode cX4_later 83 = .ok (.iconst 0, 1) := by decide +kernel
theorem dX4_later_84 : decode cX4_later 84 = .ok (.ireturn, 1) := by decide +kernel
theorem dX4_later_85 : decode cX4_later 85 = .ok (.aload_n 0, 1) := by decide +kernel
theorem dX4_later_86 : decode cX4_later 86 = .ok (.iload_n 1, 1) := by decide +kernel
theorem dX4_later_87 : decode cX4_later 87 = .ok (.iconst 4, 1) := by decide +kernel
theorem dX4_later_88 : decode cX4_later 88 = .ok (.invokevirtual 112, 3) := by decide +kernel
theorem dX4_later_91 : decode cX4_later 91 = .ok (.iconst 1, 1) := by decide +kernel
theorem dX4_later_92 : decode cX4_later 92 = .ok (.ireturn, 1) := by decide +kernel
theorem dX4_log_0 : decode cX4_log 0 = .ok (.aload_n 0, 1) := by decide +kernel
theorem dX4_log_1 : decode cX4_log 1 = .ok (.getfield 33, 3) := by decide +kernel
theorem dX4_log_4 : decode cX4_log 4 = .ok (.getfield 184, 3) := by decide +kernel
theorem dX4_log_7 : decode cX4_log 7 = .ok (.ireturn, 1) := by decide +kernel
theorem dX4_losesFrozenSlot_0 : decode cX4_losesFrozenSlot 0 = .ok (.iload_n 1, 1) := by decide +kernel
theorem dX4_losesFrozenSlot_1 : decode cX4_losesFrozenSlot 1 = .ok (.bipush 15, 2) := by decide +kernel
theorem dX4_losesFrozenSlot_3 : decode cX4_losesFrozenSlot 3 = .ok (.imul, 1) := by decide +kernel
theorem dX4_losesFrozenSlot_4 : decode cX4_losesFrozenSlot 4 = .ok (.istore_n 3, 1) := by decide +kernel
theorem dX4_losesFrozenSlot_5 : decode cX4_losesFrozenSlot 5 = .ok (.iconst 0, 1) := by decide +kernel
theorem dX4_losesFrozenSlot_6 : decode cX4_losesFrozenSlot 6 = .ok (.istore 4, 2) := by decide +kernel
theorem dX4_losesFrozenSlot_8 : decode cX4_losesFrozenSlot 8 = .ok (.iload 4, 2) := by decide +kernel
theorem dX4_losesFrozenSlot_10 : decode cX4_losesFrozenSlot 10 = .ok (.bipush 15, 2) := by decide +kernel
theorem dX4_losesFrozenSlot_12 : decode cX4_losesFrozenSlot 12 = .ok (.if_icmp .ge 31, 3) := by decide +kernel
theorem dX4_losesFrozenSlot_15 : decode cX4_losesFrozenSlot 15 = .ok (.aload_n 0, 1) := by decide +kernel
theorem dX4_losesFrozenSlot_16 : decode cX4_losesFrozenSlot 16 = .ok (.iload_n 3, 1) := by decide +kernel
theorem dX4_losesFrozenSlot_17 : decode cX4_losesFrozenSlot 17 = .ok (.iload 4, 2) := by decide +kernel
theorem dX4_losesFrozenSlot_19 : decode cX4_losesFrozenSlot 19 = .ok (.iadd, 1) := by decide +kernel
theorem dX4_losesFrozenSlot_20 : decode cX4_losesFrozenSlot 20 = .ok (.invokevirtual 219, 3) := by decide +kernel
theorem dX4_losesFrozenSlot_23 : decode cX4_losesFrozenSlot 23 = .ok (.ifCond .eq 14, 3) := by decide +kernel
theorem dX4_losesFrozenSlot_26 : decode cX4_losesFrozenSlot 26 = .ok (.iload 4, 2) := by decide +kernel
theorem dX4_losesFrozenSlot_28 : decode cX4_losesFrozenSlot 28 = .ok (.iload_n 2, 1) := by decide +kernel
theorem dX4_losesFrozenSlot_29 : decode cX4_losesFrozenSlot 29 = .ok (.invokestatic 222, 3) := by decide +kernel
theorem dX4_losesFrozenSlot_32 : decode cX4_losesFrozenSlot 32 = .ok (.ifCond .ne 5, 3) := by decide +kernel
theorem dX4_losesFrozenSlot_35 : decode cX4_losesFrozenSlot 35 = .ok (.iconst 1, 1) := by decide +kernel
theorem dX4_losesFrozenSlot_36 : decode cX4_losesFrozenSlot 36 = .ok (.ireturn, 1) := by decide +kernel
theorem dX4_losesFrozenSlot_37 : decode cX4_losesFrozenSlot 37 = .ok (.iinc 4 1, 3) := by decide +kernel
theorem dX4_losesFrozenSlot_40 : decode cX4_losesFrozenSlot 40 = .ok (.goto (-32), 3) := by decide +kernel
theorem dX4_losesFrozenSlot_43 : decode cX4_losesFrozenSlot 43 = .ok (.iconst 0, 1) := by decide +kernel
theorem dX4_losesFrozenSlot_44 : decode cX4_losesFrozenSlot 44 = .ok (.ireturn, 1) := by decide +kernel
theorem dX4_moveForward_0 : decode cX4_moveForward 0 = .ok (.aload_n 0, 1) := by decide +kernel
theorem dX4_moveForward_1 : decode cX4_moveForward 1 = .ok (.getfield 19, 3) := by decide +kernel
theorem dX4_moveForward_4 : decode cX4_moveForward 4 = .ok (.getfield 90, 3) := by decide +kernel
theorem dX4_moveForward_7 : decode cX4_moveForward 7 = .ok (.iload_n 1, 1) := by decide +kernel
theorem dX4_moveForward_8 : decode cX4_moveForward 8 = .ok (.iaload, 1) := by decide +kernel
theorem dX4_moveForward_9 : decode cX4_moveForward 9 = .ok (.istore_n 3, 1) := by decide +kernel
theorem dX4_moveForward_10 : decode cX4_moveForward 10 = .ok (.aload_n 0, 1) := by decide +kernel
theorem dX4_moveForward_11 : decode cX4_moveForward 11 = .ok (.iload_n 3, 1) := by decide +kernel
theorem dX4_moveForward_12 : decode cX4_moveForward 12 = .ok (.iconst (-1), 1) := by decide +kernel
theorem dX4_moveForward_13 : decode cX4_moveForward 13 = .ok (.invokevirtual 136, 3) := by decide +kernel
theorem dX4_moveForward_16 : decode cX4_moveForward 16 = .ok (.aload_n 0, 1) := by decide +kernel
theorem dX4_moveForward_17 : decode cX4_moveForward 17 = .ok (.iload_n 2, 1) := by decide +kernel
theorem dX4_moveForward_18 : decode cX4_moveForward 18 = .ok (.iload_n 1, 1) := by decide +kernel
theorem dX4_moveForward_19 : decode cX4_moveForward 19 = .ok (.invokevirtual 136, 3) := by decide +kernel
theorem dX4_moveForward_22 : decode cX4_moveForward 22 = .ok (.aload_n 0, 1) := by decide +kernel
theorem dX4_moveForward_23 : decode cX4_moveForward 23 = .ok (.getfield 19, 3) := by decide +kernel
theorem dX4_moveForward_26 : decode cX4_moveForward 26 = .ok (.getfield 124, 3) := by decide +kernel
theorem dX4_moveForward_29 : decode cX4_moveForward 29 = .ok (.iload_n 1, 1) := by decide +kernel
theorem dX4_moveForward_30 : decode cX4_moveForward 30 = .ok (.iaload, 1) := by decide +kernel
theorem dX4_moveForward_31 : decode cX4_moveForward 31 = .ok (.istore 4, 2) := by decide +kernel
theorem dX4_moveForward_33 : decode cX4_moveForward 33 = .ok (.aload_n 0, 1) := by decide +kernel
theorem dX4_moveForward_34 : decode cX4_moveForward 34 = .ok (.getfield 12, 3) := by decide +kernel
theorem dX4_moveForward_37 : decode cX4_moveForward 37 = .ok (.getfield 97, 3) := by decide +kernel
theorem dX4_moveForward_40 : decode cX4_moveForward 40 = .ok (.iload_n 2, 1) := by decide +kernel
theorem dX4_moveForward_41 : decode cX4_moveForward 41 = .ok (.iaload, 1) := by decide +kernel
theorem dX4_moveForward_42 : decode cX4_moveForward 42 = .ok (.istore 5, 2) := by decide +kernel
theorem dX4_moveForward_44 : decode cX4_moveForward 44 = .ok (.iload 5, 2) := by decide +kernel
theorem dX4_moveForward_46 : decode cX4_moveForward 46 = .ok (.iload 4, 2) := by decide +kernel
theorem dX4_moveForward_48 : decode cX4_moveForward 48 = .ok (.if_icmp .eq 14, 3) := by decide +kernel
theorem dX4_moveForward_51 : decode cX4_moveForward 51 = .ok (.aload_n 0, 1) := by decide +kernel
theorem dX4_moveForward_52 : decode cX4_moveForward 52 = .ok (.getfield 12, 3) := by decide +kernel
theorem dX4_moveForward_55 : decode cX4_moveForward 55 = .ok (.getfield 97, 3) := by decide +kernel
theorem dX4_moveForward_58 : decode cX4_moveForward 58 = .ok (.iload_n 3, 1) := by decide +kernel
theorem dX4_moveForward_59 : decode cX4_moveForward 59 = .ok (.iload 5, 2) := by decide +kernel
theorem dX4_moveForward_61 : decode cX4_moveForward 61 = .ok (.iastore, 1) := by decide +kernel
theorem dX4_moveForward_62 : decode cX4_moveForward 62 = .ok (.aload_n 0, 1) := by decide +kernel
theorem dX4_moveForward_63 : decode cX4_moveForward 63 = .ok (.getfield 12, 3) := by decide +kernel
theorem dX4_moveForward_66 : decode cX4_moveForward 66 = .ok (.getfield 97, 3) := by decide +kernel
theorem dX4_moveForward_69 : decode cX4_moveForward 69 = .ok (.iload_n 2, 1) := by decide +kernel
theorem dX4_moveForward_70 : decode cX4_moveForward 70 = .ok (.iload 4, 2) := by decide +kernel
theorem dX4_moveForward_72 : decode cX4_moveForward 72 = .ok (.iastore, 1) := by decide +kernel
theorem dX4_moveForward_73 : decode cX4_moveForward 73 = .ok (.aload_n 0, 1) := by decide +kernel
theorem dX4_moveForward_74 : decode cX4_moveForward 74 = .ok (.getfield 33, 3) := by decide +kernel
theorem dX4_moveForward_77 : decode cX4_moveForward 77 = .ok (.iconst 3, 1) := by decide +kernel
theorem dX4_moveForward_78 : decode cX4_moveForward 78 = .ok (.iload_n 1, 1) := by decide +kernel
theorem dX4_moveForward_79 : decode cX4_moveForward 79 = .ok (.iload_n 3, 1) := by decide +kernel
theorem dX4_moveForward_80 : decode cX4_moveForward 80 = .ok (.iload_n 2, 1) := by decide +kernel
theorem dX4_moveForward_81 : decode cX4_moveForward 81 = .ok (.invokevirtual 139, 3) := by decide +kernel
theorem dX4_moveForward_84 : decode cX4_moveForward 84 = .ok (.return_, 1) := by decide +kernel
theorem dX4_offer_0 : decode cX4_offer 0 = .ok (.aload_n 0, 1) := by decide +kernel
theorem dX4_offer_1 : decode cX4_offer 1 = .ok (.iload_n 1, 1) := by decide +kernel
theorem dX4_offer_2 : decode cX4_offer 2 = .ok (.invokevirtual 63, 3) := by decide +kernel
theorem dX4_offer_5 : decode cX4_offer 5 = .ok (.iload_n 2, 1) := by decide +kernel
theorem dX4_offer_6 : decode cX4_offer 6 = .ok (.iload_n 3, 1) := by decide +kernel
theorem dX4_offer_7 : decode cX4_offer 7 = .ok (.if_icmp .ne 13, 3) := by decide +kernel
theorem dX4_offer_10 : decode cX4_offer 10 = .ok (.new 37, 3) := by decide +kernel
theorem dX4_offer_13 : decode cX4_offer 13 = .ok (.dup, 1) := by decide +kernel
theorem dX4_offer_14 : decode cX4_offer 14 = .ok (.ldc 142, 2) := by decide +kernel
theorem dX4_offer_16 : decode cX4_offer 16 = .ok (.invokespecial 41, 3) := by decide +kernel
theorem dX4_offer_19 : decode cX4_offer 19 = .ok (.athrow, 1) := by decide +kernel
theorem dX4_offer_20 : decode cX4_offer 20 = .ok (.aload_n 0, 1) := by decide +kernel
theorem dX4_offer_21 : decode cX4_offer 21 = .ok (.iload_n 2, 1) := by decide +kernel
theorem dX4_offer_22 : decode cX4_offer 22 = .ok (.invokevirtual 94, 3) := by decide +kernel
theorem dX4_offer_25 : decode cX4_offer 25 = .ok (.aload_n 0, 1) := by decide +kernel
theorem dX4_offer_26 : decode cX4_offer 26 = .ok (.iload_n 3, 1) := by decide +kernel
theorem dX4_offer_27 : decode cX4_offer 27 = .ok (.invokevirtual 94, 3) := by decide +kernel
theorem dX4_offer_30 : decode cX4_offer 30 = .ok (.aload_n 0, 1) := by decide +kernel
theorem dX4_offer_31 : decode cX4_offer 31 = .ok (.getfield 12, 3) := by decide +kernel
theorem dX4_offer_34 : decode cX4_offer 34 = .ok (.getfield 97, 3) := by decide +kernel
theorem dX4_offer_37 : decode cX4_offer 37 = .ok (.iload_n 2, 1) := by decide +kernel
theorem dX4_offer_38 : decode cX4_offer 38 = .ok (.iaload, 1) := by decide +kernel
theorem dX4_offer_39 : decode cX4_offer 39 = .ok (.iload_n 1, 1) := by decide +kernel
theorem dX4_offer_40 : decode cX4_offer 40 = .ok (.if_icmp .eq 13, 3) := by decide +kernel
theorem dX4_offer_43 : decode cX4_offer 43 = .ok (.new 50, 3) := by decide +kernel
theorem dX4_offer_46 : decode cX4_offer 46 = .ok (.dup, 1) := by decide +kernel
theorem dX4_offer_47 : decode cX4_offer 47 = .ok (.ldc 144, 2) := by decide +kernel
theorem dX4_offer_49 : decode cX4_offer 49 = .ok (.invokespecial 54, 3) := by decide +kernel
theorem dX4_offer_52 : decode cX4_offer 52 = .ok (.athrow, 1) := by decide +kernel
theorem dX4_offer_53 : decode cX4_offer 53 = .ok (.aload_n 0, 1) := by decide +kernel
theorem dX4_offer_54 : decode cX4_offer 54 = .ok (.getfield 26, 3) := by decide +kernel
theorem dX4_offer_57 : decode cX4_offer 57 = .ok (.getfield 146, 3) := by decide +kernel
theorem dX4_offer_60 : decode cX4_offer 60 = .ok (.bipush 40, 2) := by decide +kernel
theorem dX4_offer_62 : decode cX4_offer 62 = .ok (.if_icmp .lt 13, 3) := by decide +kernel
theorem dX4_offer_65 : decode cX4_offer 65 = .ok (.new 50, 3) := by decide +kernel
theorem dX4_offer_68 : decode cX4_offer 68 = .ok (.dup, 1) := by decide +kernel
theorem dX4_offer_69 : decode cX4_offer 69 = .ok (.ldc 147, 2) := by decide +kernel
theorem dX4_offer_71 : decode cX4_offer 71 = .ok (.invokespecial 54, 3) := by decide +kernel
theorem dX4_offer_74 : decode cX4_offer 74 = .ok (.athrow, 1) := by decide +kernel
theorem dX4_offer_75 : decode cX4_offer 75 = .ok (.aload_n 0, 1) := by decide +kernel
theorem dX4_offer_76 : decode cX4_offer 76 = .ok (.getfield 26, 3) := by decide +kernel
theorem dX4_offer_79 : decode cX4_offer 79 = .ok (.iload_n 1, 1) := by decide +kernel
theorem dX4_offer_80 : decode cX4_offer 80 = .ok (.iload_n 2, 1) := by decide +kernel
theorem dX4_offer_81 : decode cX4_offer 81 = .ok (.iload_n 3, 1) := by decide +kernel
theorem dX4_offer_82 : decode cX4_offer 82 = .ok (.invokevirtual 149, 3) := by decide +kernel
theorem dX4_offer_85 : decode cX4_offer 85 = .ok (.ireturn, 1) := by decide +kernel
theorem dX4_owned_0 : decode cX4_owned 0 = .ok (.aload_n 0, 1) := by decide +kernel
theorem dX4_owned_1 : decode cX4_owned 1 = .ok (.iload_n 1, 1) := by decide +kernel
theorem dX4_owned_2 : decode cX4_owned 2 = .ok (.invokevirtual 175, 3) := by decide +kernel
theorem dX4_owned_5 : decode cX4_owned 5 = .ok (.aload_n 0, 1) := by decide +kernel
theorem dX4_owned_6 : decode cX4_owned 6 = .ok (.getfield 12, 3) := by decide +kernel
theorem dX4_owned_9 : decode cX4_owned 9 = .ok (.iload_n 1, 1) := by decide +kernel
theorem dX4_owned_10 : decode cX4_owned 10 = .ok (.invokevirtual 181, 3) := by decide +kernel
theorem dX4_owned_13 : decode cX4_owned 13 = .ok (.ireturn, 1) := by decide +kernel
theorem dX4_ownerOf_0 : decode cX4_ownerOf 0 = .ok (.aload_n 0, 1) := by decide +kernel
theorem dX4_ownerOf_1 : decode cX4_ownerOf 1 = .ok (.iload_n 1, 1) := by decide +kernel
theorem dX4_ownerOf_2 : decode cX4_ownerOf 2 = .ok (.invokevirtual 94, 3) := by decide +kernel
theorem dX4_ownerOf_5 : decode cX4_ownerOf 5 = .ok (.aload_n 0, 1) := by decide +kernel
theorem dX4_ownerOf_6 : decode cX4_ownerOf 6 = .ok (.getfield 12, 3) := by decide +kernel
theorem dX4_ownerOf_9 : decode cX4_ownerOf 9 = .ok (.getfield 97, 3) := by decide +kernel
theorem dX4_ownerOf_12 : decode cX4_ownerOf 12 = .ok (.iload_n 1, 1) := by decide +kernel
theorem dX4_ownerOf_13 : decode cX4_ownerOf 13 = .ok (.iaload, 1) := by decide +kernel
theorem dX4_ownerOf_14 : decode cX4_ownerOf 14 = .ok (.ireturn, 1) := by decide +kernel
theorem dX4_partnerOf_0 : decode cX4_partnerOf 0 = .ok (.iload_n 1, 1) := by decide +kernel
theorem dX4_partnerOf_1 : decode cX4_partnerOf 1 = .ok (.iconst 1, 1) := by decide +kernel
theorem dX4_partnerOf_2 : decode cX4_partnerOf 2 = .ok (.iadd, 1) := by decide +kernel
theorem dX4_partnerOf_3 : decode cX4_partnerOf 3 = .ok (.istore_n 2, 1) := by decide +kernel
theorem dX4_partnerOf_4 : decode cX4_partnerOf 4 = .ok (.iload_n 2, 1) := by decide +kernel
theorem dX4_partnerOf_5 : decode cX4_partnerOf 5 = .ok (.aload_n 0, 1) := by decide +kernel
theorem dX4_partnerOf_6 : decode cX4_partnerOf 6 = .ok (.getfield 26, 3) := by decide +kernel
theorem dX4_partnerOf_9 : decode cX4_partnerOf 9 = .ok (.getfield 146, 3) := by decide +kernel
theorem dX4_partnerOf_12 : decode cX4_partnerOf 12 = .ok (.if_icmp .ge 31, 3) := by decide +kernel
theorem dX4_partnerOf_15 : decode cX4_partnerOf 15 = .ok (.aload_n 0, 1) := by decide +kernel
theorem dX4_partnerOf_16 : decode cX4_partnerOf 16 = .ok (.getfield 26, 3) := by decide +kernel
theorem dX4_partnerOf_19 : decode cX4_partnerOf 19 = .ok (.iload_n 1, 1) := by decide +kernel
theorem dX4_partnerOf_20 : decode cX4_partnerOf 20 = .ok (.iload_n 2, 1) := by decide +kernel
theorem dX4_partnerOf_21 : decode cX4_partnerOf 21 = .ok (.invokevirtual 256, 3) := by decide +kernel
theorem dX4_partnerOf_24 : decode cX4_partnerOf 24 = .ok (.ifCond .eq 13, 3) := by decide +kernel
theorem dX4_partnerOf_27 : decode cX4_partnerOf 27 = .ok (.aload_n 0, 1) := by decide +kernel
theorem dX4_partnerOf_28 : decode cX4_partnerOf 28 = .ok (.iload_n 2, 1) := by decide +kernel
theorem dX4_partnerOf_29 : decode cX4_partnerOf 29 = .ok (.invokevirtual 155, 3) := by decide +kernel
theorem dX4_partnerOf_32 : decode cX4_partnerOf 32 = .ok (.ifCond .eq 5, 3) := by decide +kernel
theorem dX4_partnerOf_35 : decode cX4_partnerOf 35 = .ok (.iload_n 2, 1) := by decide +kernel
theorem dX4_partnerOf_36 : decode cX4_partnerOf 36 = .ok (.ireturn, 1) := by decide +kernel
theorem dX4_partnerOf_37 : decode cX4_partnerOf 37 = .ok (.iinc 2 1, 3) := by decide +kernel
theorem dX4_partnerOf_40 : decode cX4_partnerOf 40 = .ok (.goto (-36), 3) := by decide +kernel
theorem dX4_partnerOf_43 : decode cX4_partnerOf 43 = .ok (.iconst (-1), 1) := by decide +kernel
theorem dX4_partnerOf_44 : decode cX4_partnerOf 44 = .ok (.ireturn, 1) := by decide +kernel
theorem dX4_putIn_0 : decode cX4_putIn 0 = .ok (.aload_n 0, 1) := by decide +kernel
theorem dX4_putIn_1 : decode cX4_putIn 1 = .ok (.getfield 12, 3) := by decide +kernel
theorem dX4_putIn_4 : decode cX4_putIn 4 = .ok (.getfield 100, 3) := by decide +kernel
theorem dX4_putIn_7 : decode cX4_putIn 7 = .ok (.iload_n 1, 1) := by decide +kernel
theorem dX4_putIn_8 : decode cX4_putIn 8 = .ok (.iload_n 2, 1) := by decide +kernel
theorem dX4_putIn_9 : decode cX4_putIn 9 = .ok (.iastore, 1) := by decide +kernel
theorem dX4_putIn_10 : decode cX4_putIn 10 = .ok (.iload_n 2, 1) := by decide +kernel
theorem dX4_putIn_11 : decode cX4_putIn 11 = .ok (.iconst (-1), 1) := by decide +kernel
theorem dX4_putIn_12 : decode cX4_putIn 12 = .ok (.if_icmp .eq 13, 3) := by decide +kernel
theorem dX4_putIn_15 : decode cX4_putIn 15 = .ok (.aload_n 0, 1) := by decide +kernel
theorem dX4_putIn_16 : decode cX4_putIn 16 = .ok (.getfield 19, 3) := by decide +kernel
theorem dX4_putIn_19 : decode cX4_putIn 19 = .ok (.getfield 90, 3) := by decide +kernel
theorem dX4_putIn_22 : decode cX4_putIn 22 = .ok (.iload_n 2, 1) := by decide +kernel
theorem dX4_putIn_23 : decode cX4_putIn 23 = .ok (.iload_n 1, 1) := by decide +kernel
theorem dX4_putIn_24 : decode cX4_putIn 24 = .ok (.iastore, 1) := by decide +kernel
theorem dX4_putIn_25 : decode cX4_putIn 25 = .ok (.return_, 1) := by decide +kernel
theorem dX4_putInFirstSlot_0 : decode cX4_putInFirstSlot 0 = .ok (.aload_n 0, 1) := by decide +kernel
theorem dX4_putInFirstSlot_1 : decode cX4_putInFirstSlot 1 = .ok (.getfield 19, 3) := by decide +kernel
theorem dX4_putInFirstSlot_4 : decode cX4_putInFirstSlot 4 = .ok (.getfield 103, 3) := by decide +kernel
theorem dX4_putInFirstSlot_7 : decode cX4_putInFirstSlot 7 = .ok (.iload_n 1, 1) := by decide +kernel
theorem dX4_putInFirstSlot_8 : decode cX4_putInFirstSlot 8 = .ok (.iaload, 1) := by decide +kernel
theorem dX4_putInFirstSlot_9 : decode cX4_putInFirstSlot 9 = .ok (.istore_n 2, 1) := by decide +kernel
theorem dX4_putInFirstSlot_10 : decode cX4_putInFirstSlot 10 = .ok (.iload_n 2, 1) := by decide +kernel
theorem dX4_putInFirstSlot_11 : decode cX4_putInFirstSlot 11 = .ok (.sipush 240, 3) := by decide +kernel
theorem dX4_putInFirstSlot_14 : decode cX4_putInFirstSlot 14 = .ok (.if_icmp .ge 46, 3) := by decide +kernel
theorem dX4_putInFirstSlot_17 : decode cX4_putInFirstSlot 17 = .ok (.aload_n 0, 1) := by decide +kernel
theorem dX4_putInFirstSlot_18 : decode cX4_putInFirstSlot 18 = .ok (.getfield 12, 3) := by decide +kernel
theorem dX4_putInFirstSlot_21 : decode cX4_putInFirstSlot 21 = .ok (.iload_n 2, 1) := by decide +kernel
theorem dX4_putInFirstSlot_22 : decode cX4_putInFirstSlot 22 = .ok (.invokevirtual 169, 3) := by decide +kernel
theorem dX4_putInFirstSlot_25 : decode cX4_putInFirstSlot 25 = .ok (.ifCond .eq 29, 3) := by decide +kernel
theorem dX4_putInFirstSlot_28 : decode cX4_putInFirstSlot 28 = .ok (.aload_n 0, 1) := by decide +kernel
theorem dX4_putInFirstSlot_29 : decode cX4_putInFirstSlot 29 = .ok (.iload_n 2, 1) := by decide +kernel
theorem dX4_putInFirstSlot_30 : decode cX4_putInFirstSlot 30 = .ok (.iload_n 1, 1) := by decide +kernel
theorem dX4_putInFirstSlot_31 : decode cX4_putInFirstSlot 31 = .ok (.invokevirtual 136, 3) := by decide +kernel
theorem dX4_putInFirstSlot_34 : decode cX4_putInFirstSlot 34 = .ok (.aload_n 0, 1) := by decide +kernel
theorem dX4_putInFirstSlot_35 : decode cX4_putInFirstSlot 35 = .ok (.getfield 12, 3) := by decide +kernel
theorem dX4_putInFirstSlot_38 : decode cX4_putInFirstSlot 38 = .ok (.getfield 97, 3) := by decide +kernel
theorem dX4_putInFirstSlot_41 : decode cX4_putInFirstSlot 41 = .ok (.iload_n 2, 1) := by decide +kernel
theorem dX4_putInFirstSlot_42 : decode cX4_putInFirstSlot 42 = .ok (.aload_n 0, 1) := by decide +kernel
theorem dX4_putInFirstSlot_43 : decode cX4_putInFirstSlot 43 = .ok (.getfield 19, 3) := by decide +kernel
theorem dX4_putInFirstSlot_46 : decode cX4_putInFirstSlot 46 = .ok (.getfield 124, 3) := by decide +kernel
theorem dX4_putInFirstSlot_49 : decode cX4_putInFirstSlot 49 = .ok (.iload_n 1, 1) := by decide +kernel
theorem dX4_putInFirstSlot_50 : decode cX4_putInFirstSlot 50 = .ok (.iaload, 1) := by decide +kernel
theorem dX4_putInFirstSlot_51 : decode cX4_putInFirstSlot 51 = .ok (.iastore, 1) := by decide +kernel
theorem dX4_putInFirstSlot_52 : decode cX4_putInFirstSlot 52 = .ok (.iconst 1, 1) := by decide +kernel
theorem dX4_putInFirstSlot_53 : decode cX4_putInFirstSlot 53 = .ok (.ireturn, 1) := by decide +kernel
theorem dX4_putInFirstSlot_54 : decode cX4_putInFirstSlot 54 = .ok (.iinc 2 1, 3) := by decide +kernel
theorem dX4_putInFirstSlot_57 : decode cX4_putInFirstSlot 57 = .ok (.goto (-47), 3) := by decide +kernel
theorem dX4_putInFirstSlot_60 : decode cX4_putInFirstSlot 60 = .ok (.iconst 0, 1) := by decide +kernel
theorem dX4_putInFirstSlot_61 : decode cX4_putInFirstSlot 61 = .ok (.ireturn, 1) := by decide +kernel
theorem dX4_rate_0 : decode cX4_rate 0 = .ok (.iload_n 1, 1) := by decide +kernel
theorem dX4_rate_1 : decode cX4_rate 1 = .ok (.ifCond .lt 9, 3) := by decide +kernel
theorem dX4_rate_4 : decode cX4_rate 4 = .ok (.iload_n 1, 1) := by decide +kernel
theorem dX4_rate_5 : decode cX4_rate 5 = .ok (.bipush 16, 2) := by decide +kernel
theorem dX4_rate_7 : decode cX4_rate 7 = .ok (.if_icmp .lt 13, 3) := by decide +kernel
theorem dX4_rate_10 : decode cX4_rate 10 = .ok (.new 37, 3) := by decide +kernel
theorem dX4_rate_13 : decode cX4_rate 13 = .ok (.dup, 1) := by decide +kernel
theorem dX4_rate_14 : decode cX4_rate 14 = .ok (.ldc 39, 2) := by decide +kernel
theorem dX4_rate_16 : decode cX4_rate 16 = .ok (.invokespecial 41, 3) := by decide +kernel
theorem dX4_rate_19 : decode cX4_rate 19 = .ok (.athrow, 1) := by decide +kernel
theorem dX4_rate_20 : decode cX4_rate 20 = .ok (.iload_n 2, 1) := by decide +kernel
theorem dX4_rate_21 : decode cX4_rate 21 = .ok (.ifCond .lt 9, 3) := by decide +kernel
theorem dX4_rate_24 : decode cX4_rate 24 = .ok (.iload_n 2, 1) := by decide +kernel
theorem dX4_rate_25 : decode cX4_rate 25 = .ok (.bipush 8, 2) := by decide +kernel
theorem dX4_rate_27 : decode cX4_rate 27 = .ok (.if_icmp .le 13, 3) := by decide +kernel
theorem dX4_rate_30 : decode cX4_rate 30 = .ok (.new 37, 3) := by decide +kernel
theorem dX4_rate_33 : decode cX4_rate 33 = .ok (.dup, 1) := by decide +kernel
theorem dX4_rate_34 : decode cX4_rate 34 = .ok (.ldc 44, 2) := by decide +kernel
theorem dX4_rate_36 : decode cX4_rate 36 = .ok (.invokespecial 41, 3) := by decide +kernel
theorem dX4_rate_39 : decode cX4_rate 39 = .ok (.athrow, 1) := by decide +kernel
theorem dX4_rate_40 : decode cX4_rate 40 = .ok (.aload_n 0, 1) := by decide +kernel
theorem dX4_rate_41 : decode cX4_rate 41 = .ok (.iload_n 1, 1) := by decide +kernel
theorem dX4_rate_42 : decode cX4_rate 42 = .ok (.iload_n 2, 1) := by decide +kernel
theorem dX4_rate_43 : decode cX4_rate 43 = .ok (.invokevirtual 46, 3) := by decide +kernel
theorem dX4_rate_46 : decode cX4_rate 46 = .ok (.ifCond .eq 13, 3) := by decide +kernel
theorem dX4_rate_49 : decode cX4_rate 49 = .ok (.new 50, 3) := by decide +kernel
theorem dX4_rate_52 : decode cX4_rate 52 = .ok (.dup, 1) := by decide +kernel
theorem dX4_rate_53 : decode cX4_rate 53 = .ok (.ldc 52, 2) := by decide +kernel
theorem dX4_rate_55 : decode cX4_rate 55 = .ok (.invokespecial 54, 3) := by decide +kernel
theorem dX4_rate_58 : decode cX4_rate 58 = .ok (.athrow, 1) := by decide +kernel
theorem dX4_rate_59 : decode cX4_rate 59 = .ok (.aload_n 0, 1) := by decide +kernel
theorem dX4_rate_60 : decode cX4_rate 60 = .ok (.getfield 12, 3) := by decide +kernel
theorem dX4_rate_63 : decode cX4_rate 63 = .ok (.iload_n 1, 1) := by decide +kernel
theorem dX4_rate_64 : decode cX4_rate 64 = .ok (.iload_n 2, 1) := by decide +kernel
theorem dX4_rate_65 : decode cX4_rate 65 = .ok (.invokevirtual 55, 3) := by decide +kernel
theorem dX4_rate_68 : decode cX4_rate 68 = .ok (.aload_n 0, 1) := by decide +kernel
theorem dX4_rate_69 : decode cX4_rate 69 = .ok (.invokevirtual 59, 3) := by decide +kernel
theorem dX4_rate_72 : decode cX4_rate 72 = .ok (.ireturn, 1) := by decide +kernel
theorem dX4_ration_0 : decode cX4_ration 0 = .ok (.aload_n 0, 1) := by decide +kernel
theorem dX4_ration_1 : decode cX4_ration 1 = .ok (.invokevirtual 59, 3) := by decide +kernel
theorem dX4_ration_4 : decode cX4_ration 4 = .ok (.ireturn, 1) := by decide +kernel
theorem dX4_rationAll_0 : decode cX4_rationAll 0 = .ok (.aload_n 0, 1) := by decide +kernel
theorem dX4_rationAll_1 : decode cX4_rationAll 1 = .ok (.invokevirtual 225, 3) := by decide +kernel
theorem dX4_rationAll_4 : decode cX4_rationAll 4 = .ok (.aload_n 0, 1) := by decide +kernel
theorem dX4_rationAll_5 : decode cX4_rationAll 5 = .ok (.getfield 33, 3) := by decide +kernel
theorem dX4_rationAll_8 : decode cX4_rationAll 8 = .ok (.invokevirtual 228, 3) := by decide +kernel
theorem dX4_rationAll_11 : decode cX4_rationAll 11 = .ok (.iconst 0, 1) := by decide +kernel
theorem dX4_rationAll_12 : decode cX4_rationAll 12 = .ok (.istore_n 1, 1) := by decide +kernel
theorem dX4_rationAll_13 : decode cX4_rationAll 13 = .ok (.iconst 0, 1) := by decide +kernel
theorem dX4_rationAll_14 : decode cX4_rationAll 14 = .ok (.istore_n 2, 1) := by decide +kernel
theorem dX4_rationAll_15 : decode cX4_rationAll 15 = .ok (.iload_n 2, 1) := by decide +kernel
theorem dX4_rationAll_16 : decode cX4_rationAll 16 = .ok (.aload_n 0, 1) := by decide +kernel
theorem dX4_rationAll_17 : decode cX4_rationAll 17 = .ok (.getfield 19, 3) := by decide +kernel
theorem dX4_rationAll_20 : decode cX4_rationAll 20 = .ok (.getfield 77, 3) := by decide +kernel
theorem dX4_rationAll_23 : decode cX4_rationAll 23 = .ok (.if_icmp .ge 41, 3) := by decide +kernel
theorem dX4_rationAll_26 : decode cX4_rationAll 26 = .ok (.aload_n 0, 1) := by decide +kernel
theorem dX4_rationAll_27 : decode cX4_rationAll 27 = .ok (.getfield 19, 3) := by decide +kernel
theorem dX4_rationAll_30 : decode cX4_rationAll 30 = .ok (.getfield 231, 3) := by decide +kernel
theorem dX4_rationAll_33 : decode cX4_rationAll 33 = .ok (.iload_n 2, 1) := by decide +kernel
theorem dX4_rationAll_34 : decode cX4_rationAll 34 = .ok (.iaload, 1) := by decide +kernel
theorem dX4_rationAll_35 : decode cX4_rationAll 35 = .ok (.istore_n 3, 1) := by decide +kernel
theorem dX4_rationAll_36 : decode cX4_rationAll 36 = .ok (.aload_n 0, 1) := by decide +kernel
theorem dX4_rationAll_37 : decode cX4_rationAll 37 = .ok (.getfield 19, 3) := by decide +kernel
theorem dX4_rationAll_40 : decode cX4_rationAll 40 = .ok (.iload_n 3, 1) := by decide +kernel
theorem dX4_rationAll_41 : decode cX4_rationAll 41 = .ok (.invokevirtual 214, 3) := by decide +kernel
theorem dX4_rationAll_44 : decode cX4_rationAll 44 = .ok (.ifCond .eq 14, 3) := by decide +kernel
theorem dX4_rationAll_47 : decode cX4_rationAll 47 = .ok (.aload_n 0, 1) := by decide +kernel
theorem dX4_rationAll_48 : decode cX4_rationAll 48 = .ok (.iload_n 3, 1) := by decide +kernel
theorem dX4_rationAll_49 : decode cX4_rationAll 49 = .ok (.invokevirtual 234, 3) := by decide +kernel
theorem dX4_rationAll_52 : decode cX4_rationAll 52 = .ok (.ifCond .ne 6, 3) := by decide +kernel
theorem dX4_rationAll_55 : decode cX4_rationAll 55 = .ok (.iinc 1 1, 3) := by decide +kernel
theorem dX4_rationAll_58 : decode cX4_rationAll 58 = .ok (.iinc 2 1, 3) := by decide +kernel
theorem dX4_rationAll_61 : decode cX4_rationAll 61 = .ok (.goto (-46), 3) := by decide +kernel
theorem dX4_rationAll_64 : decode cX4_rationAll 64 = .ok (.iload_n 1, 1) := by decide +kernel
theorem dX4_rationAll_65 : decode cX4_rationAll 65 = .ok (.ireturn, 1) := by decide +kernel
theorem dX4_slotOf_0 : decode cX4_slotOf 0 = .ok (.aload_n 0, 1) := by decide +kernel
theorem dX4_slotOf_1 : decode cX4_slotOf 1 = .ok (.iload_n 1, 1) := by decide +kernel
theorem dX4_slotOf_2 : decode cX4_slotOf 2 = .ok (.invokevirtual 87, 3) := by decide +kernel
theorem dX4_slotOf_5 : decode cX4_slotOf 5 = .ok (.aload_n 0, 1) := by decide +kernel
theorem dX4_slotOf_6 : decode cX4_slotOf 6 = .ok (.getfield 19, 3) := by decide +kernel
theorem dX4_slotOf_9 : decode cX4_slotOf 9 = .ok (.getfield 90, 3) := by decide +kernel
theorem dX4_slotOf_12 : decode cX4_slotOf 12 = .ok (.iload_n 1, 1) := by decide +kernel
theorem dX4_slotOf_13 : decode cX4_slotOf 13 = .ok (.iaload, 1) := by decide +kernel
theorem dX4_slotOf_14 : decode cX4_slotOf 14 = .ok (.ireturn, 1) := by decide +kernel
theorem dX4_swap_0 : decode cX4_swap 0 = .ok (.aload_n 0, 1) := by decide +kernel
theorem dX4_swap_1 : decode cX4_swap 1 = .ok (.iload_n 1, 1) := by decide +kernel
theorem dX4_swap_2 : decode cX4_swap 2 = .ok (.invokevirtual 87, 3) := by decide +kernel
theorem dX4_swap_5 : decode cX4_swap 5 = .ok (.aload_n 0, 1) := by decide +kernel
theorem dX4_swap_6 : decode cX4_swap 6 = .ok (.iload_n 2, 1) := by decide +kernel
theorem dX4_swap_7 : decode cX4_swap 7 = .ok (.invokevirtual 87, 3) := by decide +kernel
theorem dX4_swap_10 : decode cX4_swap 10 = .ok (.iload_n 1, 1) := by decide +kernel
theorem dX4_swap_11 : decode cX4_swap 11 = .ok (.iload_n 2, 1) := by decide +kernel
theorem dX4_swap_12 : decode cX4_swap 12 = .ok (.if_icmp .eq 24, 3) := by decide +kernel
theorem dX4_swap_15 : decode cX4_swap 15 = .ok (.aload_n 0, 1) := by decide +kernel
theorem dX4_swap_16 : decode cX4_swap 16 = .ok (.getfield 19, 3) := by decide +kernel
theorem dX4_swap_19 : decode cX4_swap 19 = .ok (.getfield 124, 3) := by decide +kernel
theorem dX4_swap_22 : decode cX4_swap 22 = .ok (.iload_n 1, 1) := by decide +kernel
theorem dX4_swap_23 : decode cX4_swap 23 = .ok (.iaload, 1) := by decide +kernel
theorem dX4_swap_24 : decode cX4_swap 24 = .ok (.aload_n 0, 1) := by decide +kernel
theorem dX4_swap_25 : decode cX4_swap 25 = .ok (.getfield 19, 3) := by decide +kernel
theorem dX4_swap_28 : decode cX4_swap 28 = .ok (.getfield 124, 3) := by decide +kernel
theorem dX4_swap_31 : decode cX4_swap 31 = .ok (.iload_n 2, 1) := by decide +kernel
theorem dX4_swap_32 : decode cX4_swap 32 = .ok (.iaload, 1) := by decide +kernel
theorem dX4_swap_33 : decode cX4_swap 33 = .ok (.if_icmp .eq 13, 3) := by decide +kernel
theorem dX4_swap_36 : decode cX4_swap 36 = .ok (.new 37, 3) := by decide +kernel
theorem dX4_swap_39 : decode cX4_swap 39 = .ok (.dup, 1) := by decide +kernel
theorem dX4_swap_40 : decode cX4_swap 40 = .ok (.ldc 127, 2) := by decide +kernel
theorem dX4_swap_42 : decode cX4_swap 42 = .ok (.invokespecial 41, 3) := by decide +kernel
theorem dX4_swap_45 : decode cX4_swap 45 = .ok (.athrow, 1) := by decide +kernel
theorem dX4_swap_46 : decode cX4_swap 46 = .ok (.aload_n 0, 1) := by decide +kernel
theorem dX4_swap_47 : decode cX4_swap 47 = .ok (.getfield 19, 3) := by decide +kernel
theorem dX4_swap_50 : decode cX4_swap 50 = .ok (.getfield 90, 3) := by decide +kernel
theorem dX4_swap_53 : decode cX4_swap 53 = .ok (.iload_n 1, 1) := by decide +kernel
theorem dX4_swap_54 : decode cX4_swap 54 = .ok (.iaload, 1) := by decide +kernel
theorem dX4_swap_55 : decode cX4_swap 55 = .ok (.istore_n 3, 1) := by decide +kernel
theorem dX4_swap_56 : decode cX4_swap 56 = .ok (.aload_n 0, 1) := by decide +kernel
theorem dX4_swap_57 : decode cX4_swap 57 = .ok (.getfield 19, 3) := by decide +kernel
theorem dX4_swap_60 : decode cX4_swap 60 = .ok (.getfield 90, 3) := by decide +kernel
theorem dX4_swap_63 : decode cX4_swap 63 = .ok (.iload_n 2, 1) := by decide +kernel
theorem dX4_swap_64 : decode cX4_swap 64 = .ok (.iaload, 1) := by decide +kernel
theorem dX4_swap_65 : decode cX4_swap 65 = .ok (.istore 4, 2) := by decide +kernel
theorem dX4_swap_67 : decode cX4_swap 67 = .ok (.iload_n 3, 1) := by decide +kernel
theorem dX4_swap_68 : decode cX4_swap 68 = .ok (.iconst (-1), 1) := by decide +kernel
theorem dX4_swap_69 : decode cX4_swap 69 = .ok (.if_icmp .eq 9, 3) := by decide +kernel
theorem dX4_swap_72 : decode cX4_swap 72 = .ok (.iload 4, 2) := by decide +kernel
theorem dX4_swap_74 : decode cX4_swap 74 = .ok (.iconst (-1), 1) := by decide +kernel
theorem dX4_swap_75 : decode cX4_swap 75 = .ok (.if_icmp .ne 13, 3) := by decide +kernel
theorem dX4_swap_78 : decode cX4_swap 78 = .ok (.new 50, 3) := by decide +kernel
theorem dX4_swap_81 : decode cX4_swap 81 = .ok (.dup, 1) := by decide +kernel
theorem dX4_swap_82 : decode cX4_swap 82 = .ok (.ldc 129, 2) := by decide +kernel
theorem dX4_swap_84 : decode cX4_swap 84 = .ok (.invokespecial 54, 3) := by decide +kernel
theorem dX4_swap_87 : decode cX4_swap 87 = .ok (.athrow, 1) := by decide +kernel
theorem dX4_swap_88 : decode cX4_swap 88 = .ok (.aload_n 0, 1) := by decide +kernel
theorem dX4_swap_89 : decode cX4_swap 89 = .ok (.iload_n 1, 1) := by decide +kernel
theorem dX4_swap_90 : decode cX4_swap 90 = .ok (.iload 4, 2) := by decide +kernel
theorem dX4_swap_92 : decode cX4_swap 92 = .ok (.invokevirtual 131, 3) := by decide +kernel
theorem dX4_swap_95 : decode cX4_swap 95 = .ok (.ifCond .eq 12, 3) := by decide +kernel
theorem dX4_swap_98 : decode cX4_swap 98 = .ok (.aload_n 0, 1) := by decide +kernel
theorem dX4_swap_99 : decode cX4_swap 99 = .ok (.iload_n 2, 1) := by decide +kernel
theorem dX4_swap_100 : decode cX4_swap 100 = .ok (.iload_n 3, 1) := by decide +kernel
theorem dX4_swap_101 : decode cX4_swap 101 = .ok (.invokevirtual 131, 3) := by decide +kernel
theorem dX4_swap_104 : decode cX4_swap 104 = .ok (.ifCond .ne 13, 3) := by decide +kernel
theorem dX4_swap_107 : decode cX4_swap 107 = .ok (.new 50, 3) := by decide +kernel
theorem dX4_swap_110 : decode cX4_swap 110 = .ok (.dup, 1) := by decide +kernel
theorem dX4_swap_111 : decode cX4_swap 111 = .ok (.ldc 134, 2) := by decide +kernel
theorem dX4_swap_113 : decode cX4_swap 113 = .ok (.invokespecial 54, 3) := by decide +kernel
theorem dX4_swap_116 : decode cX4_swap 116 = .ok (.athrow, 1) := by decide +kernel
theorem dX4_swap_117 : decode cX4_swap 117 = .ok (.aload_n 0, 1) := by decide +kernel
theorem dX4_swap_118 : decode cX4_swap 118 = .ok (.iload 4, 2) := by decide +kernel
theorem dX4_swap_120 : decode cX4_swap 120 = .ok (.iload_n 1, 1) := by decide +kernel
theorem dX4_swap_121 : decode cX4_swap 121 = .ok (.invokevirtual 136, 3) := by decide +kernel
theorem dX4_swap_124 : decode cX4_swap 124 = .ok (.aload_n 0, 1) := by decide +kernel
theorem dX4_swap_125 : decode cX4_swap 125 = .ok (.iload_n 3, 1) := by decide +kernel
theorem dX4_swap_126 : decode cX4_swap 126 = .ok (.iload_n 2, 1) := by decide +kernel
theorem dX4_swap_127 : decode cX4_swap 127 = .ok (.invokevirtual 136, 3) := by decide +kernel
theorem dX4_swap_130 : decode cX4_swap 130 = .ok (.aload_n 0, 1) := by decide +kernel
theorem dX4_swap_131 : decode cX4_swap 131 = .ok (.getfield 33, 3) := by decide +kernel
theorem dX4_swap_134 : decode cX4_swap 134 = .ok (.iconst 1, 1) := by decide +kernel
theorem dX4_swap_135 : decode cX4_swap 135 = .ok (.iload_n 1, 1) := by decide +kernel
theorem dX4_swap_136 : decode cX4_swap 136 = .ok (.iload_n 3, 1) := by decide +kernel
theorem dX4_swap_137 : decode cX4_swap 137 = .ok (.iload 4, 2) := by decide +kernel
theorem dX4_swap_139 : decode cX4_swap 139 = .ok (.invokevirtual 139, 3) := by decide +kernel
theorem dX4_swap_142 : decode cX4_swap 142 = .ok (.return_, 1) := by decide +kernel
theorem dX4_takeOut_0 : decode cX4_takeOut 0 = .ok (.aload_n 0, 1) := by decide +kernel
theorem dX4_takeOut_1 : decode cX4_takeOut 1 = .ok (.getfield 19, 3) := by decide +kernel
theorem dX4_takeOut_4 : decode cX4_takeOut 4 = .ok (.getfield 90, 3) := by decide +kernel
theorem dX4_takeOut_7 : decode cX4_takeOut 7 = .ok (.iload_n 1, 1) := by decide +kernel
theorem dX4_takeOut_8 : decode cX4_takeOut 8 = .ok (.iaload, 1) := by decide +kernel
theorem dX4_takeOut_9 : decode cX4_takeOut 9 = .ok (.istore_n 3, 1) := by decide +kernel
theorem dX4_takeOut_10 : decode cX4_takeOut 10 = .ok (.aload_n 0, 1) := by decide +kernel
theorem dX4_takeOut_11 : decode cX4_takeOut 11 = .ok (.getfield 12, 3) := by decide +kernel
theorem dX4_takeOut_14 : decode cX4_takeOut 14 = .ok (.getfield 100, 3) := by decide +kernel
theorem dX4_takeOut_17 : decode cX4_takeOut 17 = .ok (.iload_n 3, 1) := by decide +kernel
theorem dX4_takeOut_18 : decode cX4_takeOut 18 = .ok (.iconst (-1), 1) := by decide +kernel
theorem dX4_takeOut_19 : decode cX4_takeOut 19 = .ok (.iastore, 1) := by decide +kernel
theorem dX4_takeOut_20 : decode cX4_takeOut 20 = .ok (.aload_n 0, 1) := by decide +kernel
theorem dX4_takeOut_21 : decode cX4_takeOut 21 = .ok (.getfield 19, 3) := by decide +kernel
theorem dX4_takeOut_24 : decode cX4_takeOut 24 = .ok (.getfield 90, 3) := by decide +kernel
theorem dX4_takeOut_27 : decode cX4_takeOut 27 = .ok (.iload_n 1, 1) := by decide +kernel
theorem dX4_takeOut_28 : decode cX4_takeOut 28 = .ok (.iconst (-1), 1) := by decide +kernel
theorem dX4_takeOut_29 : decode cX4_takeOut 29 = .ok (.iastore, 1) := by decide +kernel
theorem dX4_takeOut_30 : decode cX4_takeOut 30 = .ok (.aload_n 0, 1) := by decide +kernel
theorem dX4_takeOut_31 : decode cX4_takeOut 31 = .ok (.getfield 33, 3) := by decide +kernel
theorem dX4_takeOut_34 : decode cX4_takeOut 34 = .ok (.iload_n 2, 1) := by decide +kernel
theorem dX4_takeOut_35 : decode cX4_takeOut 35 = .ok (.iload_n 1, 1) := by decide +kernel
theorem dX4_takeOut_36 : decode cX4_takeOut 36 = .ok (.iload_n 3, 1) := by decide +kernel
theorem dX4_takeOut_37 : decode cX4_takeOut 37 = .ok (.iconst (-1), 1) := by decide +kernel
theorem dX4_takeOut_38 : decode cX4_takeOut 38 = .ok (.invokevirtual 139, 3) := by decide +kernel
theorem dX4_takeOut_41 : decode cX4_takeOut 41 = .ok (.return_, 1) := by decide +kernel
theorem dX4_trade_0 : decode cX4_trade 0 = .ok (.iconst 0, 1) := by decide +kernel
theorem dX4_trade_1 : decode cX4_trade 1 = .ok (.istore_n 1, 1) := by decide +kernel
theorem dX4_trade_2 : decode cX4_trade 2 = .ok (.iconst 0, 1) := by decide +kernel
theorem dX4_trade_3 : decode cX4_trade 3 = .ok (.istore_n 2, 1) := by decide +kernel
theorem dX4_trade_4 : decode cX4_trade 4 = .ok (.iload_n 2, 1) := by decide +kernel
theorem dX4_trade_5 : decode cX4_trade 5 = .ok (.aload_n 0, 1) := by decide +kernel
theorem dX4_trade_6 : decode cX4_trade 6 = .ok (.getfield 26, 3) := by decide +kernel
theorem dX4_trade_9 : decode cX4_trade 9 = .ok (.getfield 146, 3) := by decide +kernel
theorem dX4_trade_12 : decode cX4_trade 12 = .ok (.if_icmp .ge 25, 3) := by decide +kernel
theorem dX4_trade_15 : decode cX4_trade 15 = .ok (.aload_n 0, 1) := by decide +kernel
theorem dX4_trade_16 : decode cX4_trade 16 = .ok (.iload_n 2, 1) := by decide +kernel
theorem dX4_trade_17 : decode cX4_trade 17 = .ok (.invokevirtual 155, 3) := by decide +kernel
theorem dX4_trade_20 : decode cX4_trade 20 = .ok (.ifCond .eq 11, 3) := by decide +kernel
theorem dX4_trade_23 : decode cX4_trade 23 = .ok (.iload_n 1, 1) := by decide +kernel
theorem dX4_trade_24 : decode cX4_trade 24 = .ok (.aload_n 0, 1) := by decide +kernel
theorem dX4_trade_25 : decode cX4_trade 25 = .ok (.iload_n 2, 1) := by decide +kernel
theorem dX4_trade_26 : decode cX4_trade 26 = .ok (.invokevirtual 159, 3) := by decide +kernel
theorem dX4_trade_29 : decode cX4_trade 29 = .ok (.iadd, 1) := by decide +kernel
theorem dX4_trade_30 : decode cX4_trade 30 = .ok (.istore_n 1, 1) := by decide +kernel
theorem dX4_trade_31 : decode cX4_trade 31 = .ok (.iinc 2 1, 3) := by decide +kernel
theorem dX4_trade_34 : decode cX4_trade 34 = .ok (.goto (-30), 3) := by decide +kernel
theorem dX4_trade_37 : decode cX4_trade 37 = .ok (.iload_n 1, 1) := by decide +kernel
theorem dX4_trade_38 : decode cX4_trade 38 = .ok (.ireturn, 1) := by decide +kernel
