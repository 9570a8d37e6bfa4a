theorem dX5_airborne_0 : decode cX5_airborne 0 = .ok (.aload_n 0, 1) := by decide +kernel
theorem dX5_airborne_1 : decode cX5_airborne 1 = .ok (.aload_n 0, 1) := by decide +kernel
theorem dX5_airborne_2 : decode cX5_airborne 2 = .ok (.iload_n 1, 1) := by decide +kernel
theorem dX5_airborne_3 : decode cX5_airborne 3 = .ok (.invokevirtual 91, 3) := by decide +kernel
theorem dX5_airborne_6 : decode cX5_airborne 6 = .ok (.ifCond .ne 7, 3) := by decide +kernel
theorem dX5_airborne_9 : decode cX5_airborne 9 = .ok (.iconst 1, 1) := by decide +kernel
theorem dX5_airborne_10 : decode cX5_airborne 10 = .ok (.goto 26, 3) := by decide +kernel
theorem dX5_airborne_13 : decode cX5_airborne 13 = .ok (.aload_n 0, 1) := by decide +kernel
theorem dX5_airborne_14 : decode cX5_airborne 14 = .ok (.getfield 35, 3) := by decide +kernel
theorem dX5_airborne_17 : decode cX5_airborne 17 = .ok (.iload_n 1, 1) := by decide +kernel
theorem dX5_airborne_18 : decode cX5_airborne 18 = .ok (.baload, 1) := by decide +kernel
theorem dX5_airborne_19 : decode cX5_airborne 19 = .ok (.ifCond .ne 12, 3) := by decide +kernel
theorem dX5_airborne_22 : decode cX5_airborne 22 = .ok (.aload_n 0, 1) := by decide +kernel
theorem dX5_airborne_23 : decode cX5_airborne 23 = .ok (.getfield 29, 3) := by decide +kernel
theorem dX5_airborne_26 : decode cX5_airborne 26 = .ok (.iload_n 1, 1) := by decide +kernel
theorem dX5_airborne_27 : decode cX5_airborne 27 = .ok (.iaload, 1) := by decide +kernel
theorem dX5_airborne_28 : decode cX5_airborne 28 = .ok (.ifCond .ge 7, 3) := by decide +kernel
theorem dX5_airborne_31 : decode cX5_airborne 31 = .ok (.iconst 2, 1) := by decide +kernel
theorem dX5_airborne_32 : decode cX5_airborne 32 = .ok (.goto 4, 3) := by decide +kernel
theorem dX5_airborne_35 : decode cX5_airborne 35 = .ok (.iconst 0, 1) := by decide +kernel
theorem dX5_airborne_36 : decode cX5_airborne 36 = .ok (.putfield 56, 3) := by decide +kernel
theorem dX5_airborne_39 : decode cX5_airborne 39 = .ok (.aload_n 0, 1) := by decide +kernel
theorem dX5_airborne_40 : decode cX5_airborne 40 = .ok (.getfield 56, 3) := by decide +kernel
theorem dX5_airborne_43 : decode cX5_airborne 43 = .ok (.ifCond .ne 10, 3) := by decide +kernel
theorem dX5_airborne_46 : decode cX5_airborne 46 = .ok (.aload_n 0, 1) := by decide +kernel
theorem dX5_airborne_47 : decode cX5_airborne 47 = .ok (.getfield 35, 3) := by decide +kernel
theorem dX5_airborne_50 : decode cX5_airborne 50 = .ok (.iload_n 1, 1) := by decide +kernel
theorem dX5_airborne_51 : decode cX5_airborne 51 = .ok (.iconst 1, 1) := by decide +kernel
theorem dX5_airborne_52 : decode cX5_airborne 52 = .ok (.bastore, 1) := by decide +kernel
theorem dX5_airborne_53 : decode cX5_airborne 53 = .ok (.return_, 1) := by decide +kernel
theorem dX5_cancel_0 : decode cX5_cancel 0 = .ok (.aload_n 0, 1) := by decide +kernel
theorem dX5_cancel_1 : decode cX5_cancel 1 = .ok (.aload_n 0, 1) := by decide +kernel
theorem dX5_cancel_2 : decode cX5_cancel 2 = .ok (.iload_n 1, 1) := by decide +kernel
theorem dX5_cancel_3 : decode cX5_cancel 3 = .ok (.invokevirtual 91, 3) := by decide +kernel
theorem dX5_cancel_6 : decode cX5_cancel 6 = .ok (.ifCond .ne 7, 3) := by decide +kernel
theorem dX5_cancel_9 : decode cX5_cancel 9 = .ok (.iconst 1, 1) := by decide +kernel
theorem dX5_cancel_10 : decode cX5_cancel 10 = .ok (.goto 16, 3) := by decide +kernel
theorem dX5_cancel_13 : decode cX5_cancel 13 = .ok (.aload_n 0, 1) := by decide +kernel
theorem dX5_cancel_14 : decode cX5_cancel 14 = .ok (.iload_n 1, 1) := by decide +kernel
theorem dX5_cancel_15 : decode cX5_cancel 15 = .ok (.invokevirtual 66, 3) := by decide +kernel
theorem dX5_cancel_18 : decode cX5_cancel 18 = .ok (.ifCond .ne 7, 3) := by decide +kernel
theorem dX5_cancel_21 : decode cX5_cancel 21 = .ok (.iconst 2, 1) := by decide +kernel
theorem dX5_cancel_22 : decode cX5_cancel 22 = .ok (.goto 4, 3) := by decide +kernel
theorem dX5_cancel_25 : decode cX5_cancel 25 = .ok (.iconst 0, 1) := by decide +kernel
theorem dX5_cancel_26 : decode cX5_cancel 26 = .ok (.putfield 56, 3) := by decide +kernel
theorem dX5_cancel_29 : decode cX5_cancel 29 = .ok (.aload_n 0, 1) := by decide +kernel
theorem dX5_cancel_30 : decode cX5_cancel 30 = .ok (.getfield 56, 3) := by decide +kernel
theorem dX5_cancel_33 : decode cX5_cancel 33 = .ok (.ifCond .le 5, 3) := by decide +kernel
theorem dX5_cancel_36 : decode cX5_cancel 36 = .ok (.iconst 0, 1) := by decide +kernel
theorem dX5_cancel_37 : decode cX5_cancel 37 = .ok (.ireturn, 1) := by decide +kernel
theorem dX5_cancel_38 : decode cX5_cancel 38 = .ok (.aload_n 0, 1) := by decide +kernel
theorem dX5_cancel_39 : decode cX5_cancel 39 = .ok (.getfield 32, 3) := by decide +kernel
theorem dX5_cancel_42 : decode cX5_cancel 42 = .ok (.iload_n 1, 1) := by decide +kernel
theorem dX5_cancel_43 : decode cX5_cancel 43 = .ok (.iconst 1, 1) := by decide +kernel
theorem dX5_cancel_44 : decode cX5_cancel 44 = .ok (.bastore, 1) := by decide +kernel
theorem dX5_cancel_45 : decode cX5_cancel 45 = .ok (.aload_n 0, 1) := by decide +kernel
theorem dX5_cancel_46 : decode cX5_cancel 46 = .ok (.getfield 29, 3) := by decide +kernel
theorem dX5_cancel_49 : decode cX5_cancel 49 = .ok (.iload_n 1, 1) := by decide +kernel
theorem dX5_cancel_50 : decode cX5_cancel 50 = .ok (.iaload, 1) := by decide +kernel
theorem dX5_cancel_51 : decode cX5_cancel 51 = .ok (.istore_n 2, 1) := by decide +kernel
theorem dX5_cancel_52 : decode cX5_cancel 52 = .ok (.iload_n 2, 1) := by decide +kernel
theorem dX5_cancel_53 : decode cX5_cancel 53 = .ok (.ifCond .ge 5, 3) := by decide +kernel
theorem dX5_cancel_56 : decode cX5_cancel 56 = .ok (.iconst 0, 1) := by decide +kernel
theorem dX5_cancel_57 : decode cX5_cancel 57 = .ok (.ireturn, 1) := by decide +kernel
theorem dX5_cancel_58 : decode cX5_cancel 58 = .ok (.aload_n 0, 1) := by decide +kernel
theorem dX5_cancel_59 : decode cX5_cancel 59 = .ok (.iload_n 2, 1) := by decide +kernel
theorem dX5_cancel_60 : decode cX5_cancel 60 = .ok (.invokevirtual 73, 3) := by decide +kernel
theorem dX5_cancel_63 : decode cX5_cancel 63 = .ok (.aload_n 0, 1) := by decide +kernel
theorem dX5_cancel_64 : decode cX5_cancel 64 = .ok (.iconst 5, 1) := by decide +kernel
theorem dX5_cancel_65 : decode cX5_cancel 65 = .ok (.iload_n 1, 1) := by decide +kernel
theorem dX5_cancel_66 : decode cX5_cancel 66 = .ok (.iload_n 2, 1) := by decide +kernel
theorem dX5_cancel_67 : decode cX5_cancel 67 = .ok (.iconst (-1), 1) := by decide +kernel
theorem dX5_cancel_68 : decode cX5_cancel 68 = .ok (.invokevirtual 97, 3) := by decide +kernel
theorem dX5_cancel_71 : decode cX5_cancel 71 = .ok (.iconst 1, 1) := by decide +kernel
theorem dX5_cancel_72 : decode cX5_cancel 72 = .ok (.ireturn, 1) := by decide +kernel
theorem dX5_close_0 : decode cX5_close 0 = .ok (.aload_n 0, 1) := by decide +kernel
theorem dX5_close_1 : decode cX5_close 1 = .ok (.getfield 50, 3) := by decide +kernel
theorem dX5_close_4 : decode cX5_close 4 = .ok (.iload_n 1, 1) := by decide +kernel
theorem dX5_close_5 : decode cX5_close 5 = .ok (.iconst 0, 1) := by decide +kernel
theorem dX5_close_6 : decode cX5_close 6 = .ok (.bastore, 1) := by decide +kernel
theorem dX5_close_7 : decode cX5_close 7 = .ok (.aload_n 0, 1) := by decide +kernel
theorem dX5_close_8 : decode cX5_close 8 = .ok (.iconst 2, 1) := by decide +kernel
theorem dX5_close_9 : decode cX5_close 9 = .ok (.aload_n 0, 1) := by decide +kernel
theorem dX5_close_10 : decode cX5_close 10 = .ok (.getfield 17, 3) := by decide +kernel
theorem dX5_close_13 : decode cX5_close 13 = .ok (.aload_n 0, 1) := by decide +kernel
theorem dX5_close_14 : decode cX5_close 14 = .ok (.getfield 44, 3) := by decide +kernel
theorem dX5_close_17 : decode cX5_close 17 = .ok (.iload_n 1, 1) := by decide +kernel
theorem dX5_close_18 : decode cX5_close 18 = .ok (.iaload, 1) := by decide +kernel
theorem dX5_close_19 : decode cX5_close 19 = .ok (.iaload, 1) := by decide +kernel
theorem dX5_close_20 : decode cX5_close 20 = .ok (.aload_n 0, 1) := by decide +kernel
theorem dX5_close_21 : decode cX5_close 21 = .ok (.getfield 44, 3) := by decide +kernel
theorem dX5_close_24 : decode cX5_close 24 = .ok (.iload_n 1, 1) := by decide +kernel
theorem dX5_close_25 : decode cX5_close 25 = .ok (.iaload, 1) := by decide +kernel
theorem dX5_close_26 : decode cX5_close 26 = .ok (.aload_n 0, 1) := by decide +kernel
theorem dX5_close_27 : decode cX5_close 27 = .ok (.getfield 47, 3) := by decide +kernel
theorem dX5_close_30 : decode cX5_close 30 = .ok (.iload_n 1, 1) := by decide +kernel
theorem dX5_close_31 : decode cX5_close 31 = .ok (.iaload, 1) := by decide +kernel
theorem dX5_close_32 : decode cX5_close 32 = .ok (.invokevirtual 97, 3) := by decide +kernel
theorem dX5_close_35 : decode cX5_close 35 = .ok (.return_, 1) := by decide +kernel
theorem dX5_compress_0 : decode cX5_compress 0 = .ok (.aload_n 0, 1) := by decide +kernel
theorem dX5_compress_1 : decode cX5_compress 1 = .ok (.iconst 0, 1) := by decide +kernel
theorem dX5_compress_2 : decode cX5_compress 2 = .ok (.putfield 56, 3) := by decide +kernel
theorem dX5_compress_5 : decode cX5_compress 5 = .ok (.iconst 0, 1) := by decide +kernel
theorem dX5_compress_6 : decode cX5_compress 6 = .ok (.istore_n 1, 1) := by decide +kernel
theorem dX5_compress_7 : decode cX5_compress 7 = .ok (.aload_n 0, 1) := by decide +kernel
theorem dX5_compress_8 : decode cX5_compress 8 = .ok (.invokevirtual 129, 3) := by decide +kernel
theorem dX5_compress_11 : decode cX5_compress 11 = .ok (.ifCond .eq 9, 3) := by decide +kernel
theorem dX5_compress_14 : decode cX5_compress 14 = .ok (.iinc 1 1, 3) := by decide +kernel
theorem dX5_compress_17 : decode cX5_compress 17 = .ok (.goto (-10), 3) := by decide +kernel
theorem dX5_compress_20 : decode cX5_compress 20 = .ok (.iload_n 1, 1) := by decide +kernel
theorem dX5_compress_21 : decode cX5_compress 21 = .ok (.ireturn, 1) := by decide +kernel
theorem dX5_delay_0 : decode cX5_delay 0 = .ok (.aload_n 0, 1) := by decide +kernel
theorem dX5_delay_1 : decode cX5_delay 1 = .ok (.iload_n 1, 1) := by decide +kernel
theorem dX5_delay_2 : decode cX5_delay 2 = .ok (.iconst (-1), 1) := by decide +kernel
theorem dX5_delay_3 : decode cX5_delay 3 = .ok (.bipush 7, 2) := by decide +kernel
theorem dX5_delay_5 : decode cX5_delay 5 = .ok (.invokestatic 84, 3) := by decide +kernel
theorem dX5_delay_8 : decode cX5_delay 8 = .ok (.ifCond .eq 7, 3) := by decide +kernel
theorem dX5_delay_11 : decode cX5_delay 11 = .ok (.iconst 0, 1) := by decide +kernel
theorem dX5_delay_12 : decode cX5_delay 12 = .ok (.goto 4, 3) := by decide +kernel
theorem dX5_delay_15 : decode cX5_delay 15 = .ok (.iconst 1, 1) := by decide +kernel
theorem dX5_delay_16 : decode cX5_delay 16 = .ok (.putfield 56, 3) := by decide +kernel
theorem dX5_delay_19 : decode cX5_delay 19 = .ok (.iconst 0, 1) := by decide +kernel
theorem dX5_delay_20 : decode cX5_delay 20 = .ok (.istore_n 2, 1) := by decide +kernel
theorem dX5_delay_21 : decode cX5_delay 21 = .ok (.iconst 0, 1) := by decide +kernel
theorem dX5_delay_22 : decode cX5_delay 22 = .ok (.istore_n 3, 1) := by decide +kernel
theorem dX5_delay_23 : decode cX5_delay 23 = .ok (.iload_n 3, 1) := by decide +kernel
theorem dX5_delay_24 : decode cX5_delay 24 = .ok (.aload_n 0, 1) := by decide +kernel
theorem dX5_delay_25 : decode cX5_delay 25 = .ok (.getfield 60, 3) := by decide +kernel
theorem dX5_delay_28 : decode cX5_delay 28 = .ok (.if_icmp .ge 60, 3) := by decide +kernel
theorem dX5_delay_31 : decode cX5_delay 31 = .ok (.aload_n 0, 1) := by decide +kernel
theorem dX5_delay_32 : decode cX5_delay 32 = .ok (.getfield 56, 3) := by decide +kernel
theorem dX5_delay_35 : decode cX5_delay 35 = .ok (.ifCond .ne 53, 3) := by decide +kernel
theorem dX5_delay_38 : decode cX5_delay 38 = .ok (.aload_n 0, 1) := by decide +kernel
theorem dX5_delay_39 : decode cX5_delay 39 = .ok (.getfield 29, 3) := by decide +kernel
theorem dX5_delay_42 : decode cX5_delay 42 = .ok (.iload_n 3, 1) := by decide +kernel
theorem dX5_delay_43 : decode cX5_delay 43 = .ok (.iaload, 1) := by decide +kernel
theorem dX5_delay_44 : decode cX5_delay 44 = .ok (.ifCond .lt 36, 3) := by decide +kernel
theorem dX5_delay_47 : decode cX5_delay 47 = .ok (.iload_n 1, 1) := by decide +kernel
theorem dX5_delay_48 : decode cX5_delay 48 = .ok (.iconst (-1), 1) := by decide +kernel
theorem dX5_delay_49 : decode cX5_delay 49 = .ok (.if_icmp .eq 13, 3) := by decide +kernel
theorem dX5_delay_52 : decode cX5_delay 52 = .ok (.aload_n 0, 1) := by decide +kernel
theorem dX5_delay_53 : decode cX5_delay 53 = .ok (.getfield 20, 3) := by decide +kernel
theorem dX5_delay_56 : decode cX5_delay 56 = .ok (.iload_n 3, 1) := by decide +kernel
theorem dX5_delay_57 : decode cX5_delay 57 = .ok (.iaload, 1) := by decide +kernel
theorem dX5_delay_58 : decode cX5_delay 58 = .ok (.iload_n 1, 1) := by decide +kernel
theorem dX5_delay_59 : decode cX5_delay 59 = .ok (.if_icmp .ne 21, 3) := by decide +kernel
theorem dX5_delay_62 : decode cX5_delay 62 = .ok (.iload_n 2, 1) := by decide +kernel
theorem dX5_delay_63 : decode cX5_delay 63 = .ok (.aload_n 0, 1) := by decide +kernel
theorem dX5_delay_64 : decode cX5_delay 64 = .ok (.getfield 29, 3) := by decide +kernel
theorem dX5_delay_67 : decode cX5_delay 67 = .ok (.iload_n 3, 1) := by decide +kernel
theorem dX5_delay_68 : decode cX5_delay 68 = .ok (.iaload, 1) := by decide +kernel
theorem dX5_delay_69 : decode cX5_delay 69 = .ok (.iadd, 1) := by decide +kernel
theorem dX5_delay_70 : decode cX5_delay 70 = .ok (.aload_n 0, 1) := by decide +kernel
theorem dX5_delay_71 : decode cX5_delay 71 = .ok (.getfield 23, 3) := by decide +kernel
theorem dX5_delay_74 : decode cX5_delay 74 = .ok (.iload_n 3, 1) := by decide +kernel
theorem dX5_delay_75 : decode cX5_delay 75 = .ok (.iaload, 1) := by decide +kernel
theorem dX5_delay_76 : decode cX5_delay 76 = .ok (.isub, 1) := by decide +kernel
theorem dX5_delay_77 : decode cX5_delay 77 = .ok (.goto 4, 3) := by decide +kernel
theorem dX5_delay_80 : decode cX5_delay 80 = .ok (.iload_n 2, 1) := by decide +kernel
theorem dX5_delay_81 : decode cX5_delay 81 = .ok (.istore_n 2, 1) := by decide +kernel
theorem dX5_delay_82 : decode cX5_delay 82 = .ok (.iinc 3 1, 3) := by decide +kernel
theorem dX5_delay_85 : decode cX5_delay 85 = .ok (.goto (-62), 3) := by decide +kernel
theorem dX5_delay_88 : decode cX5_delay 88 = .ok (.iload_n 2, 1) := by decide +kernel
theorem dX5_delay_89 : decode cX5_delay 89 = .ok (.ireturn, 1) := by decide +kernel
theorem dX5_drop_0 : decode cX5_drop 0 = .ok (.aload_n 0, 1) := by decide +kernel
theorem dX5_drop_1 : decode cX5_drop 1 = .ok (.iload_n 1, 1) := by decide +kernel
theorem dX5_drop_2 : decode cX5_drop 2 = .ok (.ifCond .lt 11, 3) := by decide +kernel
theorem dX5_drop_5 : decode cX5_drop 5 = .ok (.iload_n 1, 1) := by decide +kernel
theorem dX5_drop_6 : decode cX5_drop 6 = .ok (.aload_n 0, 1) := by decide +kernel
theorem dX5_drop_7 : decode cX5_drop 7 = .ok (.getfield 108, 3) := by decide +kernel
theorem dX5_drop_10 : decode cX5_drop 10 = .ok (.if_icmp .lt 7, 3) := by decide +kernel
theorem dX5_drop_13 : decode cX5_drop 13 = .ok (.iconst 1, 1) := by decide +kernel
theorem dX5_drop_14 : decode cX5_drop 14 = .ok (.goto 4, 3) := by decide +kernel
theorem dX5_drop_17 : decode cX5_drop 17 = .ok (.iconst 0, 1) := by decide +kernel
theorem dX5_drop_18 : decode cX5_drop 18 = .ok (.putfield 56, 3) := by decide +kernel
theorem dX5_drop_21 : decode cX5_drop 21 = .ok (.aload_n 0, 1) := by decide +kernel
theorem dX5_drop_22 : decode cX5_drop 22 = .ok (.getfield 56, 3) := by decide +kernel
theorem dX5_drop_25 : decode cX5_drop 25 = .ok (.ifCond .le 5, 3) := by decide +kernel
theorem dX5_drop_28 : decode cX5_drop 28 = .ok (.iconst 0, 1) := by decide +kernel
theorem dX5_drop_29 : decode cX5_drop 29 = .ok (.ireturn, 1) := by decide +kernel
theorem dX5_drop_30 : decode cX5_drop 30 = .ok (.aload_n 0, 1) := by decide +kernel
theorem dX5_drop_31 : decode cX5_drop 31 = .ok (.getfield 50, 3) := by decide +kernel
theorem dX5_drop_34 : decode cX5_drop 34 = .ok (.iload_n 1, 1) := by decide +kernel
theorem dX5_drop_35 : decode cX5_drop 35 = .ok (.baload, 1) := by decide +kernel
theorem dX5_drop_36 : decode cX5_drop 36 = .ok (.istore_n 2, 1) := by decide +kernel
theorem dX5_drop_37 : decode cX5_drop 37 = .ok (.aload_n 0, 1) := by decide +kernel
theorem dX5_drop_38 : decode cX5_drop 38 = .ok (.getfield 50, 3) := by decide +kernel
theorem dX5_drop_41 : decode cX5_drop 41 = .ok (.iload_n 1, 1) := by decide +kernel
theorem dX5_drop_42 : decode cX5_drop 42 = .ok (.iconst 0, 1) := by decide +kernel
theorem dX5_drop_43 : decode cX5_drop 43 = .ok (.bastore, 1) := by decide +kernel
theorem dX5_drop_44 : decode cX5_drop 44 = .ok (.iload_n 2, 1) := by decide +kernel
theorem dX5_drop_45 : decode cX5_drop 45 = .ok (.ireturn, 1) := by decide +kernel
theorem dX5_empty_0 : decode cX5_empty 0 = .ok (.aload_n 0, 1) := by decide +kernel
theorem dX5_empty_1 : decode cX5_empty 1 = .ok (.getfield 17, 3) := by decide +kernel
theorem dX5_empty_4 : decode cX5_empty 4 = .ok (.iload_n 1, 1) := by decide +kernel
theorem dX5_empty_5 : decode cX5_empty 5 = .ok (.iaload, 1) := by decide +kernel
theorem dX5_empty_6 : decode cX5_empty 6 = .ok (.ifCond .lt 15, 3) := by decide +kernel
theorem dX5_empty_9 : decode cX5_empty 9 = .ok (.aload_n 0, 1) := by decide +kernel
theorem dX5_empty_10 : decode cX5_empty 10 = .ok (.getfield 29, 3) := by decide +kernel
theorem dX5_empty_13 : decode cX5_empty 13 = .ok (.aload_n 0, 1) := by decide +kernel
theorem dX5_empty_14 : decode cX5_empty 14 = .ok (.getfield 17, 3) := by decide +kernel
theorem dX5_empty_17 : decode cX5_empty 17 = .ok (.iload_n 1, 1) := by decide +kernel
theorem dX5_empty_18 : decode cX5_empty 18 = .ok (.iaload, 1) := by decide +kernel
theorem dX5_empty_19 : decode cX5_empty 19 = .ok (.iconst (-1), 1) := by decide +kernel
theorem dX5_empty_20 : decode cX5_empty 20 = .ok (.iastore, 1) := by decide +kernel
theorem dX5_empty_21 : decode cX5_empty 21 = .ok (.aload_n 0, 1) := by decide +kernel
theorem dX5_empty_22 : decode cX5_empty 22 = .ok (.getfield 17, 3) := by decide +kernel
theorem dX5_empty_25 : decode cX5_empty 25 = .ok (.iload_n 1, 1) := by decide +kernel
theorem dX5_empty_26 : decode cX5_empty 26 = .ok (.iconst (-1), 1) := by decide +kernel
theorem dX5_empty_27 : decode cX5_empty 27 = .ok (.iastore, 1) := by decide +kernel
theorem dX5_empty_28 : decode cX5_empty 28 = .ok (.return_, 1) := by decide +kernel
theorem dX5_entry_0 : decode cX5_entry 0 = .ok (.aload_n 0, 1) := by decide +kernel
theorem dX5_entry_1 : decode cX5_entry 1 = .ok (.iload_n 1, 1) := by decide +kernel
theorem dX5_entry_2 : decode cX5_entry 2 = .ok (.ifCond .lt 11, 3) := by decide +kernel
theorem dX5_entry_5 : decode cX5_entry 5 = .ok (.iload_n 1, 1) := by decide +kernel
theorem dX5_entry_6 : decode cX5_entry 6 = .ok (.aload_n 0, 1) := by decide +kernel
theorem dX5_entry_7 : decode cX5_entry 7 = .ok (.getfield 63, 3) := by decide +kernel
theorem dX5_entry_10 : decode cX5_entry 10 = .ok (.if_icmp .lt 7, 3) := by decide +kernel
theorem dX5_entry_13 : decode cX5_entry 13 = .ok (.iconst 1, 1) := by decide +kernel
theorem dX5_entry_14 : decode cX5_entry 14 = .ok (.goto 17, 3) := by decide +kernel
theorem dX5_entry_17 : decode cX5_entry 17 = .ok (.iload_n 2, 1) := by decide +kernel
theorem dX5_entry_18 : decode cX5_entry 18 = .ok (.iconst 0, 1) := by decide +kernel
theorem dX5_entry_19 : decode cX5_entry 19 = .ok (.iconst 3, 1) := by decide +kernel
theorem dX5_entry_20 : decode cX5_entry 20 = .ok (.invokestatic 84, 3) := by decide +kernel
theorem dX5_entry_23 : decode cX5_entry 23 = .ok (.ifCond .ne 7, 3) := by decide +kernel
theorem dX5_entry_26 : decode cX5_entry 26 = .ok (.iconst 2, 1) := by decide +kernel
theorem dX5_entry_27 : decode cX5_entry 27 = .ok (.goto 4, 3) := by decide +kernel
theorem dX5_entry_30 : decode cX5_entry 30 = .ok (.iconst 0, 1) := by decide +kernel
theorem dX5_entry_31 : decode cX5_entry 31 = .ok (.putfield 56, 3) := by decide +kernel
theorem dX5_entry_34 : decode cX5_entry 34 = .ok (.aload_n 0, 1) := by decide +kernel
theorem dX5_entry_35 : decode cX5_entry 35 = .ok (.getfield 56, 3) := by decide +kernel
theorem dX5_entry_38 : decode cX5_entry 38 = .ok (.ifCond .le 7, 3) := by decide +kernel
theorem dX5_entry_41 : decode cX5_entry 41 = .ok (.iconst 0, 1) := by decide +kernel
theorem dX5_entry_42 : decode cX5_entry 42 = .ok (.goto 13, 3) := by decide +kernel
theorem dX5_entry_45 : decode cX5_entry 45 = .ok (.aload_n 0, 1) := by decide +kernel
theorem dX5_entry_46 : decode cX5_entry 46 = .ok (.getfield 53, 3) := by decide +kernel
theorem dX5_entry_49 : decode cX5_entry 49 = .ok (.iconst 4, 1) := by decide +kernel
theorem dX5_entry_50 : decode cX5_entry 50 = .ok (.iload_n 1, 1) := by decide +kernel
theorem dX5_entry_51 : decode cX5_entry 51 = .ok (.imul, 1) := by decide +kernel
theorem dX5_entry_52 : decode cX5_entry 52 = .ok (.iload_n 2, 1) := by decide +kernel
theorem dX5_entry_53 : decode cX5_entry 53 = .ok (.iadd, 1) := by decide +kernel
theorem dX5_entry_54 : decode cX5_entry 54 = .ok (.iaload, 1) := by decide +kernel
theorem dX5_entry_55 : decode cX5_entry 55 = .ok (.ireturn, 1) := by decide +kernel
theorem dX5_exchange_0 : decode cX5_exchange 0 = .ok (.aload_n 0, 1) := by decide +kernel
theorem dX5_exchange_1 : decode cX5_exchange 1 = .ok (.getfield 17, 3) := by decide +kernel
theorem dX5_exchange_4 : decode cX5_exchange 4 = .ok (.iload_n 1, 1) := by decide +kernel
theorem dX5_exchange_5 : decode cX5_exchange 5 = .ok (.iaload, 1) := by decide +kernel
theorem dX5_exchange_6 : decode cX5_exchange 6 = .ok (.istore_n 3, 1) := by decide +kernel
theorem dX5_exchange_7 : decode cX5_exchange 7 = .ok (.aload_n 0, 1) := by decide +kernel
theorem dX5_exchange_8 : decode cX5_exchange 8 = .ok (.getfield 13, 3) := by decide +kernel
theorem dX5_exchange_11 : decode cX5_exchange 11 = .ok (.iload_n 1, 1) := by decide +kernel
theorem dX5_exchange_12 : decode cX5_exchange 12 = .ok (.iaload, 1) := by decide +kernel
theorem dX5_exchange_13 : decode cX5_exchange 13 = .ok (.istore 4, 2) := by decide +kernel
theorem dX5_exchange_15 : decode cX5_exchange 15 = .ok (.aload_n 0, 1) := by decide +kernel
theorem dX5_exchange_16 : decode cX5_exchange 16 = .ok (.aload_n 0, 1) := by decide +kernel
theorem dX5_exchange_17 : decode cX5_exchange 17 = .ok (.getfield 17, 3) := by decide +kernel
theorem dX5_exchange_20 : decode cX5_exchange 20 = .ok (.iload_n 2, 1) := by decide +kernel
theorem dX5_exchange_21 : decode cX5_exchange 21 = .ok (.iaload, 1) := by decide +kernel
theorem dX5_exchange_22 : decode cX5_exchange 22 = .ok (.iload_n 1, 1) := by decide +kernel
theorem dX5_exchange_23 : decode cX5_exchange 23 = .ok (.invokevirtual 101, 3) := by decide +kernel
theorem dX5_exchange_26 : decode cX5_exchange 26 = .ok (.aload_n 0, 1) := by decide +kernel
theorem dX5_exchange_27 : decode cX5_exchange 27 = .ok (.iload_n 3, 1) := by decide +kernel
theorem dX5_exchange_28 : decode cX5_exchange 28 = .ok (.iload_n 2, 1) := by decide +kernel
theorem dX5_exchange_29 : decode cX5_exchange 29 = .ok (.invokevirtual 101, 3) := by decide +kernel
theorem dX5_exchange_32 : decode cX5_exchange 32 = .ok (.aload_n 0, 1) := by decide +kernel
theorem dX5_exchange_33 : decode cX5_exchange 33 = .ok (.getfield 13, 3) := by decide +kernel
theorem dX5_exchange_36 : decode cX5_exchange 36 = .ok (.iload_n 1, 1) := by decide +kernel
theorem dX5_exchange_37 : decode cX5_exchange 37 = .ok (.aload_n 0, 1) := by decide +kernel
theorem dX5_exchange_38 : decode cX5_exchange 38 = .ok (.getfield 13, 3) := by decide +kernel
theorem dX5_exchange_41 : decode cX5_exchange 41 = .ok (.iload_n 2, 1) := by decide +kernel
theorem dX5_exchange_42 : decode cX5_exchange 42 = .ok (.iaload, 1) := by decide +kernel
theorem dX5_exchange_43 : decode cX5_exchange 43 = .ok (.iastore, 1) := by decide +kernel
theorem dX5_exchange_44 : decode cX5_exchange 44 = .ok (.aload_n 0, 1) := by decide +kernel
theorem dX5_exchange_45 : decode cX5_exchange 45 = .ok (.getfield 13, 3) := by decide +kernel
theorem dX5_exchange_48 : decode cX5_exchange 48 = .ok (.iload_n 2, 1) := by decide +kernel
theorem dX5_exchange_49 : decode cX5_exchange 49 = .ok (.iload 4, 2) := by decide +kernel
theorem dX5_exchange_51 : decode cX5_exchange 51 = .ok (.iastore, 1) := by decide +kernel
theorem dX5_exchange_52 : decode cX5_exchange 52 = .ok (.return_, 1) := by decide +kernel
theorem dX5_flight_0 : decode cX5_flight 0 = .ok (.iload_n 2, 1) := by decide +kernel
theorem dX5_flight_1 : decode cX5_flight 1 = .ok (.bipush 15, 2) := by decide +kernel
theorem dX5_flight_3 : decode cX5_flight 3 = .ok (.if_icmp .ge 7, 3) := by decide +kernel
theorem dX5_flight_6 : decode cX5_flight 6 = .ok (.iconst 0, 1) := by decide +kernel
theorem dX5_flight_7 : decode cX5_flight 7 = .ok (.goto 7, 3) := by decide +kernel
theorem dX5_flight_10 : decode cX5_flight 10 = .ok (.iload_n 2, 1) := by decide +kernel
theorem dX5_flight_11 : decode cX5_flight 11 = .ok (.bipush 15, 2) := by decide +kernel
theorem dX5_flight_13 : decode cX5_flight 13 = .ok (.isub, 1) := by decide +kernel
theorem dX5_flight_14 : decode cX5_flight 14 = .ok (.istore 4, 2) := by decide +kernel
theorem dX5_flight_16 : decode cX5_flight 16 = .ok (.aload_n 0, 1) := by decide +kernel
theorem dX5_flight_17 : decode cX5_flight 17 = .ok (.iload_n 1, 1) := by decide +kernel
theorem dX5_flight_18 : decode cX5_flight 18 = .ok (.iconst 0, 1) := by decide +kernel
theorem dX5_flight_19 : decode cX5_flight 19 = .ok (.bipush 7, 2) := by decide +kernel
theorem dX5_flight_21 : decode cX5_flight 21 = .ok (.invokestatic 84, 3) := by decide +kernel
theorem dX5_flight_24 : decode cX5_flight 24 = .ok (.ifCond .eq 26, 3) := by decide +kernel
theorem dX5_flight_27 : decode cX5_flight 27 = .ok (.iload_n 2, 1) := by decide +kernel
theorem dX5_flight_28 : decode cX5_flight 28 = .ok (.iconst 0, 1) := by decide +kernel
theorem dX5_flight_29 : decode cX5_flight 29 = .ok (.sipush 239, 3) := by decide +kernel
theorem dX5_flight_32 : decode cX5_flight 32 = .ok (.invokestatic 84, 3) := by decide +kernel
theorem dX5_flight_35 : decode cX5_flight 35 = .ok (.ifCond .eq 15, 3) := by decide +kernel
theorem dX5_flight_38 : decode cX5_flight 38 = .ok (.iload_n 3, 1) := by decide +kernel
theorem dX5_flight_39 : decode cX5_flight 39 = .ok (.iload 4, 2) := by decide +kernel
theorem dX5_flight_41 : decode cX5_flight 41 = .ok (.sipush 300, 3) := by decide +kernel
theorem dX5_flight_44 : decode cX5_flight 44 = .ok (.invokestatic 84, 3) := by decide +kernel
theorem dX5_flight_47 : decode cX5_flight 47 = .ok (.ifCond .ne 7, 3) := by decide +kernel
theorem dX5_flight_50 : decode cX5_flight 50 = .ok (.iconst 1, 1) := by decide +kernel
theorem dX5_flight_51 : decode cX5_flight 51 = .ok (.goto 17, 3) := by decide +kernel
theorem dX5_flight_54 : decode cX5_flight 54 = .ok (.aload_n 0, 1) := by decide +kernel
theorem dX5_flight_55 : decode cX5_flight 55 = .ok (.getfield 60, 3) := by decide +kernel
theorem dX5_flight_58 : decode cX5_flight 58 = .ok (.bipush 60, 2) := by decide +kernel
theorem dX5_flight_60 : decode cX5_flight 60 = .ok (.if_icmp .ne 7, 3) := by decide +kernel
theorem dX5_flight_63 : decode cX5_flight 63 = .ok (.iconst 2, 1) := by decide +kernel
theorem dX5_flight_64 : decode cX5_flight 64 = .ok (.goto 4, 3) := by decide +kernel
theorem dX5_flight_67 : decode cX5_flight 67 = .ok (.iconst 0, 1) := by decide +kernel
theorem dX5_flight_68 : decode cX5_flight 68 = .ok (.putfield 56, 3) := by decide +kernel
theorem dX5_flight_71 : decode cX5_flight 71 = .ok (.aload_n 0, 1) := by decide +kernel
theorem dX5_flight_72 : decode cX5_flight 72 = .ok (.getfield 56, 3) := by decide +kernel
theorem dX5_flight_75 : decode cX5_flight 75 = .ok (.ifCond .le 5, 3) := by decide +kernel
theorem dX5_flight_78 : decode cX5_flight 78 = .ok (.iconst 0, 1) := by decide +kernel
theorem dX5_flight_79 : decode cX5_flight 79 = .ok (.ireturn, 1) := by decide +kernel
theorem dX5_flight_80 : decode cX5_flight 80 = .ok (.aload_n 0, 1) := by decide +kernel
theorem dX5_flight_81 : decode cX5_flight 81 = .ok (.getfield 20, 3) := by decide +kernel
theorem dX5_flight_84 : decode cX5_flight 84 = .ok (.aload_n 0, 1) := by decide +kernel
theorem dX5_flight_85 : decode cX5_flight 85 = .ok (.getfield 60, 3) := by decide +kernel
theorem dX5_flight_88 : decode cX5_flight 88 = .ok (.iload_n 1, 1) := by decide +kernel
theorem dX5_flight_89 : decode cX5_flight 89 = .ok (.iastore, 1) := by decide +kernel
theorem dX5_flight_90 : decode cX5_flight 90 = .ok (.aload_n 0, 1) := by decide +kernel
theorem dX5_flight_91 : decode cX5_flight 91 = .ok (.getfield 23, 3) := by decide +kernel
theorem dX5_flight_94 : decode cX5_flight 94 = .ok (.aload_n 0, 1) := by decide +kernel
theorem dX5_flight_95 : decode cX5_flight 95 = .ok (.getfield 60, 3) := by decide +kernel
theorem dX5_flight_98 : decode cX5_flight 98 = .ok (.iload_n 2, 1) := by decide +kernel
theorem dX5_flight_99 : decode cX5_flight 99 = .ok (.iastore, 1) := by decide +kernel
theorem dX5_flight_100 : decode cX5_flight 100 = .ok (.aload_n 0, 1) := by decide +kernel
theorem dX5_flight_101 : decode cX5_flight 101 = .ok (.getfield 26, 3) := by decide +kernel
theorem dX5_flight_104 : decode cX5_flight 104 = .ok (.aload_n 0, 1) := by decide +kernel
theorem dX5_flight_105 : decode cX5_flight 105 = .ok (.getfield 60, 3) := by decide +kernel
theorem dX5_flight_108 : decode cX5_flight 108 = .ok (.iload_n 3, 1) := by decide +kernel
theorem dX5_flight_109 : decode cX5_flight 109 = .ok (.iastore, 1) := by decide +kernel
theorem dX5_flight_110 : decode cX5_flight 110 = .ok (.aload_n 0, 1) := by decide +kernel
theorem dX5_flight_111 : decode cX5_flight 111 = .ok (.getfield 29, 3) := by decide +kernel
theorem dX5_flight_114 : decode cX5_flight 114 = .ok (.aload_n 0, 1) := by decide +kernel
theorem dX5_flight_115 : decode cX5_flight 115 = .ok (.getfield 60, 3) := by decide +kernel
theorem dX5_flight_118 : decode cX5_flight 118 = .ok (.iconst (-1), 1) := by decide +kernel
theorem dX5_flight_119 : decode cX5_flight 119 = .ok (.iastore, 1) := by decide +kernel
theorem dX5_flight_120 : decode cX5_flight 120 = .ok (.aload_n 0, 1) := by decide +kernel
theorem dX5_flight_121 : decode cX5_flight 121 = .ok (.dup, 1) := by decide +kernel
theorem dX5_flight_122 : decode cX5_flight 122 = .ok (.getfield 60, 3) := by decide +kernel
theorem dX5_flight_125 : decode cX5_flight 125 = .ok (.iconst 1, 1) := by decide +kernel
theorem dX5_flight_126 : decode cX5_flight 126 = .ok (.iadd, 1) := by decide +kernel
theorem dX5_flight_127 : decode cX5_flight 127 = .ok (.putfield 60, 3) := by decide +kernel
theorem dX5_flight_130 : decode cX5_flight 130 = .ok (.aload_n 0, 1) := by decide +kernel
theorem dX5_flight_131 : decode cX5_flight 131 = .ok (.getfield 60, 3) := by decide +kernel
theorem dX5_flight_134 : decode cX5_flight 134 = .ok (.iconst 1, 1) := by decide +kernel
theorem dX5_flight_135 : decode cX5_flight 135 = .ok (.isub, 1) := by decide +kernel
theorem dX5_flight_136 : decode cX5_flight 136 = .ok (.ireturn, 1) := by decide +kernel
theorem dX5_flightIn_0 : decode cX5_flightIn 0 = .ok (.aload_n 0, 1) := by decide +kernel
theorem dX5_flightIn_1 : decode cX5_flightIn 1 = .ok (.aload_n 0, 1) := by decide +kernel
theorem dX5_flightIn_2 : decode cX5_flightIn 2 = .ok (.iload_n 1, 1) := by decide +kernel
theorem dX5_flightIn_3 : decode cX5_flightIn 3 = .ok (.invokevirtual 94, 3) := by decide +kernel
theorem dX5_flightIn_6 : decode cX5_flightIn 6 = .ok (.ifCond .eq 7, 3) := by decide +kernel
theorem dX5_flightIn_9 : decode cX5_flightIn 9 = .ok (.iconst 0, 1) := by decide +kernel
theorem dX5_flightIn_10 : decode cX5_flightIn 10 = .ok (.goto 4, 3) := by decide +kernel
theorem dX5_flightIn_13 : decode cX5_flightIn 13 = .ok (.iconst 1, 1) := by decide +kernel
theorem dX5_flightIn_14 : decode cX5_flightIn 14 = .ok (.putfield 56, 3) := by decide +kernel
theorem dX5_flightIn_17 : decode cX5_flightIn 17 = .ok (.aload_n 0, 1) := by decide +kernel
theorem dX5_flightIn_18 : decode cX5_flightIn 18 = .ok (.getfield 56, 3) := by decide +kernel
theorem dX5_flightIn_21 : decode cX5_flightIn 21 = .ok (.ifCond .le 7, 3) := by decide +kernel
theorem dX5_flightIn_24 : decode cX5_flightIn 24 = .ok (.iconst 0, 1) := by decide +kernel
theorem dX5_flightIn_25 : decode cX5_flightIn 25 = .ok (.goto 9, 3) := by decide +kernel
theorem dX5_flightIn_28 : decode cX5_flightIn 28 = .ok (.aload_n 0, 1) := by decide +kernel
theorem dX5_flightIn_29 : decode cX5_flightIn 29 = .ok (.getfield 17, 3) := by decide +kernel
theorem dX5_flightIn_32 : decode cX5_flightIn 32 = .ok (.iload_n 1, 1) := by decide +kernel
theorem dX5_flightIn_33 : decode cX5_flightIn 33 = .ok (.iaload, 1) := by decide +kernel
theorem dX5_flightIn_34 : decode cX5_flightIn 34 = .ok (.ireturn, 1) := by decide +kernel
theorem dX5_follower_0 : decode cX5_follower 0 = .ok (.iconst (-1), 1) := by decide +kernel
theorem dX5_follower_1 : decode cX5_follower 1 = .ok (.istore_n 3, 1) := by decide +kernel
theorem dX5_follower_2 : decode cX5_follower 2 = .ok (.iconst 0, 1) := by decide +kernel
theorem dX5_follower_3 : decode cX5_follower 3 = .ok (.istore 4, 2) := by decide +kernel
theorem dX5_follower_5 : decode cX5_follower 5 = .ok (.iload 4, 2) := by decide +kernel
theorem dX5_follower_7 : decode cX5_follower 7 = .ok (.aload_n 0, 1) := by decide +kernel
theorem dX5_follower_8 : decode cX5_follower 8 = .ok (.getfield 60, 3) := by decide +kernel
theorem dX5_follower_11 : decode cX5_follower 11 = .ok (.if_icmp .ge 74, 3) := by decide +kernel
theorem dX5_follower_14 : decode cX5_follower 14 = .ok (.aload_n 0, 1) := by decide +kernel
theorem dX5_follower_15 : decode cX5_follower 15 = .ok (.iload_n 1, 1) := by decide +kernel
theorem dX5_follower_16 : decode cX5_follower 16 = .ok (.iload 4, 2) := by decide +kernel
theorem dX5_follower_18 : decode cX5_follower 18 = .ok (.invokevirtual 121, 3) := by decide +kernel
theorem dX5_follower_21 : decode cX5_follower 21 = .ok (.ifCond .eq 23, 3) := by decide +kernel
theorem dX5_follower_24 : decode cX5_follower 24 = .ok (.iload_n 2, 1) := by decide +kernel
theorem dX5_follower_25 : decode cX5_follower 25 = .ok (.iconst (-1), 1) := by decide +kernel
theorem dX5_follower_26 : decode cX5_follower 26 = .ok (.if_icmp .eq 14, 3) := by decide +kernel
theorem dX5_follower_29 : decode cX5_follower 29 = .ok (.aload_n 0, 1) := by decide +kernel
theorem dX5_follower_30 : decode cX5_follower 30 = .ok (.getfield 20, 3) := by decide +kernel
theorem dX5_follower_33 : decode cX5_follower 33 = .ok (.iload 4, 2) := by decide +kernel
theorem dX5_follower_35 : decode cX5_follower 35 = .ok (.iaload, 1) := by decide +kernel
theorem dX5_follower_36 : decode cX5_follower 36 = .ok (.iload_n 2, 1) := by decide +kernel
theorem dX5_follower_37 : decode cX5_follower 37 = .ok (.if_icmp .ne 7, 3) := by decide +kernel
theorem dX5_follower_40 : decode cX5_follower 40 = .ok (.iconst 1, 1) := by decide +kernel
theorem dX5_follower_41 : decode cX5_follower 41 = .ok (.goto 4, 3) := by decide +kernel
theorem dX5_follower_44 : decode cX5_follower 44 = .ok (.iconst 0, 1) := by decide +kernel
theorem dX5_follower_45 : decode cX5_follower 45 = .ok (.istore 5, 2) := by decide +kernel
theorem dX5_follower_47 : decode cX5_follower 47 = .ok (.iload 5, 2) := by decide +kernel
theorem dX5_follower_49 : decode cX5_follower 49 = .ok (.ifCond .eq 28, 3) := by decide +kernel
theorem dX5_follower_52 : decode cX5_follower 52 = .ok (.iload_n 3, 1) := by decide +kernel
theorem dX5_follower_53 : decode cX5_follower 53 = .ok (.ifCond .lt 19, 3) := by decide +kernel
theorem dX5_follower_56 : decode cX5_follower 56 = .ok (.aload_n 0, 1) := by decide +kernel
theorem dX5_follower_57 : decode cX5_follower 57 = .ok (.getfield 29, 3) := by decide +kernel
theorem dX5_follower_60 : decode cX5_follower 60 = .ok (.iload 4, 2) := by decide +kernel
theorem dX5_follower_62 : decode cX5_follower 62 = .ok (.iaload, 1) := by decide +kernel
theorem dX5_follower_63 : decode cX5_follower 63 = .ok (.aload_n 0, 1) := by decide +kernel
theorem dX5_follower_64 : decode cX5_follower 64 = .ok (.getfield 29, 3) := by decide +kernel
theorem dX5_follower_67 : decode cX5_follower 67 = .ok (.iload_n 3, 1) := by decide +kernel
theorem dX5_follower_68 : decode cX5_follower 68 = .ok (.iaload, 1) := by decide +kernel
theorem dX5_follower_69 : decode cX5_follower 69 = .ok (.if_icmp .ge 8, 3) := by decide +kernel
theorem dX5_follower_72 : decode cX5_follower 72 = .ok (.iload 4, 2) := by decide +kernel
theorem dX5_follower_74 : decode cX5_follower 74 = .ok (.goto 4, 3) := by decide +kernel
theorem dX5_follower_77 : decode cX5_follower 77 = .ok (.iload_n 3, 1) := by decide +kernel
theorem dX5_follower_78 : decode cX5_follower 78 = .ok (.istore_n 3, 1) := by decide +kernel
theorem dX5_follower_79 : decode cX5_follower 79 = .ok (.iinc 4 1, 3) := by decide +kernel
theorem dX5_follower_82 : decode cX5_follower 82 = .ok (.goto (-77), 3) := by decide +kernel
theorem dX5_follower_85 : decode cX5_follower 85 = .ok (.iload_n 3, 1) := by decide +kernel
theorem dX5_follower_86 : decode cX5_follower 86 = .ok (.ireturn, 1) := by decide +kernel
theorem dX5_gaps_0 : decode cX5_gaps 0 = .ok (.aload_n 0, 1) := by decide +kernel
theorem dX5_gaps_1 : decode cX5_gaps 1 = .ok (.iconst 0, 1) := by decide +kernel
theorem dX5_gaps_2 : decode cX5_gaps 2 = .ok (.putfield 56, 3) := by decide +kernel
theorem dX5_gaps_5 : decode cX5_gaps 5 = .ok (.iconst 0, 1) := by decide +kernel
theorem dX5_gaps_6 : decode cX5_gaps 6 = .ok (.istore_n 1, 1) := by decide +kernel
theorem dX5_gaps_7 : decode cX5_gaps 7 = .ok (.iconst 0, 1) := by decide +kernel
theorem dX5_gaps_8 : decode cX5_gaps 8 = .ok (.istore_n 2, 1) := by decide +kernel
theorem dX5_gaps_9 : decode cX5_gaps 9 = .ok (.iload_n 2, 1) := by decide +kernel
theorem dX5_gaps_10 : decode cX5_gaps 10 = .ok (.sipush 240, 3) := by decide +kernel
theorem dX5_gaps_13 : decode cX5_gaps 13 = .ok (.if_icmp .ge 42, 3) := by decide +kernel
theorem dX5_gaps_16 : decode cX5_gaps 16 = .ok (.iconst 0, 1) := by decide +kernel
theorem dX5_gaps_17 : decode cX5_gaps 17 = .ok (.istore_n 3, 1) := by decide +kernel
theorem dX5_gaps_18 : decode cX5_gaps 18 = .ok (.iload_n 3, 1) := by decide +kernel
theorem dX5_gaps_19 : decode cX5_gaps 19 = .ok (.aload_n 0, 1) := by decide +kernel
theorem dX5_gaps_20 : decode cX5_gaps 20 = .ok (.getfield 60, 3) := by decide +kernel
theorem dX5_gaps_23 : decode cX5_gaps 23 = .ok (.if_icmp .ge 26, 3) := by decide +kernel
theorem dX5_gaps_26 : decode cX5_gaps 26 = .ok (.aload_n 0, 1) := by decide +kernel
theorem dX5_gaps_27 : decode cX5_gaps 27 = .ok (.iload_n 2, 1) := by decide +kernel
theorem dX5_gaps_28 : decode cX5_gaps 28 = .ok (.iload_n 3, 1) := by decide +kernel
theorem dX5_gaps_29 : decode cX5_gaps 29 = .ok (.invokevirtual 121, 3) := by decide +kernel
theorem dX5_gaps_32 : decode cX5_gaps 32 = .ok (.ifCond .eq 9, 3) := by decide +kernel
theorem dX5_gaps_35 : decode cX5_gaps 35 = .ok (.iload_n 1, 1) := by decide +kernel
theorem dX5_gaps_36 : decode cX5_gaps 36 = .ok (.iconst 1, 1) := by decide +kernel
theorem dX5_gaps_37 : decode cX5_gaps 37 = .ok (.iadd, 1) := by decide +kernel
theorem dX5_gaps_38 : decode cX5_gaps 38 = .ok (.goto 4, 3) := by decide +kernel
theorem dX5_gaps_41 : decode cX5_gaps 41 = .ok (.iload_n 1, 1) := by decide +kernel
theorem dX5_gaps_42 : decode cX5_gaps 42 = .ok (.istore_n 1, 1) := by decide +kernel
theorem dX5_gaps_43 : decode cX5_gaps 43 = .ok (.iinc 3 1, 3) := by decide +kernel
theorem dX5_gaps_46 : decode cX5_gaps 46 = .ok (.goto (-28), 3) := by decide +kernel
theorem dX5_gaps_49 : decode cX5_gaps 49 = .ok (.iinc 2 1, 3) := by decide +kernel
theorem dX5_gaps_52 : decode cX5_gaps 52 = .ok (.goto (-43), 3) := by decide +kernel
theorem dX5_gaps_55 : decode cX5_gaps 55 = .ok (.iload_n 1, 1) := by decide +kernel
theorem dX5_gaps_56 : decode cX5_gaps 56 = .ok (.ireturn, 1) := by decide +kernel
theorem dX5_has_0 : decode cX5_has 0 = .ok (.iconst 0, 1) := by decide +kernel
theorem dX5_has_1 : decode cX5_has 1 = .ok (.istore_n 3, 1) := by decide +kernel
theorem dX5_has_2 : decode cX5_has 2 = .ok (.iconst 0, 1) := by decide +kernel
theorem dX5_has_3 : decode cX5_has 3 = .ok (.istore 4, 2) := by decide +kernel
theorem dX5_has_5 : decode cX5_has 5 = .ok (.iload 4, 2) := by decide +kernel
theorem dX5_has_7 : decode cX5_has 7 = .ok (.iload_n 1, 1) := by decide +kernel
theorem dX5_has_8 : decode cX5_has 8 = .ok (.if_icmp .ge 35, 3) := by decide +kernel
theorem dX5_has_11 : decode cX5_has 11 = .ok (.iload_n 3, 1) := by decide +kernel
theorem dX5_has_12 : decode cX5_has 12 = .ok (.ifCond .ne 19, 3) := by decide +kernel
theorem dX5_has_15 : decode cX5_has 15 = .ok (.bipush 15, 2) := by decide +kernel
theorem dX5_has_17 : decode cX5_has 17 = .ok (.iload_n 0, 1) := by decide +kernel
theorem dX5_has_18 : decode cX5_has 18 = .ok (.imul, 1) := by decide +kernel
theorem dX5_has_19 : decode cX5_has 19 = .ok (.bipush 15, 2) := by decide +kernel
theorem dX5_has_21 : decode cX5_has 21 = .ok (.iload 4, 2) := by decide +kernel
theorem dX5_has_23 : decode cX5_has 23 = .ok (.imul, 1) := by decide +kernel
theorem dX5_has_24 : decode cX5_has 24 = .ok (.iload_n 1, 1) := by decide +kernel
theorem dX5_has_25 : decode cX5_has 25 = .ok (.idiv, 1) := by decide +kernel
theorem dX5_has_26 : decode cX5_has 26 = .ok (.iadd, 1) := by decide +kernel
theorem dX5_has_27 : decode cX5_has 27 = .ok (.iload_n 2, 1) := by decide +kernel
theorem dX5_has_28 : decode cX5_has 28 = .ok (.if_icmp .ne 7, 3) := by decide +kernel
theorem dX5_has_31 : decode cX5_has 31 = .ok (.iconst 1, 1) := by decide +kernel
theorem dX5_has_32 : decode cX5_has 32 = .ok (.goto 4, 3) := by decide +kernel
theorem dX5_has_35 : decode cX5_has 35 = .ok (.iconst 0, 1) := by decide +kernel
theorem dX5_has_36 : decode cX5_has 36 = .ok (.istore_n 3, 1) := by decide +kernel
theorem dX5_has_37 : decode cX5_has 37 = .ok (.iinc 4 1, 3) := by decide +kernel
theorem dX5_has_40 : decode cX5_has 40 = .ok (.goto (-35), 3) := by decide +kernel
theorem dX5_has_43 : decode cX5_has 43 = .ok (.iload_n 3, 1) := by decide +kernel
theorem dX5_has_44 : decode cX5_has 44 = .ok (.ireturn, 1) := by decide +kernel
theorem dX5_init_0 : decode cX5_init 0 = .ok (.aload_n 0, 1) := by decide +kernel
theorem dX5_init_1 : decode cX5_init 1 = .ok (.invokespecial 1, 3) := by decide +kernel
theorem dX5_init_4 : decode cX5_init 4 = .ok (.aload_n 0, 1) := by decide +kernel
theorem dX5_init_5 : decode cX5_init 5 = .ok (.sipush 240, 3) := by decide +kernel
theorem dX5_init_8 : decode cX5_init 8 = .ok (.newarray .boolean, 2) := by decide +kernel
theorem dX5_init_10 : decode cX5_init 10 = .ok (.putfield 7, 3) := by decide +kernel
theorem dX5_init_13 : decode cX5_init 13 = .ok (.aload_n 0, 1) := by decide +kernel
theorem dX5_init_14 : decode cX5_init 14 = .ok (.sipush 240, 3) := by decide +kernel
theorem dX5_init_17 : decode cX5_init 17 = .ok (.newarray .int, 2) := by decide +kernel
theorem dX5_init_19 : decode cX5_init 19 = .ok (.putfield 13, 3) := by decide +kernel
theorem dX5_init_22 : decode cX5_init 22 = .ok (.aload_n 0, 1) := by decide +kernel
theorem dX5_init_23 : decode cX5_init 23 = .ok (.sipush 240, 3) := by decide +kernel
theorem dX5_init_26 : decode cX5_init 26 = .ok (.newarray .int, 2) := by decide +kernel
theorem dX5_init_28 : decode cX5_init 28 = .ok (.putfield 17, 3) := by decide +kernel
theorem dX5_init_31 : decode cX5_init 31 = .ok (.aload_n 0, 1) := by decide +kernel
theorem dX5_init_32 : decode cX5_init 32 = .ok (.bipush 60, 2) := by decide +kernel
theorem dX5_init_34 : decode cX5_init 34 = .ok (.newarray .int, 2) := by decide +kernel
theorem dX5_init_36 : decode cX5_init 36 = .ok (.putfield 20, 3) := by decide +kernel
theorem dX5_init_39 : decode cX5_init 39 = .ok (.aload_n 0, 1) := by decide +kernel
theorem dX5_init_40 : decode cX5_init 40 = .ok (.bipush 60, 2) := by decide +kernel
theorem dX5_init_42 : decode cX5_init 42 = .ok (.newarray .int, 2) := by decide +kernel
theorem dX5_init_44 : decode cX5_init 44 = .ok (.putfield 23, 3) := by decide +kernel
theorem dX5_init_47 : decode cX5_init 47 = .ok (.aload_n 0, 1) := by decide +kernel
theorem dX5_init_48 : decode cX5_init 48 = .ok (.bipush 60, 2) := by decide +kernel
theorem dX5_init_50 : decode cX5_init 50 = .ok (.newarray .int, 2) := by decide +kernel
theorem dX5_init_52 : decode cX5_init 52 = .ok (.putfield 26, 3) := by decide +kernel
theorem dX5_init_55 : decode cX5_init 55 = .ok (.aload_n 0, 1) := by decide +kernel
theorem dX5_init_56 : decode cX5_init 56 = .ok (.bipush 60, 2) := by decide +kernel
theorem dX5_init_58 : decode cX5_init 58 = .ok (.newarray .int, 2) := by decide +kernel
theorem dX5_init_60 : decode cX5_init 60 = .ok (.putfield 29, 3) := by decide +kernel
theorem dX5_init_63 : decode cX5_init 63 = .ok (.aload_n 0, 1) := by decide +kernel
theorem dX5_init_64 : decode cX5_init 64 = .ok (.bipush 60, 2) := by decide +kernel
theorem dX5_init_66 : decode cX5_init 66 = .ok (.newarray .boolean, 2) := by decide +kernel
theorem dX5_init_68 : decode cX5_init 68 = .ok (.putfield 32, 3) := by decide +kernel
theorem dX5_init_71 : decode cX5_init 71 = .ok (.aload_n 0, 1) := by decide +kernel
theorem dX5_init_72 : decode cX5_init 72 = .ok (.bipush 60, 2) := by decide +kernel
theorem dX5_init_74 : decode cX5_init 74 = .ok (.newarray .boolean, 2) := by decide +kernel
theorem dX5_init_76 : decode cX5_init 76 = .ok (.putfield 35, 3) := by decide +kernel
theorem dX5_init_79 : decode cX5_init 79 = .ok (.aload_n 0, 1) := by decide +kernel
theorem dX5_init_80 : decode cX5_init 80 = .ok (.bipush 60, 2) := by decide +kernel
theorem dX5_init_82 : decode cX5_init 82 = .ok (.newarray .boolean, 2) := by decide +kernel
theorem dX5_init_84 : decode cX5_init 84 = .ok (.putfield 38, 3) := by decide +kernel
theorem dX5_init_87 : decode cX5_init 87 = .ok (.aload_n 0, 1) := by decide +kernel
theorem dX5_init_88 : decode cX5_init 88 = .ok (.bipush 40, 2) := by decide +kernel
theorem dX5_init_90 : decode cX5_init 90 = .ok (.newarray .int, 2) := by decide +kernel
theorem dX5_init_92 : decode cX5_init 92 = .ok (.putfield 41, 3) := by decide +kernel
theorem dX5_init_95 : decode cX5_init 95 = .ok (.aload_n 0, 1) := by decide +kernel
theorem dX5_init_96 : decode cX5_init 96 = .ok (.bipush 40, 2) := by decide +kernel
theorem dX5_init_98 : decode cX5_init 98 = .ok (.newarray .int, 2) := by decide +kernel
theorem dX5_init_100 : decode cX5_init 100 = .ok (.putfield 44, 3) := by decide +kernel
theorem dX5_init_103 : decode cX5_init 103 = .ok (.aload_n 0, 1) := by decide +kernel
theorem dX5_init_104 : decode cX5_init 104 = .ok (.bipush 40, 2) := by decide +kernel
theorem dX5_init_106 : decode cX5_init 106 = .ok (.newarray .int, 2) := by decide +kernel
theorem dX5_init_108 : decode cX5_init 108 = .ok (.putfield 47, 3) := by decide +kernel
theorem dX5_init_111 : decode cX5_init 111 = .ok (.aload_n 0, 1) := by decide +kernel
theorem dX5_init_112 : decode cX5_init 112 = .ok (.bipush 40, 2) := by decide +kernel
theorem dX5_init_114 : decode cX5_init 114 = .ok (.newarray .boolean, 2) := by decide +kernel
theorem dX5_init_116 : decode cX5_init 116 = .ok (.putfield 50, 3) := by decide +kernel
theorem dX5_init_119 : decode cX5_init 119 = .ok (.aload_n 0, 1) := by decide +kernel
theorem dX5_init_120 : decode cX5_init 120 = .ok (.sipush 800, 3) := by decide +kernel
theorem dX5_init_123 : decode cX5_init 123 = .ok (.newarray .int, 2) := by decide +kernel
theorem dX5_init_125 : decode cX5_init 125 = .ok (.putfield 53, 3) := by decide +kernel
theorem dX5_init_128 : decode cX5_init 128 = .ok (.iconst 0, 1) := by decide +kernel
theorem dX5_init_129 : decode cX5_init 129 = .ok (.istore_n 1, 1) := by decide +kernel
theorem dX5_init_130 : decode cX5_init 130 = .ok (.iload_n 1, 1) := by decide +kernel
theorem dX5_init_131 : decode cX5_init 131 = .ok (.sipush 240, 3) := by decide +kernel
theorem dX5_init_134 : decode cX5_init 134 = .ok (.if_icmp .ge 23, 3) := by decide +kernel
theorem dX5_init_137 : decode cX5_init 137 = .ok (.aload_n 0, 1) := by decide +kernel
theorem dX5_init_138 : decode cX5_init 138 = .ok (.getfield 13, 3) := by decide +kernel
theorem dX5_init_141 : decode cX5_init 141 = .ok (.iload_n 1, 1) := by decide +kernel
theorem dX5_init_142 : decode cX5_init 142 = .ok (.iconst (-1), 1) := by decide +kernel
theorem dX5_init_143 : decode cX5_init 143 = .ok (.iastore, 1) := by decide +kernel
theorem dX5_init_144 : decode cX5_init 144 = .ok (.aload_n 0, 1) := by decide +kernel
theorem dX5_init_145 : decode cX5_init 145 = .ok (.getfield 17, 3) := by decide +kernel
theorem dX5_init_148 : decode cX5_init 148 = .ok (.iload_n 1, 1) := by decide +kernel
theorem dX5_init_149 : decode cX5_init 149 = .ok (.iconst (-1), 1) := by decide +kernel
theorem dX5_init_150 : decode cX5_init 150 = .ok (.iastore, 1) := by decide +kernel
theorem dX5_init_151 : decode cX5_init 151 = .ok (.iinc 1 1, 3) := by decide +kernel
theorem dX5_init_154 : decode cX5_init 154 = .ok (.goto (-24), 3) := by decide +kernel
theorem dX5_init_157 : decode cX5_init 157 = .ok (.return_, 1) := by decide +kernel
theorem dX5_isFlight_0 : decode cX5_isFlight 0 = .ok (.iload_n 1, 1) := by decide +kernel
theorem dX5_isFlight_1 : decode cX5_isFlight 1 = .ok (.ifCond .lt 15, 3) := by decide +kernel
theorem dX5_isFlight_4 : decode cX5_isFlight 4 = .ok (.iload_n 1, 1) := by decide +kernel
theorem dX5_isFlight_5 : decode cX5_isFlight 5 = .ok (.aload_n 0, 1) := by decide +kernel
theorem dX5_isFlight_6 : decode cX5_isFlight 6 = .ok (.getfield 60, 3) := by decide +kernel
theorem dX5_isFlight_9 : decode cX5_isFlight 9 = .ok (.if_icmp .ge 7, 3) := by decide +kernel
theorem dX5_isFlight_12 : decode cX5_isFlight 12 = .ok (.iconst 1, 1) := by decide +kernel
theorem dX5_isFlight_13 : decode cX5_isFlight 13 = .ok (.goto 4, 3) := by decide +kernel
theorem dX5_isFlight_16 : decode cX5_isFlight 16 = .ok (.iconst 0, 1) := by decide +kernel
theorem dX5_isFlight_17 : decode cX5_isFlight 17 = .ok (.ireturn, 1) := by decide +kernel
theorem dX5_isFrozen_0 : decode cX5_isFrozen 0 = .ok (.aload_n 0, 1) := by decide +kernel
theorem dX5_isFrozen_1 : decode cX5_isFrozen 1 = .ok (.getfield 17, 3) := by decide +kernel
theorem dX5_isFrozen_4 : decode cX5_isFrozen 4 = .ok (.iload_n 1, 1) := by decide +kernel
theorem dX5_isFrozen_5 : decode cX5_isFrozen 5 = .ok (.iaload, 1) := by decide +kernel
theorem dX5_isFrozen_6 : decode cX5_isFrozen 6 = .ok (.ifCond .lt 21, 3) := by decide +kernel
theorem dX5_isFrozen_9 : decode cX5_isFrozen 9 = .ok (.aload_n 0, 1) := by decide +kernel
theorem dX5_isFrozen_10 : decode cX5_isFrozen 10 = .ok (.getfield 35, 3) := by decide +kernel
theorem dX5_isFrozen_13 : decode cX5_isFrozen 13 = .ok (.aload_n 0, 1) := by decide +kernel
theorem dX5_isFrozen_14 : decode cX5_isFrozen 14 = .ok (.getfield 17, 3) := by decide +kernel
theorem dX5_isFrozen_17 : decode cX5_isFrozen 17 = .ok (.iload_n 1, 1) := by decide +kernel
theorem dX5_isFrozen_18 : decode cX5_isFrozen 18 = .ok (.iaload, 1) := by decide +kernel
theorem dX5_isFrozen_19 : decode cX5_isFrozen 19 = .ok (.baload, 1) := by decide +kernel
theorem dX5_isFrozen_20 : decode cX5_isFrozen 20 = .ok (.ifCond .eq 7, 3) := by decide +kernel
theorem dX5_isFrozen_23 : decode cX5_isFrozen 23 = .ok (.iconst 1, 1) := by decide +kernel
theorem dX5_isFrozen_24 : decode cX5_isFrozen 24 = .ok (.goto 4, 3) := by decide +kernel
theorem dX5_isFrozen_27 : decode cX5_isFrozen 27 = .ok (.iconst 0, 1) := by decide +kernel
theorem dX5_isFrozen_28 : decode cX5_isFrozen 28 = .ok (.ireturn, 1) := by decide +kernel
theorem dX5_isGap_0 : decode cX5_isGap 0 = .ok (.aload_n 0, 1) := by decide +kernel
theorem dX5_isGap_1 : decode cX5_isGap 1 = .ok (.getfield 7, 3) := by decide +kernel
theorem dX5_isGap_4 : decode cX5_isGap 4 = .ok (.iload_n 1, 1) := by decide +kernel
theorem dX5_isGap_5 : decode cX5_isGap 5 = .ok (.baload, 1) := by decide +kernel
theorem dX5_isGap_6 : decode cX5_isGap 6 = .ok (.ifCond .eq 45, 3) := by decide +kernel
theorem dX5_isGap_9 : decode cX5_isGap 9 = .ok (.aload_n 0, 1) := by decide +kernel
theorem dX5_isGap_10 : decode cX5_isGap 10 = .ok (.getfield 17, 3) := by decide +kernel
theorem dX5_isGap_13 : decode cX5_isGap 13 = .ok (.iload_n 1, 1) := by decide +kernel
theorem dX5_isGap_14 : decode cX5_isGap 14 = .ok (.iaload, 1) := by decide +kernel
theorem dX5_isGap_15 : decode cX5_isGap 15 = .ok (.ifCond .ge 36, 3) := by decide +kernel
theorem dX5_isGap_18 : decode cX5_isGap 18 = .ok (.aload_n 0, 1) := by decide +kernel
theorem dX5_isGap_19 : decode cX5_isGap 19 = .ok (.getfield 29, 3) := by decide +kernel
theorem dX5_isGap_22 : decode cX5_isGap 22 = .ok (.iload_n 2, 1) := by decide +kernel
theorem dX5_isGap_23 : decode cX5_isGap 23 = .ok (.iaload, 1) := by decide +kernel
theorem dX5_isGap_24 : decode cX5_isGap 24 = .ok (.iload_n 1, 1) := by decide +kernel
theorem dX5_isGap_25 : decode cX5_isGap 25 = .ok (.if_icmp .le 26, 3) := by decide +kernel
theorem dX5_isGap_28 : decode cX5_isGap 28 = .ok (.aload_n 0, 1) := by decide +kernel
theorem dX5_isGap_29 : decode cX5_isGap 29 = .ok (.getfield 35, 3) := by decide +kernel
theorem dX5_isGap_32 : decode cX5_isGap 32 = .ok (.iload_n 2, 1) := by decide +kernel
theorem dX5_isGap_33 : decode cX5_isGap 33 = .ok (.baload, 1) := by decide +kernel
theorem dX5_isGap_34 : decode cX5_isGap 34 = .ok (.ifCond .ne 17, 3) := by decide +kernel
theorem dX5_isGap_37 : decode cX5_isGap 37 = .ok (.iload_n 1, 1) := by decide +kernel
theorem dX5_isGap_38 : decode cX5_isGap 38 = .ok (.aload_n 0, 1) := by decide +kernel
theorem dX5_isGap_39 : decode cX5_isGap 39 = .ok (.getfield 26, 3) := by decide +kernel
theorem dX5_isGap_42 : decode cX5_isGap 42 = .ok (.iload_n 2, 1) := by decide +kernel
theorem dX5_isGap_43 : decode cX5_isGap 43 = .ok (.iaload, 1) := by decide +kernel
theorem dX5_isGap_44 : decode cX5_isGap 44 = .ok (.if_icmp .lt 7, 3) := by decide +kernel
theorem dX5_isGap_47 : decode cX5_isGap 47 = .ok (.iconst 1, 1) := by decide +kernel
theorem dX5_isGap_48 : decode cX5_isGap 48 = .ok (.goto 4, 3) := by decide +kernel
theorem dX5_isGap_51 : decode cX5_isGap 51 = .ok (.iconst 0, 1) := by decide +kernel
theorem dX5_isGap_52 : decode cX5_isGap 52 = .ok (.ireturn, 1) := by decide +kernel
theorem dX5_isGood_0 : decode cX5_isGood 0 = .ok (.aload_n 0, 1) := by decide +kernel
theorem dX5_isGood_1 : decode cX5_isGood 1 = .ok (.getfield 44, 3) := by decide +kernel
theorem dX5_isGood_4 : decode cX5_isGood 4 = .ok (.iload_n 1, 1) := by decide +kernel
theorem dX5_isGood_5 : decode cX5_isGood 5 = .ok (.iaload, 1) := by decide +kernel
theorem dX5_isGood_6 : decode cX5_isGood 6 = .ok (.istore_n 2, 1) := by decide +kernel
theorem dX5_isGood_7 : decode cX5_isGood 7 = .ok (.aload_n 0, 1) := by decide +kernel
theorem dX5_isGood_8 : decode cX5_isGood 8 = .ok (.getfield 47, 3) := by decide +kernel
theorem dX5_isGood_11 : decode cX5_isGood 11 = .ok (.iload_n 1, 1) := by decide +kernel
theorem dX5_isGood_12 : decode cX5_isGood 12 = .ok (.iaload, 1) := by decide +kernel
theorem dX5_isGood_13 : decode cX5_isGood 13 = .ok (.istore_n 3, 1) := by decide +kernel
theorem dX5_isGood_14 : decode cX5_isGood 14 = .ok (.aload_n 0, 1) := by decide +kernel
theorem dX5_isGood_15 : decode cX5_isGood 15 = .ok (.getfield 50, 3) := by decide +kernel
theorem dX5_isGood_18 : decode cX5_isGood 18 = .ok (.iload_n 1, 1) := by decide +kernel
theorem dX5_isGood_19 : decode cX5_isGood 19 = .ok (.baload, 1) := by decide +kernel
theorem dX5_isGood_20 : decode cX5_isGood 20 = .ok (.ifCond .eq 56, 3) := by decide +kernel
theorem dX5_isGood_23 : decode cX5_isGood 23 = .ok (.aload_n 0, 1) := by decide +kernel
theorem dX5_isGood_24 : decode cX5_isGood 24 = .ok (.getfield 7, 3) := by decide +kernel
theorem dX5_isGood_27 : decode cX5_isGood 27 = .ok (.iload_n 2, 1) := by decide +kernel
theorem dX5_isGood_28 : decode cX5_isGood 28 = .ok (.baload, 1) := by decide +kernel
theorem dX5_isGood_29 : decode cX5_isGood 29 = .ok (.ifCond .eq 47, 3) := by decide +kernel
theorem dX5_isGood_32 : decode cX5_isGood 32 = .ok (.aload_n 0, 1) := by decide +kernel
theorem dX5_isGood_33 : decode cX5_isGood 33 = .ok (.getfield 7, 3) := by decide +kernel
theorem dX5_isGood_36 : decode cX5_isGood 36 = .ok (.iload_n 3, 1) := by decide +kernel
theorem dX5_isGood_37 : decode cX5_isGood 37 = .ok (.baload, 1) := by decide +kernel
theorem dX5_isGood_38 : decode cX5_isGood 38 = .ok (.ifCond .eq 38, 3) := by decide +kernel
theorem dX5_isGood_41 : decode cX5_isGood 41 = .ok (.aload_n 0, 1) := by decide +kernel
theorem dX5_isGood_42 : decode cX5_isGood 42 = .ok (.getfield 13, 3) := by decide +kernel
theorem dX5_isGood_45 : decode cX5_isGood 45 = .ok (.iload_n 2, 1) := by decide +kernel
theorem dX5_isGood_46 : decode cX5_isGood 46 = .ok (.iaload, 1) := by decide +kernel
theorem dX5_isGood_47 : decode cX5_isGood 47 = .ok (.aload_n 0, 1) := by decide +kernel
theorem dX5_isGood_48 : decode cX5_isGood 48 = .ok (.getfield 41, 3) := by decide +kernel
theorem dX5_isGood_51 : decode cX5_isGood 51 = .ok (.iload_n 1, 1) := by decide +kernel
theorem dX5_isGood_52 : decode cX5_isGood 52 = .ok (.iaload, 1) := by decide +kernel
theorem dX5_isGood_53 : decode cX5_isGood 53 = .ok (.if_icmp .ne 23, 3) := by decide +kernel
theorem dX5_isGood_56 : decode cX5_isGood 56 = .ok (.aload_n 0, 1) := by decide +kernel
theorem dX5_isGood_57 : decode cX5_isGood 57 = .ok (.iload_n 2, 1) := by decide +kernel
theorem dX5_isGood_58 : decode cX5_isGood 58 = .ok (.invokevirtual 70, 3) := by decide +kernel
theorem dX5_isGood_61 : decode cX5_isGood 61 = .ok (.ifCond .ne 15, 3) := by decide +kernel
theorem dX5_isGood_64 : decode cX5_isGood 64 = .ok (.aload_n 0, 1) := by decide +kernel
theorem dX5_isGood_65 : decode cX5_isGood 65 = .ok (.iload_n 3, 1) := by decide +kernel
theorem dX5_isGood_66 : decode cX5_isGood 66 = .ok (.invokevirtual 70, 3) := by decide +kernel
theorem dX5_isGood_69 : decode cX5_isGood 69 = .ok (.ifCond .ne 7, 3) := by decide +kernel
theorem dX5_isGood_72 : decode cX5_isGood 72 = .ok (.iconst 1, 1) := by decide +kernel
theorem dX5_isGood_73 : decode cX5_isGood 73 = .ok (.goto 4, 3) := by decide +kernel
theorem dX5_isGood_76 : decode cX5_isGood 76 = .ok (.iconst 0, 1) := by decide +kernel
theorem dX5_isGood_77 : decode cX5_isGood 77 = .ok (.istore 4, 2) := by decide +kernel
theorem dX5_isGood_79 : decode cX5_isGood 79 = .ok (.iload 4, 2) := by decide +kernel
theorem dX5_isGood_81 : decode cX5_isGood 81 = .ok (.ifCond .eq 31, 3) := by decide +kernel
theorem dX5_isGood_84 : decode cX5_isGood 84 = .ok (.aload_n 0, 1) := by decide +kernel
theorem dX5_isGood_85 : decode cX5_isGood 85 = .ok (.getfield 17, 3) := by decide +kernel
theorem dX5_isGood_88 : decode cX5_isGood 88 = .ok (.iload_n 2, 1) := by decide +kernel
theorem dX5_isGood_89 : decode cX5_isGood 89 = .ok (.iaload, 1) := by decide +kernel
theorem dX5_isGood_90 : decode cX5_isGood 90 = .ok (.ifCond .lt 18, 3) := by decide +kernel
theorem dX5_isGood_93 : decode cX5_isGood 93 = .ok (.iload_n 3, 1) := by decide +kernel
theorem dX5_isGood_94 : decode cX5_isGood 94 = .ok (.aload_n 0, 1) := by decide +kernel
theorem dX5_isGood_95 : decode cX5_isGood 95 = .ok (.getfield 26, 3) := by decide +kernel
theorem dX5_isGood_98 : decode cX5_isGood 98 = .ok (.aload_n 0, 1) := by decide +kernel
theorem dX5_isGood_99 : decode cX5_isGood 99 = .ok (.getfield 17, 3) := by decide +kernel
theorem dX5_isGood_102 : decode cX5_isGood 102 = .ok (.iload_n 2, 1) := by decide +kernel
theorem dX5_isGood_103 : decode cX5_isGood 103 = .ok (.iaload, 1) := by decide +kernel
theorem dX5_isGood_104 : decode cX5_isGood 104 = .ok (.iaload, 1) := by decide +kernel
theorem dX5_isGood_105 : decode cX5_isGood 105 = .ok (.if_icmp .lt 7, 3) := by decide +kernel
theorem dX5_isGood_108 : decode cX5_isGood 108 = .ok (.iconst 1, 1) := by decide +kernel
theorem dX5_isGood_109 : decode cX5_isGood 109 = .ok (.goto 4, 3) := by decide +kernel
theorem dX5_isGood_112 : decode cX5_isGood 112 = .ok (.iconst 0, 1) := by decide +kernel
theorem dX5_isGood_113 : decode cX5_isGood 113 = .ok (.ireturn, 1) := by decide +kernel
