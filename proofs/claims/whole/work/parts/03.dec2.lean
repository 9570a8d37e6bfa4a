theorem dX4_airborne_0 : decode cX4_airborne 0 = .ok (.aload_n 0, 1) := by decide +kernel
theorem dX4_airborne_1 : decode cX4_airborne 1 = .ok (.iload_n 1, 1) := by decide +kernel
theorem dX4_airborne_2 : decode cX4_airborne 2 = .ok (.invokevirtual 87, 3) := by decide +kernel
theorem dX4_airborne_5 : decode cX4_airborne 5 = .ok (.aload_n 0, 1) := by decide +kernel
theorem dX4_airborne_6 : decode cX4_airborne 6 = .ok (.getfield 19, 3) := by decide +kernel
theorem dX4_airborne_9 : decode cX4_airborne 9 = .ok (.getfield 119, 3) := by decide +kernel
theorem dX4_airborne_12 : decode cX4_airborne 12 = .ok (.iload_n 1, 1) := by decide +kernel
theorem dX4_airborne_13 : decode cX4_airborne 13 = .ok (.baload, 1) := by decide +kernel
theorem dX4_airborne_14 : decode cX4_airborne 14 = .ok (.ifCond .ne 16, 3) := by decide +kernel
theorem dX4_airborne_17 : decode cX4_airborne 17 = .ok (.aload_n 0, 1) := by decide +kernel
theorem dX4_airborne_18 : decode cX4_airborne 18 = .ok (.getfield 19, 3) := by decide +kernel
theorem dX4_airborne_21 : decode cX4_airborne 21 = .ok (.getfield 90, 3) := by decide +kernel
theorem dX4_airborne_24 : decode cX4_airborne 24 = .ok (.iload_n 1, 1) := by decide +kernel
theorem dX4_airborne_25 : decode cX4_airborne 25 = .ok (.iaload, 1) := by decide +kernel
theorem dX4_airborne_26 : decode cX4_airborne 26 = .ok (.iconst (-1), 1) := by decide +kernel
theorem dX4_airborne_27 : decode cX4_airborne 27 = .ok (.if_icmp .ne 13, 3) := by decide +kernel
theorem dX4_airborne_30 : decode cX4_airborne 30 = .ok (.new 50, 3) := by decide +kernel
theorem dX4_airborne_33 : decode cX4_airborne 33 = .ok (.dup, 1) := by decide +kernel
theorem dX4_airborne_34 : decode cX4_airborne 34 = .ok (.ldc 122, 2) := by decide +kernel
theorem dX4_airborne_36 : decode cX4_airborne 36 = .ok (.invokespecial 54, 3) := by decide +kernel
theorem dX4_airborne_39 : decode cX4_airborne 39 = .ok (.athrow, 1) := by decide +kernel
theorem dX4_airborne_40 : decode cX4_airborne 40 = .ok (.aload_n 0, 1) := by decide +kernel
theorem dX4_airborne_41 : decode cX4_airborne 41 = .ok (.getfield 19, 3) := by decide +kernel
theorem dX4_airborne_44 : decode cX4_airborne 44 = .ok (.getfield 119, 3) := by decide +kernel
theorem dX4_airborne_47 : decode cX4_airborne 47 = .ok (.iload_n 1, 1) := by decide +kernel
theorem dX4_airborne_48 : decode cX4_airborne 48 = .ok (.iconst 1, 1) := by decide +kernel
theorem dX4_airborne_49 : decode cX4_airborne 49 = .ok (.bastore, 1) := by decide +kernel
theorem dX4_airborne_50 : decode cX4_airborne 50 = .ok (.return_, 1) := by decide +kernel
theorem dX4_cancel_0 : decode cX4_cancel 0 = .ok (.aload_n 0, 1) := by decide +kernel
theorem dX4_cancel_1 : decode cX4_cancel 1 = .ok (.iload_n 1, 1) := by decide +kernel
theorem dX4_cancel_2 : decode cX4_cancel 2 = .ok (.invokevirtual 87, 3) := by decide +kernel
theorem dX4_cancel_5 : decode cX4_cancel 5 = .ok (.aload_n 0, 1) := by decide +kernel
theorem dX4_cancel_6 : decode cX4_cancel 6 = .ok (.iload_n 1, 1) := by decide +kernel
theorem dX4_cancel_7 : decode cX4_cancel 7 = .ok (.invokevirtual 106, 3) := by decide +kernel
theorem dX4_cancel_10 : decode cX4_cancel 10 = .ok (.aload_n 0, 1) := by decide +kernel
theorem dX4_cancel_11 : decode cX4_cancel 11 = .ok (.getfield 19, 3) := by decide +kernel
theorem dX4_cancel_14 : decode cX4_cancel 14 = .ok (.getfield 115, 3) := by decide +kernel
theorem dX4_cancel_17 : decode cX4_cancel 17 = .ok (.iload_n 1, 1) := by decide +kernel
theorem dX4_cancel_18 : decode cX4_cancel 18 = .ok (.iconst 1, 1) := by decide +kernel
theorem dX4_cancel_19 : decode cX4_cancel 19 = .ok (.bastore, 1) := by decide +kernel
theorem dX4_cancel_20 : decode cX4_cancel 20 = .ok (.aload_n 0, 1) := by decide +kernel
theorem dX4_cancel_21 : decode cX4_cancel 21 = .ok (.getfield 19, 3) := by decide +kernel
theorem dX4_cancel_24 : decode cX4_cancel 24 = .ok (.getfield 90, 3) := by decide +kernel
theorem dX4_cancel_27 : decode cX4_cancel 27 = .ok (.iload_n 1, 1) := by decide +kernel
theorem dX4_cancel_28 : decode cX4_cancel 28 = .ok (.iaload, 1) := by decide +kernel
theorem dX4_cancel_29 : decode cX4_cancel 29 = .ok (.iconst (-1), 1) := by decide +kernel
theorem dX4_cancel_30 : decode cX4_cancel 30 = .ok (.if_icmp .ne 5, 3) := by decide +kernel
theorem dX4_cancel_33 : decode cX4_cancel 33 = .ok (.iconst 0, 1) := by decide +kernel
theorem dX4_cancel_34 : decode cX4_cancel 34 = .ok (.ireturn, 1) := by decide +kernel
theorem dX4_cancel_35 : decode cX4_cancel 35 = .ok (.aload_n 0, 1) := by decide +kernel
theorem dX4_cancel_36 : decode cX4_cancel 36 = .ok (.iload_n 1, 1) := by decide +kernel
theorem dX4_cancel_37 : decode cX4_cancel 37 = .ok (.iconst 5, 1) := by decide +kernel
theorem dX4_cancel_38 : decode cX4_cancel 38 = .ok (.invokevirtual 112, 3) := by decide +kernel
theorem dX4_cancel_41 : decode cX4_cancel 41 = .ok (.iconst 1, 1) := by decide +kernel
theorem dX4_cancel_42 : decode cX4_cancel 42 = .ok (.ireturn, 1) := by decide +kernel
theorem dX4_carryOutIfPossible_0 : decode cX4_carryOutIfPossible 0 = .ok (.aload_n 0, 1) := by decide +kernel
theorem dX4_carryOutIfPossible_1 : decode cX4_carryOutIfPossible 1 = .ok (.getfield 26, 3) := by decide +kernel
theorem dX4_carryOutIfPossible_4 : decode cX4_carryOutIfPossible 4 = .ok (.getfield 237, 3) := by decide +kernel
theorem dX4_carryOutIfPossible_7 : decode cX4_carryOutIfPossible 7 = .ok (.iload_n 1, 1) := by decide +kernel
theorem dX4_carryOutIfPossible_8 : decode cX4_carryOutIfPossible 8 = .ok (.iaload, 1) := by decide +kernel
theorem dX4_carryOutIfPossible_9 : decode cX4_carryOutIfPossible 9 = .ok (.istore_n 2, 1) := by decide +kernel
theorem dX4_carryOutIfPossible_10 : decode cX4_carryOutIfPossible 10 = .ok (.aload_n 0, 1) := by decide +kernel
theorem dX4_carryOutIfPossible_11 : decode cX4_carryOutIfPossible 11 = .ok (.getfield 26, 3) := by decide +kernel
theorem dX4_carryOutIfPossible_14 : decode cX4_carryOutIfPossible 14 = .ok (.getfield 240, 3) := by decide +kernel
theorem dX4_carryOutIfPossible_17 : decode cX4_carryOutIfPossible 17 = .ok (.iload_n 1, 1) := by decide +kernel
theorem dX4_carryOutIfPossible_18 : decode cX4_carryOutIfPossible 18 = .ok (.iaload, 1) := by decide +kernel
theorem dX4_carryOutIfPossible_19 : decode cX4_carryOutIfPossible 19 = .ok (.istore_n 3, 1) := by decide +kernel
theorem dX4_carryOutIfPossible_20 : decode cX4_carryOutIfPossible 20 = .ok (.aload_n 0, 1) := by decide +kernel
theorem dX4_carryOutIfPossible_21 : decode cX4_carryOutIfPossible 21 = .ok (.getfield 12, 3) := by decide +kernel
theorem dX4_carryOutIfPossible_24 : decode cX4_carryOutIfPossible 24 = .ok (.getfield 97, 3) := by decide +kernel
theorem dX4_carryOutIfPossible_27 : decode cX4_carryOutIfPossible 27 = .ok (.iload_n 3, 1) := by decide +kernel
theorem dX4_carryOutIfPossible_28 : decode cX4_carryOutIfPossible 28 = .ok (.iaload, 1) := by decide +kernel
theorem dX4_carryOutIfPossible_29 : decode cX4_carryOutIfPossible 29 = .ok (.iconst (-1), 1) := by decide +kernel
theorem dX4_carryOutIfPossible_30 : decode cX4_carryOutIfPossible 30 = .ok (.if_icmp .ne 16, 3) := by decide +kernel
theorem dX4_carryOutIfPossible_33 : decode cX4_carryOutIfPossible 33 = .ok (.aload_n 0, 1) := by decide +kernel
theorem dX4_carryOutIfPossible_34 : decode cX4_carryOutIfPossible 34 = .ok (.iload_n 1, 1) := by decide +kernel
theorem dX4_carryOutIfPossible_35 : decode cX4_carryOutIfPossible 35 = .ok (.invokevirtual 247, 3) := by decide +kernel
theorem dX4_carryOutIfPossible_38 : decode cX4_carryOutIfPossible 38 = .ok (.aload_n 0, 1) := by decide +kernel
theorem dX4_carryOutIfPossible_39 : decode cX4_carryOutIfPossible 39 = .ok (.iload_n 2, 1) := by decide +kernel
theorem dX4_carryOutIfPossible_40 : decode cX4_carryOutIfPossible 40 = .ok (.iload_n 3, 1) := by decide +kernel
theorem dX4_carryOutIfPossible_41 : decode cX4_carryOutIfPossible 41 = .ok (.invokevirtual 250, 3) := by decide +kernel
theorem dX4_carryOutIfPossible_44 : decode cX4_carryOutIfPossible 44 = .ok (.iconst 1, 1) := by decide +kernel
theorem dX4_carryOutIfPossible_45 : decode cX4_carryOutIfPossible 45 = .ok (.ireturn, 1) := by decide +kernel
theorem dX4_carryOutIfPossible_46 : decode cX4_carryOutIfPossible 46 = .ok (.aload_n 0, 1) := by decide +kernel
theorem dX4_carryOutIfPossible_47 : decode cX4_carryOutIfPossible 47 = .ok (.iload_n 1, 1) := by decide +kernel
theorem dX4_carryOutIfPossible_48 : decode cX4_carryOutIfPossible 48 = .ok (.invokevirtual 253, 3) := by decide +kernel
theorem dX4_carryOutIfPossible_51 : decode cX4_carryOutIfPossible 51 = .ok (.istore 4, 2) := by decide +kernel
theorem dX4_carryOutIfPossible_53 : decode cX4_carryOutIfPossible 53 = .ok (.iload 4, 2) := by decide +kernel
theorem dX4_carryOutIfPossible_55 : decode cX4_carryOutIfPossible 55 = .ok (.iconst (-1), 1) := by decide +kernel
theorem dX4_carryOutIfPossible_56 : decode cX4_carryOutIfPossible 56 = .ok (.if_icmp .ne 5, 3) := by decide +kernel
theorem dX4_carryOutIfPossible_59 : decode cX4_carryOutIfPossible 59 = .ok (.iconst 0, 1) := by decide +kernel
theorem dX4_carryOutIfPossible_60 : decode cX4_carryOutIfPossible 60 = .ok (.ireturn, 1) := by decide +kernel
theorem dX4_carryOutIfPossible_61 : decode cX4_carryOutIfPossible 61 = .ok (.aload_n 0, 1) := by decide +kernel
theorem dX4_carryOutIfPossible_62 : decode cX4_carryOutIfPossible 62 = .ok (.iload_n 1, 1) := by decide +kernel
theorem dX4_carryOutIfPossible_63 : decode cX4_carryOutIfPossible 63 = .ok (.invokevirtual 247, 3) := by decide +kernel
theorem dX4_carryOutIfPossible_66 : decode cX4_carryOutIfPossible 66 = .ok (.aload_n 0, 1) := by decide +kernel
theorem dX4_carryOutIfPossible_67 : decode cX4_carryOutIfPossible 67 = .ok (.iload 4, 2) := by decide +kernel
theorem dX4_carryOutIfPossible_69 : decode cX4_carryOutIfPossible 69 = .ok (.invokevirtual 247, 3) := by decide +kernel
theorem dX4_carryOutIfPossible_72 : decode cX4_carryOutIfPossible 72 = .ok (.aload_n 0, 1) := by decide +kernel
theorem dX4_carryOutIfPossible_73 : decode cX4_carryOutIfPossible 73 = .ok (.iload_n 2, 1) := by decide +kernel
theorem dX4_carryOutIfPossible_74 : decode cX4_carryOutIfPossible 74 = .ok (.iload_n 3, 1) := by decide +kernel
theorem dX4_carryOutIfPossible_75 : decode cX4_carryOutIfPossible 75 = .ok (.invokevirtual 250, 3) := by decide +kernel
theorem dX4_carryOutIfPossible_78 : decode cX4_carryOutIfPossible 78 = .ok (.iconst 2, 1) := by decide +kernel
theorem dX4_carryOutIfPossible_79 : decode cX4_carryOutIfPossible 79 = .ok (.ireturn, 1) := by decide +kernel
theorem dX4_checkAirline_0 : decode cX4_checkAirline 0 = .ok (.iload_n 1, 1) := by decide +kernel
theorem dX4_checkAirline_1 : decode cX4_checkAirline 1 = .ok (.ifCond .lt 9, 3) := by decide +kernel
theorem dX4_checkAirline_4 : decode cX4_checkAirline 4 = .ok (.iload_n 1, 1) := by decide +kernel
theorem dX4_checkAirline_5 : decode cX4_checkAirline 5 = .ok (.bipush 8, 2) := by decide +kernel
theorem dX4_checkAirline_7 : decode cX4_checkAirline 7 = .ok (.if_icmp .lt 13, 3) := by decide +kernel
theorem dX4_checkAirline_10 : decode cX4_checkAirline 10 = .ok (.new 37, 3) := by decide +kernel
theorem dX4_checkAirline_13 : decode cX4_checkAirline 13 = .ok (.dup, 1) := by decide +kernel
theorem dX4_checkAirline_14 : decode cX4_checkAirline 14 = .ok (.ldc 204, 2) := by decide +kernel
theorem dX4_checkAirline_16 : decode cX4_checkAirline 16 = .ok (.invokespecial 41, 3) := by decide +kernel
theorem dX4_checkAirline_19 : decode cX4_checkAirline 19 = .ok (.athrow, 1) := by decide +kernel
theorem dX4_checkAirline_20 : decode cX4_checkAirline 20 = .ok (.return_, 1) := by decide +kernel
theorem dX4_checkAirlineOrNone_0 : decode cX4_checkAirlineOrNone 0 = .ok (.iload_n 1, 1) := by decide +kernel
theorem dX4_checkAirlineOrNone_1 : decode cX4_checkAirlineOrNone 1 = .ok (.iconst (-1), 1) := by decide +kernel
theorem dX4_checkAirlineOrNone_2 : decode cX4_checkAirlineOrNone 2 = .ok (.if_icmp .eq 8, 3) := by decide +kernel
theorem dX4_checkAirlineOrNone_5 : decode cX4_checkAirlineOrNone 5 = .ok (.aload_n 0, 1) := by decide +kernel
theorem dX4_checkAirlineOrNone_6 : decode cX4_checkAirlineOrNone 6 = .ok (.iload_n 1, 1) := by decide +kernel
theorem dX4_checkAirlineOrNone_7 : decode cX4_checkAirlineOrNone 7 = .ok (.invokevirtual 63, 3) := by decide +kernel
theorem dX4_checkAirlineOrNone_10 : decode cX4_checkAirlineOrNone 10 = .ok (.return_, 1) := by decide +kernel
theorem dX4_checkFlight_0 : decode cX4_checkFlight 0 = .ok (.iload_n 1, 1) := by decide +kernel
theorem dX4_checkFlight_1 : decode cX4_checkFlight 1 = .ok (.ifCond .lt 14, 3) := by decide +kernel
theorem dX4_checkFlight_4 : decode cX4_checkFlight 4 = .ok (.iload_n 1, 1) := by decide +kernel
theorem dX4_checkFlight_5 : decode cX4_checkFlight 5 = .ok (.aload_n 0, 1) := by decide +kernel
theorem dX4_checkFlight_6 : decode cX4_checkFlight 6 = .ok (.getfield 19, 3) := by decide +kernel
theorem dX4_checkFlight_9 : decode cX4_checkFlight 9 = .ok (.getfield 77, 3) := by decide +kernel
theorem dX4_checkFlight_12 : decode cX4_checkFlight 12 = .ok (.if_icmp .lt 13, 3) := by decide +kernel
theorem dX4_checkFlight_15 : decode cX4_checkFlight 15 = .ok (.new 37, 3) := by decide +kernel
theorem dX4_checkFlight_18 : decode cX4_checkFlight 18 = .ok (.dup, 1) := by decide +kernel
theorem dX4_checkFlight_19 : decode cX4_checkFlight 19 = .ok (.ldc 202, 2) := by decide +kernel
theorem dX4_checkFlight_21 : decode cX4_checkFlight 21 = .ok (.invokespecial 41, 3) := by decide +kernel
theorem dX4_checkFlight_24 : decode cX4_checkFlight 24 = .ok (.athrow, 1) := by decide +kernel
theorem dX4_checkFlight_25 : decode cX4_checkFlight 25 = .ok (.return_, 1) := by decide +kernel
theorem dX4_checkPlannable_0 : decode cX4_checkPlannable 0 = .ok (.aload_n 0, 1) := by decide +kernel
theorem dX4_checkPlannable_1 : decode cX4_checkPlannable 1 = .ok (.getfield 19, 3) := by decide +kernel
theorem dX4_checkPlannable_4 : decode cX4_checkPlannable 4 = .ok (.iload_n 1, 1) := by decide +kernel
theorem dX4_checkPlannable_5 : decode cX4_checkPlannable 5 = .ok (.invokevirtual 214, 3) := by decide +kernel
theorem dX4_checkPlannable_8 : decode cX4_checkPlannable 8 = .ok (.ifCond .ne 13, 3) := by decide +kernel
theorem dX4_checkPlannable_11 : decode cX4_checkPlannable 11 = .ok (.new 50, 3) := by decide +kernel
theorem dX4_checkPlannable_14 : decode cX4_checkPlannable 14 = .ok (.dup, 1) := by decide +kernel
theorem dX4_checkPlannable_15 : decode cX4_checkPlannable 15 = .ok (.ldc 217, 2) := by decide +kernel
theorem dX4_checkPlannable_17 : decode cX4_checkPlannable 17 = .ok (.invokespecial 54, 3) := by decide +kernel
theorem dX4_checkPlannable_20 : decode cX4_checkPlannable 20 = .ok (.athrow, 1) := by decide +kernel
theorem dX4_checkPlannable_21 : decode cX4_checkPlannable 21 = .ok (.return_, 1) := by decide +kernel
theorem dX4_checkSlot_0 : decode cX4_checkSlot 0 = .ok (.aload_n 0, 1) := by decide +kernel
theorem dX4_checkSlot_1 : decode cX4_checkSlot 1 = .ok (.getfield 12, 3) := by decide +kernel
theorem dX4_checkSlot_4 : decode cX4_checkSlot 4 = .ok (.iload_n 1, 1) := by decide +kernel
theorem dX4_checkSlot_5 : decode cX4_checkSlot 5 = .ok (.invokevirtual 206, 3) := by decide +kernel
theorem dX4_checkSlot_8 : decode cX4_checkSlot 8 = .ok (.ifCond .ne 13, 3) := by decide +kernel
theorem dX4_checkSlot_11 : decode cX4_checkSlot 11 = .ok (.new 209, 3) := by decide +kernel
theorem dX4_checkSlot_14 : decode cX4_checkSlot 14 = .ok (.dup, 1) := by decide +kernel
theorem dX4_checkSlot_15 : decode cX4_checkSlot 15 = .ok (.ldc 211, 2) := by decide +kernel
theorem dX4_checkSlot_17 : decode cX4_checkSlot 17 = .ok (.invokespecial 213, 3) := by decide +kernel
theorem dX4_checkSlot_20 : decode cX4_checkSlot 20 = .ok (.athrow, 1) := by decide +kernel
theorem dX4_checkSlot_21 : decode cX4_checkSlot 21 = .ok (.return_, 1) := by decide +kernel
theorem dX4_clearWhatIsNotFrozen_0 : decode cX4_clearWhatIsNotFrozen 0 = .ok (.iconst 0, 1) := by decide +kernel
theorem dX4_clearWhatIsNotFrozen_1 : decode cX4_clearWhatIsNotFrozen 1 = .ok (.istore_n 1, 1) := by decide +kernel
theorem dX4_clearWhatIsNotFrozen_2 : decode cX4_clearWhatIsNotFrozen 2 = .ok (.iload_n 1, 1) := by decide +kernel
theorem dX4_clearWhatIsNotFrozen_3 : decode cX4_clearWhatIsNotFrozen 3 = .ok (.sipush 240, 3) := by decide +kernel
theorem dX4_clearWhatIsNotFrozen_6 : decode cX4_clearWhatIsNotFrozen 6 = .ok (.if_icmp .ge 37, 3) := by decide +kernel
theorem dX4_clearWhatIsNotFrozen_9 : decode cX4_clearWhatIsNotFrozen 9 = .ok (.aload_n 0, 1) := by decide +kernel
theorem dX4_clearWhatIsNotFrozen_10 : decode cX4_clearWhatIsNotFrozen 10 = .ok (.iload_n 1, 1) := by decide +kernel
theorem dX4_clearWhatIsNotFrozen_11 : decode cX4_clearWhatIsNotFrozen 11 = .ok (.invokevirtual 219, 3) := by decide +kernel
theorem dX4_clearWhatIsNotFrozen_14 : decode cX4_clearWhatIsNotFrozen 14 = .ok (.ifCond .ne 23, 3) := by decide +kernel
theorem dX4_clearWhatIsNotFrozen_17 : decode cX4_clearWhatIsNotFrozen 17 = .ok (.aload_n 0, 1) := by decide +kernel
theorem dX4_clearWhatIsNotFrozen_18 : decode cX4_clearWhatIsNotFrozen 18 = .ok (.getfield 12, 3) := by decide +kernel
theorem dX4_clearWhatIsNotFrozen_21 : decode cX4_clearWhatIsNotFrozen 21 = .ok (.getfield 100, 3) := by decide +kernel
theorem dX4_clearWhatIsNotFrozen_24 : decode cX4_clearWhatIsNotFrozen 24 = .ok (.iload_n 1, 1) := by decide +kernel
theorem dX4_clearWhatIsNotFrozen_25 : decode cX4_clearWhatIsNotFrozen 25 = .ok (.iconst (-1), 1) := by decide +kernel
theorem dX4_clearWhatIsNotFrozen_26 : decode cX4_clearWhatIsNotFrozen 26 = .ok (.iastore, 1) := by decide +kernel
theorem dX4_clearWhatIsNotFrozen_27 : decode cX4_clearWhatIsNotFrozen 27 = .ok (.aload_n 0, 1) := by decide +kernel
theorem dX4_clearWhatIsNotFrozen_28 : decode cX4_clearWhatIsNotFrozen 28 = .ok (.getfield 12, 3) := by decide +kernel
theorem dX4_clearWhatIsNotFrozen_31 : decode cX4_clearWhatIsNotFrozen 31 = .ok (.getfield 97, 3) := by decide +kernel
theorem dX4_clearWhatIsNotFrozen_34 : decode cX4_clearWhatIsNotFrozen 34 = .ok (.iload_n 1, 1) := by decide +kernel
theorem dX4_clearWhatIsNotFrozen_35 : decode cX4_clearWhatIsNotFrozen 35 = .ok (.iconst (-1), 1) := by decide +kernel
theorem dX4_clearWhatIsNotFrozen_36 : decode cX4_clearWhatIsNotFrozen 36 = .ok (.iastore, 1) := by decide +kernel
theorem dX4_clearWhatIsNotFrozen_37 : decode cX4_clearWhatIsNotFrozen 37 = .ok (.iinc 1 1, 3) := by decide +kernel
theorem dX4_clearWhatIsNotFrozen_40 : decode cX4_clearWhatIsNotFrozen 40 = .ok (.goto (-38), 3) := by decide +kernel
theorem dX4_clearWhatIsNotFrozen_43 : decode cX4_clearWhatIsNotFrozen 43 = .ok (.iconst 0, 1) := by decide +kernel
theorem dX4_clearWhatIsNotFrozen_44 : decode cX4_clearWhatIsNotFrozen 44 = .ok (.istore_n 1, 1) := by decide +kernel
theorem dX4_clearWhatIsNotFrozen_45 : decode cX4_clearWhatIsNotFrozen 45 = .ok (.iload_n 1, 1) := by decide +kernel
theorem dX4_clearWhatIsNotFrozen_46 : decode cX4_clearWhatIsNotFrozen 46 = .ok (.aload_n 0, 1) := by decide +kernel
theorem dX4_clearWhatIsNotFrozen_47 : decode cX4_clearWhatIsNotFrozen 47 = .ok (.getfield 19, 3) := by decide +kernel
theorem dX4_clearWhatIsNotFrozen_50 : decode cX4_clearWhatIsNotFrozen 50 = .ok (.getfield 77, 3) := by decide +kernel
theorem dX4_clearWhatIsNotFrozen_53 : decode cX4_clearWhatIsNotFrozen 53 = .ok (.if_icmp .ge 31, 3) := by decide +kernel
theorem dX4_clearWhatIsNotFrozen_56 : decode cX4_clearWhatIsNotFrozen 56 = .ok (.aload_n 0, 1) := by decide +kernel
theorem dX4_clearWhatIsNotFrozen_57 : decode cX4_clearWhatIsNotFrozen 57 = .ok (.getfield 19, 3) := by decide +kernel
theorem dX4_clearWhatIsNotFrozen_60 : decode cX4_clearWhatIsNotFrozen 60 = .ok (.getfield 119, 3) := by decide +kernel
theorem dX4_clearWhatIsNotFrozen_63 : decode cX4_clearWhatIsNotFrozen 63 = .ok (.iload_n 1, 1) := by decide +kernel
theorem dX4_clearWhatIsNotFrozen_64 : decode cX4_clearWhatIsNotFrozen 64 = .ok (.baload, 1) := by decide +kernel
theorem dX4_clearWhatIsNotFrozen_65 : decode cX4_clearWhatIsNotFrozen 65 = .ok (.ifCond .ne 13, 3) := by decide +kernel
theorem dX4_clearWhatIsNotFrozen_68 : decode cX4_clearWhatIsNotFrozen 68 = .ok (.aload_n 0, 1) := by decide +kernel
theorem dX4_clearWhatIsNotFrozen_69 : decode cX4_clearWhatIsNotFrozen 69 = .ok (.getfield 19, 3) := by decide +kernel
theorem dX4_clearWhatIsNotFrozen_72 : decode cX4_clearWhatIsNotFrozen 72 = .ok (.getfield 90, 3) := by decide +kernel
theorem dX4_clearWhatIsNotFrozen_75 : decode cX4_clearWhatIsNotFrozen 75 = .ok (.iload_n 1, 1) := by decide +kernel
theorem dX4_clearWhatIsNotFrozen_76 : decode cX4_clearWhatIsNotFrozen 76 = .ok (.iconst (-1), 1) := by decide +kernel
theorem dX4_clearWhatIsNotFrozen_77 : decode cX4_clearWhatIsNotFrozen 77 = .ok (.iastore, 1) := by decide +kernel
theorem dX4_clearWhatIsNotFrozen_78 : decode cX4_clearWhatIsNotFrozen 78 = .ok (.iinc 1 1, 3) := by decide +kernel
theorem dX4_clearWhatIsNotFrozen_81 : decode cX4_clearWhatIsNotFrozen 81 = .ok (.goto (-36), 3) := by decide +kernel
theorem dX4_clearWhatIsNotFrozen_84 : decode cX4_clearWhatIsNotFrozen 84 = .ok (.return_, 1) := by decide +kernel
theorem dX4_compress_0 : decode cX4_compress 0 = .ok (.iconst 0, 1) := by decide +kernel
theorem dX4_compress_1 : decode cX4_compress 1 = .ok (.istore_n 1, 1) := by decide +kernel
theorem dX4_compress_2 : decode cX4_compress 2 = .ok (.iconst 0, 1) := by decide +kernel
theorem dX4_compress_3 : decode cX4_compress 3 = .ok (.istore_n 2, 1) := by decide +kernel
theorem dX4_compress_4 : decode cX4_compress 4 = .ok (.iload_n 2, 1) := by decide +kernel
theorem dX4_compress_5 : decode cX4_compress 5 = .ok (.sipush 240, 3) := by decide +kernel
theorem dX4_compress_8 : decode cX4_compress 8 = .ok (.if_icmp .ge 29, 3) := by decide +kernel
theorem dX4_compress_11 : decode cX4_compress 11 = .ok (.aload_n 0, 1) := by decide +kernel
theorem dX4_compress_12 : decode cX4_compress 12 = .ok (.iload_n 2, 1) := by decide +kernel
theorem dX4_compress_13 : decode cX4_compress 13 = .ok (.invokevirtual 163, 3) := by decide +kernel
theorem dX4_compress_16 : decode cX4_compress 16 = .ok (.istore_n 3, 1) := by decide +kernel
theorem dX4_compress_17 : decode cX4_compress 17 = .ok (.iload_n 3, 1) := by decide +kernel
theorem dX4_compress_18 : decode cX4_compress 18 = .ok (.iconst (-1), 1) := by decide +kernel
theorem dX4_compress_19 : decode cX4_compress 19 = .ok (.if_icmp .eq 12, 3) := by decide +kernel
theorem dX4_compress_22 : decode cX4_compress 22 = .ok (.aload_n 0, 1) := by decide +kernel
theorem dX4_compress_23 : decode cX4_compress 23 = .ok (.iload_n 3, 1) := by decide +kernel
theorem dX4_compress_24 : decode cX4_compress 24 = .ok (.iload_n 2, 1) := by decide +kernel
theorem dX4_compress_25 : decode cX4_compress 25 = .ok (.invokevirtual 166, 3) := by decide +kernel
theorem dX4_compress_28 : decode cX4_compress 28 = .ok (.iinc 1 1, 3) := by decide +kernel
theorem dX4_compress_31 : decode cX4_compress 31 = .ok (.iinc 2 1, 3) := by decide +kernel
theorem dX4_compress_34 : decode cX4_compress 34 = .ok (.goto (-30), 3) := by decide +kernel
theorem dX4_compress_37 : decode cX4_compress 37 = .ok (.iload_n 1, 1) := by decide +kernel
theorem dX4_compress_38 : decode cX4_compress 38 = .ok (.ireturn, 1) := by decide +kernel
theorem dX4_contentCanUse_0 : decode cX4_contentCanUse 0 = .ok (.aload_n 0, 1) := by decide +kernel
theorem dX4_contentCanUse_1 : decode cX4_contentCanUse 1 = .ok (.getfield 12, 3) := by decide +kernel
theorem dX4_contentCanUse_4 : decode cX4_contentCanUse 4 = .ok (.getfield 100, 3) := by decide +kernel
theorem dX4_contentCanUse_7 : decode cX4_contentCanUse 7 = .ok (.iload_n 1, 1) := by decide +kernel
theorem dX4_contentCanUse_8 : decode cX4_contentCanUse 8 = .ok (.iaload, 1) := by decide +kernel
theorem dX4_contentCanUse_9 : decode cX4_contentCanUse 9 = .ok (.istore_n 3, 1) := by decide +kernel
theorem dX4_contentCanUse_10 : decode cX4_contentCanUse 10 = .ok (.iload_n 3, 1) := by decide +kernel
theorem dX4_contentCanUse_11 : decode cX4_contentCanUse 11 = .ok (.iconst (-1), 1) := by decide +kernel
theorem dX4_contentCanUse_12 : decode cX4_contentCanUse 12 = .ok (.if_icmp .eq 15, 3) := by decide +kernel
theorem dX4_contentCanUse_15 : decode cX4_contentCanUse 15 = .ok (.aload_n 0, 1) := by decide +kernel
theorem dX4_contentCanUse_16 : decode cX4_contentCanUse 16 = .ok (.getfield 19, 3) := by decide +kernel
theorem dX4_contentCanUse_19 : decode cX4_contentCanUse 19 = .ok (.iload_n 3, 1) := by decide +kernel
theorem dX4_contentCanUse_20 : decode cX4_contentCanUse 20 = .ok (.iload_n 2, 1) := by decide +kernel
theorem dX4_contentCanUse_21 : decode cX4_contentCanUse 21 = .ok (.invokevirtual 109, 3) := by decide +kernel
theorem dX4_contentCanUse_24 : decode cX4_contentCanUse 24 = .ok (.ifCond .eq 7, 3) := by decide +kernel
theorem dX4_contentCanUse_27 : decode cX4_contentCanUse 27 = .ok (.iconst 1, 1) := by decide +kernel
theorem dX4_contentCanUse_28 : decode cX4_contentCanUse 28 = .ok (.goto 4, 3) := by decide +kernel
theorem dX4_contentCanUse_31 : decode cX4_contentCanUse 31 = .ok (.iconst 0, 1) := by decide +kernel
theorem dX4_contentCanUse_32 : decode cX4_contentCanUse 32 = .ok (.ireturn, 1) := by decide +kernel
theorem dX4_couldMove_0 : decode cX4_couldMove 0 = .ok (.aload_n 0, 1) := by decide +kernel
theorem dX4_couldMove_1 : decode cX4_couldMove 1 = .ok (.getfield 19, 3) := by decide +kernel
theorem dX4_couldMove_4 : decode cX4_couldMove 4 = .ok (.getfield 119, 3) := by decide +kernel
theorem dX4_couldMove_7 : decode cX4_couldMove 7 = .ok (.iload_n 1, 1) := by decide +kernel
theorem dX4_couldMove_8 : decode cX4_couldMove 8 = .ok (.baload, 1) := by decide +kernel
theorem dX4_couldMove_9 : decode cX4_couldMove 9 = .ok (.ifCond .ne 19, 3) := by decide +kernel
theorem dX4_couldMove_12 : decode cX4_couldMove 12 = .ok (.aload_n 0, 1) := by decide +kernel
theorem dX4_couldMove_13 : decode cX4_couldMove 13 = .ok (.getfield 19, 3) := by decide +kernel
theorem dX4_couldMove_16 : decode cX4_couldMove 16 = .ok (.iload_n 1, 1) := by decide +kernel
theorem dX4_couldMove_17 : decode cX4_couldMove 17 = .ok (.iload_n 2, 1) := by decide +kernel
theorem dX4_couldMove_18 : decode cX4_couldMove 18 = .ok (.invokevirtual 109, 3) := by decide +kernel
theorem dX4_couldMove_21 : decode cX4_couldMove 21 = .ok (.ifCond .eq 7, 3) := by decide +kernel
theorem dX4_couldMove_24 : decode cX4_couldMove 24 = .ok (.iconst 1, 1) := by decide +kernel
theorem dX4_couldMove_25 : decode cX4_couldMove 25 = .ok (.goto 4, 3) := by decide +kernel
theorem dX4_couldMove_28 : decode cX4_couldMove 28 = .ok (.iconst 0, 1) := by decide +kernel
theorem dX4_couldMove_29 : decode cX4_couldMove 29 = .ok (.ireturn, 1) := by decide +kernel
theorem dX4_delay_0 : decode cX4_delay 0 = .ok (.aload_n 0, 1) := by decide +kernel
theorem dX4_delay_1 : decode cX4_delay 1 = .ok (.iload_n 1, 1) := by decide +kernel
theorem dX4_delay_2 : decode cX4_delay 2 = .ok (.invokevirtual 175, 3) := by decide +kernel
theorem dX4_delay_5 : decode cX4_delay 5 = .ok (.iconst 0, 1) := by decide +kernel
theorem dX4_delay_6 : decode cX4_delay 6 = .ok (.istore_n 2, 1) := by decide +kernel
theorem dX4_delay_7 : decode cX4_delay 7 = .ok (.iconst 0, 1) := by decide +kernel
theorem dX4_delay_8 : decode cX4_delay 8 = .ok (.istore_n 3, 1) := by decide +kernel
theorem dX4_delay_9 : decode cX4_delay 9 = .ok (.iload_n 3, 1) := by decide +kernel
theorem dX4_delay_10 : decode cX4_delay 10 = .ok (.aload_n 0, 1) := by decide +kernel
theorem dX4_delay_11 : decode cX4_delay 11 = .ok (.getfield 19, 3) := by decide +kernel
theorem dX4_delay_14 : decode cX4_delay 14 = .ok (.getfield 77, 3) := by decide +kernel
theorem dX4_delay_17 : decode cX4_delay 17 = .ok (.if_icmp .ge 74, 3) := by decide +kernel
theorem dX4_delay_20 : decode cX4_delay 20 = .ok (.iload_n 1, 1) := by decide +kernel
theorem dX4_delay_21 : decode cX4_delay 21 = .ok (.iconst (-1), 1) := by decide +kernel
theorem dX4_delay_22 : decode cX4_delay 22 = .ok (.if_icmp .eq 16, 3) := by decide +kernel
theorem dX4_delay_25 : decode cX4_delay 25 = .ok (.aload_n 0, 1) := by decide +kernel
theorem dX4_delay_26 : decode cX4_delay 26 = .ok (.getfield 19, 3) := by decide +kernel
theorem dX4_delay_29 : decode cX4_delay 29 = .ok (.getfield 124, 3) := by decide +kernel
theorem dX4_delay_32 : decode cX4_delay 32 = .ok (.iload_n 3, 1) := by decide +kernel
theorem dX4_delay_33 : decode cX4_delay 33 = .ok (.iaload, 1) := by decide +kernel
theorem dX4_delay_34 : decode cX4_delay 34 = .ok (.iload_n 1, 1) := by decide +kernel
theorem dX4_delay_35 : decode cX4_delay 35 = .ok (.if_icmp .ne 7, 3) := by decide +kernel
theorem dX4_delay_38 : decode cX4_delay 38 = .ok (.iconst 1, 1) := by decide +kernel
theorem dX4_delay_39 : decode cX4_delay 39 = .ok (.goto 4, 3) := by decide +kernel
theorem dX4_delay_42 : decode cX4_delay 42 = .ok (.iconst 0, 1) := by decide +kernel
theorem dX4_delay_43 : decode cX4_delay 43 = .ok (.istore 4, 2) := by decide +kernel
theorem dX4_delay_45 : decode cX4_delay 45 = .ok (.iload 4, 2) := by decide +kernel
theorem dX4_delay_47 : decode cX4_delay 47 = .ok (.ifCond .eq 38, 3) := by decide +kernel
theorem dX4_delay_50 : decode cX4_delay 50 = .ok (.aload_n 0, 1) := by decide +kernel
theorem dX4_delay_51 : decode cX4_delay 51 = .ok (.getfield 19, 3) := by decide +kernel
theorem dX4_delay_54 : decode cX4_delay 54 = .ok (.getfield 90, 3) := by decide +kernel
theorem dX4_delay_57 : decode cX4_delay 57 = .ok (.iload_n 3, 1) := by decide +kernel
theorem dX4_delay_58 : decode cX4_delay 58 = .ok (.iaload, 1) := by decide +kernel
theorem dX4_delay_59 : decode cX4_delay 59 = .ok (.iconst (-1), 1) := by decide +kernel
theorem dX4_delay_60 : decode cX4_delay 60 = .ok (.if_icmp .eq 25, 3) := by decide +kernel
theorem dX4_delay_63 : decode cX4_delay 63 = .ok (.iload_n 2, 1) := by decide +kernel
theorem dX4_delay_64 : decode cX4_delay 64 = .ok (.aload_n 0, 1) := by decide +kernel
theorem dX4_delay_65 : decode cX4_delay 65 = .ok (.getfield 19, 3) := by decide +kernel
theorem dX4_delay_68 : decode cX4_delay 68 = .ok (.getfield 90, 3) := by decide +kernel
theorem dX4_delay_71 : decode cX4_delay 71 = .ok (.iload_n 3, 1) := by decide +kernel
theorem dX4_delay_72 : decode cX4_delay 72 = .ok (.iaload, 1) := by decide +kernel
theorem dX4_delay_73 : decode cX4_delay 73 = .ok (.aload_n 0, 1) := by decide +kernel
theorem dX4_delay_74 : decode cX4_delay 74 = .ok (.getfield 19, 3) := by decide +kernel
theorem dX4_delay_77 : decode cX4_delay 77 = .ok (.getfield 178, 3) := by decide +kernel
theorem dX4_delay_80 : decode cX4_delay 80 = .ok (.iload_n 3, 1) := by decide +kernel
theorem dX4_delay_81 : decode cX4_delay 81 = .ok (.iaload, 1) := by decide +kernel
theorem dX4_delay_82 : decode cX4_delay 82 = .ok (.isub, 1) := by decide +kernel
theorem dX4_delay_83 : decode cX4_delay 83 = .ok (.iadd, 1) := by decide +kernel
theorem dX4_delay_84 : decode cX4_delay 84 = .ok (.istore_n 2, 1) := by decide +kernel
theorem dX4_delay_85 : decode cX4_delay 85 = .ok (.iinc 3 1, 3) := by decide +kernel
theorem dX4_delay_88 : decode cX4_delay 88 = .ok (.goto (-79), 3) := by decide +kernel
theorem dX4_delay_91 : decode cX4_delay 91 = .ok (.iload_n 2, 1) := by decide +kernel
theorem dX4_delay_92 : decode cX4_delay 92 = .ok (.ireturn, 1) := by decide +kernel
theorem dX4_drop_0 : decode cX4_drop 0 = .ok (.iload_n 1, 1) := by decide +kernel
theorem dX4_drop_1 : decode cX4_drop 1 = .ok (.ifCond .lt 14, 3) := by decide +kernel
theorem dX4_drop_4 : decode cX4_drop 4 = .ok (.iload_n 1, 1) := by decide +kernel
theorem dX4_drop_5 : decode cX4_drop 5 = .ok (.aload_n 0, 1) := by decide +kernel
theorem dX4_drop_6 : decode cX4_drop 6 = .ok (.getfield 26, 3) := by decide +kernel
theorem dX4_drop_9 : decode cX4_drop 9 = .ok (.getfield 146, 3) := by decide +kernel
theorem dX4_drop_12 : decode cX4_drop 12 = .ok (.if_icmp .lt 13, 3) := by decide +kernel
theorem dX4_drop_15 : decode cX4_drop 15 = .ok (.new 37, 3) := by decide +kernel
theorem dX4_drop_18 : decode cX4_drop 18 = .ok (.dup, 1) := by decide +kernel
theorem dX4_drop_19 : decode cX4_drop 19 = .ok (.ldc 150, 2) := by decide +kernel
theorem dX4_drop_21 : decode cX4_drop 21 = .ok (.invokespecial 41, 3) := by decide +kernel
theorem dX4_drop_24 : decode cX4_drop 24 = .ok (.athrow, 1) := by decide +kernel
theorem dX4_drop_25 : decode cX4_drop 25 = .ok (.aload_n 0, 1) := by decide +kernel
theorem dX4_drop_26 : decode cX4_drop 26 = .ok (.getfield 26, 3) := by decide +kernel
theorem dX4_drop_29 : decode cX4_drop 29 = .ok (.getfield 152, 3) := by decide +kernel
theorem dX4_drop_32 : decode cX4_drop 32 = .ok (.iload_n 1, 1) := by decide +kernel
theorem dX4_drop_33 : decode cX4_drop 33 = .ok (.baload, 1) := by decide +kernel
theorem dX4_drop_34 : decode cX4_drop 34 = .ok (.istore_n 2, 1) := by decide +kernel
theorem dX4_drop_35 : decode cX4_drop 35 = .ok (.aload_n 0, 1) := by decide +kernel
theorem dX4_drop_36 : decode cX4_drop 36 = .ok (.getfield 26, 3) := by decide +kernel
theorem dX4_drop_39 : decode cX4_drop 39 = .ok (.getfield 152, 3) := by decide +kernel
theorem dX4_drop_42 : decode cX4_drop 42 = .ok (.iload_n 1, 1) := by decide +kernel
theorem dX4_drop_43 : decode cX4_drop 43 = .ok (.iconst 0, 1) := by decide +kernel
theorem dX4_drop_44 : decode cX4_drop 44 = .ok (.bastore, 1) := by decide +kernel
theorem dX4_drop_45 : decode cX4_drop 45 = .ok (.iload_n 2, 1) := by decide +kernel
theorem dX4_drop_46 : decode cX4_drop 46 = .ok (.ireturn, 1) := by decide +kernel
theorem dX4_endAsTraded_0 : decode cX4_endAsTraded 0 = .ok (.aload_n 0, 1) := by decide +kernel
theorem dX4_endAsTraded_1 : decode cX4_endAsTraded 1 = .ok (.getfield 26, 3) := by decide +kernel
theorem dX4_endAsTraded_4 : decode cX4_endAsTraded 4 = .ok (.getfield 237, 3) := by decide +kernel
theorem dX4_endAsTraded_7 : decode cX4_endAsTraded 7 = .ok (.iload_n 1, 1) := by decide +kernel
theorem dX4_endAsTraded_8 : decode cX4_endAsTraded 8 = .ok (.iaload, 1) := by decide +kernel
theorem dX4_endAsTraded_9 : decode cX4_endAsTraded 9 = .ok (.istore_n 2, 1) := by decide +kernel
theorem dX4_endAsTraded_10 : decode cX4_endAsTraded 10 = .ok (.aload_n 0, 1) := by decide +kernel
theorem dX4_endAsTraded_11 : decode cX4_endAsTraded 11 = .ok (.getfield 26, 3) := by decide +kernel
theorem dX4_endAsTraded_14 : decode cX4_endAsTraded 14 = .ok (.getfield 152, 3) := by decide +kernel
theorem dX4_endAsTraded_17 : decode cX4_endAsTraded 17 = .ok (.iload_n 1, 1) := by decide +kernel
theorem dX4_endAsTraded_18 : decode cX4_endAsTraded 18 = .ok (.iconst 0, 1) := by decide +kernel
theorem dX4_endAsTraded_19 : decode cX4_endAsTraded 19 = .ok (.bastore, 1) := by decide +kernel
theorem dX4_endAsTraded_20 : decode cX4_endAsTraded 20 = .ok (.aload_n 0, 1) := by decide +kernel
theorem dX4_endAsTraded_21 : decode cX4_endAsTraded 21 = .ok (.getfield 33, 3) := by decide +kernel
theorem dX4_endAsTraded_24 : decode cX4_endAsTraded 24 = .ok (.iconst 2, 1) := by decide +kernel
theorem dX4_endAsTraded_25 : decode cX4_endAsTraded 25 = .ok (.aload_n 0, 1) := by decide +kernel
theorem dX4_endAsTraded_26 : decode cX4_endAsTraded 26 = .ok (.getfield 12, 3) := by decide +kernel
theorem dX4_endAsTraded_29 : decode cX4_endAsTraded 29 = .ok (.getfield 100, 3) := by decide +kernel
theorem dX4_endAsTraded_32 : decode cX4_endAsTraded 32 = .ok (.iload_n 2, 1) := by decide +kernel
theorem dX4_endAsTraded_33 : decode cX4_endAsTraded 33 = .ok (.iaload, 1) := by decide +kernel
theorem dX4_endAsTraded_34 : decode cX4_endAsTraded 34 = .ok (.iload_n 2, 1) := by decide +kernel
theorem dX4_endAsTraded_35 : decode cX4_endAsTraded 35 = .ok (.aload_n 0, 1) := by decide +kernel
theorem dX4_endAsTraded_36 : decode cX4_endAsTraded 36 = .ok (.getfield 26, 3) := by decide +kernel
theorem dX4_endAsTraded_39 : decode cX4_endAsTraded 39 = .ok (.getfield 240, 3) := by decide +kernel
theorem dX4_endAsTraded_42 : decode cX4_endAsTraded 42 = .ok (.iload_n 1, 1) := by decide +kernel
theorem dX4_endAsTraded_43 : decode cX4_endAsTraded 43 = .ok (.iaload, 1) := by decide +kernel
theorem dX4_endAsTraded_44 : decode cX4_endAsTraded 44 = .ok (.invokevirtual 139, 3) := by decide +kernel
theorem dX4_endAsTraded_47 : decode cX4_endAsTraded 47 = .ok (.return_, 1) := by decide +kernel
theorem dX4_entry_0 : decode cX4_entry 0 = .ok (.iload_n 1, 1) := by decide +kernel
theorem dX4_entry_1 : decode cX4_entry 1 = .ok (.ifCond .lt 14, 3) := by decide +kernel
theorem dX4_entry_4 : decode cX4_entry 4 = .ok (.iload_n 1, 1) := by decide +kernel
theorem dX4_entry_5 : decode cX4_entry 5 = .ok (.aload_n 0, 1) := by decide +kernel
theorem dX4_entry_6 : decode cX4_entry 6 = .ok (.getfield 33, 3) := by decide +kernel
theorem dX4_entry_9 : decode cX4_entry 9 = .ok (.getfield 184, 3) := by decide +kernel
theorem dX4_entry_12 : decode cX4_entry 12 = .ok (.if_icmp .lt 13, 3) := by decide +kernel
theorem dX4_entry_15 : decode cX4_entry 15 = .ok (.new 185, 3) := by decide +kernel
theorem dX4_entry_18 : decode cX4_entry 18 = .ok (.dup, 1) := by decide +kernel
theorem dX4_entry_19 : decode cX4_entry 19 = .ok (.ldc 187, 2) := by decide +kernel
theorem dX4_entry_21 : decode cX4_entry 21 = .ok (.invokespecial 189, 3) := by decide +kernel
theorem dX4_entry_24 : decode cX4_entry 24 = .ok (.athrow, 1) := by decide +kernel
theorem dX4_entry_25 : decode cX4_entry 25 = .ok (.iload_n 2, 1) := by decide +kernel
theorem dX4_entry_26 : decode cX4_entry 26 = .ok (.tableswitch 70 0 3 #[30, 40, 50, 60], 30) := by decide +kernel
theorem dX4_entry_56 : decode cX4_entry 56 = .ok (.aload_n 0, 1) := by decide +kernel
theorem dX4_entry_57 : decode cX4_entry 57 = .ok (.getfield 33, 3) := by decide +kernel
theorem dX4_entry_60 : decode cX4_entry 60 = .ok (.getfield 190, 3) := by decide +kernel
theorem dX4_entry_63 : decode cX4_entry 63 = .ok (.iload_n 1, 1) := by decide +kernel
theorem dX4_entry_64 : decode cX4_entry 64 = .ok (.iaload, 1) := by decide +kernel
theorem dX4_entry_65 : decode cX4_entry 65 = .ok (.ireturn, 1) := by decide +kernel
theorem dX4_entry_66 : decode cX4_entry 66 = .ok (.aload_n 0, 1) := by decide +kernel
theorem dX4_entry_67 : decode cX4_entry 67 = .ok (.getfield 33, 3) := by decide +kernel
theorem dX4_entry_70 : decode cX4_entry 70 = .ok (.getfield 193, 3) := by decide +kernel
theorem dX4_entry_73 : decode cX4_entry 73 = .ok (.iload_n 1, 1) := by decide +kernel
theorem dX4_entry_74 : decode cX4_entry 74 = .ok (.iaload, 1) := by decide +kernel
theorem dX4_entry_75 : decode cX4_entry 75 = .ok (.ireturn, 1) := by decide +kernel
theorem dX4_entry_76 : decode cX4_entry 76 = .ok (.aload_n 0, 1) := by decide +kernel
theorem dX4_entry_77 : decode cX4_entry 77 = .ok (.getfield 33, 3) := by decide +kernel
theorem dX4_entry_80 : decode cX4_entry 80 = .ok (.getfield 194, 3) := by decide +kernel
theorem dX4_entry_83 : decode cX4_entry 83 = .ok (.iload_n 1, 1) := by decide +kernel
theorem dX4_entry_84 : decode cX4_entry 84 = .ok (.iaload, 1) := by decide +kernel
theorem dX4_entry_85 : decode cX4_entry 85 = .ok (.ireturn, 1) := by decide +kernel
theorem dX4_entry_86 : decode cX4_entry 86 = .ok (.aload_n 0, 1) := by decide +kernel
theorem dX4_entry_87 : decode cX4_entry 87 = .ok (.getfield 33, 3) := by decide +kernel
theorem dX4_entry_90 : decode cX4_entry 90 = .ok (.getfield 197, 3) := by decide +kernel
theorem dX4_entry_93 : decode cX4_entry 93 = .ok (.iload_n 1, 1) := by decide +kernel
theorem dX4_entry_94 : decode cX4_entry 94 = .ok (.iaload, 1) := by decide +kernel
theorem dX4_entry_95 : decode cX4_entry 95 = .ok (.ireturn, 1) := by decide +kernel
theorem dX4_entry_96 : decode cX4_entry 96 = .ok (.new 37, 3) := by decide +kernel
theorem dX4_entry_99 : decode cX4_entry 99 = .ok (.dup, 1) := by decide +kernel
theorem dX4_entry_100 : decode cX4_entry 100 = .ok (.ldc 200, 2) := by decide +kernel
theorem dX4_entry_102 : decode cX4_entry 102 = .ok (.invokespecial 41, 3) := by decide +kernel
theorem dX4_entry_105 : decode cX4_entry 105 = .ok (.athrow, 1) := by decide +kernel
theorem dX4_exchange_0 : decode cX4_exchange 0 = .ok (.aload_n 0, 1) := by decide +kernel
theorem dX4_exchange_1 : decode cX4_exchange 1 = .ok (.getfield 12, 3) := by decide +kernel
theorem dX4_exchange_4 : decode cX4_exchange 4 = .ok (.getfield 100, 3) := by decide +kernel
theorem dX4_exchange_7 : decode cX4_exchange 7 = .ok (.iload_n 1, 1) := by decide +kernel
theorem dX4_exchange_8 : decode cX4_exchange 8 = .ok (.iaload, 1) := by decide +kernel
theorem dX4_exchange_9 : decode cX4_exchange 9 = .ok (.istore_n 3, 1) := by decide +kernel
theorem dX4_exchange_10 : decode cX4_exchange 10 = .ok (.aload_n 0, 1) := by decide +kernel
theorem dX4_exchange_11 : decode cX4_exchange 11 = .ok (.getfield 12, 3) := by decide +kernel
theorem dX4_exchange_14 : decode cX4_exchange 14 = .ok (.getfield 97, 3) := by decide +kernel
theorem dX4_exchange_17 : decode cX4_exchange 17 = .ok (.iload_n 1, 1) := by decide +kernel
theorem dX4_exchange_18 : decode cX4_exchange 18 = .ok (.iaload, 1) := by decide +kernel
theorem dX4_exchange_19 : decode cX4_exchange 19 = .ok (.istore 4, 2) := by decide +kernel
theorem dX4_exchange_21 : decode cX4_exchange 21 = .ok (.aload_n 0, 1) := by decide +kernel
theorem dX4_exchange_22 : decode cX4_exchange 22 = .ok (.iload_n 1, 1) := by decide +kernel
theorem dX4_exchange_23 : decode cX4_exchange 23 = .ok (.aload_n 0, 1) := by decide +kernel
theorem dX4_exchange_24 : decode cX4_exchange 24 = .ok (.getfield 12, 3) := by decide +kernel
theorem dX4_exchange_27 : decode cX4_exchange 27 = .ok (.getfield 100, 3) := by decide +kernel
theorem dX4_exchange_30 : decode cX4_exchange 30 = .ok (.iload_n 2, 1) := by decide +kernel
theorem dX4_exchange_31 : decode cX4_exchange 31 = .ok (.iaload, 1) := by decide +kernel
theorem dX4_exchange_32 : decode cX4_exchange 32 = .ok (.invokevirtual 136, 3) := by decide +kernel
theorem dX4_exchange_35 : decode cX4_exchange 35 = .ok (.aload_n 0, 1) := by decide +kernel
theorem dX4_exchange_36 : decode cX4_exchange 36 = .ok (.getfield 12, 3) := by decide +kernel
theorem dX4_exchange_39 : decode cX4_exchange 39 = .ok (.getfield 97, 3) := by decide +kernel
theorem dX4_exchange_42 : decode cX4_exchange 42 = .ok (.iload_n 1, 1) := by decide +kernel
theorem dX4_exchange_43 : decode cX4_exchange 43 = .ok (.aload_n 0, 1) := by decide +kernel
theorem dX4_exchange_44 : decode cX4_exchange 44 = .ok (.getfield 12, 3) := by decide +kernel
theorem dX4_exchange_47 : decode cX4_exchange 47 = .ok (.getfield 97, 3) := by decide +kernel
theorem dX4_exchange_50 : decode cX4_exchange 50 = .ok (.iload_n 2, 1) := by decide +kernel
theorem dX4_exchange_51 : decode cX4_exchange 51 = .ok (.iaload, 1) := by decide +kernel
theorem dX4_exchange_52 : decode cX4_exchange 52 = .ok (.iastore, 1) := by decide +kernel
theorem dX4_exchange_53 : decode cX4_exchange 53 = .ok (.aload_n 0, 1) := by decide +kernel
theorem dX4_exchange_54 : decode cX4_exchange 54 = .ok (.iload_n 2, 1) := by decide +kernel
theorem dX4_exchange_55 : decode cX4_exchange 55 = .ok (.iload_n 3, 1) := by decide +kernel
theorem dX4_exchange_56 : decode cX4_exchange 56 = .ok (.invokevirtual 136, 3) := by decide +kernel
theorem dX4_exchange_59 : decode cX4_exchange 59 = .ok (.aload_n 0, 1) := by decide +kernel
theorem dX4_exchange_60 : decode cX4_exchange 60 = .ok (.getfield 12, 3) := by decide +kernel
theorem dX4_exchange_63 : decode cX4_exchange 63 = .ok (.getfield 97, 3) := by decide +kernel
theorem dX4_exchange_66 : decode cX4_exchange 66 = .ok (.iload_n 2, 1) := by decide +kernel
theorem dX4_exchange_67 : decode cX4_exchange 67 = .ok (.iload 4, 2) := by decide +kernel
theorem dX4_exchange_69 : decode cX4_exchange 69 = .ok (.iastore, 1) := by decide +kernel
theorem dX4_exchange_70 : decode cX4_exchange 70 = .ok (.return_, 1) := by decide +kernel
theorem dX4_flight_0 : decode cX4_flight 0 = .ok (.aload_n 0, 1) := by decide +kernel
theorem dX4_flight_1 : decode cX4_flight 1 = .ok (.iload_n 1, 1) := by decide +kernel
theorem dX4_flight_2 : decode cX4_flight 2 = .ok (.invokevirtual 63, 3) := by decide +kernel
theorem dX4_flight_5 : decode cX4_flight 5 = .ok (.iload_n 2, 1) := by decide +kernel
theorem dX4_flight_6 : decode cX4_flight 6 = .ok (.ifCond .lt 10, 3) := by decide +kernel
theorem dX4_flight_9 : decode cX4_flight 9 = .ok (.iload_n 2, 1) := by decide +kernel
theorem dX4_flight_10 : decode cX4_flight 10 = .ok (.sipush 240, 3) := by decide +kernel
theorem dX4_flight_13 : decode cX4_flight 13 = .ok (.if_icmp .lt 13, 3) := by decide +kernel
theorem dX4_flight_16 : decode cX4_flight 16 = .ok (.new 37, 3) := by decide +kernel
theorem dX4_flight_19 : decode cX4_flight 19 = .ok (.dup, 1) := by decide +kernel
theorem dX4_flight_20 : decode cX4_flight 20 = .ok (.ldc 67, 2) := by decide +kernel
theorem dX4_flight_22 : decode cX4_flight 22 = .ok (.invokespecial 41, 3) := by decide +kernel
theorem dX4_flight_25 : decode cX4_flight 25 = .ok (.athrow, 1) := by decide +kernel
theorem dX4_flight_26 : decode cX4_flight 26 = .ok (.iload_n 3, 1) := by decide +kernel
theorem dX4_flight_27 : decode cX4_flight 27 = .ok (.iconst 0, 1) := by decide +kernel
theorem dX4_flight_28 : decode cX4_flight 28 = .ok (.iload_n 2, 1) := by decide +kernel
theorem dX4_flight_29 : decode cX4_flight 29 = .ok (.bipush 15, 2) := by decide +kernel
theorem dX4_flight_31 : decode cX4_flight 31 = .ok (.isub, 1) := by decide +kernel
theorem dX4_flight_32 : decode cX4_flight 32 = .ok (.invokestatic 69, 3) := by decide +kernel
theorem dX4_flight_35 : decode cX4_flight 35 = .ok (.if_icmp .lt 10, 3) := by decide +kernel
theorem dX4_flight_38 : decode cX4_flight 38 = .ok (.iload_n 3, 1) := by decide +kernel
theorem dX4_flight_39 : decode cX4_flight 39 = .ok (.sipush 300, 3) := by decide +kernel
theorem dX4_flight_42 : decode cX4_flight 42 = .ok (.if_icmp .le 13, 3) := by decide +kernel
theorem dX4_flight_45 : decode cX4_flight 45 = .ok (.new 37, 3) := by decide +kernel
theorem dX4_flight_48 : decode cX4_flight 48 = .ok (.dup, 1) := by decide +kernel
theorem dX4_flight_49 : decode cX4_flight 49 = .ok (.ldc 75, 2) := by decide +kernel
theorem dX4_flight_51 : decode cX4_flight 51 = .ok (.invokespecial 41, 3) := by decide +kernel
theorem dX4_flight_54 : decode cX4_flight 54 = .ok (.athrow, 1) := by decide +kernel
theorem dX4_flight_55 : decode cX4_flight 55 = .ok (.aload_n 0, 1) := by decide +kernel
theorem dX4_flight_56 : decode cX4_flight 56 = .ok (.getfield 19, 3) := by decide +kernel
theorem dX4_flight_59 : decode cX4_flight 59 = .ok (.getfield 77, 3) := by decide +kernel
theorem dX4_flight_62 : decode cX4_flight 62 = .ok (.bipush 60, 2) := by decide +kernel
theorem dX4_flight_64 : decode cX4_flight 64 = .ok (.if_icmp .lt 13, 3) := by decide +kernel
theorem dX4_flight_67 : decode cX4_flight 67 = .ok (.new 50, 3) := by decide +kernel
theorem dX4_flight_70 : decode cX4_flight 70 = .ok (.dup, 1) := by decide +kernel
theorem dX4_flight_71 : decode cX4_flight 71 = .ok (.ldc 81, 2) := by decide +kernel
theorem dX4_flight_73 : decode cX4_flight 73 = .ok (.invokespecial 54, 3) := by decide +kernel
theorem dX4_flight_76 : decode cX4_flight 76 = .ok (.athrow, 1) := by decide +kernel
theorem dX4_flight_77 : decode cX4_flight 77 = .ok (.aload_n 0, 1) := by decide +kernel
theorem dX4_flight_78 : decode cX4_flight 78 = .ok (.getfield 19, 3) := by decide +kernel
theorem dX4_flight_81 : decode cX4_flight 81 = .ok (.iload_n 1, 1) := by decide +kernel
theorem dX4_flight_82 : decode cX4_flight 82 = .ok (.iload_n 2, 1) := by decide +kernel
theorem dX4_flight_83 : decode cX4_flight 83 = .ok (.iload_n 3, 1) := by decide +kernel
theorem dX4_flight_84 : decode cX4_flight 84 = .ok (.invokevirtual 83, 3) := by decide +kernel
theorem dX4_flight_87 : decode cX4_flight 87 = .ok (.ireturn, 1) := by decide +kernel
theorem dX4_flightIn_0 : decode cX4_flightIn 0 = .ok (.aload_n 0, 1) := by decide +kernel
theorem dX4_flightIn_1 : decode cX4_flightIn 1 = .ok (.iload_n 1, 1) := by decide +kernel
theorem dX4_flightIn_2 : decode cX4_flightIn 2 = .ok (.invokevirtual 94, 3) := by decide +kernel
theorem dX4_flightIn_5 : decode cX4_flightIn 5 = .ok (.aload_n 0, 1) := by decide +kernel
theorem dX4_flightIn_6 : decode cX4_flightIn 6 = .ok (.getfield 12, 3) := by decide +kernel
theorem dX4_flightIn_9 : decode cX4_flightIn 9 = .ok (.getfield 100, 3) := by decide +kernel
theorem dX4_flightIn_12 : decode cX4_flightIn 12 = .ok (.iload_n 1, 1) := by decide +kernel
theorem dX4_flightIn_13 : decode cX4_flightIn 13 = .ok (.iaload, 1) := by decide +kernel
theorem dX4_flightIn_14 : decode cX4_flightIn 14 = .ok (.ireturn, 1) := by decide +kernel
theorem dX4_flightToMoveTo_0 : decode cX4_flightToMoveTo 0 = .ok (.aload_n 0, 1) := by decide +kernel
theorem dX4_flightToMoveTo_1 : decode cX4_flightToMoveTo 1 = .ok (.getfield 12, 3) := by decide +kernel
theorem dX4_flightToMoveTo_4 : decode cX4_flightToMoveTo 4 = .ok (.iload_n 1, 1) := by decide +kernel
theorem dX4_flightToMoveTo_5 : decode cX4_flightToMoveTo 5 = .ok (.invokevirtual 169, 3) := by decide +kernel
theorem dX4_flightToMoveTo_8 : decode cX4_flightToMoveTo 8 = .ok (.ifCond .ne 5, 3) := by decide +kernel
theorem dX4_flightToMoveTo_11 : decode cX4_flightToMoveTo 11 = .ok (.iconst (-1), 1) := by decide +kernel
theorem dX4_flightToMoveTo_12 : decode cX4_flightToMoveTo 12 = .ok (.ireturn, 1) := by decide +kernel
theorem dX4_flightToMoveTo_13 : decode cX4_flightToMoveTo 13 = .ok (.iconst (-1), 1) := by decide +kernel
theorem dX4_flightToMoveTo_14 : decode cX4_flightToMoveTo 14 = .ok (.istore_n 2, 1) := by decide +kernel
theorem dX4_flightToMoveTo_15 : decode cX4_flightToMoveTo 15 = .ok (.iload_n 1, 1) := by decide +kernel
theorem dX4_flightToMoveTo_16 : decode cX4_flightToMoveTo 16 = .ok (.iconst 1, 1) := by decide +kernel
theorem dX4_flightToMoveTo_17 : decode cX4_flightToMoveTo 17 = .ok (.iadd, 1) := by decide +kernel
theorem dX4_flightToMoveTo_18 : decode cX4_flightToMoveTo 18 = .ok (.istore_n 3, 1) := by decide +kernel
theorem dX4_flightToMoveTo_19 : decode cX4_flightToMoveTo 19 = .ok (.iload_n 3, 1) := by decide +kernel
theorem dX4_flightToMoveTo_20 : decode cX4_flightToMoveTo 20 = .ok (.sipush 240, 3) := by decide +kernel
theorem dX4_flightToMoveTo_23 : decode cX4_flightToMoveTo 23 = .ok (.if_icmp .ge 69, 3) := by decide +kernel
theorem dX4_flightToMoveTo_26 : decode cX4_flightToMoveTo 26 = .ok (.aload_n 0, 1) := by decide +kernel
theorem dX4_flightToMoveTo_27 : decode cX4_flightToMoveTo 27 = .ok (.getfield 12, 3) := by decide +kernel
theorem dX4_flightToMoveTo_30 : decode cX4_flightToMoveTo 30 = .ok (.getfield 100, 3) := by decide +kernel
theorem dX4_flightToMoveTo_33 : decode cX4_flightToMoveTo 33 = .ok (.iload_n 3, 1) := by decide +kernel
theorem dX4_flightToMoveTo_34 : decode cX4_flightToMoveTo 34 = .ok (.iaload, 1) := by decide +kernel
theorem dX4_flightToMoveTo_35 : decode cX4_flightToMoveTo 35 = .ok (.istore 4, 2) := by decide +kernel
theorem dX4_flightToMoveTo_37 : decode cX4_flightToMoveTo 37 = .ok (.iload 4, 2) := by decide +kernel
theorem dX4_flightToMoveTo_39 : decode cX4_flightToMoveTo 39 = .ok (.iconst (-1), 1) := by decide +kernel
theorem dX4_flightToMoveTo_40 : decode cX4_flightToMoveTo 40 = .ok (.if_icmp .eq 46, 3) := by decide +kernel
theorem dX4_flightToMoveTo_43 : decode cX4_flightToMoveTo 43 = .ok (.aload_n 0, 1) := by decide +kernel
theorem dX4_flightToMoveTo_44 : decode cX4_flightToMoveTo 44 = .ok (.iload 4, 2) := by decide +kernel
theorem dX4_flightToMoveTo_46 : decode cX4_flightToMoveTo 46 = .ok (.iload_n 1, 1) := by decide +kernel
theorem dX4_flightToMoveTo_47 : decode cX4_flightToMoveTo 47 = .ok (.invokevirtual 131, 3) := by decide +kernel
theorem dX4_flightToMoveTo_50 : decode cX4_flightToMoveTo 50 = .ok (.ifCond .eq 36, 3) := by decide +kernel
theorem dX4_flightToMoveTo_53 : decode cX4_flightToMoveTo 53 = .ok (.aload_n 0, 1) := by decide +kernel
theorem dX4_flightToMoveTo_54 : decode cX4_flightToMoveTo 54 = .ok (.getfield 19, 3) := by decide +kernel
theorem dX4_flightToMoveTo_57 : decode cX4_flightToMoveTo 57 = .ok (.getfield 124, 3) := by decide +kernel
theorem dX4_flightToMoveTo_60 : decode cX4_flightToMoveTo 60 = .ok (.iload 4, 2) := by decide +kernel
theorem dX4_flightToMoveTo_62 : decode cX4_flightToMoveTo 62 = .ok (.iaload, 1) := by decide +kernel
theorem dX4_flightToMoveTo_63 : decode cX4_flightToMoveTo 63 = .ok (.aload_n 0, 1) := by decide +kernel
theorem dX4_flightToMoveTo_64 : decode cX4_flightToMoveTo 64 = .ok (.getfield 12, 3) := by decide +kernel
theorem dX4_flightToMoveTo_67 : decode cX4_flightToMoveTo 67 = .ok (.getfield 97, 3) := by decide +kernel
theorem dX4_flightToMoveTo_70 : decode cX4_flightToMoveTo 70 = .ok (.iload_n 1, 1) := by decide +kernel
theorem dX4_flightToMoveTo_71 : decode cX4_flightToMoveTo 71 = .ok (.iaload, 1) := by decide +kernel
theorem dX4_flightToMoveTo_72 : decode cX4_flightToMoveTo 72 = .ok (.if_icmp .ne 6, 3) := by decide +kernel
theorem dX4_flightToMoveTo_75 : decode cX4_flightToMoveTo 75 = .ok (.iload 4, 2) := by decide +kernel
theorem dX4_flightToMoveTo_77 : decode cX4_flightToMoveTo 77 = .ok (.ireturn, 1) := by decide +kernel
theorem dX4_flightToMoveTo_78 : decode cX4_flightToMoveTo 78 = .ok (.iload_n 2, 1) := by decide +kernel
theorem dX4_flightToMoveTo_79 : decode cX4_flightToMoveTo 79 = .ok (.iconst (-1), 1) := by decide +kernel
theorem dX4_flightToMoveTo_80 : decode cX4_flightToMoveTo 80 = .ok (.if_icmp .ne 6, 3) := by decide +kernel
theorem dX4_flightToMoveTo_83 : decode cX4_flightToMoveTo 83 = .ok (.iload 4, 2) := by decide +kernel
theorem dX4_flightToMoveTo_85 : decode cX4_flightToMoveTo 85 = .ok (.istore_n 2, 1) := by decide +kernel
theorem dX4_flightToMoveTo_86 : decode cX4_flightToMoveTo 86 = .ok (.iinc 3 1, 3) := by decide +kernel
theorem dX4_flightToMoveTo_89 : decode cX4_flightToMoveTo 89 = .ok (.goto (-70), 3) := by decide +kernel
theorem dX4_flightToMoveTo_92 : decode cX4_flightToMoveTo 92 = .ok (.iload_n 2, 1) := by decide +kernel
theorem dX4_flightToMoveTo_93 : decode cX4_flightToMoveTo 93 = .ok (.ireturn, 1) := by decide +kernel
theorem dX4_flightsThatCouldMoveTo_0 : decode cX4_flightsThatCouldMoveTo 0 = .ok (.iconst 0, 1) := by decide +kernel
theorem dX4_flightsThatCouldMoveTo_1 : decode cX4_flightsThatCouldMoveTo 1 = .ok (.istore_n 2, 1) := by decide +kernel
theorem dX4_flightsThatCouldMoveTo_2 : decode cX4_flightsThatCouldMoveTo 2 = .ok (.iconst 0, 1) := by decide +kernel
theorem dX4_flightsThatCouldMoveTo_3 : decode cX4_flightsThatCouldMoveTo 3 = .ok (.istore_n 3, 1) := by decide +kernel
theorem dX4_flightsThatCouldMoveTo_4 : decode cX4_flightsThatCouldMoveTo 4 = .ok (.iload_n 3, 1) := by decide +kernel
theorem dX4_flightsThatCouldMoveTo_5 : decode cX4_flightsThatCouldMoveTo 5 = .ok (.aload_n 0, 1) := by decide +kernel
theorem dX4_flightsThatCouldMoveTo_6 : decode cX4_flightsThatCouldMoveTo 6 = .ok (.getfield 19, 3) := by decide +kernel
theorem dX4_flightsThatCouldMoveTo_9 : decode cX4_flightsThatCouldMoveTo 9 = .ok (.getfield 77, 3) := by decide +kernel
theorem dX4_flightsThatCouldMoveTo_12 : decode cX4_flightsThatCouldMoveTo 12 = .ok (.if_icmp .ge 34, 3) := by decide +kernel
theorem dX4_flightsThatCouldMoveTo_15 : decode cX4_flightsThatCouldMoveTo 15 = .ok (.aload_n 0, 1) := by decide +kernel
theorem dX4_flightsThatCouldMoveTo_16 : decode cX4_flightsThatCouldMoveTo 16 = .ok (.getfield 19, 3) := by decide +kernel
theorem dX4_flightsThatCouldMoveTo_19 : decode cX4_flightsThatCouldMoveTo 19 = .ok (.getfield 90, 3) := by decide +kernel
theorem dX4_flightsThatCouldMoveTo_22 : decode cX4_flightsThatCouldMoveTo 22 = .ok (.iload_n 3, 1) := by decide +kernel
theorem dX4_flightsThatCouldMoveTo_23 : decode cX4_flightsThatCouldMoveTo 23 = .ok (.iaload, 1) := by decide +kernel
theorem dX4_flightsThatCouldMoveTo_24 : decode cX4_flightsThatCouldMoveTo 24 = .ok (.iload_n 1, 1) := by decide +kernel
theorem dX4_flightsThatCouldMoveTo_25 : decode cX4_flightsThatCouldMoveTo 25 = .ok (.if_icmp .le 15, 3) := by decide +kernel
theorem dX4_flightsThatCouldMoveTo_28 : decode cX4_flightsThatCouldMoveTo 28 = .ok (.aload_n 0, 1) := by decide +kernel
theorem dX4_flightsThatCouldMoveTo_29 : decode cX4_flightsThatCouldMoveTo 29 = .ok (.iload_n 3, 1) := by decide +kernel
theorem dX4_flightsThatCouldMoveTo_30 : decode cX4_flightsThatCouldMoveTo 30 = .ok (.iload_n 1, 1) := by decide +kernel
theorem dX4_flightsThatCouldMoveTo_31 : decode cX4_flightsThatCouldMoveTo 31 = .ok (.invokevirtual 131, 3) := by decide +kernel
theorem dX4_flightsThatCouldMoveTo_34 : decode cX4_flightsThatCouldMoveTo 34 = .ok (.ifCond .eq 6, 3) := by decide +kernel
theorem dX4_flightsThatCouldMoveTo_37 : decode cX4_flightsThatCouldMoveTo 37 = .ok (.iinc 2 1, 3) := by decide +kernel
theorem dX4_flightsThatCouldMoveTo_40 : decode cX4_flightsThatCouldMoveTo 40 = .ok (.iinc 3 1, 3) := by decide +kernel
theorem dX4_flightsThatCouldMoveTo_43 : decode cX4_flightsThatCouldMoveTo 43 = .ok (.goto (-39), 3) := by decide +kernel
theorem dX4_flightsThatCouldMoveTo_46 : decode cX4_flightsThatCouldMoveTo 46 = .ok (.iload_n 2, 1) := by decide +kernel
theorem dX4_flightsThatCouldMoveTo_47 : decode cX4_flightsThatCouldMoveTo 47 = .ok (.ireturn, 1) := by decide +kernel
