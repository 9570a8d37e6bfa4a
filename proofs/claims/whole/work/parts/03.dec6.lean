theorem dL_airborne_0 : decode cL_airborne 0 = .ok (.aload_n 0, 1) := by decide +kernel
theorem dL_airborne_1 : decode cL_airborne 1 = .ok (.iload_n 1, 1) := by decide +kernel
theorem dL_airborne_2 : decode cL_airborne 2 = .ok (.invokevirtual 41, 3) := by decide +kernel
theorem dL_airborne_5 : decode cL_airborne 5 = .ok (.goto 9, 3) := by decide +kernel
theorem dL_airborne_8 : decode cL_airborne 8 = .ok (.astore_n 2, 1) := by decide +kernel
theorem dL_airborne_9 : decode cL_airborne 9 = .ok (.iconst 1, 1) := by decide +kernel
theorem dL_airborne_10 : decode cL_airborne 10 = .ok (.ireturn, 1) := by decide +kernel
theorem dL_airborne_11 : decode cL_airborne 11 = .ok (.astore_n 2, 1) := by decide +kernel
theorem dL_airborne_12 : decode cL_airborne 12 = .ok (.iconst 2, 1) := by decide +kernel
theorem dL_airborne_13 : decode cL_airborne 13 = .ok (.ireturn, 1) := by decide +kernel
theorem dL_airborne_14 : decode cL_airborne 14 = .ok (.iconst 0, 1) := by decide +kernel
theorem dL_airborne_15 : decode cL_airborne 15 = .ok (.ireturn, 1) := by decide +kernel
theorem dL_cancel_0 : decode cL_cancel 0 = .ok (.aload_n 2, 1) := by decide +kernel
theorem dL_cancel_1 : decode cL_cancel 1 = .ok (.iconst 0, 1) := by decide +kernel
theorem dL_cancel_2 : decode cL_cancel 2 = .ok (.aload_n 0, 1) := by decide +kernel
theorem dL_cancel_3 : decode cL_cancel 3 = .ok (.iload_n 1, 1) := by decide +kernel
theorem dL_cancel_4 : decode cL_cancel 4 = .ok (.invokevirtual 37, 3) := by decide +kernel
theorem dL_cancel_7 : decode cL_cancel 7 = .ok (.ifCond .eq 7, 3) := by decide +kernel
theorem dL_cancel_10 : decode cL_cancel 10 = .ok (.lconst 1, 1) := by decide +kernel
theorem dL_cancel_11 : decode cL_cancel 11 = .ok (.goto 4, 3) := by decide +kernel
theorem dL_cancel_14 : decode cL_cancel 14 = .ok (.lconst 0, 1) := by decide +kernel
theorem dL_cancel_15 : decode cL_cancel 15 = .ok (.lastore, 1) := by decide +kernel
theorem dL_cancel_16 : decode cL_cancel 16 = .ok (.goto 9, 3) := by decide +kernel
theorem dL_cancel_19 : decode cL_cancel 19 = .ok (.astore_n 3, 1) := by decide +kernel
theorem dL_cancel_20 : decode cL_cancel 20 = .ok (.iconst 1, 1) := by decide +kernel
theorem dL_cancel_21 : decode cL_cancel 21 = .ok (.ireturn, 1) := by decide +kernel
theorem dL_cancel_22 : decode cL_cancel 22 = .ok (.astore_n 3, 1) := by decide +kernel
theorem dL_cancel_23 : decode cL_cancel 23 = .ok (.iconst 2, 1) := by decide +kernel
theorem dL_cancel_24 : decode cL_cancel 24 = .ok (.ireturn, 1) := by decide +kernel
theorem dL_cancel_25 : decode cL_cancel 25 = .ok (.iconst 0, 1) := by decide +kernel
theorem dL_cancel_26 : decode cL_cancel 26 = .ok (.ireturn, 1) := by decide +kernel
theorem dL_delay_0 : decode cL_delay 0 = .ok (.aload_n 2, 1) := by decide +kernel
theorem dL_delay_1 : decode cL_delay 1 = .ok (.iconst 0, 1) := by decide +kernel
theorem dL_delay_2 : decode cL_delay 2 = .ok (.aload_n 0, 1) := by decide +kernel
theorem dL_delay_3 : decode cL_delay 3 = .ok (.iload_n 1, 1) := by decide +kernel
theorem dL_delay_4 : decode cL_delay 4 = .ok (.invokevirtual 55, 3) := by decide +kernel
theorem dL_delay_7 : decode cL_delay 7 = .ok (.i2l, 1) := by decide +kernel
theorem dL_delay_8 : decode cL_delay 8 = .ok (.lastore, 1) := by decide +kernel
theorem dL_delay_9 : decode cL_delay 9 = .ok (.goto 6, 3) := by decide +kernel
theorem dL_delay_12 : decode cL_delay 12 = .ok (.astore_n 3, 1) := by decide +kernel
theorem dL_delay_13 : decode cL_delay 13 = .ok (.iconst 1, 1) := by decide +kernel
theorem dL_delay_14 : decode cL_delay 14 = .ok (.ireturn, 1) := by decide +kernel
theorem dL_delay_15 : decode cL_delay 15 = .ok (.iconst 0, 1) := by decide +kernel
theorem dL_delay_16 : decode cL_delay 16 = .ok (.ireturn, 1) := by decide +kernel
theorem dL_drop_0 : decode cL_drop 0 = .ok (.aload_n 2, 1) := by decide +kernel
theorem dL_drop_1 : decode cL_drop 1 = .ok (.iconst 0, 1) := by decide +kernel
theorem dL_drop_2 : decode cL_drop 2 = .ok (.aload_n 0, 1) := by decide +kernel
theorem dL_drop_3 : decode cL_drop 3 = .ok (.iload_n 1, 1) := by decide +kernel
theorem dL_drop_4 : decode cL_drop 4 = .ok (.invokevirtual 52, 3) := by decide +kernel
theorem dL_drop_7 : decode cL_drop 7 = .ok (.ifCond .eq 7, 3) := by decide +kernel
theorem dL_drop_10 : decode cL_drop 10 = .ok (.lconst 1, 1) := by decide +kernel
theorem dL_drop_11 : decode cL_drop 11 = .ok (.goto 4, 3) := by decide +kernel
theorem dL_drop_14 : decode cL_drop 14 = .ok (.lconst 0, 1) := by decide +kernel
theorem dL_drop_15 : decode cL_drop 15 = .ok (.lastore, 1) := by decide +kernel
theorem dL_drop_16 : decode cL_drop 16 = .ok (.goto 6, 3) := by decide +kernel
theorem dL_drop_19 : decode cL_drop 19 = .ok (.astore_n 3, 1) := by decide +kernel
theorem dL_drop_20 : decode cL_drop 20 = .ok (.iconst 1, 1) := by decide +kernel
theorem dL_drop_21 : decode cL_drop 21 = .ok (.ireturn, 1) := by decide +kernel
theorem dL_drop_22 : decode cL_drop 22 = .ok (.iconst 0, 1) := by decide +kernel
theorem dL_drop_23 : decode cL_drop 23 = .ok (.ireturn, 1) := by decide +kernel
theorem dL_entry_0 : decode cL_entry 0 = .ok (.aload_n 3, 1) := by decide +kernel
theorem dL_entry_1 : decode cL_entry 1 = .ok (.iconst 0, 1) := by decide +kernel
theorem dL_entry_2 : decode cL_entry 2 = .ok (.aload_n 0, 1) := by decide +kernel
theorem dL_entry_3 : decode cL_entry 3 = .ok (.iload_n 1, 1) := by decide +kernel
theorem dL_entry_4 : decode cL_entry 4 = .ok (.iload_n 2, 1) := by decide +kernel
theorem dL_entry_5 : decode cL_entry 5 = .ok (.invokevirtual 61, 3) := by decide +kernel
theorem dL_entry_8 : decode cL_entry 8 = .ok (.i2l, 1) := by decide +kernel
theorem dL_entry_9 : decode cL_entry 9 = .ok (.lastore, 1) := by decide +kernel
theorem dL_entry_10 : decode cL_entry 10 = .ok (.goto 11, 3) := by decide +kernel
theorem dL_entry_13 : decode cL_entry 13 = .ok (.astore 4, 2) := by decide +kernel
theorem dL_entry_15 : decode cL_entry 15 = .ok (.iconst 1, 1) := by decide +kernel
theorem dL_entry_16 : decode cL_entry 16 = .ok (.ireturn, 1) := by decide +kernel
theorem dL_entry_17 : decode cL_entry 17 = .ok (.astore 4, 2) := by decide +kernel
theorem dL_entry_19 : decode cL_entry 19 = .ok (.iconst 2, 1) := by decide +kernel
theorem dL_entry_20 : decode cL_entry 20 = .ok (.ireturn, 1) := by decide +kernel
theorem dL_entry_21 : decode cL_entry 21 = .ok (.iconst 0, 1) := by decide +kernel
theorem dL_entry_22 : decode cL_entry 22 = .ok (.ireturn, 1) := by decide +kernel
theorem dL_flight_0 : decode cL_flight 0 = .ok (.aload 4, 2) := by decide +kernel
theorem dL_flight_2 : decode cL_flight 2 = .ok (.iconst 0, 1) := by decide +kernel
theorem dL_flight_3 : decode cL_flight 3 = .ok (.aload_n 0, 1) := by decide +kernel
theorem dL_flight_4 : decode cL_flight 4 = .ok (.iload_n 1, 1) := by decide +kernel
theorem dL_flight_5 : decode cL_flight 5 = .ok (.iload_n 2, 1) := by decide +kernel
theorem dL_flight_6 : decode cL_flight 6 = .ok (.iload_n 3, 1) := by decide +kernel
theorem dL_flight_7 : decode cL_flight 7 = .ok (.invokevirtual 17, 3) := by decide +kernel
theorem dL_flight_10 : decode cL_flight 10 = .ok (.i2l, 1) := by decide +kernel
theorem dL_flight_11 : decode cL_flight 11 = .ok (.lastore, 1) := by decide +kernel
theorem dL_flight_12 : decode cL_flight 12 = .ok (.goto 11, 3) := by decide +kernel
theorem dL_flight_15 : decode cL_flight 15 = .ok (.astore 5, 2) := by decide +kernel
theorem dL_flight_17 : decode cL_flight 17 = .ok (.iconst 1, 1) := by decide +kernel
theorem dL_flight_18 : decode cL_flight 18 = .ok (.ireturn, 1) := by decide +kernel
theorem dL_flight_19 : decode cL_flight 19 = .ok (.astore 5, 2) := by decide +kernel
theorem dL_flight_21 : decode cL_flight 21 = .ok (.iconst 2, 1) := by decide +kernel
theorem dL_flight_22 : decode cL_flight 22 = .ok (.ireturn, 1) := by decide +kernel
theorem dL_flight_23 : decode cL_flight 23 = .ok (.iconst 0, 1) := by decide +kernel
theorem dL_flight_24 : decode cL_flight 24 = .ok (.ireturn, 1) := by decide +kernel
theorem dL_flightIn_0 : decode cL_flightIn 0 = .ok (.aload_n 2, 1) := by decide +kernel
theorem dL_flightIn_1 : decode cL_flightIn 1 = .ok (.iconst 0, 1) := by decide +kernel
theorem dL_flightIn_2 : decode cL_flightIn 2 = .ok (.aload_n 0, 1) := by decide +kernel
theorem dL_flightIn_3 : decode cL_flightIn 3 = .ok (.iload_n 1, 1) := by decide +kernel
theorem dL_flightIn_4 : decode cL_flightIn 4 = .ok (.invokevirtual 30, 3) := by decide +kernel
theorem dL_flightIn_7 : decode cL_flightIn 7 = .ok (.i2l, 1) := by decide +kernel
theorem dL_flightIn_8 : decode cL_flightIn 8 = .ok (.lastore, 1) := by decide +kernel
theorem dL_flightIn_9 : decode cL_flightIn 9 = .ok (.goto 6, 3) := by decide +kernel
theorem dL_flightIn_12 : decode cL_flightIn 12 = .ok (.astore_n 3, 1) := by decide +kernel
theorem dL_flightIn_13 : decode cL_flightIn 13 = .ok (.iconst 1, 1) := by decide +kernel
theorem dL_flightIn_14 : decode cL_flightIn 14 = .ok (.ireturn, 1) := by decide +kernel
theorem dL_flightIn_15 : decode cL_flightIn 15 = .ok (.iconst 0, 1) := by decide +kernel
theorem dL_flightIn_16 : decode cL_flightIn 16 = .ok (.ireturn, 1) := by decide +kernel
theorem dL_later_0 : decode cL_later 0 = .ok (.aload_n 3, 1) := by decide +kernel
theorem dL_later_1 : decode cL_later 1 = .ok (.iconst 0, 1) := by decide +kernel
theorem dL_later_2 : decode cL_later 2 = .ok (.aload_n 0, 1) := by decide +kernel
theorem dL_later_3 : decode cL_later 3 = .ok (.iload_n 1, 1) := by decide +kernel
theorem dL_later_4 : decode cL_later 4 = .ok (.iload_n 2, 1) := by decide +kernel
theorem dL_later_5 : decode cL_later 5 = .ok (.invokevirtual 33, 3) := by decide +kernel
theorem dL_later_8 : decode cL_later 8 = .ok (.ifCond .eq 7, 3) := by decide +kernel
theorem dL_later_11 : decode cL_later 11 = .ok (.lconst 1, 1) := by decide +kernel
theorem dL_later_12 : decode cL_later 12 = .ok (.goto 4, 3) := by decide +kernel
theorem dL_later_15 : decode cL_later 15 = .ok (.lconst 0, 1) := by decide +kernel
theorem dL_later_16 : decode cL_later 16 = .ok (.lastore, 1) := by decide +kernel
theorem dL_later_17 : decode cL_later 17 = .ok (.goto 11, 3) := by decide +kernel
theorem dL_later_20 : decode cL_later 20 = .ok (.astore 4, 2) := by decide +kernel
theorem dL_later_22 : decode cL_later 22 = .ok (.iconst 1, 1) := by decide +kernel
theorem dL_later_23 : decode cL_later 23 = .ok (.ireturn, 1) := by decide +kernel
theorem dL_later_24 : decode cL_later 24 = .ok (.astore 4, 2) := by decide +kernel
theorem dL_later_26 : decode cL_later 26 = .ok (.iconst 2, 1) := by decide +kernel
theorem dL_later_27 : decode cL_later 27 = .ok (.ireturn, 1) := by decide +kernel
theorem dL_later_28 : decode cL_later 28 = .ok (.iconst 0, 1) := by decide +kernel
theorem dL_later_29 : decode cL_later 29 = .ok (.ireturn, 1) := by decide +kernel
theorem dL_offer_0 : decode cL_offer 0 = .ok (.aload 4, 2) := by decide +kernel
theorem dL_offer_2 : decode cL_offer 2 = .ok (.iconst 0, 1) := by decide +kernel
theorem dL_offer_3 : decode cL_offer 3 = .ok (.aload_n 0, 1) := by decide +kernel
theorem dL_offer_4 : decode cL_offer 4 = .ok (.iload_n 1, 1) := by decide +kernel
theorem dL_offer_5 : decode cL_offer 5 = .ok (.iload_n 2, 1) := by decide +kernel
theorem dL_offer_6 : decode cL_offer 6 = .ok (.iload_n 3, 1) := by decide +kernel
theorem dL_offer_7 : decode cL_offer 7 = .ok (.invokevirtual 49, 3) := by decide +kernel
theorem dL_offer_10 : decode cL_offer 10 = .ok (.i2l, 1) := by decide +kernel
theorem dL_offer_11 : decode cL_offer 11 = .ok (.lastore, 1) := by decide +kernel
theorem dL_offer_12 : decode cL_offer 12 = .ok (.goto 15, 3) := by decide +kernel
theorem dL_offer_15 : decode cL_offer 15 = .ok (.astore 5, 2) := by decide +kernel
theorem dL_offer_17 : decode cL_offer 17 = .ok (.iconst 1, 1) := by decide +kernel
theorem dL_offer_18 : decode cL_offer 18 = .ok (.ireturn, 1) := by decide +kernel
theorem dL_offer_19 : decode cL_offer 19 = .ok (.astore 5, 2) := by decide +kernel
theorem dL_offer_21 : decode cL_offer 21 = .ok (.iconst 2, 1) := by decide +kernel
theorem dL_offer_22 : decode cL_offer 22 = .ok (.ireturn, 1) := by decide +kernel
theorem dL_offer_23 : decode cL_offer 23 = .ok (.astore 5, 2) := by decide +kernel
theorem dL_offer_25 : decode cL_offer 25 = .ok (.iconst 3, 1) := by decide +kernel
theorem dL_offer_26 : decode cL_offer 26 = .ok (.ireturn, 1) := by decide +kernel
theorem dL_offer_27 : decode cL_offer 27 = .ok (.iconst 0, 1) := by decide +kernel
theorem dL_offer_28 : decode cL_offer 28 = .ok (.ireturn, 1) := by decide +kernel
theorem dL_owned_0 : decode cL_owned 0 = .ok (.aload_n 2, 1) := by decide +kernel
theorem dL_owned_1 : decode cL_owned 1 = .ok (.iconst 0, 1) := by decide +kernel
theorem dL_owned_2 : decode cL_owned 2 = .ok (.aload_n 0, 1) := by decide +kernel
theorem dL_owned_3 : decode cL_owned 3 = .ok (.iload_n 1, 1) := by decide +kernel
theorem dL_owned_4 : decode cL_owned 4 = .ok (.invokevirtual 58, 3) := by decide +kernel
theorem dL_owned_7 : decode cL_owned 7 = .ok (.i2l, 1) := by decide +kernel
theorem dL_owned_8 : decode cL_owned 8 = .ok (.lastore, 1) := by decide +kernel
theorem dL_owned_9 : decode cL_owned 9 = .ok (.goto 6, 3) := by decide +kernel
theorem dL_owned_12 : decode cL_owned 12 = .ok (.astore_n 3, 1) := by decide +kernel
theorem dL_owned_13 : decode cL_owned 13 = .ok (.iconst 1, 1) := by decide +kernel
theorem dL_owned_14 : decode cL_owned 14 = .ok (.ireturn, 1) := by decide +kernel
theorem dL_owned_15 : decode cL_owned 15 = .ok (.iconst 0, 1) := by decide +kernel
theorem dL_owned_16 : decode cL_owned 16 = .ok (.ireturn, 1) := by decide +kernel
theorem dL_ownerOf_0 : decode cL_ownerOf 0 = .ok (.aload_n 2, 1) := by decide +kernel
theorem dL_ownerOf_1 : decode cL_ownerOf 1 = .ok (.iconst 0, 1) := by decide +kernel
theorem dL_ownerOf_2 : decode cL_ownerOf 2 = .ok (.aload_n 0, 1) := by decide +kernel
theorem dL_ownerOf_3 : decode cL_ownerOf 3 = .ok (.iload_n 1, 1) := by decide +kernel
theorem dL_ownerOf_4 : decode cL_ownerOf 4 = .ok (.invokevirtual 25, 3) := by decide +kernel
theorem dL_ownerOf_7 : decode cL_ownerOf 7 = .ok (.i2l, 1) := by decide +kernel
theorem dL_ownerOf_8 : decode cL_ownerOf 8 = .ok (.lastore, 1) := by decide +kernel
theorem dL_ownerOf_9 : decode cL_ownerOf 9 = .ok (.goto 6, 3) := by decide +kernel
theorem dL_ownerOf_12 : decode cL_ownerOf 12 = .ok (.astore_n 3, 1) := by decide +kernel
theorem dL_ownerOf_13 : decode cL_ownerOf 13 = .ok (.iconst 1, 1) := by decide +kernel
theorem dL_ownerOf_14 : decode cL_ownerOf 14 = .ok (.ireturn, 1) := by decide +kernel
theorem dL_ownerOf_15 : decode cL_ownerOf 15 = .ok (.iconst 0, 1) := by decide +kernel
theorem dL_ownerOf_16 : decode cL_ownerOf 16 = .ok (.ireturn, 1) := by decide +kernel
theorem dL_rate_0 : decode cL_rate 0 = .ok (.aload_n 3, 1) := by decide +kernel
theorem dL_rate_1 : decode cL_rate 1 = .ok (.iconst 0, 1) := by decide +kernel
theorem dL_rate_2 : decode cL_rate 2 = .ok (.aload_n 0, 1) := by decide +kernel
theorem dL_rate_3 : decode cL_rate 3 = .ok (.iload_n 1, 1) := by decide +kernel
theorem dL_rate_4 : decode cL_rate 4 = .ok (.iload_n 2, 1) := by decide +kernel
theorem dL_rate_5 : decode cL_rate 5 = .ok (.invokevirtual 7, 3) := by decide +kernel
theorem dL_rate_8 : decode cL_rate 8 = .ok (.i2l, 1) := by decide +kernel
theorem dL_rate_9 : decode cL_rate 9 = .ok (.lastore, 1) := by decide +kernel
theorem dL_rate_10 : decode cL_rate 10 = .ok (.goto 11, 3) := by decide +kernel
theorem dL_rate_13 : decode cL_rate 13 = .ok (.astore 4, 2) := by decide +kernel
theorem dL_rate_15 : decode cL_rate 15 = .ok (.iconst 1, 1) := by decide +kernel
theorem dL_rate_16 : decode cL_rate 16 = .ok (.ireturn, 1) := by decide +kernel
theorem dL_rate_17 : decode cL_rate 17 = .ok (.astore 4, 2) := by decide +kernel
theorem dL_rate_19 : decode cL_rate 19 = .ok (.iconst 2, 1) := by decide +kernel
theorem dL_rate_20 : decode cL_rate 20 = .ok (.ireturn, 1) := by decide +kernel
theorem dL_rate_21 : decode cL_rate 21 = .ok (.iconst 0, 1) := by decide +kernel
theorem dL_rate_22 : decode cL_rate 22 = .ok (.ireturn, 1) := by decide +kernel
theorem dL_slotOf_0 : decode cL_slotOf 0 = .ok (.aload_n 2, 1) := by decide +kernel
theorem dL_slotOf_1 : decode cL_slotOf 1 = .ok (.iconst 0, 1) := by decide +kernel
theorem dL_slotOf_2 : decode cL_slotOf 2 = .ok (.aload_n 0, 1) := by decide +kernel
theorem dL_slotOf_3 : decode cL_slotOf 3 = .ok (.iload_n 1, 1) := by decide +kernel
theorem dL_slotOf_4 : decode cL_slotOf 4 = .ok (.invokevirtual 21, 3) := by decide +kernel
theorem dL_slotOf_7 : decode cL_slotOf 7 = .ok (.i2l, 1) := by decide +kernel
theorem dL_slotOf_8 : decode cL_slotOf 8 = .ok (.lastore, 1) := by decide +kernel
theorem dL_slotOf_9 : decode cL_slotOf 9 = .ok (.goto 6, 3) := by decide +kernel
theorem dL_slotOf_12 : decode cL_slotOf 12 = .ok (.astore_n 3, 1) := by decide +kernel
theorem dL_slotOf_13 : decode cL_slotOf 13 = .ok (.iconst 1, 1) := by decide +kernel
theorem dL_slotOf_14 : decode cL_slotOf 14 = .ok (.ireturn, 1) := by decide +kernel
theorem dL_slotOf_15 : decode cL_slotOf 15 = .ok (.iconst 0, 1) := by decide +kernel
theorem dL_slotOf_16 : decode cL_slotOf 16 = .ok (.ireturn, 1) := by decide +kernel
theorem dL_swap_0 : decode cL_swap 0 = .ok (.aload_n 0, 1) := by decide +kernel
theorem dL_swap_1 : decode cL_swap 1 = .ok (.iload_n 1, 1) := by decide +kernel
theorem dL_swap_2 : decode cL_swap 2 = .ok (.iload_n 2, 1) := by decide +kernel
theorem dL_swap_3 : decode cL_swap 3 = .ok (.invokevirtual 45, 3) := by decide +kernel
theorem dL_swap_6 : decode cL_swap 6 = .ok (.goto 9, 3) := by decide +kernel
theorem dL_swap_9 : decode cL_swap 9 = .ok (.astore_n 3, 1) := by decide +kernel
theorem dL_swap_10 : decode cL_swap 10 = .ok (.iconst 1, 1) := by decide +kernel
theorem dL_swap_11 : decode cL_swap 11 = .ok (.ireturn, 1) := by decide +kernel
theorem dL_swap_12 : decode cL_swap 12 = .ok (.astore_n 3, 1) := by decide +kernel
theorem dL_swap_13 : decode cL_swap 13 = .ok (.iconst 2, 1) := by decide +kernel
theorem dL_swap_14 : decode cL_swap 14 = .ok (.ireturn, 1) := by decide +kernel
theorem dL_swap_15 : decode cL_swap 15 = .ok (.iconst 0, 1) := by decide +kernel
theorem dL_swap_16 : decode cL_swap 16 = .ok (.ireturn, 1) := by decide +kernel
