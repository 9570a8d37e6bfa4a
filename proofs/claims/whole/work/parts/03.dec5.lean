theorem dX5_isLoose_0 : decode cX5_isLoose 0 = .ok (.aload_n 0, 1) := by decide +kernel
theorem dX5_isLoose_1 : decode cX5_isLoose 1 = .ok (.getfield 32, 3) := by decide +kernel
theorem dX5_isLoose_4 : decode cX5_isLoose 4 = .ok (.iload_n 1, 1) := by decide +kernel
theorem dX5_isLoose_5 : decode cX5_isLoose 5 = .ok (.baload, 1) := by decide +kernel
theorem dX5_isLoose_6 : decode cX5_isLoose 6 = .ok (.ifCond .ne 16, 3) := by decide +kernel
theorem dX5_isLoose_9 : decode cX5_isLoose 9 = .ok (.aload_n 0, 1) := by decide +kernel
theorem dX5_isLoose_10 : decode cX5_isLoose 10 = .ok (.getfield 35, 3) := by decide +kernel
theorem dX5_isLoose_13 : decode cX5_isLoose 13 = .ok (.iload_n 1, 1) := by decide +kernel
theorem dX5_isLoose_14 : decode cX5_isLoose 14 = .ok (.baload, 1) := by decide +kernel
theorem dX5_isLoose_15 : decode cX5_isLoose 15 = .ok (.ifCond .ne 7, 3) := by decide +kernel
theorem dX5_isLoose_18 : decode cX5_isLoose 18 = .ok (.iconst 1, 1) := by decide +kernel
theorem dX5_isLoose_19 : decode cX5_isLoose 19 = .ok (.goto 4, 3) := by decide +kernel
theorem dX5_isLoose_22 : decode cX5_isLoose 22 = .ok (.iconst 0, 1) := by decide +kernel
theorem dX5_isLoose_23 : decode cX5_isLoose 23 = .ok (.ireturn, 1) := by decide +kernel
theorem dX5_isSlot_0 : decode cX5_isSlot 0 = .ok (.iload_n 1, 1) := by decide +kernel
theorem dX5_isSlot_1 : decode cX5_isSlot 1 = .ok (.ifCond .lt 23, 3) := by decide +kernel
theorem dX5_isSlot_4 : decode cX5_isSlot 4 = .ok (.iload_n 1, 1) := by decide +kernel
theorem dX5_isSlot_5 : decode cX5_isSlot 5 = .ok (.sipush 240, 3) := by decide +kernel
theorem dX5_isSlot_8 : decode cX5_isSlot 8 = .ok (.if_icmp .ge 16, 3) := by decide +kernel
theorem dX5_isSlot_11 : decode cX5_isSlot 11 = .ok (.aload_n 0, 1) := by decide +kernel
theorem dX5_isSlot_12 : decode cX5_isSlot 12 = .ok (.getfield 7, 3) := by decide +kernel
theorem dX5_isSlot_15 : decode cX5_isSlot 15 = .ok (.iload_n 1, 1) := by decide +kernel
theorem dX5_isSlot_16 : decode cX5_isSlot 16 = .ok (.baload, 1) := by decide +kernel
theorem dX5_isSlot_17 : decode cX5_isSlot 17 = .ok (.ifCond .eq 7, 3) := by decide +kernel
theorem dX5_isSlot_20 : decode cX5_isSlot 20 = .ok (.iconst 1, 1) := by decide +kernel
theorem dX5_isSlot_21 : decode cX5_isSlot 21 = .ok (.goto 4, 3) := by decide +kernel
theorem dX5_isSlot_24 : decode cX5_isSlot 24 = .ok (.iconst 0, 1) := by decide +kernel
theorem dX5_isSlot_25 : decode cX5_isSlot 25 = .ok (.ireturn, 1) := by decide +kernel
theorem dX5_later_0 : decode cX5_later 0 = .ok (.aload_n 0, 1) := by decide +kernel
theorem dX5_later_1 : decode cX5_later 1 = .ok (.aload_n 0, 1) := by decide +kernel
theorem dX5_later_2 : decode cX5_later 2 = .ok (.iload_n 1, 1) := by decide +kernel
theorem dX5_later_3 : decode cX5_later 3 = .ok (.invokevirtual 91, 3) := by decide +kernel
theorem dX5_later_6 : decode cX5_later 6 = .ok (.ifCond .eq 20, 3) := by decide +kernel
theorem dX5_later_9 : decode cX5_later 9 = .ok (.iload_n 2, 1) := by decide +kernel
theorem dX5_later_10 : decode cX5_later 10 = .ok (.aload_n 0, 1) := by decide +kernel
theorem dX5_later_11 : decode cX5_later 11 = .ok (.getfield 26, 3) := by decide +kernel
theorem dX5_later_14 : decode cX5_later 14 = .ok (.iload_n 1, 1) := by decide +kernel
theorem dX5_later_15 : decode cX5_later 15 = .ok (.iaload, 1) := by decide +kernel
theorem dX5_later_16 : decode cX5_later 16 = .ok (.if_icmp .lt 10, 3) := by decide +kernel
theorem dX5_later_19 : decode cX5_later 19 = .ok (.iload_n 2, 1) := by decide +kernel
theorem dX5_later_20 : decode cX5_later 20 = .ok (.sipush 300, 3) := by decide +kernel
theorem dX5_later_23 : decode cX5_later 23 = .ok (.if_icmp .le 7, 3) := by decide +kernel
theorem dX5_later_26 : decode cX5_later 26 = .ok (.iconst 1, 1) := by decide +kernel
theorem dX5_later_27 : decode cX5_later 27 = .ok (.goto 16, 3) := by decide +kernel
theorem dX5_later_30 : decode cX5_later 30 = .ok (.aload_n 0, 1) := by decide +kernel
theorem dX5_later_31 : decode cX5_later 31 = .ok (.iload_n 1, 1) := by decide +kernel
theorem dX5_later_32 : decode cX5_later 32 = .ok (.invokevirtual 66, 3) := by decide +kernel
theorem dX5_later_35 : decode cX5_later 35 = .ok (.ifCond .ne 7, 3) := by decide +kernel
theorem dX5_later_38 : decode cX5_later 38 = .ok (.iconst 2, 1) := by decide +kernel
theorem dX5_later_39 : decode cX5_later 39 = .ok (.goto 4, 3) := by decide +kernel
theorem dX5_later_42 : decode cX5_later 42 = .ok (.iconst 0, 1) := by decide +kernel
theorem dX5_later_43 : decode cX5_later 43 = .ok (.putfield 56, 3) := by decide +kernel
theorem dX5_later_46 : decode cX5_later 46 = .ok (.aload_n 0, 1) := by decide +kernel
theorem dX5_later_47 : decode cX5_later 47 = .ok (.getfield 56, 3) := by decide +kernel
theorem dX5_later_50 : decode cX5_later 50 = .ok (.ifCond .le 5, 3) := by decide +kernel
theorem dX5_later_53 : decode cX5_later 53 = .ok (.iconst 0, 1) := by decide +kernel
theorem dX5_later_54 : decode cX5_later 54 = .ok (.ireturn, 1) := by decide +kernel
theorem dX5_later_55 : decode cX5_later 55 = .ok (.aload_n 0, 1) := by decide +kernel
theorem dX5_later_56 : decode cX5_later 56 = .ok (.getfield 26, 3) := by decide +kernel
theorem dX5_later_59 : decode cX5_later 59 = .ok (.iload_n 1, 1) := by decide +kernel
theorem dX5_later_60 : decode cX5_later 60 = .ok (.iload_n 2, 1) := by decide +kernel
theorem dX5_later_61 : decode cX5_later 61 = .ok (.iastore, 1) := by decide +kernel
theorem dX5_later_62 : decode cX5_later 62 = .ok (.aload_n 0, 1) := by decide +kernel
theorem dX5_later_63 : decode cX5_later 63 = .ok (.getfield 29, 3) := by decide +kernel
theorem dX5_later_66 : decode cX5_later 66 = .ok (.iload_n 1, 1) := by decide +kernel
theorem dX5_later_67 : decode cX5_later 67 = .ok (.iaload, 1) := by decide +kernel
theorem dX5_later_68 : decode cX5_later 68 = .ok (.istore_n 3, 1) := by decide +kernel
theorem dX5_later_69 : decode cX5_later 69 = .ok (.iload_n 3, 1) := by decide +kernel
theorem dX5_later_70 : decode cX5_later 70 = .ok (.ifCond .lt 8, 3) := by decide +kernel
theorem dX5_later_73 : decode cX5_later 73 = .ok (.iload_n 3, 1) := by decide +kernel
theorem dX5_later_74 : decode cX5_later 74 = .ok (.iload_n 2, 1) := by decide +kernel
theorem dX5_later_75 : decode cX5_later 75 = .ok (.if_icmp .lt 5, 3) := by decide +kernel
theorem dX5_later_78 : decode cX5_later 78 = .ok (.iconst 0, 1) := by decide +kernel
theorem dX5_later_79 : decode cX5_later 79 = .ok (.ireturn, 1) := by decide +kernel
theorem dX5_later_80 : decode cX5_later 80 = .ok (.aload_n 0, 1) := by decide +kernel
theorem dX5_later_81 : decode cX5_later 81 = .ok (.iload_n 3, 1) := by decide +kernel
theorem dX5_later_82 : decode cX5_later 82 = .ok (.invokevirtual 73, 3) := by decide +kernel
theorem dX5_later_85 : decode cX5_later 85 = .ok (.aload_n 0, 1) := by decide +kernel
theorem dX5_later_86 : decode cX5_later 86 = .ok (.iconst 4, 1) := by decide +kernel
theorem dX5_later_87 : decode cX5_later 87 = .ok (.iload_n 1, 1) := by decide +kernel
theorem dX5_later_88 : decode cX5_later 88 = .ok (.iload_n 3, 1) := by decide +kernel
theorem dX5_later_89 : decode cX5_later 89 = .ok (.iconst (-1), 1) := by decide +kernel
theorem dX5_later_90 : decode cX5_later 90 = .ok (.invokevirtual 97, 3) := by decide +kernel
theorem dX5_later_93 : decode cX5_later 93 = .ok (.iconst 1, 1) := by decide +kernel
theorem dX5_later_94 : decode cX5_later 94 = .ok (.ireturn, 1) := by decide +kernel
theorem dX5_log_0 : decode cX5_log 0 = .ok (.aload_n 0, 1) := by decide +kernel
theorem dX5_log_1 : decode cX5_log 1 = .ok (.iconst 0, 1) := by decide +kernel
theorem dX5_log_2 : decode cX5_log 2 = .ok (.putfield 56, 3) := by decide +kernel
theorem dX5_log_5 : decode cX5_log 5 = .ok (.aload_n 0, 1) := by decide +kernel
theorem dX5_log_6 : decode cX5_log 6 = .ok (.getfield 63, 3) := by decide +kernel
theorem dX5_log_9 : decode cX5_log 9 = .ok (.ireturn, 1) := by decide +kernel
theorem dX5_moves_0 : decode cX5_moves 0 = .ok (.iconst 0, 1) := by decide +kernel
theorem dX5_moves_1 : decode cX5_moves 1 = .ok (.istore_n 1, 1) := by decide +kernel
theorem dX5_moves_2 : decode cX5_moves 2 = .ok (.iload_n 1, 1) := by decide +kernel
theorem dX5_moves_3 : decode cX5_moves 3 = .ok (.sipush 240, 3) := by decide +kernel
theorem dX5_moves_6 : decode cX5_moves 6 = .ok (.if_icmp .ge 141, 3) := by decide +kernel
theorem dX5_moves_9 : decode cX5_moves 9 = .ok (.aload_n 0, 1) := by decide +kernel
theorem dX5_moves_10 : decode cX5_moves 10 = .ok (.getfield 7, 3) := by decide +kernel
theorem dX5_moves_13 : decode cX5_moves 13 = .ok (.iload_n 1, 1) := by decide +kernel
theorem dX5_moves_14 : decode cX5_moves 14 = .ok (.baload, 1) := by decide +kernel
theorem dX5_moves_15 : decode cX5_moves 15 = .ok (.ifCond .eq 27, 3) := by decide +kernel
theorem dX5_moves_18 : decode cX5_moves 18 = .ok (.aload_n 0, 1) := by decide +kernel
theorem dX5_moves_19 : decode cX5_moves 19 = .ok (.getfield 13, 3) := by decide +kernel
theorem dX5_moves_22 : decode cX5_moves 22 = .ok (.iload_n 1, 1) := by decide +kernel
theorem dX5_moves_23 : decode cX5_moves 23 = .ok (.iaload, 1) := by decide +kernel
theorem dX5_moves_24 : decode cX5_moves 24 = .ok (.iconst (-1), 1) := by decide +kernel
theorem dX5_moves_25 : decode cX5_moves 25 = .ok (.if_icmp .eq 17, 3) := by decide +kernel
theorem dX5_moves_28 : decode cX5_moves 28 = .ok (.aload_n 0, 1) := by decide +kernel
theorem dX5_moves_29 : decode cX5_moves 29 = .ok (.iload_n 1, 1) := by decide +kernel
theorem dX5_moves_30 : decode cX5_moves 30 = .ok (.aload_n 0, 1) := by decide +kernel
theorem dX5_moves_31 : decode cX5_moves 31 = .ok (.getfield 13, 3) := by decide +kernel
theorem dX5_moves_34 : decode cX5_moves 34 = .ok (.iload_n 1, 1) := by decide +kernel
theorem dX5_moves_35 : decode cX5_moves 35 = .ok (.iaload, 1) := by decide +kernel
theorem dX5_moves_36 : decode cX5_moves 36 = .ok (.invokevirtual 125, 3) := by decide +kernel
theorem dX5_moves_39 : decode cX5_moves 39 = .ok (.goto 4, 3) := by decide +kernel
theorem dX5_moves_42 : decode cX5_moves 42 = .ok (.iconst (-1), 1) := by decide +kernel
theorem dX5_moves_43 : decode cX5_moves 43 = .ok (.istore_n 2, 1) := by decide +kernel
theorem dX5_moves_44 : decode cX5_moves 44 = .ok (.iload_n 2, 1) := by decide +kernel
theorem dX5_moves_45 : decode cX5_moves 45 = .ok (.ifCond .ge 12, 3) := by decide +kernel
theorem dX5_moves_48 : decode cX5_moves 48 = .ok (.aload_n 0, 1) := by decide +kernel
theorem dX5_moves_49 : decode cX5_moves 49 = .ok (.iload_n 1, 1) := by decide +kernel
theorem dX5_moves_50 : decode cX5_moves 50 = .ok (.iconst (-1), 1) := by decide +kernel
theorem dX5_moves_51 : decode cX5_moves 51 = .ok (.invokevirtual 125, 3) := by decide +kernel
theorem dX5_moves_54 : decode cX5_moves 54 = .ok (.goto 4, 3) := by decide +kernel
theorem dX5_moves_57 : decode cX5_moves 57 = .ok (.iload_n 2, 1) := by decide +kernel
theorem dX5_moves_58 : decode cX5_moves 58 = .ok (.istore_n 2, 1) := by decide +kernel
theorem dX5_moves_59 : decode cX5_moves 59 = .ok (.iload_n 2, 1) := by decide +kernel
theorem dX5_moves_60 : decode cX5_moves 60 = .ok (.ifCond .lt 81, 3) := by decide +kernel
theorem dX5_moves_63 : decode cX5_moves 63 = .ok (.aload_n 0, 1) := by decide +kernel
theorem dX5_moves_64 : decode cX5_moves 64 = .ok (.getfield 29, 3) := by decide +kernel
theorem dX5_moves_67 : decode cX5_moves 67 = .ok (.iload_n 2, 1) := by decide +kernel
theorem dX5_moves_68 : decode cX5_moves 68 = .ok (.iaload, 1) := by decide +kernel
theorem dX5_moves_69 : decode cX5_moves 69 = .ok (.istore_n 3, 1) := by decide +kernel
theorem dX5_moves_70 : decode cX5_moves 70 = .ok (.aload_n 0, 1) := by decide +kernel
theorem dX5_moves_71 : decode cX5_moves 71 = .ok (.getfield 17, 3) := by decide +kernel
theorem dX5_moves_74 : decode cX5_moves 74 = .ok (.iload_n 3, 1) := by decide +kernel
theorem dX5_moves_75 : decode cX5_moves 75 = .ok (.iconst (-1), 1) := by decide +kernel
theorem dX5_moves_76 : decode cX5_moves 76 = .ok (.iastore, 1) := by decide +kernel
theorem dX5_moves_77 : decode cX5_moves 77 = .ok (.aload_n 0, 1) := by decide +kernel
theorem dX5_moves_78 : decode cX5_moves 78 = .ok (.getfield 13, 3) := by decide +kernel
theorem dX5_moves_81 : decode cX5_moves 81 = .ok (.iload_n 3, 1) := by decide +kernel
theorem dX5_moves_82 : decode cX5_moves 82 = .ok (.aload_n 0, 1) := by decide +kernel
theorem dX5_moves_83 : decode cX5_moves 83 = .ok (.getfield 13, 3) := by decide +kernel
theorem dX5_moves_86 : decode cX5_moves 86 = .ok (.iload_n 1, 1) := by decide +kernel
theorem dX5_moves_87 : decode cX5_moves 87 = .ok (.iaload, 1) := by decide +kernel
theorem dX5_moves_88 : decode cX5_moves 88 = .ok (.aload_n 0, 1) := by decide +kernel
theorem dX5_moves_89 : decode cX5_moves 89 = .ok (.getfield 20, 3) := by decide +kernel
theorem dX5_moves_92 : decode cX5_moves 92 = .ok (.iload_n 2, 1) := by decide +kernel
theorem dX5_moves_93 : decode cX5_moves 93 = .ok (.iaload, 1) := by decide +kernel
theorem dX5_moves_94 : decode cX5_moves 94 = .ok (.if_icmp .ne 12, 3) := by decide +kernel
theorem dX5_moves_97 : decode cX5_moves 97 = .ok (.aload_n 0, 1) := by decide +kernel
theorem dX5_moves_98 : decode cX5_moves 98 = .ok (.getfield 13, 3) := by decide +kernel
theorem dX5_moves_101 : decode cX5_moves 101 = .ok (.iload_n 3, 1) := by decide +kernel
theorem dX5_moves_102 : decode cX5_moves 102 = .ok (.iaload, 1) := by decide +kernel
theorem dX5_moves_103 : decode cX5_moves 103 = .ok (.goto 9, 3) := by decide +kernel
theorem dX5_moves_106 : decode cX5_moves 106 = .ok (.aload_n 0, 1) := by decide +kernel
theorem dX5_moves_107 : decode cX5_moves 107 = .ok (.getfield 13, 3) := by decide +kernel
theorem dX5_moves_110 : decode cX5_moves 110 = .ok (.iload_n 1, 1) := by decide +kernel
theorem dX5_moves_111 : decode cX5_moves 111 = .ok (.iaload, 1) := by decide +kernel
theorem dX5_moves_112 : decode cX5_moves 112 = .ok (.iastore, 1) := by decide +kernel
theorem dX5_moves_113 : decode cX5_moves 113 = .ok (.aload_n 0, 1) := by decide +kernel
theorem dX5_moves_114 : decode cX5_moves 114 = .ok (.getfield 13, 3) := by decide +kernel
theorem dX5_moves_117 : decode cX5_moves 117 = .ok (.iload_n 1, 1) := by decide +kernel
theorem dX5_moves_118 : decode cX5_moves 118 = .ok (.aload_n 0, 1) := by decide +kernel
theorem dX5_moves_119 : decode cX5_moves 119 = .ok (.getfield 20, 3) := by decide +kernel
theorem dX5_moves_122 : decode cX5_moves 122 = .ok (.iload_n 2, 1) := by decide +kernel
theorem dX5_moves_123 : decode cX5_moves 123 = .ok (.iaload, 1) := by decide +kernel
theorem dX5_moves_124 : decode cX5_moves 124 = .ok (.iastore, 1) := by decide +kernel
theorem dX5_moves_125 : decode cX5_moves 125 = .ok (.aload_n 0, 1) := by decide +kernel
theorem dX5_moves_126 : decode cX5_moves 126 = .ok (.iload_n 2, 1) := by decide +kernel
theorem dX5_moves_127 : decode cX5_moves 127 = .ok (.iload_n 1, 1) := by decide +kernel
theorem dX5_moves_128 : decode cX5_moves 128 = .ok (.invokevirtual 101, 3) := by decide +kernel
theorem dX5_moves_131 : decode cX5_moves 131 = .ok (.aload_n 0, 1) := by decide +kernel
theorem dX5_moves_132 : decode cX5_moves 132 = .ok (.iconst 3, 1) := by decide +kernel
theorem dX5_moves_133 : decode cX5_moves 133 = .ok (.iload_n 2, 1) := by decide +kernel
theorem dX5_moves_134 : decode cX5_moves 134 = .ok (.iload_n 3, 1) := by decide +kernel
theorem dX5_moves_135 : decode cX5_moves 135 = .ok (.iload_n 1, 1) := by decide +kernel
theorem dX5_moves_136 : decode cX5_moves 136 = .ok (.invokevirtual 97, 3) := by decide +kernel
theorem dX5_moves_139 : decode cX5_moves 139 = .ok (.iconst 1, 1) := by decide +kernel
theorem dX5_moves_140 : decode cX5_moves 140 = .ok (.ireturn, 1) := by decide +kernel
theorem dX5_moves_141 : decode cX5_moves 141 = .ok (.iinc 1 1, 3) := by decide +kernel
theorem dX5_moves_144 : decode cX5_moves 144 = .ok (.goto (-142), 3) := by decide +kernel
theorem dX5_moves_147 : decode cX5_moves 147 = .ok (.iconst 0, 1) := by decide +kernel
theorem dX5_moves_148 : decode cX5_moves 148 = .ok (.ireturn, 1) := by decide +kernel
theorem dX5_nextFlight_0 : decode cX5_nextFlight 0 = .ok (.iconst (-1), 1) := by decide +kernel
theorem dX5_nextFlight_1 : decode cX5_nextFlight 1 = .ok (.istore_n 1, 1) := by decide +kernel
theorem dX5_nextFlight_2 : decode cX5_nextFlight 2 = .ok (.iconst 0, 1) := by decide +kernel
theorem dX5_nextFlight_3 : decode cX5_nextFlight 3 = .ok (.istore_n 2, 1) := by decide +kernel
theorem dX5_nextFlight_4 : decode cX5_nextFlight 4 = .ok (.iload_n 2, 1) := by decide +kernel
theorem dX5_nextFlight_5 : decode cX5_nextFlight 5 = .ok (.aload_n 0, 1) := by decide +kernel
theorem dX5_nextFlight_6 : decode cX5_nextFlight 6 = .ok (.getfield 60, 3) := by decide +kernel
theorem dX5_nextFlight_9 : decode cX5_nextFlight 9 = .ok (.if_icmp .ge 51, 3) := by decide +kernel
theorem dX5_nextFlight_12 : decode cX5_nextFlight 12 = .ok (.aload_n 0, 1) := by decide +kernel
theorem dX5_nextFlight_13 : decode cX5_nextFlight 13 = .ok (.iload_n 2, 1) := by decide +kernel
theorem dX5_nextFlight_14 : decode cX5_nextFlight 14 = .ok (.invokevirtual 66, 3) := by decide +kernel
theorem dX5_nextFlight_17 : decode cX5_nextFlight 17 = .ok (.ifCond .eq 35, 3) := by decide +kernel
theorem dX5_nextFlight_20 : decode cX5_nextFlight 20 = .ok (.aload_n 0, 1) := by decide +kernel
theorem dX5_nextFlight_21 : decode cX5_nextFlight 21 = .ok (.getfield 38, 3) := by decide +kernel
theorem dX5_nextFlight_24 : decode cX5_nextFlight 24 = .ok (.iload_n 2, 1) := by decide +kernel
theorem dX5_nextFlight_25 : decode cX5_nextFlight 25 = .ok (.baload, 1) := by decide +kernel
theorem dX5_nextFlight_26 : decode cX5_nextFlight 26 = .ok (.ifCond .ne 26, 3) := by decide +kernel
theorem dX5_nextFlight_29 : decode cX5_nextFlight 29 = .ok (.iload_n 1, 1) := by decide +kernel
theorem dX5_nextFlight_30 : decode cX5_nextFlight 30 = .ok (.ifCond .lt 18, 3) := by decide +kernel
theorem dX5_nextFlight_33 : decode cX5_nextFlight 33 = .ok (.aload_n 0, 1) := by decide +kernel
theorem dX5_nextFlight_34 : decode cX5_nextFlight 34 = .ok (.getfield 23, 3) := by decide +kernel
theorem dX5_nextFlight_37 : decode cX5_nextFlight 37 = .ok (.iload_n 2, 1) := by decide +kernel
theorem dX5_nextFlight_38 : decode cX5_nextFlight 38 = .ok (.iaload, 1) := by decide +kernel
theorem dX5_nextFlight_39 : decode cX5_nextFlight 39 = .ok (.aload_n 0, 1) := by decide +kernel
theorem dX5_nextFlight_40 : decode cX5_nextFlight 40 = .ok (.getfield 23, 3) := by decide +kernel
theorem dX5_nextFlight_43 : decode cX5_nextFlight 43 = .ok (.iload_n 1, 1) := by decide +kernel
theorem dX5_nextFlight_44 : decode cX5_nextFlight 44 = .ok (.iaload, 1) := by decide +kernel
theorem dX5_nextFlight_45 : decode cX5_nextFlight 45 = .ok (.if_icmp .ge 7, 3) := by decide +kernel
theorem dX5_nextFlight_48 : decode cX5_nextFlight 48 = .ok (.iload_n 2, 1) := by decide +kernel
theorem dX5_nextFlight_49 : decode cX5_nextFlight 49 = .ok (.goto 4, 3) := by decide +kernel
theorem dX5_nextFlight_52 : decode cX5_nextFlight 52 = .ok (.iload_n 1, 1) := by decide +kernel
theorem dX5_nextFlight_53 : decode cX5_nextFlight 53 = .ok (.istore_n 1, 1) := by decide +kernel
theorem dX5_nextFlight_54 : decode cX5_nextFlight 54 = .ok (.iinc 2 1, 3) := by decide +kernel
theorem dX5_nextFlight_57 : decode cX5_nextFlight 57 = .ok (.goto (-53), 3) := by decide +kernel
theorem dX5_nextFlight_60 : decode cX5_nextFlight 60 = .ok (.iload_n 1, 1) := by decide +kernel
theorem dX5_nextFlight_61 : decode cX5_nextFlight 61 = .ok (.ireturn, 1) := by decide +kernel
theorem dX5_note_0 : decode cX5_note 0 = .ok (.aload_n 0, 1) := by decide +kernel
theorem dX5_note_1 : decode cX5_note 1 = .ok (.getfield 63, 3) := by decide +kernel
theorem dX5_note_4 : decode cX5_note 4 = .ok (.sipush 200, 3) := by decide +kernel
theorem dX5_note_7 : decode cX5_note 7 = .ok (.if_icmp .ge 68, 3) := by decide +kernel
theorem dX5_note_10 : decode cX5_note 10 = .ok (.aload_n 0, 1) := by decide +kernel
theorem dX5_note_11 : decode cX5_note 11 = .ok (.getfield 53, 3) := by decide +kernel
theorem dX5_note_14 : decode cX5_note 14 = .ok (.iconst 4, 1) := by decide +kernel
theorem dX5_note_15 : decode cX5_note 15 = .ok (.aload_n 0, 1) := by decide +kernel
theorem dX5_note_16 : decode cX5_note 16 = .ok (.getfield 63, 3) := by decide +kernel
theorem dX5_note_19 : decode cX5_note 19 = .ok (.imul, 1) := by decide +kernel
theorem dX5_note_20 : decode cX5_note 20 = .ok (.iload_n 1, 1) := by decide +kernel
theorem dX5_note_21 : decode cX5_note 21 = .ok (.iastore, 1) := by decide +kernel
theorem dX5_note_22 : decode cX5_note 22 = .ok (.aload_n 0, 1) := by decide +kernel
theorem dX5_note_23 : decode cX5_note 23 = .ok (.getfield 53, 3) := by decide +kernel
theorem dX5_note_26 : decode cX5_note 26 = .ok (.iconst 4, 1) := by decide +kernel
theorem dX5_note_27 : decode cX5_note 27 = .ok (.aload_n 0, 1) := by decide +kernel
theorem dX5_note_28 : decode cX5_note 28 = .ok (.getfield 63, 3) := by decide +kernel
theorem dX5_note_31 : decode cX5_note 31 = .ok (.imul, 1) := by decide +kernel
theorem dX5_note_32 : decode cX5_note 32 = .ok (.iconst 1, 1) := by decide +kernel
theorem dX5_note_33 : decode cX5_note 33 = .ok (.iadd, 1) := by decide +kernel
theorem dX5_note_34 : decode cX5_note 34 = .ok (.iload_n 2, 1) := by decide +kernel
theorem dX5_note_35 : decode cX5_note 35 = .ok (.iastore, 1) := by decide +kernel
theorem dX5_note_36 : decode cX5_note 36 = .ok (.aload_n 0, 1) := by decide +kernel
theorem dX5_note_37 : decode cX5_note 37 = .ok (.getfield 53, 3) := by decide +kernel
theorem dX5_note_40 : decode cX5_note 40 = .ok (.iconst 4, 1) := by decide +kernel
theorem dX5_note_41 : decode cX5_note 41 = .ok (.aload_n 0, 1) := by decide +kernel
theorem dX5_note_42 : decode cX5_note 42 = .ok (.getfield 63, 3) := by decide +kernel
theorem dX5_note_45 : decode cX5_note 45 = .ok (.imul, 1) := by decide +kernel
theorem dX5_note_46 : decode cX5_note 46 = .ok (.iconst 2, 1) := by decide +kernel
theorem dX5_note_47 : decode cX5_note 47 = .ok (.iadd, 1) := by decide +kernel
theorem dX5_note_48 : decode cX5_note 48 = .ok (.iload_n 3, 1) := by decide +kernel
theorem dX5_note_49 : decode cX5_note 49 = .ok (.iastore, 1) := by decide +kernel
theorem dX5_note_50 : decode cX5_note 50 = .ok (.aload_n 0, 1) := by decide +kernel
theorem dX5_note_51 : decode cX5_note 51 = .ok (.getfield 53, 3) := by decide +kernel
theorem dX5_note_54 : decode cX5_note 54 = .ok (.iconst 4, 1) := by decide +kernel
theorem dX5_note_55 : decode cX5_note 55 = .ok (.aload_n 0, 1) := by decide +kernel
theorem dX5_note_56 : decode cX5_note 56 = .ok (.getfield 63, 3) := by decide +kernel
theorem dX5_note_59 : decode cX5_note 59 = .ok (.imul, 1) := by decide +kernel
theorem dX5_note_60 : decode cX5_note 60 = .ok (.iconst 3, 1) := by decide +kernel
theorem dX5_note_61 : decode cX5_note 61 = .ok (.iadd, 1) := by decide +kernel
theorem dX5_note_62 : decode cX5_note 62 = .ok (.iload 4, 2) := by decide +kernel
theorem dX5_note_64 : decode cX5_note 64 = .ok (.iastore, 1) := by decide +kernel
theorem dX5_note_65 : decode cX5_note 65 = .ok (.aload_n 0, 1) := by decide +kernel
theorem dX5_note_66 : decode cX5_note 66 = .ok (.dup, 1) := by decide +kernel
theorem dX5_note_67 : decode cX5_note 67 = .ok (.getfield 63, 3) := by decide +kernel
theorem dX5_note_70 : decode cX5_note 70 = .ok (.iconst 1, 1) := by decide +kernel
theorem dX5_note_71 : decode cX5_note 71 = .ok (.iadd, 1) := by decide +kernel
theorem dX5_note_72 : decode cX5_note 72 = .ok (.putfield 63, 3) := by decide +kernel
theorem dX5_note_75 : decode cX5_note 75 = .ok (.return_, 1) := by decide +kernel
theorem dX5_offer_0 : decode cX5_offer 0 = .ok (.aload_n 0, 1) := by decide +kernel
theorem dX5_offer_1 : decode cX5_offer 1 = .ok (.iload_n 1, 1) := by decide +kernel
theorem dX5_offer_2 : decode cX5_offer 2 = .ok (.iconst 0, 1) := by decide +kernel
theorem dX5_offer_3 : decode cX5_offer 3 = .ok (.bipush 7, 2) := by decide +kernel
theorem dX5_offer_5 : decode cX5_offer 5 = .ok (.invokestatic 84, 3) := by decide +kernel
theorem dX5_offer_8 : decode cX5_offer 8 = .ok (.ifCond .eq 8, 3) := by decide +kernel
theorem dX5_offer_11 : decode cX5_offer 11 = .ok (.iload_n 2, 1) := by decide +kernel
theorem dX5_offer_12 : decode cX5_offer 12 = .ok (.iload_n 3, 1) := by decide +kernel
theorem dX5_offer_13 : decode cX5_offer 13 = .ok (.if_icmp .ne 7, 3) := by decide +kernel
theorem dX5_offer_16 : decode cX5_offer 16 = .ok (.iconst 1, 1) := by decide +kernel
theorem dX5_offer_17 : decode cX5_offer 17 = .ok (.goto 47, 3) := by decide +kernel
theorem dX5_offer_20 : decode cX5_offer 20 = .ok (.aload_n 0, 1) := by decide +kernel
theorem dX5_offer_21 : decode cX5_offer 21 = .ok (.iload_n 2, 1) := by decide +kernel
theorem dX5_offer_22 : decode cX5_offer 22 = .ok (.invokevirtual 94, 3) := by decide +kernel
theorem dX5_offer_25 : decode cX5_offer 25 = .ok (.ifCond .eq 11, 3) := by decide +kernel
theorem dX5_offer_28 : decode cX5_offer 28 = .ok (.aload_n 0, 1) := by decide +kernel
theorem dX5_offer_29 : decode cX5_offer 29 = .ok (.iload_n 3, 1) := by decide +kernel
theorem dX5_offer_30 : decode cX5_offer 30 = .ok (.invokevirtual 94, 3) := by decide +kernel
theorem dX5_offer_33 : decode cX5_offer 33 = .ok (.ifCond .ne 7, 3) := by decide +kernel
theorem dX5_offer_36 : decode cX5_offer 36 = .ok (.iconst 2, 1) := by decide +kernel
theorem dX5_offer_37 : decode cX5_offer 37 = .ok (.goto 27, 3) := by decide +kernel
theorem dX5_offer_40 : decode cX5_offer 40 = .ok (.aload_n 0, 1) := by decide +kernel
theorem dX5_offer_41 : decode cX5_offer 41 = .ok (.getfield 13, 3) := by decide +kernel
theorem dX5_offer_44 : decode cX5_offer 44 = .ok (.iload_n 2, 1) := by decide +kernel
theorem dX5_offer_45 : decode cX5_offer 45 = .ok (.iaload, 1) := by decide +kernel
theorem dX5_offer_46 : decode cX5_offer 46 = .ok (.iload_n 1, 1) := by decide +kernel
theorem dX5_offer_47 : decode cX5_offer 47 = .ok (.if_icmp .ne 12, 3) := by decide +kernel
theorem dX5_offer_50 : decode cX5_offer 50 = .ok (.aload_n 0, 1) := by decide +kernel
theorem dX5_offer_51 : decode cX5_offer 51 = .ok (.getfield 108, 3) := by decide +kernel
theorem dX5_offer_54 : decode cX5_offer 54 = .ok (.bipush 40, 2) := by decide +kernel
theorem dX5_offer_56 : decode cX5_offer 56 = .ok (.if_icmp .ne 7, 3) := by decide +kernel
theorem dX5_offer_59 : decode cX5_offer 59 = .ok (.iconst 3, 1) := by decide +kernel
theorem dX5_offer_60 : decode cX5_offer 60 = .ok (.goto 4, 3) := by decide +kernel
theorem dX5_offer_63 : decode cX5_offer 63 = .ok (.iconst 0, 1) := by decide +kernel
theorem dX5_offer_64 : decode cX5_offer 64 = .ok (.putfield 56, 3) := by decide +kernel
theorem dX5_offer_67 : decode cX5_offer 67 = .ok (.aload_n 0, 1) := by decide +kernel
theorem dX5_offer_68 : decode cX5_offer 68 = .ok (.getfield 56, 3) := by decide +kernel
theorem dX5_offer_71 : decode cX5_offer 71 = .ok (.ifCond .le 5, 3) := by decide +kernel
theorem dX5_offer_74 : decode cX5_offer 74 = .ok (.iconst 0, 1) := by decide +kernel
theorem dX5_offer_75 : decode cX5_offer 75 = .ok (.ireturn, 1) := by decide +kernel
theorem dX5_offer_76 : decode cX5_offer 76 = .ok (.aload_n 0, 1) := by decide +kernel
theorem dX5_offer_77 : decode cX5_offer 77 = .ok (.getfield 41, 3) := by decide +kernel
theorem dX5_offer_80 : decode cX5_offer 80 = .ok (.aload_n 0, 1) := by decide +kernel
theorem dX5_offer_81 : decode cX5_offer 81 = .ok (.getfield 108, 3) := by decide +kernel
theorem dX5_offer_84 : decode cX5_offer 84 = .ok (.iload_n 1, 1) := by decide +kernel
theorem dX5_offer_85 : decode cX5_offer 85 = .ok (.iastore, 1) := by decide +kernel
theorem dX5_offer_86 : decode cX5_offer 86 = .ok (.aload_n 0, 1) := by decide +kernel
theorem dX5_offer_87 : decode cX5_offer 87 = .ok (.getfield 44, 3) := by decide +kernel
theorem dX5_offer_90 : decode cX5_offer 90 = .ok (.aload_n 0, 1) := by decide +kernel
theorem dX5_offer_91 : decode cX5_offer 91 = .ok (.getfield 108, 3) := by decide +kernel
theorem dX5_offer_94 : decode cX5_offer 94 = .ok (.iload_n 2, 1) := by decide +kernel
theorem dX5_offer_95 : decode cX5_offer 95 = .ok (.iastore, 1) := by decide +kernel
theorem dX5_offer_96 : decode cX5_offer 96 = .ok (.aload_n 0, 1) := by decide +kernel
theorem dX5_offer_97 : decode cX5_offer 97 = .ok (.getfield 47, 3) := by decide +kernel
theorem dX5_offer_100 : decode cX5_offer 100 = .ok (.aload_n 0, 1) := by decide +kernel
theorem dX5_offer_101 : decode cX5_offer 101 = .ok (.getfield 108, 3) := by decide +kernel
theorem dX5_offer_104 : decode cX5_offer 104 = .ok (.iload_n 3, 1) := by decide +kernel
theorem dX5_offer_105 : decode cX5_offer 105 = .ok (.iastore, 1) := by decide +kernel
theorem dX5_offer_106 : decode cX5_offer 106 = .ok (.aload_n 0, 1) := by decide +kernel
theorem dX5_offer_107 : decode cX5_offer 107 = .ok (.getfield 50, 3) := by decide +kernel
theorem dX5_offer_110 : decode cX5_offer 110 = .ok (.aload_n 0, 1) := by decide +kernel
theorem dX5_offer_111 : decode cX5_offer 111 = .ok (.getfield 108, 3) := by decide +kernel
theorem dX5_offer_114 : decode cX5_offer 114 = .ok (.iconst 1, 1) := by decide +kernel
theorem dX5_offer_115 : decode cX5_offer 115 = .ok (.bastore, 1) := by decide +kernel
theorem dX5_offer_116 : decode cX5_offer 116 = .ok (.aload_n 0, 1) := by decide +kernel
theorem dX5_offer_117 : decode cX5_offer 117 = .ok (.dup, 1) := by decide +kernel
theorem dX5_offer_118 : decode cX5_offer 118 = .ok (.getfield 108, 3) := by decide +kernel
theorem dX5_offer_121 : decode cX5_offer 121 = .ok (.iconst 1, 1) := by decide +kernel
theorem dX5_offer_122 : decode cX5_offer 122 = .ok (.iadd, 1) := by decide +kernel
theorem dX5_offer_123 : decode cX5_offer 123 = .ok (.putfield 108, 3) := by decide +kernel
theorem dX5_offer_126 : decode cX5_offer 126 = .ok (.aload_n 0, 1) := by decide +kernel
theorem dX5_offer_127 : decode cX5_offer 127 = .ok (.getfield 108, 3) := by decide +kernel
theorem dX5_offer_130 : decode cX5_offer 130 = .ok (.iconst 1, 1) := by decide +kernel
theorem dX5_offer_131 : decode cX5_offer 131 = .ok (.isub, 1) := by decide +kernel
theorem dX5_offer_132 : decode cX5_offer 132 = .ok (.ireturn, 1) := by decide +kernel
theorem dX5_owned_0 : decode cX5_owned 0 = .ok (.aload_n 0, 1) := by decide +kernel
theorem dX5_owned_1 : decode cX5_owned 1 = .ok (.iload_n 1, 1) := by decide +kernel
theorem dX5_owned_2 : decode cX5_owned 2 = .ok (.iconst (-1), 1) := by decide +kernel
theorem dX5_owned_3 : decode cX5_owned 3 = .ok (.bipush 7, 2) := by decide +kernel
theorem dX5_owned_5 : decode cX5_owned 5 = .ok (.invokestatic 84, 3) := by decide +kernel
theorem dX5_owned_8 : decode cX5_owned 8 = .ok (.ifCond .eq 7, 3) := by decide +kernel
theorem dX5_owned_11 : decode cX5_owned 11 = .ok (.iconst 0, 1) := by decide +kernel
theorem dX5_owned_12 : decode cX5_owned 12 = .ok (.goto 4, 3) := by decide +kernel
theorem dX5_owned_15 : decode cX5_owned 15 = .ok (.iconst 1, 1) := by decide +kernel
theorem dX5_owned_16 : decode cX5_owned 16 = .ok (.putfield 56, 3) := by decide +kernel
theorem dX5_owned_19 : decode cX5_owned 19 = .ok (.iconst 0, 1) := by decide +kernel
theorem dX5_owned_20 : decode cX5_owned 20 = .ok (.istore_n 2, 1) := by decide +kernel
theorem dX5_owned_21 : decode cX5_owned 21 = .ok (.iconst 0, 1) := by decide +kernel
theorem dX5_owned_22 : decode cX5_owned 22 = .ok (.istore_n 3, 1) := by decide +kernel
theorem dX5_owned_23 : decode cX5_owned 23 = .ok (.iload_n 3, 1) := by decide +kernel
theorem dX5_owned_24 : decode cX5_owned 24 = .ok (.sipush 240, 3) := by decide +kernel
theorem dX5_owned_27 : decode cX5_owned 27 = .ok (.if_icmp .ge 43, 3) := by decide +kernel
theorem dX5_owned_30 : decode cX5_owned 30 = .ok (.aload_n 0, 1) := by decide +kernel
theorem dX5_owned_31 : decode cX5_owned 31 = .ok (.getfield 56, 3) := by decide +kernel
theorem dX5_owned_34 : decode cX5_owned 34 = .ok (.ifCond .ne 36, 3) := by decide +kernel
theorem dX5_owned_37 : decode cX5_owned 37 = .ok (.aload_n 0, 1) := by decide +kernel
theorem dX5_owned_38 : decode cX5_owned 38 = .ok (.getfield 7, 3) := by decide +kernel
theorem dX5_owned_41 : decode cX5_owned 41 = .ok (.iload_n 3, 1) := by decide +kernel
theorem dX5_owned_42 : decode cX5_owned 42 = .ok (.baload, 1) := by decide +kernel
theorem dX5_owned_43 : decode cX5_owned 43 = .ok (.ifCond .eq 19, 3) := by decide +kernel
theorem dX5_owned_46 : decode cX5_owned 46 = .ok (.aload_n 0, 1) := by decide +kernel
theorem dX5_owned_47 : decode cX5_owned 47 = .ok (.getfield 13, 3) := by decide +kernel
theorem dX5_owned_50 : decode cX5_owned 50 = .ok (.iload_n 3, 1) := by decide +kernel
theorem dX5_owned_51 : decode cX5_owned 51 = .ok (.iaload, 1) := by decide +kernel
theorem dX5_owned_52 : decode cX5_owned 52 = .ok (.iload_n 1, 1) := by decide +kernel
theorem dX5_owned_53 : decode cX5_owned 53 = .ok (.if_icmp .ne 9, 3) := by decide +kernel
theorem dX5_owned_56 : decode cX5_owned 56 = .ok (.iload_n 2, 1) := by decide +kernel
theorem dX5_owned_57 : decode cX5_owned 57 = .ok (.iconst 1, 1) := by decide +kernel
theorem dX5_owned_58 : decode cX5_owned 58 = .ok (.iadd, 1) := by decide +kernel
theorem dX5_owned_59 : decode cX5_owned 59 = .ok (.goto 4, 3) := by decide +kernel
theorem dX5_owned_62 : decode cX5_owned 62 = .ok (.iload_n 2, 1) := by decide +kernel
theorem dX5_owned_63 : decode cX5_owned 63 = .ok (.istore_n 2, 1) := by decide +kernel
theorem dX5_owned_64 : decode cX5_owned 64 = .ok (.iinc 3 1, 3) := by decide +kernel
theorem dX5_owned_67 : decode cX5_owned 67 = .ok (.goto (-44), 3) := by decide +kernel
theorem dX5_owned_70 : decode cX5_owned 70 = .ok (.iload_n 2, 1) := by decide +kernel
theorem dX5_owned_71 : decode cX5_owned 71 = .ok (.ireturn, 1) := by decide +kernel
theorem dX5_ownerOf_0 : decode cX5_ownerOf 0 = .ok (.aload_n 0, 1) := by decide +kernel
theorem dX5_ownerOf_1 : decode cX5_ownerOf 1 = .ok (.aload_n 0, 1) := by decide +kernel
theorem dX5_ownerOf_2 : decode cX5_ownerOf 2 = .ok (.iload_n 1, 1) := by decide +kernel
theorem dX5_ownerOf_3 : decode cX5_ownerOf 3 = .ok (.invokevirtual 94, 3) := by decide +kernel
theorem dX5_ownerOf_6 : decode cX5_ownerOf 6 = .ok (.ifCond .eq 7, 3) := by decide +kernel
theorem dX5_ownerOf_9 : decode cX5_ownerOf 9 = .ok (.iconst 0, 1) := by decide +kernel
theorem dX5_ownerOf_10 : decode cX5_ownerOf 10 = .ok (.goto 4, 3) := by decide +kernel
theorem dX5_ownerOf_13 : decode cX5_ownerOf 13 = .ok (.iconst 1, 1) := by decide +kernel
theorem dX5_ownerOf_14 : decode cX5_ownerOf 14 = .ok (.putfield 56, 3) := by decide +kernel
theorem dX5_ownerOf_17 : decode cX5_ownerOf 17 = .ok (.aload_n 0, 1) := by decide +kernel
theorem dX5_ownerOf_18 : decode cX5_ownerOf 18 = .ok (.getfield 56, 3) := by decide +kernel
theorem dX5_ownerOf_21 : decode cX5_ownerOf 21 = .ok (.ifCond .le 7, 3) := by decide +kernel
theorem dX5_ownerOf_24 : decode cX5_ownerOf 24 = .ok (.iconst 0, 1) := by decide +kernel
theorem dX5_ownerOf_25 : decode cX5_ownerOf 25 = .ok (.goto 9, 3) := by decide +kernel
theorem dX5_ownerOf_28 : decode cX5_ownerOf 28 = .ok (.aload_n 0, 1) := by decide +kernel
theorem dX5_ownerOf_29 : decode cX5_ownerOf 29 = .ok (.getfield 13, 3) := by decide +kernel
theorem dX5_ownerOf_32 : decode cX5_ownerOf 32 = .ok (.iload_n 1, 1) := by decide +kernel
theorem dX5_ownerOf_33 : decode cX5_ownerOf 33 = .ok (.iaload, 1) := by decide +kernel
theorem dX5_ownerOf_34 : decode cX5_ownerOf 34 = .ok (.ireturn, 1) := by decide +kernel
theorem dX5_partner_0 : decode cX5_partner 0 = .ok (.iconst (-1), 1) := by decide +kernel
theorem dX5_partner_1 : decode cX5_partner 1 = .ok (.istore_n 2, 1) := by decide +kernel
theorem dX5_partner_2 : decode cX5_partner 2 = .ok (.aload_n 0, 1) := by decide +kernel
theorem dX5_partner_3 : decode cX5_partner 3 = .ok (.getfield 108, 3) := by decide +kernel
theorem dX5_partner_6 : decode cX5_partner 6 = .ok (.iconst 1, 1) := by decide +kernel
theorem dX5_partner_7 : decode cX5_partner 7 = .ok (.isub, 1) := by decide +kernel
theorem dX5_partner_8 : decode cX5_partner 8 = .ok (.istore_n 3, 1) := by decide +kernel
theorem dX5_partner_9 : decode cX5_partner 9 = .ok (.iload_n 3, 1) := by decide +kernel
theorem dX5_partner_10 : decode cX5_partner 10 = .ok (.iload_n 1, 1) := by decide +kernel
theorem dX5_partner_11 : decode cX5_partner 11 = .ok (.if_icmp .le 80, 3) := by decide +kernel
theorem dX5_partner_14 : decode cX5_partner 14 = .ok (.aload_n 0, 1) := by decide +kernel
theorem dX5_partner_15 : decode cX5_partner 15 = .ok (.getfield 41, 3) := by decide +kernel
theorem dX5_partner_18 : decode cX5_partner 18 = .ok (.iload_n 3, 1) := by decide +kernel
theorem dX5_partner_19 : decode cX5_partner 19 = .ok (.iaload, 1) := by decide +kernel
theorem dX5_partner_20 : decode cX5_partner 20 = .ok (.aload_n 0, 1) := by decide +kernel
theorem dX5_partner_21 : decode cX5_partner 21 = .ok (.getfield 41, 3) := by decide +kernel
theorem dX5_partner_24 : decode cX5_partner 24 = .ok (.iload_n 1, 1) := by decide +kernel
theorem dX5_partner_25 : decode cX5_partner 25 = .ok (.iaload, 1) := by decide +kernel
theorem dX5_partner_26 : decode cX5_partner 26 = .ok (.if_icmp .eq 37, 3) := by decide +kernel
theorem dX5_partner_29 : decode cX5_partner 29 = .ok (.aload_n 0, 1) := by decide +kernel
theorem dX5_partner_30 : decode cX5_partner 30 = .ok (.getfield 44, 3) := by decide +kernel
theorem dX5_partner_33 : decode cX5_partner 33 = .ok (.iload_n 3, 1) := by decide +kernel
theorem dX5_partner_34 : decode cX5_partner 34 = .ok (.iaload, 1) := by decide +kernel
theorem dX5_partner_35 : decode cX5_partner 35 = .ok (.aload_n 0, 1) := by decide +kernel
theorem dX5_partner_36 : decode cX5_partner 36 = .ok (.getfield 47, 3) := by decide +kernel
theorem dX5_partner_39 : decode cX5_partner 39 = .ok (.iload_n 1, 1) := by decide +kernel
theorem dX5_partner_40 : decode cX5_partner 40 = .ok (.iaload, 1) := by decide +kernel
theorem dX5_partner_41 : decode cX5_partner 41 = .ok (.if_icmp .ne 22, 3) := by decide +kernel
theorem dX5_partner_44 : decode cX5_partner 44 = .ok (.aload_n 0, 1) := by decide +kernel
theorem dX5_partner_45 : decode cX5_partner 45 = .ok (.getfield 47, 3) := by decide +kernel
theorem dX5_partner_48 : decode cX5_partner 48 = .ok (.iload_n 3, 1) := by decide +kernel
theorem dX5_partner_49 : decode cX5_partner 49 = .ok (.iaload, 1) := by decide +kernel
theorem dX5_partner_50 : decode cX5_partner 50 = .ok (.aload_n 0, 1) := by decide +kernel
theorem dX5_partner_51 : decode cX5_partner 51 = .ok (.getfield 44, 3) := by decide +kernel
theorem dX5_partner_54 : decode cX5_partner 54 = .ok (.iload_n 1, 1) := by decide +kernel
theorem dX5_partner_55 : decode cX5_partner 55 = .ok (.iaload, 1) := by decide +kernel
theorem dX5_partner_56 : decode cX5_partner 56 = .ok (.if_icmp .ne 7, 3) := by decide +kernel
theorem dX5_partner_59 : decode cX5_partner 59 = .ok (.iconst 1, 1) := by decide +kernel
theorem dX5_partner_60 : decode cX5_partner 60 = .ok (.goto 4, 3) := by decide +kernel
theorem dX5_partner_63 : decode cX5_partner 63 = .ok (.iconst 0, 1) := by decide +kernel
theorem dX5_partner_64 : decode cX5_partner 64 = .ok (.istore 4, 2) := by decide +kernel
theorem dX5_partner_66 : decode cX5_partner 66 = .ok (.iload 4, 2) := by decide +kernel
theorem dX5_partner_68 : decode cX5_partner 68 = .ok (.ifCond .eq 15, 3) := by decide +kernel
theorem dX5_partner_71 : decode cX5_partner 71 = .ok (.aload_n 0, 1) := by decide +kernel
theorem dX5_partner_72 : decode cX5_partner 72 = .ok (.iload_n 3, 1) := by decide +kernel
theorem dX5_partner_73 : decode cX5_partner 73 = .ok (.invokevirtual 111, 3) := by decide +kernel
theorem dX5_partner_76 : decode cX5_partner 76 = .ok (.ifCond .eq 7, 3) := by decide +kernel
theorem dX5_partner_79 : decode cX5_partner 79 = .ok (.iload_n 3, 1) := by decide +kernel
theorem dX5_partner_80 : decode cX5_partner 80 = .ok (.goto 4, 3) := by decide +kernel
theorem dX5_partner_83 : decode cX5_partner 83 = .ok (.iload_n 2, 1) := by decide +kernel
theorem dX5_partner_84 : decode cX5_partner 84 = .ok (.istore_n 2, 1) := by decide +kernel
theorem dX5_partner_85 : decode cX5_partner 85 = .ok (.iinc 3 (-1), 3) := by decide +kernel
theorem dX5_partner_88 : decode cX5_partner 88 = .ok (.goto (-79), 3) := by decide +kernel
theorem dX5_partner_91 : decode cX5_partner 91 = .ok (.iload_n 2, 1) := by decide +kernel
theorem dX5_partner_92 : decode cX5_partner 92 = .ok (.ireturn, 1) := by decide +kernel
theorem dX5_put_0 : decode cX5_put 0 = .ok (.aload_n 0, 1) := by decide +kernel
theorem dX5_put_1 : decode cX5_put 1 = .ok (.getfield 17, 3) := by decide +kernel
theorem dX5_put_4 : decode cX5_put 4 = .ok (.iload_n 2, 1) := by decide +kernel
theorem dX5_put_5 : decode cX5_put 5 = .ok (.iload_n 1, 1) := by decide +kernel
theorem dX5_put_6 : decode cX5_put 6 = .ok (.iastore, 1) := by decide +kernel
theorem dX5_put_7 : decode cX5_put 7 = .ok (.iload_n 1, 1) := by decide +kernel
theorem dX5_put_8 : decode cX5_put 8 = .ok (.ifCond .lt 10, 3) := by decide +kernel
theorem dX5_put_11 : decode cX5_put 11 = .ok (.aload_n 0, 1) := by decide +kernel
theorem dX5_put_12 : decode cX5_put 12 = .ok (.getfield 29, 3) := by decide +kernel
theorem dX5_put_15 : decode cX5_put 15 = .ok (.iload_n 1, 1) := by decide +kernel
theorem dX5_put_16 : decode cX5_put 16 = .ok (.iload_n 2, 1) := by decide +kernel
theorem dX5_put_17 : decode cX5_put 17 = .ok (.iastore, 1) := by decide +kernel
theorem dX5_put_18 : decode cX5_put 18 = .ok (.return_, 1) := by decide +kernel
theorem dX5_rate_0 : decode cX5_rate 0 = .ok (.aload_n 0, 1) := by decide +kernel
theorem dX5_rate_1 : decode cX5_rate 1 = .ok (.iload_n 1, 1) := by decide +kernel
theorem dX5_rate_2 : decode cX5_rate 2 = .ok (.iconst 0, 1) := by decide +kernel
theorem dX5_rate_3 : decode cX5_rate 3 = .ok (.bipush 15, 2) := by decide +kernel
theorem dX5_rate_5 : decode cX5_rate 5 = .ok (.invokestatic 84, 3) := by decide +kernel
theorem dX5_rate_8 : decode cX5_rate 8 = .ok (.ifCond .eq 17, 3) := by decide +kernel
theorem dX5_rate_11 : decode cX5_rate 11 = .ok (.iload_n 2, 1) := by decide +kernel
theorem dX5_rate_12 : decode cX5_rate 12 = .ok (.iconst 0, 1) := by decide +kernel
theorem dX5_rate_13 : decode cX5_rate 13 = .ok (.bipush 8, 2) := by decide +kernel
theorem dX5_rate_15 : decode cX5_rate 15 = .ok (.invokestatic 84, 3) := by decide +kernel
theorem dX5_rate_18 : decode cX5_rate 18 = .ok (.ifCond .eq 7, 3) := by decide +kernel
theorem dX5_rate_21 : decode cX5_rate 21 = .ok (.iconst 0, 1) := by decide +kernel
theorem dX5_rate_22 : decode cX5_rate 22 = .ok (.goto 4, 3) := by decide +kernel
theorem dX5_rate_25 : decode cX5_rate 25 = .ok (.iconst 1, 1) := by decide +kernel
theorem dX5_rate_26 : decode cX5_rate 26 = .ok (.putfield 56, 3) := by decide +kernel
theorem dX5_rate_29 : decode cX5_rate 29 = .ok (.bipush 15, 2) := by decide +kernel
theorem dX5_rate_31 : decode cX5_rate 31 = .ok (.iload_n 1, 1) := by decide +kernel
theorem dX5_rate_32 : decode cX5_rate 32 = .ok (.imul, 1) := by decide +kernel
theorem dX5_rate_33 : decode cX5_rate 33 = .ok (.istore_n 3, 1) := by decide +kernel
theorem dX5_rate_34 : decode cX5_rate 34 = .ok (.iload_n 3, 1) := by decide +kernel
theorem dX5_rate_35 : decode cX5_rate 35 = .ok (.bipush 15, 2) := by decide +kernel
theorem dX5_rate_37 : decode cX5_rate 37 = .ok (.iload_n 1, 1) := by decide +kernel
theorem dX5_rate_38 : decode cX5_rate 38 = .ok (.imul, 1) := by decide +kernel
theorem dX5_rate_39 : decode cX5_rate 39 = .ok (.bipush 15, 2) := by decide +kernel
theorem dX5_rate_41 : decode cX5_rate 41 = .ok (.iadd, 1) := by decide +kernel
theorem dX5_rate_42 : decode cX5_rate 42 = .ok (.if_icmp .ge 55, 3) := by decide +kernel
theorem dX5_rate_45 : decode cX5_rate 45 = .ok (.aload_n 0, 1) := by decide +kernel
theorem dX5_rate_46 : decode cX5_rate 46 = .ok (.getfield 56, 3) := by decide +kernel
theorem dX5_rate_49 : decode cX5_rate 49 = .ok (.iconst 1, 1) := by decide +kernel
theorem dX5_rate_50 : decode cX5_rate 50 = .ok (.if_icmp .eq 47, 3) := by decide +kernel
theorem dX5_rate_53 : decode cX5_rate 53 = .ok (.aload_n 0, 1) := by decide +kernel
theorem dX5_rate_54 : decode cX5_rate 54 = .ok (.aload_n 0, 1) := by decide +kernel
theorem dX5_rate_55 : decode cX5_rate 55 = .ok (.getfield 7, 3) := by decide +kernel
theorem dX5_rate_58 : decode cX5_rate 58 = .ok (.iload_n 3, 1) := by decide +kernel
theorem dX5_rate_59 : decode cX5_rate 59 = .ok (.baload, 1) := by decide +kernel
theorem dX5_rate_60 : decode cX5_rate 60 = .ok (.ifCond .eq 24, 3) := by decide +kernel
theorem dX5_rate_63 : decode cX5_rate 63 = .ok (.aload_n 0, 1) := by decide +kernel
theorem dX5_rate_64 : decode cX5_rate 64 = .ok (.iload_n 3, 1) := by decide +kernel
theorem dX5_rate_65 : decode cX5_rate 65 = .ok (.invokevirtual 70, 3) := by decide +kernel
theorem dX5_rate_68 : decode cX5_rate 68 = .ok (.ifCond .eq 16, 3) := by decide +kernel
theorem dX5_rate_71 : decode cX5_rate 71 = .ok (.iload_n 1, 1) := by decide +kernel
theorem dX5_rate_72 : decode cX5_rate 72 = .ok (.iload_n 2, 1) := by decide +kernel
theorem dX5_rate_73 : decode cX5_rate 73 = .ok (.iload_n 3, 1) := by decide +kernel
theorem dX5_rate_74 : decode cX5_rate 74 = .ok (.invokestatic 88, 3) := by decide +kernel
theorem dX5_rate_77 : decode cX5_rate 77 = .ok (.ifCond .ne 7, 3) := by decide +kernel
theorem dX5_rate_80 : decode cX5_rate 80 = .ok (.iconst 2, 1) := by decide +kernel
theorem dX5_rate_81 : decode cX5_rate 81 = .ok (.goto 7, 3) := by decide +kernel
theorem dX5_rate_84 : decode cX5_rate 84 = .ok (.aload_n 0, 1) := by decide +kernel
theorem dX5_rate_85 : decode cX5_rate 85 = .ok (.getfield 56, 3) := by decide +kernel
theorem dX5_rate_88 : decode cX5_rate 88 = .ok (.putfield 56, 3) := by decide +kernel
theorem dX5_rate_91 : decode cX5_rate 91 = .ok (.iinc 3 1, 3) := by decide +kernel
theorem dX5_rate_94 : decode cX5_rate 94 = .ok (.goto (-60), 3) := by decide +kernel
theorem dX5_rate_97 : decode cX5_rate 97 = .ok (.aload_n 0, 1) := by decide +kernel
theorem dX5_rate_98 : decode cX5_rate 98 = .ok (.getfield 56, 3) := by decide +kernel
theorem dX5_rate_101 : decode cX5_rate 101 = .ok (.ifCond .le 5, 3) := by decide +kernel
theorem dX5_rate_104 : decode cX5_rate 104 = .ok (.iconst 0, 1) := by decide +kernel
theorem dX5_rate_105 : decode cX5_rate 105 = .ok (.ireturn, 1) := by decide +kernel
theorem dX5_rate_106 : decode cX5_rate 106 = .ok (.bipush 15, 2) := by decide +kernel
theorem dX5_rate_108 : decode cX5_rate 108 = .ok (.iload_n 1, 1) := by decide +kernel
theorem dX5_rate_109 : decode cX5_rate 109 = .ok (.imul, 1) := by decide +kernel
theorem dX5_rate_110 : decode cX5_rate 110 = .ok (.istore_n 3, 1) := by decide +kernel
theorem dX5_rate_111 : decode cX5_rate 111 = .ok (.iload_n 3, 1) := by decide +kernel
theorem dX5_rate_112 : decode cX5_rate 112 = .ok (.bipush 15, 2) := by decide +kernel
theorem dX5_rate_114 : decode cX5_rate 114 = .ok (.iload_n 1, 1) := by decide +kernel
theorem dX5_rate_115 : decode cX5_rate 115 = .ok (.imul, 1) := by decide +kernel
theorem dX5_rate_116 : decode cX5_rate 116 = .ok (.bipush 15, 2) := by decide +kernel
theorem dX5_rate_118 : decode cX5_rate 118 = .ok (.iadd, 1) := by decide +kernel
theorem dX5_rate_119 : decode cX5_rate 119 = .ok (.if_icmp .ge 42, 3) := by decide +kernel
theorem dX5_rate_122 : decode cX5_rate 122 = .ok (.iload_n 1, 1) := by decide +kernel
theorem dX5_rate_123 : decode cX5_rate 123 = .ok (.iload_n 2, 1) := by decide +kernel
theorem dX5_rate_124 : decode cX5_rate 124 = .ok (.iload_n 3, 1) := by decide +kernel
theorem dX5_rate_125 : decode cX5_rate 125 = .ok (.invokestatic 88, 3) := by decide +kernel
theorem dX5_rate_128 : decode cX5_rate 128 = .ok (.istore 4, 2) := by decide +kernel
theorem dX5_rate_130 : decode cX5_rate 130 = .ok (.iload 4, 2) := by decide +kernel
theorem dX5_rate_132 : decode cX5_rate 132 = .ok (.ifCond .ne 15, 3) := by decide +kernel
theorem dX5_rate_135 : decode cX5_rate 135 = .ok (.aload_n 0, 1) := by decide +kernel
theorem dX5_rate_136 : decode cX5_rate 136 = .ok (.iload_n 3, 1) := by decide +kernel
theorem dX5_rate_137 : decode cX5_rate 137 = .ok (.invokevirtual 73, 3) := by decide +kernel
theorem dX5_rate_140 : decode cX5_rate 140 = .ok (.aload_n 0, 1) := by decide +kernel
theorem dX5_rate_141 : decode cX5_rate 141 = .ok (.getfield 13, 3) := by decide +kernel
theorem dX5_rate_144 : decode cX5_rate 144 = .ok (.iload_n 3, 1) := by decide +kernel
theorem dX5_rate_145 : decode cX5_rate 145 = .ok (.iconst (-1), 1) := by decide +kernel
theorem dX5_rate_146 : decode cX5_rate 146 = .ok (.iastore, 1) := by decide +kernel
theorem dX5_rate_147 : decode cX5_rate 147 = .ok (.aload_n 0, 1) := by decide +kernel
theorem dX5_rate_148 : decode cX5_rate 148 = .ok (.getfield 7, 3) := by decide +kernel
theorem dX5_rate_151 : decode cX5_rate 151 = .ok (.iload_n 3, 1) := by decide +kernel
theorem dX5_rate_152 : decode cX5_rate 152 = .ok (.iload 4, 2) := by decide +kernel
theorem dX5_rate_154 : decode cX5_rate 154 = .ok (.bastore, 1) := by decide +kernel
theorem dX5_rate_155 : decode cX5_rate 155 = .ok (.iinc 3 1, 3) := by decide +kernel
theorem dX5_rate_158 : decode cX5_rate 158 = .ok (.goto (-47), 3) := by decide +kernel
theorem dX5_rate_161 : decode cX5_rate 161 = .ok (.aload_n 0, 1) := by decide +kernel
theorem dX5_rate_162 : decode cX5_rate 162 = .ok (.invokevirtual 81, 3) := by decide +kernel
theorem dX5_rate_165 : decode cX5_rate 165 = .ok (.ireturn, 1) := by decide +kernel
theorem dX5_ration_0 : decode cX5_ration 0 = .ok (.aload_n 0, 1) := by decide +kernel
theorem dX5_ration_1 : decode cX5_ration 1 = .ok (.iconst 0, 1) := by decide +kernel
theorem dX5_ration_2 : decode cX5_ration 2 = .ok (.putfield 56, 3) := by decide +kernel
theorem dX5_ration_5 : decode cX5_ration 5 = .ok (.aload_n 0, 1) := by decide +kernel
theorem dX5_ration_6 : decode cX5_ration 6 = .ok (.invokevirtual 81, 3) := by decide +kernel
theorem dX5_ration_9 : decode cX5_ration 9 = .ok (.ireturn, 1) := by decide +kernel
theorem dX5_rationed_0 : decode cX5_rationed 0 = .ok (.aload_n 0, 1) := by decide +kernel
theorem dX5_rationed_1 : decode cX5_rationed 1 = .ok (.iconst 0, 1) := by decide +kernel
theorem dX5_rationed_2 : decode cX5_rationed 2 = .ok (.putfield 63, 3) := by decide +kernel
theorem dX5_rationed_5 : decode cX5_rationed 5 = .ok (.iconst 0, 1) := by decide +kernel
theorem dX5_rationed_6 : decode cX5_rationed 6 = .ok (.istore_n 1, 1) := by decide +kernel
theorem dX5_rationed_7 : decode cX5_rationed 7 = .ok (.iload_n 1, 1) := by decide +kernel
theorem dX5_rationed_8 : decode cX5_rationed 8 = .ok (.sipush 240, 3) := by decide +kernel
theorem dX5_rationed_11 : decode cX5_rationed 11 = .ok (.if_icmp .ge 38, 3) := by decide +kernel
theorem dX5_rationed_14 : decode cX5_rationed 14 = .ok (.aload_n 0, 1) := by decide +kernel
theorem dX5_rationed_15 : decode cX5_rationed 15 = .ok (.getfield 7, 3) := by decide +kernel
theorem dX5_rationed_18 : decode cX5_rationed 18 = .ok (.iload_n 1, 1) := by decide +kernel
theorem dX5_rationed_19 : decode cX5_rationed 19 = .ok (.baload, 1) := by decide +kernel
theorem dX5_rationed_20 : decode cX5_rationed 20 = .ok (.ifCond .eq 23, 3) := by decide +kernel
theorem dX5_rationed_23 : decode cX5_rationed 23 = .ok (.aload_n 0, 1) := by decide +kernel
theorem dX5_rationed_24 : decode cX5_rationed 24 = .ok (.iload_n 1, 1) := by decide +kernel
theorem dX5_rationed_25 : decode cX5_rationed 25 = .ok (.invokevirtual 70, 3) := by decide +kernel
theorem dX5_rationed_28 : decode cX5_rationed 28 = .ok (.ifCond .ne 15, 3) := by decide +kernel
theorem dX5_rationed_31 : decode cX5_rationed 31 = .ok (.aload_n 0, 1) := by decide +kernel
theorem dX5_rationed_32 : decode cX5_rationed 32 = .ok (.iload_n 1, 1) := by decide +kernel
theorem dX5_rationed_33 : decode cX5_rationed 33 = .ok (.invokevirtual 73, 3) := by decide +kernel
theorem dX5_rationed_36 : decode cX5_rationed 36 = .ok (.aload_n 0, 1) := by decide +kernel
theorem dX5_rationed_37 : decode cX5_rationed 37 = .ok (.getfield 13, 3) := by decide +kernel
theorem dX5_rationed_40 : decode cX5_rationed 40 = .ok (.iload_n 1, 1) := by decide +kernel
theorem dX5_rationed_41 : decode cX5_rationed 41 = .ok (.iconst (-1), 1) := by decide +kernel
theorem dX5_rationed_42 : decode cX5_rationed 42 = .ok (.iastore, 1) := by decide +kernel
theorem dX5_rationed_43 : decode cX5_rationed 43 = .ok (.iinc 1 1, 3) := by decide +kernel
theorem dX5_rationed_46 : decode cX5_rationed 46 = .ok (.goto (-39), 3) := by decide +kernel
theorem dX5_rationed_49 : decode cX5_rationed 49 = .ok (.iconst 0, 1) := by decide +kernel
theorem dX5_rationed_50 : decode cX5_rationed 50 = .ok (.istore_n 1, 1) := by decide +kernel
theorem dX5_rationed_51 : decode cX5_rationed 51 = .ok (.iload_n 1, 1) := by decide +kernel
theorem dX5_rationed_52 : decode cX5_rationed 52 = .ok (.aload_n 0, 1) := by decide +kernel
theorem dX5_rationed_53 : decode cX5_rationed 53 = .ok (.getfield 60, 3) := by decide +kernel
theorem dX5_rationed_56 : decode cX5_rationed 56 = .ok (.if_icmp .ge 16, 3) := by decide +kernel
theorem dX5_rationed_59 : decode cX5_rationed 59 = .ok (.aload_n 0, 1) := by decide +kernel
theorem dX5_rationed_60 : decode cX5_rationed 60 = .ok (.getfield 38, 3) := by decide +kernel
theorem dX5_rationed_63 : decode cX5_rationed 63 = .ok (.iload_n 1, 1) := by decide +kernel
theorem dX5_rationed_64 : decode cX5_rationed 64 = .ok (.iconst 0, 1) := by decide +kernel
theorem dX5_rationed_65 : decode cX5_rationed 65 = .ok (.bastore, 1) := by decide +kernel
theorem dX5_rationed_66 : decode cX5_rationed 66 = .ok (.iinc 1 1, 3) := by decide +kernel
theorem dX5_rationed_69 : decode cX5_rationed 69 = .ok (.goto (-18), 3) := by decide +kernel
theorem dX5_rationed_72 : decode cX5_rationed 72 = .ok (.iconst 0, 1) := by decide +kernel
theorem dX5_rationed_73 : decode cX5_rationed 73 = .ok (.istore_n 1, 1) := by decide +kernel
theorem dX5_rationed_74 : decode cX5_rationed 74 = .ok (.aload_n 0, 1) := by decide +kernel
theorem dX5_rationed_75 : decode cX5_rationed 75 = .ok (.invokevirtual 77, 3) := by decide +kernel
theorem dX5_rationed_78 : decode cX5_rationed 78 = .ok (.istore_n 2, 1) := by decide +kernel
theorem dX5_rationed_79 : decode cX5_rationed 79 = .ok (.iload_n 2, 1) := by decide +kernel
theorem dX5_rationed_80 : decode cX5_rationed 80 = .ok (.ifCond .lt 95, 3) := by decide +kernel
theorem dX5_rationed_83 : decode cX5_rationed 83 = .ok (.aload_n 0, 1) := by decide +kernel
theorem dX5_rationed_84 : decode cX5_rationed 84 = .ok (.getfield 38, 3) := by decide +kernel
theorem dX5_rationed_87 : decode cX5_rationed 87 = .ok (.iload_n 2, 1) := by decide +kernel
theorem dX5_rationed_88 : decode cX5_rationed 88 = .ok (.iconst 1, 1) := by decide +kernel
theorem dX5_rationed_89 : decode cX5_rationed 89 = .ok (.bastore, 1) := by decide +kernel
theorem dX5_rationed_90 : decode cX5_rationed 90 = .ok (.aload_n 0, 1) := by decide +kernel
theorem dX5_rationed_91 : decode cX5_rationed 91 = .ok (.getfield 26, 3) := by decide +kernel
theorem dX5_rationed_94 : decode cX5_rationed 94 = .ok (.iload_n 2, 1) := by decide +kernel
theorem dX5_rationed_95 : decode cX5_rationed 95 = .ok (.iaload, 1) := by decide +kernel
theorem dX5_rationed_96 : decode cX5_rationed 96 = .ok (.istore_n 3, 1) := by decide +kernel
theorem dX5_rationed_97 : decode cX5_rationed 97 = .ok (.iload_n 3, 1) := by decide +kernel
theorem dX5_rationed_98 : decode cX5_rationed 98 = .ok (.sipush 240, 3) := by decide +kernel
theorem dX5_rationed_101 : decode cX5_rationed 101 = .ok (.if_icmp .ge 27, 3) := by decide +kernel
theorem dX5_rationed_104 : decode cX5_rationed 104 = .ok (.aload_n 0, 1) := by decide +kernel
theorem dX5_rationed_105 : decode cX5_rationed 105 = .ok (.getfield 7, 3) := by decide +kernel
theorem dX5_rationed_108 : decode cX5_rationed 108 = .ok (.iload_n 3, 1) := by decide +kernel
theorem dX5_rationed_109 : decode cX5_rationed 109 = .ok (.baload, 1) := by decide +kernel
theorem dX5_rationed_110 : decode cX5_rationed 110 = .ok (.ifCond .eq 12, 3) := by decide +kernel
theorem dX5_rationed_113 : decode cX5_rationed 113 = .ok (.aload_n 0, 1) := by decide +kernel
theorem dX5_rationed_114 : decode cX5_rationed 114 = .ok (.getfield 17, 3) := by decide +kernel
theorem dX5_rationed_117 : decode cX5_rationed 117 = .ok (.iload_n 3, 1) := by decide +kernel
theorem dX5_rationed_118 : decode cX5_rationed 118 = .ok (.iaload, 1) := by decide +kernel
theorem dX5_rationed_119 : decode cX5_rationed 119 = .ok (.ifCond .lt 9, 3) := by decide +kernel
theorem dX5_rationed_122 : decode cX5_rationed 122 = .ok (.iinc 3 1, 3) := by decide +kernel
theorem dX5_rationed_125 : decode cX5_rationed 125 = .ok (.goto (-28), 3) := by decide +kernel
theorem dX5_rationed_128 : decode cX5_rationed 128 = .ok (.iload_n 3, 1) := by decide +kernel
theorem dX5_rationed_129 : decode cX5_rationed 129 = .ok (.sipush 240, 3) := by decide +kernel
theorem dX5_rationed_132 : decode cX5_rationed 132 = .ok (.if_icmp .ge 32, 3) := by decide +kernel
theorem dX5_rationed_135 : decode cX5_rationed 135 = .ok (.aload_n 0, 1) := by decide +kernel
theorem dX5_rationed_136 : decode cX5_rationed 136 = .ok (.getfield 17, 3) := by decide +kernel
theorem dX5_rationed_139 : decode cX5_rationed 139 = .ok (.iload_n 3, 1) := by decide +kernel
theorem dX5_rationed_140 : decode cX5_rationed 140 = .ok (.iload_n 2, 1) := by decide +kernel
theorem dX5_rationed_141 : decode cX5_rationed 141 = .ok (.iastore, 1) := by decide +kernel
theorem dX5_rationed_142 : decode cX5_rationed 142 = .ok (.aload_n 0, 1) := by decide +kernel
theorem dX5_rationed_143 : decode cX5_rationed 143 = .ok (.getfield 29, 3) := by decide +kernel
theorem dX5_rationed_146 : decode cX5_rationed 146 = .ok (.iload_n 2, 1) := by decide +kernel
theorem dX5_rationed_147 : decode cX5_rationed 147 = .ok (.iload_n 3, 1) := by decide +kernel
theorem dX5_rationed_148 : decode cX5_rationed 148 = .ok (.iastore, 1) := by decide +kernel
theorem dX5_rationed_149 : decode cX5_rationed 149 = .ok (.aload_n 0, 1) := by decide +kernel
theorem dX5_rationed_150 : decode cX5_rationed 150 = .ok (.getfield 13, 3) := by decide +kernel
theorem dX5_rationed_153 : decode cX5_rationed 153 = .ok (.iload_n 3, 1) := by decide +kernel
theorem dX5_rationed_154 : decode cX5_rationed 154 = .ok (.aload_n 0, 1) := by decide +kernel
theorem dX5_rationed_155 : decode cX5_rationed 155 = .ok (.getfield 20, 3) := by decide +kernel
theorem dX5_rationed_158 : decode cX5_rationed 158 = .ok (.iload_n 2, 1) := by decide +kernel
theorem dX5_rationed_159 : decode cX5_rationed 159 = .ok (.iaload, 1) := by decide +kernel
theorem dX5_rationed_160 : decode cX5_rationed 160 = .ok (.iastore, 1) := by decide +kernel
theorem dX5_rationed_161 : decode cX5_rationed 161 = .ok (.goto 6, 3) := by decide +kernel
theorem dX5_rationed_164 : decode cX5_rationed 164 = .ok (.iinc 1 1, 3) := by decide +kernel
theorem dX5_rationed_167 : decode cX5_rationed 167 = .ok (.aload_n 0, 1) := by decide +kernel
theorem dX5_rationed_168 : decode cX5_rationed 168 = .ok (.invokevirtual 77, 3) := by decide +kernel
theorem dX5_rationed_171 : decode cX5_rationed 171 = .ok (.istore_n 2, 1) := by decide +kernel
theorem dX5_rationed_172 : decode cX5_rationed 172 = .ok (.goto (-93), 3) := by decide +kernel
theorem dX5_rationed_175 : decode cX5_rationed 175 = .ok (.iload_n 1, 1) := by decide +kernel
theorem dX5_rationed_176 : decode cX5_rationed 176 = .ok (.ireturn, 1) := by decide +kernel
theorem dX5_slotOf_0 : decode cX5_slotOf 0 = .ok (.aload_n 0, 1) := by decide +kernel
theorem dX5_slotOf_1 : decode cX5_slotOf 1 = .ok (.aload_n 0, 1) := by decide +kernel
theorem dX5_slotOf_2 : decode cX5_slotOf 2 = .ok (.iload_n 1, 1) := by decide +kernel
theorem dX5_slotOf_3 : decode cX5_slotOf 3 = .ok (.invokevirtual 91, 3) := by decide +kernel
theorem dX5_slotOf_6 : decode cX5_slotOf 6 = .ok (.ifCond .eq 7, 3) := by decide +kernel
theorem dX5_slotOf_9 : decode cX5_slotOf 9 = .ok (.iconst 0, 1) := by decide +kernel
theorem dX5_slotOf_10 : decode cX5_slotOf 10 = .ok (.goto 4, 3) := by decide +kernel
theorem dX5_slotOf_13 : decode cX5_slotOf 13 = .ok (.iconst 1, 1) := by decide +kernel
theorem dX5_slotOf_14 : decode cX5_slotOf 14 = .ok (.putfield 56, 3) := by decide +kernel
theorem dX5_slotOf_17 : decode cX5_slotOf 17 = .ok (.aload_n 0, 1) := by decide +kernel
theorem dX5_slotOf_18 : decode cX5_slotOf 18 = .ok (.getfield 56, 3) := by decide +kernel
theorem dX5_slotOf_21 : decode cX5_slotOf 21 = .ok (.ifCond .le 7, 3) := by decide +kernel
theorem dX5_slotOf_24 : decode cX5_slotOf 24 = .ok (.iconst 0, 1) := by decide +kernel
theorem dX5_slotOf_25 : decode cX5_slotOf 25 = .ok (.goto 9, 3) := by decide +kernel
theorem dX5_slotOf_28 : decode cX5_slotOf 28 = .ok (.aload_n 0, 1) := by decide +kernel
theorem dX5_slotOf_29 : decode cX5_slotOf 29 = .ok (.getfield 29, 3) := by decide +kernel
theorem dX5_slotOf_32 : decode cX5_slotOf 32 = .ok (.iload_n 1, 1) := by decide +kernel
theorem dX5_slotOf_33 : decode cX5_slotOf 33 = .ok (.iaload, 1) := by decide +kernel
theorem dX5_slotOf_34 : decode cX5_slotOf 34 = .ok (.ireturn, 1) := by decide +kernel
theorem dX5_swap_0 : decode cX5_swap 0 = .ok (.aload_n 0, 1) := by decide +kernel
theorem dX5_swap_1 : decode cX5_swap 1 = .ok (.aload_n 0, 1) := by decide +kernel
theorem dX5_swap_2 : decode cX5_swap 2 = .ok (.iload_n 1, 1) := by decide +kernel
theorem dX5_swap_3 : decode cX5_swap 3 = .ok (.invokevirtual 91, 3) := by decide +kernel
theorem dX5_swap_6 : decode cX5_swap 6 = .ok (.ifCond .eq 31, 3) := by decide +kernel
theorem dX5_swap_9 : decode cX5_swap 9 = .ok (.aload_n 0, 1) := by decide +kernel
theorem dX5_swap_10 : decode cX5_swap 10 = .ok (.iload_n 2, 1) := by decide +kernel
theorem dX5_swap_11 : decode cX5_swap 11 = .ok (.invokevirtual 91, 3) := by decide +kernel
theorem dX5_swap_14 : decode cX5_swap 14 = .ok (.ifCond .eq 23, 3) := by decide +kernel
theorem dX5_swap_17 : decode cX5_swap 17 = .ok (.iload_n 1, 1) := by decide +kernel
theorem dX5_swap_18 : decode cX5_swap 18 = .ok (.iload_n 2, 1) := by decide +kernel
theorem dX5_swap_19 : decode cX5_swap 19 = .ok (.if_icmp .eq 18, 3) := by decide +kernel
theorem dX5_swap_22 : decode cX5_swap 22 = .ok (.aload_n 0, 1) := by decide +kernel
theorem dX5_swap_23 : decode cX5_swap 23 = .ok (.getfield 20, 3) := by decide +kernel
theorem dX5_swap_26 : decode cX5_swap 26 = .ok (.iload_n 1, 1) := by decide +kernel
theorem dX5_swap_27 : decode cX5_swap 27 = .ok (.iaload, 1) := by decide +kernel
theorem dX5_swap_28 : decode cX5_swap 28 = .ok (.aload_n 0, 1) := by decide +kernel
theorem dX5_swap_29 : decode cX5_swap 29 = .ok (.getfield 20, 3) := by decide +kernel
theorem dX5_swap_32 : decode cX5_swap 32 = .ok (.iload_n 2, 1) := by decide +kernel
theorem dX5_swap_33 : decode cX5_swap 33 = .ok (.iaload, 1) := by decide +kernel
theorem dX5_swap_34 : decode cX5_swap 34 = .ok (.if_icmp .eq 7, 3) := by decide +kernel
theorem dX5_swap_37 : decode cX5_swap 37 = .ok (.iconst 1, 1) := by decide +kernel
theorem dX5_swap_38 : decode cX5_swap 38 = .ok (.goto 4, 3) := by decide +kernel
theorem dX5_swap_41 : decode cX5_swap 41 = .ok (.iconst 0, 1) := by decide +kernel
theorem dX5_swap_42 : decode cX5_swap 42 = .ok (.putfield 56, 3) := by decide +kernel
theorem dX5_swap_45 : decode cX5_swap 45 = .ok (.aload_n 0, 1) := by decide +kernel
theorem dX5_swap_46 : decode cX5_swap 46 = .ok (.getfield 56, 3) := by decide +kernel
theorem dX5_swap_49 : decode cX5_swap 49 = .ok (.ifCond .ne 74, 3) := by decide +kernel
theorem dX5_swap_52 : decode cX5_swap 52 = .ok (.aload_n 0, 1) := by decide +kernel
theorem dX5_swap_53 : decode cX5_swap 53 = .ok (.getfield 29, 3) := by decide +kernel
theorem dX5_swap_56 : decode cX5_swap 56 = .ok (.iload_n 1, 1) := by decide +kernel
theorem dX5_swap_57 : decode cX5_swap 57 = .ok (.iaload, 1) := by decide +kernel
theorem dX5_swap_58 : decode cX5_swap 58 = .ok (.ifCond .lt 60, 3) := by decide +kernel
theorem dX5_swap_61 : decode cX5_swap 61 = .ok (.aload_n 0, 1) := by decide +kernel
theorem dX5_swap_62 : decode cX5_swap 62 = .ok (.getfield 29, 3) := by decide +kernel
theorem dX5_swap_65 : decode cX5_swap 65 = .ok (.iload_n 2, 1) := by decide +kernel
theorem dX5_swap_66 : decode cX5_swap 66 = .ok (.iaload, 1) := by decide +kernel
theorem dX5_swap_67 : decode cX5_swap 67 = .ok (.ifCond .lt 51, 3) := by decide +kernel
theorem dX5_swap_70 : decode cX5_swap 70 = .ok (.aload_n 0, 1) := by decide +kernel
theorem dX5_swap_71 : decode cX5_swap 71 = .ok (.getfield 35, 3) := by decide +kernel
theorem dX5_swap_74 : decode cX5_swap 74 = .ok (.iload_n 1, 1) := by decide +kernel
theorem dX5_swap_75 : decode cX5_swap 75 = .ok (.baload, 1) := by decide +kernel
theorem dX5_swap_76 : decode cX5_swap 76 = .ok (.ifCond .ne 42, 3) := by decide +kernel
theorem dX5_swap_79 : decode cX5_swap 79 = .ok (.aload_n 0, 1) := by decide +kernel
theorem dX5_swap_80 : decode cX5_swap 80 = .ok (.getfield 35, 3) := by decide +kernel
theorem dX5_swap_83 : decode cX5_swap 83 = .ok (.iload_n 2, 1) := by decide +kernel
theorem dX5_swap_84 : decode cX5_swap 84 = .ok (.baload, 1) := by decide +kernel
theorem dX5_swap_85 : decode cX5_swap 85 = .ok (.ifCond .ne 33, 3) := by decide +kernel
theorem dX5_swap_88 : decode cX5_swap 88 = .ok (.aload_n 0, 1) := by decide +kernel
theorem dX5_swap_89 : decode cX5_swap 89 = .ok (.getfield 29, 3) := by decide +kernel
theorem dX5_swap_92 : decode cX5_swap 92 = .ok (.iload_n 2, 1) := by decide +kernel
theorem dX5_swap_93 : decode cX5_swap 93 = .ok (.iaload, 1) := by decide +kernel
theorem dX5_swap_94 : decode cX5_swap 94 = .ok (.aload_n 0, 1) := by decide +kernel
theorem dX5_swap_95 : decode cX5_swap 95 = .ok (.getfield 26, 3) := by decide +kernel
theorem dX5_swap_98 : decode cX5_swap 98 = .ok (.iload_n 1, 1) := by decide +kernel
theorem dX5_swap_99 : decode cX5_swap 99 = .ok (.iaload, 1) := by decide +kernel
theorem dX5_swap_100 : decode cX5_swap 100 = .ok (.if_icmp .lt 18, 3) := by decide +kernel
theorem dX5_swap_103 : decode cX5_swap 103 = .ok (.aload_n 0, 1) := by decide +kernel
theorem dX5_swap_104 : decode cX5_swap 104 = .ok (.getfield 29, 3) := by decide +kernel
theorem dX5_swap_107 : decode cX5_swap 107 = .ok (.iload_n 1, 1) := by decide +kernel
theorem dX5_swap_108 : decode cX5_swap 108 = .ok (.iaload, 1) := by decide +kernel
theorem dX5_swap_109 : decode cX5_swap 109 = .ok (.aload_n 0, 1) := by decide +kernel
theorem dX5_swap_110 : decode cX5_swap 110 = .ok (.getfield 26, 3) := by decide +kernel
theorem dX5_swap_113 : decode cX5_swap 113 = .ok (.iload_n 2, 1) := by decide +kernel
theorem dX5_swap_114 : decode cX5_swap 114 = .ok (.iaload, 1) := by decide +kernel
theorem dX5_swap_115 : decode cX5_swap 115 = .ok (.if_icmp .ge 8, 3) := by decide +kernel
theorem dX5_swap_118 : decode cX5_swap 118 = .ok (.aload_n 0, 1) := by decide +kernel
theorem dX5_swap_119 : decode cX5_swap 119 = .ok (.iconst 2, 1) := by decide +kernel
theorem dX5_swap_120 : decode cX5_swap 120 = .ok (.putfield 56, 3) := by decide +kernel
theorem dX5_swap_123 : decode cX5_swap 123 = .ok (.aload_n 0, 1) := by decide +kernel
theorem dX5_swap_124 : decode cX5_swap 124 = .ok (.getfield 56, 3) := by decide +kernel
theorem dX5_swap_127 : decode cX5_swap 127 = .ok (.ifCond .le 4, 3) := by decide +kernel
theorem dX5_swap_130 : decode cX5_swap 130 = .ok (.return_, 1) := by decide +kernel
theorem dX5_swap_131 : decode cX5_swap 131 = .ok (.aload_n 0, 1) := by decide +kernel
theorem dX5_swap_132 : decode cX5_swap 132 = .ok (.getfield 29, 3) := by decide +kernel
theorem dX5_swap_135 : decode cX5_swap 135 = .ok (.iload_n 1, 1) := by decide +kernel
theorem dX5_swap_136 : decode cX5_swap 136 = .ok (.iaload, 1) := by decide +kernel
theorem dX5_swap_137 : decode cX5_swap 137 = .ok (.istore_n 3, 1) := by decide +kernel
theorem dX5_swap_138 : decode cX5_swap 138 = .ok (.aload_n 0, 1) := by decide +kernel
theorem dX5_swap_139 : decode cX5_swap 139 = .ok (.aload_n 0, 1) := by decide +kernel
theorem dX5_swap_140 : decode cX5_swap 140 = .ok (.getfield 29, 3) := by decide +kernel
theorem dX5_swap_143 : decode cX5_swap 143 = .ok (.iload_n 1, 1) := by decide +kernel
theorem dX5_swap_144 : decode cX5_swap 144 = .ok (.iaload, 1) := by decide +kernel
theorem dX5_swap_145 : decode cX5_swap 145 = .ok (.aload_n 0, 1) := by decide +kernel
theorem dX5_swap_146 : decode cX5_swap 146 = .ok (.getfield 29, 3) := by decide +kernel
theorem dX5_swap_149 : decode cX5_swap 149 = .ok (.iload_n 2, 1) := by decide +kernel
theorem dX5_swap_150 : decode cX5_swap 150 = .ok (.iaload, 1) := by decide +kernel
theorem dX5_swap_151 : decode cX5_swap 151 = .ok (.invokevirtual 105, 3) := by decide +kernel
theorem dX5_swap_154 : decode cX5_swap 154 = .ok (.aload_n 0, 1) := by decide +kernel
theorem dX5_swap_155 : decode cX5_swap 155 = .ok (.iconst 1, 1) := by decide +kernel
theorem dX5_swap_156 : decode cX5_swap 156 = .ok (.iload_n 1, 1) := by decide +kernel
theorem dX5_swap_157 : decode cX5_swap 157 = .ok (.iload_n 3, 1) := by decide +kernel
theorem dX5_swap_158 : decode cX5_swap 158 = .ok (.aload_n 0, 1) := by decide +kernel
theorem dX5_swap_159 : decode cX5_swap 159 = .ok (.getfield 29, 3) := by decide +kernel
theorem dX5_swap_162 : decode cX5_swap 162 = .ok (.iload_n 1, 1) := by decide +kernel
theorem dX5_swap_163 : decode cX5_swap 163 = .ok (.iaload, 1) := by decide +kernel
theorem dX5_swap_164 : decode cX5_swap 164 = .ok (.invokevirtual 97, 3) := by decide +kernel
theorem dX5_swap_167 : decode cX5_swap 167 = .ok (.return_, 1) := by decide +kernel
theorem dX5_thrown_0 : decode cX5_thrown 0 = .ok (.aload_n 0, 1) := by decide +kernel
theorem dX5_thrown_1 : decode cX5_thrown 1 = .ok (.getfield 56, 3) := by decide +kernel
theorem dX5_thrown_4 : decode cX5_thrown 4 = .ok (.ireturn, 1) := by decide +kernel
theorem dX5_trade_0 : decode cX5_trade 0 = .ok (.aload_n 0, 1) := by decide +kernel
theorem dX5_trade_1 : decode cX5_trade 1 = .ok (.iconst 0, 1) := by decide +kernel
theorem dX5_trade_2 : decode cX5_trade 2 = .ok (.putfield 56, 3) := by decide +kernel
theorem dX5_trade_5 : decode cX5_trade 5 = .ok (.iconst 0, 1) := by decide +kernel
theorem dX5_trade_6 : decode cX5_trade 6 = .ok (.istore_n 1, 1) := by decide +kernel
theorem dX5_trade_7 : decode cX5_trade 7 = .ok (.iconst 0, 1) := by decide +kernel
theorem dX5_trade_8 : decode cX5_trade 8 = .ok (.istore_n 2, 1) := by decide +kernel
theorem dX5_trade_9 : decode cX5_trade 9 = .ok (.iload_n 2, 1) := by decide +kernel
theorem dX5_trade_10 : decode cX5_trade 10 = .ok (.aload_n 0, 1) := by decide +kernel
theorem dX5_trade_11 : decode cX5_trade 11 = .ok (.getfield 108, 3) := by decide +kernel
theorem dX5_trade_14 : decode cX5_trade 14 = .ok (.if_icmp .ge 100, 3) := by decide +kernel
theorem dX5_trade_17 : decode cX5_trade 17 = .ok (.aload_n 0, 1) := by decide +kernel
theorem dX5_trade_18 : decode cX5_trade 18 = .ok (.iload_n 2, 1) := by decide +kernel
theorem dX5_trade_19 : decode cX5_trade 19 = .ok (.invokevirtual 111, 3) := by decide +kernel
theorem dX5_trade_22 : decode cX5_trade 22 = .ok (.ifCond .eq 86, 3) := by decide +kernel
theorem dX5_trade_25 : decode cX5_trade 25 = .ok (.aload_n 0, 1) := by decide +kernel
theorem dX5_trade_26 : decode cX5_trade 26 = .ok (.getfield 13, 3) := by decide +kernel
theorem dX5_trade_29 : decode cX5_trade 29 = .ok (.aload_n 0, 1) := by decide +kernel
theorem dX5_trade_30 : decode cX5_trade 30 = .ok (.getfield 47, 3) := by decide +kernel
theorem dX5_trade_33 : decode cX5_trade 33 = .ok (.iload_n 2, 1) := by decide +kernel
theorem dX5_trade_34 : decode cX5_trade 34 = .ok (.iaload, 1) := by decide +kernel
theorem dX5_trade_35 : decode cX5_trade 35 = .ok (.iaload, 1) := by decide +kernel
theorem dX5_trade_36 : decode cX5_trade 36 = .ok (.iconst (-1), 1) := by decide +kernel
theorem dX5_trade_37 : decode cX5_trade 37 = .ok (.if_icmp .ne 7, 3) := by decide +kernel
theorem dX5_trade_40 : decode cX5_trade 40 = .ok (.iconst 1, 1) := by decide +kernel
theorem dX5_trade_41 : decode cX5_trade 41 = .ok (.goto 4, 3) := by decide +kernel
theorem dX5_trade_44 : decode cX5_trade 44 = .ok (.iconst 0, 1) := by decide +kernel
theorem dX5_trade_45 : decode cX5_trade 45 = .ok (.istore_n 3, 1) := by decide +kernel
theorem dX5_trade_46 : decode cX5_trade 46 = .ok (.iload_n 3, 1) := by decide +kernel
theorem dX5_trade_47 : decode cX5_trade 47 = .ok (.ifCond .eq 7, 3) := by decide +kernel
theorem dX5_trade_50 : decode cX5_trade 50 = .ok (.iconst (-1), 1) := by decide +kernel
theorem dX5_trade_51 : decode cX5_trade 51 = .ok (.goto 8, 3) := by decide +kernel
theorem dX5_trade_54 : decode cX5_trade 54 = .ok (.aload_n 0, 1) := by decide +kernel
theorem dX5_trade_55 : decode cX5_trade 55 = .ok (.iload_n 2, 1) := by decide +kernel
theorem dX5_trade_56 : decode cX5_trade 56 = .ok (.invokevirtual 114, 3) := by decide +kernel
theorem dX5_trade_59 : decode cX5_trade 59 = .ok (.istore 4, 2) := by decide +kernel
theorem dX5_trade_61 : decode cX5_trade 61 = .ok (.iload_n 3, 1) := by decide +kernel
theorem dX5_trade_62 : decode cX5_trade 62 = .ok (.ifCond .ne 8, 3) := by decide +kernel
theorem dX5_trade_65 : decode cX5_trade 65 = .ok (.iload 4, 2) := by decide +kernel
theorem dX5_trade_67 : decode cX5_trade 67 = .ok (.ifCond .lt 41, 3) := by decide +kernel
theorem dX5_trade_70 : decode cX5_trade 70 = .ok (.aload_n 0, 1) := by decide +kernel
theorem dX5_trade_71 : decode cX5_trade 71 = .ok (.iload_n 2, 1) := by decide +kernel
theorem dX5_trade_72 : decode cX5_trade 72 = .ok (.invokevirtual 118, 3) := by decide +kernel
theorem dX5_trade_75 : decode cX5_trade 75 = .ok (.iinc 1 1, 3) := by decide +kernel
theorem dX5_trade_78 : decode cX5_trade 78 = .ok (.iload 4, 2) := by decide +kernel
theorem dX5_trade_80 : decode cX5_trade 80 = .ok (.ifCond .lt 12, 3) := by decide +kernel
theorem dX5_trade_83 : decode cX5_trade 83 = .ok (.aload_n 0, 1) := by decide +kernel
theorem dX5_trade_84 : decode cX5_trade 84 = .ok (.iload 4, 2) := by decide +kernel
theorem dX5_trade_86 : decode cX5_trade 86 = .ok (.invokevirtual 118, 3) := by decide +kernel
theorem dX5_trade_89 : decode cX5_trade 89 = .ok (.iinc 1 1, 3) := by decide +kernel
theorem dX5_trade_92 : decode cX5_trade 92 = .ok (.aload_n 0, 1) := by decide +kernel
theorem dX5_trade_93 : decode cX5_trade 93 = .ok (.aload_n 0, 1) := by decide +kernel
theorem dX5_trade_94 : decode cX5_trade 94 = .ok (.getfield 44, 3) := by decide +kernel
theorem dX5_trade_97 : decode cX5_trade 97 = .ok (.iload_n 2, 1) := by decide +kernel
theorem dX5_trade_98 : decode cX5_trade 98 = .ok (.iaload, 1) := by decide +kernel
theorem dX5_trade_99 : decode cX5_trade 99 = .ok (.aload_n 0, 1) := by decide +kernel
theorem dX5_trade_100 : decode cX5_trade 100 = .ok (.getfield 47, 3) := by decide +kernel
theorem dX5_trade_103 : decode cX5_trade 103 = .ok (.iload_n 2, 1) := by decide +kernel
theorem dX5_trade_104 : decode cX5_trade 104 = .ok (.iaload, 1) := by decide +kernel
theorem dX5_trade_105 : decode cX5_trade 105 = .ok (.invokevirtual 105, 3) := by decide +kernel
theorem dX5_trade_108 : decode cX5_trade 108 = .ok (.iinc 2 1, 3) := by decide +kernel
theorem dX5_trade_111 : decode cX5_trade 111 = .ok (.goto (-102), 3) := by decide +kernel
theorem dX5_trade_114 : decode cX5_trade 114 = .ok (.iload_n 1, 1) := by decide +kernel
theorem dX5_trade_115 : decode cX5_trade 115 = .ok (.ireturn, 1) := by decide +kernel
theorem dX5_within_0 : decode cX5_within 0 = .ok (.iload_n 0, 1) := by decide +kernel
theorem dX5_within_1 : decode cX5_within 1 = .ok (.iload_n 1, 1) := by decide +kernel
theorem dX5_within_2 : decode cX5_within 2 = .ok (.if_icmp .lt 12, 3) := by decide +kernel
theorem dX5_within_5 : decode cX5_within 5 = .ok (.iload_n 0, 1) := by decide +kernel
theorem dX5_within_6 : decode cX5_within 6 = .ok (.iload_n 2, 1) := by decide +kernel
theorem dX5_within_7 : decode cX5_within 7 = .ok (.if_icmp .gt 7, 3) := by decide +kernel
theorem dX5_within_10 : decode cX5_within 10 = .ok (.iconst 1, 1) := by decide +kernel
theorem dX5_within_11 : decode cX5_within 11 = .ok (.goto 4, 3) := by decide +kernel
theorem dX5_within_14 : decode cX5_within 14 = .ok (.iconst 0, 1) := by decide +kernel
theorem dX5_within_15 : decode cX5_within 15 = .ok (.ireturn, 1) := by decide +kernel
