theorem dX6_init_0 : decode cX6_init 0 = .ok (.aload_n 0, 1) := by decide +kernel
theorem dX6_init_1 : decode cX6_init 1 = .ok (.invokespecial 1, 3) := by decide +kernel
theorem dX6_init_4 : decode cX6_init 4 = .ok (.aload_n 0, 1) := by decide +kernel
theorem dX6_init_5 : decode cX6_init 5 = .ok (.sipush 166, 3) := by decide +kernel
theorem dX6_init_8 : decode cX6_init 8 = .ok (.newarray .int, 2) := by decide +kernel
theorem dX6_init_10 : decode cX6_init 10 = .ok (.putfield 7, 3) := by decide +kernel
theorem dX6_init_13 : decode cX6_init 13 = .ok (.aload_n 0, 1) := by decide +kernel
theorem dX6_init_14 : decode cX6_init 14 = .ok (.sipush 166, 3) := by decide +kernel
theorem dX6_init_17 : decode cX6_init 17 = .ok (.newarray .int, 2) := by decide +kernel
theorem dX6_init_19 : decode cX6_init 19 = .ok (.putfield 13, 3) := by decide +kernel
theorem dX6_init_22 : decode cX6_init 22 = .ok (.aload_n 0, 1) := by decide +kernel
theorem dX6_init_23 : decode cX6_init 23 = .ok (.sipush 166, 3) := by decide +kernel
theorem dX6_init_26 : decode cX6_init 26 = .ok (.newarray .int, 2) := by decide +kernel
theorem dX6_init_28 : decode cX6_init 28 = .ok (.putfield 16, 3) := by decide +kernel
theorem dX6_init_31 : decode cX6_init 31 = .ok (.aload_n 0, 1) := by decide +kernel
theorem dX6_init_32 : decode cX6_init 32 = .ok (.sipush 996, 3) := by decide +kernel
theorem dX6_init_35 : decode cX6_init 35 = .ok (.newarray .int, 2) := by decide +kernel
theorem dX6_init_37 : decode cX6_init 37 = .ok (.putfield 19, 3) := by decide +kernel
theorem dX6_init_40 : decode cX6_init 40 = .ok (.aload_n 0, 1) := by decide +kernel
theorem dX6_init_41 : decode cX6_init 41 = .ok (.sipush 332, 3) := by decide +kernel
theorem dX6_init_44 : decode cX6_init 44 = .ok (.newarray .int, 2) := by decide +kernel
theorem dX6_init_46 : decode cX6_init 46 = .ok (.putfield 22, 3) := by decide +kernel
theorem dX6_init_49 : decode cX6_init 49 = .ok (.aload_n 0, 1) := by decide +kernel
theorem dX6_init_50 : decode cX6_init 50 = .ok (.iconst 2, 1) := by decide +kernel
theorem dX6_init_51 : decode cX6_init 51 = .ok (.newarray .boolean, 2) := by decide +kernel
theorem dX6_init_53 : decode cX6_init 53 = .ok (.putfield 25, 3) := by decide +kernel
theorem dX6_init_56 : decode cX6_init 56 = .ok (.aload_n 0, 1) := by decide +kernel
theorem dX6_init_57 : decode cX6_init 57 = .ok (.bipush 9, 2) := by decide +kernel
theorem dX6_init_59 : decode cX6_init 59 = .ok (.newarray .int, 2) := by decide +kernel
theorem dX6_init_61 : decode cX6_init 61 = .ok (.putfield 29, 3) := by decide +kernel
theorem dX6_init_64 : decode cX6_init 64 = .ok (.aload_n 0, 1) := by decide +kernel
theorem dX6_init_65 : decode cX6_init 65 = .ok (.bipush 9, 2) := by decide +kernel
theorem dX6_init_67 : decode cX6_init 67 = .ok (.newarray .int, 2) := by decide +kernel
theorem dX6_init_69 : decode cX6_init 69 = .ok (.putfield 32, 3) := by decide +kernel
theorem dX6_init_72 : decode cX6_init 72 = .ok (.aload_n 0, 1) := by decide +kernel
theorem dX6_init_73 : decode cX6_init 73 = .ok (.bipush 123, 2) := by decide +kernel
theorem dX6_init_75 : decode cX6_init 75 = .ok (.newarray .int, 2) := by decide +kernel
theorem dX6_init_77 : decode cX6_init 77 = .ok (.putfield 35, 3) := by decide +kernel
theorem dX6_init_80 : decode cX6_init 80 = .ok (.aload_n 0, 1) := by decide +kernel
theorem dX6_init_81 : decode cX6_init 81 = .ok (.bipush 80, 2) := by decide +kernel
theorem dX6_init_83 : decode cX6_init 83 = .ok (.newarray .char, 2) := by decide +kernel
theorem dX6_init_85 : decode cX6_init 85 = .ok (.putfield 38, 3) := by decide +kernel
theorem dX6_init_88 : decode cX6_init 88 = .ok (.aload_n 0, 1) := by decide +kernel
theorem dX6_init_89 : decode cX6_init 89 = .ok (.getfield 7, 3) := by decide +kernel
theorem dX6_init_92 : decode cX6_init 92 = .ok (.iconst 0, 1) := by decide +kernel
theorem dX6_init_93 : decode cX6_init 93 = .ok (.iconst 2, 1) := by decide +kernel
theorem dX6_init_94 : decode cX6_init 94 = .ok (.iastore, 1) := by decide +kernel
theorem dX6_init_95 : decode cX6_init 95 = .ok (.aload_n 0, 1) := by decide +kernel
theorem dX6_init_96 : decode cX6_init 96 = .ok (.getfield 7, 3) := by decide +kernel
theorem dX6_init_99 : decode cX6_init 99 = .ok (.iconst 1, 1) := by decide +kernel
theorem dX6_init_100 : decode cX6_init 100 = .ok (.iconst 3, 1) := by decide +kernel
theorem dX6_init_101 : decode cX6_init 101 = .ok (.iastore, 1) := by decide +kernel
theorem dX6_init_102 : decode cX6_init 102 = .ok (.aload_n 0, 1) := by decide +kernel
theorem dX6_init_103 : decode cX6_init 103 = .ok (.getfield 7, 3) := by decide +kernel
theorem dX6_init_106 : decode cX6_init 106 = .ok (.iconst 2, 1) := by decide +kernel
theorem dX6_init_107 : decode cX6_init 107 = .ok (.bipush 9, 2) := by decide +kernel
theorem dX6_init_109 : decode cX6_init 109 = .ok (.iastore, 1) := by decide +kernel
theorem dX6_init_110 : decode cX6_init 110 = .ok (.aload_n 0, 1) := by decide +kernel
theorem dX6_init_111 : decode cX6_init 111 = .ok (.getfield 7, 3) := by decide +kernel
theorem dX6_init_114 : decode cX6_init 114 = .ok (.iconst 3, 1) := by decide +kernel
theorem dX6_init_115 : decode cX6_init 115 = .ok (.iconst 3, 1) := by decide +kernel
theorem dX6_init_116 : decode cX6_init 116 = .ok (.iastore, 1) := by decide +kernel
theorem dX6_init_117 : decode cX6_init 117 = .ok (.return_, 1) := by decide +kernel
theorem dX6_in_0 : decode cX6_in 0 = .ok (.iload_n 0, 1) := by decide +kernel
theorem dX6_in_1 : decode cX6_in 1 = .ok (.iload_n 1, 1) := by decide +kernel
theorem dX6_in_2 : decode cX6_in 2 = .ok (.if_icmp .lt 12, 3) := by decide +kernel
theorem dX6_in_5 : decode cX6_in 5 = .ok (.iload_n 0, 1) := by decide +kernel
theorem dX6_in_6 : decode cX6_in 6 = .ok (.iload_n 2, 1) := by decide +kernel
theorem dX6_in_7 : decode cX6_in 7 = .ok (.if_icmp .gt 7, 3) := by decide +kernel
theorem dX6_in_10 : decode cX6_in 10 = .ok (.iconst 1, 1) := by decide +kernel
theorem dX6_in_11 : decode cX6_in 11 = .ok (.goto 4, 3) := by decide +kernel
theorem dX6_in_14 : decode cX6_in 14 = .ok (.iconst 0, 1) := by decide +kernel
theorem dX6_in_15 : decode cX6_in 15 = .ok (.ireturn, 1) := by decide +kernel
theorem dX6_g_0 : decode cX6_g 0 = .ok (.bipush 13, 2) := by decide +kernel
theorem dX6_g_2 : decode cX6_g 2 = .ok (.bipush 17, 2) := by decide +kernel
theorem dX6_g_4 : decode cX6_g 4 = .ok (.iload_n 0, 1) := by decide +kernel
theorem dX6_g_5 : decode cX6_g 5 = .ok (.imul, 1) := by decide +kernel
theorem dX6_g_6 : decode cX6_g 6 = .ok (.iadd, 1) := by decide +kernel
theorem dX6_g_7 : decode cX6_g 7 = .ok (.ireturn, 1) := by decide +kernel
theorem dX6_isGuest_0 : decode cX6_isGuest 0 = .ok (.iload_n 1, 1) := by decide +kernel
theorem dX6_isGuest_1 : decode cX6_isGuest 1 = .ok (.iconst 0, 1) := by decide +kernel
theorem dX6_isGuest_2 : decode cX6_isGuest 2 = .ok (.bipush 8, 2) := by decide +kernel
theorem dX6_isGuest_4 : decode cX6_isGuest 4 = .ok (.invokestatic 42, 3) := by decide +kernel
theorem dX6_isGuest_7 : decode cX6_isGuest 7 = .ok (.ifCond .eq 20, 3) := by decide +kernel
theorem dX6_isGuest_10 : decode cX6_isGuest 10 = .ok (.aload_n 0, 1) := by decide +kernel
theorem dX6_isGuest_11 : decode cX6_isGuest 11 = .ok (.getfield 7, 3) := by decide +kernel
theorem dX6_isGuest_14 : decode cX6_isGuest 14 = .ok (.iload_n 1, 1) := by decide +kernel
theorem dX6_isGuest_15 : decode cX6_isGuest 15 = .ok (.invokestatic 46, 3) := by decide +kernel
theorem dX6_isGuest_18 : decode cX6_isGuest 18 = .ok (.iaload, 1) := by decide +kernel
theorem dX6_isGuest_19 : decode cX6_isGuest 19 = .ok (.iconst 1, 1) := by decide +kernel
theorem dX6_isGuest_20 : decode cX6_isGuest 20 = .ok (.if_icmp .ne 7, 3) := by decide +kernel
theorem dX6_isGuest_23 : decode cX6_isGuest 23 = .ok (.iconst 1, 1) := by decide +kernel
theorem dX6_isGuest_24 : decode cX6_isGuest 24 = .ok (.goto 4, 3) := by decide +kernel
theorem dX6_isGuest_27 : decode cX6_isGuest 27 = .ok (.iconst 0, 1) := by decide +kernel
theorem dX6_isGuest_28 : decode cX6_isGuest 28 = .ok (.ireturn, 1) := by decide +kernel
theorem dX6_guests_0 : decode cX6_guests 0 = .ok (.iconst 0, 1) := by decide +kernel
theorem dX6_guests_1 : decode cX6_guests 1 = .ok (.istore_n 1, 1) := by decide +kernel
theorem dX6_guests_2 : decode cX6_guests 2 = .ok (.iconst 0, 1) := by decide +kernel
theorem dX6_guests_3 : decode cX6_guests 3 = .ok (.istore_n 2, 1) := by decide +kernel
theorem dX6_guests_4 : decode cX6_guests 4 = .ok (.iload_n 2, 1) := by decide +kernel
theorem dX6_guests_5 : decode cX6_guests 5 = .ok (.bipush 9, 2) := by decide +kernel
theorem dX6_guests_7 : decode cX6_guests 7 = .ok (.if_icmp .ge 21, 3) := by decide +kernel
theorem dX6_guests_10 : decode cX6_guests 10 = .ok (.iload_n 1, 1) := by decide +kernel
theorem dX6_guests_11 : decode cX6_guests 11 = .ok (.aload_n 0, 1) := by decide +kernel
theorem dX6_guests_12 : decode cX6_guests 12 = .ok (.getfield 7, 3) := by decide +kernel
theorem dX6_guests_15 : decode cX6_guests 15 = .ok (.iload_n 2, 1) := by decide +kernel
theorem dX6_guests_16 : decode cX6_guests 16 = .ok (.invokestatic 46, 3) := by decide +kernel
theorem dX6_guests_19 : decode cX6_guests 19 = .ok (.iaload, 1) := by decide +kernel
theorem dX6_guests_20 : decode cX6_guests 20 = .ok (.iadd, 1) := by decide +kernel
theorem dX6_guests_21 : decode cX6_guests 21 = .ok (.istore_n 1, 1) := by decide +kernel
theorem dX6_guests_22 : decode cX6_guests 22 = .ok (.iinc 2 1, 3) := by decide +kernel
theorem dX6_guests_25 : decode cX6_guests 25 = .ok (.goto (-21), 3) := by decide +kernel
theorem dX6_guests_28 : decode cX6_guests 28 = .ok (.iload_n 1, 1) := by decide +kernel
theorem dX6_guests_29 : decode cX6_guests 29 = .ok (.ireturn, 1) := by decide +kernel
theorem dX6_hold_0 : decode cX6_hold 0 = .ok (.iconst 0, 1) := by decide +kernel
theorem dX6_hold_1 : decode cX6_hold 1 = .ok (.istore_n 1, 1) := by decide +kernel
theorem dX6_hold_2 : decode cX6_hold 2 = .ok (.iload_n 1, 1) := by decide +kernel
theorem dX6_hold_3 : decode cX6_hold 3 = .ok (.sipush 166, 3) := by decide +kernel
theorem dX6_hold_6 : decode cX6_hold 6 = .ok (.if_icmp .ge 21, 3) := by decide +kernel
theorem dX6_hold_9 : decode cX6_hold 9 = .ok (.aload_n 0, 1) := by decide +kernel
theorem dX6_hold_10 : decode cX6_hold 10 = .ok (.getfield 13, 3) := by decide +kernel
theorem dX6_hold_13 : decode cX6_hold 13 = .ok (.iload_n 1, 1) := by decide +kernel
theorem dX6_hold_14 : decode cX6_hold 14 = .ok (.aload_n 0, 1) := by decide +kernel
theorem dX6_hold_15 : decode cX6_hold 15 = .ok (.getfield 7, 3) := by decide +kernel
theorem dX6_hold_18 : decode cX6_hold 18 = .ok (.iload_n 1, 1) := by decide +kernel
theorem dX6_hold_19 : decode cX6_hold 19 = .ok (.iaload, 1) := by decide +kernel
theorem dX6_hold_20 : decode cX6_hold 20 = .ok (.iastore, 1) := by decide +kernel
theorem dX6_hold_21 : decode cX6_hold 21 = .ok (.iinc 1 1, 3) := by decide +kernel
theorem dX6_hold_24 : decode cX6_hold 24 = .ok (.goto (-22), 3) := by decide +kernel
theorem dX6_hold_27 : decode cX6_hold 27 = .ok (.return_, 1) := by decide +kernel
theorem dX6_recorded_0 : decode cX6_recorded 0 = .ok (.iload_n 1, 1) := by decide +kernel
theorem dX6_recorded_1 : decode cX6_recorded 1 = .ok (.ifCond .lt 99, 3) := by decide +kernel
theorem dX6_recorded_4 : decode cX6_recorded 4 = .ok (.aload_n 0, 1) := by decide +kernel
theorem dX6_recorded_5 : decode cX6_recorded 5 = .ok (.getfield 50, 3) := by decide +kernel
theorem dX6_recorded_8 : decode cX6_recorded 8 = .ok (.bipush 6, 2) := by decide +kernel
theorem dX6_recorded_10 : decode cX6_recorded 10 = .ok (.if_icmp .ne 44, 3) := by decide +kernel
theorem dX6_recorded_13 : decode cX6_recorded 13 = .ok (.iconst 0, 1) := by decide +kernel
theorem dX6_recorded_14 : decode cX6_recorded 14 = .ok (.istore_n 2, 1) := by decide +kernel
theorem dX6_recorded_15 : decode cX6_recorded 15 = .ok (.iload_n 2, 1) := by decide +kernel
theorem dX6_recorded_16 : decode cX6_recorded 16 = .ok (.sipush 830, 3) := by decide +kernel
theorem dX6_recorded_19 : decode cX6_recorded 19 = .ok (.if_icmp .ge 25, 3) := by decide +kernel
theorem dX6_recorded_22 : decode cX6_recorded 22 = .ok (.aload_n 0, 1) := by decide +kernel
theorem dX6_recorded_23 : decode cX6_recorded 23 = .ok (.getfield 19, 3) := by decide +kernel
theorem dX6_recorded_26 : decode cX6_recorded 26 = .ok (.iload_n 2, 1) := by decide +kernel
theorem dX6_recorded_27 : decode cX6_recorded 27 = .ok (.aload_n 0, 1) := by decide +kernel
theorem dX6_recorded_28 : decode cX6_recorded 28 = .ok (.getfield 19, 3) := by decide +kernel
theorem dX6_recorded_31 : decode cX6_recorded 31 = .ok (.sipush 166, 3) := by decide +kernel
theorem dX6_recorded_34 : decode cX6_recorded 34 = .ok (.iload_n 2, 1) := by decide +kernel
theorem dX6_recorded_35 : decode cX6_recorded 35 = .ok (.iadd, 1) := by decide +kernel
theorem dX6_recorded_36 : decode cX6_recorded 36 = .ok (.iaload, 1) := by decide +kernel
theorem dX6_recorded_37 : decode cX6_recorded 37 = .ok (.iastore, 1) := by decide +kernel
theorem dX6_recorded_38 : decode cX6_recorded 38 = .ok (.iinc 2 1, 3) := by decide +kernel
theorem dX6_recorded_41 : decode cX6_recorded 41 = .ok (.goto (-26), 3) := by decide +kernel
theorem dX6_recorded_44 : decode cX6_recorded 44 = .ok (.aload_n 0, 1) := by decide +kernel
theorem dX6_recorded_45 : decode cX6_recorded 45 = .ok (.dup, 1) := by decide +kernel
theorem dX6_recorded_46 : decode cX6_recorded 46 = .ok (.getfield 50, 3) := by decide +kernel
theorem dX6_recorded_49 : decode cX6_recorded 49 = .ok (.iconst 1, 1) := by decide +kernel
theorem dX6_recorded_50 : decode cX6_recorded 50 = .ok (.isub, 1) := by decide +kernel
theorem dX6_recorded_51 : decode cX6_recorded 51 = .ok (.putfield 50, 3) := by decide +kernel
theorem dX6_recorded_54 : decode cX6_recorded 54 = .ok (.iconst 0, 1) := by decide +kernel
theorem dX6_recorded_55 : decode cX6_recorded 55 = .ok (.istore_n 2, 1) := by decide +kernel
theorem dX6_recorded_56 : decode cX6_recorded 56 = .ok (.iload_n 2, 1) := by decide +kernel
theorem dX6_recorded_57 : decode cX6_recorded 57 = .ok (.sipush 166, 3) := by decide +kernel
theorem dX6_recorded_60 : decode cX6_recorded 60 = .ok (.if_icmp .ge 30, 3) := by decide +kernel
theorem dX6_recorded_63 : decode cX6_recorded 63 = .ok (.aload_n 0, 1) := by decide +kernel
theorem dX6_recorded_64 : decode cX6_recorded 64 = .ok (.getfield 19, 3) := by decide +kernel
theorem dX6_recorded_67 : decode cX6_recorded 67 = .ok (.sipush 166, 3) := by decide +kernel
theorem dX6_recorded_70 : decode cX6_recorded 70 = .ok (.aload_n 0, 1) := by decide +kernel
theorem dX6_recorded_71 : decode cX6_recorded 71 = .ok (.getfield 50, 3) := by decide +kernel
theorem dX6_recorded_74 : decode cX6_recorded 74 = .ok (.imul, 1) := by decide +kernel
theorem dX6_recorded_75 : decode cX6_recorded 75 = .ok (.iload_n 2, 1) := by decide +kernel
theorem dX6_recorded_76 : decode cX6_recorded 76 = .ok (.iadd, 1) := by decide +kernel
theorem dX6_recorded_77 : decode cX6_recorded 77 = .ok (.aload_n 0, 1) := by decide +kernel
theorem dX6_recorded_78 : decode cX6_recorded 78 = .ok (.getfield 13, 3) := by decide +kernel
theorem dX6_recorded_81 : decode cX6_recorded 81 = .ok (.iload_n 2, 1) := by decide +kernel
theorem dX6_recorded_82 : decode cX6_recorded 82 = .ok (.iaload, 1) := by decide +kernel
theorem dX6_recorded_83 : decode cX6_recorded 83 = .ok (.iastore, 1) := by decide +kernel
theorem dX6_recorded_84 : decode cX6_recorded 84 = .ok (.iinc 2 1, 3) := by decide +kernel
theorem dX6_recorded_87 : decode cX6_recorded 87 = .ok (.goto (-31), 3) := by decide +kernel
theorem dX6_recorded_90 : decode cX6_recorded 90 = .ok (.aload_n 0, 1) := by decide +kernel
theorem dX6_recorded_91 : decode cX6_recorded 91 = .ok (.dup, 1) := by decide +kernel
theorem dX6_recorded_92 : decode cX6_recorded 92 = .ok (.getfield 50, 3) := by decide +kernel
theorem dX6_recorded_95 : decode cX6_recorded 95 = .ok (.iconst 1, 1) := by decide +kernel
theorem dX6_recorded_96 : decode cX6_recorded 96 = .ok (.iadd, 1) := by decide +kernel
theorem dX6_recorded_97 : decode cX6_recorded 97 = .ok (.putfield 50, 3) := by decide +kernel
theorem dX6_recorded_100 : decode cX6_recorded 100 = .ok (.iload_n 1, 1) := by decide +kernel
theorem dX6_recorded_101 : decode cX6_recorded 101 = .ok (.ireturn, 1) := by decide +kernel
theorem dX6_keepTrial_0 : decode cX6_keepTrial 0 = .ok (.iconst 0, 1) := by decide +kernel
theorem dX6_keepTrial_1 : decode cX6_keepTrial 1 = .ok (.istore_n 1, 1) := by decide +kernel
theorem dX6_keepTrial_2 : decode cX6_keepTrial 2 = .ok (.iload_n 1, 1) := by decide +kernel
theorem dX6_keepTrial_3 : decode cX6_keepTrial 3 = .ok (.sipush 166, 3) := by decide +kernel
theorem dX6_keepTrial_6 : decode cX6_keepTrial 6 = .ok (.if_icmp .ge 21, 3) := by decide +kernel
theorem dX6_keepTrial_9 : decode cX6_keepTrial 9 = .ok (.aload_n 0, 1) := by decide +kernel
theorem dX6_keepTrial_10 : decode cX6_keepTrial 10 = .ok (.getfield 16, 3) := by decide +kernel
theorem dX6_keepTrial_13 : decode cX6_keepTrial 13 = .ok (.iload_n 1, 1) := by decide +kernel
theorem dX6_keepTrial_14 : decode cX6_keepTrial 14 = .ok (.aload_n 0, 1) := by decide +kernel
theorem dX6_keepTrial_15 : decode cX6_keepTrial 15 = .ok (.getfield 7, 3) := by decide +kernel
theorem dX6_keepTrial_18 : decode cX6_keepTrial 18 = .ok (.iload_n 1, 1) := by decide +kernel
theorem dX6_keepTrial_19 : decode cX6_keepTrial 19 = .ok (.iaload, 1) := by decide +kernel
theorem dX6_keepTrial_20 : decode cX6_keepTrial 20 = .ok (.iastore, 1) := by decide +kernel
theorem dX6_keepTrial_21 : decode cX6_keepTrial 21 = .ok (.iinc 1 1, 3) := by decide +kernel
theorem dX6_keepTrial_24 : decode cX6_keepTrial 24 = .ok (.goto (-22), 3) := by decide +kernel
theorem dX6_keepTrial_27 : decode cX6_keepTrial 27 = .ok (.return_, 1) := by decide +kernel
theorem dX6_putBack_0 : decode cX6_putBack 0 = .ok (.iconst 0, 1) := by decide +kernel
theorem dX6_putBack_1 : decode cX6_putBack 1 = .ok (.istore_n 1, 1) := by decide +kernel
theorem dX6_putBack_2 : decode cX6_putBack 2 = .ok (.iload_n 1, 1) := by decide +kernel
theorem dX6_putBack_3 : decode cX6_putBack 3 = .ok (.sipush 166, 3) := by decide +kernel
theorem dX6_putBack_6 : decode cX6_putBack 6 = .ok (.if_icmp .ge 21, 3) := by decide +kernel
theorem dX6_putBack_9 : decode cX6_putBack 9 = .ok (.aload_n 0, 1) := by decide +kernel
theorem dX6_putBack_10 : decode cX6_putBack 10 = .ok (.getfield 7, 3) := by decide +kernel
theorem dX6_putBack_13 : decode cX6_putBack 13 = .ok (.iload_n 1, 1) := by decide +kernel
theorem dX6_putBack_14 : decode cX6_putBack 14 = .ok (.aload_n 0, 1) := by decide +kernel
theorem dX6_putBack_15 : decode cX6_putBack 15 = .ok (.getfield 16, 3) := by decide +kernel
theorem dX6_putBack_18 : decode cX6_putBack 18 = .ok (.iload_n 1, 1) := by decide +kernel
theorem dX6_putBack_19 : decode cX6_putBack 19 = .ok (.iaload, 1) := by decide +kernel
theorem dX6_putBack_20 : decode cX6_putBack 20 = .ok (.iastore, 1) := by decide +kernel
theorem dX6_putBack_21 : decode cX6_putBack 21 = .ok (.iinc 1 1, 3) := by decide +kernel
theorem dX6_putBack_24 : decode cX6_putBack 24 = .ok (.goto (-22), 3) := by decide +kernel
theorem dX6_putBack_27 : decode cX6_putBack 27 = .ok (.return_, 1) := by decide +kernel
theorem dX6_owed_0 : decode cX6_owed 0 = .ok (.iconst 0, 1) := by decide +kernel
theorem dX6_owed_1 : decode cX6_owed 1 = .ok (.istore_n 2, 1) := by decide +kernel
theorem dX6_owed_2 : decode cX6_owed 2 = .ok (.iconst 0, 1) := by decide +kernel
theorem dX6_owed_3 : decode cX6_owed 3 = .ok (.istore_n 3, 1) := by decide +kernel
theorem dX6_owed_4 : decode cX6_owed 4 = .ok (.iload_n 3, 1) := by decide +kernel
theorem dX6_owed_5 : decode cX6_owed 5 = .ok (.bipush 9, 2) := by decide +kernel
theorem dX6_owed_7 : decode cX6_owed 7 = .ok (.if_icmp .ge 26, 3) := by decide +kernel
theorem dX6_owed_10 : decode cX6_owed 10 = .ok (.iload_n 2, 1) := by decide +kernel
theorem dX6_owed_11 : decode cX6_owed 11 = .ok (.aload_n 0, 1) := by decide +kernel
theorem dX6_owed_12 : decode cX6_owed 12 = .ok (.getfield 7, 3) := by decide +kernel
theorem dX6_owed_15 : decode cX6_owed 15 = .ok (.iload_n 1, 1) := by decide +kernel
theorem dX6_owed_16 : decode cX6_owed 16 = .ok (.invokestatic 46, 3) := by decide +kernel
theorem dX6_owed_19 : decode cX6_owed 19 = .ok (.bipush 8, 2) := by decide +kernel
theorem dX6_owed_21 : decode cX6_owed 21 = .ok (.iadd, 1) := by decide +kernel
theorem dX6_owed_22 : decode cX6_owed 22 = .ok (.iload_n 3, 1) := by decide +kernel
theorem dX6_owed_23 : decode cX6_owed 23 = .ok (.iadd, 1) := by decide +kernel
theorem dX6_owed_24 : decode cX6_owed 24 = .ok (.iaload, 1) := by decide +kernel
theorem dX6_owed_25 : decode cX6_owed 25 = .ok (.iadd, 1) := by decide +kernel
theorem dX6_owed_26 : decode cX6_owed 26 = .ok (.istore_n 2, 1) := by decide +kernel
theorem dX6_owed_27 : decode cX6_owed 27 = .ok (.iinc 3 1, 3) := by decide +kernel
theorem dX6_owed_30 : decode cX6_owed 30 = .ok (.goto (-26), 3) := by decide +kernel
theorem dX6_owed_33 : decode cX6_owed 33 = .ok (.iload_n 2, 1) := by decide +kernel
theorem dX6_owed_34 : decode cX6_owed 34 = .ok (.ireturn, 1) := by decide +kernel
theorem dX6_owedTo_0 : decode cX6_owedTo 0 = .ok (.iconst 0, 1) := by decide +kernel
theorem dX6_owedTo_1 : decode cX6_owedTo 1 = .ok (.istore_n 2, 1) := by decide +kernel
theorem dX6_owedTo_2 : decode cX6_owedTo 2 = .ok (.iconst 0, 1) := by decide +kernel
theorem dX6_owedTo_3 : decode cX6_owedTo 3 = .ok (.istore_n 3, 1) := by decide +kernel
theorem dX6_owedTo_4 : decode cX6_owedTo 4 = .ok (.iload_n 3, 1) := by decide +kernel
theorem dX6_owedTo_5 : decode cX6_owedTo 5 = .ok (.bipush 9, 2) := by decide +kernel
theorem dX6_owedTo_7 : decode cX6_owedTo 7 = .ok (.if_icmp .ge 26, 3) := by decide +kernel
theorem dX6_owedTo_10 : decode cX6_owedTo 10 = .ok (.iload_n 2, 1) := by decide +kernel
theorem dX6_owedTo_11 : decode cX6_owedTo 11 = .ok (.aload_n 0, 1) := by decide +kernel
theorem dX6_owedTo_12 : decode cX6_owedTo 12 = .ok (.getfield 7, 3) := by decide +kernel
theorem dX6_owedTo_15 : decode cX6_owedTo 15 = .ok (.iload_n 3, 1) := by decide +kernel
theorem dX6_owedTo_16 : decode cX6_owedTo 16 = .ok (.invokestatic 46, 3) := by decide +kernel
theorem dX6_owedTo_19 : decode cX6_owedTo 19 = .ok (.bipush 8, 2) := by decide +kernel
theorem dX6_owedTo_21 : decode cX6_owedTo 21 = .ok (.iadd, 1) := by decide +kernel
theorem dX6_owedTo_22 : decode cX6_owedTo 22 = .ok (.iload_n 1, 1) := by decide +kernel
theorem dX6_owedTo_23 : decode cX6_owedTo 23 = .ok (.iadd, 1) := by decide +kernel
theorem dX6_owedTo_24 : decode cX6_owedTo 24 = .ok (.iaload, 1) := by decide +kernel
theorem dX6_owedTo_25 : decode cX6_owedTo 25 = .ok (.iadd, 1) := by decide +kernel
theorem dX6_owedTo_26 : decode cX6_owedTo 26 = .ok (.istore_n 2, 1) := by decide +kernel
theorem dX6_owedTo_27 : decode cX6_owedTo 27 = .ok (.iinc 3 1, 3) := by decide +kernel
theorem dX6_owedTo_30 : decode cX6_owedTo 30 = .ok (.goto (-26), 3) := by decide +kernel
theorem dX6_owedTo_33 : decode cX6_owedTo 33 = .ok (.iload_n 2, 1) := by decide +kernel
theorem dX6_owedTo_34 : decode cX6_owedTo 34 = .ok (.ireturn, 1) := by decide +kernel
theorem dX6_isAhead_0 : decode cX6_isAhead 0 = .ok (.iload_n 1, 1) := by decide +kernel
theorem dX6_isAhead_1 : decode cX6_isAhead 1 = .ok (.invokestatic 46, 3) := by decide +kernel
theorem dX6_isAhead_4 : decode cX6_isAhead 4 = .ok (.istore_n 3, 1) := by decide +kernel
theorem dX6_isAhead_5 : decode cX6_isAhead 5 = .ok (.iload_n 2, 1) := by decide +kernel
theorem dX6_isAhead_6 : decode cX6_isAhead 6 = .ok (.invokestatic 46, 3) := by decide +kernel
theorem dX6_isAhead_9 : decode cX6_isAhead 9 = .ok (.istore 4, 2) := by decide +kernel
theorem dX6_isAhead_11 : decode cX6_isAhead 11 = .ok (.aload_n 0, 1) := by decide +kernel
theorem dX6_isAhead_12 : decode cX6_isAhead 12 = .ok (.getfield 7, 3) := by decide +kernel
theorem dX6_isAhead_15 : decode cX6_isAhead 15 = .ok (.iload_n 3, 1) := by decide +kernel
theorem dX6_isAhead_16 : decode cX6_isAhead 16 = .ok (.iconst 3, 1) := by decide +kernel
theorem dX6_isAhead_17 : decode cX6_isAhead 17 = .ok (.iadd, 1) := by decide +kernel
theorem dX6_isAhead_18 : decode cX6_isAhead 18 = .ok (.iaload, 1) := by decide +kernel
theorem dX6_isAhead_19 : decode cX6_isAhead 19 = .ok (.aload_n 0, 1) := by decide +kernel
theorem dX6_isAhead_20 : decode cX6_isAhead 20 = .ok (.getfield 7, 3) := by decide +kernel
theorem dX6_isAhead_23 : decode cX6_isAhead 23 = .ok (.iload 4, 2) := by decide +kernel
theorem dX6_isAhead_25 : decode cX6_isAhead 25 = .ok (.iconst 3, 1) := by decide +kernel
theorem dX6_isAhead_26 : decode cX6_isAhead 26 = .ok (.iadd, 1) := by decide +kernel
theorem dX6_isAhead_27 : decode cX6_isAhead 27 = .ok (.iaload, 1) := by decide +kernel
theorem dX6_isAhead_28 : decode cX6_isAhead 28 = .ok (.if_icmp .eq 29, 3) := by decide +kernel
theorem dX6_isAhead_31 : decode cX6_isAhead 31 = .ok (.aload_n 0, 1) := by decide +kernel
theorem dX6_isAhead_32 : decode cX6_isAhead 32 = .ok (.getfield 7, 3) := by decide +kernel
theorem dX6_isAhead_35 : decode cX6_isAhead 35 = .ok (.iload_n 3, 1) := by decide +kernel
theorem dX6_isAhead_36 : decode cX6_isAhead 36 = .ok (.iconst 3, 1) := by decide +kernel
theorem dX6_isAhead_37 : decode cX6_isAhead 37 = .ok (.iadd, 1) := by decide +kernel
theorem dX6_isAhead_38 : decode cX6_isAhead 38 = .ok (.iaload, 1) := by decide +kernel
theorem dX6_isAhead_39 : decode cX6_isAhead 39 = .ok (.aload_n 0, 1) := by decide +kernel
theorem dX6_isAhead_40 : decode cX6_isAhead 40 = .ok (.getfield 7, 3) := by decide +kernel
theorem dX6_isAhead_43 : decode cX6_isAhead 43 = .ok (.iload 4, 2) := by decide +kernel
theorem dX6_isAhead_45 : decode cX6_isAhead 45 = .ok (.iconst 3, 1) := by decide +kernel
theorem dX6_isAhead_46 : decode cX6_isAhead 46 = .ok (.iadd, 1) := by decide +kernel
theorem dX6_isAhead_47 : decode cX6_isAhead 47 = .ok (.iaload, 1) := by decide +kernel
theorem dX6_isAhead_48 : decode cX6_isAhead 48 = .ok (.if_icmp .le 7, 3) := by decide +kernel
theorem dX6_isAhead_51 : decode cX6_isAhead 51 = .ok (.iconst 1, 1) := by decide +kernel
theorem dX6_isAhead_52 : decode cX6_isAhead 52 = .ok (.goto 4, 3) := by decide +kernel
theorem dX6_isAhead_55 : decode cX6_isAhead 55 = .ok (.iconst 0, 1) := by decide +kernel
theorem dX6_isAhead_56 : decode cX6_isAhead 56 = .ok (.ireturn, 1) := by decide +kernel
theorem dX6_isAhead_57 : decode cX6_isAhead 57 = .ok (.aload_n 0, 1) := by decide +kernel
theorem dX6_isAhead_58 : decode cX6_isAhead 58 = .ok (.getfield 7, 3) := by decide +kernel
theorem dX6_isAhead_61 : decode cX6_isAhead 61 = .ok (.iload_n 3, 1) := by decide +kernel
theorem dX6_isAhead_62 : decode cX6_isAhead 62 = .ok (.iconst 4, 1) := by decide +kernel
theorem dX6_isAhead_63 : decode cX6_isAhead 63 = .ok (.iadd, 1) := by decide +kernel
theorem dX6_isAhead_64 : decode cX6_isAhead 64 = .ok (.iaload, 1) := by decide +kernel
theorem dX6_isAhead_65 : decode cX6_isAhead 65 = .ok (.aload_n 0, 1) := by decide +kernel
theorem dX6_isAhead_66 : decode cX6_isAhead 66 = .ok (.getfield 7, 3) := by decide +kernel
theorem dX6_isAhead_69 : decode cX6_isAhead 69 = .ok (.iload 4, 2) := by decide +kernel
theorem dX6_isAhead_71 : decode cX6_isAhead 71 = .ok (.iconst 4, 1) := by decide +kernel
theorem dX6_isAhead_72 : decode cX6_isAhead 72 = .ok (.iadd, 1) := by decide +kernel
theorem dX6_isAhead_73 : decode cX6_isAhead 73 = .ok (.iaload, 1) := by decide +kernel
theorem dX6_isAhead_74 : decode cX6_isAhead 74 = .ok (.if_icmp .eq 29, 3) := by decide +kernel
theorem dX6_isAhead_77 : decode cX6_isAhead 77 = .ok (.aload_n 0, 1) := by decide +kernel
theorem dX6_isAhead_78 : decode cX6_isAhead 78 = .ok (.getfield 7, 3) := by decide +kernel
theorem dX6_isAhead_81 : decode cX6_isAhead 81 = .ok (.iload_n 3, 1) := by decide +kernel
theorem dX6_isAhead_82 : decode cX6_isAhead 82 = .ok (.iconst 4, 1) := by decide +kernel
theorem dX6_isAhead_83 : decode cX6_isAhead 83 = .ok (.iadd, 1) := by decide +kernel
theorem dX6_isAhead_84 : decode cX6_isAhead 84 = .ok (.iaload, 1) := by decide +kernel
theorem dX6_isAhead_85 : decode cX6_isAhead 85 = .ok (.aload_n 0, 1) := by decide +kernel
theorem dX6_isAhead_86 : decode cX6_isAhead 86 = .ok (.getfield 7, 3) := by decide +kernel
theorem dX6_isAhead_89 : decode cX6_isAhead 89 = .ok (.iload 4, 2) := by decide +kernel
theorem dX6_isAhead_91 : decode cX6_isAhead 91 = .ok (.iconst 4, 1) := by decide +kernel
theorem dX6_isAhead_92 : decode cX6_isAhead 92 = .ok (.iadd, 1) := by decide +kernel
theorem dX6_isAhead_93 : decode cX6_isAhead 93 = .ok (.iaload, 1) := by decide +kernel
theorem dX6_isAhead_94 : decode cX6_isAhead 94 = .ok (.if_icmp .ge 7, 3) := by decide +kernel
theorem dX6_isAhead_97 : decode cX6_isAhead 97 = .ok (.iconst 1, 1) := by decide +kernel
theorem dX6_isAhead_98 : decode cX6_isAhead 98 = .ok (.goto 4, 3) := by decide +kernel
theorem dX6_isAhead_101 : decode cX6_isAhead 101 = .ok (.iconst 0, 1) := by decide +kernel
theorem dX6_isAhead_102 : decode cX6_isAhead 102 = .ok (.ireturn, 1) := by decide +kernel
theorem dX6_isAhead_103 : decode cX6_isAhead 103 = .ok (.aload_n 0, 1) := by decide +kernel
theorem dX6_isAhead_104 : decode cX6_isAhead 104 = .ok (.iload_n 1, 1) := by decide +kernel
theorem dX6_isAhead_105 : decode cX6_isAhead 105 = .ok (.invokevirtual 54, 3) := by decide +kernel
theorem dX6_isAhead_108 : decode cX6_isAhead 108 = .ok (.aload_n 0, 1) := by decide +kernel
theorem dX6_isAhead_109 : decode cX6_isAhead 109 = .ok (.iload_n 2, 1) := by decide +kernel
theorem dX6_isAhead_110 : decode cX6_isAhead 110 = .ok (.invokevirtual 54, 3) := by decide +kernel
theorem dX6_isAhead_113 : decode cX6_isAhead 113 = .ok (.isub, 1) := by decide +kernel
theorem dX6_isAhead_114 : decode cX6_isAhead 114 = .ok (.istore 5, 2) := by decide +kernel
theorem dX6_isAhead_116 : decode cX6_isAhead 116 = .ok (.iload 5, 2) := by decide +kernel
theorem dX6_isAhead_118 : decode cX6_isAhead 118 = .ok (.ifCond .lt 28, 3) := by decide +kernel
theorem dX6_isAhead_121 : decode cX6_isAhead 121 = .ok (.iload 5, 2) := by decide +kernel
theorem dX6_isAhead_123 : decode cX6_isAhead 123 = .ok (.ifCond .ne 27, 3) := by decide +kernel
theorem dX6_isAhead_126 : decode cX6_isAhead 126 = .ok (.aload_n 0, 1) := by decide +kernel
theorem dX6_isAhead_127 : decode cX6_isAhead 127 = .ok (.getfield 7, 3) := by decide +kernel
theorem dX6_isAhead_130 : decode cX6_isAhead 130 = .ok (.iload_n 3, 1) := by decide +kernel
theorem dX6_isAhead_131 : decode cX6_isAhead 131 = .ok (.iconst 1, 1) := by decide +kernel
theorem dX6_isAhead_132 : decode cX6_isAhead 132 = .ok (.iadd, 1) := by decide +kernel
theorem dX6_isAhead_133 : decode cX6_isAhead 133 = .ok (.iaload, 1) := by decide +kernel
theorem dX6_isAhead_134 : decode cX6_isAhead 134 = .ok (.aload_n 0, 1) := by decide +kernel
theorem dX6_isAhead_135 : decode cX6_isAhead 135 = .ok (.getfield 7, 3) := by decide +kernel
theorem dX6_isAhead_138 : decode cX6_isAhead 138 = .ok (.iload 4, 2) := by decide +kernel
theorem dX6_isAhead_140 : decode cX6_isAhead 140 = .ok (.iconst 1, 1) := by decide +kernel
theorem dX6_isAhead_141 : decode cX6_isAhead 141 = .ok (.iadd, 1) := by decide +kernel
theorem dX6_isAhead_142 : decode cX6_isAhead 142 = .ok (.iaload, 1) := by decide +kernel
theorem dX6_isAhead_143 : decode cX6_isAhead 143 = .ok (.if_icmp .ge 7, 3) := by decide +kernel
theorem dX6_isAhead_146 : decode cX6_isAhead 146 = .ok (.iconst 1, 1) := by decide +kernel
theorem dX6_isAhead_147 : decode cX6_isAhead 147 = .ok (.goto 4, 3) := by decide +kernel
theorem dX6_isAhead_150 : decode cX6_isAhead 150 = .ok (.iconst 0, 1) := by decide +kernel
theorem dX6_isAhead_151 : decode cX6_isAhead 151 = .ok (.ireturn, 1) := by decide +kernel
theorem dX6_rankOf_0 : decode cX6_rankOf 0 = .ok (.iconst 0, 1) := by decide +kernel
theorem dX6_rankOf_1 : decode cX6_rankOf 1 = .ok (.istore_n 2, 1) := by decide +kernel
theorem dX6_rankOf_2 : decode cX6_rankOf 2 = .ok (.iconst 0, 1) := by decide +kernel
theorem dX6_rankOf_3 : decode cX6_rankOf 3 = .ok (.istore_n 3, 1) := by decide +kernel
theorem dX6_rankOf_4 : decode cX6_rankOf 4 = .ok (.iload_n 3, 1) := by decide +kernel
theorem dX6_rankOf_5 : decode cX6_rankOf 5 = .ok (.bipush 9, 2) := by decide +kernel
theorem dX6_rankOf_7 : decode cX6_rankOf 7 = .ok (.if_icmp .ge 39, 3) := by decide +kernel
theorem dX6_rankOf_10 : decode cX6_rankOf 10 = .ok (.iload_n 2, 1) := by decide +kernel
theorem dX6_rankOf_11 : decode cX6_rankOf 11 = .ok (.aload_n 0, 1) := by decide +kernel
theorem dX6_rankOf_12 : decode cX6_rankOf 12 = .ok (.iload_n 3, 1) := by decide +kernel
theorem dX6_rankOf_13 : decode cX6_rankOf 13 = .ok (.invokevirtual 57, 3) := by decide +kernel
theorem dX6_rankOf_16 : decode cX6_rankOf 16 = .ok (.ifCond .eq 21, 3) := by decide +kernel
theorem dX6_rankOf_19 : decode cX6_rankOf 19 = .ok (.iload_n 3, 1) := by decide +kernel
theorem dX6_rankOf_20 : decode cX6_rankOf 20 = .ok (.iload_n 1, 1) := by decide +kernel
theorem dX6_rankOf_21 : decode cX6_rankOf 21 = .ok (.if_icmp .eq 16, 3) := by decide +kernel
theorem dX6_rankOf_24 : decode cX6_rankOf 24 = .ok (.aload_n 0, 1) := by decide +kernel
theorem dX6_rankOf_25 : decode cX6_rankOf 25 = .ok (.iload_n 3, 1) := by decide +kernel
theorem dX6_rankOf_26 : decode cX6_rankOf 26 = .ok (.iload_n 1, 1) := by decide +kernel
theorem dX6_rankOf_27 : decode cX6_rankOf 27 = .ok (.invokevirtual 61, 3) := by decide +kernel
theorem dX6_rankOf_30 : decode cX6_rankOf 30 = .ok (.ifCond .eq 7, 3) := by decide +kernel
theorem dX6_rankOf_33 : decode cX6_rankOf 33 = .ok (.iconst 1, 1) := by decide +kernel
theorem dX6_rankOf_34 : decode cX6_rankOf 34 = .ok (.goto 4, 3) := by decide +kernel
theorem dX6_rankOf_37 : decode cX6_rankOf 37 = .ok (.iconst 0, 1) := by decide +kernel
theorem dX6_rankOf_38 : decode cX6_rankOf 38 = .ok (.iadd, 1) := by decide +kernel
theorem dX6_rankOf_39 : decode cX6_rankOf 39 = .ok (.istore_n 2, 1) := by decide +kernel
theorem dX6_rankOf_40 : decode cX6_rankOf 40 = .ok (.iinc 3 1, 3) := by decide +kernel
theorem dX6_rankOf_43 : decode cX6_rankOf 43 = .ok (.goto (-39), 3) := by decide +kernel
theorem dX6_rankOf_46 : decode cX6_rankOf 46 = .ok (.iload_n 2, 1) := by decide +kernel
theorem dX6_rankOf_47 : decode cX6_rankOf 47 = .ok (.ireturn, 1) := by decide +kernel
theorem dX6_seats_0 : decode cX6_seats 0 = .ok (.iconst 0, 1) := by decide +kernel
theorem dX6_seats_1 : decode cX6_seats 1 = .ok (.istore_n 1, 1) := by decide +kernel
theorem dX6_seats_2 : decode cX6_seats 2 = .ok (.iconst 0, 1) := by decide +kernel
theorem dX6_seats_3 : decode cX6_seats 3 = .ok (.istore_n 2, 1) := by decide +kernel
theorem dX6_seats_4 : decode cX6_seats 4 = .ok (.iload_n 2, 1) := by decide +kernel
theorem dX6_seats_5 : decode cX6_seats 5 = .ok (.bipush 9, 2) := by decide +kernel
theorem dX6_seats_7 : decode cX6_seats 7 = .ok (.if_icmp .ge 32, 3) := by decide +kernel
theorem dX6_seats_10 : decode cX6_seats 10 = .ok (.aload_n 0, 1) := by decide +kernel
theorem dX6_seats_11 : decode cX6_seats 11 = .ok (.getfield 29, 3) := by decide +kernel
theorem dX6_seats_14 : decode cX6_seats 14 = .ok (.iload_n 2, 1) := by decide +kernel
theorem dX6_seats_15 : decode cX6_seats 15 = .ok (.aload_n 0, 1) := by decide +kernel
theorem dX6_seats_16 : decode cX6_seats 16 = .ok (.iload_n 2, 1) := by decide +kernel
theorem dX6_seats_17 : decode cX6_seats 17 = .ok (.invokevirtual 57, 3) := by decide +kernel
theorem dX6_seats_20 : decode cX6_seats 20 = .ok (.ifCond .eq 11, 3) := by decide +kernel
theorem dX6_seats_23 : decode cX6_seats 23 = .ok (.aload_n 0, 1) := by decide +kernel
theorem dX6_seats_24 : decode cX6_seats 24 = .ok (.iload_n 2, 1) := by decide +kernel
theorem dX6_seats_25 : decode cX6_seats 25 = .ok (.invokevirtual 65, 3) := by decide +kernel
theorem dX6_seats_28 : decode cX6_seats 28 = .ok (.goto 4, 3) := by decide +kernel
theorem dX6_seats_31 : decode cX6_seats 31 = .ok (.iconst 0, 1) := by decide +kernel
theorem dX6_seats_32 : decode cX6_seats 32 = .ok (.iastore, 1) := by decide +kernel
theorem dX6_seats_33 : decode cX6_seats 33 = .ok (.iinc 2 1, 3) := by decide +kernel
theorem dX6_seats_36 : decode cX6_seats 36 = .ok (.goto (-32), 3) := by decide +kernel
theorem dX6_seats_39 : decode cX6_seats 39 = .ok (.iconst 0, 1) := by decide +kernel
theorem dX6_seats_40 : decode cX6_seats 40 = .ok (.istore_n 2, 1) := by decide +kernel
theorem dX6_seats_41 : decode cX6_seats 41 = .ok (.iload_n 2, 1) := by decide +kernel
theorem dX6_seats_42 : decode cX6_seats 42 = .ok (.bipush 9, 2) := by decide +kernel
theorem dX6_seats_44 : decode cX6_seats 44 = .ok (.if_icmp .ge 62, 3) := by decide +kernel
theorem dX6_seats_47 : decode cX6_seats 47 = .ok (.aload_n 0, 1) := by decide +kernel
theorem dX6_seats_48 : decode cX6_seats 48 = .ok (.iload_n 2, 1) := by decide +kernel
theorem dX6_seats_49 : decode cX6_seats 49 = .ok (.invokevirtual 57, 3) := by decide +kernel
theorem dX6_seats_52 : decode cX6_seats 52 = .ok (.ifCond .eq 48, 3) := by decide +kernel
theorem dX6_seats_55 : decode cX6_seats 55 = .ok (.iload_n 1, 1) := by decide +kernel
theorem dX6_seats_56 : decode cX6_seats 56 = .ok (.aload_n 0, 1) := by decide +kernel
theorem dX6_seats_57 : decode cX6_seats 57 = .ok (.getfield 7, 3) := by decide +kernel
theorem dX6_seats_60 : decode cX6_seats 60 = .ok (.iload_n 2, 1) := by decide +kernel
theorem dX6_seats_61 : decode cX6_seats 61 = .ok (.invokestatic 46, 3) := by decide +kernel
theorem dX6_seats_64 : decode cX6_seats 64 = .ok (.iconst 1, 1) := by decide +kernel
theorem dX6_seats_65 : decode cX6_seats 65 = .ok (.iadd, 1) := by decide +kernel
theorem dX6_seats_66 : decode cX6_seats 66 = .ok (.iaload, 1) := by decide +kernel
theorem dX6_seats_67 : decode cX6_seats 67 = .ok (.aload_n 0, 1) := by decide +kernel
theorem dX6_seats_68 : decode cX6_seats 68 = .ok (.getfield 29, 3) := by decide +kernel
theorem dX6_seats_71 : decode cX6_seats 71 = .ok (.iload_n 2, 1) := by decide +kernel
theorem dX6_seats_72 : decode cX6_seats 72 = .ok (.iaload, 1) := by decide +kernel
theorem dX6_seats_73 : decode cX6_seats 73 = .ok (.if_icmp .ne 7, 3) := by decide +kernel
theorem dX6_seats_76 : decode cX6_seats 76 = .ok (.iconst 0, 1) := by decide +kernel
theorem dX6_seats_77 : decode cX6_seats 77 = .ok (.goto 4, 3) := by decide +kernel
theorem dX6_seats_80 : decode cX6_seats 80 = .ok (.iconst 1, 1) := by decide +kernel
theorem dX6_seats_81 : decode cX6_seats 81 = .ok (.iadd, 1) := by decide +kernel
theorem dX6_seats_82 : decode cX6_seats 82 = .ok (.istore_n 1, 1) := by decide +kernel
theorem dX6_seats_83 : decode cX6_seats 83 = .ok (.aload_n 0, 1) := by decide +kernel
theorem dX6_seats_84 : decode cX6_seats 84 = .ok (.getfield 7, 3) := by decide +kernel
theorem dX6_seats_87 : decode cX6_seats 87 = .ok (.iload_n 2, 1) := by decide +kernel
theorem dX6_seats_88 : decode cX6_seats 88 = .ok (.invokestatic 46, 3) := by decide +kernel
theorem dX6_seats_91 : decode cX6_seats 91 = .ok (.iconst 1, 1) := by decide +kernel
theorem dX6_seats_92 : decode cX6_seats 92 = .ok (.iadd, 1) := by decide +kernel
theorem dX6_seats_93 : decode cX6_seats 93 = .ok (.aload_n 0, 1) := by decide +kernel
theorem dX6_seats_94 : decode cX6_seats 94 = .ok (.getfield 29, 3) := by decide +kernel
theorem dX6_seats_97 : decode cX6_seats 97 = .ok (.iload_n 2, 1) := by decide +kernel
theorem dX6_seats_98 : decode cX6_seats 98 = .ok (.iaload, 1) := by decide +kernel
theorem dX6_seats_99 : decode cX6_seats 99 = .ok (.iastore, 1) := by decide +kernel
theorem dX6_seats_100 : decode cX6_seats 100 = .ok (.iinc 2 1, 3) := by decide +kernel
theorem dX6_seats_103 : decode cX6_seats 103 = .ok (.goto (-62), 3) := by decide +kernel
theorem dX6_seats_106 : decode cX6_seats 106 = .ok (.iload_n 1, 1) := by decide +kernel
theorem dX6_seats_107 : decode cX6_seats 107 = .ok (.ireturn, 1) := by decide +kernel
theorem dX6_guestAt_0 : decode cX6_guestAt 0 = .ok (.iconst (-1), 1) := by decide +kernel
theorem dX6_guestAt_1 : decode cX6_guestAt 1 = .ok (.istore_n 2, 1) := by decide +kernel
theorem dX6_guestAt_2 : decode cX6_guestAt 2 = .ok (.iconst 0, 1) := by decide +kernel
theorem dX6_guestAt_3 : decode cX6_guestAt 3 = .ok (.istore_n 3, 1) := by decide +kernel
theorem dX6_guestAt_4 : decode cX6_guestAt 4 = .ok (.iload_n 3, 1) := by decide +kernel
theorem dX6_guestAt_5 : decode cX6_guestAt 5 = .ok (.bipush 9, 2) := by decide +kernel
theorem dX6_guestAt_7 : decode cX6_guestAt 7 = .ok (.if_icmp .ge 38, 3) := by decide +kernel
theorem dX6_guestAt_10 : decode cX6_guestAt 10 = .ok (.aload_n 0, 1) := by decide +kernel
theorem dX6_guestAt_11 : decode cX6_guestAt 11 = .ok (.iload_n 3, 1) := by decide +kernel
theorem dX6_guestAt_12 : decode cX6_guestAt 12 = .ok (.invokevirtual 57, 3) := by decide +kernel
theorem dX6_guestAt_15 : decode cX6_guestAt 15 = .ok (.ifCond .eq 22, 3) := by decide +kernel
theorem dX6_guestAt_18 : decode cX6_guestAt 18 = .ok (.aload_n 0, 1) := by decide +kernel
theorem dX6_guestAt_19 : decode cX6_guestAt 19 = .ok (.getfield 7, 3) := by decide +kernel
theorem dX6_guestAt_22 : decode cX6_guestAt 22 = .ok (.iload_n 3, 1) := by decide +kernel
theorem dX6_guestAt_23 : decode cX6_guestAt 23 = .ok (.invokestatic 46, 3) := by decide +kernel
theorem dX6_guestAt_26 : decode cX6_guestAt 26 = .ok (.iconst 1, 1) := by decide +kernel
theorem dX6_guestAt_27 : decode cX6_guestAt 27 = .ok (.iadd, 1) := by decide +kernel
theorem dX6_guestAt_28 : decode cX6_guestAt 28 = .ok (.iaload, 1) := by decide +kernel
theorem dX6_guestAt_29 : decode cX6_guestAt 29 = .ok (.iload_n 1, 1) := by decide +kernel
theorem dX6_guestAt_30 : decode cX6_guestAt 30 = .ok (.if_icmp .ne 7, 3) := by decide +kernel
theorem dX6_guestAt_33 : decode cX6_guestAt 33 = .ok (.iload_n 3, 1) := by decide +kernel
theorem dX6_guestAt_34 : decode cX6_guestAt 34 = .ok (.goto 4, 3) := by decide +kernel
theorem dX6_guestAt_37 : decode cX6_guestAt 37 = .ok (.iload_n 2, 1) := by decide +kernel
theorem dX6_guestAt_38 : decode cX6_guestAt 38 = .ok (.istore_n 2, 1) := by decide +kernel
theorem dX6_guestAt_39 : decode cX6_guestAt 39 = .ok (.iinc 3 1, 3) := by decide +kernel
theorem dX6_guestAt_42 : decode cX6_guestAt 42 = .ok (.goto (-38), 3) := by decide +kernel
theorem dX6_guestAt_45 : decode cX6_guestAt 45 = .ok (.iload_n 2, 1) := by decide +kernel
theorem dX6_guestAt_46 : decode cX6_guestAt 46 = .ok (.ireturn, 1) := by decide +kernel
theorem dX6_guestRanked_0 : decode cX6_guestRanked 0 = .ok (.iconst (-1), 1) := by decide +kernel
theorem dX6_guestRanked_1 : decode cX6_guestRanked 1 = .ok (.istore_n 2, 1) := by decide +kernel
theorem dX6_guestRanked_2 : decode cX6_guestRanked 2 = .ok (.iconst 0, 1) := by decide +kernel
theorem dX6_guestRanked_3 : decode cX6_guestRanked 3 = .ok (.istore_n 3, 1) := by decide +kernel
theorem dX6_guestRanked_4 : decode cX6_guestRanked 4 = .ok (.iload_n 3, 1) := by decide +kernel
theorem dX6_guestRanked_5 : decode cX6_guestRanked 5 = .ok (.bipush 9, 2) := by decide +kernel
theorem dX6_guestRanked_7 : decode cX6_guestRanked 7 = .ok (.if_icmp .ge 32, 3) := by decide +kernel
theorem dX6_guestRanked_10 : decode cX6_guestRanked 10 = .ok (.aload_n 0, 1) := by decide +kernel
theorem dX6_guestRanked_11 : decode cX6_guestRanked 11 = .ok (.iload_n 3, 1) := by decide +kernel
theorem dX6_guestRanked_12 : decode cX6_guestRanked 12 = .ok (.invokevirtual 57, 3) := by decide +kernel
theorem dX6_guestRanked_15 : decode cX6_guestRanked 15 = .ok (.ifCond .eq 16, 3) := by decide +kernel
theorem dX6_guestRanked_18 : decode cX6_guestRanked 18 = .ok (.aload_n 0, 1) := by decide +kernel
theorem dX6_guestRanked_19 : decode cX6_guestRanked 19 = .ok (.iload_n 3, 1) := by decide +kernel
theorem dX6_guestRanked_20 : decode cX6_guestRanked 20 = .ok (.invokevirtual 65, 3) := by decide +kernel
theorem dX6_guestRanked_23 : decode cX6_guestRanked 23 = .ok (.iload_n 1, 1) := by decide +kernel
theorem dX6_guestRanked_24 : decode cX6_guestRanked 24 = .ok (.if_icmp .ne 7, 3) := by decide +kernel
theorem dX6_guestRanked_27 : decode cX6_guestRanked 27 = .ok (.iload_n 3, 1) := by decide +kernel
theorem dX6_guestRanked_28 : decode cX6_guestRanked 28 = .ok (.goto 4, 3) := by decide +kernel
theorem dX6_guestRanked_31 : decode cX6_guestRanked 31 = .ok (.iload_n 2, 1) := by decide +kernel
theorem dX6_guestRanked_32 : decode cX6_guestRanked 32 = .ok (.istore_n 2, 1) := by decide +kernel
theorem dX6_guestRanked_33 : decode cX6_guestRanked 33 = .ok (.iinc 3 1, 3) := by decide +kernel
theorem dX6_guestRanked_36 : decode cX6_guestRanked 36 = .ok (.goto (-32), 3) := by decide +kernel
theorem dX6_guestRanked_39 : decode cX6_guestRanked 39 = .ok (.iload_n 2, 1) := by decide +kernel
theorem dX6_guestRanked_40 : decode cX6_guestRanked 40 = .ok (.ireturn, 1) := by decide +kernel
theorem dX6_reason_0 : decode cX6_reason 0 = .ok (.aload_n 0, 1) := by decide +kernel
theorem dX6_reason_1 : decode cX6_reason 1 = .ok (.getfield 7, 3) := by decide +kernel
theorem dX6_reason_4 : decode cX6_reason 4 = .ok (.iload_n 1, 1) := by decide +kernel
theorem dX6_reason_5 : decode cX6_reason 5 = .ok (.invokestatic 46, 3) := by decide +kernel
theorem dX6_reason_8 : decode cX6_reason 8 = .ok (.iconst 4, 1) := by decide +kernel
theorem dX6_reason_9 : decode cX6_reason 9 = .ok (.iadd, 1) := by decide +kernel
theorem dX6_reason_10 : decode cX6_reason 10 = .ok (.iaload, 1) := by decide +kernel
theorem dX6_reason_11 : decode cX6_reason 11 = .ok (.aload_n 0, 1) := by decide +kernel
theorem dX6_reason_12 : decode cX6_reason 12 = .ok (.getfield 7, 3) := by decide +kernel
theorem dX6_reason_15 : decode cX6_reason 15 = .ok (.iconst 2, 1) := by decide +kernel
theorem dX6_reason_16 : decode cX6_reason 16 = .ok (.iaload, 1) := by decide +kernel
theorem dX6_reason_17 : decode cX6_reason 17 = .ok (.if_icmp .lt 7, 3) := by decide +kernel
theorem dX6_reason_20 : decode cX6_reason 20 = .ok (.iconst 1, 1) := by decide +kernel
theorem dX6_reason_21 : decode cX6_reason 21 = .ok (.goto 22, 3) := by decide +kernel
theorem dX6_reason_24 : decode cX6_reason 24 = .ok (.aload_n 0, 1) := by decide +kernel
theorem dX6_reason_25 : decode cX6_reason 25 = .ok (.iload_n 1, 1) := by decide +kernel
theorem dX6_reason_26 : decode cX6_reason 26 = .ok (.invokevirtual 54, 3) := by decide +kernel
theorem dX6_reason_29 : decode cX6_reason 29 = .ok (.aload_n 0, 1) := by decide +kernel
theorem dX6_reason_30 : decode cX6_reason 30 = .ok (.getfield 7, 3) := by decide +kernel
theorem dX6_reason_33 : decode cX6_reason 33 = .ok (.iconst 1, 1) := by decide +kernel
theorem dX6_reason_34 : decode cX6_reason 34 = .ok (.iaload, 1) := by decide +kernel
theorem dX6_reason_35 : decode cX6_reason 35 = .ok (.if_icmp .lt 7, 3) := by decide +kernel
theorem dX6_reason_38 : decode cX6_reason 38 = .ok (.iconst 2, 1) := by decide +kernel
theorem dX6_reason_39 : decode cX6_reason 39 = .ok (.goto 4, 3) := by decide +kernel
theorem dX6_reason_42 : decode cX6_reason 42 = .ok (.iconst 0, 1) := by decide +kernel
theorem dX6_reason_43 : decode cX6_reason 43 = .ok (.ireturn, 1) := by decide +kernel
theorem dX6_breaths_0 : decode cX6_breaths 0 = .ok (.iconst 0, 1) := by decide +kernel
theorem dX6_breaths_1 : decode cX6_breaths 1 = .ok (.istore_n 2, 1) := by decide +kernel
theorem dX6_breaths_2 : decode cX6_breaths 2 = .ok (.iconst 0, 1) := by decide +kernel
theorem dX6_breaths_3 : decode cX6_breaths 3 = .ok (.istore_n 3, 1) := by decide +kernel
theorem dX6_breaths_4 : decode cX6_breaths 4 = .ok (.iload_n 3, 1) := by decide +kernel
theorem dX6_breaths_5 : decode cX6_breaths 5 = .ok (.iload_n 1, 1) := by decide +kernel
theorem dX6_breaths_6 : decode cX6_breaths 6 = .ok (.if_icmp .ge 134, 3) := by decide +kernel
theorem dX6_breaths_9 : decode cX6_breaths 9 = .ok (.iconst 0, 1) := by decide +kernel
theorem dX6_breaths_10 : decode cX6_breaths 10 = .ok (.istore 4, 2) := by decide +kernel
theorem dX6_breaths_12 : decode cX6_breaths 12 = .ok (.iload 4, 2) := by decide +kernel
theorem dX6_breaths_14 : decode cX6_breaths 14 = .ok (.bipush 9, 2) := by decide +kernel
theorem dX6_breaths_16 : decode cX6_breaths 16 = .ok (.if_icmp .ge 108, 3) := by decide +kernel
theorem dX6_breaths_19 : decode cX6_breaths 19 = .ok (.iload 4, 2) := by decide +kernel
theorem dX6_breaths_21 : decode cX6_breaths 21 = .ok (.invokestatic 46, 3) := by decide +kernel
theorem dX6_breaths_24 : decode cX6_breaths 24 = .ok (.istore 5, 2) := by decide +kernel
theorem dX6_breaths_26 : decode cX6_breaths 26 = .ok (.aload_n 0, 1) := by decide +kernel
theorem dX6_breaths_27 : decode cX6_breaths 27 = .ok (.getfield 7, 3) := by decide +kernel
theorem dX6_breaths_30 : decode cX6_breaths 30 = .ok (.iload 5, 2) := by decide +kernel
theorem dX6_breaths_32 : decode cX6_breaths 32 = .ok (.iconst 3, 1) := by decide +kernel
theorem dX6_breaths_33 : decode cX6_breaths 33 = .ok (.iadd, 1) := by decide +kernel
theorem dX6_breaths_34 : decode cX6_breaths 34 = .ok (.dup2, 1) := by decide +kernel
theorem dX6_breaths_35 : decode cX6_breaths 35 = .ok (.iaload, 1) := by decide +kernel
theorem dX6_breaths_36 : decode cX6_breaths 36 = .ok (.aload_n 0, 1) := by decide +kernel
theorem dX6_breaths_37 : decode cX6_breaths 37 = .ok (.getfield 7, 3) := by decide +kernel
theorem dX6_breaths_40 : decode cX6_breaths 40 = .ok (.iload 5, 2) := by decide +kernel
theorem dX6_breaths_42 : decode cX6_breaths 42 = .ok (.iaload, 1) := by decide +kernel
theorem dX6_breaths_43 : decode cX6_breaths 43 = .ok (.iadd, 1) := by decide +kernel
theorem dX6_breaths_44 : decode cX6_breaths 44 = .ok (.iastore, 1) := by decide +kernel
theorem dX6_breaths_45 : decode cX6_breaths 45 = .ok (.aload_n 0, 1) := by decide +kernel
theorem dX6_breaths_46 : decode cX6_breaths 46 = .ok (.getfield 7, 3) := by decide +kernel
theorem dX6_breaths_49 : decode cX6_breaths 49 = .ok (.iload 5, 2) := by decide +kernel
theorem dX6_breaths_51 : decode cX6_breaths 51 = .ok (.iaload, 1) := by decide +kernel
theorem dX6_breaths_52 : decode cX6_breaths 52 = .ok (.iconst 1, 1) := by decide +kernel
theorem dX6_breaths_53 : decode cX6_breaths 53 = .ok (.if_icmp .ne 65, 3) := by decide +kernel
theorem dX6_breaths_56 : decode cX6_breaths 56 = .ok (.aload_n 0, 1) := by decide +kernel
theorem dX6_breaths_57 : decode cX6_breaths 57 = .ok (.getfield 7, 3) := by decide +kernel
theorem dX6_breaths_60 : decode cX6_breaths 60 = .ok (.iload 5, 2) := by decide +kernel
theorem dX6_breaths_62 : decode cX6_breaths 62 = .ok (.iconst 3, 1) := by decide +kernel
theorem dX6_breaths_63 : decode cX6_breaths 63 = .ok (.iadd, 1) := by decide +kernel
theorem dX6_breaths_64 : decode cX6_breaths 64 = .ok (.iaload, 1) := by decide +kernel
theorem dX6_breaths_65 : decode cX6_breaths 65 = .ok (.aload_n 0, 1) := by decide +kernel
theorem dX6_breaths_66 : decode cX6_breaths 66 = .ok (.getfield 7, 3) := by decide +kernel
theorem dX6_breaths_69 : decode cX6_breaths 69 = .ok (.iconst 3, 1) := by decide +kernel
theorem dX6_breaths_70 : decode cX6_breaths 70 = .ok (.iaload, 1) := by decide +kernel
theorem dX6_breaths_71 : decode cX6_breaths 71 = .ok (.aload_n 0, 1) := by decide +kernel
theorem dX6_breaths_72 : decode cX6_breaths 72 = .ok (.getfield 7, 3) := by decide +kernel
theorem dX6_breaths_75 : decode cX6_breaths 75 = .ok (.iload 5, 2) := by decide +kernel
theorem dX6_breaths_77 : decode cX6_breaths 77 = .ok (.iconst 2, 1) := by decide +kernel
theorem dX6_breaths_78 : decode cX6_breaths 78 = .ok (.iadd, 1) := by decide +kernel
theorem dX6_breaths_79 : decode cX6_breaths 79 = .ok (.iaload, 1) := by decide +kernel
theorem dX6_breaths_80 : decode cX6_breaths 80 = .ok (.imul, 1) := by decide +kernel
theorem dX6_breaths_81 : decode cX6_breaths 81 = .ok (.if_icmp .lt 37, 3) := by decide +kernel
theorem dX6_breaths_84 : decode cX6_breaths 84 = .ok (.aload_n 0, 1) := by decide +kernel
theorem dX6_breaths_85 : decode cX6_breaths 85 = .ok (.getfield 7, 3) := by decide +kernel
theorem dX6_breaths_88 : decode cX6_breaths 88 = .ok (.iload 5, 2) := by decide +kernel
theorem dX6_breaths_90 : decode cX6_breaths 90 = .ok (.iconst 3, 1) := by decide +kernel
theorem dX6_breaths_91 : decode cX6_breaths 91 = .ok (.iadd, 1) := by decide +kernel
theorem dX6_breaths_92 : decode cX6_breaths 92 = .ok (.aload_n 0, 1) := by decide +kernel
theorem dX6_breaths_93 : decode cX6_breaths 93 = .ok (.getfield 7, 3) := by decide +kernel
theorem dX6_breaths_96 : decode cX6_breaths 96 = .ok (.iload 5, 2) := by decide +kernel
theorem dX6_breaths_98 : decode cX6_breaths 98 = .ok (.iconst 2, 1) := by decide +kernel
theorem dX6_breaths_99 : decode cX6_breaths 99 = .ok (.iadd, 1) := by decide +kernel
theorem dX6_breaths_100 : decode cX6_breaths 100 = .ok (.iaload, 1) := by decide +kernel
theorem dX6_breaths_101 : decode cX6_breaths 101 = .ok (.iastore, 1) := by decide +kernel
theorem dX6_breaths_102 : decode cX6_breaths 102 = .ok (.aload_n 0, 1) := by decide +kernel
theorem dX6_breaths_103 : decode cX6_breaths 103 = .ok (.getfield 7, 3) := by decide +kernel
theorem dX6_breaths_106 : decode cX6_breaths 106 = .ok (.iload 5, 2) := by decide +kernel
theorem dX6_breaths_108 : decode cX6_breaths 108 = .ok (.iconst 5, 1) := by decide +kernel
theorem dX6_breaths_109 : decode cX6_breaths 109 = .ok (.iadd, 1) := by decide +kernel
theorem dX6_breaths_110 : decode cX6_breaths 110 = .ok (.dup2, 1) := by decide +kernel
theorem dX6_breaths_111 : decode cX6_breaths 111 = .ok (.iaload, 1) := by decide +kernel
theorem dX6_breaths_112 : decode cX6_breaths 112 = .ok (.iconst 1, 1) := by decide +kernel
theorem dX6_breaths_113 : decode cX6_breaths 113 = .ok (.iadd, 1) := by decide +kernel
theorem dX6_breaths_114 : decode cX6_breaths 114 = .ok (.iastore, 1) := by decide +kernel
theorem dX6_breaths_115 : decode cX6_breaths 115 = .ok (.iinc 2 1, 3) := by decide +kernel
theorem dX6_breaths_118 : decode cX6_breaths 118 = .ok (.iinc 4 1, 3) := by decide +kernel
theorem dX6_breaths_121 : decode cX6_breaths 121 = .ok (.goto (-109), 3) := by decide +kernel
theorem dX6_breaths_124 : decode cX6_breaths 124 = .ok (.aload_n 0, 1) := by decide +kernel
theorem dX6_breaths_125 : decode cX6_breaths 125 = .ok (.getfield 7, 3) := by decide +kernel
theorem dX6_breaths_128 : decode cX6_breaths 128 = .ok (.iconst 4, 1) := by decide +kernel
theorem dX6_breaths_129 : decode cX6_breaths 129 = .ok (.dup2, 1) := by decide +kernel
theorem dX6_breaths_130 : decode cX6_breaths 130 = .ok (.iaload, 1) := by decide +kernel
theorem dX6_breaths_131 : decode cX6_breaths 131 = .ok (.iconst 1, 1) := by decide +kernel
theorem dX6_breaths_132 : decode cX6_breaths 132 = .ok (.iadd, 1) := by decide +kernel
theorem dX6_breaths_133 : decode cX6_breaths 133 = .ok (.iastore, 1) := by decide +kernel
theorem dX6_breaths_134 : decode cX6_breaths 134 = .ok (.iinc 3 1, 3) := by decide +kernel
theorem dX6_breaths_137 : decode cX6_breaths 137 = .ok (.goto (-133), 3) := by decide +kernel
theorem dX6_breaths_140 : decode cX6_breaths 140 = .ok (.aload_n 0, 1) := by decide +kernel
theorem dX6_breaths_141 : decode cX6_breaths 141 = .ok (.getfield 7, 3) := by decide +kernel
theorem dX6_breaths_144 : decode cX6_breaths 144 = .ok (.bipush 12, 2) := by decide +kernel
theorem dX6_breaths_146 : decode cX6_breaths 146 = .ok (.dup2, 1) := by decide +kernel
theorem dX6_breaths_147 : decode cX6_breaths 147 = .ok (.iaload, 1) := by decide +kernel
theorem dX6_breaths_148 : decode cX6_breaths 148 = .ok (.iload_n 2, 1) := by decide +kernel
theorem dX6_breaths_149 : decode cX6_breaths 149 = .ok (.iadd, 1) := by decide +kernel
theorem dX6_breaths_150 : decode cX6_breaths 150 = .ok (.iastore, 1) := by decide +kernel
theorem dX6_breaths_151 : decode cX6_breaths 151 = .ok (.iload_n 2, 1) := by decide +kernel
theorem dX6_breaths_152 : decode cX6_breaths 152 = .ok (.ireturn, 1) := by decide +kernel
theorem dX6_drinks_0 : decode cX6_drinks 0 = .ok (.aload_n 0, 1) := by decide +kernel
theorem dX6_drinks_1 : decode cX6_drinks 1 = .ok (.getfield 7, 3) := by decide +kernel
theorem dX6_drinks_4 : decode cX6_drinks 4 = .ok (.iload_n 1, 1) := by decide +kernel
theorem dX6_drinks_5 : decode cX6_drinks 5 = .ok (.invokestatic 46, 3) := by decide +kernel
theorem dX6_drinks_8 : decode cX6_drinks 8 = .ok (.iconst 4, 1) := by decide +kernel
theorem dX6_drinks_9 : decode cX6_drinks 9 = .ok (.iadd, 1) := by decide +kernel
theorem dX6_drinks_10 : decode cX6_drinks 10 = .ok (.dup2, 1) := by decide +kernel
theorem dX6_drinks_11 : decode cX6_drinks 11 = .ok (.iaload, 1) := by decide +kernel
theorem dX6_drinks_12 : decode cX6_drinks 12 = .ok (.iconst 1, 1) := by decide +kernel
theorem dX6_drinks_13 : decode cX6_drinks 13 = .ok (.iadd, 1) := by decide +kernel
theorem dX6_drinks_14 : decode cX6_drinks 14 = .ok (.iastore, 1) := by decide +kernel
theorem dX6_drinks_15 : decode cX6_drinks 15 = .ok (.aload_n 0, 1) := by decide +kernel
theorem dX6_drinks_16 : decode cX6_drinks 16 = .ok (.getfield 7, 3) := by decide +kernel
theorem dX6_drinks_19 : decode cX6_drinks 19 = .ok (.bipush 6, 2) := by decide +kernel
theorem dX6_drinks_21 : decode cX6_drinks 21 = .ok (.dup2, 1) := by decide +kernel
theorem dX6_drinks_22 : decode cX6_drinks 22 = .ok (.iaload, 1) := by decide +kernel
theorem dX6_drinks_23 : decode cX6_drinks 23 = .ok (.iconst 1, 1) := by decide +kernel
theorem dX6_drinks_24 : decode cX6_drinks 24 = .ok (.iadd, 1) := by decide +kernel
theorem dX6_drinks_25 : decode cX6_drinks 25 = .ok (.iastore, 1) := by decide +kernel
theorem dX6_drinks_26 : decode cX6_drinks 26 = .ok (.aload_n 0, 1) := by decide +kernel
theorem dX6_drinks_27 : decode cX6_drinks 27 = .ok (.aload_n 0, 1) := by decide +kernel
theorem dX6_drinks_28 : decode cX6_drinks 28 = .ok (.getfield 7, 3) := by decide +kernel
theorem dX6_drinks_31 : decode cX6_drinks 31 = .ok (.iconst 0, 1) := by decide +kernel
theorem dX6_drinks_32 : decode cX6_drinks 32 = .ok (.iaload, 1) := by decide +kernel
theorem dX6_drinks_33 : decode cX6_drinks 33 = .ok (.invokevirtual 68, 3) := by decide +kernel
theorem dX6_drinks_36 : decode cX6_drinks 36 = .ok (.istore_n 2, 1) := by decide +kernel
theorem dX6_drinks_37 : decode cX6_drinks 37 = .ok (.return_, 1) := by decide +kernel
theorem dX6_comes_0 : decode cX6_comes 0 = .ok (.iload_n 1, 1) := by decide +kernel
theorem dX6_comes_1 : decode cX6_comes 1 = .ok (.iconst 1, 1) := by decide +kernel
theorem dX6_comes_2 : decode cX6_comes 2 = .ok (.bipush 30, 2) := by decide +kernel
theorem dX6_comes_4 : decode cX6_comes 4 = .ok (.invokestatic 42, 3) := by decide +kernel
theorem dX6_comes_7 : decode cX6_comes 7 = .ok (.ifCond .ne 6, 3) := by decide +kernel
theorem dX6_comes_10 : decode cX6_comes 10 = .ok (.bipush (-2), 2) := by decide +kernel
theorem dX6_comes_12 : decode cX6_comes 12 = .ok (.ireturn, 1) := by decide +kernel
theorem dX6_comes_13 : decode cX6_comes 13 = .ok (.aload_n 0, 1) := by decide +kernel
theorem dX6_comes_14 : decode cX6_comes 14 = .ok (.invokevirtual 71, 3) := by decide +kernel
theorem dX6_comes_17 : decode cX6_comes 17 = .ok (.istore_n 2, 1) := by decide +kernel
theorem dX6_comes_18 : decode cX6_comes 18 = .ok (.iload_n 2, 1) := by decide +kernel
theorem dX6_comes_19 : decode cX6_comes 19 = .ok (.bipush 9, 2) := by decide +kernel
theorem dX6_comes_21 : decode cX6_comes 21 = .ok (.if_icmp .ne 6, 3) := by decide +kernel
theorem dX6_comes_24 : decode cX6_comes 24 = .ok (.bipush (-4), 2) := by decide +kernel
theorem dX6_comes_26 : decode cX6_comes 26 = .ok (.ireturn, 1) := by decide +kernel
theorem dX6_comes_27 : decode cX6_comes 27 = .ok (.iconst 0, 1) := by decide +kernel
theorem dX6_comes_28 : decode cX6_comes 28 = .ok (.istore_n 3, 1) := by decide +kernel
theorem dX6_comes_29 : decode cX6_comes 29 = .ok (.aload_n 0, 1) := by decide +kernel
theorem dX6_comes_30 : decode cX6_comes 30 = .ok (.iload_n 3, 1) := by decide +kernel
theorem dX6_comes_31 : decode cX6_comes 31 = .ok (.invokevirtual 57, 3) := by decide +kernel
theorem dX6_comes_34 : decode cX6_comes 34 = .ok (.ifCond .eq 9, 3) := by decide +kernel
theorem dX6_comes_37 : decode cX6_comes 37 = .ok (.iinc 3 1, 3) := by decide +kernel
theorem dX6_comes_40 : decode cX6_comes 40 = .ok (.goto (-11), 3) := by decide +kernel
theorem dX6_comes_43 : decode cX6_comes 43 = .ok (.iconst 0, 1) := by decide +kernel
theorem dX6_comes_44 : decode cX6_comes 44 = .ok (.istore 4, 2) := by decide +kernel
theorem dX6_comes_46 : decode cX6_comes 46 = .ok (.iload 4, 2) := by decide +kernel
theorem dX6_comes_48 : decode cX6_comes 48 = .ok (.bipush 17, 2) := by decide +kernel
theorem dX6_comes_50 : decode cX6_comes 50 = .ok (.if_icmp .ge 22, 3) := by decide +kernel
theorem dX6_comes_53 : decode cX6_comes 53 = .ok (.aload_n 0, 1) := by decide +kernel
theorem dX6_comes_54 : decode cX6_comes 54 = .ok (.getfield 7, 3) := by decide +kernel
theorem dX6_comes_57 : decode cX6_comes 57 = .ok (.iload_n 3, 1) := by decide +kernel
theorem dX6_comes_58 : decode cX6_comes 58 = .ok (.invokestatic 46, 3) := by decide +kernel
theorem dX6_comes_61 : decode cX6_comes 61 = .ok (.iload 4, 2) := by decide +kernel
theorem dX6_comes_63 : decode cX6_comes 63 = .ok (.iadd, 1) := by decide +kernel
theorem dX6_comes_64 : decode cX6_comes 64 = .ok (.iconst 0, 1) := by decide +kernel
theorem dX6_comes_65 : decode cX6_comes 65 = .ok (.iastore, 1) := by decide +kernel
theorem dX6_comes_66 : decode cX6_comes 66 = .ok (.iinc 4 1, 3) := by decide +kernel
theorem dX6_comes_69 : decode cX6_comes 69 = .ok (.goto (-23), 3) := by decide +kernel
theorem dX6_comes_72 : decode cX6_comes 72 = .ok (.aload_n 0, 1) := by decide +kernel
theorem dX6_comes_73 : decode cX6_comes 73 = .ok (.getfield 7, 3) := by decide +kernel
theorem dX6_comes_76 : decode cX6_comes 76 = .ok (.iload_n 3, 1) := by decide +kernel
theorem dX6_comes_77 : decode cX6_comes 77 = .ok (.invokestatic 46, 3) := by decide +kernel
theorem dX6_comes_80 : decode cX6_comes 80 = .ok (.iconst 1, 1) := by decide +kernel
theorem dX6_comes_81 : decode cX6_comes 81 = .ok (.iastore, 1) := by decide +kernel
theorem dX6_comes_82 : decode cX6_comes 82 = .ok (.aload_n 0, 1) := by decide +kernel
theorem dX6_comes_83 : decode cX6_comes 83 = .ok (.getfield 7, 3) := by decide +kernel
theorem dX6_comes_86 : decode cX6_comes 86 = .ok (.iload_n 3, 1) := by decide +kernel
theorem dX6_comes_87 : decode cX6_comes 87 = .ok (.invokestatic 46, 3) := by decide +kernel
theorem dX6_comes_90 : decode cX6_comes 90 = .ok (.iconst 1, 1) := by decide +kernel
theorem dX6_comes_91 : decode cX6_comes 91 = .ok (.iadd, 1) := by decide +kernel
theorem dX6_comes_92 : decode cX6_comes 92 = .ok (.iload_n 2, 1) := by decide +kernel
theorem dX6_comes_93 : decode cX6_comes 93 = .ok (.iastore, 1) := by decide +kernel
theorem dX6_comes_94 : decode cX6_comes 94 = .ok (.aload_n 0, 1) := by decide +kernel
theorem dX6_comes_95 : decode cX6_comes 95 = .ok (.getfield 7, 3) := by decide +kernel
theorem dX6_comes_98 : decode cX6_comes 98 = .ok (.iload_n 3, 1) := by decide +kernel
theorem dX6_comes_99 : decode cX6_comes 99 = .ok (.invokestatic 46, 3) := by decide +kernel
theorem dX6_comes_102 : decode cX6_comes 102 = .ok (.iconst 2, 1) := by decide +kernel
theorem dX6_comes_103 : decode cX6_comes 103 = .ok (.iadd, 1) := by decide +kernel
theorem dX6_comes_104 : decode cX6_comes 104 = .ok (.iload_n 1, 1) := by decide +kernel
theorem dX6_comes_105 : decode cX6_comes 105 = .ok (.iastore, 1) := by decide +kernel
theorem dX6_comes_106 : decode cX6_comes 106 = .ok (.iload_n 3, 1) := by decide +kernel
theorem dX6_comes_107 : decode cX6_comes 107 = .ok (.ireturn, 1) := by decide +kernel
theorem dX6_leaves_0 : decode cX6_leaves 0 = .ok (.aload_n 0, 1) := by decide +kernel
theorem dX6_leaves_1 : decode cX6_leaves 1 = .ok (.iload_n 1, 1) := by decide +kernel
theorem dX6_leaves_2 : decode cX6_leaves 2 = .ok (.invokevirtual 57, 3) := by decide +kernel
theorem dX6_leaves_5 : decode cX6_leaves 5 = .ok (.ifCond .ne 5, 3) := by decide +kernel
theorem dX6_leaves_8 : decode cX6_leaves 8 = .ok (.iconst (-1), 1) := by decide +kernel
theorem dX6_leaves_9 : decode cX6_leaves 9 = .ok (.ireturn, 1) := by decide +kernel
theorem dX6_leaves_10 : decode cX6_leaves 10 = .ok (.aload_n 0, 1) := by decide +kernel
theorem dX6_leaves_11 : decode cX6_leaves 11 = .ok (.getfield 7, 3) := by decide +kernel
theorem dX6_leaves_14 : decode cX6_leaves 14 = .ok (.iload_n 1, 1) := by decide +kernel
theorem dX6_leaves_15 : decode cX6_leaves 15 = .ok (.invokestatic 46, 3) := by decide +kernel
theorem dX6_leaves_18 : decode cX6_leaves 18 = .ok (.iconst 1, 1) := by decide +kernel
theorem dX6_leaves_19 : decode cX6_leaves 19 = .ok (.iadd, 1) := by decide +kernel
theorem dX6_leaves_20 : decode cX6_leaves 20 = .ok (.iaload, 1) := by decide +kernel
theorem dX6_leaves_21 : decode cX6_leaves 21 = .ok (.istore_n 2, 1) := by decide +kernel
theorem dX6_leaves_22 : decode cX6_leaves 22 = .ok (.aload_n 0, 1) := by decide +kernel
theorem dX6_leaves_23 : decode cX6_leaves 23 = .ok (.getfield 7, 3) := by decide +kernel
theorem dX6_leaves_26 : decode cX6_leaves 26 = .ok (.bipush 8, 2) := by decide +kernel
theorem dX6_leaves_28 : decode cX6_leaves 28 = .ok (.dup2, 1) := by decide +kernel
theorem dX6_leaves_29 : decode cX6_leaves 29 = .ok (.iaload, 1) := by decide +kernel
theorem dX6_leaves_30 : decode cX6_leaves 30 = .ok (.aload_n 0, 1) := by decide +kernel
theorem dX6_leaves_31 : decode cX6_leaves 31 = .ok (.iload_n 1, 1) := by decide +kernel
theorem dX6_leaves_32 : decode cX6_leaves 32 = .ok (.invokevirtual 54, 3) := by decide +kernel
theorem dX6_leaves_35 : decode cX6_leaves 35 = .ok (.aload_n 0, 1) := by decide +kernel
theorem dX6_leaves_36 : decode cX6_leaves 36 = .ok (.iload_n 1, 1) := by decide +kernel
theorem dX6_leaves_37 : decode cX6_leaves 37 = .ok (.invokevirtual 75, 3) := by decide +kernel
theorem dX6_leaves_40 : decode cX6_leaves 40 = .ok (.iadd, 1) := by decide +kernel
theorem dX6_leaves_41 : decode cX6_leaves 41 = .ok (.iadd, 1) := by decide +kernel
theorem dX6_leaves_42 : decode cX6_leaves 42 = .ok (.iastore, 1) := by decide +kernel
theorem dX6_leaves_43 : decode cX6_leaves 43 = .ok (.iconst 0, 1) := by decide +kernel
theorem dX6_leaves_44 : decode cX6_leaves 44 = .ok (.istore_n 3, 1) := by decide +kernel
theorem dX6_leaves_45 : decode cX6_leaves 45 = .ok (.iload_n 3, 1) := by decide +kernel
theorem dX6_leaves_46 : decode cX6_leaves 46 = .ok (.bipush 9, 2) := by decide +kernel
theorem dX6_leaves_48 : decode cX6_leaves 48 = .ok (.if_icmp .ge 58, 3) := by decide +kernel
theorem dX6_leaves_51 : decode cX6_leaves 51 = .ok (.aload_n 0, 1) := by decide +kernel
theorem dX6_leaves_52 : decode cX6_leaves 52 = .ok (.getfield 7, 3) := by decide +kernel
theorem dX6_leaves_55 : decode cX6_leaves 55 = .ok (.iload_n 3, 1) := by decide +kernel
theorem dX6_leaves_56 : decode cX6_leaves 56 = .ok (.invokestatic 46, 3) := by decide +kernel
theorem dX6_leaves_59 : decode cX6_leaves 59 = .ok (.iconst 1, 1) := by decide +kernel
theorem dX6_leaves_60 : decode cX6_leaves 60 = .ok (.iadd, 1) := by decide +kernel
theorem dX6_leaves_61 : decode cX6_leaves 61 = .ok (.dup2, 1) := by decide +kernel
theorem dX6_leaves_62 : decode cX6_leaves 62 = .ok (.iaload, 1) := by decide +kernel
theorem dX6_leaves_63 : decode cX6_leaves 63 = .ok (.aload_n 0, 1) := by decide +kernel
theorem dX6_leaves_64 : decode cX6_leaves 64 = .ok (.getfield 7, 3) := by decide +kernel
theorem dX6_leaves_67 : decode cX6_leaves 67 = .ok (.iload_n 3, 1) := by decide +kernel
theorem dX6_leaves_68 : decode cX6_leaves 68 = .ok (.invokestatic 46, 3) := by decide +kernel
theorem dX6_leaves_71 : decode cX6_leaves 71 = .ok (.iconst 1, 1) := by decide +kernel
theorem dX6_leaves_72 : decode cX6_leaves 72 = .ok (.iadd, 1) := by decide +kernel
theorem dX6_leaves_73 : decode cX6_leaves 73 = .ok (.iaload, 1) := by decide +kernel
theorem dX6_leaves_74 : decode cX6_leaves 74 = .ok (.iload_n 2, 1) := by decide +kernel
theorem dX6_leaves_75 : decode cX6_leaves 75 = .ok (.if_icmp .le 7, 3) := by decide +kernel
theorem dX6_leaves_78 : decode cX6_leaves 78 = .ok (.iconst 1, 1) := by decide +kernel
theorem dX6_leaves_79 : decode cX6_leaves 79 = .ok (.goto 4, 3) := by decide +kernel
theorem dX6_leaves_82 : decode cX6_leaves 82 = .ok (.iconst 0, 1) := by decide +kernel
theorem dX6_leaves_83 : decode cX6_leaves 83 = .ok (.isub, 1) := by decide +kernel
theorem dX6_leaves_84 : decode cX6_leaves 84 = .ok (.iastore, 1) := by decide +kernel
theorem dX6_leaves_85 : decode cX6_leaves 85 = .ok (.aload_n 0, 1) := by decide +kernel
theorem dX6_leaves_86 : decode cX6_leaves 86 = .ok (.getfield 7, 3) := by decide +kernel
theorem dX6_leaves_89 : decode cX6_leaves 89 = .ok (.iload_n 3, 1) := by decide +kernel
theorem dX6_leaves_90 : decode cX6_leaves 90 = .ok (.invokestatic 46, 3) := by decide +kernel
theorem dX6_leaves_93 : decode cX6_leaves 93 = .ok (.bipush 8, 2) := by decide +kernel
theorem dX6_leaves_95 : decode cX6_leaves 95 = .ok (.iadd, 1) := by decide +kernel
theorem dX6_leaves_96 : decode cX6_leaves 96 = .ok (.iload_n 1, 1) := by decide +kernel
theorem dX6_leaves_97 : decode cX6_leaves 97 = .ok (.iadd, 1) := by decide +kernel
theorem dX6_leaves_98 : decode cX6_leaves 98 = .ok (.iconst 0, 1) := by decide +kernel
theorem dX6_leaves_99 : decode cX6_leaves 99 = .ok (.iastore, 1) := by decide +kernel
theorem dX6_leaves_100 : decode cX6_leaves 100 = .ok (.iinc 3 1, 3) := by decide +kernel
theorem dX6_leaves_103 : decode cX6_leaves 103 = .ok (.goto (-58), 3) := by decide +kernel
theorem dX6_leaves_106 : decode cX6_leaves 106 = .ok (.iconst 0, 1) := by decide +kernel
theorem dX6_leaves_107 : decode cX6_leaves 107 = .ok (.istore_n 3, 1) := by decide +kernel
theorem dX6_leaves_108 : decode cX6_leaves 108 = .ok (.iload_n 3, 1) := by decide +kernel
theorem dX6_leaves_109 : decode cX6_leaves 109 = .ok (.bipush 17, 2) := by decide +kernel
theorem dX6_leaves_111 : decode cX6_leaves 111 = .ok (.if_icmp .ge 21, 3) := by decide +kernel
theorem dX6_leaves_114 : decode cX6_leaves 114 = .ok (.aload_n 0, 1) := by decide +kernel
theorem dX6_leaves_115 : decode cX6_leaves 115 = .ok (.getfield 7, 3) := by decide +kernel
theorem dX6_leaves_118 : decode cX6_leaves 118 = .ok (.iload_n 1, 1) := by decide +kernel
theorem dX6_leaves_119 : decode cX6_leaves 119 = .ok (.invokestatic 46, 3) := by decide +kernel
theorem dX6_leaves_122 : decode cX6_leaves 122 = .ok (.iload_n 3, 1) := by decide +kernel
theorem dX6_leaves_123 : decode cX6_leaves 123 = .ok (.iadd, 1) := by decide +kernel
theorem dX6_leaves_124 : decode cX6_leaves 124 = .ok (.iconst 0, 1) := by decide +kernel
theorem dX6_leaves_125 : decode cX6_leaves 125 = .ok (.iastore, 1) := by decide +kernel
theorem dX6_leaves_126 : decode cX6_leaves 126 = .ok (.iinc 3 1, 3) := by decide +kernel
theorem dX6_leaves_129 : decode cX6_leaves 129 = .ok (.goto (-21), 3) := by decide +kernel
theorem dX6_leaves_132 : decode cX6_leaves 132 = .ok (.iload_n 2, 1) := by decide +kernel
theorem dX6_leaves_133 : decode cX6_leaves 133 = .ok (.ireturn, 1) := by decide +kernel
theorem dX6_says_0 : decode cX6_says 0 = .ok (.aload_n 0, 1) := by decide +kernel
theorem dX6_says_1 : decode cX6_says 1 = .ok (.iload_n 1, 1) := by decide +kernel
theorem dX6_says_2 : decode cX6_says 2 = .ok (.invokevirtual 57, 3) := by decide +kernel
theorem dX6_says_5 : decode cX6_says 5 = .ok (.ifCond .ne 5, 3) := by decide +kernel
theorem dX6_says_8 : decode cX6_says 8 = .ok (.iconst (-1), 1) := by decide +kernel
theorem dX6_says_9 : decode cX6_says 9 = .ok (.ireturn, 1) := by decide +kernel
theorem dX6_says_10 : decode cX6_says 10 = .ok (.aload_n 0, 1) := by decide +kernel
theorem dX6_says_11 : decode cX6_says 11 = .ok (.getfield 7, 3) := by decide +kernel
theorem dX6_says_14 : decode cX6_says 14 = .ok (.iload_n 1, 1) := by decide +kernel
theorem dX6_says_15 : decode cX6_says 15 = .ok (.invokestatic 46, 3) := by decide +kernel
theorem dX6_says_18 : decode cX6_says 18 = .ok (.iconst 3, 1) := by decide +kernel
theorem dX6_says_19 : decode cX6_says 19 = .ok (.iadd, 1) := by decide +kernel
theorem dX6_says_20 : decode cX6_says 20 = .ok (.iaload, 1) := by decide +kernel
theorem dX6_says_21 : decode cX6_says 21 = .ok (.istore_n 2, 1) := by decide +kernel
theorem dX6_says_22 : decode cX6_says 22 = .ok (.aload_n 0, 1) := by decide +kernel
theorem dX6_says_23 : decode cX6_says 23 = .ok (.getfield 7, 3) := by decide +kernel
theorem dX6_says_26 : decode cX6_says 26 = .ok (.iload_n 1, 1) := by decide +kernel
theorem dX6_says_27 : decode cX6_says 27 = .ok (.invokestatic 46, 3) := by decide +kernel
theorem dX6_says_30 : decode cX6_says 30 = .ok (.iconst 3, 1) := by decide +kernel
theorem dX6_says_31 : decode cX6_says 31 = .ok (.iadd, 1) := by decide +kernel
theorem dX6_says_32 : decode cX6_says 32 = .ok (.iconst 0, 1) := by decide +kernel
theorem dX6_says_33 : decode cX6_says 33 = .ok (.iastore, 1) := by decide +kernel
theorem dX6_says_34 : decode cX6_says 34 = .ok (.aload_n 0, 1) := by decide +kernel
theorem dX6_says_35 : decode cX6_says 35 = .ok (.getfield 7, 3) := by decide +kernel
theorem dX6_says_38 : decode cX6_says 38 = .ok (.iload_n 1, 1) := by decide +kernel
theorem dX6_says_39 : decode cX6_says 39 = .ok (.invokestatic 46, 3) := by decide +kernel
theorem dX6_says_42 : decode cX6_says 42 = .ok (.bipush 6, 2) := by decide +kernel
theorem dX6_says_44 : decode cX6_says 44 = .ok (.iadd, 1) := by decide +kernel
theorem dX6_says_45 : decode cX6_says 45 = .ok (.dup2, 1) := by decide +kernel
theorem dX6_says_46 : decode cX6_says 46 = .ok (.iaload, 1) := by decide +kernel
theorem dX6_says_47 : decode cX6_says 47 = .ok (.iconst 1, 1) := by decide +kernel
theorem dX6_says_48 : decode cX6_says 48 = .ok (.iadd, 1) := by decide +kernel
theorem dX6_says_49 : decode cX6_says 49 = .ok (.iastore, 1) := by decide +kernel
theorem dX6_says_50 : decode cX6_says 50 = .ok (.aload_n 0, 1) := by decide +kernel
theorem dX6_says_51 : decode cX6_says 51 = .ok (.getfield 7, 3) := by decide +kernel
theorem dX6_says_54 : decode cX6_says 54 = .ok (.bipush 11, 2) := by decide +kernel
theorem dX6_says_56 : decode cX6_says 56 = .ok (.dup2, 1) := by decide +kernel
theorem dX6_says_57 : decode cX6_says 57 = .ok (.iaload, 1) := by decide +kernel
theorem dX6_says_58 : decode cX6_says 58 = .ok (.iconst 1, 1) := by decide +kernel
theorem dX6_says_59 : decode cX6_says 59 = .ok (.iadd, 1) := by decide +kernel
theorem dX6_says_60 : decode cX6_says 60 = .ok (.iastore, 1) := by decide +kernel
theorem dX6_says_61 : decode cX6_says 61 = .ok (.iload_n 2, 1) := by decide +kernel
theorem dX6_says_62 : decode cX6_says 62 = .ok (.ireturn, 1) := by decide +kernel
theorem dX6_pair_0 : decode cX6_pair 0 = .ok (.aload_n 0, 1) := by decide +kernel
theorem dX6_pair_1 : decode cX6_pair 1 = .ok (.iload_n 1, 1) := by decide +kernel
theorem dX6_pair_2 : decode cX6_pair 2 = .ok (.invokevirtual 57, 3) := by decide +kernel
theorem dX6_pair_5 : decode cX6_pair 5 = .ok (.ifCond .eq 11, 3) := by decide +kernel
theorem dX6_pair_8 : decode cX6_pair 8 = .ok (.aload_n 0, 1) := by decide +kernel
theorem dX6_pair_9 : decode cX6_pair 9 = .ok (.iload_n 2, 1) := by decide +kernel
theorem dX6_pair_10 : decode cX6_pair 10 = .ok (.invokevirtual 57, 3) := by decide +kernel
theorem dX6_pair_13 : decode cX6_pair 13 = .ok (.ifCond .ne 7, 3) := by decide +kernel
theorem dX6_pair_16 : decode cX6_pair 16 = .ok (.iconst (-1), 1) := by decide +kernel
theorem dX6_pair_17 : decode cX6_pair 17 = .ok (.goto 14, 3) := by decide +kernel
theorem dX6_pair_20 : decode cX6_pair 20 = .ok (.iload_n 1, 1) := by decide +kernel
theorem dX6_pair_21 : decode cX6_pair 21 = .ok (.iload_n 2, 1) := by decide +kernel
theorem dX6_pair_22 : decode cX6_pair 22 = .ok (.if_icmp .ne 8, 3) := by decide +kernel
theorem dX6_pair_25 : decode cX6_pair 25 = .ok (.bipush (-2), 2) := by decide +kernel
theorem dX6_pair_27 : decode cX6_pair 27 = .ok (.goto 4, 3) := by decide +kernel
theorem dX6_pair_30 : decode cX6_pair 30 = .ok (.iconst 0, 1) := by decide +kernel
theorem dX6_pair_31 : decode cX6_pair 31 = .ok (.ireturn, 1) := by decide +kernel
theorem dX6_bows_0 : decode cX6_bows 0 = .ok (.aload_n 0, 1) := by decide +kernel
theorem dX6_bows_1 : decode cX6_bows 1 = .ok (.iload_n 1, 1) := by decide +kernel
theorem dX6_bows_2 : decode cX6_bows 2 = .ok (.iload_n 2, 1) := by decide +kernel
theorem dX6_bows_3 : decode cX6_bows 3 = .ok (.invokevirtual 78, 3) := by decide +kernel
theorem dX6_bows_6 : decode cX6_bows 6 = .ok (.istore_n 3, 1) := by decide +kernel
theorem dX6_bows_7 : decode cX6_bows 7 = .ok (.iload_n 3, 1) := by decide +kernel
theorem dX6_bows_8 : decode cX6_bows 8 = .ok (.ifCond .ge 5, 3) := by decide +kernel
theorem dX6_bows_11 : decode cX6_bows 11 = .ok (.iload_n 3, 1) := by decide +kernel
theorem dX6_bows_12 : decode cX6_bows 12 = .ok (.ireturn, 1) := by decide +kernel
theorem dX6_bows_13 : decode cX6_bows 13 = .ok (.iload_n 1, 1) := by decide +kernel
theorem dX6_bows_14 : decode cX6_bows 14 = .ok (.invokestatic 46, 3) := by decide +kernel
theorem dX6_bows_17 : decode cX6_bows 17 = .ok (.bipush 8, 2) := by decide +kernel
theorem dX6_bows_19 : decode cX6_bows 19 = .ok (.iadd, 1) := by decide +kernel
theorem dX6_bows_20 : decode cX6_bows 20 = .ok (.iload_n 2, 1) := by decide +kernel
theorem dX6_bows_21 : decode cX6_bows 21 = .ok (.iadd, 1) := by decide +kernel
theorem dX6_bows_22 : decode cX6_bows 22 = .ok (.istore 4, 2) := by decide +kernel
theorem dX6_bows_24 : decode cX6_bows 24 = .ok (.aload_n 0, 1) := by decide +kernel
theorem dX6_bows_25 : decode cX6_bows 25 = .ok (.getfield 7, 3) := by decide +kernel
theorem dX6_bows_28 : decode cX6_bows 28 = .ok (.iload 4, 2) := by decide +kernel
theorem dX6_bows_30 : decode cX6_bows 30 = .ok (.iaload, 1) := by decide +kernel
theorem dX6_bows_31 : decode cX6_bows 31 = .ok (.ifCond .ne 6, 3) := by decide +kernel
theorem dX6_bows_34 : decode cX6_bows 34 = .ok (.bipush (-5), 2) := by decide +kernel
theorem dX6_bows_36 : decode cX6_bows 36 = .ok (.ireturn, 1) := by decide +kernel
theorem dX6_bows_37 : decode cX6_bows 37 = .ok (.aload_n 0, 1) := by decide +kernel
theorem dX6_bows_38 : decode cX6_bows 38 = .ok (.getfield 7, 3) := by decide +kernel
theorem dX6_bows_41 : decode cX6_bows 41 = .ok (.iload 4, 2) := by decide +kernel
theorem dX6_bows_43 : decode cX6_bows 43 = .ok (.dup2, 1) := by decide +kernel
theorem dX6_bows_44 : decode cX6_bows 44 = .ok (.iaload, 1) := by decide +kernel
theorem dX6_bows_45 : decode cX6_bows 45 = .ok (.iconst 1, 1) := by decide +kernel
theorem dX6_bows_46 : decode cX6_bows 46 = .ok (.isub, 1) := by decide +kernel
theorem dX6_bows_47 : decode cX6_bows 47 = .ok (.iastore, 1) := by decide +kernel
theorem dX6_bows_48 : decode cX6_bows 48 = .ok (.aload_n 0, 1) := by decide +kernel
theorem dX6_bows_49 : decode cX6_bows 49 = .ok (.getfield 7, 3) := by decide +kernel
theorem dX6_bows_52 : decode cX6_bows 52 = .ok (.iload_n 1, 1) := by decide +kernel
theorem dX6_bows_53 : decode cX6_bows 53 = .ok (.invokestatic 46, 3) := by decide +kernel
theorem dX6_bows_56 : decode cX6_bows 56 = .ok (.bipush 7, 2) := by decide +kernel
theorem dX6_bows_58 : decode cX6_bows 58 = .ok (.iadd, 1) := by decide +kernel
theorem dX6_bows_59 : decode cX6_bows 59 = .ok (.dup2, 1) := by decide +kernel
theorem dX6_bows_60 : decode cX6_bows 60 = .ok (.iaload, 1) := by decide +kernel
theorem dX6_bows_61 : decode cX6_bows 61 = .ok (.iconst 1, 1) := by decide +kernel
theorem dX6_bows_62 : decode cX6_bows 62 = .ok (.iadd, 1) := by decide +kernel
theorem dX6_bows_63 : decode cX6_bows 63 = .ok (.iastore, 1) := by decide +kernel
theorem dX6_bows_64 : decode cX6_bows 64 = .ok (.aload_n 0, 1) := by decide +kernel
theorem dX6_bows_65 : decode cX6_bows 65 = .ok (.getfield 7, 3) := by decide +kernel
theorem dX6_bows_68 : decode cX6_bows 68 = .ok (.bipush 7, 2) := by decide +kernel
theorem dX6_bows_70 : decode cX6_bows 70 = .ok (.dup2, 1) := by decide +kernel
theorem dX6_bows_71 : decode cX6_bows 71 = .ok (.iaload, 1) := by decide +kernel
theorem dX6_bows_72 : decode cX6_bows 72 = .ok (.iconst 1, 1) := by decide +kernel
theorem dX6_bows_73 : decode cX6_bows 73 = .ok (.iadd, 1) := by decide +kernel
theorem dX6_bows_74 : decode cX6_bows 74 = .ok (.iastore, 1) := by decide +kernel
theorem dX6_bows_75 : decode cX6_bows 75 = .ok (.aload_n 0, 1) := by decide +kernel
theorem dX6_bows_76 : decode cX6_bows 76 = .ok (.getfield 7, 3) := by decide +kernel
theorem dX6_bows_79 : decode cX6_bows 79 = .ok (.iload 4, 2) := by decide +kernel
theorem dX6_bows_81 : decode cX6_bows 81 = .ok (.iaload, 1) := by decide +kernel
theorem dX6_bows_82 : decode cX6_bows 82 = .ok (.ireturn, 1) := by decide +kernel
theorem dX6_offers_0 : decode cX6_offers 0 = .ok (.aload_n 0, 1) := by decide +kernel
theorem dX6_offers_1 : decode cX6_offers 1 = .ok (.iload_n 1, 1) := by decide +kernel
theorem dX6_offers_2 : decode cX6_offers 2 = .ok (.iload_n 2, 1) := by decide +kernel
theorem dX6_offers_3 : decode cX6_offers 3 = .ok (.invokevirtual 78, 3) := by decide +kernel
theorem dX6_offers_6 : decode cX6_offers 6 = .ok (.istore_n 3, 1) := by decide +kernel
theorem dX6_offers_7 : decode cX6_offers 7 = .ok (.iload_n 3, 1) := by decide +kernel
theorem dX6_offers_8 : decode cX6_offers 8 = .ok (.ifCond .ge 5, 3) := by decide +kernel
theorem dX6_offers_11 : decode cX6_offers 11 = .ok (.iload_n 3, 1) := by decide +kernel
theorem dX6_offers_12 : decode cX6_offers 12 = .ok (.ireturn, 1) := by decide +kernel
theorem dX6_offers_13 : decode cX6_offers 13 = .ok (.aload_n 0, 1) := by decide +kernel
theorem dX6_offers_14 : decode cX6_offers 14 = .ok (.iload_n 2, 1) := by decide +kernel
theorem dX6_offers_15 : decode cX6_offers 15 = .ok (.invokevirtual 82, 3) := by decide +kernel
theorem dX6_offers_18 : decode cX6_offers 18 = .ok (.ifCond .gt 22, 3) := by decide +kernel
theorem dX6_offers_21 : decode cX6_offers 21 = .ok (.aload_n 0, 1) := by decide +kernel
theorem dX6_offers_22 : decode cX6_offers 22 = .ok (.getfield 7, 3) := by decide +kernel
theorem dX6_offers_25 : decode cX6_offers 25 = .ok (.iconst 4, 1) := by decide +kernel
theorem dX6_offers_26 : decode cX6_offers 26 = .ok (.iaload, 1) := by decide +kernel
theorem dX6_offers_27 : decode cX6_offers 27 = .ok (.aload_n 0, 1) := by decide +kernel
theorem dX6_offers_28 : decode cX6_offers 28 = .ok (.getfield 7, 3) := by decide +kernel
theorem dX6_offers_31 : decode cX6_offers 31 = .ok (.iconst 0, 1) := by decide +kernel
theorem dX6_offers_32 : decode cX6_offers 32 = .ok (.iaload, 1) := by decide +kernel
theorem dX6_offers_33 : decode cX6_offers 33 = .ok (.iadd, 1) := by decide +kernel
theorem dX6_offers_34 : decode cX6_offers 34 = .ok (.sipush 9999, 3) := by decide +kernel
theorem dX6_offers_37 : decode cX6_offers 37 = .ok (.if_icmp .le 6, 3) := by decide +kernel
theorem dX6_offers_40 : decode cX6_offers 40 = .ok (.bipush (-5), 2) := by decide +kernel
theorem dX6_offers_42 : decode cX6_offers 42 = .ok (.ireturn, 1) := by decide +kernel
theorem dX6_offers_43 : decode cX6_offers 43 = .ok (.aload_n 0, 1) := by decide +kernel
theorem dX6_offers_44 : decode cX6_offers 44 = .ok (.iload_n 2, 1) := by decide +kernel
theorem dX6_offers_45 : decode cX6_offers 45 = .ok (.invokevirtual 85, 3) := by decide +kernel
theorem dX6_offers_48 : decode cX6_offers 48 = .ok (.iload_n 2, 1) := by decide +kernel
theorem dX6_offers_49 : decode cX6_offers 49 = .ok (.invokestatic 46, 3) := by decide +kernel
theorem dX6_offers_52 : decode cX6_offers 52 = .ok (.bipush 8, 2) := by decide +kernel
theorem dX6_offers_54 : decode cX6_offers 54 = .ok (.iadd, 1) := by decide +kernel
theorem dX6_offers_55 : decode cX6_offers 55 = .ok (.iload_n 1, 1) := by decide +kernel
theorem dX6_offers_56 : decode cX6_offers 56 = .ok (.iadd, 1) := by decide +kernel
theorem dX6_offers_57 : decode cX6_offers 57 = .ok (.istore 4, 2) := by decide +kernel
theorem dX6_offers_59 : decode cX6_offers 59 = .ok (.iload_n 1, 1) := by decide +kernel
theorem dX6_offers_60 : decode cX6_offers 60 = .ok (.invokestatic 46, 3) := by decide +kernel
theorem dX6_offers_63 : decode cX6_offers 63 = .ok (.bipush 8, 2) := by decide +kernel
theorem dX6_offers_65 : decode cX6_offers 65 = .ok (.iadd, 1) := by decide +kernel
theorem dX6_offers_66 : decode cX6_offers 66 = .ok (.iload_n 2, 1) := by decide +kernel
theorem dX6_offers_67 : decode cX6_offers 67 = .ok (.iadd, 1) := by decide +kernel
theorem dX6_offers_68 : decode cX6_offers 68 = .ok (.istore 5, 2) := by decide +kernel
theorem dX6_offers_70 : decode cX6_offers 70 = .ok (.aload_n 0, 1) := by decide +kernel
theorem dX6_offers_71 : decode cX6_offers 71 = .ok (.getfield 7, 3) := by decide +kernel
theorem dX6_offers_74 : decode cX6_offers 74 = .ok (.iload 4, 2) := by decide +kernel
theorem dX6_offers_76 : decode cX6_offers 76 = .ok (.dup2, 1) := by decide +kernel
theorem dX6_offers_77 : decode cX6_offers 77 = .ok (.iaload, 1) := by decide +kernel
theorem dX6_offers_78 : decode cX6_offers 78 = .ok (.iconst 2, 1) := by decide +kernel
theorem dX6_offers_79 : decode cX6_offers 79 = .ok (.iadd, 1) := by decide +kernel
theorem dX6_offers_80 : decode cX6_offers 80 = .ok (.iastore, 1) := by decide +kernel
theorem dX6_offers_81 : decode cX6_offers 81 = .ok (.aload_n 0, 1) := by decide +kernel
theorem dX6_offers_82 : decode cX6_offers 82 = .ok (.getfield 7, 3) := by decide +kernel
theorem dX6_offers_85 : decode cX6_offers 85 = .ok (.bipush 10, 2) := by decide +kernel
theorem dX6_offers_87 : decode cX6_offers 87 = .ok (.dup2, 1) := by decide +kernel
theorem dX6_offers_88 : decode cX6_offers 88 = .ok (.iaload, 1) := by decide +kernel
theorem dX6_offers_89 : decode cX6_offers 89 = .ok (.iconst 2, 1) := by decide +kernel
theorem dX6_offers_90 : decode cX6_offers 90 = .ok (.iadd, 1) := by decide +kernel
theorem dX6_offers_91 : decode cX6_offers 91 = .ok (.iastore, 1) := by decide +kernel
theorem dX6_offers_92 : decode cX6_offers 92 = .ok (.aload_n 0, 1) := by decide +kernel
theorem dX6_offers_93 : decode cX6_offers 93 = .ok (.getfield 7, 3) := by decide +kernel
theorem dX6_offers_96 : decode cX6_offers 96 = .ok (.iload 4, 2) := by decide +kernel
theorem dX6_offers_98 : decode cX6_offers 98 = .ok (.iaload, 1) := by decide +kernel
theorem dX6_offers_99 : decode cX6_offers 99 = .ok (.aload_n 0, 1) := by decide +kernel
theorem dX6_offers_100 : decode cX6_offers 100 = .ok (.getfield 7, 3) := by decide +kernel
theorem dX6_offers_103 : decode cX6_offers 103 = .ok (.iload 5, 2) := by decide +kernel
theorem dX6_offers_105 : decode cX6_offers 105 = .ok (.iaload, 1) := by decide +kernel
theorem dX6_offers_106 : decode cX6_offers 106 = .ok (.if_icmp .ge 13, 3) := by decide +kernel
theorem dX6_offers_109 : decode cX6_offers 109 = .ok (.aload_n 0, 1) := by decide +kernel
theorem dX6_offers_110 : decode cX6_offers 110 = .ok (.getfield 7, 3) := by decide +kernel
theorem dX6_offers_113 : decode cX6_offers 113 = .ok (.iload 4, 2) := by decide +kernel
theorem dX6_offers_115 : decode cX6_offers 115 = .ok (.iaload, 1) := by decide +kernel
theorem dX6_offers_116 : decode cX6_offers 116 = .ok (.goto 10, 3) := by decide +kernel
theorem dX6_offers_119 : decode cX6_offers 119 = .ok (.aload_n 0, 1) := by decide +kernel
theorem dX6_offers_120 : decode cX6_offers 120 = .ok (.getfield 7, 3) := by decide +kernel
theorem dX6_offers_123 : decode cX6_offers 123 = .ok (.iload 5, 2) := by decide +kernel
theorem dX6_offers_125 : decode cX6_offers 125 = .ok (.iaload, 1) := by decide +kernel
theorem dX6_offers_126 : decode cX6_offers 126 = .ok (.istore 6, 2) := by decide +kernel
theorem dX6_offers_128 : decode cX6_offers 128 = .ok (.aload_n 0, 1) := by decide +kernel
theorem dX6_offers_129 : decode cX6_offers 129 = .ok (.getfield 7, 3) := by decide +kernel
theorem dX6_offers_132 : decode cX6_offers 132 = .ok (.iload 4, 2) := by decide +kernel
theorem dX6_offers_134 : decode cX6_offers 134 = .ok (.dup2, 1) := by decide +kernel
theorem dX6_offers_135 : decode cX6_offers 135 = .ok (.iaload, 1) := by decide +kernel
theorem dX6_offers_136 : decode cX6_offers 136 = .ok (.iload 6, 2) := by decide +kernel
theorem dX6_offers_138 : decode cX6_offers 138 = .ok (.isub, 1) := by decide +kernel
theorem dX6_offers_139 : decode cX6_offers 139 = .ok (.iastore, 1) := by decide +kernel
theorem dX6_offers_140 : decode cX6_offers 140 = .ok (.aload_n 0, 1) := by decide +kernel
theorem dX6_offers_141 : decode cX6_offers 141 = .ok (.getfield 7, 3) := by decide +kernel
theorem dX6_offers_144 : decode cX6_offers 144 = .ok (.iload 5, 2) := by decide +kernel
theorem dX6_offers_146 : decode cX6_offers 146 = .ok (.dup2, 1) := by decide +kernel
theorem dX6_offers_147 : decode cX6_offers 147 = .ok (.iaload, 1) := by decide +kernel
theorem dX6_offers_148 : decode cX6_offers 148 = .ok (.iload 6, 2) := by decide +kernel
theorem dX6_offers_150 : decode cX6_offers 150 = .ok (.isub, 1) := by decide +kernel
theorem dX6_offers_151 : decode cX6_offers 151 = .ok (.iastore, 1) := by decide +kernel
theorem dX6_offers_152 : decode cX6_offers 152 = .ok (.aload_n 0, 1) := by decide +kernel
theorem dX6_offers_153 : decode cX6_offers 153 = .ok (.getfield 7, 3) := by decide +kernel
theorem dX6_offers_156 : decode cX6_offers 156 = .ok (.bipush 9, 2) := by decide +kernel
theorem dX6_offers_158 : decode cX6_offers 158 = .ok (.dup2, 1) := by decide +kernel
theorem dX6_offers_159 : decode cX6_offers 159 = .ok (.iaload, 1) := by decide +kernel
theorem dX6_offers_160 : decode cX6_offers 160 = .ok (.iconst 2, 1) := by decide +kernel
theorem dX6_offers_161 : decode cX6_offers 161 = .ok (.iload 6, 2) := by decide +kernel
theorem dX6_offers_163 : decode cX6_offers 163 = .ok (.imul, 1) := by decide +kernel
theorem dX6_offers_164 : decode cX6_offers 164 = .ok (.iadd, 1) := by decide +kernel
theorem dX6_offers_165 : decode cX6_offers 165 = .ok (.iastore, 1) := by decide +kernel
theorem dX6_offers_166 : decode cX6_offers 166 = .ok (.aload_n 0, 1) := by decide +kernel
theorem dX6_offers_167 : decode cX6_offers 167 = .ok (.getfield 7, 3) := by decide +kernel
theorem dX6_offers_170 : decode cX6_offers 170 = .ok (.iload 4, 2) := by decide +kernel
theorem dX6_offers_172 : decode cX6_offers 172 = .ok (.iaload, 1) := by decide +kernel
theorem dX6_offers_173 : decode cX6_offers 173 = .ok (.ireturn, 1) := by decide +kernel
theorem dX6_breathes_0 : decode cX6_breathes 0 = .ok (.iload_n 1, 1) := by decide +kernel
theorem dX6_breathes_1 : decode cX6_breathes 1 = .ok (.iconst 1, 1) := by decide +kernel
theorem dX6_breathes_2 : decode cX6_breathes 2 = .ok (.bipush 99, 2) := by decide +kernel
theorem dX6_breathes_4 : decode cX6_breathes 4 = .ok (.invokestatic 42, 3) := by decide +kernel
theorem dX6_breathes_7 : decode cX6_breathes 7 = .ok (.ifCond .ne 6, 3) := by decide +kernel
theorem dX6_breathes_10 : decode cX6_breathes 10 = .ok (.bipush (-2), 2) := by decide +kernel
theorem dX6_breathes_12 : decode cX6_breathes 12 = .ok (.ireturn, 1) := by decide +kernel
theorem dX6_breathes_13 : decode cX6_breathes 13 = .ok (.aload_n 0, 1) := by decide +kernel
theorem dX6_breathes_14 : decode cX6_breathes 14 = .ok (.getfield 7, 3) := by decide +kernel
theorem dX6_breathes_17 : decode cX6_breathes 17 = .ok (.iconst 4, 1) := by decide +kernel
theorem dX6_breathes_18 : decode cX6_breathes 18 = .ok (.iaload, 1) := by decide +kernel
theorem dX6_breathes_19 : decode cX6_breathes 19 = .ok (.iload_n 1, 1) := by decide +kernel
theorem dX6_breathes_20 : decode cX6_breathes 20 = .ok (.iadd, 1) := by decide +kernel
theorem dX6_breathes_21 : decode cX6_breathes 21 = .ok (.sipush 9999, 3) := by decide +kernel
theorem dX6_breathes_24 : decode cX6_breathes 24 = .ok (.if_icmp .le 8, 3) := by decide +kernel
theorem dX6_breathes_27 : decode cX6_breathes 27 = .ok (.bipush (-5), 2) := by decide +kernel
theorem dX6_breathes_29 : decode cX6_breathes 29 = .ok (.goto 8, 3) := by decide +kernel
theorem dX6_breathes_32 : decode cX6_breathes 32 = .ok (.aload_n 0, 1) := by decide +kernel
theorem dX6_breathes_33 : decode cX6_breathes 33 = .ok (.iload_n 1, 1) := by decide +kernel
theorem dX6_breathes_34 : decode cX6_breathes 34 = .ok (.invokevirtual 68, 3) := by decide +kernel
theorem dX6_breathes_37 : decode cX6_breathes 37 = .ok (.ireturn, 1) := by decide +kernel
theorem dX6_goesRound_0 : decode cX6_goesRound 0 = .ok (.aload_n 0, 1) := by decide +kernel
theorem dX6_goesRound_1 : decode cX6_goesRound 1 = .ok (.invokevirtual 71, 3) := by decide +kernel
theorem dX6_goesRound_4 : decode cX6_goesRound 4 = .ok (.istore_n 1, 1) := by decide +kernel
theorem dX6_goesRound_5 : decode cX6_goesRound 5 = .ok (.iconst 0, 1) := by decide +kernel
theorem dX6_goesRound_6 : decode cX6_goesRound 6 = .ok (.istore_n 2, 1) := by decide +kernel
theorem dX6_goesRound_7 : decode cX6_goesRound 7 = .ok (.iconst (-1), 1) := by decide +kernel
theorem dX6_goesRound_8 : decode cX6_goesRound 8 = .ok (.istore_n 3, 1) := by decide +kernel
theorem dX6_goesRound_9 : decode cX6_goesRound 9 = .ok (.iconst 0, 1) := by decide +kernel
theorem dX6_goesRound_10 : decode cX6_goesRound 10 = .ok (.istore 4, 2) := by decide +kernel
theorem dX6_goesRound_12 : decode cX6_goesRound 12 = .ok (.iload 4, 2) := by decide +kernel
theorem dX6_goesRound_14 : decode cX6_goesRound 14 = .ok (.iload_n 1, 1) := by decide +kernel
theorem dX6_goesRound_15 : decode cX6_goesRound 15 = .ok (.if_icmp .ge 22, 3) := by decide +kernel
theorem dX6_goesRound_18 : decode cX6_goesRound 18 = .ok (.aload_n 0, 1) := by decide +kernel
theorem dX6_goesRound_19 : decode cX6_goesRound 19 = .ok (.getfield 32, 3) := by decide +kernel
theorem dX6_goesRound_22 : decode cX6_goesRound 22 = .ok (.iload 4, 2) := by decide +kernel
theorem dX6_goesRound_24 : decode cX6_goesRound 24 = .ok (.aload_n 0, 1) := by decide +kernel
theorem dX6_goesRound_25 : decode cX6_goesRound 25 = .ok (.iload 4, 2) := by decide +kernel
theorem dX6_goesRound_27 : decode cX6_goesRound 27 = .ok (.invokevirtual 89, 3) := by decide +kernel
theorem dX6_goesRound_30 : decode cX6_goesRound 30 = .ok (.iastore, 1) := by decide +kernel
theorem dX6_goesRound_31 : decode cX6_goesRound 31 = .ok (.iinc 4 1, 3) := by decide +kernel
theorem dX6_goesRound_34 : decode cX6_goesRound 34 = .ok (.goto (-22), 3) := by decide +kernel
theorem dX6_goesRound_37 : decode cX6_goesRound 37 = .ok (.iconst 0, 1) := by decide +kernel
theorem dX6_goesRound_38 : decode cX6_goesRound 38 = .ok (.istore 4, 2) := by decide +kernel
theorem dX6_goesRound_40 : decode cX6_goesRound 40 = .ok (.iload 4, 2) := by decide +kernel
theorem dX6_goesRound_42 : decode cX6_goesRound 42 = .ok (.iload_n 1, 1) := by decide +kernel
theorem dX6_goesRound_43 : decode cX6_goesRound 43 = .ok (.if_icmp .ge 74, 3) := by decide +kernel
theorem dX6_goesRound_46 : decode cX6_goesRound 46 = .ok (.aload_n 0, 1) := by decide +kernel
theorem dX6_goesRound_47 : decode cX6_goesRound 47 = .ok (.getfield 32, 3) := by decide +kernel
theorem dX6_goesRound_50 : decode cX6_goesRound 50 = .ok (.iload 4, 2) := by decide +kernel
theorem dX6_goesRound_52 : decode cX6_goesRound 52 = .ok (.iaload, 1) := by decide +kernel
theorem dX6_goesRound_53 : decode cX6_goesRound 53 = .ok (.istore 5, 2) := by decide +kernel
theorem dX6_goesRound_55 : decode cX6_goesRound 55 = .ok (.aload_n 0, 1) := by decide +kernel
theorem dX6_goesRound_56 : decode cX6_goesRound 56 = .ok (.iload 5, 2) := by decide +kernel
theorem dX6_goesRound_58 : decode cX6_goesRound 58 = .ok (.invokevirtual 82, 3) := by decide +kernel
theorem dX6_goesRound_61 : decode cX6_goesRound 61 = .ok (.ifCond .ne 50, 3) := by decide +kernel
theorem dX6_goesRound_64 : decode cX6_goesRound 64 = .ok (.aload_n 0, 1) := by decide +kernel
theorem dX6_goesRound_65 : decode cX6_goesRound 65 = .ok (.iload 5, 2) := by decide +kernel
theorem dX6_goesRound_67 : decode cX6_goesRound 67 = .ok (.invokevirtual 85, 3) := by decide +kernel
theorem dX6_goesRound_70 : decode cX6_goesRound 70 = .ok (.iload_n 3, 1) := by decide +kernel
theorem dX6_goesRound_71 : decode cX6_goesRound 71 = .ok (.iconst (-1), 1) := by decide +kernel
theorem dX6_goesRound_72 : decode cX6_goesRound 72 = .ok (.if_icmp .eq 33, 3) := by decide +kernel
theorem dX6_goesRound_75 : decode cX6_goesRound 75 = .ok (.aload_n 0, 1) := by decide +kernel
theorem dX6_goesRound_76 : decode cX6_goesRound 76 = .ok (.getfield 7, 3) := by decide +kernel
theorem dX6_goesRound_79 : decode cX6_goesRound 79 = .ok (.iload 5, 2) := by decide +kernel
theorem dX6_goesRound_81 : decode cX6_goesRound 81 = .ok (.invokestatic 46, 3) := by decide +kernel
theorem dX6_goesRound_84 : decode cX6_goesRound 84 = .ok (.bipush 8, 2) := by decide +kernel
theorem dX6_goesRound_86 : decode cX6_goesRound 86 = .ok (.iadd, 1) := by decide +kernel
theorem dX6_goesRound_87 : decode cX6_goesRound 87 = .ok (.iload_n 3, 1) := by decide +kernel
theorem dX6_goesRound_88 : decode cX6_goesRound 88 = .ok (.iadd, 1) := by decide +kernel
theorem dX6_goesRound_89 : decode cX6_goesRound 89 = .ok (.dup2, 1) := by decide +kernel
theorem dX6_goesRound_90 : decode cX6_goesRound 90 = .ok (.iaload, 1) := by decide +kernel
theorem dX6_goesRound_91 : decode cX6_goesRound 91 = .ok (.iconst 1, 1) := by decide +kernel
theorem dX6_goesRound_92 : decode cX6_goesRound 92 = .ok (.iadd, 1) := by decide +kernel
theorem dX6_goesRound_93 : decode cX6_goesRound 93 = .ok (.iastore, 1) := by decide +kernel
theorem dX6_goesRound_94 : decode cX6_goesRound 94 = .ok (.aload_n 0, 1) := by decide +kernel
theorem dX6_goesRound_95 : decode cX6_goesRound 95 = .ok (.getfield 7, 3) := by decide +kernel
theorem dX6_goesRound_98 : decode cX6_goesRound 98 = .ok (.bipush 10, 2) := by decide +kernel
theorem dX6_goesRound_100 : decode cX6_goesRound 100 = .ok (.dup2, 1) := by decide +kernel
theorem dX6_goesRound_101 : decode cX6_goesRound 101 = .ok (.iaload, 1) := by decide +kernel
theorem dX6_goesRound_102 : decode cX6_goesRound 102 = .ok (.iconst 1, 1) := by decide +kernel
theorem dX6_goesRound_103 : decode cX6_goesRound 103 = .ok (.iadd, 1) := by decide +kernel
theorem dX6_goesRound_104 : decode cX6_goesRound 104 = .ok (.iastore, 1) := by decide +kernel
theorem dX6_goesRound_105 : decode cX6_goesRound 105 = .ok (.iload 5, 2) := by decide +kernel
theorem dX6_goesRound_107 : decode cX6_goesRound 107 = .ok (.istore_n 3, 1) := by decide +kernel
theorem dX6_goesRound_108 : decode cX6_goesRound 108 = .ok (.iinc 2 1, 3) := by decide +kernel
theorem dX6_goesRound_111 : decode cX6_goesRound 111 = .ok (.iinc 4 1, 3) := by decide +kernel
theorem dX6_goesRound_114 : decode cX6_goesRound 114 = .ok (.goto (-74), 3) := by decide +kernel
theorem dX6_goesRound_117 : decode cX6_goesRound 117 = .ok (.aload_n 0, 1) := by decide +kernel
theorem dX6_goesRound_118 : decode cX6_goesRound 118 = .ok (.invokevirtual 92, 3) := by decide +kernel
theorem dX6_goesRound_121 : decode cX6_goesRound 121 = .ok (.istore 4, 2) := by decide +kernel
theorem dX6_goesRound_123 : decode cX6_goesRound 123 = .ok (.aload_n 0, 1) := by decide +kernel
theorem dX6_goesRound_124 : decode cX6_goesRound 124 = .ok (.getfield 7, 3) := by decide +kernel
theorem dX6_goesRound_127 : decode cX6_goesRound 127 = .ok (.iconst 5, 1) := by decide +kernel
theorem dX6_goesRound_128 : decode cX6_goesRound 128 = .ok (.dup2, 1) := by decide +kernel
theorem dX6_goesRound_129 : decode cX6_goesRound 129 = .ok (.iaload, 1) := by decide +kernel
theorem dX6_goesRound_130 : decode cX6_goesRound 130 = .ok (.iconst 1, 1) := by decide +kernel
theorem dX6_goesRound_131 : decode cX6_goesRound 131 = .ok (.iadd, 1) := by decide +kernel
theorem dX6_goesRound_132 : decode cX6_goesRound 132 = .ok (.iastore, 1) := by decide +kernel
theorem dX6_goesRound_133 : decode cX6_goesRound 133 = .ok (.iload_n 2, 1) := by decide +kernel
theorem dX6_goesRound_134 : decode cX6_goesRound 134 = .ok (.ireturn, 1) := by decide +kernel
theorem dX6_rounds_0 : decode cX6_rounds 0 = .ok (.aload_n 0, 1) := by decide +kernel
theorem dX6_rounds_1 : decode cX6_rounds 1 = .ok (.invokevirtual 71, 3) := by decide +kernel
theorem dX6_rounds_4 : decode cX6_rounds 4 = .ok (.ifCond .eq 15, 3) := by decide +kernel
theorem dX6_rounds_7 : decode cX6_rounds 7 = .ok (.aload_n 0, 1) := by decide +kernel
theorem dX6_rounds_8 : decode cX6_rounds 8 = .ok (.getfield 7, 3) := by decide +kernel
theorem dX6_rounds_11 : decode cX6_rounds 11 = .ok (.iconst 4, 1) := by decide +kernel
theorem dX6_rounds_12 : decode cX6_rounds 12 = .ok (.iaload, 1) := by decide +kernel
theorem dX6_rounds_13 : decode cX6_rounds 13 = .ok (.sipush 9900, 3) := by decide +kernel
theorem dX6_rounds_16 : decode cX6_rounds 16 = .ok (.if_icmp .le 8, 3) := by decide +kernel
theorem dX6_rounds_19 : decode cX6_rounds 19 = .ok (.bipush (-5), 2) := by decide +kernel
theorem dX6_rounds_21 : decode cX6_rounds 21 = .ok (.goto 7, 3) := by decide +kernel
theorem dX6_rounds_24 : decode cX6_rounds 24 = .ok (.aload_n 0, 1) := by decide +kernel
theorem dX6_rounds_25 : decode cX6_rounds 25 = .ok (.invokevirtual 95, 3) := by decide +kernel
theorem dX6_rounds_28 : decode cX6_rounds 28 = .ok (.ireturn, 1) := by decide +kernel
theorem dX6_set_0 : decode cX6_set 0 = .ok (.iload_n 1, 1) := by decide +kernel
theorem dX6_set_1 : decode cX6_set 1 = .ok (.ifCond .eq 8, 3) := by decide +kernel
theorem dX6_set_4 : decode cX6_set 4 = .ok (.iload_n 1, 1) := by decide +kernel
theorem dX6_set_5 : decode cX6_set 5 = .ok (.iconst 3, 1) := by decide +kernel
theorem dX6_set_6 : decode cX6_set 6 = .ok (.if_icmp .ne 13, 3) := by decide +kernel
theorem dX6_set_9 : decode cX6_set 9 = .ok (.iload_n 2, 1) := by decide +kernel
theorem dX6_set_10 : decode cX6_set 10 = .ok (.iconst 1, 1) := by decide +kernel
theorem dX6_set_11 : decode cX6_set 11 = .ok (.bipush 9, 2) := by decide +kernel
theorem dX6_set_13 : decode cX6_set 13 = .ok (.invokestatic 42, 3) := by decide +kernel
theorem dX6_set_16 : decode cX6_set 16 = .ok (.goto 38, 3) := by decide +kernel
theorem dX6_set_19 : decode cX6_set 19 = .ok (.iload_n 1, 1) := by decide +kernel
theorem dX6_set_20 : decode cX6_set 20 = .ok (.iconst 1, 1) := by decide +kernel
theorem dX6_set_21 : decode cX6_set 21 = .ok (.if_icmp .ne 13, 3) := by decide +kernel
theorem dX6_set_24 : decode cX6_set 24 = .ok (.iload_n 2, 1) := by decide +kernel
theorem dX6_set_25 : decode cX6_set 25 = .ok (.iconst 1, 1) := by decide +kernel
theorem dX6_set_26 : decode cX6_set 26 = .ok (.bipush 20, 2) := by decide +kernel
theorem dX6_set_28 : decode cX6_set 28 = .ok (.invokestatic 42, 3) := by decide +kernel
theorem dX6_set_31 : decode cX6_set 31 = .ok (.goto 23, 3) := by decide +kernel
theorem dX6_set_34 : decode cX6_set 34 = .ok (.iload_n 1, 1) := by decide +kernel
theorem dX6_set_35 : decode cX6_set 35 = .ok (.iconst 2, 1) := by decide +kernel
theorem dX6_set_36 : decode cX6_set 36 = .ok (.if_icmp .ne 17, 3) := by decide +kernel
theorem dX6_set_39 : decode cX6_set 39 = .ok (.iload_n 2, 1) := by decide +kernel
theorem dX6_set_40 : decode cX6_set 40 = .ok (.iconst 1, 1) := by decide +kernel
theorem dX6_set_41 : decode cX6_set 41 = .ok (.bipush 30, 2) := by decide +kernel
theorem dX6_set_43 : decode cX6_set 43 = .ok (.invokestatic 42, 3) := by decide +kernel
theorem dX6_set_46 : decode cX6_set 46 = .ok (.ifCond .eq 7, 3) := by decide +kernel
theorem dX6_set_49 : decode cX6_set 49 = .ok (.iconst 1, 1) := by decide +kernel
theorem dX6_set_50 : decode cX6_set 50 = .ok (.goto 4, 3) := by decide +kernel
theorem dX6_set_53 : decode cX6_set 53 = .ok (.iconst 0, 1) := by decide +kernel
theorem dX6_set_54 : decode cX6_set 54 = .ok (.istore_n 3, 1) := by decide +kernel
theorem dX6_set_55 : decode cX6_set 55 = .ok (.iload_n 3, 1) := by decide +kernel
theorem dX6_set_56 : decode cX6_set 56 = .ok (.ifCond .ne 6, 3) := by decide +kernel
theorem dX6_set_59 : decode cX6_set 59 = .ok (.bipush (-2), 2) := by decide +kernel
theorem dX6_set_61 : decode cX6_set 61 = .ok (.ireturn, 1) := by decide +kernel
theorem dX6_set_62 : decode cX6_set 62 = .ok (.aload_n 0, 1) := by decide +kernel
theorem dX6_set_63 : decode cX6_set 63 = .ok (.invokevirtual 98, 3) := by decide +kernel
theorem dX6_set_66 : decode cX6_set 66 = .ok (.aload_n 0, 1) := by decide +kernel
theorem dX6_set_67 : decode cX6_set 67 = .ok (.getfield 7, 3) := by decide +kernel
theorem dX6_set_70 : decode cX6_set 70 = .ok (.iload_n 1, 1) := by decide +kernel
theorem dX6_set_71 : decode cX6_set 71 = .ok (.iaload, 1) := by decide +kernel
theorem dX6_set_72 : decode cX6_set 72 = .ok (.istore 4, 2) := by decide +kernel
theorem dX6_set_74 : decode cX6_set 74 = .ok (.aload_n 0, 1) := by decide +kernel
theorem dX6_set_75 : decode cX6_set 75 = .ok (.getfield 7, 3) := by decide +kernel
theorem dX6_set_78 : decode cX6_set 78 = .ok (.iload_n 1, 1) := by decide +kernel
theorem dX6_set_79 : decode cX6_set 79 = .ok (.iload_n 2, 1) := by decide +kernel
theorem dX6_set_80 : decode cX6_set 80 = .ok (.iastore, 1) := by decide +kernel
theorem dX6_set_81 : decode cX6_set 81 = .ok (.aload_n 0, 1) := by decide +kernel
theorem dX6_set_82 : decode cX6_set 82 = .ok (.iload 4, 2) := by decide +kernel
theorem dX6_set_84 : decode cX6_set 84 = .ok (.invokevirtual 101, 3) := by decide +kernel
theorem dX6_set_87 : decode cX6_set 87 = .ok (.ireturn, 1) := by decide +kernel
theorem dX6_guest_0 : decode cX6_guest 0 = .ok (.aload_n 0, 1) := by decide +kernel
theorem dX6_guest_1 : decode cX6_guest 1 = .ok (.invokevirtual 98, 3) := by decide +kernel
theorem dX6_guest_4 : decode cX6_guest 4 = .ok (.aload_n 0, 1) := by decide +kernel
theorem dX6_guest_5 : decode cX6_guest 5 = .ok (.aload_n 0, 1) := by decide +kernel
theorem dX6_guest_6 : decode cX6_guest 6 = .ok (.iload_n 1, 1) := by decide +kernel
theorem dX6_guest_7 : decode cX6_guest 7 = .ok (.invokevirtual 104, 3) := by decide +kernel
theorem dX6_guest_10 : decode cX6_guest 10 = .ok (.invokevirtual 101, 3) := by decide +kernel
theorem dX6_guest_13 : decode cX6_guest 13 = .ok (.ireturn, 1) := by decide +kernel
theorem dX6_leave_0 : decode cX6_leave 0 = .ok (.aload_n 0, 1) := by decide +kernel
theorem dX6_leave_1 : decode cX6_leave 1 = .ok (.invokevirtual 98, 3) := by decide +kernel
theorem dX6_leave_4 : decode cX6_leave 4 = .ok (.aload_n 0, 1) := by decide +kernel
theorem dX6_leave_5 : decode cX6_leave 5 = .ok (.aload_n 0, 1) := by decide +kernel
theorem dX6_leave_6 : decode cX6_leave 6 = .ok (.iload_n 1, 1) := by decide +kernel
theorem dX6_leave_7 : decode cX6_leave 7 = .ok (.invokevirtual 107, 3) := by decide +kernel
theorem dX6_leave_10 : decode cX6_leave 10 = .ok (.invokevirtual 101, 3) := by decide +kernel
theorem dX6_leave_13 : decode cX6_leave 13 = .ok (.ireturn, 1) := by decide +kernel
theorem dX6_word_0 : decode cX6_word 0 = .ok (.aload_n 0, 1) := by decide +kernel
theorem dX6_word_1 : decode cX6_word 1 = .ok (.invokevirtual 98, 3) := by decide +kernel
theorem dX6_word_4 : decode cX6_word 4 = .ok (.aload_n 0, 1) := by decide +kernel
theorem dX6_word_5 : decode cX6_word 5 = .ok (.aload_n 0, 1) := by decide +kernel
theorem dX6_word_6 : decode cX6_word 6 = .ok (.iload_n 1, 1) := by decide +kernel
theorem dX6_word_7 : decode cX6_word 7 = .ok (.invokevirtual 110, 3) := by decide +kernel
theorem dX6_word_10 : decode cX6_word 10 = .ok (.invokevirtual 101, 3) := by decide +kernel
theorem dX6_word_13 : decode cX6_word 13 = .ok (.ireturn, 1) := by decide +kernel
theorem dX6_bow_0 : decode cX6_bow 0 = .ok (.aload_n 0, 1) := by decide +kernel
theorem dX6_bow_1 : decode cX6_bow 1 = .ok (.invokevirtual 98, 3) := by decide +kernel
theorem dX6_bow_4 : decode cX6_bow 4 = .ok (.aload_n 0, 1) := by decide +kernel
theorem dX6_bow_5 : decode cX6_bow 5 = .ok (.aload_n 0, 1) := by decide +kernel
theorem dX6_bow_6 : decode cX6_bow 6 = .ok (.iload_n 1, 1) := by decide +kernel
theorem dX6_bow_7 : decode cX6_bow 7 = .ok (.iload_n 2, 1) := by decide +kernel
theorem dX6_bow_8 : decode cX6_bow 8 = .ok (.invokevirtual 113, 3) := by decide +kernel
theorem dX6_bow_11 : decode cX6_bow 11 = .ok (.invokevirtual 101, 3) := by decide +kernel
theorem dX6_bow_14 : decode cX6_bow 14 = .ok (.ireturn, 1) := by decide +kernel
theorem dX6_offer_0 : decode cX6_offer 0 = .ok (.aload_n 0, 1) := by decide +kernel
theorem dX6_offer_1 : decode cX6_offer 1 = .ok (.invokevirtual 98, 3) := by decide +kernel
theorem dX6_offer_4 : decode cX6_offer 4 = .ok (.aload_n 0, 1) := by decide +kernel
theorem dX6_offer_5 : decode cX6_offer 5 = .ok (.aload_n 0, 1) := by decide +kernel
theorem dX6_offer_6 : decode cX6_offer 6 = .ok (.iload_n 1, 1) := by decide +kernel
theorem dX6_offer_7 : decode cX6_offer 7 = .ok (.iload_n 2, 1) := by decide +kernel
theorem dX6_offer_8 : decode cX6_offer 8 = .ok (.invokevirtual 116, 3) := by decide +kernel
theorem dX6_offer_11 : decode cX6_offer 11 = .ok (.invokevirtual 101, 3) := by decide +kernel
theorem dX6_offer_14 : decode cX6_offer 14 = .ok (.ireturn, 1) := by decide +kernel
theorem dX6_breathe_0 : decode cX6_breathe 0 = .ok (.aload_n 0, 1) := by decide +kernel
theorem dX6_breathe_1 : decode cX6_breathe 1 = .ok (.invokevirtual 98, 3) := by decide +kernel
theorem dX6_breathe_4 : decode cX6_breathe 4 = .ok (.aload_n 0, 1) := by decide +kernel
theorem dX6_breathe_5 : decode cX6_breathe 5 = .ok (.aload_n 0, 1) := by decide +kernel
theorem dX6_breathe_6 : decode cX6_breathe 6 = .ok (.iload_n 1, 1) := by decide +kernel
theorem dX6_breathe_7 : decode cX6_breathe 7 = .ok (.invokevirtual 119, 3) := by decide +kernel
theorem dX6_breathe_10 : decode cX6_breathe 10 = .ok (.invokevirtual 101, 3) := by decide +kernel
theorem dX6_breathe_13 : decode cX6_breathe 13 = .ok (.ireturn, 1) := by decide +kernel
theorem dX6_round_0 : decode cX6_round 0 = .ok (.aload_n 0, 1) := by decide +kernel
theorem dX6_round_1 : decode cX6_round 1 = .ok (.invokevirtual 98, 3) := by decide +kernel
theorem dX6_round_4 : decode cX6_round 4 = .ok (.aload_n 0, 1) := by decide +kernel
theorem dX6_round_5 : decode cX6_round 5 = .ok (.aload_n 0, 1) := by decide +kernel
theorem dX6_round_6 : decode cX6_round 6 = .ok (.invokevirtual 122, 3) := by decide +kernel
theorem dX6_round_9 : decode cX6_round 9 = .ok (.invokevirtual 101, 3) := by decide +kernel
theorem dX6_round_12 : decode cX6_round 12 = .ok (.ireturn, 1) := by decide +kernel
theorem dX6_seatAnew_0 : decode cX6_seatAnew 0 = .ok (.aload_n 0, 1) := by decide +kernel
theorem dX6_seatAnew_1 : decode cX6_seatAnew 1 = .ok (.invokevirtual 98, 3) := by decide +kernel
theorem dX6_seatAnew_4 : decode cX6_seatAnew 4 = .ok (.aload_n 0, 1) := by decide +kernel
theorem dX6_seatAnew_5 : decode cX6_seatAnew 5 = .ok (.aload_n 0, 1) := by decide +kernel
theorem dX6_seatAnew_6 : decode cX6_seatAnew 6 = .ok (.invokevirtual 92, 3) := by decide +kernel
theorem dX6_seatAnew_9 : decode cX6_seatAnew 9 = .ok (.invokevirtual 101, 3) := by decide +kernel
theorem dX6_seatAnew_12 : decode cX6_seatAnew 12 = .ok (.ireturn, 1) := by decide +kernel
theorem dX6_of_0 : decode cX6_of 0 = .ok (.aload_n 0, 1) := by decide +kernel
theorem dX6_of_1 : decode cX6_of 1 = .ok (.iload_n 1, 1) := by decide +kernel
theorem dX6_of_2 : decode cX6_of 2 = .ok (.invokevirtual 57, 3) := by decide +kernel
theorem dX6_of_5 : decode cX6_of 5 = .ok (.ifCond .ne 5, 3) := by decide +kernel
theorem dX6_of_8 : decode cX6_of 8 = .ok (.iconst (-1), 1) := by decide +kernel
theorem dX6_of_9 : decode cX6_of 9 = .ok (.ireturn, 1) := by decide +kernel
theorem dX6_of_10 : decode cX6_of 10 = .ok (.iload_n 2, 1) := by decide +kernel
theorem dX6_of_11 : decode cX6_of 11 = .ok (.tableswitch 98 0 9 #[53, 53, 53, 53, 53, 53, 67, 73, 79, 92], 53) := by decide +kernel
theorem dX6_of_64 : decode cX6_of 64 = .ok (.aload_n 0, 1) := by decide +kernel
theorem dX6_of_65 : decode cX6_of 65 = .ok (.getfield 7, 3) := by decide +kernel
theorem dX6_of_68 : decode cX6_of 68 = .ok (.iload_n 1, 1) := by decide +kernel
theorem dX6_of_69 : decode cX6_of 69 = .ok (.invokestatic 46, 3) := by decide +kernel
theorem dX6_of_72 : decode cX6_of 72 = .ok (.iconst 1, 1) := by decide +kernel
theorem dX6_of_73 : decode cX6_of 73 = .ok (.iadd, 1) := by decide +kernel
theorem dX6_of_74 : decode cX6_of 74 = .ok (.iload_n 2, 1) := by decide +kernel
theorem dX6_of_75 : decode cX6_of 75 = .ok (.iadd, 1) := by decide +kernel
theorem dX6_of_76 : decode cX6_of 76 = .ok (.iaload, 1) := by decide +kernel
theorem dX6_of_77 : decode cX6_of 77 = .ok (.ireturn, 1) := by decide +kernel
theorem dX6_of_78 : decode cX6_of 78 = .ok (.aload_n 0, 1) := by decide +kernel
theorem dX6_of_79 : decode cX6_of 79 = .ok (.iload_n 1, 1) := by decide +kernel
theorem dX6_of_80 : decode cX6_of 80 = .ok (.invokevirtual 54, 3) := by decide +kernel
theorem dX6_of_83 : decode cX6_of 83 = .ok (.ireturn, 1) := by decide +kernel
theorem dX6_of_84 : decode cX6_of 84 = .ok (.aload_n 0, 1) := by decide +kernel
theorem dX6_of_85 : decode cX6_of 85 = .ok (.iload_n 1, 1) := by decide +kernel
theorem dX6_of_86 : decode cX6_of 86 = .ok (.invokevirtual 75, 3) := by decide +kernel
theorem dX6_of_89 : decode cX6_of 89 = .ok (.ireturn, 1) := by decide +kernel
theorem dX6_of_90 : decode cX6_of 90 = .ok (.aload_n 0, 1) := by decide +kernel
theorem dX6_of_91 : decode cX6_of 91 = .ok (.getfield 7, 3) := by decide +kernel
theorem dX6_of_94 : decode cX6_of 94 = .ok (.iload_n 1, 1) := by decide +kernel
theorem dX6_of_95 : decode cX6_of 95 = .ok (.invokestatic 46, 3) := by decide +kernel
theorem dX6_of_98 : decode cX6_of 98 = .ok (.bipush 7, 2) := by decide +kernel
theorem dX6_of_100 : decode cX6_of 100 = .ok (.iadd, 1) := by decide +kernel
theorem dX6_of_101 : decode cX6_of 101 = .ok (.iaload, 1) := by decide +kernel
theorem dX6_of_102 : decode cX6_of 102 = .ok (.ireturn, 1) := by decide +kernel
theorem dX6_of_103 : decode cX6_of 103 = .ok (.aload_n 0, 1) := by decide +kernel
theorem dX6_of_104 : decode cX6_of 104 = .ok (.iload_n 1, 1) := by decide +kernel
theorem dX6_of_105 : decode cX6_of 105 = .ok (.invokevirtual 65, 3) := by decide +kernel
theorem dX6_of_108 : decode cX6_of 108 = .ok (.ireturn, 1) := by decide +kernel
theorem dX6_of_109 : decode cX6_of 109 = .ok (.bipush (-2), 2) := by decide +kernel
theorem dX6_of_111 : decode cX6_of 111 = .ok (.ireturn, 1) := by decide +kernel
theorem dX6_owes_0 : decode cX6_owes 0 = .ok (.aload_n 0, 1) := by decide +kernel
theorem dX6_owes_1 : decode cX6_owes 1 = .ok (.iload_n 1, 1) := by decide +kernel
theorem dX6_owes_2 : decode cX6_owes 2 = .ok (.iload_n 2, 1) := by decide +kernel
theorem dX6_owes_3 : decode cX6_owes 3 = .ok (.invokevirtual 78, 3) := by decide +kernel
theorem dX6_owes_6 : decode cX6_owes 6 = .ok (.istore_n 3, 1) := by decide +kernel
theorem dX6_owes_7 : decode cX6_owes 7 = .ok (.iload_n 3, 1) := by decide +kernel
theorem dX6_owes_8 : decode cX6_owes 8 = .ok (.ifCond .ge 7, 3) := by decide +kernel
theorem dX6_owes_11 : decode cX6_owes 11 = .ok (.iload_n 3, 1) := by decide +kernel
theorem dX6_owes_12 : decode cX6_owes 12 = .ok (.goto 17, 3) := by decide +kernel
theorem dX6_owes_15 : decode cX6_owes 15 = .ok (.aload_n 0, 1) := by decide +kernel
theorem dX6_owes_16 : decode cX6_owes 16 = .ok (.getfield 7, 3) := by decide +kernel
theorem dX6_owes_19 : decode cX6_owes 19 = .ok (.iload_n 1, 1) := by decide +kernel
theorem dX6_owes_20 : decode cX6_owes 20 = .ok (.invokestatic 46, 3) := by decide +kernel
theorem dX6_owes_23 : decode cX6_owes 23 = .ok (.bipush 8, 2) := by decide +kernel
theorem dX6_owes_25 : decode cX6_owes 25 = .ok (.iadd, 1) := by decide +kernel
theorem dX6_owes_26 : decode cX6_owes 26 = .ok (.iload_n 2, 1) := by decide +kernel
theorem dX6_owes_27 : decode cX6_owes 27 = .ok (.iadd, 1) := by decide +kernel
theorem dX6_owes_28 : decode cX6_owes 28 = .ok (.iaload, 1) := by decide +kernel
theorem dX6_owes_29 : decode cX6_owes 29 = .ok (.ireturn, 1) := by decide +kernel
theorem dX6_at_0 : decode cX6_at 0 = .ok (.iload_n 1, 1) := by decide +kernel
theorem dX6_at_1 : decode cX6_at 1 = .ok (.ifCond .ge 7, 3) := by decide +kernel
theorem dX6_at_4 : decode cX6_at 4 = .ok (.iconst (-1), 1) := by decide +kernel
theorem dX6_at_5 : decode cX6_at 5 = .ok (.goto 8, 3) := by decide +kernel
theorem dX6_at_8 : decode cX6_at 8 = .ok (.aload_n 0, 1) := by decide +kernel
theorem dX6_at_9 : decode cX6_at 9 = .ok (.iload_n 1, 1) := by decide +kernel
theorem dX6_at_10 : decode cX6_at 10 = .ok (.invokevirtual 89, 3) := by decide +kernel
theorem dX6_at_13 : decode cX6_at 13 = .ok (.ireturn, 1) := by decide +kernel
theorem dX6_ranked_0 : decode cX6_ranked 0 = .ok (.iload_n 1, 1) := by decide +kernel
theorem dX6_ranked_1 : decode cX6_ranked 1 = .ok (.ifCond .ge 7, 3) := by decide +kernel
theorem dX6_ranked_4 : decode cX6_ranked 4 = .ok (.iconst (-1), 1) := by decide +kernel
theorem dX6_ranked_5 : decode cX6_ranked 5 = .ok (.goto 8, 3) := by decide +kernel
theorem dX6_ranked_8 : decode cX6_ranked 8 = .ok (.aload_n 0, 1) := by decide +kernel
theorem dX6_ranked_9 : decode cX6_ranked 9 = .ok (.iload_n 1, 1) := by decide +kernel
theorem dX6_ranked_10 : decode cX6_ranked 10 = .ok (.invokevirtual 125, 3) := by decide +kernel
theorem dX6_ranked_13 : decode cX6_ranked 13 = .ok (.ireturn, 1) := by decide +kernel
theorem dX6_silent_0 : decode cX6_silent 0 = .ok (.iload_n 1, 1) := by decide +kernel
theorem dX6_silent_1 : decode cX6_silent 1 = .ok (.ifCond .ge 6, 3) := by decide +kernel
theorem dX6_silent_4 : decode cX6_silent 4 = .ok (.bipush (-2), 2) := by decide +kernel
theorem dX6_silent_6 : decode cX6_silent 6 = .ok (.ireturn, 1) := by decide +kernel
theorem dX6_silent_7 : decode cX6_silent 7 = .ok (.iconst 0, 1) := by decide +kernel
theorem dX6_silent_8 : decode cX6_silent 8 = .ok (.istore_n 2, 1) := by decide +kernel
theorem dX6_silent_9 : decode cX6_silent 9 = .ok (.iconst 0, 1) := by decide +kernel
theorem dX6_silent_10 : decode cX6_silent 10 = .ok (.istore_n 3, 1) := by decide +kernel
theorem dX6_silent_11 : decode cX6_silent 11 = .ok (.iload_n 3, 1) := by decide +kernel
theorem dX6_silent_12 : decode cX6_silent 12 = .ok (.bipush 9, 2) := by decide +kernel
theorem dX6_silent_14 : decode cX6_silent 14 = .ok (.if_icmp .ge 40, 3) := by decide +kernel
theorem dX6_silent_17 : decode cX6_silent 17 = .ok (.iload_n 2, 1) := by decide +kernel
theorem dX6_silent_18 : decode cX6_silent 18 = .ok (.aload_n 0, 1) := by decide +kernel
theorem dX6_silent_19 : decode cX6_silent 19 = .ok (.iload_n 3, 1) := by decide +kernel
theorem dX6_silent_20 : decode cX6_silent 20 = .ok (.invokevirtual 57, 3) := by decide +kernel
theorem dX6_silent_23 : decode cX6_silent 23 = .ok (.ifCond .eq 22, 3) := by decide +kernel
theorem dX6_silent_26 : decode cX6_silent 26 = .ok (.aload_n 0, 1) := by decide +kernel
theorem dX6_silent_27 : decode cX6_silent 27 = .ok (.getfield 7, 3) := by decide +kernel
theorem dX6_silent_30 : decode cX6_silent 30 = .ok (.iload_n 3, 1) := by decide +kernel
theorem dX6_silent_31 : decode cX6_silent 31 = .ok (.invokestatic 46, 3) := by decide +kernel
theorem dX6_silent_34 : decode cX6_silent 34 = .ok (.iconst 3, 1) := by decide +kernel
theorem dX6_silent_35 : decode cX6_silent 35 = .ok (.iadd, 1) := by decide +kernel
theorem dX6_silent_36 : decode cX6_silent 36 = .ok (.iaload, 1) := by decide +kernel
theorem dX6_silent_37 : decode cX6_silent 37 = .ok (.iload_n 1, 1) := by decide +kernel
theorem dX6_silent_38 : decode cX6_silent 38 = .ok (.if_icmp .lt 7, 3) := by decide +kernel
theorem dX6_silent_41 : decode cX6_silent 41 = .ok (.iconst 1, 1) := by decide +kernel
theorem dX6_silent_42 : decode cX6_silent 42 = .ok (.goto 4, 3) := by decide +kernel
theorem dX6_silent_45 : decode cX6_silent 45 = .ok (.iconst 0, 1) := by decide +kernel
theorem dX6_silent_46 : decode cX6_silent 46 = .ok (.iadd, 1) := by decide +kernel
theorem dX6_silent_47 : decode cX6_silent 47 = .ok (.istore_n 2, 1) := by decide +kernel
theorem dX6_silent_48 : decode cX6_silent 48 = .ok (.iinc 3 1, 3) := by decide +kernel
theorem dX6_silent_51 : decode cX6_silent 51 = .ok (.goto (-40), 3) := by decide +kernel
theorem dX6_silent_54 : decode cX6_silent 54 = .ok (.iload_n 2, 1) := by decide +kernel
theorem dX6_silent_55 : decode cX6_silent 55 = .ok (.ireturn, 1) := by decide +kernel
theorem dX6_ofGuests_0 : decode cX6_ofGuests 0 = .ok (.iconst 0, 1) := by decide +kernel
theorem dX6_ofGuests_1 : decode cX6_ofGuests 1 = .ok (.istore_n 2, 1) := by decide +kernel
theorem dX6_ofGuests_2 : decode cX6_ofGuests 2 = .ok (.iconst 0, 1) := by decide +kernel
theorem dX6_ofGuests_3 : decode cX6_ofGuests 3 = .ok (.istore_n 3, 1) := by decide +kernel
theorem dX6_ofGuests_4 : decode cX6_ofGuests 4 = .ok (.iconst 0, 1) := by decide +kernel
theorem dX6_ofGuests_5 : decode cX6_ofGuests 5 = .ok (.istore 4, 2) := by decide +kernel
theorem dX6_ofGuests_7 : decode cX6_ofGuests 7 = .ok (.iconst 0, 1) := by decide +kernel
theorem dX6_ofGuests_8 : decode cX6_ofGuests 8 = .ok (.istore 5, 2) := by decide +kernel
theorem dX6_ofGuests_10 : decode cX6_ofGuests 10 = .ok (.iload 5, 2) := by decide +kernel
theorem dX6_ofGuests_12 : decode cX6_ofGuests 12 = .ok (.bipush 9, 2) := by decide +kernel
theorem dX6_ofGuests_14 : decode cX6_ofGuests 14 = .ok (.if_icmp .ge 69, 3) := by decide +kernel
theorem dX6_ofGuests_17 : decode cX6_ofGuests 17 = .ok (.iload_n 2, 1) := by decide +kernel
theorem dX6_ofGuests_18 : decode cX6_ofGuests 18 = .ok (.aload_n 0, 1) := by decide +kernel
theorem dX6_ofGuests_19 : decode cX6_ofGuests 19 = .ok (.iload 5, 2) := by decide +kernel
theorem dX6_ofGuests_21 : decode cX6_ofGuests 21 = .ok (.invokevirtual 54, 3) := by decide +kernel
theorem dX6_ofGuests_24 : decode cX6_ofGuests 24 = .ok (.iadd, 1) := by decide +kernel
theorem dX6_ofGuests_25 : decode cX6_ofGuests 25 = .ok (.istore_n 2, 1) := by decide +kernel
theorem dX6_ofGuests_26 : decode cX6_ofGuests 26 = .ok (.iload_n 3, 1) := by decide +kernel
theorem dX6_ofGuests_27 : decode cX6_ofGuests 27 = .ok (.aload_n 0, 1) := by decide +kernel
theorem dX6_ofGuests_28 : decode cX6_ofGuests 28 = .ok (.iload 5, 2) := by decide +kernel
theorem dX6_ofGuests_30 : decode cX6_ofGuests 30 = .ok (.invokevirtual 57, 3) := by decide +kernel
theorem dX6_ofGuests_33 : decode cX6_ofGuests 33 = .ok (.ifCond .eq 10, 3) := by decide +kernel
theorem dX6_ofGuests_36 : decode cX6_ofGuests 36 = .ok (.iconst 1, 1) := by decide +kernel
theorem dX6_ofGuests_37 : decode cX6_ofGuests 37 = .ok (.iload 5, 2) := by decide +kernel
theorem dX6_ofGuests_39 : decode cX6_ofGuests 39 = .ok (.ishl, 1) := by decide +kernel
theorem dX6_ofGuests_40 : decode cX6_ofGuests 40 = .ok (.goto 4, 3) := by decide +kernel
theorem dX6_ofGuests_43 : decode cX6_ofGuests 43 = .ok (.iconst 0, 1) := by decide +kernel
theorem dX6_ofGuests_44 : decode cX6_ofGuests 44 = .ok (.ior, 1) := by decide +kernel
theorem dX6_ofGuests_45 : decode cX6_ofGuests 45 = .ok (.istore_n 3, 1) := by decide +kernel
theorem dX6_ofGuests_46 : decode cX6_ofGuests 46 = .ok (.iload 4, 2) := by decide +kernel
theorem dX6_ofGuests_48 : decode cX6_ofGuests 48 = .ok (.aload_n 0, 1) := by decide +kernel
theorem dX6_ofGuests_49 : decode cX6_ofGuests 49 = .ok (.iload 5, 2) := by decide +kernel
theorem dX6_ofGuests_51 : decode cX6_ofGuests 51 = .ok (.invokevirtual 57, 3) := by decide +kernel
theorem dX6_ofGuests_54 : decode cX6_ofGuests 54 = .ok (.ifCond .eq 19, 3) := by decide +kernel
theorem dX6_ofGuests_57 : decode cX6_ofGuests 57 = .ok (.aload_n 0, 1) := by decide +kernel
theorem dX6_ofGuests_58 : decode cX6_ofGuests 58 = .ok (.iload 5, 2) := by decide +kernel
theorem dX6_ofGuests_60 : decode cX6_ofGuests 60 = .ok (.invokevirtual 82, 3) := by decide +kernel
theorem dX6_ofGuests_63 : decode cX6_ofGuests 63 = .ok (.ifCond .le 10, 3) := by decide +kernel
theorem dX6_ofGuests_66 : decode cX6_ofGuests 66 = .ok (.iconst 1, 1) := by decide +kernel
theorem dX6_ofGuests_67 : decode cX6_ofGuests 67 = .ok (.iload 5, 2) := by decide +kernel
theorem dX6_ofGuests_69 : decode cX6_ofGuests 69 = .ok (.ishl, 1) := by decide +kernel
theorem dX6_ofGuests_70 : decode cX6_ofGuests 70 = .ok (.goto 4, 3) := by decide +kernel
theorem dX6_ofGuests_73 : decode cX6_ofGuests 73 = .ok (.iconst 0, 1) := by decide +kernel
theorem dX6_ofGuests_74 : decode cX6_ofGuests 74 = .ok (.ior, 1) := by decide +kernel
theorem dX6_ofGuests_75 : decode cX6_ofGuests 75 = .ok (.istore 4, 2) := by decide +kernel
theorem dX6_ofGuests_77 : decode cX6_ofGuests 77 = .ok (.iinc 5 1, 3) := by decide +kernel
theorem dX6_ofGuests_80 : decode cX6_ofGuests 80 = .ok (.goto (-70), 3) := by decide +kernel
theorem dX6_ofGuests_83 : decode cX6_ofGuests 83 = .ok (.iload_n 1, 1) := by decide +kernel
theorem dX6_ofGuests_84 : decode cX6_ofGuests 84 = .ok (.iconst 4, 1) := by decide +kernel
theorem dX6_ofGuests_85 : decode cX6_ofGuests 85 = .ok (.if_icmp .ne 7, 3) := by decide +kernel
theorem dX6_ofGuests_88 : decode cX6_ofGuests 88 = .ok (.iload_n 2, 1) := by decide +kernel
theorem dX6_ofGuests_89 : decode cX6_ofGuests 89 = .ok (.goto 15, 3) := by decide +kernel
theorem dX6_ofGuests_92 : decode cX6_ofGuests 92 = .ok (.iload_n 1, 1) := by decide +kernel
theorem dX6_ofGuests_93 : decode cX6_ofGuests 93 = .ok (.bipush 11, 2) := by decide +kernel
theorem dX6_ofGuests_95 : decode cX6_ofGuests 95 = .ok (.if_icmp .ne 7, 3) := by decide +kernel
theorem dX6_ofGuests_98 : decode cX6_ofGuests 98 = .ok (.iload_n 3, 1) := by decide +kernel
theorem dX6_ofGuests_99 : decode cX6_ofGuests 99 = .ok (.goto 5, 3) := by decide +kernel
theorem dX6_ofGuests_102 : decode cX6_ofGuests 102 = .ok (.iload 4, 2) := by decide +kernel
theorem dX6_ofGuests_104 : decode cX6_ofGuests 104 = .ok (.ireturn, 1) := by decide +kernel
theorem dX6_count_0 : decode cX6_count 0 = .ok (.iload_n 1, 1) := by decide +kernel
theorem dX6_count_1 : decode cX6_count 1 = .ok (.tableswitch 156 0 18 #[91, 98, 103, 110, 118, 124, 124, 124, 124, 124, 124, 118, 118, 136, 136, 136, 136, 146, 151], 91) := by decide +kernel
theorem dX6_count_92 : decode cX6_count 92 = .ok (.aload_n 0, 1) := by decide +kernel
theorem dX6_count_93 : decode cX6_count 93 = .ok (.getfield 7, 3) := by decide +kernel
theorem dX6_count_96 : decode cX6_count 96 = .ok (.iconst 4, 1) := by decide +kernel
theorem dX6_count_97 : decode cX6_count 97 = .ok (.iaload, 1) := by decide +kernel
theorem dX6_count_98 : decode cX6_count 98 = .ok (.ireturn, 1) := by decide +kernel
theorem dX6_count_99 : decode cX6_count 99 = .ok (.aload_n 0, 1) := by decide +kernel
theorem dX6_count_100 : decode cX6_count 100 = .ok (.invokevirtual 71, 3) := by decide +kernel
theorem dX6_count_103 : decode cX6_count 103 = .ok (.ireturn, 1) := by decide +kernel
theorem dX6_count_104 : decode cX6_count 104 = .ok (.aload_n 0, 1) := by decide +kernel
theorem dX6_count_105 : decode cX6_count 105 = .ok (.getfield 7, 3) := by decide +kernel
theorem dX6_count_108 : decode cX6_count 108 = .ok (.iconst 5, 1) := by decide +kernel
theorem dX6_count_109 : decode cX6_count 109 = .ok (.iaload, 1) := by decide +kernel
theorem dX6_count_110 : decode cX6_count 110 = .ok (.ireturn, 1) := by decide +kernel
theorem dX6_count_111 : decode cX6_count 111 = .ok (.aload_n 0, 1) := by decide +kernel
theorem dX6_count_112 : decode cX6_count 112 = .ok (.getfield 7, 3) := by decide +kernel
theorem dX6_count_115 : decode cX6_count 115 = .ok (.bipush 6, 2) := by decide +kernel
theorem dX6_count_117 : decode cX6_count 117 = .ok (.iaload, 1) := by decide +kernel
theorem dX6_count_118 : decode cX6_count 118 = .ok (.ireturn, 1) := by decide +kernel
theorem dX6_count_119 : decode cX6_count 119 = .ok (.aload_n 0, 1) := by decide +kernel
theorem dX6_count_120 : decode cX6_count 120 = .ok (.iload_n 1, 1) := by decide +kernel
theorem dX6_count_121 : decode cX6_count 121 = .ok (.invokevirtual 128, 3) := by decide +kernel
theorem dX6_count_124 : decode cX6_count 124 = .ok (.ireturn, 1) := by decide +kernel
theorem dX6_count_125 : decode cX6_count 125 = .ok (.aload_n 0, 1) := by decide +kernel
theorem dX6_count_126 : decode cX6_count 126 = .ok (.getfield 7, 3) := by decide +kernel
theorem dX6_count_129 : decode cX6_count 129 = .ok (.bipush 7, 2) := by decide +kernel
theorem dX6_count_131 : decode cX6_count 131 = .ok (.iload_n 1, 1) := by decide +kernel
theorem dX6_count_132 : decode cX6_count 132 = .ok (.iadd, 1) := by decide +kernel
theorem dX6_count_133 : decode cX6_count 133 = .ok (.iconst 5, 1) := by decide +kernel
theorem dX6_count_134 : decode cX6_count 134 = .ok (.isub, 1) := by decide +kernel
theorem dX6_count_135 : decode cX6_count 135 = .ok (.iaload, 1) := by decide +kernel
theorem dX6_count_136 : decode cX6_count 136 = .ok (.ireturn, 1) := by decide +kernel
theorem dX6_count_137 : decode cX6_count 137 = .ok (.aload_n 0, 1) := by decide +kernel
theorem dX6_count_138 : decode cX6_count 138 = .ok (.getfield 7, 3) := by decide +kernel
theorem dX6_count_141 : decode cX6_count 141 = .ok (.iload_n 1, 1) := by decide +kernel
theorem dX6_count_142 : decode cX6_count 142 = .ok (.bipush 13, 2) := by decide +kernel
theorem dX6_count_144 : decode cX6_count 144 = .ok (.isub, 1) := by decide +kernel
theorem dX6_count_145 : decode cX6_count 145 = .ok (.iaload, 1) := by decide +kernel
theorem dX6_count_146 : decode cX6_count 146 = .ok (.ireturn, 1) := by decide +kernel
theorem dX6_count_147 : decode cX6_count 147 = .ok (.aload_n 0, 1) := by decide +kernel
theorem dX6_count_148 : decode cX6_count 148 = .ok (.getfield 131, 3) := by decide +kernel
theorem dX6_count_151 : decode cX6_count 151 = .ok (.ireturn, 1) := by decide +kernel
theorem dX6_count_152 : decode cX6_count 152 = .ok (.aload_n 0, 1) := by decide +kernel
theorem dX6_count_153 : decode cX6_count 153 = .ok (.getfield 50, 3) := by decide +kernel
theorem dX6_count_156 : decode cX6_count 156 = .ok (.ireturn, 1) := by decide +kernel
theorem dX6_count_157 : decode cX6_count 157 = .ok (.bipush (-2), 2) := by decide +kernel
theorem dX6_count_159 : decode cX6_count 159 = .ok (.ireturn, 1) := by decide +kernel
theorem dX6_why_0 : decode cX6_why 0 = .ok (.aload_n 0, 1) := by decide +kernel
theorem dX6_why_1 : decode cX6_why 1 = .ok (.iload_n 1, 1) := by decide +kernel
theorem dX6_why_2 : decode cX6_why 2 = .ok (.invokevirtual 57, 3) := by decide +kernel
theorem dX6_why_5 : decode cX6_why 5 = .ok (.ifCond .eq 11, 3) := by decide +kernel
theorem dX6_why_8 : decode cX6_why 8 = .ok (.aload_n 0, 1) := by decide +kernel
theorem dX6_why_9 : decode cX6_why 9 = .ok (.iload_n 1, 1) := by decide +kernel
theorem dX6_why_10 : decode cX6_why 10 = .ok (.invokevirtual 82, 3) := by decide +kernel
theorem dX6_why_13 : decode cX6_why 13 = .ok (.goto 4, 3) := by decide +kernel
theorem dX6_why_16 : decode cX6_why 16 = .ok (.iconst (-1), 1) := by decide +kernel
theorem dX6_why_17 : decode cX6_why 17 = .ok (.ireturn, 1) := by decide +kernel
theorem dX6_seatedIn_0 : decode cX6_seatedIn 0 = .ok (.aload_n 0, 1) := by decide +kernel
theorem dX6_seatedIn_1 : decode cX6_seatedIn 1 = .ok (.iload_n 1, 1) := by decide +kernel
theorem dX6_seatedIn_2 : decode cX6_seatedIn 2 = .ok (.invokevirtual 57, 3) := by decide +kernel
theorem dX6_seatedIn_5 : decode cX6_seatedIn 5 = .ok (.ifCond .eq 17, 3) := by decide +kernel
theorem dX6_seatedIn_8 : decode cX6_seatedIn 8 = .ok (.iload_n 2, 1) := by decide +kernel
theorem dX6_seatedIn_9 : decode cX6_seatedIn 9 = .ok (.iconst 0, 1) := by decide +kernel
theorem dX6_seatedIn_10 : decode cX6_seatedIn 10 = .ok (.aload_n 0, 1) := by decide +kernel
theorem dX6_seatedIn_11 : decode cX6_seatedIn 11 = .ok (.invokevirtual 71, 3) := by decide +kernel
theorem dX6_seatedIn_14 : decode cX6_seatedIn 14 = .ok (.iconst 1, 1) := by decide +kernel
theorem dX6_seatedIn_15 : decode cX6_seatedIn 15 = .ok (.isub, 1) := by decide +kernel
theorem dX6_seatedIn_16 : decode cX6_seatedIn 16 = .ok (.invokestatic 42, 3) := by decide +kernel
theorem dX6_seatedIn_19 : decode cX6_seatedIn 19 = .ok (.ifCond .ne 5, 3) := by decide +kernel
theorem dX6_seatedIn_22 : decode cX6_seatedIn 22 = .ok (.iconst (-1), 1) := by decide +kernel
theorem dX6_seatedIn_23 : decode cX6_seatedIn 23 = .ok (.ireturn, 1) := by decide +kernel
theorem dX6_seatedIn_24 : decode cX6_seatedIn 24 = .ok (.aload_n 0, 1) := by decide +kernel
theorem dX6_seatedIn_25 : decode cX6_seatedIn 25 = .ok (.invokevirtual 134, 3) := by decide +kernel
theorem dX6_seatedIn_28 : decode cX6_seatedIn 28 = .ok (.iconst 0, 1) := by decide +kernel
theorem dX6_seatedIn_29 : decode cX6_seatedIn 29 = .ok (.istore_n 3, 1) := by decide +kernel
theorem dX6_seatedIn_30 : decode cX6_seatedIn 30 = .ok (.iload_n 3, 1) := by decide +kernel
theorem dX6_seatedIn_31 : decode cX6_seatedIn 31 = .ok (.sipush 300, 3) := by decide +kernel
theorem dX6_seatedIn_34 : decode cX6_seatedIn 34 = .ok (.if_icmp .ge 25, 3) := by decide +kernel
theorem dX6_seatedIn_37 : decode cX6_seatedIn 37 = .ok (.aload_n 0, 1) := by decide +kernel
theorem dX6_seatedIn_38 : decode cX6_seatedIn 38 = .ok (.iload_n 1, 1) := by decide +kernel
theorem dX6_seatedIn_39 : decode cX6_seatedIn 39 = .ok (.invokevirtual 65, 3) := by decide +kernel
theorem dX6_seatedIn_42 : decode cX6_seatedIn 42 = .ok (.iload_n 2, 1) := by decide +kernel
theorem dX6_seatedIn_43 : decode cX6_seatedIn 43 = .ok (.if_icmp .le 16, 3) := by decide +kernel
theorem dX6_seatedIn_46 : decode cX6_seatedIn 46 = .ok (.aload_n 0, 1) := by decide +kernel
theorem dX6_seatedIn_47 : decode cX6_seatedIn 47 = .ok (.iconst 1, 1) := by decide +kernel
theorem dX6_seatedIn_48 : decode cX6_seatedIn 48 = .ok (.invokevirtual 68, 3) := by decide +kernel
theorem dX6_seatedIn_51 : decode cX6_seatedIn 51 = .ok (.istore 4, 2) := by decide +kernel
theorem dX6_seatedIn_53 : decode cX6_seatedIn 53 = .ok (.iinc 3 1, 3) := by decide +kernel
theorem dX6_seatedIn_56 : decode cX6_seatedIn 56 = .ok (.goto (-26), 3) := by decide +kernel
theorem dX6_seatedIn_59 : decode cX6_seatedIn 59 = .ok (.aload_n 0, 1) := by decide +kernel
theorem dX6_seatedIn_60 : decode cX6_seatedIn 60 = .ok (.iload_n 1, 1) := by decide +kernel
theorem dX6_seatedIn_61 : decode cX6_seatedIn 61 = .ok (.invokevirtual 65, 3) := by decide +kernel
theorem dX6_seatedIn_64 : decode cX6_seatedIn 64 = .ok (.iload_n 2, 1) := by decide +kernel
theorem dX6_seatedIn_65 : decode cX6_seatedIn 65 = .ok (.if_icmp .gt 7, 3) := by decide +kernel
theorem dX6_seatedIn_68 : decode cX6_seatedIn 68 = .ok (.iconst 1, 1) := by decide +kernel
theorem dX6_seatedIn_69 : decode cX6_seatedIn 69 = .ok (.goto 4, 3) := by decide +kernel
theorem dX6_seatedIn_72 : decode cX6_seatedIn 72 = .ok (.iconst 0, 1) := by decide +kernel
theorem dX6_seatedIn_73 : decode cX6_seatedIn 73 = .ok (.istore 4, 2) := by decide +kernel
theorem dX6_seatedIn_75 : decode cX6_seatedIn 75 = .ok (.aload_n 0, 1) := by decide +kernel
theorem dX6_seatedIn_76 : decode cX6_seatedIn 76 = .ok (.invokevirtual 137, 3) := by decide +kernel
theorem dX6_seatedIn_79 : decode cX6_seatedIn 79 = .ok (.iload 4, 2) := by decide +kernel
theorem dX6_seatedIn_81 : decode cX6_seatedIn 81 = .ok (.ifCond .eq 7, 3) := by decide +kernel
theorem dX6_seatedIn_84 : decode cX6_seatedIn 84 = .ok (.iload_n 3, 1) := by decide +kernel
theorem dX6_seatedIn_85 : decode cX6_seatedIn 85 = .ok (.goto 5, 3) := by decide +kernel
theorem dX6_seatedIn_88 : decode cX6_seatedIn 88 = .ok (.bipush (-6), 2) := by decide +kernel
theorem dX6_seatedIn_90 : decode cX6_seatedIn 90 = .ok (.ireturn, 1) := by decide +kernel
theorem dX6_ifWord_0 : decode cX6_ifWord 0 = .ok (.aload_n 0, 1) := by decide +kernel
theorem dX6_ifWord_1 : decode cX6_ifWord 1 = .ok (.iload_n 1, 1) := by decide +kernel
theorem dX6_ifWord_2 : decode cX6_ifWord 2 = .ok (.invokevirtual 57, 3) := by decide +kernel
theorem dX6_ifWord_5 : decode cX6_ifWord 5 = .ok (.ifCond .ne 5, 3) := by decide +kernel
theorem dX6_ifWord_8 : decode cX6_ifWord 8 = .ok (.iconst (-1), 1) := by decide +kernel
theorem dX6_ifWord_9 : decode cX6_ifWord 9 = .ok (.ireturn, 1) := by decide +kernel
theorem dX6_ifWord_10 : decode cX6_ifWord 10 = .ok (.aload_n 0, 1) := by decide +kernel
theorem dX6_ifWord_11 : decode cX6_ifWord 11 = .ok (.invokevirtual 134, 3) := by decide +kernel
theorem dX6_ifWord_14 : decode cX6_ifWord 14 = .ok (.aload_n 0, 1) := by decide +kernel
theorem dX6_ifWord_15 : decode cX6_ifWord 15 = .ok (.getfield 7, 3) := by decide +kernel
theorem dX6_ifWord_18 : decode cX6_ifWord 18 = .ok (.iload_n 1, 1) := by decide +kernel
theorem dX6_ifWord_19 : decode cX6_ifWord 19 = .ok (.invokestatic 46, 3) := by decide +kernel
theorem dX6_ifWord_22 : decode cX6_ifWord 22 = .ok (.iconst 3, 1) := by decide +kernel
theorem dX6_ifWord_23 : decode cX6_ifWord 23 = .ok (.iadd, 1) := by decide +kernel
theorem dX6_ifWord_24 : decode cX6_ifWord 24 = .ok (.iconst 0, 1) := by decide +kernel
theorem dX6_ifWord_25 : decode cX6_ifWord 25 = .ok (.iastore, 1) := by decide +kernel
theorem dX6_ifWord_26 : decode cX6_ifWord 26 = .ok (.aload_n 0, 1) := by decide +kernel
theorem dX6_ifWord_27 : decode cX6_ifWord 27 = .ok (.iload_n 1, 1) := by decide +kernel
theorem dX6_ifWord_28 : decode cX6_ifWord 28 = .ok (.invokevirtual 65, 3) := by decide +kernel
theorem dX6_ifWord_31 : decode cX6_ifWord 31 = .ok (.istore_n 2, 1) := by decide +kernel
theorem dX6_ifWord_32 : decode cX6_ifWord 32 = .ok (.aload_n 0, 1) := by decide +kernel
theorem dX6_ifWord_33 : decode cX6_ifWord 33 = .ok (.invokevirtual 137, 3) := by decide +kernel
theorem dX6_ifWord_36 : decode cX6_ifWord 36 = .ok (.iload_n 2, 1) := by decide +kernel
theorem dX6_ifWord_37 : decode cX6_ifWord 37 = .ok (.ireturn, 1) := by decide +kernel
theorem dX6_ifRound_0 : decode cX6_ifRound 0 = .ok (.iload_n 1, 1) := by decide +kernel
theorem dX6_ifRound_1 : decode cX6_ifRound 1 = .ok (.iconst 0, 1) := by decide +kernel
theorem dX6_ifRound_2 : decode cX6_ifRound 2 = .ok (.iconst 2, 1) := by decide +kernel
theorem dX6_ifRound_3 : decode cX6_ifRound 3 = .ok (.invokestatic 42, 3) := by decide +kernel
theorem dX6_ifRound_6 : decode cX6_ifRound 6 = .ok (.ifCond .ne 6, 3) := by decide +kernel
theorem dX6_ifRound_9 : decode cX6_ifRound 9 = .ok (.bipush (-2), 2) := by decide +kernel
theorem dX6_ifRound_11 : decode cX6_ifRound 11 = .ok (.ireturn, 1) := by decide +kernel
theorem dX6_ifRound_12 : decode cX6_ifRound 12 = .ok (.aload_n 0, 1) := by decide +kernel
theorem dX6_ifRound_13 : decode cX6_ifRound 13 = .ok (.invokevirtual 71, 3) := by decide +kernel
theorem dX6_ifRound_16 : decode cX6_ifRound 16 = .ok (.ifCond .ne 6, 3) := by decide +kernel
theorem dX6_ifRound_19 : decode cX6_ifRound 19 = .ok (.bipush (-5), 2) := by decide +kernel
theorem dX6_ifRound_21 : decode cX6_ifRound 21 = .ok (.ireturn, 1) := by decide +kernel
theorem dX6_ifRound_22 : decode cX6_ifRound 22 = .ok (.aload_n 0, 1) := by decide +kernel
theorem dX6_ifRound_23 : decode cX6_ifRound 23 = .ok (.invokevirtual 134, 3) := by decide +kernel
theorem dX6_ifRound_26 : decode cX6_ifRound 26 = .ok (.aload_n 0, 1) := by decide +kernel
theorem dX6_ifRound_27 : decode cX6_ifRound 27 = .ok (.invokevirtual 95, 3) := by decide +kernel
theorem dX6_ifRound_30 : decode cX6_ifRound 30 = .ok (.istore_n 2, 1) := by decide +kernel
theorem dX6_ifRound_31 : decode cX6_ifRound 31 = .ok (.aload_n 0, 1) := by decide +kernel
theorem dX6_ifRound_32 : decode cX6_ifRound 32 = .ok (.iconst 0, 1) := by decide +kernel
theorem dX6_ifRound_33 : decode cX6_ifRound 33 = .ok (.invokevirtual 89, 3) := by decide +kernel
theorem dX6_ifRound_36 : decode cX6_ifRound 36 = .ok (.istore_n 3, 1) := by decide +kernel
theorem dX6_ifRound_37 : decode cX6_ifRound 37 = .ok (.aload_n 0, 1) := by decide +kernel
theorem dX6_ifRound_38 : decode cX6_ifRound 38 = .ok (.invokevirtual 137, 3) := by decide +kernel
theorem dX6_ifRound_41 : decode cX6_ifRound 41 = .ok (.iload_n 1, 1) := by decide +kernel
theorem dX6_ifRound_42 : decode cX6_ifRound 42 = .ok (.ifCond .ne 7, 3) := by decide +kernel
theorem dX6_ifRound_45 : decode cX6_ifRound 45 = .ok (.iload_n 2, 1) := by decide +kernel
theorem dX6_ifRound_46 : decode cX6_ifRound 46 = .ok (.goto 20, 3) := by decide +kernel
theorem dX6_ifRound_49 : decode cX6_ifRound 49 = .ok (.iload_n 1, 1) := by decide +kernel
theorem dX6_ifRound_50 : decode cX6_ifRound 50 = .ok (.iconst 1, 1) := by decide +kernel
theorem dX6_ifRound_51 : decode cX6_ifRound 51 = .ok (.if_icmp .ne 14, 3) := by decide +kernel
theorem dX6_ifRound_54 : decode cX6_ifRound 54 = .ok (.iload_n 2, 1) := by decide +kernel
theorem dX6_ifRound_55 : decode cX6_ifRound 55 = .ok (.aload_n 0, 1) := by decide +kernel
theorem dX6_ifRound_56 : decode cX6_ifRound 56 = .ok (.getfield 7, 3) := by decide +kernel
theorem dX6_ifRound_59 : decode cX6_ifRound 59 = .ok (.iconst 0, 1) := by decide +kernel
theorem dX6_ifRound_60 : decode cX6_ifRound 60 = .ok (.iaload, 1) := by decide +kernel
theorem dX6_ifRound_61 : decode cX6_ifRound 61 = .ok (.imul, 1) := by decide +kernel
theorem dX6_ifRound_62 : decode cX6_ifRound 62 = .ok (.goto 4, 3) := by decide +kernel
theorem dX6_ifRound_65 : decode cX6_ifRound 65 = .ok (.iload_n 3, 1) := by decide +kernel
theorem dX6_ifRound_66 : decode cX6_ifRound 66 = .ok (.ireturn, 1) := by decide +kernel
theorem dX6_canLead_0 : decode cX6_canLead 0 = .ok (.aload_n 0, 1) := by decide +kernel
theorem dX6_canLead_1 : decode cX6_canLead 1 = .ok (.invokevirtual 71, 3) := by decide +kernel
theorem dX6_canLead_4 : decode cX6_canLead 4 = .ok (.ifCond .ne 5, 3) := by decide +kernel
theorem dX6_canLead_7 : decode cX6_canLead 7 = .ok (.iconst 0, 1) := by decide +kernel
theorem dX6_canLead_8 : decode cX6_canLead 8 = .ok (.ireturn, 1) := by decide +kernel
theorem dX6_canLead_9 : decode cX6_canLead 9 = .ok (.aload_n 0, 1) := by decide +kernel
theorem dX6_canLead_10 : decode cX6_canLead 10 = .ok (.invokevirtual 134, 3) := by decide +kernel
theorem dX6_canLead_13 : decode cX6_canLead 13 = .ok (.iconst 1, 1) := by decide +kernel
theorem dX6_canLead_14 : decode cX6_canLead 14 = .ok (.aload_n 0, 1) := by decide +kernel
theorem dX6_canLead_15 : decode cX6_canLead 15 = .ok (.iconst 0, 1) := by decide +kernel
theorem dX6_canLead_16 : decode cX6_canLead 16 = .ok (.invokevirtual 125, 3) := by decide +kernel
theorem dX6_canLead_19 : decode cX6_canLead 19 = .ok (.ishl, 1) := by decide +kernel
theorem dX6_canLead_20 : decode cX6_canLead 20 = .ok (.istore_n 1, 1) := by decide +kernel
theorem dX6_canLead_21 : decode cX6_canLead 21 = .ok (.iconst 0, 1) := by decide +kernel
theorem dX6_canLead_22 : decode cX6_canLead 22 = .ok (.istore_n 2, 1) := by decide +kernel
theorem dX6_canLead_23 : decode cX6_canLead 23 = .ok (.iload_n 2, 1) := by decide +kernel
theorem dX6_canLead_24 : decode cX6_canLead 24 = .ok (.bipush 100, 2) := by decide +kernel
theorem dX6_canLead_26 : decode cX6_canLead 26 = .ok (.if_icmp .ge 25, 3) := by decide +kernel
theorem dX6_canLead_29 : decode cX6_canLead 29 = .ok (.aload_n 0, 1) := by decide +kernel
theorem dX6_canLead_30 : decode cX6_canLead 30 = .ok (.iconst 1, 1) := by decide +kernel
theorem dX6_canLead_31 : decode cX6_canLead 31 = .ok (.invokevirtual 68, 3) := by decide +kernel
theorem dX6_canLead_34 : decode cX6_canLead 34 = .ok (.istore_n 3, 1) := by decide +kernel
theorem dX6_canLead_35 : decode cX6_canLead 35 = .ok (.iload_n 1, 1) := by decide +kernel
theorem dX6_canLead_36 : decode cX6_canLead 36 = .ok (.iconst 1, 1) := by decide +kernel
theorem dX6_canLead_37 : decode cX6_canLead 37 = .ok (.aload_n 0, 1) := by decide +kernel
theorem dX6_canLead_38 : decode cX6_canLead 38 = .ok (.iconst 0, 1) := by decide +kernel
theorem dX6_canLead_39 : decode cX6_canLead 39 = .ok (.invokevirtual 125, 3) := by decide +kernel
theorem dX6_canLead_42 : decode cX6_canLead 42 = .ok (.ishl, 1) := by decide +kernel
theorem dX6_canLead_43 : decode cX6_canLead 43 = .ok (.ior, 1) := by decide +kernel
theorem dX6_canLead_44 : decode cX6_canLead 44 = .ok (.istore_n 1, 1) := by decide +kernel
theorem dX6_canLead_45 : decode cX6_canLead 45 = .ok (.iinc 2 1, 3) := by decide +kernel
theorem dX6_canLead_48 : decode cX6_canLead 48 = .ok (.goto (-25), 3) := by decide +kernel
theorem dX6_canLead_51 : decode cX6_canLead 51 = .ok (.aload_n 0, 1) := by decide +kernel
theorem dX6_canLead_52 : decode cX6_canLead 52 = .ok (.invokevirtual 137, 3) := by decide +kernel
theorem dX6_canLead_55 : decode cX6_canLead 55 = .ok (.iload_n 1, 1) := by decide +kernel
theorem dX6_canLead_56 : decode cX6_canLead 56 = .ok (.ireturn, 1) := by decide +kernel
theorem dX6_isSign_0 : decode cX6_isSign 0 = .ok (.aload_n 0, 1) := by decide +kernel
theorem dX6_isSign_1 : decode cX6_isSign 1 = .ok (.getfield 140, 3) := by decide +kernel
theorem dX6_isSign_4 : decode cX6_isSign 4 = .ok (.aload_n 0, 1) := by decide +kernel
theorem dX6_isSign_5 : decode cX6_isSign 5 = .ok (.getfield 131, 3) := by decide +kernel
theorem dX6_isSign_8 : decode cX6_isSign 8 = .ok (.if_icmp .ge 33, 3) := by decide +kernel
theorem dX6_isSign_11 : decode cX6_isSign 11 = .ok (.aload_n 0, 1) := by decide +kernel
theorem dX6_isSign_12 : decode cX6_isSign 12 = .ok (.getfield 38, 3) := by decide +kernel
theorem dX6_isSign_15 : decode cX6_isSign 15 = .ok (.aload_n 0, 1) := by decide +kernel
theorem dX6_isSign_16 : decode cX6_isSign 16 = .ok (.getfield 140, 3) := by decide +kernel
theorem dX6_isSign_19 : decode cX6_isSign 19 = .ok (.caload, 1) := by decide +kernel
theorem dX6_isSign_20 : decode cX6_isSign 20 = .ok (.iload_n 1, 1) := by decide +kernel
theorem dX6_isSign_21 : decode cX6_isSign 21 = .ok (.if_icmp .lt 20, 3) := by decide +kernel
theorem dX6_isSign_24 : decode cX6_isSign 24 = .ok (.aload_n 0, 1) := by decide +kernel
theorem dX6_isSign_25 : decode cX6_isSign 25 = .ok (.getfield 38, 3) := by decide +kernel
theorem dX6_isSign_28 : decode cX6_isSign 28 = .ok (.aload_n 0, 1) := by decide +kernel
theorem dX6_isSign_29 : decode cX6_isSign 29 = .ok (.getfield 140, 3) := by decide +kernel
theorem dX6_isSign_32 : decode cX6_isSign 32 = .ok (.caload, 1) := by decide +kernel
theorem dX6_isSign_33 : decode cX6_isSign 33 = .ok (.iload_n 2, 1) := by decide +kernel
theorem dX6_isSign_34 : decode cX6_isSign 34 = .ok (.if_icmp .gt 7, 3) := by decide +kernel
theorem dX6_isSign_37 : decode cX6_isSign 37 = .ok (.iconst 1, 1) := by decide +kernel
theorem dX6_isSign_38 : decode cX6_isSign 38 = .ok (.goto 4, 3) := by decide +kernel
theorem dX6_isSign_41 : decode cX6_isSign 41 = .ok (.iconst 0, 1) := by decide +kernel
theorem dX6_isSign_42 : decode cX6_isSign 42 = .ok (.ireturn, 1) := by decide +kernel
theorem dX6_accepts_0 : decode cX6_accepts 0 = .ok (.aload_n 0, 1) := by decide +kernel
theorem dX6_accepts_1 : decode cX6_accepts 1 = .ok (.iload_n 1, 1) := by decide +kernel
theorem dX6_accepts_2 : decode cX6_accepts 2 = .ok (.iload_n 1, 1) := by decide +kernel
theorem dX6_accepts_3 : decode cX6_accepts 3 = .ok (.invokevirtual 143, 3) := by decide +kernel
theorem dX6_accepts_6 : decode cX6_accepts 6 = .ok (.istore_n 2, 1) := by decide +kernel
theorem dX6_accepts_7 : decode cX6_accepts 7 = .ok (.aload_n 0, 1) := by decide +kernel
theorem dX6_accepts_8 : decode cX6_accepts 8 = .ok (.dup, 1) := by decide +kernel
theorem dX6_accepts_9 : decode cX6_accepts 9 = .ok (.getfield 140, 3) := by decide +kernel
theorem dX6_accepts_12 : decode cX6_accepts 12 = .ok (.iload_n 2, 1) := by decide +kernel
theorem dX6_accepts_13 : decode cX6_accepts 13 = .ok (.ifCond .eq 7, 3) := by decide +kernel
theorem dX6_accepts_16 : decode cX6_accepts 16 = .ok (.iconst 1, 1) := by decide +kernel
theorem dX6_accepts_17 : decode cX6_accepts 17 = .ok (.goto 4, 3) := by decide +kernel
theorem dX6_accepts_20 : decode cX6_accepts 20 = .ok (.iconst 0, 1) := by decide +kernel
theorem dX6_accepts_21 : decode cX6_accepts 21 = .ok (.iadd, 1) := by decide +kernel
theorem dX6_accepts_22 : decode cX6_accepts 22 = .ok (.putfield 140, 3) := by decide +kernel
theorem dX6_accepts_25 : decode cX6_accepts 25 = .ok (.iload_n 2, 1) := by decide +kernel
theorem dX6_accepts_26 : decode cX6_accepts 26 = .ok (.ireturn, 1) := by decide +kernel
theorem dX6_digit_0 : decode cX6_digit 0 = .ok (.aload_n 0, 1) := by decide +kernel
theorem dX6_digit_1 : decode cX6_digit 1 = .ok (.bipush 48, 2) := by decide +kernel
theorem dX6_digit_3 : decode cX6_digit 3 = .ok (.bipush 57, 2) := by decide +kernel
theorem dX6_digit_5 : decode cX6_digit 5 = .ok (.invokevirtual 143, 3) := by decide +kernel
theorem dX6_digit_8 : decode cX6_digit 8 = .ok (.istore_n 2, 1) := by decide +kernel
theorem dX6_digit_9 : decode cX6_digit 9 = .ok (.aload_n 0, 1) := by decide +kernel
theorem dX6_digit_10 : decode cX6_digit 10 = .ok (.getfield 35, 3) := by decide +kernel
theorem dX6_digit_13 : decode cX6_digit 13 = .ok (.iconst 3, 1) := by decide +kernel
theorem dX6_digit_14 : decode cX6_digit 14 = .ok (.aload_n 0, 1) := by decide +kernel
theorem dX6_digit_15 : decode cX6_digit 15 = .ok (.getfield 147, 3) := by decide +kernel
theorem dX6_digit_18 : decode cX6_digit 18 = .ok (.imul, 1) := by decide +kernel
theorem dX6_digit_19 : decode cX6_digit 19 = .ok (.iload_n 1, 1) := by decide +kernel
theorem dX6_digit_20 : decode cX6_digit 20 = .ok (.iadd, 1) := by decide +kernel
theorem dX6_digit_21 : decode cX6_digit 21 = .ok (.iload_n 2, 1) := by decide +kernel
theorem dX6_digit_22 : decode cX6_digit 22 = .ok (.ifCond .eq 18, 3) := by decide +kernel
theorem dX6_digit_25 : decode cX6_digit 25 = .ok (.aload_n 0, 1) := by decide +kernel
theorem dX6_digit_26 : decode cX6_digit 26 = .ok (.getfield 38, 3) := by decide +kernel
theorem dX6_digit_29 : decode cX6_digit 29 = .ok (.aload_n 0, 1) := by decide +kernel
theorem dX6_digit_30 : decode cX6_digit 30 = .ok (.getfield 140, 3) := by decide +kernel
theorem dX6_digit_33 : decode cX6_digit 33 = .ok (.caload, 1) := by decide +kernel
theorem dX6_digit_34 : decode cX6_digit 34 = .ok (.bipush 48, 2) := by decide +kernel
theorem dX6_digit_36 : decode cX6_digit 36 = .ok (.isub, 1) := by decide +kernel
theorem dX6_digit_37 : decode cX6_digit 37 = .ok (.goto 4, 3) := by decide +kernel
theorem dX6_digit_40 : decode cX6_digit 40 = .ok (.iconst 0, 1) := by decide +kernel
theorem dX6_digit_41 : decode cX6_digit 41 = .ok (.iastore, 1) := by decide +kernel
theorem dX6_digit_42 : decode cX6_digit 42 = .ok (.aload_n 0, 1) := by decide +kernel
theorem dX6_digit_43 : decode cX6_digit 43 = .ok (.dup, 1) := by decide +kernel
theorem dX6_digit_44 : decode cX6_digit 44 = .ok (.getfield 140, 3) := by decide +kernel
theorem dX6_digit_47 : decode cX6_digit 47 = .ok (.iload_n 2, 1) := by decide +kernel
theorem dX6_digit_48 : decode cX6_digit 48 = .ok (.ifCond .eq 7, 3) := by decide +kernel
theorem dX6_digit_51 : decode cX6_digit 51 = .ok (.iconst 1, 1) := by decide +kernel
theorem dX6_digit_52 : decode cX6_digit 52 = .ok (.goto 4, 3) := by decide +kernel
theorem dX6_digit_55 : decode cX6_digit 55 = .ok (.iconst 0, 1) := by decide +kernel
theorem dX6_digit_56 : decode cX6_digit 56 = .ok (.iadd, 1) := by decide +kernel
theorem dX6_digit_57 : decode cX6_digit 57 = .ok (.putfield 140, 3) := by decide +kernel
theorem dX6_digit_60 : decode cX6_digit 60 = .ok (.iload_n 2, 1) := by decide +kernel
theorem dX6_digit_61 : decode cX6_digit 61 = .ok (.ireturn, 1) := by decide +kernel
theorem dX6_number_0 : decode cX6_number 0 = .ok (.aload_n 0, 1) := by decide +kernel
theorem dX6_number_1 : decode cX6_number 1 = .ok (.iconst 1, 1) := by decide +kernel
theorem dX6_number_2 : decode cX6_number 2 = .ok (.invokevirtual 150, 3) := by decide +kernel
theorem dX6_number_5 : decode cX6_number 5 = .ok (.istore_n 1, 1) := by decide +kernel
theorem dX6_number_6 : decode cX6_number 6 = .ok (.iconst 3, 1) := by decide +kernel
theorem dX6_number_7 : decode cX6_number 7 = .ok (.aload_n 0, 1) := by decide +kernel
theorem dX6_number_8 : decode cX6_number 8 = .ok (.getfield 147, 3) := by decide +kernel
theorem dX6_number_11 : decode cX6_number 11 = .ok (.imul, 1) := by decide +kernel
theorem dX6_number_12 : decode cX6_number 12 = .ok (.iconst 1, 1) := by decide +kernel
theorem dX6_number_13 : decode cX6_number 13 = .ok (.iadd, 1) := by decide +kernel
theorem dX6_number_14 : decode cX6_number 14 = .ok (.istore_n 2, 1) := by decide +kernel
theorem dX6_number_15 : decode cX6_number 15 = .ok (.iload_n 1, 1) := by decide +kernel
theorem dX6_number_16 : decode cX6_number 16 = .ok (.ifCond .eq 61, 3) := by decide +kernel
theorem dX6_number_19 : decode cX6_number 19 = .ok (.aload_n 0, 1) := by decide +kernel
theorem dX6_number_20 : decode cX6_number 20 = .ok (.getfield 35, 3) := by decide +kernel
theorem dX6_number_23 : decode cX6_number 23 = .ok (.iload_n 2, 1) := by decide +kernel
theorem dX6_number_24 : decode cX6_number 24 = .ok (.iaload, 1) := by decide +kernel
theorem dX6_number_25 : decode cX6_number 25 = .ok (.ifCond .le 52, 3) := by decide +kernel
theorem dX6_number_28 : decode cX6_number 28 = .ok (.aload_n 0, 1) := by decide +kernel
theorem dX6_number_29 : decode cX6_number 29 = .ok (.bipush 48, 2) := by decide +kernel
theorem dX6_number_31 : decode cX6_number 31 = .ok (.bipush 57, 2) := by decide +kernel
theorem dX6_number_33 : decode cX6_number 33 = .ok (.invokevirtual 143, 3) := by decide +kernel
theorem dX6_number_36 : decode cX6_number 36 = .ok (.ifCond .eq 41, 3) := by decide +kernel
theorem dX6_number_39 : decode cX6_number 39 = .ok (.aload_n 0, 1) := by decide +kernel
theorem dX6_number_40 : decode cX6_number 40 = .ok (.getfield 35, 3) := by decide +kernel
theorem dX6_number_43 : decode cX6_number 43 = .ok (.iload_n 2, 1) := by decide +kernel
theorem dX6_number_44 : decode cX6_number 44 = .ok (.bipush 10, 2) := by decide +kernel
theorem dX6_number_46 : decode cX6_number 46 = .ok (.aload_n 0, 1) := by decide +kernel
theorem dX6_number_47 : decode cX6_number 47 = .ok (.getfield 35, 3) := by decide +kernel
theorem dX6_number_50 : decode cX6_number 50 = .ok (.iload_n 2, 1) := by decide +kernel
theorem dX6_number_51 : decode cX6_number 51 = .ok (.iaload, 1) := by decide +kernel
theorem dX6_number_52 : decode cX6_number 52 = .ok (.imul, 1) := by decide +kernel
theorem dX6_number_53 : decode cX6_number 53 = .ok (.aload_n 0, 1) := by decide +kernel
theorem dX6_number_54 : decode cX6_number 54 = .ok (.getfield 38, 3) := by decide +kernel
theorem dX6_number_57 : decode cX6_number 57 = .ok (.aload_n 0, 1) := by decide +kernel
theorem dX6_number_58 : decode cX6_number 58 = .ok (.getfield 140, 3) := by decide +kernel
theorem dX6_number_61 : decode cX6_number 61 = .ok (.caload, 1) := by decide +kernel
theorem dX6_number_62 : decode cX6_number 62 = .ok (.iadd, 1) := by decide +kernel
theorem dX6_number_63 : decode cX6_number 63 = .ok (.bipush 48, 2) := by decide +kernel
theorem dX6_number_65 : decode cX6_number 65 = .ok (.isub, 1) := by decide +kernel
theorem dX6_number_66 : decode cX6_number 66 = .ok (.iastore, 1) := by decide +kernel
theorem dX6_number_67 : decode cX6_number 67 = .ok (.aload_n 0, 1) := by decide +kernel
theorem dX6_number_68 : decode cX6_number 68 = .ok (.dup, 1) := by decide +kernel
theorem dX6_number_69 : decode cX6_number 69 = .ok (.getfield 140, 3) := by decide +kernel
theorem dX6_number_72 : decode cX6_number 72 = .ok (.iconst 1, 1) := by decide +kernel
theorem dX6_number_73 : decode cX6_number 73 = .ok (.iadd, 1) := by decide +kernel
theorem dX6_number_74 : decode cX6_number 74 = .ok (.putfield 140, 3) := by decide +kernel
theorem dX6_number_77 : decode cX6_number 77 = .ok (.iload_n 1, 1) := by decide +kernel
theorem dX6_number_78 : decode cX6_number 78 = .ok (.ireturn, 1) := by decide +kernel
theorem dX6_readsOrder_0 : decode cX6_readsOrder 0 = .ok (.aload_n 0, 1) := by decide +kernel
theorem dX6_readsOrder_1 : decode cX6_readsOrder 1 = .ok (.getfield 35, 3) := by decide +kernel
theorem dX6_readsOrder_4 : decode cX6_readsOrder 4 = .ok (.iconst 3, 1) := by decide +kernel
theorem dX6_readsOrder_5 : decode cX6_readsOrder 5 = .ok (.aload_n 0, 1) := by decide +kernel
theorem dX6_readsOrder_6 : decode cX6_readsOrder 6 = .ok (.getfield 147, 3) := by decide +kernel
theorem dX6_readsOrder_9 : decode cX6_readsOrder 9 = .ok (.imul, 1) := by decide +kernel
theorem dX6_readsOrder_10 : decode cX6_readsOrder 10 = .ok (.aload_n 0, 1) := by decide +kernel
theorem dX6_readsOrder_11 : decode cX6_readsOrder 11 = .ok (.getfield 140, 3) := by decide +kernel
theorem dX6_readsOrder_14 : decode cX6_readsOrder 14 = .ok (.aload_n 0, 1) := by decide +kernel
theorem dX6_readsOrder_15 : decode cX6_readsOrder 15 = .ok (.getfield 131, 3) := by decide +kernel
theorem dX6_readsOrder_18 : decode cX6_readsOrder 18 = .ok (.if_icmp .ge 15, 3) := by decide +kernel
theorem dX6_readsOrder_21 : decode cX6_readsOrder 21 = .ok (.aload_n 0, 1) := by decide +kernel
theorem dX6_readsOrder_22 : decode cX6_readsOrder 22 = .ok (.getfield 38, 3) := by decide +kernel
theorem dX6_readsOrder_25 : decode cX6_readsOrder 25 = .ok (.aload_n 0, 1) := by decide +kernel
theorem dX6_readsOrder_26 : decode cX6_readsOrder 26 = .ok (.getfield 140, 3) := by decide +kernel
theorem dX6_readsOrder_29 : decode cX6_readsOrder 29 = .ok (.caload, 1) := by decide +kernel
theorem dX6_readsOrder_30 : decode cX6_readsOrder 30 = .ok (.goto 4, 3) := by decide +kernel
theorem dX6_readsOrder_33 : decode cX6_readsOrder 33 = .ok (.iconst 0, 1) := by decide +kernel
theorem dX6_readsOrder_34 : decode cX6_readsOrder 34 = .ok (.iastore, 1) := by decide +kernel
theorem dX6_readsOrder_35 : decode cX6_readsOrder 35 = .ok (.aload_n 0, 1) := by decide +kernel
theorem dX6_readsOrder_36 : decode cX6_readsOrder 36 = .ok (.bipush 103, 2) := by decide +kernel
theorem dX6_readsOrder_38 : decode cX6_readsOrder 38 = .ok (.invokevirtual 153, 3) := by decide +kernel
theorem dX6_readsOrder_41 : decode cX6_readsOrder 41 = .ok (.ifCond .ne 12, 3) := by decide +kernel
theorem dX6_readsOrder_44 : decode cX6_readsOrder 44 = .ok (.aload_n 0, 1) := by decide +kernel
theorem dX6_readsOrder_45 : decode cX6_readsOrder 45 = .ok (.bipush 116, 2) := by decide +kernel
theorem dX6_readsOrder_47 : decode cX6_readsOrder 47 = .ok (.invokevirtual 153, 3) := by decide +kernel
theorem dX6_readsOrder_50 : decode cX6_readsOrder 50 = .ok (.ifCond .eq 11, 3) := by decide +kernel
theorem dX6_readsOrder_53 : decode cX6_readsOrder 53 = .ok (.aload_n 0, 1) := by decide +kernel
theorem dX6_readsOrder_54 : decode cX6_readsOrder 54 = .ok (.invokevirtual 157, 3) := by decide +kernel
theorem dX6_readsOrder_57 : decode cX6_readsOrder 57 = .ok (.istore_n 1, 1) := by decide +kernel
theorem dX6_readsOrder_58 : decode cX6_readsOrder 58 = .ok (.goto 80, 3) := by decide +kernel
theorem dX6_readsOrder_61 : decode cX6_readsOrder 61 = .ok (.aload_n 0, 1) := by decide +kernel
theorem dX6_readsOrder_62 : decode cX6_readsOrder 62 = .ok (.bipush 120, 2) := by decide +kernel
theorem dX6_readsOrder_64 : decode cX6_readsOrder 64 = .ok (.invokevirtual 153, 3) := by decide +kernel
theorem dX6_readsOrder_67 : decode cX6_readsOrder 67 = .ok (.ifCond .ne 12, 3) := by decide +kernel
theorem dX6_readsOrder_70 : decode cX6_readsOrder 70 = .ok (.aload_n 0, 1) := by decide +kernel
theorem dX6_readsOrder_71 : decode cX6_readsOrder 71 = .ok (.bipush 119, 2) := by decide +kernel
theorem dX6_readsOrder_73 : decode cX6_readsOrder 73 = .ok (.invokevirtual 153, 3) := by decide +kernel
theorem dX6_readsOrder_76 : decode cX6_readsOrder 76 = .ok (.ifCond .eq 12, 3) := by decide +kernel
theorem dX6_readsOrder_79 : decode cX6_readsOrder 79 = .ok (.aload_n 0, 1) := by decide +kernel
theorem dX6_readsOrder_80 : decode cX6_readsOrder 80 = .ok (.iconst 1, 1) := by decide +kernel
theorem dX6_readsOrder_81 : decode cX6_readsOrder 81 = .ok (.invokevirtual 150, 3) := by decide +kernel
theorem dX6_readsOrder_84 : decode cX6_readsOrder 84 = .ok (.istore_n 1, 1) := by decide +kernel
theorem dX6_readsOrder_85 : decode cX6_readsOrder 85 = .ok (.goto 53, 3) := by decide +kernel
theorem dX6_readsOrder_88 : decode cX6_readsOrder 88 = .ok (.aload_n 0, 1) := by decide +kernel
theorem dX6_readsOrder_89 : decode cX6_readsOrder 89 = .ok (.bipush 98, 2) := by decide +kernel
theorem dX6_readsOrder_91 : decode cX6_readsOrder 91 = .ok (.invokevirtual 153, 3) := by decide +kernel
theorem dX6_readsOrder_94 : decode cX6_readsOrder 94 = .ok (.ifCond .ne 12, 3) := by decide +kernel
theorem dX6_readsOrder_97 : decode cX6_readsOrder 97 = .ok (.aload_n 0, 1) := by decide +kernel
theorem dX6_readsOrder_98 : decode cX6_readsOrder 98 = .ok (.bipush 111, 2) := by decide +kernel
theorem dX6_readsOrder_100 : decode cX6_readsOrder 100 = .ok (.invokevirtual 153, 3) := by decide +kernel
theorem dX6_readsOrder_103 : decode cX6_readsOrder 103 = .ok (.ifCond .eq 28, 3) := by decide +kernel
theorem dX6_readsOrder_106 : decode cX6_readsOrder 106 = .ok (.aload_n 0, 1) := by decide +kernel
theorem dX6_readsOrder_107 : decode cX6_readsOrder 107 = .ok (.iconst 1, 1) := by decide +kernel
theorem dX6_readsOrder_108 : decode cX6_readsOrder 108 = .ok (.invokevirtual 150, 3) := by decide +kernel
theorem dX6_readsOrder_111 : decode cX6_readsOrder 111 = .ok (.ifCond .eq 15, 3) := by decide +kernel
theorem dX6_readsOrder_114 : decode cX6_readsOrder 114 = .ok (.aload_n 0, 1) := by decide +kernel
theorem dX6_readsOrder_115 : decode cX6_readsOrder 115 = .ok (.iconst 2, 1) := by decide +kernel
theorem dX6_readsOrder_116 : decode cX6_readsOrder 116 = .ok (.invokevirtual 150, 3) := by decide +kernel
theorem dX6_readsOrder_119 : decode cX6_readsOrder 119 = .ok (.ifCond .eq 7, 3) := by decide +kernel
theorem dX6_readsOrder_122 : decode cX6_readsOrder 122 = .ok (.iconst 1, 1) := by decide +kernel
theorem dX6_readsOrder_123 : decode cX6_readsOrder 123 = .ok (.goto 4, 3) := by decide +kernel
theorem dX6_readsOrder_126 : decode cX6_readsOrder 126 = .ok (.iconst 0, 1) := by decide +kernel
theorem dX6_readsOrder_127 : decode cX6_readsOrder 127 = .ok (.istore_n 1, 1) := by decide +kernel
theorem dX6_readsOrder_128 : decode cX6_readsOrder 128 = .ok (.goto 10, 3) := by decide +kernel
theorem dX6_readsOrder_131 : decode cX6_readsOrder 131 = .ok (.aload_n 0, 1) := by decide +kernel
theorem dX6_readsOrder_132 : decode cX6_readsOrder 132 = .ok (.bipush 114, 2) := by decide +kernel
theorem dX6_readsOrder_134 : decode cX6_readsOrder 134 = .ok (.invokevirtual 153, 3) := by decide +kernel
theorem dX6_readsOrder_137 : decode cX6_readsOrder 137 = .ok (.istore_n 1, 1) := by decide +kernel
theorem dX6_readsOrder_138 : decode cX6_readsOrder 138 = .ok (.aload_n 0, 1) := by decide +kernel
theorem dX6_readsOrder_139 : decode cX6_readsOrder 139 = .ok (.dup, 1) := by decide +kernel
theorem dX6_readsOrder_140 : decode cX6_readsOrder 140 = .ok (.getfield 147, 3) := by decide +kernel
theorem dX6_readsOrder_143 : decode cX6_readsOrder 143 = .ok (.iload_n 1, 1) := by decide +kernel
theorem dX6_readsOrder_144 : decode cX6_readsOrder 144 = .ok (.ifCond .eq 7, 3) := by decide +kernel
theorem dX6_readsOrder_147 : decode cX6_readsOrder 147 = .ok (.iconst 1, 1) := by decide +kernel
theorem dX6_readsOrder_148 : decode cX6_readsOrder 148 = .ok (.goto 4, 3) := by decide +kernel
theorem dX6_readsOrder_151 : decode cX6_readsOrder 151 = .ok (.iconst 0, 1) := by decide +kernel
theorem dX6_readsOrder_152 : decode cX6_readsOrder 152 = .ok (.iadd, 1) := by decide +kernel
theorem dX6_readsOrder_153 : decode cX6_readsOrder 153 = .ok (.putfield 147, 3) := by decide +kernel
theorem dX6_readsOrder_156 : decode cX6_readsOrder 156 = .ok (.iload_n 1, 1) := by decide +kernel
theorem dX6_readsOrder_157 : decode cX6_readsOrder 157 = .ok (.ireturn, 1) := by decide +kernel
theorem dX6_faultOf_0 : decode cX6_faultOf 0 = .ok (.aload_n 0, 1) := by decide +kernel
theorem dX6_faultOf_1 : decode cX6_faultOf 1 = .ok (.iconst 0, 1) := by decide +kernel
theorem dX6_faultOf_2 : decode cX6_faultOf 2 = .ok (.putfield 140, 3) := by decide +kernel
theorem dX6_faultOf_5 : decode cX6_faultOf 5 = .ok (.aload_n 0, 1) := by decide +kernel
theorem dX6_faultOf_6 : decode cX6_faultOf 6 = .ok (.iconst 0, 1) := by decide +kernel
theorem dX6_faultOf_7 : decode cX6_faultOf 7 = .ok (.putfield 147, 3) := by decide +kernel
theorem dX6_faultOf_10 : decode cX6_faultOf 10 = .ok (.aload_n 0, 1) := by decide +kernel
theorem dX6_faultOf_11 : decode cX6_faultOf 11 = .ok (.invokevirtual 161, 3) := by decide +kernel
theorem dX6_faultOf_14 : decode cX6_faultOf 14 = .ok (.istore_n 1, 1) := by decide +kernel
theorem dX6_faultOf_15 : decode cX6_faultOf 15 = .ok (.iload_n 1, 1) := by decide +kernel
theorem dX6_faultOf_16 : decode cX6_faultOf 16 = .ok (.ifCond .eq 39, 3) := by decide +kernel
theorem dX6_faultOf_19 : decode cX6_faultOf 19 = .ok (.aload_n 0, 1) := by decide +kernel
theorem dX6_faultOf_20 : decode cX6_faultOf 20 = .ok (.getfield 140, 3) := by decide +kernel
theorem dX6_faultOf_23 : decode cX6_faultOf 23 = .ok (.aload_n 0, 1) := by decide +kernel
theorem dX6_faultOf_24 : decode cX6_faultOf 24 = .ok (.getfield 131, 3) := by decide +kernel
theorem dX6_faultOf_27 : decode cX6_faultOf 27 = .ok (.if_icmp .ge 28, 3) := by decide +kernel
theorem dX6_faultOf_30 : decode cX6_faultOf 30 = .ok (.aload_n 0, 1) := by decide +kernel
theorem dX6_faultOf_31 : decode cX6_faultOf 31 = .ok (.bipush 59, 2) := by decide +kernel
theorem dX6_faultOf_33 : decode cX6_faultOf 33 = .ok (.invokevirtual 153, 3) := by decide +kernel
theorem dX6_faultOf_36 : decode cX6_faultOf 36 = .ok (.ifCond .eq 14, 3) := by decide +kernel
theorem dX6_faultOf_39 : decode cX6_faultOf 39 = .ok (.aload_n 0, 1) := by decide +kernel
theorem dX6_faultOf_40 : decode cX6_faultOf 40 = .ok (.invokevirtual 161, 3) := by decide +kernel
theorem dX6_faultOf_43 : decode cX6_faultOf 43 = .ok (.ifCond .eq 7, 3) := by decide +kernel
theorem dX6_faultOf_46 : decode cX6_faultOf 46 = .ok (.iconst 1, 1) := by decide +kernel
theorem dX6_faultOf_47 : decode cX6_faultOf 47 = .ok (.goto 4, 3) := by decide +kernel
theorem dX6_faultOf_50 : decode cX6_faultOf 50 = .ok (.iconst 0, 1) := by decide +kernel
theorem dX6_faultOf_51 : decode cX6_faultOf 51 = .ok (.istore_n 1, 1) := by decide +kernel
theorem dX6_faultOf_52 : decode cX6_faultOf 52 = .ok (.goto (-37), 3) := by decide +kernel
theorem dX6_faultOf_55 : decode cX6_faultOf 55 = .ok (.iload_n 1, 1) := by decide +kernel
theorem dX6_faultOf_56 : decode cX6_faultOf 56 = .ok (.ifCond .eq 7, 3) := by decide +kernel
theorem dX6_faultOf_59 : decode cX6_faultOf 59 = .ok (.iconst (-1), 1) := by decide +kernel
theorem dX6_faultOf_60 : decode cX6_faultOf 60 = .ok (.goto 7, 3) := by decide +kernel
theorem dX6_faultOf_63 : decode cX6_faultOf 63 = .ok (.aload_n 0, 1) := by decide +kernel
theorem dX6_faultOf_64 : decode cX6_faultOf 64 = .ok (.getfield 140, 3) := by decide +kernel
theorem dX6_faultOf_67 : decode cX6_faultOf 67 = .ok (.ireturn, 1) := by decide +kernel
theorem dX6_does_0 : decode cX6_does 0 = .ok (.iconst 3, 1) := by decide +kernel
theorem dX6_does_1 : decode cX6_does 1 = .ok (.iload_n 1, 1) := by decide +kernel
theorem dX6_does_2 : decode cX6_does 2 = .ok (.imul, 1) := by decide +kernel
theorem dX6_does_3 : decode cX6_does 3 = .ok (.istore_n 2, 1) := by decide +kernel
theorem dX6_does_4 : decode cX6_does 4 = .ok (.aload_n 0, 1) := by decide +kernel
theorem dX6_does_5 : decode cX6_does 5 = .ok (.getfield 35, 3) := by decide +kernel
theorem dX6_does_8 : decode cX6_does 8 = .ok (.iload_n 2, 1) := by decide +kernel
theorem dX6_does_9 : decode cX6_does 9 = .ok (.iaload, 1) := by decide +kernel
theorem dX6_does_10 : decode cX6_does 10 = .ok (.lookupswitch 152 #[(98, 97), (103, 58), (111, 131), (116, 118), (119, 84), (120, 71)], 58) := by decide +kernel
theorem dX6_does_68 : decode cX6_does 68 = .ok (.aload_n 0, 1) := by decide +kernel
theorem dX6_does_69 : decode cX6_does 69 = .ok (.aload_n 0, 1) := by decide +kernel
theorem dX6_does_70 : decode cX6_does 70 = .ok (.getfield 35, 3) := by decide +kernel
theorem dX6_does_73 : decode cX6_does 73 = .ok (.iload_n 2, 1) := by decide +kernel
theorem dX6_does_74 : decode cX6_does 74 = .ok (.iconst 1, 1) := by decide +kernel
theorem dX6_does_75 : decode cX6_does 75 = .ok (.iadd, 1) := by decide +kernel
theorem dX6_does_76 : decode cX6_does 76 = .ok (.iaload, 1) := by decide +kernel
theorem dX6_does_77 : decode cX6_does 77 = .ok (.invokevirtual 104, 3) := by decide +kernel
theorem dX6_does_80 : decode cX6_does 80 = .ok (.ireturn, 1) := by decide +kernel
theorem dX6_does_81 : decode cX6_does 81 = .ok (.aload_n 0, 1) := by decide +kernel
theorem dX6_does_82 : decode cX6_does 82 = .ok (.aload_n 0, 1) := by decide +kernel
theorem dX6_does_83 : decode cX6_does 83 = .ok (.getfield 35, 3) := by decide +kernel
theorem dX6_does_86 : decode cX6_does 86 = .ok (.iload_n 2, 1) := by decide +kernel
theorem dX6_does_87 : decode cX6_does 87 = .ok (.iconst 1, 1) := by decide +kernel
theorem dX6_does_88 : decode cX6_does 88 = .ok (.iadd, 1) := by decide +kernel
theorem dX6_does_89 : decode cX6_does 89 = .ok (.iaload, 1) := by decide +kernel
theorem dX6_does_90 : decode cX6_does 90 = .ok (.invokevirtual 107, 3) := by decide +kernel
theorem dX6_does_93 : decode cX6_does 93 = .ok (.ireturn, 1) := by decide +kernel
theorem dX6_does_94 : decode cX6_does 94 = .ok (.aload_n 0, 1) := by decide +kernel
theorem dX6_does_95 : decode cX6_does 95 = .ok (.aload_n 0, 1) := by decide +kernel
theorem dX6_does_96 : decode cX6_does 96 = .ok (.getfield 35, 3) := by decide +kernel
theorem dX6_does_99 : decode cX6_does 99 = .ok (.iload_n 2, 1) := by decide +kernel
theorem dX6_does_100 : decode cX6_does 100 = .ok (.iconst 1, 1) := by decide +kernel
theorem dX6_does_101 : decode cX6_does 101 = .ok (.iadd, 1) := by decide +kernel
theorem dX6_does_102 : decode cX6_does 102 = .ok (.iaload, 1) := by decide +kernel
theorem dX6_does_103 : decode cX6_does 103 = .ok (.invokevirtual 110, 3) := by decide +kernel
theorem dX6_does_106 : decode cX6_does 106 = .ok (.ireturn, 1) := by decide +kernel
theorem dX6_does_107 : decode cX6_does 107 = .ok (.aload_n 0, 1) := by decide +kernel
theorem dX6_does_108 : decode cX6_does 108 = .ok (.aload_n 0, 1) := by decide +kernel
theorem dX6_does_109 : decode cX6_does 109 = .ok (.getfield 35, 3) := by decide +kernel
theorem dX6_does_112 : decode cX6_does 112 = .ok (.iload_n 2, 1) := by decide +kernel
theorem dX6_does_113 : decode cX6_does 113 = .ok (.iconst 1, 1) := by decide +kernel
theorem dX6_does_114 : decode cX6_does 114 = .ok (.iadd, 1) := by decide +kernel
theorem dX6_does_115 : decode cX6_does 115 = .ok (.iaload, 1) := by decide +kernel
theorem dX6_does_116 : decode cX6_does 116 = .ok (.aload_n 0, 1) := by decide +kernel
theorem dX6_does_117 : decode cX6_does 117 = .ok (.getfield 35, 3) := by decide +kernel
theorem dX6_does_120 : decode cX6_does 120 = .ok (.iload_n 2, 1) := by decide +kernel
theorem dX6_does_121 : decode cX6_does 121 = .ok (.iconst 2, 1) := by decide +kernel
theorem dX6_does_122 : decode cX6_does 122 = .ok (.iadd, 1) := by decide +kernel
theorem dX6_does_123 : decode cX6_does 123 = .ok (.iaload, 1) := by decide +kernel
theorem dX6_does_124 : decode cX6_does 124 = .ok (.invokevirtual 113, 3) := by decide +kernel
theorem dX6_does_127 : decode cX6_does 127 = .ok (.ireturn, 1) := by decide +kernel
theorem dX6_does_128 : decode cX6_does 128 = .ok (.aload_n 0, 1) := by decide +kernel
theorem dX6_does_129 : decode cX6_does 129 = .ok (.aload_n 0, 1) := by decide +kernel
theorem dX6_does_130 : decode cX6_does 130 = .ok (.getfield 35, 3) := by decide +kernel
theorem dX6_does_133 : decode cX6_does 133 = .ok (.iload_n 2, 1) := by decide +kernel
theorem dX6_does_134 : decode cX6_does 134 = .ok (.iconst 1, 1) := by decide +kernel
theorem dX6_does_135 : decode cX6_does 135 = .ok (.iadd, 1) := by decide +kernel
theorem dX6_does_136 : decode cX6_does 136 = .ok (.iaload, 1) := by decide +kernel
theorem dX6_does_137 : decode cX6_does 137 = .ok (.invokevirtual 119, 3) := by decide +kernel
theorem dX6_does_140 : decode cX6_does 140 = .ok (.ireturn, 1) := by decide +kernel
theorem dX6_does_141 : decode cX6_does 141 = .ok (.aload_n 0, 1) := by decide +kernel
theorem dX6_does_142 : decode cX6_does 142 = .ok (.aload_n 0, 1) := by decide +kernel
theorem dX6_does_143 : decode cX6_does 143 = .ok (.getfield 35, 3) := by decide +kernel
theorem dX6_does_146 : decode cX6_does 146 = .ok (.iload_n 2, 1) := by decide +kernel
theorem dX6_does_147 : decode cX6_does 147 = .ok (.iconst 1, 1) := by decide +kernel
theorem dX6_does_148 : decode cX6_does 148 = .ok (.iadd, 1) := by decide +kernel
theorem dX6_does_149 : decode cX6_does 149 = .ok (.iaload, 1) := by decide +kernel
theorem dX6_does_150 : decode cX6_does 150 = .ok (.aload_n 0, 1) := by decide +kernel
theorem dX6_does_151 : decode cX6_does 151 = .ok (.getfield 35, 3) := by decide +kernel
theorem dX6_does_154 : decode cX6_does 154 = .ok (.iload_n 2, 1) := by decide +kernel
theorem dX6_does_155 : decode cX6_does 155 = .ok (.iconst 2, 1) := by decide +kernel
theorem dX6_does_156 : decode cX6_does 156 = .ok (.iadd, 1) := by decide +kernel
theorem dX6_does_157 : decode cX6_does 157 = .ok (.iaload, 1) := by decide +kernel
theorem dX6_does_158 : decode cX6_does 158 = .ok (.invokevirtual 116, 3) := by decide +kernel
theorem dX6_does_161 : decode cX6_does 161 = .ok (.ireturn, 1) := by decide +kernel
theorem dX6_does_162 : decode cX6_does 162 = .ok (.aload_n 0, 1) := by decide +kernel
theorem dX6_does_163 : decode cX6_does 163 = .ok (.invokevirtual 122, 3) := by decide +kernel
theorem dX6_does_166 : decode cX6_does 166 = .ok (.ireturn, 1) := by decide +kernel
theorem dX6_put_0 : decode cX6_put 0 = .ok (.iconst 0, 1) := by decide +kernel
theorem dX6_put_1 : decode cX6_put 1 = .ok (.istore_n 3, 1) := by decide +kernel
theorem dX6_put_2 : decode cX6_put 2 = .ok (.lload_n 1, 1) := by decide +kernel
theorem dX6_put_3 : decode cX6_put 3 = .ok (.lstore 4, 2) := by decide +kernel
theorem dX6_put_5 : decode cX6_put 5 = .ok (.iload_n 3, 1) := by decide +kernel
theorem dX6_put_6 : decode cX6_put 6 = .ok (.bipush 8, 2) := by decide +kernel
theorem dX6_put_8 : decode cX6_put 8 = .ok (.if_icmp .ge 52, 3) := by decide +kernel
theorem dX6_put_11 : decode cX6_put 11 = .ok (.lload 4, 2) := by decide +kernel
theorem dX6_put_13 : decode cX6_put 13 = .ok (.lconst 0, 1) := by decide +kernel
theorem dX6_put_14 : decode cX6_put 14 = .ok (.lcmp, 1) := by decide +kernel
theorem dX6_put_15 : decode cX6_put 15 = .ok (.ifCond .eq 45, 3) := by decide +kernel
theorem dX6_put_18 : decode cX6_put 18 = .ok (.lload 4, 2) := by decide +kernel
theorem dX6_put_20 : decode cX6_put 20 = .ok (.ldc2_w 164, 3) := by decide +kernel
theorem dX6_put_23 : decode cX6_put 23 = .ok (.land, 1) := by decide +kernel
theorem dX6_put_24 : decode cX6_put 24 = .ok (.lstore 6, 2) := by decide +kernel
theorem dX6_put_26 : decode cX6_put 26 = .ok (.lload 6, 2) := by decide +kernel
theorem dX6_put_28 : decode cX6_put 28 = .ok (.ldc2_w 166, 3) := by decide +kernel
theorem dX6_put_31 : decode cX6_put 31 = .ok (.lcmp, 1) := by decide +kernel
theorem dX6_put_32 : decode cX6_put 32 = .ok (.ifCond .lt 12, 3) := by decide +kernel
theorem dX6_put_35 : decode cX6_put 35 = .ok (.lload 6, 2) := by decide +kernel
theorem dX6_put_37 : decode cX6_put 37 = .ok (.ldc2_w 168, 3) := by decide +kernel
theorem dX6_put_40 : decode cX6_put 40 = .ok (.lcmp, 1) := by decide +kernel
theorem dX6_put_41 : decode cX6_put 41 = .ok (.ifCond .le 6, 3) := by decide +kernel
theorem dX6_put_44 : decode cX6_put 44 = .ok (.bipush (-2), 2) := by decide +kernel
theorem dX6_put_46 : decode cX6_put 46 = .ok (.ireturn, 1) := by decide +kernel
theorem dX6_put_47 : decode cX6_put 47 = .ok (.lload 4, 2) := by decide +kernel
theorem dX6_put_49 : decode cX6_put 49 = .ok (.bipush 8, 2) := by decide +kernel
theorem dX6_put_51 : decode cX6_put 51 = .ok (.lushr, 1) := by decide +kernel
theorem dX6_put_52 : decode cX6_put 52 = .ok (.lstore 4, 2) := by decide +kernel
theorem dX6_put_54 : decode cX6_put 54 = .ok (.iinc 3 1, 3) := by decide +kernel
theorem dX6_put_57 : decode cX6_put 57 = .ok (.goto (-52), 3) := by decide +kernel
theorem dX6_put_60 : decode cX6_put 60 = .ok (.iload_n 3, 1) := by decide +kernel
theorem dX6_put_61 : decode cX6_put 61 = .ok (.ifCond .ne 6, 3) := by decide +kernel
theorem dX6_put_64 : decode cX6_put 64 = .ok (.bipush (-2), 2) := by decide +kernel
theorem dX6_put_66 : decode cX6_put 66 = .ok (.ireturn, 1) := by decide +kernel
theorem dX6_put_67 : decode cX6_put 67 = .ok (.aload_n 0, 1) := by decide +kernel
theorem dX6_put_68 : decode cX6_put 68 = .ok (.getfield 131, 3) := by decide +kernel
theorem dX6_put_71 : decode cX6_put 71 = .ok (.iload_n 3, 1) := by decide +kernel
theorem dX6_put_72 : decode cX6_put 72 = .ok (.iadd, 1) := by decide +kernel
theorem dX6_put_73 : decode cX6_put 73 = .ok (.bipush 80, 2) := by decide +kernel
theorem dX6_put_75 : decode cX6_put 75 = .ok (.if_icmp .le 6, 3) := by decide +kernel
theorem dX6_put_78 : decode cX6_put 78 = .ok (.bipush (-4), 2) := by decide +kernel
theorem dX6_put_80 : decode cX6_put 80 = .ok (.ireturn, 1) := by decide +kernel
theorem dX6_put_81 : decode cX6_put 81 = .ok (.iload_n 3, 1) := by decide +kernel
theorem dX6_put_82 : decode cX6_put 82 = .ok (.iconst 1, 1) := by decide +kernel
theorem dX6_put_83 : decode cX6_put 83 = .ok (.isub, 1) := by decide +kernel
theorem dX6_put_84 : decode cX6_put 84 = .ok (.istore 6, 2) := by decide +kernel
theorem dX6_put_86 : decode cX6_put 86 = .ok (.iload 6, 2) := by decide +kernel
theorem dX6_put_88 : decode cX6_put 88 = .ok (.ifCond .lt 41, 3) := by decide +kernel
theorem dX6_put_91 : decode cX6_put 91 = .ok (.aload_n 0, 1) := by decide +kernel
theorem dX6_put_92 : decode cX6_put 92 = .ok (.getfield 38, 3) := by decide +kernel
theorem dX6_put_95 : decode cX6_put 95 = .ok (.aload_n 0, 1) := by decide +kernel
theorem dX6_put_96 : decode cX6_put 96 = .ok (.getfield 131, 3) := by decide +kernel
theorem dX6_put_99 : decode cX6_put 99 = .ok (.lload_n 1, 1) := by decide +kernel
theorem dX6_put_100 : decode cX6_put 100 = .ok (.bipush 8, 2) := by decide +kernel
theorem dX6_put_102 : decode cX6_put 102 = .ok (.iload 6, 2) := by decide +kernel
theorem dX6_put_104 : decode cX6_put 104 = .ok (.imul, 1) := by decide +kernel
theorem dX6_put_105 : decode cX6_put 105 = .ok (.lushr, 1) := by decide +kernel
theorem dX6_put_106 : decode cX6_put 106 = .ok (.ldc2_w 164, 3) := by decide +kernel
theorem dX6_put_109 : decode cX6_put 109 = .ok (.land, 1) := by decide +kernel
theorem dX6_put_110 : decode cX6_put 110 = .ok (.l2i, 1) := by decide +kernel
theorem dX6_put_111 : decode cX6_put 111 = .ok (.i2c, 1) := by decide +kernel
theorem dX6_put_112 : decode cX6_put 112 = .ok (.castore, 1) := by decide +kernel
theorem dX6_put_113 : decode cX6_put 113 = .ok (.aload_n 0, 1) := by decide +kernel
theorem dX6_put_114 : decode cX6_put 114 = .ok (.dup, 1) := by decide +kernel
theorem dX6_put_115 : decode cX6_put 115 = .ok (.getfield 131, 3) := by decide +kernel
theorem dX6_put_118 : decode cX6_put 118 = .ok (.iconst 1, 1) := by decide +kernel
theorem dX6_put_119 : decode cX6_put 119 = .ok (.iadd, 1) := by decide +kernel
theorem dX6_put_120 : decode cX6_put 120 = .ok (.putfield 131, 3) := by decide +kernel
theorem dX6_put_123 : decode cX6_put 123 = .ok (.iinc 6 (-1), 3) := by decide +kernel
theorem dX6_put_126 : decode cX6_put 126 = .ok (.goto (-40), 3) := by decide +kernel
theorem dX6_put_129 : decode cX6_put 129 = .ok (.aload_n 0, 1) := by decide +kernel
theorem dX6_put_130 : decode cX6_put 130 = .ok (.getfield 131, 3) := by decide +kernel
theorem dX6_put_133 : decode cX6_put 133 = .ok (.ireturn, 1) := by decide +kernel
theorem dX6_wipe_0 : decode cX6_wipe 0 = .ok (.aload_n 0, 1) := by decide +kernel
theorem dX6_wipe_1 : decode cX6_wipe 1 = .ok (.getfield 131, 3) := by decide +kernel
theorem dX6_wipe_4 : decode cX6_wipe 4 = .ok (.istore_n 1, 1) := by decide +kernel
theorem dX6_wipe_5 : decode cX6_wipe 5 = .ok (.aload_n 0, 1) := by decide +kernel
theorem dX6_wipe_6 : decode cX6_wipe 6 = .ok (.iconst 0, 1) := by decide +kernel
theorem dX6_wipe_7 : decode cX6_wipe 7 = .ok (.putfield 131, 3) := by decide +kernel
theorem dX6_wipe_10 : decode cX6_wipe 10 = .ok (.iload_n 1, 1) := by decide +kernel
theorem dX6_wipe_11 : decode cX6_wipe 11 = .ok (.ireturn, 1) := by decide +kernel
theorem dX6_fault_0 : decode cX6_fault 0 = .ok (.aload_n 0, 1) := by decide +kernel
theorem dX6_fault_1 : decode cX6_fault 1 = .ok (.invokevirtual 170, 3) := by decide +kernel
theorem dX6_fault_4 : decode cX6_fault 4 = .ok (.istore_n 1, 1) := by decide +kernel
theorem dX6_fault_5 : decode cX6_fault 5 = .ok (.iload_n 1, 1) := by decide +kernel
theorem dX6_fault_6 : decode cX6_fault 6 = .ok (.ifCond .ge 8, 3) := by decide +kernel
theorem dX6_fault_9 : decode cX6_fault 9 = .ok (.bipush (-6), 2) := by decide +kernel
theorem dX6_fault_11 : decode cX6_fault 11 = .ok (.goto 4, 3) := by decide +kernel
theorem dX6_fault_14 : decode cX6_fault 14 = .ok (.iload_n 1, 1) := by decide +kernel
theorem dX6_fault_15 : decode cX6_fault 15 = .ok (.ireturn, 1) := by decide +kernel
theorem dX6_carryOut_0 : decode cX6_carryOut 0 = .ok (.aload_n 0, 1) := by decide +kernel
theorem dX6_carryOut_1 : decode cX6_carryOut 1 = .ok (.invokevirtual 170, 3) := by decide +kernel
theorem dX6_carryOut_4 : decode cX6_carryOut 4 = .ok (.ifCond .lt 6, 3) := by decide +kernel
theorem dX6_carryOut_7 : decode cX6_carryOut 7 = .ok (.bipush (-3), 2) := by decide +kernel
theorem dX6_carryOut_9 : decode cX6_carryOut 9 = .ok (.ireturn, 1) := by decide +kernel
theorem dX6_carryOut_10 : decode cX6_carryOut 10 = .ok (.aload_n 0, 1) := by decide +kernel
theorem dX6_carryOut_11 : decode cX6_carryOut 11 = .ok (.invokevirtual 98, 3) := by decide +kernel
theorem dX6_carryOut_14 : decode cX6_carryOut 14 = .ok (.iconst 0, 1) := by decide +kernel
theorem dX6_carryOut_15 : decode cX6_carryOut 15 = .ok (.istore_n 1, 1) := by decide +kernel
theorem dX6_carryOut_16 : decode cX6_carryOut 16 = .ok (.iconst 1, 1) := by decide +kernel
theorem dX6_carryOut_17 : decode cX6_carryOut 17 = .ok (.istore_n 2, 1) := by decide +kernel
theorem dX6_carryOut_18 : decode cX6_carryOut 18 = .ok (.iload_n 2, 1) := by decide +kernel
theorem dX6_carryOut_19 : decode cX6_carryOut 19 = .ok (.ifCond .eq 40, 3) := by decide +kernel
theorem dX6_carryOut_22 : decode cX6_carryOut 22 = .ok (.iload_n 1, 1) := by decide +kernel
theorem dX6_carryOut_23 : decode cX6_carryOut 23 = .ok (.aload_n 0, 1) := by decide +kernel
theorem dX6_carryOut_24 : decode cX6_carryOut 24 = .ok (.getfield 147, 3) := by decide +kernel
theorem dX6_carryOut_27 : decode cX6_carryOut 27 = .ok (.if_icmp .ge 32, 3) := by decide +kernel
theorem dX6_carryOut_30 : decode cX6_carryOut 30 = .ok (.aload_n 0, 1) := by decide +kernel
theorem dX6_carryOut_31 : decode cX6_carryOut 31 = .ok (.iload_n 1, 1) := by decide +kernel
theorem dX6_carryOut_32 : decode cX6_carryOut 32 = .ok (.invokevirtual 173, 3) := by decide +kernel
theorem dX6_carryOut_35 : decode cX6_carryOut 35 = .ok (.ifCond .lt 7, 3) := by decide +kernel
theorem dX6_carryOut_38 : decode cX6_carryOut 38 = .ok (.iconst 1, 1) := by decide +kernel
theorem dX6_carryOut_39 : decode cX6_carryOut 39 = .ok (.goto 4, 3) := by decide +kernel
theorem dX6_carryOut_42 : decode cX6_carryOut 42 = .ok (.iconst 0, 1) := by decide +kernel
theorem dX6_carryOut_43 : decode cX6_carryOut 43 = .ok (.istore_n 2, 1) := by decide +kernel
theorem dX6_carryOut_44 : decode cX6_carryOut 44 = .ok (.iload_n 1, 1) := by decide +kernel
theorem dX6_carryOut_45 : decode cX6_carryOut 45 = .ok (.iload_n 2, 1) := by decide +kernel
theorem dX6_carryOut_46 : decode cX6_carryOut 46 = .ok (.ifCond .eq 7, 3) := by decide +kernel
theorem dX6_carryOut_49 : decode cX6_carryOut 49 = .ok (.iconst 1, 1) := by decide +kernel
theorem dX6_carryOut_50 : decode cX6_carryOut 50 = .ok (.goto 4, 3) := by decide +kernel
theorem dX6_carryOut_53 : decode cX6_carryOut 53 = .ok (.iconst 0, 1) := by decide +kernel
theorem dX6_carryOut_54 : decode cX6_carryOut 54 = .ok (.iadd, 1) := by decide +kernel
theorem dX6_carryOut_55 : decode cX6_carryOut 55 = .ok (.istore_n 1, 1) := by decide +kernel
theorem dX6_carryOut_56 : decode cX6_carryOut 56 = .ok (.goto (-38), 3) := by decide +kernel
theorem dX6_carryOut_59 : decode cX6_carryOut 59 = .ok (.aload_n 0, 1) := by decide +kernel
theorem dX6_carryOut_60 : decode cX6_carryOut 60 = .ok (.iconst 0, 1) := by decide +kernel
theorem dX6_carryOut_61 : decode cX6_carryOut 61 = .ok (.putfield 131, 3) := by decide +kernel
theorem dX6_carryOut_64 : decode cX6_carryOut 64 = .ok (.aload_n 0, 1) := by decide +kernel
theorem dX6_carryOut_65 : decode cX6_carryOut 65 = .ok (.iload_n 1, 1) := by decide +kernel
theorem dX6_carryOut_66 : decode cX6_carryOut 66 = .ok (.invokevirtual 101, 3) := by decide +kernel
theorem dX6_carryOut_69 : decode cX6_carryOut 69 = .ok (.ireturn, 1) := by decide +kernel
theorem dX6_undo_0 : decode cX6_undo 0 = .ok (.aload_n 0, 1) := by decide +kernel
theorem dX6_undo_1 : decode cX6_undo 1 = .ok (.getfield 50, 3) := by decide +kernel
theorem dX6_undo_4 : decode cX6_undo 4 = .ok (.ifCond .ne 6, 3) := by decide +kernel
theorem dX6_undo_7 : decode cX6_undo 7 = .ok (.bipush (-5), 2) := by decide +kernel
theorem dX6_undo_9 : decode cX6_undo 9 = .ok (.ireturn, 1) := by decide +kernel
theorem dX6_undo_10 : decode cX6_undo 10 = .ok (.aload_n 0, 1) := by decide +kernel
theorem dX6_undo_11 : decode cX6_undo 11 = .ok (.dup, 1) := by decide +kernel
theorem dX6_undo_12 : decode cX6_undo 12 = .ok (.getfield 50, 3) := by decide +kernel
theorem dX6_undo_15 : decode cX6_undo 15 = .ok (.iconst 1, 1) := by decide +kernel
theorem dX6_undo_16 : decode cX6_undo 16 = .ok (.isub, 1) := by decide +kernel
theorem dX6_undo_17 : decode cX6_undo 17 = .ok (.putfield 50, 3) := by decide +kernel
theorem dX6_undo_20 : decode cX6_undo 20 = .ok (.iconst 0, 1) := by decide +kernel
theorem dX6_undo_21 : decode cX6_undo 21 = .ok (.istore_n 1, 1) := by decide +kernel
theorem dX6_undo_22 : decode cX6_undo 22 = .ok (.iload_n 1, 1) := by decide +kernel
theorem dX6_undo_23 : decode cX6_undo 23 = .ok (.sipush 166, 3) := by decide +kernel
theorem dX6_undo_26 : decode cX6_undo 26 = .ok (.if_icmp .ge 30, 3) := by decide +kernel
theorem dX6_undo_29 : decode cX6_undo 29 = .ok (.aload_n 0, 1) := by decide +kernel
theorem dX6_undo_30 : decode cX6_undo 30 = .ok (.getfield 7, 3) := by decide +kernel
theorem dX6_undo_33 : decode cX6_undo 33 = .ok (.iload_n 1, 1) := by decide +kernel
theorem dX6_undo_34 : decode cX6_undo 34 = .ok (.aload_n 0, 1) := by decide +kernel
theorem dX6_undo_35 : decode cX6_undo 35 = .ok (.getfield 19, 3) := by decide +kernel
theorem dX6_undo_38 : decode cX6_undo 38 = .ok (.sipush 166, 3) := by decide +kernel
theorem dX6_undo_41 : decode cX6_undo 41 = .ok (.aload_n 0, 1) := by decide +kernel
theorem dX6_undo_42 : decode cX6_undo 42 = .ok (.getfield 50, 3) := by decide +kernel
theorem dX6_undo_45 : decode cX6_undo 45 = .ok (.imul, 1) := by decide +kernel
theorem dX6_undo_46 : decode cX6_undo 46 = .ok (.iload_n 1, 1) := by decide +kernel
theorem dX6_undo_47 : decode cX6_undo 47 = .ok (.iadd, 1) := by decide +kernel
theorem dX6_undo_48 : decode cX6_undo 48 = .ok (.iaload, 1) := by decide +kernel
theorem dX6_undo_49 : decode cX6_undo 49 = .ok (.iastore, 1) := by decide +kernel
theorem dX6_undo_50 : decode cX6_undo 50 = .ok (.iinc 1 1, 3) := by decide +kernel
theorem dX6_undo_53 : decode cX6_undo 53 = .ok (.goto (-31), 3) := by decide +kernel
theorem dX6_undo_56 : decode cX6_undo 56 = .ok (.aload_n 0, 1) := by decide +kernel
theorem dX6_undo_57 : decode cX6_undo 57 = .ok (.getfield 50, 3) := by decide +kernel
theorem dX6_undo_60 : decode cX6_undo 60 = .ok (.ireturn, 1) := by decide +kernel
theorem dX6_save_0 : decode cX6_save 0 = .ok (.iload_n 1, 1) := by decide +kernel
theorem dX6_save_1 : decode cX6_save 1 = .ok (.iconst 0, 1) := by decide +kernel
theorem dX6_save_2 : decode cX6_save 2 = .ok (.iconst 1, 1) := by decide +kernel
theorem dX6_save_3 : decode cX6_save 3 = .ok (.invokestatic 42, 3) := by decide +kernel
theorem dX6_save_6 : decode cX6_save 6 = .ok (.ifCond .ne 6, 3) := by decide +kernel
theorem dX6_save_9 : decode cX6_save 9 = .ok (.bipush (-2), 2) := by decide +kernel
theorem dX6_save_11 : decode cX6_save 11 = .ok (.ireturn, 1) := by decide +kernel
theorem dX6_save_12 : decode cX6_save 12 = .ok (.iconst 0, 1) := by decide +kernel
theorem dX6_save_13 : decode cX6_save 13 = .ok (.istore_n 2, 1) := by decide +kernel
theorem dX6_save_14 : decode cX6_save 14 = .ok (.iload_n 2, 1) := by decide +kernel
theorem dX6_save_15 : decode cX6_save 15 = .ok (.sipush 166, 3) := by decide +kernel
theorem dX6_save_18 : decode cX6_save 18 = .ok (.if_icmp .ge 27, 3) := by decide +kernel
theorem dX6_save_21 : decode cX6_save 21 = .ok (.aload_n 0, 1) := by decide +kernel
theorem dX6_save_22 : decode cX6_save 22 = .ok (.getfield 22, 3) := by decide +kernel
theorem dX6_save_25 : decode cX6_save 25 = .ok (.sipush 166, 3) := by decide +kernel
theorem dX6_save_28 : decode cX6_save 28 = .ok (.iload_n 1, 1) := by decide +kernel
theorem dX6_save_29 : decode cX6_save 29 = .ok (.imul, 1) := by decide +kernel
theorem dX6_save_30 : decode cX6_save 30 = .ok (.iload_n 2, 1) := by decide +kernel
theorem dX6_save_31 : decode cX6_save 31 = .ok (.iadd, 1) := by decide +kernel
theorem dX6_save_32 : decode cX6_save 32 = .ok (.aload_n 0, 1) := by decide +kernel
theorem dX6_save_33 : decode cX6_save 33 = .ok (.getfield 7, 3) := by decide +kernel
theorem dX6_save_36 : decode cX6_save 36 = .ok (.iload_n 2, 1) := by decide +kernel
theorem dX6_save_37 : decode cX6_save 37 = .ok (.iaload, 1) := by decide +kernel
theorem dX6_save_38 : decode cX6_save 38 = .ok (.iastore, 1) := by decide +kernel
theorem dX6_save_39 : decode cX6_save 39 = .ok (.iinc 2 1, 3) := by decide +kernel
theorem dX6_save_42 : decode cX6_save 42 = .ok (.goto (-28), 3) := by decide +kernel
theorem dX6_save_45 : decode cX6_save 45 = .ok (.aload_n 0, 1) := by decide +kernel
theorem dX6_save_46 : decode cX6_save 46 = .ok (.getfield 25, 3) := by decide +kernel
theorem dX6_save_49 : decode cX6_save 49 = .ok (.iload_n 1, 1) := by decide +kernel
theorem dX6_save_50 : decode cX6_save 50 = .ok (.iconst 1, 1) := by decide +kernel
theorem dX6_save_51 : decode cX6_save 51 = .ok (.bastore, 1) := by decide +kernel
theorem dX6_save_52 : decode cX6_save 52 = .ok (.aload_n 0, 1) := by decide +kernel
theorem dX6_save_53 : decode cX6_save 53 = .ok (.invokevirtual 71, 3) := by decide +kernel
theorem dX6_save_56 : decode cX6_save 56 = .ok (.ireturn, 1) := by decide +kernel
theorem dX6_restore_0 : decode cX6_restore 0 = .ok (.iload_n 1, 1) := by decide +kernel
theorem dX6_restore_1 : decode cX6_restore 1 = .ok (.iconst 0, 1) := by decide +kernel
theorem dX6_restore_2 : decode cX6_restore 2 = .ok (.iconst 1, 1) := by decide +kernel
theorem dX6_restore_3 : decode cX6_restore 3 = .ok (.invokestatic 42, 3) := by decide +kernel
theorem dX6_restore_6 : decode cX6_restore 6 = .ok (.ifCond .ne 6, 3) := by decide +kernel
theorem dX6_restore_9 : decode cX6_restore 9 = .ok (.bipush (-2), 2) := by decide +kernel
theorem dX6_restore_11 : decode cX6_restore 11 = .ok (.ireturn, 1) := by decide +kernel
theorem dX6_restore_12 : decode cX6_restore 12 = .ok (.aload_n 0, 1) := by decide +kernel
theorem dX6_restore_13 : decode cX6_restore 13 = .ok (.getfield 25, 3) := by decide +kernel
theorem dX6_restore_16 : decode cX6_restore 16 = .ok (.iload_n 1, 1) := by decide +kernel
theorem dX6_restore_17 : decode cX6_restore 17 = .ok (.baload, 1) := by decide +kernel
theorem dX6_restore_18 : decode cX6_restore 18 = .ok (.ifCond .ne 6, 3) := by decide +kernel
theorem dX6_restore_21 : decode cX6_restore 21 = .ok (.bipush (-5), 2) := by decide +kernel
theorem dX6_restore_23 : decode cX6_restore 23 = .ok (.ireturn, 1) := by decide +kernel
theorem dX6_restore_24 : decode cX6_restore 24 = .ok (.aload_n 0, 1) := by decide +kernel
theorem dX6_restore_25 : decode cX6_restore 25 = .ok (.invokevirtual 98, 3) := by decide +kernel
theorem dX6_restore_28 : decode cX6_restore 28 = .ok (.iconst 0, 1) := by decide +kernel
theorem dX6_restore_29 : decode cX6_restore 29 = .ok (.istore_n 2, 1) := by decide +kernel
theorem dX6_restore_30 : decode cX6_restore 30 = .ok (.iload_n 2, 1) := by decide +kernel
theorem dX6_restore_31 : decode cX6_restore 31 = .ok (.sipush 166, 3) := by decide +kernel
theorem dX6_restore_34 : decode cX6_restore 34 = .ok (.if_icmp .ge 27, 3) := by decide +kernel
theorem dX6_restore_37 : decode cX6_restore 37 = .ok (.aload_n 0, 1) := by decide +kernel
theorem dX6_restore_38 : decode cX6_restore 38 = .ok (.getfield 7, 3) := by decide +kernel
theorem dX6_restore_41 : decode cX6_restore 41 = .ok (.iload_n 2, 1) := by decide +kernel
theorem dX6_restore_42 : decode cX6_restore 42 = .ok (.aload_n 0, 1) := by decide +kernel
theorem dX6_restore_43 : decode cX6_restore 43 = .ok (.getfield 22, 3) := by decide +kernel
theorem dX6_restore_46 : decode cX6_restore 46 = .ok (.sipush 166, 3) := by decide +kernel
theorem dX6_restore_49 : decode cX6_restore 49 = .ok (.iload_n 1, 1) := by decide +kernel
theorem dX6_restore_50 : decode cX6_restore 50 = .ok (.imul, 1) := by decide +kernel
theorem dX6_restore_51 : decode cX6_restore 51 = .ok (.iload_n 2, 1) := by decide +kernel
theorem dX6_restore_52 : decode cX6_restore 52 = .ok (.iadd, 1) := by decide +kernel
theorem dX6_restore_53 : decode cX6_restore 53 = .ok (.iaload, 1) := by decide +kernel
theorem dX6_restore_54 : decode cX6_restore 54 = .ok (.iastore, 1) := by decide +kernel
theorem dX6_restore_55 : decode cX6_restore 55 = .ok (.iinc 2 1, 3) := by decide +kernel
theorem dX6_restore_58 : decode cX6_restore 58 = .ok (.goto (-28), 3) := by decide +kernel
theorem dX6_restore_61 : decode cX6_restore 61 = .ok (.aload_n 0, 1) := by decide +kernel
theorem dX6_restore_62 : decode cX6_restore 62 = .ok (.aload_n 0, 1) := by decide +kernel
theorem dX6_restore_63 : decode cX6_restore 63 = .ok (.invokevirtual 71, 3) := by decide +kernel
theorem dX6_restore_66 : decode cX6_restore 66 = .ok (.invokevirtual 101, 3) := by decide +kernel
theorem dX6_restore_69 : decode cX6_restore 69 = .ok (.ireturn, 1) := by decide +kernel
