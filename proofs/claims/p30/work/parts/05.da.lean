theorem dX0_init_0 : decode cX0_init 0 = .ok (.aload_n 0, 1) := by decide +kernel
theorem dX0_init_1 : decode cX0_init 1 = .ok (.invokespecial 3, 3) := by decide +kernel
theorem dX0_init_4 : decode cX0_init 4 = .ok (.aload_n 0, 1) := by decide +kernel
theorem dX0_init_5 : decode cX0_init 5 = .ok (.bipush 81, 2) := by decide +kernel
theorem dX0_init_7 : decode cX0_init 7 = .ok (.newarray .int, 2) := by decide +kernel
theorem dX0_init_9 : decode cX0_init 9 = .ok (.putfield 9, 3) := by decide +kernel
theorem dX0_init_12 : decode cX0_init 12 = .ok (.aload_n 0, 1) := by decide +kernel
theorem dX0_init_13 : decode cX0_init 13 = .ok (.bipush 9, 2) := by decide +kernel
theorem dX0_init_15 : decode cX0_init 15 = .ok (.newarray .int, 2) := by decide +kernel
theorem dX0_init_17 : decode cX0_init 17 = .ok (.putfield 15, 3) := by decide +kernel
theorem dX0_init_20 : decode cX0_init 20 = .ok (.return_, 1) := by decide +kernel
theorem dX0_copyFrom_0 : decode cX0_copyFrom 0 = .ok (.aload_n 1, 1) := by decide +kernel
theorem dX0_copyFrom_1 : decode cX0_copyFrom 1 = .ok (.getfield 9, 3) := by decide +kernel
theorem dX0_copyFrom_4 : decode cX0_copyFrom 4 = .ok (.iconst 0, 1) := by decide +kernel
theorem dX0_copyFrom_5 : decode cX0_copyFrom 5 = .ok (.aload_n 0, 1) := by decide +kernel
theorem dX0_copyFrom_6 : decode cX0_copyFrom 6 = .ok (.getfield 9, 3) := by decide +kernel
theorem dX0_copyFrom_9 : decode cX0_copyFrom 9 = .ok (.iconst 0, 1) := by decide +kernel
theorem dX0_copyFrom_10 : decode cX0_copyFrom 10 = .ok (.bipush 81, 2) := by decide +kernel
theorem dX0_copyFrom_12 : decode cX0_copyFrom 12 = .ok (.invokestatic 18, 3) := by decide +kernel
theorem dX0_copyFrom_15 : decode cX0_copyFrom 15 = .ok (.aload_n 1, 1) := by decide +kernel
theorem dX0_copyFrom_16 : decode cX0_copyFrom 16 = .ok (.getfield 15, 3) := by decide +kernel
theorem dX0_copyFrom_19 : decode cX0_copyFrom 19 = .ok (.iconst 0, 1) := by decide +kernel
theorem dX0_copyFrom_20 : decode cX0_copyFrom 20 = .ok (.aload_n 0, 1) := by decide +kernel
theorem dX0_copyFrom_21 : decode cX0_copyFrom 21 = .ok (.getfield 15, 3) := by decide +kernel
theorem dX0_copyFrom_24 : decode cX0_copyFrom 24 = .ok (.iconst 0, 1) := by decide +kernel
theorem dX0_copyFrom_25 : decode cX0_copyFrom 25 = .ok (.bipush 9, 2) := by decide +kernel
theorem dX0_copyFrom_27 : decode cX0_copyFrom 27 = .ok (.invokestatic 18, 3) := by decide +kernel
theorem dX0_copyFrom_30 : decode cX0_copyFrom 30 = .ok (.aload_n 0, 1) := by decide +kernel
theorem dX0_copyFrom_31 : decode cX0_copyFrom 31 = .ok (.aload_n 1, 1) := by decide +kernel
theorem dX0_copyFrom_32 : decode cX0_copyFrom 32 = .ok (.getfield 24, 3) := by decide +kernel
theorem dX0_copyFrom_35 : decode cX0_copyFrom 35 = .ok (.putfield 24, 3) := by decide +kernel
theorem dX0_copyFrom_38 : decode cX0_copyFrom 38 = .ok (.aload_n 0, 1) := by decide +kernel
theorem dX0_copyFrom_39 : decode cX0_copyFrom 39 = .ok (.aload_n 1, 1) := by decide +kernel
theorem dX0_copyFrom_40 : decode cX0_copyFrom 40 = .ok (.getfield 28, 3) := by decide +kernel
theorem dX0_copyFrom_43 : decode cX0_copyFrom 43 = .ok (.putfield 28, 3) := by decide +kernel
theorem dX0_copyFrom_46 : decode cX0_copyFrom 46 = .ok (.aload_n 0, 1) := by decide +kernel
theorem dX0_copyFrom_47 : decode cX0_copyFrom 47 = .ok (.aload_n 1, 1) := by decide +kernel
theorem dX0_copyFrom_48 : decode cX0_copyFrom 48 = .ok (.getfield 31, 3) := by decide +kernel
theorem dX0_copyFrom_51 : decode cX0_copyFrom 51 = .ok (.putfield 31, 3) := by decide +kernel
theorem dX0_copyFrom_54 : decode cX0_copyFrom 54 = .ok (.aload_n 0, 1) := by decide +kernel
theorem dX0_copyFrom_55 : decode cX0_copyFrom 55 = .ok (.aload_n 1, 1) := by decide +kernel
theorem dX0_copyFrom_56 : decode cX0_copyFrom 56 = .ok (.getfield 34, 3) := by decide +kernel
theorem dX0_copyFrom_59 : decode cX0_copyFrom 59 = .ok (.putfield 34, 3) := by decide +kernel
theorem dX0_copyFrom_62 : decode cX0_copyFrom 62 = .ok (.return_, 1) := by decide +kernel
theorem dX0_between_0 : decode cX0_between 0 = .ok (.aload_n 0, 1) := by decide +kernel
theorem dX0_between_1 : decode cX0_between 1 = .ok (.getfield 9, 3) := by decide +kernel
theorem dX0_between_4 : decode cX0_between 4 = .ok (.iload_n 1, 1) := by decide +kernel
theorem dX0_between_5 : decode cX0_between 5 = .ok (.bipush 9, 2) := by decide +kernel
theorem dX0_between_7 : decode cX0_between 7 = .ok (.imul, 1) := by decide +kernel
theorem dX0_between_8 : decode cX0_between 8 = .ok (.iload_n 2, 1) := by decide +kernel
theorem dX0_between_9 : decode cX0_between 9 = .ok (.iadd, 1) := by decide +kernel
theorem dX0_between_10 : decode cX0_between 10 = .ok (.iaload, 1) := by decide +kernel
theorem dX0_between_11 : decode cX0_between 11 = .ok (.ireturn, 1) := by decide +kernel
theorem dX0_owedBy_0 : decode cX0_owedBy 0 = .ok (.iload_n 1, 1) := by decide +kernel
theorem dX0_owedBy_1 : decode cX0_owedBy 1 = .ok (.bipush 9, 2) := by decide +kernel
theorem dX0_owedBy_3 : decode cX0_owedBy 3 = .ok (.imul, 1) := by decide +kernel
theorem dX0_owedBy_4 : decode cX0_owedBy 4 = .ok (.istore_n 2, 1) := by decide +kernel
theorem dX0_owedBy_5 : decode cX0_owedBy 5 = .ok (.iconst 0, 1) := by decide +kernel
theorem dX0_owedBy_6 : decode cX0_owedBy 6 = .ok (.istore_n 3, 1) := by decide +kernel
theorem dX0_owedBy_7 : decode cX0_owedBy 7 = .ok (.iconst 0, 1) := by decide +kernel
theorem dX0_owedBy_8 : decode cX0_owedBy 8 = .ok (.istore 4, 2) := by decide +kernel
theorem dX0_owedBy_10 : decode cX0_owedBy 10 = .ok (.iload 4, 2) := by decide +kernel
theorem dX0_owedBy_12 : decode cX0_owedBy 12 = .ok (.bipush 9, 2) := by decide +kernel
theorem dX0_owedBy_14 : decode cX0_owedBy 14 = .ok (.if_icmp .ge 21, 3) := by decide +kernel
theorem dX0_owedBy_17 : decode cX0_owedBy 17 = .ok (.iload_n 3, 1) := by decide +kernel
theorem dX0_owedBy_18 : decode cX0_owedBy 18 = .ok (.aload_n 0, 1) := by decide +kernel
theorem dX0_owedBy_19 : decode cX0_owedBy 19 = .ok (.getfield 9, 3) := by decide +kernel
theorem dX0_owedBy_22 : decode cX0_owedBy 22 = .ok (.iload_n 2, 1) := by decide +kernel
theorem dX0_owedBy_23 : decode cX0_owedBy 23 = .ok (.iload 4, 2) := by decide +kernel
theorem dX0_owedBy_25 : decode cX0_owedBy 25 = .ok (.iadd, 1) := by decide +kernel
theorem dX0_owedBy_26 : decode cX0_owedBy 26 = .ok (.iaload, 1) := by decide +kernel
theorem dX0_owedBy_27 : decode cX0_owedBy 27 = .ok (.iadd, 1) := by decide +kernel
theorem dX0_owedBy_28 : decode cX0_owedBy 28 = .ok (.istore_n 3, 1) := by decide +kernel
theorem dX0_owedBy_29 : decode cX0_owedBy 29 = .ok (.iinc 4 1, 3) := by decide +kernel
theorem dX0_owedBy_32 : decode cX0_owedBy 32 = .ok (.goto (-22), 3) := by decide +kernel
theorem dX0_owedBy_35 : decode cX0_owedBy 35 = .ok (.iload_n 3, 1) := by decide +kernel
theorem dX0_owedBy_36 : decode cX0_owedBy 36 = .ok (.ireturn, 1) := by decide +kernel
theorem dX0_owedToAll_0 : decode cX0_owedToAll 0 = .ok (.iconst 0, 1) := by decide +kernel
theorem dX0_owedToAll_1 : decode cX0_owedToAll 1 = .ok (.istore_n 2, 1) := by decide +kernel
theorem dX0_owedToAll_2 : decode cX0_owedToAll 2 = .ok (.iconst 0, 1) := by decide +kernel
theorem dX0_owedToAll_3 : decode cX0_owedToAll 3 = .ok (.istore_n 3, 1) := by decide +kernel
theorem dX0_owedToAll_4 : decode cX0_owedToAll 4 = .ok (.iload_n 3, 1) := by decide +kernel
theorem dX0_owedToAll_5 : decode cX0_owedToAll 5 = .ok (.bipush 9, 2) := by decide +kernel
theorem dX0_owedToAll_7 : decode cX0_owedToAll 7 = .ok (.if_icmp .ge 23, 3) := by decide +kernel
theorem dX0_owedToAll_10 : decode cX0_owedToAll 10 = .ok (.iload_n 2, 1) := by decide +kernel
theorem dX0_owedToAll_11 : decode cX0_owedToAll 11 = .ok (.aload_n 0, 1) := by decide +kernel
theorem dX0_owedToAll_12 : decode cX0_owedToAll 12 = .ok (.getfield 9, 3) := by decide +kernel
theorem dX0_owedToAll_15 : decode cX0_owedToAll 15 = .ok (.iload_n 3, 1) := by decide +kernel
theorem dX0_owedToAll_16 : decode cX0_owedToAll 16 = .ok (.bipush 9, 2) := by decide +kernel
theorem dX0_owedToAll_18 : decode cX0_owedToAll 18 = .ok (.imul, 1) := by decide +kernel
theorem dX0_owedToAll_19 : decode cX0_owedToAll 19 = .ok (.iload_n 1, 1) := by decide +kernel
theorem dX0_owedToAll_20 : decode cX0_owedToAll 20 = .ok (.iadd, 1) := by decide +kernel
theorem dX0_owedToAll_21 : decode cX0_owedToAll 21 = .ok (.iaload, 1) := by decide +kernel
theorem dX0_owedToAll_22 : decode cX0_owedToAll 22 = .ok (.iadd, 1) := by decide +kernel
theorem dX0_owedToAll_23 : decode cX0_owedToAll 23 = .ok (.istore_n 2, 1) := by decide +kernel
theorem dX0_owedToAll_24 : decode cX0_owedToAll 24 = .ok (.iinc 3 1, 3) := by decide +kernel
theorem dX0_owedToAll_27 : decode cX0_owedToAll 27 = .ok (.goto (-23), 3) := by decide +kernel
theorem dX0_owedToAll_30 : decode cX0_owedToAll 30 = .ok (.iload_n 2, 1) := by decide +kernel
theorem dX0_owedToAll_31 : decode cX0_owedToAll 31 = .ok (.ireturn, 1) := by decide +kernel
theorem dX0_owedInAll_0 : decode cX0_owedInAll 0 = .ok (.iconst 0, 1) := by decide +kernel
theorem dX0_owedInAll_1 : decode cX0_owedInAll 1 = .ok (.istore_n 1, 1) := by decide +kernel
theorem dX0_owedInAll_2 : decode cX0_owedInAll 2 = .ok (.iconst 0, 1) := by decide +kernel
theorem dX0_owedInAll_3 : decode cX0_owedInAll 3 = .ok (.istore_n 2, 1) := by decide +kernel
theorem dX0_owedInAll_4 : decode cX0_owedInAll 4 = .ok (.iload_n 2, 1) := by decide +kernel
theorem dX0_owedInAll_5 : decode cX0_owedInAll 5 = .ok (.bipush 81, 2) := by decide +kernel
theorem dX0_owedInAll_7 : decode cX0_owedInAll 7 = .ok (.if_icmp .ge 18, 3) := by decide +kernel
theorem dX0_owedInAll_10 : decode cX0_owedInAll 10 = .ok (.iload_n 1, 1) := by decide +kernel
theorem dX0_owedInAll_11 : decode cX0_owedInAll 11 = .ok (.aload_n 0, 1) := by decide +kernel
theorem dX0_owedInAll_12 : decode cX0_owedInAll 12 = .ok (.getfield 9, 3) := by decide +kernel
theorem dX0_owedInAll_15 : decode cX0_owedInAll 15 = .ok (.iload_n 2, 1) := by decide +kernel
theorem dX0_owedInAll_16 : decode cX0_owedInAll 16 = .ok (.iaload, 1) := by decide +kernel
theorem dX0_owedInAll_17 : decode cX0_owedInAll 17 = .ok (.iadd, 1) := by decide +kernel
theorem dX0_owedInAll_18 : decode cX0_owedInAll 18 = .ok (.istore_n 1, 1) := by decide +kernel
theorem dX0_owedInAll_19 : decode cX0_owedInAll 19 = .ok (.iinc 2 1, 3) := by decide +kernel
theorem dX0_owedInAll_22 : decode cX0_owedInAll 22 = .ok (.goto (-18), 3) := by decide +kernel
theorem dX0_owedInAll_25 : decode cX0_owedInAll 25 = .ok (.iload_n 1, 1) := by decide +kernel
theorem dX0_owedInAll_26 : decode cX0_owedInAll 26 = .ok (.ireturn, 1) := by decide +kernel
theorem dX0_madeBy_0 : decode cX0_madeBy 0 = .ok (.aload_n 0, 1) := by decide +kernel
theorem dX0_madeBy_1 : decode cX0_madeBy 1 = .ok (.getfield 15, 3) := by decide +kernel
theorem dX0_madeBy_4 : decode cX0_madeBy 4 = .ok (.iload_n 1, 1) := by decide +kernel
theorem dX0_madeBy_5 : decode cX0_madeBy 5 = .ok (.iaload, 1) := by decide +kernel
theorem dX0_madeBy_6 : decode cX0_madeBy 6 = .ok (.ireturn, 1) := by decide +kernel
theorem dX0_madeSoFar_0 : decode cX0_madeSoFar 0 = .ok (.aload_n 0, 1) := by decide +kernel
theorem dX0_madeSoFar_1 : decode cX0_madeSoFar 1 = .ok (.getfield 28, 3) := by decide +kernel
theorem dX0_madeSoFar_4 : decode cX0_madeSoFar 4 = .ok (.ireturn, 1) := by decide +kernel
theorem dX0_lostSoFar_0 : decode cX0_lostSoFar 0 = .ok (.aload_n 0, 1) := by decide +kernel
theorem dX0_lostSoFar_1 : decode cX0_lostSoFar 1 = .ok (.getfield 31, 3) := by decide +kernel
theorem dX0_lostSoFar_4 : decode cX0_lostSoFar 4 = .ok (.ireturn, 1) := by decide +kernel
theorem dX0_setOffSoFar_0 : decode cX0_setOffSoFar 0 = .ok (.aload_n 0, 1) := by decide +kernel
theorem dX0_setOffSoFar_1 : decode cX0_setOffSoFar 1 = .ok (.getfield 34, 3) := by decide +kernel
theorem dX0_setOffSoFar_4 : decode cX0_setOffSoFar 4 = .ok (.ireturn, 1) := by decide +kernel
theorem dX0_laidSoFar_0 : decode cX0_laidSoFar 0 = .ok (.aload_n 0, 1) := by decide +kernel
theorem dX0_laidSoFar_1 : decode cX0_laidSoFar 1 = .ok (.getfield 24, 3) := by decide +kernel
theorem dX0_laidSoFar_4 : decode cX0_laidSoFar 4 = .ok (.ireturn, 1) := by decide +kernel
theorem dX0_lay_0 : decode cX0_lay 0 = .ok (.aload_n 0, 1) := by decide +kernel
theorem dX0_lay_1 : decode cX0_lay 1 = .ok (.getfield 9, 3) := by decide +kernel
theorem dX0_lay_4 : decode cX0_lay 4 = .ok (.iload_n 1, 1) := by decide +kernel
theorem dX0_lay_5 : decode cX0_lay 5 = .ok (.bipush 9, 2) := by decide +kernel
theorem dX0_lay_7 : decode cX0_lay 7 = .ok (.imul, 1) := by decide +kernel
theorem dX0_lay_8 : decode cX0_lay 8 = .ok (.iload_n 2, 1) := by decide +kernel
theorem dX0_lay_9 : decode cX0_lay 9 = .ok (.iadd, 1) := by decide +kernel
theorem dX0_lay_10 : decode cX0_lay 10 = .ok (.dup2, 1) := by decide +kernel
theorem dX0_lay_11 : decode cX0_lay 11 = .ok (.iaload, 1) := by decide +kernel
theorem dX0_lay_12 : decode cX0_lay 12 = .ok (.iload_n 3, 1) := by decide +kernel
theorem dX0_lay_13 : decode cX0_lay 13 = .ok (.iadd, 1) := by decide +kernel
theorem dX0_lay_14 : decode cX0_lay 14 = .ok (.iastore, 1) := by decide +kernel
theorem dX0_lay_15 : decode cX0_lay 15 = .ok (.aload_n 0, 1) := by decide +kernel
theorem dX0_lay_16 : decode cX0_lay 16 = .ok (.dup, 1) := by decide +kernel
theorem dX0_lay_17 : decode cX0_lay 17 = .ok (.getfield 24, 3) := by decide +kernel
theorem dX0_lay_20 : decode cX0_lay 20 = .ok (.iload_n 3, 1) := by decide +kernel
theorem dX0_lay_21 : decode cX0_lay 21 = .ok (.iadd, 1) := by decide +kernel
theorem dX0_lay_22 : decode cX0_lay 22 = .ok (.putfield 24, 3) := by decide +kernel
theorem dX0_lay_25 : decode cX0_lay 25 = .ok (.return_, 1) := by decide +kernel
theorem dX0_pay_0 : decode cX0_pay 0 = .ok (.iload_n 1, 1) := by decide +kernel
theorem dX0_pay_1 : decode cX0_pay 1 = .ok (.bipush 9, 2) := by decide +kernel
theorem dX0_pay_3 : decode cX0_pay 3 = .ok (.imul, 1) := by decide +kernel
theorem dX0_pay_4 : decode cX0_pay 4 = .ok (.iload_n 2, 1) := by decide +kernel
theorem dX0_pay_5 : decode cX0_pay 5 = .ok (.iadd, 1) := by decide +kernel
theorem dX0_pay_6 : decode cX0_pay 6 = .ok (.istore_n 3, 1) := by decide +kernel
theorem dX0_pay_7 : decode cX0_pay 7 = .ok (.aload_n 0, 1) := by decide +kernel
theorem dX0_pay_8 : decode cX0_pay 8 = .ok (.getfield 9, 3) := by decide +kernel
theorem dX0_pay_11 : decode cX0_pay 11 = .ok (.iload_n 3, 1) := by decide +kernel
theorem dX0_pay_12 : decode cX0_pay 12 = .ok (.iaload, 1) := by decide +kernel
theorem dX0_pay_13 : decode cX0_pay 13 = .ok (.ifCond .ne 5, 3) := by decide +kernel
theorem dX0_pay_16 : decode cX0_pay 16 = .ok (.iconst 0, 1) := by decide +kernel
theorem dX0_pay_17 : decode cX0_pay 17 = .ok (.ireturn, 1) := by decide +kernel
theorem dX0_pay_18 : decode cX0_pay 18 = .ok (.aload_n 0, 1) := by decide +kernel
theorem dX0_pay_19 : decode cX0_pay 19 = .ok (.getfield 9, 3) := by decide +kernel
theorem dX0_pay_22 : decode cX0_pay 22 = .ok (.iload_n 3, 1) := by decide +kernel
theorem dX0_pay_23 : decode cX0_pay 23 = .ok (.dup2, 1) := by decide +kernel
theorem dX0_pay_24 : decode cX0_pay 24 = .ok (.iaload, 1) := by decide +kernel
theorem dX0_pay_25 : decode cX0_pay 25 = .ok (.iconst 1, 1) := by decide +kernel
theorem dX0_pay_26 : decode cX0_pay 26 = .ok (.isub, 1) := by decide +kernel
theorem dX0_pay_27 : decode cX0_pay 27 = .ok (.iastore, 1) := by decide +kernel
theorem dX0_pay_28 : decode cX0_pay 28 = .ok (.aload_n 0, 1) := by decide +kernel
theorem dX0_pay_29 : decode cX0_pay 29 = .ok (.getfield 15, 3) := by decide +kernel
theorem dX0_pay_32 : decode cX0_pay 32 = .ok (.iload_n 1, 1) := by decide +kernel
theorem dX0_pay_33 : decode cX0_pay 33 = .ok (.dup2, 1) := by decide +kernel
theorem dX0_pay_34 : decode cX0_pay 34 = .ok (.iaload, 1) := by decide +kernel
theorem dX0_pay_35 : decode cX0_pay 35 = .ok (.iconst 1, 1) := by decide +kernel
theorem dX0_pay_36 : decode cX0_pay 36 = .ok (.iadd, 1) := by decide +kernel
theorem dX0_pay_37 : decode cX0_pay 37 = .ok (.iastore, 1) := by decide +kernel
theorem dX0_pay_38 : decode cX0_pay 38 = .ok (.aload_n 0, 1) := by decide +kernel
theorem dX0_pay_39 : decode cX0_pay 39 = .ok (.dup, 1) := by decide +kernel
theorem dX0_pay_40 : decode cX0_pay 40 = .ok (.getfield 28, 3) := by decide +kernel
theorem dX0_pay_43 : decode cX0_pay 43 = .ok (.iconst 1, 1) := by decide +kernel
theorem dX0_pay_44 : decode cX0_pay 44 = .ok (.iadd, 1) := by decide +kernel
theorem dX0_pay_45 : decode cX0_pay 45 = .ok (.putfield 28, 3) := by decide +kernel
theorem dX0_pay_48 : decode cX0_pay 48 = .ok (.iconst 1, 1) := by decide +kernel
theorem dX0_pay_49 : decode cX0_pay 49 = .ok (.ireturn, 1) := by decide +kernel
theorem dX0_setOffBoth_0 : decode cX0_setOffBoth 0 = .ok (.iload_n 1, 1) := by decide +kernel
theorem dX0_setOffBoth_1 : decode cX0_setOffBoth 1 = .ok (.bipush 9, 2) := by decide +kernel
theorem dX0_setOffBoth_3 : decode cX0_setOffBoth 3 = .ok (.imul, 1) := by decide +kernel
theorem dX0_setOffBoth_4 : decode cX0_setOffBoth 4 = .ok (.iload_n 2, 1) := by decide +kernel
theorem dX0_setOffBoth_5 : decode cX0_setOffBoth 5 = .ok (.iadd, 1) := by decide +kernel
theorem dX0_setOffBoth_6 : decode cX0_setOffBoth 6 = .ok (.istore_n 3, 1) := by decide +kernel
theorem dX0_setOffBoth_7 : decode cX0_setOffBoth 7 = .ok (.iload_n 2, 1) := by decide +kernel
theorem dX0_setOffBoth_8 : decode cX0_setOffBoth 8 = .ok (.bipush 9, 2) := by decide +kernel
theorem dX0_setOffBoth_10 : decode cX0_setOffBoth 10 = .ok (.imul, 1) := by decide +kernel
theorem dX0_setOffBoth_11 : decode cX0_setOffBoth 11 = .ok (.iload_n 1, 1) := by decide +kernel
theorem dX0_setOffBoth_12 : decode cX0_setOffBoth 12 = .ok (.iadd, 1) := by decide +kernel
theorem dX0_setOffBoth_13 : decode cX0_setOffBoth 13 = .ok (.istore 4, 2) := by decide +kernel
theorem dX0_setOffBoth_15 : decode cX0_setOffBoth 15 = .ok (.aload_n 0, 1) := by decide +kernel
theorem dX0_setOffBoth_16 : decode cX0_setOffBoth 16 = .ok (.getfield 9, 3) := by decide +kernel
theorem dX0_setOffBoth_19 : decode cX0_setOffBoth 19 = .ok (.iload_n 3, 1) := by decide +kernel
theorem dX0_setOffBoth_20 : decode cX0_setOffBoth 20 = .ok (.iaload, 1) := by decide +kernel
theorem dX0_setOffBoth_21 : decode cX0_setOffBoth 21 = .ok (.aload_n 0, 1) := by decide +kernel
theorem dX0_setOffBoth_22 : decode cX0_setOffBoth 22 = .ok (.getfield 9, 3) := by decide +kernel
theorem dX0_setOffBoth_25 : decode cX0_setOffBoth 25 = .ok (.iload 4, 2) := by decide +kernel
theorem dX0_setOffBoth_27 : decode cX0_setOffBoth 27 = .ok (.iaload, 1) := by decide +kernel
theorem dX0_setOffBoth_28 : decode cX0_setOffBoth 28 = .ok (.invokestatic 37, 3) := by decide +kernel
theorem dX0_setOffBoth_31 : decode cX0_setOffBoth 31 = .ok (.istore 5, 2) := by decide +kernel
theorem dX0_setOffBoth_33 : decode cX0_setOffBoth 33 = .ok (.aload_n 0, 1) := by decide +kernel
theorem dX0_setOffBoth_34 : decode cX0_setOffBoth 34 = .ok (.getfield 9, 3) := by decide +kernel
theorem dX0_setOffBoth_37 : decode cX0_setOffBoth 37 = .ok (.iload_n 3, 1) := by decide +kernel
theorem dX0_setOffBoth_38 : decode cX0_setOffBoth 38 = .ok (.dup2, 1) := by decide +kernel
theorem dX0_setOffBoth_39 : decode cX0_setOffBoth 39 = .ok (.iaload, 1) := by decide +kernel
theorem dX0_setOffBoth_40 : decode cX0_setOffBoth 40 = .ok (.iload 5, 2) := by decide +kernel
theorem dX0_setOffBoth_42 : decode cX0_setOffBoth 42 = .ok (.isub, 1) := by decide +kernel
theorem dX0_setOffBoth_43 : decode cX0_setOffBoth 43 = .ok (.iastore, 1) := by decide +kernel
theorem dX0_setOffBoth_44 : decode cX0_setOffBoth 44 = .ok (.aload_n 0, 1) := by decide +kernel
theorem dX0_setOffBoth_45 : decode cX0_setOffBoth 45 = .ok (.getfield 9, 3) := by decide +kernel
theorem dX0_setOffBoth_48 : decode cX0_setOffBoth 48 = .ok (.iload 4, 2) := by decide +kernel
theorem dX0_setOffBoth_50 : decode cX0_setOffBoth 50 = .ok (.dup2, 1) := by decide +kernel
theorem dX0_setOffBoth_51 : decode cX0_setOffBoth 51 = .ok (.iaload, 1) := by decide +kernel
theorem dX0_setOffBoth_52 : decode cX0_setOffBoth 52 = .ok (.iload 5, 2) := by decide +kernel
theorem dX0_setOffBoth_54 : decode cX0_setOffBoth 54 = .ok (.isub, 1) := by decide +kernel
theorem dX0_setOffBoth_55 : decode cX0_setOffBoth 55 = .ok (.iastore, 1) := by decide +kernel
theorem dX0_setOffBoth_56 : decode cX0_setOffBoth 56 = .ok (.aload_n 0, 1) := by decide +kernel
theorem dX0_setOffBoth_57 : decode cX0_setOffBoth 57 = .ok (.dup, 1) := by decide +kernel
theorem dX0_setOffBoth_58 : decode cX0_setOffBoth 58 = .ok (.getfield 34, 3) := by decide +kernel
theorem dX0_setOffBoth_61 : decode cX0_setOffBoth 61 = .ok (.iconst 2, 1) := by decide +kernel
theorem dX0_setOffBoth_62 : decode cX0_setOffBoth 62 = .ok (.iload 5, 2) := by decide +kernel
theorem dX0_setOffBoth_64 : decode cX0_setOffBoth 64 = .ok (.imul, 1) := by decide +kernel
theorem dX0_setOffBoth_65 : decode cX0_setOffBoth 65 = .ok (.iadd, 1) := by decide +kernel
theorem dX0_setOffBoth_66 : decode cX0_setOffBoth 66 = .ok (.putfield 34, 3) := by decide +kernel
theorem dX0_setOffBoth_69 : decode cX0_setOffBoth 69 = .ok (.return_, 1) := by decide +kernel
theorem dX0_forget_0 : decode cX0_forget 0 = .ok (.aload_n 0, 1) := by decide +kernel
theorem dX0_forget_1 : decode cX0_forget 1 = .ok (.dup, 1) := by decide +kernel
theorem dX0_forget_2 : decode cX0_forget 2 = .ok (.getfield 31, 3) := by decide +kernel
theorem dX0_forget_5 : decode cX0_forget 5 = .ok (.aload_n 0, 1) := by decide +kernel
theorem dX0_forget_6 : decode cX0_forget 6 = .ok (.iload_n 1, 1) := by decide +kernel
theorem dX0_forget_7 : decode cX0_forget 7 = .ok (.invokevirtual 43, 3) := by decide +kernel
theorem dX0_forget_10 : decode cX0_forget 10 = .ok (.aload_n 0, 1) := by decide +kernel
theorem dX0_forget_11 : decode cX0_forget 11 = .ok (.iload_n 1, 1) := by decide +kernel
theorem dX0_forget_12 : decode cX0_forget 12 = .ok (.invokevirtual 47, 3) := by decide +kernel
theorem dX0_forget_15 : decode cX0_forget 15 = .ok (.iadd, 1) := by decide +kernel
theorem dX0_forget_16 : decode cX0_forget 16 = .ok (.iadd, 1) := by decide +kernel
theorem dX0_forget_17 : decode cX0_forget 17 = .ok (.putfield 31, 3) := by decide +kernel
theorem dX0_forget_20 : decode cX0_forget 20 = .ok (.iconst 0, 1) := by decide +kernel
theorem dX0_forget_21 : decode cX0_forget 21 = .ok (.istore_n 2, 1) := by decide +kernel
theorem dX0_forget_22 : decode cX0_forget 22 = .ok (.iload_n 2, 1) := by decide +kernel
theorem dX0_forget_23 : decode cX0_forget 23 = .ok (.bipush 9, 2) := by decide +kernel
theorem dX0_forget_25 : decode cX0_forget 25 = .ok (.if_icmp .ge 33, 3) := by decide +kernel
theorem dX0_forget_28 : decode cX0_forget 28 = .ok (.aload_n 0, 1) := by decide +kernel
theorem dX0_forget_29 : decode cX0_forget 29 = .ok (.getfield 9, 3) := by decide +kernel
theorem dX0_forget_32 : decode cX0_forget 32 = .ok (.iload_n 1, 1) := by decide +kernel
theorem dX0_forget_33 : decode cX0_forget 33 = .ok (.bipush 9, 2) := by decide +kernel
theorem dX0_forget_35 : decode cX0_forget 35 = .ok (.imul, 1) := by decide +kernel
theorem dX0_forget_36 : decode cX0_forget 36 = .ok (.iload_n 2, 1) := by decide +kernel
theorem dX0_forget_37 : decode cX0_forget 37 = .ok (.iadd, 1) := by decide +kernel
theorem dX0_forget_38 : decode cX0_forget 38 = .ok (.iconst 0, 1) := by decide +kernel
theorem dX0_forget_39 : decode cX0_forget 39 = .ok (.iastore, 1) := by decide +kernel
theorem dX0_forget_40 : decode cX0_forget 40 = .ok (.aload_n 0, 1) := by decide +kernel
theorem dX0_forget_41 : decode cX0_forget 41 = .ok (.getfield 9, 3) := by decide +kernel
theorem dX0_forget_44 : decode cX0_forget 44 = .ok (.iload_n 2, 1) := by decide +kernel
theorem dX0_forget_45 : decode cX0_forget 45 = .ok (.bipush 9, 2) := by decide +kernel
theorem dX0_forget_47 : decode cX0_forget 47 = .ok (.imul, 1) := by decide +kernel
theorem dX0_forget_48 : decode cX0_forget 48 = .ok (.iload_n 1, 1) := by decide +kernel
theorem dX0_forget_49 : decode cX0_forget 49 = .ok (.iadd, 1) := by decide +kernel
theorem dX0_forget_50 : decode cX0_forget 50 = .ok (.iconst 0, 1) := by decide +kernel
theorem dX0_forget_51 : decode cX0_forget 51 = .ok (.iastore, 1) := by decide +kernel
theorem dX0_forget_52 : decode cX0_forget 52 = .ok (.iinc 2 1, 3) := by decide +kernel
theorem dX0_forget_55 : decode cX0_forget 55 = .ok (.goto (-33), 3) := by decide +kernel
theorem dX0_forget_58 : decode cX0_forget 58 = .ok (.aload_n 0, 1) := by decide +kernel
theorem dX0_forget_59 : decode cX0_forget 59 = .ok (.getfield 15, 3) := by decide +kernel
theorem dX0_forget_62 : decode cX0_forget 62 = .ok (.iload_n 1, 1) := by decide +kernel
theorem dX0_forget_63 : decode cX0_forget 63 = .ok (.iconst 0, 1) := by decide +kernel
theorem dX0_forget_64 : decode cX0_forget 64 = .ok (.iastore, 1) := by decide +kernel
theorem dX0_forget_65 : decode cX0_forget 65 = .ok (.return_, 1) := by decide +kernel
theorem dX1_init_0 : decode cX1_init 0 = .ok (.aload_n 0, 1) := by decide +kernel
theorem dX1_init_1 : decode cX1_init 1 = .ok (.invokespecial 3, 3) := by decide +kernel
theorem dX1_init_4 : decode cX1_init 4 = .ok (.aload_n 0, 1) := by decide +kernel
theorem dX1_init_5 : decode cX1_init 5 = .ok (.bipush 6, 2) := by decide +kernel
theorem dX1_init_7 : decode cX1_init 7 = .ok (.anewarray 9, 3) := by decide +kernel
theorem dX1_init_10 : decode cX1_init 10 = .ok (.putfield 11, 3) := by decide +kernel
theorem dX1_init_13 : decode cX1_init 13 = .ok (.iconst 0, 1) := by decide +kernel
theorem dX1_init_14 : decode cX1_init 14 = .ok (.istore_n 1, 1) := by decide +kernel
theorem dX1_init_15 : decode cX1_init 15 = .ok (.iload_n 1, 1) := by decide +kernel
theorem dX1_init_16 : decode cX1_init 16 = .ok (.bipush 6, 2) := by decide +kernel
theorem dX1_init_18 : decode cX1_init 18 = .ok (.if_icmp .ge 22, 3) := by decide +kernel
theorem dX1_init_21 : decode cX1_init 21 = .ok (.aload_n 0, 1) := by decide +kernel
theorem dX1_init_22 : decode cX1_init 22 = .ok (.getfield 11, 3) := by decide +kernel
theorem dX1_init_25 : decode cX1_init 25 = .ok (.iload_n 1, 1) := by decide +kernel
theorem dX1_init_26 : decode cX1_init 26 = .ok (.new 9, 3) := by decide +kernel
theorem dX1_init_29 : decode cX1_init 29 = .ok (.dup, 1) := by decide +kernel
theorem dX1_init_30 : decode cX1_init 30 = .ok (.invokespecial 17, 3) := by decide +kernel
theorem dX1_init_33 : decode cX1_init 33 = .ok (.aastore, 1) := by decide +kernel
theorem dX1_init_34 : decode cX1_init 34 = .ok (.iinc 1 1, 3) := by decide +kernel
theorem dX1_init_37 : decode cX1_init 37 = .ok (.goto (-22), 3) := by decide +kernel
theorem dX1_init_40 : decode cX1_init 40 = .ok (.return_, 1) := by decide +kernel
theorem dX1_states_0 : decode cX1_states 0 = .ok (.aload_n 0, 1) := by decide +kernel
theorem dX1_states_1 : decode cX1_states 1 = .ok (.getfield 18, 3) := by decide +kernel
theorem dX1_states_4 : decode cX1_states 4 = .ok (.ireturn, 1) := by decide +kernel
theorem dX1_keep_0 : decode cX1_keep 0 = .ok (.aload_n 1, 1) := by decide +kernel
theorem dX1_keep_1 : decode cX1_keep 1 = .ok (.aload_n 0, 1) := by decide +kernel
theorem dX1_keep_2 : decode cX1_keep 2 = .ok (.aload_n 0, 1) := by decide +kernel
theorem dX1_keep_3 : decode cX1_keep 3 = .ok (.getfield 22, 3) := by decide +kernel
theorem dX1_keep_6 : decode cX1_keep 6 = .ok (.invokevirtual 25, 3) := by decide +kernel
theorem dX1_keep_9 : decode cX1_keep 9 = .ok (.invokestatic 29, 3) := by decide +kernel
theorem dX1_keep_12 : decode cX1_keep 12 = .ok (.aload_n 0, 1) := by decide +kernel
theorem dX1_keep_13 : decode cX1_keep 13 = .ok (.aload_n 0, 1) := by decide +kernel
theorem dX1_keep_14 : decode cX1_keep 14 = .ok (.getfield 22, 3) := by decide +kernel
theorem dX1_keep_17 : decode cX1_keep 17 = .ok (.iconst 1, 1) := by decide +kernel
theorem dX1_keep_18 : decode cX1_keep 18 = .ok (.iadd, 1) := by decide +kernel
theorem dX1_keep_19 : decode cX1_keep 19 = .ok (.bipush 6, 2) := by decide +kernel
theorem dX1_keep_21 : decode cX1_keep 21 = .ok (.if_icmp .ge 12, 3) := by decide +kernel
theorem dX1_keep_24 : decode cX1_keep 24 = .ok (.aload_n 0, 1) := by decide +kernel
theorem dX1_keep_25 : decode cX1_keep 25 = .ok (.getfield 22, 3) := by decide +kernel
theorem dX1_keep_28 : decode cX1_keep 28 = .ok (.iconst 1, 1) := by decide +kernel
theorem dX1_keep_29 : decode cX1_keep 29 = .ok (.iadd, 1) := by decide +kernel
theorem dX1_keep_30 : decode cX1_keep 30 = .ok (.goto 4, 3) := by decide +kernel
theorem dX1_keep_33 : decode cX1_keep 33 = .ok (.iconst 0, 1) := by decide +kernel
theorem dX1_keep_34 : decode cX1_keep 34 = .ok (.putfield 22, 3) := by decide +kernel
theorem dX1_keep_37 : decode cX1_keep 37 = .ok (.aload_n 0, 1) := by decide +kernel
theorem dX1_keep_38 : decode cX1_keep 38 = .ok (.aload_n 0, 1) := by decide +kernel
theorem dX1_keep_39 : decode cX1_keep 39 = .ok (.getfield 18, 3) := by decide +kernel
theorem dX1_keep_42 : decode cX1_keep 42 = .ok (.iconst 1, 1) := by decide +kernel
theorem dX1_keep_43 : decode cX1_keep 43 = .ok (.iadd, 1) := by decide +kernel
theorem dX1_keep_44 : decode cX1_keep 44 = .ok (.bipush 6, 2) := by decide +kernel
theorem dX1_keep_46 : decode cX1_keep 46 = .ok (.invokestatic 33, 3) := by decide +kernel
theorem dX1_keep_49 : decode cX1_keep 49 = .ok (.putfield 18, 3) := by decide +kernel
theorem dX1_keep_52 : decode cX1_keep 52 = .ok (.return_, 1) := by decide +kernel
theorem dX1_takeBack_0 : decode cX1_takeBack 0 = .ok (.aload_n 0, 1) := by decide +kernel
theorem dX1_takeBack_1 : decode cX1_takeBack 1 = .ok (.getfield 18, 3) := by decide +kernel
theorem dX1_takeBack_4 : decode cX1_takeBack 4 = .ok (.ifCond .ne 6, 3) := by decide +kernel
theorem dX1_takeBack_7 : decode cX1_takeBack 7 = .ok (.bipush (-5), 2) := by decide +kernel
theorem dX1_takeBack_9 : decode cX1_takeBack 9 = .ok (.ireturn, 1) := by decide +kernel
theorem dX1_takeBack_10 : decode cX1_takeBack 10 = .ok (.aload_n 0, 1) := by decide +kernel
theorem dX1_takeBack_11 : decode cX1_takeBack 11 = .ok (.aload_n 0, 1) := by decide +kernel
theorem dX1_takeBack_12 : decode cX1_takeBack 12 = .ok (.getfield 22, 3) := by decide +kernel
theorem dX1_takeBack_15 : decode cX1_takeBack 15 = .ok (.ifCond .le 12, 3) := by decide +kernel
theorem dX1_takeBack_18 : decode cX1_takeBack 18 = .ok (.aload_n 0, 1) := by decide +kernel
theorem dX1_takeBack_19 : decode cX1_takeBack 19 = .ok (.getfield 22, 3) := by decide +kernel
theorem dX1_takeBack_22 : decode cX1_takeBack 22 = .ok (.iconst 1, 1) := by decide +kernel
theorem dX1_takeBack_23 : decode cX1_takeBack 23 = .ok (.isub, 1) := by decide +kernel
theorem dX1_takeBack_24 : decode cX1_takeBack 24 = .ok (.goto 4, 3) := by decide +kernel
theorem dX1_takeBack_27 : decode cX1_takeBack 27 = .ok (.iconst 5, 1) := by decide +kernel
theorem dX1_takeBack_28 : decode cX1_takeBack 28 = .ok (.putfield 22, 3) := by decide +kernel
theorem dX1_takeBack_31 : decode cX1_takeBack 31 = .ok (.aload_n 0, 1) := by decide +kernel
theorem dX1_takeBack_32 : decode cX1_takeBack 32 = .ok (.dup, 1) := by decide +kernel
theorem dX1_takeBack_33 : decode cX1_takeBack 33 = .ok (.getfield 18, 3) := by decide +kernel
theorem dX1_takeBack_36 : decode cX1_takeBack 36 = .ok (.iconst 1, 1) := by decide +kernel
theorem dX1_takeBack_37 : decode cX1_takeBack 37 = .ok (.isub, 1) := by decide +kernel
theorem dX1_takeBack_38 : decode cX1_takeBack 38 = .ok (.putfield 18, 3) := by decide +kernel
theorem dX1_takeBack_41 : decode cX1_takeBack 41 = .ok (.aload_n 0, 1) := by decide +kernel
theorem dX1_takeBack_42 : decode cX1_takeBack 42 = .ok (.aload_n 0, 1) := by decide +kernel
theorem dX1_takeBack_43 : decode cX1_takeBack 43 = .ok (.getfield 22, 3) := by decide +kernel
theorem dX1_takeBack_46 : decode cX1_takeBack 46 = .ok (.invokevirtual 25, 3) := by decide +kernel
theorem dX1_takeBack_49 : decode cX1_takeBack 49 = .ok (.aload_n 1, 1) := by decide +kernel
theorem dX1_takeBack_50 : decode cX1_takeBack 50 = .ok (.invokestatic 29, 3) := by decide +kernel
theorem dX1_takeBack_53 : decode cX1_takeBack 53 = .ok (.aload_n 0, 1) := by decide +kernel
theorem dX1_takeBack_54 : decode cX1_takeBack 54 = .ok (.getfield 18, 3) := by decide +kernel
theorem dX1_takeBack_57 : decode cX1_takeBack 57 = .ok (.ireturn, 1) := by decide +kernel
theorem dX1_roomAt_0 : decode cX1_roomAt 0 = .ok (.iload_n 1, 1) := by decide +kernel
theorem dX1_roomAt_1 : decode cX1_roomAt 1 = .ok (.ifCond .lt 18, 3) := by decide +kernel
theorem dX1_roomAt_4 : decode cX1_roomAt 4 = .ok (.iload_n 1, 1) := by decide +kernel
theorem dX1_roomAt_5 : decode cX1_roomAt 5 = .ok (.bipush 6, 2) := by decide +kernel
theorem dX1_roomAt_7 : decode cX1_roomAt 7 = .ok (.if_icmp .ge 12, 3) := by decide +kernel
theorem dX1_roomAt_10 : decode cX1_roomAt 10 = .ok (.aload_n 0, 1) := by decide +kernel
theorem dX1_roomAt_11 : decode cX1_roomAt 11 = .ok (.getfield 11, 3) := by decide +kernel
theorem dX1_roomAt_14 : decode cX1_roomAt 14 = .ok (.iload_n 1, 1) := by decide +kernel
theorem dX1_roomAt_15 : decode cX1_roomAt 15 = .ok (.aaload, 1) := by decide +kernel
theorem dX1_roomAt_16 : decode cX1_roomAt 16 = .ok (.goto 4, 3) := by decide +kernel
theorem dX1_roomAt_19 : decode cX1_roomAt 19 = .ok (.aconst_null, 1) := by decide +kernel
theorem dX1_roomAt_20 : decode cX1_roomAt 20 = .ok (.areturn, 1) := by decide +kernel
theorem dX1_copy_0 : decode cX1_copy 0 = .ok (.aload_n 0, 1) := by decide +kernel
theorem dX1_copy_1 : decode cX1_copy 1 = .ok (.ifnull 12, 3) := by decide +kernel
theorem dX1_copy_4 : decode cX1_copy 4 = .ok (.aload_n 1, 1) := by decide +kernel
theorem dX1_copy_5 : decode cX1_copy 5 = .ok (.ifnull 8, 3) := by decide +kernel
theorem dX1_copy_8 : decode cX1_copy 8 = .ok (.aload_n 1, 1) := by decide +kernel
theorem dX1_copy_9 : decode cX1_copy 9 = .ok (.aload_n 0, 1) := by decide +kernel
theorem dX1_copy_10 : decode cX1_copy 10 = .ok (.invokevirtual 39, 3) := by decide +kernel
theorem dX1_copy_13 : decode cX1_copy 13 = .ok (.return_, 1) := by decide +kernel
theorem dX2_init_0 : decode cX2_init 0 = .ok (.aload_n 0, 1) := by decide +kernel
theorem dX2_init_1 : decode cX2_init 1 = .ok (.invokespecial 3, 3) := by decide +kernel
theorem dX2_init_4 : decode cX2_init 4 = .ok (.aload_n 0, 1) := by decide +kernel
theorem dX2_init_5 : decode cX2_init 5 = .ok (.bipush 80, 2) := by decide +kernel
theorem dX2_init_7 : decode cX2_init 7 = .ok (.newarray .char, 2) := by decide +kernel
theorem dX2_init_9 : decode cX2_init 9 = .ok (.putfield 9, 3) := by decide +kernel
theorem dX2_init_12 : decode cX2_init 12 = .ok (.return_, 1) := by decide +kernel
theorem dX2_length_0 : decode cX2_length 0 = .ok (.aload_n 0, 1) := by decide +kernel
theorem dX2_length_1 : decode cX2_length 1 = .ok (.getfield 15, 3) := by decide +kernel
theorem dX2_length_4 : decode cX2_length 4 = .ok (.ireturn, 1) := by decide +kernel
theorem dX3_init_0 : decode cX3_init 0 = .ok (.aload_n 0, 1) := by decide +kernel
theorem dX3_init_1 : decode cX3_init 1 = .ok (.invokespecial 3, 3) := by decide +kernel
theorem dX3_init_4 : decode cX3_init 4 = .ok (.aload_n 0, 1) := by decide +kernel
theorem dX3_init_5 : decode cX3_init 5 = .ok (.iconst 4, 1) := by decide +kernel
theorem dX3_init_6 : decode cX3_init 6 = .ok (.newarray .int, 2) := by decide +kernel
theorem dX3_init_8 : decode cX3_init 8 = .ok (.dup, 1) := by decide +kernel
theorem dX3_init_9 : decode cX3_init 9 = .ok (.iconst 0, 1) := by decide +kernel
theorem dX3_init_10 : decode cX3_init 10 = .ok (.iconst 2, 1) := by decide +kernel
theorem dX3_init_11 : decode cX3_init 11 = .ok (.iastore, 1) := by decide +kernel
theorem dX3_init_12 : decode cX3_init 12 = .ok (.dup, 1) := by decide +kernel
theorem dX3_init_13 : decode cX3_init 13 = .ok (.iconst 1, 1) := by decide +kernel
theorem dX3_init_14 : decode cX3_init 14 = .ok (.iconst 3, 1) := by decide +kernel
theorem dX3_init_15 : decode cX3_init 15 = .ok (.iastore, 1) := by decide +kernel
theorem dX3_init_16 : decode cX3_init 16 = .ok (.dup, 1) := by decide +kernel
theorem dX3_init_17 : decode cX3_init 17 = .ok (.iconst 2, 1) := by decide +kernel
theorem dX3_init_18 : decode cX3_init 18 = .ok (.bipush 9, 2) := by decide +kernel
theorem dX3_init_20 : decode cX3_init 20 = .ok (.iastore, 1) := by decide +kernel
theorem dX3_init_21 : decode cX3_init 21 = .ok (.dup, 1) := by decide +kernel
theorem dX3_init_22 : decode cX3_init 22 = .ok (.iconst 3, 1) := by decide +kernel
theorem dX3_init_23 : decode cX3_init 23 = .ok (.iconst 3, 1) := by decide +kernel
theorem dX3_init_24 : decode cX3_init 24 = .ok (.iastore, 1) := by decide +kernel
theorem dX3_init_25 : decode cX3_init 25 = .ok (.putfield 9, 3) := by decide +kernel
theorem dX3_init_28 : decode cX3_init 28 = .ok (.aload_n 0, 1) := by decide +kernel
theorem dX3_init_29 : decode cX3_init 29 = .ok (.bipush 9, 2) := by decide +kernel
theorem dX3_init_31 : decode cX3_init 31 = .ok (.newarray .int, 2) := by decide +kernel
theorem dX3_init_33 : decode cX3_init 33 = .ok (.putfield 15, 3) := by decide +kernel
theorem dX3_init_36 : decode cX3_init 36 = .ok (.aload_n 0, 1) := by decide +kernel
theorem dX3_init_37 : decode cX3_init 37 = .ok (.bipush 9, 2) := by decide +kernel
theorem dX3_init_39 : decode cX3_init 39 = .ok (.newarray .int, 2) := by decide +kernel
theorem dX3_init_41 : decode cX3_init 41 = .ok (.putfield 18, 3) := by decide +kernel
theorem dX3_init_44 : decode cX3_init 44 = .ok (.aload_n 0, 1) := by decide +kernel
theorem dX3_init_45 : decode cX3_init 45 = .ok (.bipush 9, 2) := by decide +kernel
theorem dX3_init_47 : decode cX3_init 47 = .ok (.newarray .int, 2) := by decide +kernel
theorem dX3_init_49 : decode cX3_init 49 = .ok (.putfield 21, 3) := by decide +kernel
theorem dX3_init_52 : decode cX3_init 52 = .ok (.aload_n 0, 1) := by decide +kernel
theorem dX3_init_53 : decode cX3_init 53 = .ok (.bipush 9, 2) := by decide +kernel
theorem dX3_init_55 : decode cX3_init 55 = .ok (.newarray .int, 2) := by decide +kernel
theorem dX3_init_57 : decode cX3_init 57 = .ok (.putfield 24, 3) := by decide +kernel
theorem dX3_init_60 : decode cX3_init 60 = .ok (.aload_n 0, 1) := by decide +kernel
theorem dX3_init_61 : decode cX3_init 61 = .ok (.bipush 9, 2) := by decide +kernel
theorem dX3_init_63 : decode cX3_init 63 = .ok (.newarray .int, 2) := by decide +kernel
theorem dX3_init_65 : decode cX3_init 65 = .ok (.putfield 27, 3) := by decide +kernel
theorem dX3_init_68 : decode cX3_init 68 = .ok (.aload_n 0, 1) := by decide +kernel
theorem dX3_init_69 : decode cX3_init 69 = .ok (.bipush 9, 2) := by decide +kernel
theorem dX3_init_71 : decode cX3_init 71 = .ok (.newarray .int, 2) := by decide +kernel
theorem dX3_init_73 : decode cX3_init 73 = .ok (.putfield 30, 3) := by decide +kernel
theorem dX3_init_76 : decode cX3_init 76 = .ok (.aload_n 0, 1) := by decide +kernel
theorem dX3_init_77 : decode cX3_init 77 = .ok (.new 33, 3) := by decide +kernel
theorem dX3_init_80 : decode cX3_init 80 = .ok (.dup, 1) := by decide +kernel
theorem dX3_init_81 : decode cX3_init 81 = .ok (.invokespecial 35, 3) := by decide +kernel
theorem dX3_init_84 : decode cX3_init 84 = .ok (.putfield 36, 3) := by decide +kernel
theorem dX3_init_87 : decode cX3_init 87 = .ok (.aload_n 0, 1) := by decide +kernel
theorem dX3_init_88 : decode cX3_init 88 = .ok (.bipush 9, 2) := by decide +kernel
theorem dX3_init_90 : decode cX3_init 90 = .ok (.newarray .int, 2) := by decide +kernel
theorem dX3_init_92 : decode cX3_init 92 = .ok (.putfield 40, 3) := by decide +kernel
theorem dX3_init_95 : decode cX3_init 95 = .ok (.return_, 1) := by decide +kernel
theorem dX3_copyFrom_0 : decode cX3_copyFrom 0 = .ok (.aload_n 1, 1) := by decide +kernel
theorem dX3_copyFrom_1 : decode cX3_copyFrom 1 = .ok (.getfield 9, 3) := by decide +kernel
theorem dX3_copyFrom_4 : decode cX3_copyFrom 4 = .ok (.iconst 0, 1) := by decide +kernel
theorem dX3_copyFrom_5 : decode cX3_copyFrom 5 = .ok (.aload_n 0, 1) := by decide +kernel
theorem dX3_copyFrom_6 : decode cX3_copyFrom 6 = .ok (.getfield 9, 3) := by decide +kernel
theorem dX3_copyFrom_9 : decode cX3_copyFrom 9 = .ok (.iconst 0, 1) := by decide +kernel
theorem dX3_copyFrom_10 : decode cX3_copyFrom 10 = .ok (.aload_n 0, 1) := by decide +kernel
theorem dX3_copyFrom_11 : decode cX3_copyFrom 11 = .ok (.getfield 9, 3) := by decide +kernel
theorem dX3_copyFrom_14 : decode cX3_copyFrom 14 = .ok (.arraylength, 1) := by decide +kernel
theorem dX3_copyFrom_15 : decode cX3_copyFrom 15 = .ok (.invokestatic 43, 3) := by decide +kernel
theorem dX3_copyFrom_18 : decode cX3_copyFrom 18 = .ok (.aload_n 1, 1) := by decide +kernel
theorem dX3_copyFrom_19 : decode cX3_copyFrom 19 = .ok (.getfield 15, 3) := by decide +kernel
theorem dX3_copyFrom_22 : decode cX3_copyFrom 22 = .ok (.iconst 0, 1) := by decide +kernel
theorem dX3_copyFrom_23 : decode cX3_copyFrom 23 = .ok (.aload_n 0, 1) := by decide +kernel
theorem dX3_copyFrom_24 : decode cX3_copyFrom 24 = .ok (.getfield 15, 3) := by decide +kernel
theorem dX3_copyFrom_27 : decode cX3_copyFrom 27 = .ok (.iconst 0, 1) := by decide +kernel
theorem dX3_copyFrom_28 : decode cX3_copyFrom 28 = .ok (.bipush 9, 2) := by decide +kernel
theorem dX3_copyFrom_30 : decode cX3_copyFrom 30 = .ok (.invokestatic 43, 3) := by decide +kernel
theorem dX3_copyFrom_33 : decode cX3_copyFrom 33 = .ok (.aload_n 1, 1) := by decide +kernel
theorem dX3_copyFrom_34 : decode cX3_copyFrom 34 = .ok (.getfield 18, 3) := by decide +kernel
theorem dX3_copyFrom_37 : decode cX3_copyFrom 37 = .ok (.iconst 0, 1) := by decide +kernel
theorem dX3_copyFrom_38 : decode cX3_copyFrom 38 = .ok (.aload_n 0, 1) := by decide +kernel
theorem dX3_copyFrom_39 : decode cX3_copyFrom 39 = .ok (.getfield 18, 3) := by decide +kernel
theorem dX3_copyFrom_42 : decode cX3_copyFrom 42 = .ok (.iconst 0, 1) := by decide +kernel
theorem dX3_copyFrom_43 : decode cX3_copyFrom 43 = .ok (.bipush 9, 2) := by decide +kernel
theorem dX3_copyFrom_45 : decode cX3_copyFrom 45 = .ok (.invokestatic 43, 3) := by decide +kernel
theorem dX3_copyFrom_48 : decode cX3_copyFrom 48 = .ok (.aload_n 1, 1) := by decide +kernel
theorem dX3_copyFrom_49 : decode cX3_copyFrom 49 = .ok (.getfield 21, 3) := by decide +kernel
theorem dX3_copyFrom_52 : decode cX3_copyFrom 52 = .ok (.iconst 0, 1) := by decide +kernel
theorem dX3_copyFrom_53 : decode cX3_copyFrom 53 = .ok (.aload_n 0, 1) := by decide +kernel
theorem dX3_copyFrom_54 : decode cX3_copyFrom 54 = .ok (.getfield 21, 3) := by decide +kernel
theorem dX3_copyFrom_57 : decode cX3_copyFrom 57 = .ok (.iconst 0, 1) := by decide +kernel
theorem dX3_copyFrom_58 : decode cX3_copyFrom 58 = .ok (.bipush 9, 2) := by decide +kernel
theorem dX3_copyFrom_60 : decode cX3_copyFrom 60 = .ok (.invokestatic 43, 3) := by decide +kernel
theorem dX3_copyFrom_63 : decode cX3_copyFrom 63 = .ok (.aload_n 1, 1) := by decide +kernel
theorem dX3_copyFrom_64 : decode cX3_copyFrom 64 = .ok (.getfield 24, 3) := by decide +kernel
theorem dX3_copyFrom_67 : decode cX3_copyFrom 67 = .ok (.iconst 0, 1) := by decide +kernel
theorem dX3_copyFrom_68 : decode cX3_copyFrom 68 = .ok (.aload_n 0, 1) := by decide +kernel
theorem dX3_copyFrom_69 : decode cX3_copyFrom 69 = .ok (.getfield 24, 3) := by decide +kernel
theorem dX3_copyFrom_72 : decode cX3_copyFrom 72 = .ok (.iconst 0, 1) := by decide +kernel
theorem dX3_copyFrom_73 : decode cX3_copyFrom 73 = .ok (.bipush 9, 2) := by decide +kernel
theorem dX3_copyFrom_75 : decode cX3_copyFrom 75 = .ok (.invokestatic 43, 3) := by decide +kernel
theorem dX3_copyFrom_78 : decode cX3_copyFrom 78 = .ok (.aload_n 1, 1) := by decide +kernel
theorem dX3_copyFrom_79 : decode cX3_copyFrom 79 = .ok (.getfield 27, 3) := by decide +kernel
theorem dX3_copyFrom_82 : decode cX3_copyFrom 82 = .ok (.iconst 0, 1) := by decide +kernel
theorem dX3_copyFrom_83 : decode cX3_copyFrom 83 = .ok (.aload_n 0, 1) := by decide +kernel
theorem dX3_copyFrom_84 : decode cX3_copyFrom 84 = .ok (.getfield 27, 3) := by decide +kernel
theorem dX3_copyFrom_87 : decode cX3_copyFrom 87 = .ok (.iconst 0, 1) := by decide +kernel
theorem dX3_copyFrom_88 : decode cX3_copyFrom 88 = .ok (.bipush 9, 2) := by decide +kernel
theorem dX3_copyFrom_90 : decode cX3_copyFrom 90 = .ok (.invokestatic 43, 3) := by decide +kernel
theorem dX3_copyFrom_93 : decode cX3_copyFrom 93 = .ok (.aload_n 1, 1) := by decide +kernel
theorem dX3_copyFrom_94 : decode cX3_copyFrom 94 = .ok (.getfield 30, 3) := by decide +kernel
theorem dX3_copyFrom_97 : decode cX3_copyFrom 97 = .ok (.iconst 0, 1) := by decide +kernel
theorem dX3_copyFrom_98 : decode cX3_copyFrom 98 = .ok (.aload_n 0, 1) := by decide +kernel
theorem dX3_copyFrom_99 : decode cX3_copyFrom 99 = .ok (.getfield 30, 3) := by decide +kernel
theorem dX3_copyFrom_102 : decode cX3_copyFrom 102 = .ok (.iconst 0, 1) := by decide +kernel
theorem dX3_copyFrom_103 : decode cX3_copyFrom 103 = .ok (.bipush 9, 2) := by decide +kernel
theorem dX3_copyFrom_105 : decode cX3_copyFrom 105 = .ok (.invokestatic 43, 3) := by decide +kernel
theorem dX3_copyFrom_108 : decode cX3_copyFrom 108 = .ok (.aload_n 0, 1) := by decide +kernel
theorem dX3_copyFrom_109 : decode cX3_copyFrom 109 = .ok (.getfield 36, 3) := by decide +kernel
theorem dX3_copyFrom_112 : decode cX3_copyFrom 112 = .ok (.aload_n 1, 1) := by decide +kernel
theorem dX3_copyFrom_113 : decode cX3_copyFrom 113 = .ok (.getfield 36, 3) := by decide +kernel
theorem dX3_copyFrom_116 : decode cX3_copyFrom 116 = .ok (.invokevirtual 49, 3) := by decide +kernel
theorem dX3_copyFrom_119 : decode cX3_copyFrom 119 = .ok (.aload_n 0, 1) := by decide +kernel
theorem dX3_copyFrom_120 : decode cX3_copyFrom 120 = .ok (.aload_n 1, 1) := by decide +kernel
theorem dX3_copyFrom_121 : decode cX3_copyFrom 121 = .ok (.getfield 53, 3) := by decide +kernel
theorem dX3_copyFrom_124 : decode cX3_copyFrom 124 = .ok (.putfield 53, 3) := by decide +kernel
theorem dX3_copyFrom_127 : decode cX3_copyFrom 127 = .ok (.aload_n 0, 1) := by decide +kernel
theorem dX3_copyFrom_128 : decode cX3_copyFrom 128 = .ok (.aload_n 1, 1) := by decide +kernel
theorem dX3_copyFrom_129 : decode cX3_copyFrom 129 = .ok (.getfield 57, 3) := by decide +kernel
theorem dX3_copyFrom_132 : decode cX3_copyFrom 132 = .ok (.putfield 57, 3) := by decide +kernel
theorem dX3_copyFrom_135 : decode cX3_copyFrom 135 = .ok (.aload_n 0, 1) := by decide +kernel
theorem dX3_copyFrom_136 : decode cX3_copyFrom 136 = .ok (.aload_n 1, 1) := by decide +kernel
theorem dX3_copyFrom_137 : decode cX3_copyFrom 137 = .ok (.getfield 60, 3) := by decide +kernel
theorem dX3_copyFrom_140 : decode cX3_copyFrom 140 = .ok (.putfield 60, 3) := by decide +kernel
theorem dX3_copyFrom_143 : decode cX3_copyFrom 143 = .ok (.aload_n 0, 1) := by decide +kernel
theorem dX3_copyFrom_144 : decode cX3_copyFrom 144 = .ok (.aload_n 1, 1) := by decide +kernel
theorem dX3_copyFrom_145 : decode cX3_copyFrom 145 = .ok (.getfield 63, 3) := by decide +kernel
theorem dX3_copyFrom_148 : decode cX3_copyFrom 148 = .ok (.putfield 63, 3) := by decide +kernel
theorem dX3_copyFrom_151 : decode cX3_copyFrom 151 = .ok (.aload_n 0, 1) := by decide +kernel
theorem dX3_copyFrom_152 : decode cX3_copyFrom 152 = .ok (.aload_n 1, 1) := by decide +kernel
theorem dX3_copyFrom_153 : decode cX3_copyFrom 153 = .ok (.getfield 66, 3) := by decide +kernel
theorem dX3_copyFrom_156 : decode cX3_copyFrom 156 = .ok (.putfield 66, 3) := by decide +kernel
theorem dX3_copyFrom_159 : decode cX3_copyFrom 159 = .ok (.return_, 1) := by decide +kernel
theorem dX3_isHere_0 : decode cX3_isHere 0 = .ok (.iload_n 1, 1) := by decide +kernel
theorem dX3_isHere_1 : decode cX3_isHere 1 = .ok (.ifCond .lt 22, 3) := by decide +kernel
theorem dX3_isHere_4 : decode cX3_isHere 4 = .ok (.iload_n 1, 1) := by decide +kernel
theorem dX3_isHere_5 : decode cX3_isHere 5 = .ok (.bipush 9, 2) := by decide +kernel
theorem dX3_isHere_7 : decode cX3_isHere 7 = .ok (.if_icmp .ge 16, 3) := by decide +kernel
theorem dX3_isHere_10 : decode cX3_isHere 10 = .ok (.aload_n 0, 1) := by decide +kernel
theorem dX3_isHere_11 : decode cX3_isHere 11 = .ok (.getfield 15, 3) := by decide +kernel
theorem dX3_isHere_14 : decode cX3_isHere 14 = .ok (.iload_n 1, 1) := by decide +kernel
theorem dX3_isHere_15 : decode cX3_isHere 15 = .ok (.iaload, 1) := by decide +kernel
theorem dX3_isHere_16 : decode cX3_isHere 16 = .ok (.ifCond .le 7, 3) := by decide +kernel
theorem dX3_isHere_19 : decode cX3_isHere 19 = .ok (.iconst 1, 1) := by decide +kernel
theorem dX3_isHere_20 : decode cX3_isHere 20 = .ok (.goto 4, 3) := by decide +kernel
theorem dX3_isHere_23 : decode cX3_isHere 23 = .ok (.iconst 0, 1) := by decide +kernel
theorem dX3_isHere_24 : decode cX3_isHere 24 = .ok (.ireturn, 1) := by decide +kernel
theorem dX3_guests_0 : decode cX3_guests 0 = .ok (.aload_n 0, 1) := by decide +kernel
theorem dX3_guests_1 : decode cX3_guests 1 = .ok (.invokevirtual 69, 3) := by decide +kernel
theorem dX3_guests_4 : decode cX3_guests 4 = .ok (.invokestatic 73, 3) := by decide +kernel
theorem dX3_guests_7 : decode cX3_guests 7 = .ok (.ireturn, 1) := by decide +kernel
theorem dX3_breaths_0 : decode cX3_breaths 0 = .ok (.aload_n 0, 1) := by decide +kernel
theorem dX3_breaths_1 : decode cX3_breaths 1 = .ok (.getfield 53, 3) := by decide +kernel
theorem dX3_breaths_4 : decode cX3_breaths 4 = .ok (.ireturn, 1) := by decide +kernel
theorem dX3_changeSetting_0 : decode cX3_changeSetting 0 = .ok (.iload_n 1, 1) := by decide +kernel
theorem dX3_changeSetting_1 : decode cX3_changeSetting 1 = .ok (.ifCond .lt 20, 3) := by decide +kernel
theorem dX3_changeSetting_4 : decode cX3_changeSetting 4 = .ok (.iload_n 1, 1) := by decide +kernel
theorem dX3_changeSetting_5 : decode cX3_changeSetting 5 = .ok (.aload_n 0, 1) := by decide +kernel
theorem dX3_changeSetting_6 : decode cX3_changeSetting 6 = .ok (.getfield 9, 3) := by decide +kernel
theorem dX3_changeSetting_9 : decode cX3_changeSetting 9 = .ok (.arraylength, 1) := by decide +kernel
theorem dX3_changeSetting_10 : decode cX3_changeSetting 10 = .ok (.if_icmp .ge 11, 3) := by decide +kernel
theorem dX3_changeSetting_13 : decode cX3_changeSetting 13 = .ok (.iload_n 1, 1) := by decide +kernel
theorem dX3_changeSetting_14 : decode cX3_changeSetting 14 = .ok (.getstatic 79, 3) := by decide +kernel
theorem dX3_changeSetting_17 : decode cX3_changeSetting 17 = .ok (.arraylength, 1) := by decide +kernel
theorem dX3_changeSetting_18 : decode cX3_changeSetting 18 = .ok (.if_icmp .lt 6, 3) := by decide +kernel
theorem dX3_changeSetting_21 : decode cX3_changeSetting 21 = .ok (.bipush (-2), 2) := by decide +kernel
theorem dX3_changeSetting_23 : decode cX3_changeSetting 23 = .ok (.ireturn, 1) := by decide +kernel
theorem dX3_changeSetting_24 : decode cX3_changeSetting 24 = .ok (.iload_n 2, 1) := by decide +kernel
theorem dX3_changeSetting_25 : decode cX3_changeSetting 25 = .ok (.iconst 1, 1) := by decide +kernel
theorem dX3_changeSetting_26 : decode cX3_changeSetting 26 = .ok (.if_icmp .lt 12, 3) := by decide +kernel
theorem dX3_changeSetting_29 : decode cX3_changeSetting 29 = .ok (.iload_n 2, 1) := by decide +kernel
theorem dX3_changeSetting_30 : decode cX3_changeSetting 30 = .ok (.getstatic 79, 3) := by decide +kernel
theorem dX3_changeSetting_33 : decode cX3_changeSetting 33 = .ok (.iload_n 1, 1) := by decide +kernel
theorem dX3_changeSetting_34 : decode cX3_changeSetting 34 = .ok (.iaload, 1) := by decide +kernel
theorem dX3_changeSetting_35 : decode cX3_changeSetting 35 = .ok (.if_icmp .le 6, 3) := by decide +kernel
theorem dX3_changeSetting_38 : decode cX3_changeSetting 38 = .ok (.bipush (-2), 2) := by decide +kernel
theorem dX3_changeSetting_40 : decode cX3_changeSetting 40 = .ok (.ireturn, 1) := by decide +kernel
theorem dX3_changeSetting_41 : decode cX3_changeSetting 41 = .ok (.aload_n 0, 1) := by decide +kernel
theorem dX3_changeSetting_42 : decode cX3_changeSetting 42 = .ok (.getfield 9, 3) := by decide +kernel
theorem dX3_changeSetting_45 : decode cX3_changeSetting 45 = .ok (.iload_n 1, 1) := by decide +kernel
theorem dX3_changeSetting_46 : decode cX3_changeSetting 46 = .ok (.iaload, 1) := by decide +kernel
theorem dX3_changeSetting_47 : decode cX3_changeSetting 47 = .ok (.istore_n 3, 1) := by decide +kernel
theorem dX3_changeSetting_48 : decode cX3_changeSetting 48 = .ok (.aload_n 0, 1) := by decide +kernel
theorem dX3_changeSetting_49 : decode cX3_changeSetting 49 = .ok (.getfield 9, 3) := by decide +kernel
theorem dX3_changeSetting_52 : decode cX3_changeSetting 52 = .ok (.iload_n 1, 1) := by decide +kernel
theorem dX3_changeSetting_53 : decode cX3_changeSetting 53 = .ok (.iload_n 2, 1) := by decide +kernel
theorem dX3_changeSetting_54 : decode cX3_changeSetting 54 = .ok (.iastore, 1) := by decide +kernel
theorem dX3_changeSetting_55 : decode cX3_changeSetting 55 = .ok (.iload_n 3, 1) := by decide +kernel
theorem dX3_changeSetting_56 : decode cX3_changeSetting 56 = .ok (.ireturn, 1) := by decide +kernel
theorem dX3_welcome_0 : decode cX3_welcome 0 = .ok (.iload_n 1, 1) := by decide +kernel
theorem dX3_welcome_1 : decode cX3_welcome 1 = .ok (.iconst 1, 1) := by decide +kernel
theorem dX3_welcome_2 : decode cX3_welcome 2 = .ok (.if_icmp .lt 9, 3) := by decide +kernel
theorem dX3_welcome_5 : decode cX3_welcome 5 = .ok (.iload_n 1, 1) := by decide +kernel
theorem dX3_welcome_6 : decode cX3_welcome 6 = .ok (.bipush 30, 2) := by decide +kernel
theorem dX3_welcome_8 : decode cX3_welcome 8 = .ok (.if_icmp .le 6, 3) := by decide +kernel
theorem dX3_welcome_11 : decode cX3_welcome 11 = .ok (.bipush (-2), 2) := by decide +kernel
theorem dX3_welcome_13 : decode cX3_welcome 13 = .ok (.ireturn, 1) := by decide +kernel
theorem dX3_welcome_14 : decode cX3_welcome 14 = .ok (.aload_n 0, 1) := by decide +kernel
theorem dX3_welcome_15 : decode cX3_welcome 15 = .ok (.invokevirtual 82, 3) := by decide +kernel
theorem dX3_welcome_18 : decode cX3_welcome 18 = .ok (.istore_n 2, 1) := by decide +kernel
theorem dX3_welcome_19 : decode cX3_welcome 19 = .ok (.iconst 0, 1) := by decide +kernel
theorem dX3_welcome_20 : decode cX3_welcome 20 = .ok (.istore_n 3, 1) := by decide +kernel
theorem dX3_welcome_21 : decode cX3_welcome 21 = .ok (.iload_n 3, 1) := by decide +kernel
theorem dX3_welcome_22 : decode cX3_welcome 22 = .ok (.bipush 9, 2) := by decide +kernel
theorem dX3_welcome_24 : decode cX3_welcome 24 = .ok (.if_icmp .ge 34, 3) := by decide +kernel
theorem dX3_welcome_27 : decode cX3_welcome 27 = .ok (.aload_n 0, 1) := by decide +kernel
theorem dX3_welcome_28 : decode cX3_welcome 28 = .ok (.getfield 15, 3) := by decide +kernel
theorem dX3_welcome_31 : decode cX3_welcome 31 = .ok (.iload_n 3, 1) := by decide +kernel
theorem dX3_welcome_32 : decode cX3_welcome 32 = .ok (.iaload, 1) := by decide +kernel
theorem dX3_welcome_33 : decode cX3_welcome 33 = .ok (.ifCond .ne 19, 3) := by decide +kernel
theorem dX3_welcome_36 : decode cX3_welcome 36 = .ok (.aload_n 0, 1) := by decide +kernel
theorem dX3_welcome_37 : decode cX3_welcome 37 = .ok (.getfield 15, 3) := by decide +kernel
theorem dX3_welcome_40 : decode cX3_welcome 40 = .ok (.iload_n 3, 1) := by decide +kernel
theorem dX3_welcome_41 : decode cX3_welcome 41 = .ok (.iload_n 1, 1) := by decide +kernel
theorem dX3_welcome_42 : decode cX3_welcome 42 = .ok (.iastore, 1) := by decide +kernel
theorem dX3_welcome_43 : decode cX3_welcome 43 = .ok (.aload_n 0, 1) := by decide +kernel
theorem dX3_welcome_44 : decode cX3_welcome 44 = .ok (.getfield 30, 3) := by decide +kernel
theorem dX3_welcome_47 : decode cX3_welcome 47 = .ok (.iload_n 3, 1) := by decide +kernel
theorem dX3_welcome_48 : decode cX3_welcome 48 = .ok (.iload_n 2, 1) := by decide +kernel
theorem dX3_welcome_49 : decode cX3_welcome 49 = .ok (.iastore, 1) := by decide +kernel
theorem dX3_welcome_50 : decode cX3_welcome 50 = .ok (.iload_n 3, 1) := by decide +kernel
theorem dX3_welcome_51 : decode cX3_welcome 51 = .ok (.ireturn, 1) := by decide +kernel
theorem dX3_welcome_52 : decode cX3_welcome 52 = .ok (.iinc 3 1, 3) := by decide +kernel
theorem dX3_welcome_55 : decode cX3_welcome 55 = .ok (.goto (-34), 3) := by decide +kernel
theorem dX3_welcome_58 : decode cX3_welcome 58 = .ok (.bipush (-4), 2) := by decide +kernel
theorem dX3_welcome_60 : decode cX3_welcome 60 = .ok (.ireturn, 1) := by decide +kernel
theorem dX3_seeOff_0 : decode cX3_seeOff 0 = .ok (.aload_n 0, 1) := by decide +kernel
theorem dX3_seeOff_1 : decode cX3_seeOff 1 = .ok (.iload_n 1, 1) := by decide +kernel
theorem dX3_seeOff_2 : decode cX3_seeOff 2 = .ok (.invokevirtual 85, 3) := by decide +kernel
theorem dX3_seeOff_5 : decode cX3_seeOff 5 = .ok (.ifCond .ne 5, 3) := by decide +kernel
theorem dX3_seeOff_8 : decode cX3_seeOff 8 = .ok (.iconst (-1), 1) := by decide +kernel
theorem dX3_seeOff_9 : decode cX3_seeOff 9 = .ok (.ireturn, 1) := by decide +kernel
theorem dX3_seeOff_10 : decode cX3_seeOff 10 = .ok (.aload_n 0, 1) := by decide +kernel
theorem dX3_seeOff_11 : decode cX3_seeOff 11 = .ok (.getfield 30, 3) := by decide +kernel
theorem dX3_seeOff_14 : decode cX3_seeOff 14 = .ok (.iload_n 1, 1) := by decide +kernel
theorem dX3_seeOff_15 : decode cX3_seeOff 15 = .ok (.iaload, 1) := by decide +kernel
theorem dX3_seeOff_16 : decode cX3_seeOff 16 = .ok (.istore_n 2, 1) := by decide +kernel
theorem dX3_seeOff_17 : decode cX3_seeOff 17 = .ok (.iconst 0, 1) := by decide +kernel
theorem dX3_seeOff_18 : decode cX3_seeOff 18 = .ok (.istore_n 3, 1) := by decide +kernel
theorem dX3_seeOff_19 : decode cX3_seeOff 19 = .ok (.iload_n 3, 1) := by decide +kernel
theorem dX3_seeOff_20 : decode cX3_seeOff 20 = .ok (.bipush 9, 2) := by decide +kernel
theorem dX3_seeOff_22 : decode cX3_seeOff 22 = .ok (.if_icmp .ge 38, 3) := by decide +kernel
theorem dX3_seeOff_25 : decode cX3_seeOff 25 = .ok (.aload_n 0, 1) := by decide +kernel
theorem dX3_seeOff_26 : decode cX3_seeOff 26 = .ok (.getfield 15, 3) := by decide +kernel
theorem dX3_seeOff_29 : decode cX3_seeOff 29 = .ok (.iload_n 3, 1) := by decide +kernel
theorem dX3_seeOff_30 : decode cX3_seeOff 30 = .ok (.iaload, 1) := by decide +kernel
theorem dX3_seeOff_31 : decode cX3_seeOff 31 = .ok (.ifCond .le 23, 3) := by decide +kernel
theorem dX3_seeOff_34 : decode cX3_seeOff 34 = .ok (.aload_n 0, 1) := by decide +kernel
theorem dX3_seeOff_35 : decode cX3_seeOff 35 = .ok (.getfield 30, 3) := by decide +kernel
theorem dX3_seeOff_38 : decode cX3_seeOff 38 = .ok (.iload_n 3, 1) := by decide +kernel
theorem dX3_seeOff_39 : decode cX3_seeOff 39 = .ok (.iaload, 1) := by decide +kernel
theorem dX3_seeOff_40 : decode cX3_seeOff 40 = .ok (.iload_n 2, 1) := by decide +kernel
theorem dX3_seeOff_41 : decode cX3_seeOff 41 = .ok (.if_icmp .le 13, 3) := by decide +kernel
theorem dX3_seeOff_44 : decode cX3_seeOff 44 = .ok (.aload_n 0, 1) := by decide +kernel
theorem dX3_seeOff_45 : decode cX3_seeOff 45 = .ok (.getfield 30, 3) := by decide +kernel
theorem dX3_seeOff_48 : decode cX3_seeOff 48 = .ok (.iload_n 3, 1) := by decide +kernel
theorem dX3_seeOff_49 : decode cX3_seeOff 49 = .ok (.dup2, 1) := by decide +kernel
theorem dX3_seeOff_50 : decode cX3_seeOff 50 = .ok (.iaload, 1) := by decide +kernel
theorem dX3_seeOff_51 : decode cX3_seeOff 51 = .ok (.iconst 1, 1) := by decide +kernel
theorem dX3_seeOff_52 : decode cX3_seeOff 52 = .ok (.isub, 1) := by decide +kernel
theorem dX3_seeOff_53 : decode cX3_seeOff 53 = .ok (.iastore, 1) := by decide +kernel
theorem dX3_seeOff_54 : decode cX3_seeOff 54 = .ok (.iinc 3 1, 3) := by decide +kernel
theorem dX3_seeOff_57 : decode cX3_seeOff 57 = .ok (.goto (-38), 3) := by decide +kernel
theorem dX3_seeOff_60 : decode cX3_seeOff 60 = .ok (.aload_n 0, 1) := by decide +kernel
theorem dX3_seeOff_61 : decode cX3_seeOff 61 = .ok (.getfield 36, 3) := by decide +kernel
theorem dX3_seeOff_64 : decode cX3_seeOff 64 = .ok (.iload_n 1, 1) := by decide +kernel
theorem dX3_seeOff_65 : decode cX3_seeOff 65 = .ok (.invokevirtual 89, 3) := by decide +kernel
theorem dX3_seeOff_68 : decode cX3_seeOff 68 = .ok (.aload_n 0, 1) := by decide +kernel
theorem dX3_seeOff_69 : decode cX3_seeOff 69 = .ok (.getfield 15, 3) := by decide +kernel
theorem dX3_seeOff_72 : decode cX3_seeOff 72 = .ok (.iload_n 1, 1) := by decide +kernel
theorem dX3_seeOff_73 : decode cX3_seeOff 73 = .ok (.iconst 0, 1) := by decide +kernel
theorem dX3_seeOff_74 : decode cX3_seeOff 74 = .ok (.iastore, 1) := by decide +kernel
theorem dX3_seeOff_75 : decode cX3_seeOff 75 = .ok (.aload_n 0, 1) := by decide +kernel
theorem dX3_seeOff_76 : decode cX3_seeOff 76 = .ok (.getfield 18, 3) := by decide +kernel
theorem dX3_seeOff_79 : decode cX3_seeOff 79 = .ok (.iload_n 1, 1) := by decide +kernel
theorem dX3_seeOff_80 : decode cX3_seeOff 80 = .ok (.iconst 0, 1) := by decide +kernel
theorem dX3_seeOff_81 : decode cX3_seeOff 81 = .ok (.iastore, 1) := by decide +kernel
theorem dX3_seeOff_82 : decode cX3_seeOff 82 = .ok (.aload_n 0, 1) := by decide +kernel
theorem dX3_seeOff_83 : decode cX3_seeOff 83 = .ok (.getfield 21, 3) := by decide +kernel
theorem dX3_seeOff_86 : decode cX3_seeOff 86 = .ok (.iload_n 1, 1) := by decide +kernel
theorem dX3_seeOff_87 : decode cX3_seeOff 87 = .ok (.iconst 0, 1) := by decide +kernel
theorem dX3_seeOff_88 : decode cX3_seeOff 88 = .ok (.iastore, 1) := by decide +kernel
theorem dX3_seeOff_89 : decode cX3_seeOff 89 = .ok (.aload_n 0, 1) := by decide +kernel
theorem dX3_seeOff_90 : decode cX3_seeOff 90 = .ok (.getfield 24, 3) := by decide +kernel
theorem dX3_seeOff_93 : decode cX3_seeOff 93 = .ok (.iload_n 1, 1) := by decide +kernel
theorem dX3_seeOff_94 : decode cX3_seeOff 94 = .ok (.iconst 0, 1) := by decide +kernel
theorem dX3_seeOff_95 : decode cX3_seeOff 95 = .ok (.iastore, 1) := by decide +kernel
theorem dX3_seeOff_96 : decode cX3_seeOff 96 = .ok (.aload_n 0, 1) := by decide +kernel
theorem dX3_seeOff_97 : decode cX3_seeOff 97 = .ok (.getfield 27, 3) := by decide +kernel
theorem dX3_seeOff_100 : decode cX3_seeOff 100 = .ok (.iload_n 1, 1) := by decide +kernel
theorem dX3_seeOff_101 : decode cX3_seeOff 101 = .ok (.iconst 0, 1) := by decide +kernel
theorem dX3_seeOff_102 : decode cX3_seeOff 102 = .ok (.iastore, 1) := by decide +kernel
theorem dX3_seeOff_103 : decode cX3_seeOff 103 = .ok (.aload_n 0, 1) := by decide +kernel
theorem dX3_seeOff_104 : decode cX3_seeOff 104 = .ok (.getfield 30, 3) := by decide +kernel
theorem dX3_seeOff_107 : decode cX3_seeOff 107 = .ok (.iload_n 1, 1) := by decide +kernel
theorem dX3_seeOff_108 : decode cX3_seeOff 108 = .ok (.iconst 0, 1) := by decide +kernel
theorem dX3_seeOff_109 : decode cX3_seeOff 109 = .ok (.iastore, 1) := by decide +kernel
theorem dX3_seeOff_110 : decode cX3_seeOff 110 = .ok (.iload_n 2, 1) := by decide +kernel
theorem dX3_seeOff_111 : decode cX3_seeOff 111 = .ok (.ireturn, 1) := by decide +kernel
theorem dX3_hearWord_0 : decode cX3_hearWord 0 = .ok (.aload_n 0, 1) := by decide +kernel
theorem dX3_hearWord_1 : decode cX3_hearWord 1 = .ok (.iload_n 1, 1) := by decide +kernel
theorem dX3_hearWord_2 : decode cX3_hearWord 2 = .ok (.invokevirtual 85, 3) := by decide +kernel
theorem dX3_hearWord_5 : decode cX3_hearWord 5 = .ok (.ifCond .ne 5, 3) := by decide +kernel
theorem dX3_hearWord_8 : decode cX3_hearWord 8 = .ok (.iconst (-1), 1) := by decide +kernel
theorem dX3_hearWord_9 : decode cX3_hearWord 9 = .ok (.ireturn, 1) := by decide +kernel
theorem dX3_hearWord_10 : decode cX3_hearWord 10 = .ok (.aload_n 0, 1) := by decide +kernel
theorem dX3_hearWord_11 : decode cX3_hearWord 11 = .ok (.getfield 18, 3) := by decide +kernel
theorem dX3_hearWord_14 : decode cX3_hearWord 14 = .ok (.iload_n 1, 1) := by decide +kernel
theorem dX3_hearWord_15 : decode cX3_hearWord 15 = .ok (.iaload, 1) := by decide +kernel
theorem dX3_hearWord_16 : decode cX3_hearWord 16 = .ok (.istore_n 2, 1) := by decide +kernel
theorem dX3_hearWord_17 : decode cX3_hearWord 17 = .ok (.aload_n 0, 1) := by decide +kernel
theorem dX3_hearWord_18 : decode cX3_hearWord 18 = .ok (.getfield 18, 3) := by decide +kernel
theorem dX3_hearWord_21 : decode cX3_hearWord 21 = .ok (.iload_n 1, 1) := by decide +kernel
theorem dX3_hearWord_22 : decode cX3_hearWord 22 = .ok (.iconst 0, 1) := by decide +kernel
theorem dX3_hearWord_23 : decode cX3_hearWord 23 = .ok (.iastore, 1) := by decide +kernel
theorem dX3_hearWord_24 : decode cX3_hearWord 24 = .ok (.aload_n 0, 1) := by decide +kernel
theorem dX3_hearWord_25 : decode cX3_hearWord 25 = .ok (.getfield 27, 3) := by decide +kernel
theorem dX3_hearWord_28 : decode cX3_hearWord 28 = .ok (.iload_n 1, 1) := by decide +kernel
theorem dX3_hearWord_29 : decode cX3_hearWord 29 = .ok (.dup2, 1) := by decide +kernel
theorem dX3_hearWord_30 : decode cX3_hearWord 30 = .ok (.iaload, 1) := by decide +kernel
theorem dX3_hearWord_31 : decode cX3_hearWord 31 = .ok (.iconst 1, 1) := by decide +kernel
theorem dX3_hearWord_32 : decode cX3_hearWord 32 = .ok (.iadd, 1) := by decide +kernel
theorem dX3_hearWord_33 : decode cX3_hearWord 33 = .ok (.iastore, 1) := by decide +kernel
theorem dX3_hearWord_34 : decode cX3_hearWord 34 = .ok (.aload_n 0, 1) := by decide +kernel
theorem dX3_hearWord_35 : decode cX3_hearWord 35 = .ok (.dup, 1) := by decide +kernel
theorem dX3_hearWord_36 : decode cX3_hearWord 36 = .ok (.getfield 63, 3) := by decide +kernel
theorem dX3_hearWord_39 : decode cX3_hearWord 39 = .ok (.iconst 1, 1) := by decide +kernel
theorem dX3_hearWord_40 : decode cX3_hearWord 40 = .ok (.iadd, 1) := by decide +kernel
theorem dX3_hearWord_41 : decode cX3_hearWord 41 = .ok (.putfield 63, 3) := by decide +kernel
theorem dX3_hearWord_44 : decode cX3_hearWord 44 = .ok (.iload_n 2, 1) := by decide +kernel
theorem dX3_hearWord_45 : decode cX3_hearWord 45 = .ok (.ireturn, 1) := by decide +kernel
theorem dX3_errorOfPair_0 : decode cX3_errorOfPair 0 = .ok (.aload_n 0, 1) := by decide +kernel
theorem dX3_errorOfPair_1 : decode cX3_errorOfPair 1 = .ok (.iload_n 1, 1) := by decide +kernel
theorem dX3_errorOfPair_2 : decode cX3_errorOfPair 2 = .ok (.invokevirtual 85, 3) := by decide +kernel
theorem dX3_errorOfPair_5 : decode cX3_errorOfPair 5 = .ok (.ifCond .eq 11, 3) := by decide +kernel
theorem dX3_errorOfPair_8 : decode cX3_errorOfPair 8 = .ok (.aload_n 0, 1) := by decide +kernel
theorem dX3_errorOfPair_9 : decode cX3_errorOfPair 9 = .ok (.iload_n 2, 1) := by decide +kernel
theorem dX3_errorOfPair_10 : decode cX3_errorOfPair 10 = .ok (.invokevirtual 85, 3) := by decide +kernel
theorem dX3_errorOfPair_13 : decode cX3_errorOfPair 13 = .ok (.ifCond .ne 5, 3) := by decide +kernel
theorem dX3_errorOfPair_16 : decode cX3_errorOfPair 16 = .ok (.iconst (-1), 1) := by decide +kernel
theorem dX3_errorOfPair_17 : decode cX3_errorOfPair 17 = .ok (.ireturn, 1) := by decide +kernel
theorem dX3_errorOfPair_18 : decode cX3_errorOfPair 18 = .ok (.iload_n 1, 1) := by decide +kernel
theorem dX3_errorOfPair_19 : decode cX3_errorOfPair 19 = .ok (.iload_n 2, 1) := by decide +kernel
theorem dX3_errorOfPair_20 : decode cX3_errorOfPair 20 = .ok (.if_icmp .ne 8, 3) := by decide +kernel
theorem dX3_errorOfPair_23 : decode cX3_errorOfPair 23 = .ok (.bipush (-2), 2) := by decide +kernel
theorem dX3_errorOfPair_25 : decode cX3_errorOfPair 25 = .ok (.goto 4, 3) := by decide +kernel
theorem dX3_errorOfPair_28 : decode cX3_errorOfPair 28 = .ok (.iconst 0, 1) := by decide +kernel
theorem dX3_errorOfPair_29 : decode cX3_errorOfPair 29 = .ok (.ireturn, 1) := by decide +kernel
theorem dX3_makeBow_0 : decode cX3_makeBow 0 = .ok (.aload_n 0, 1) := by decide +kernel
theorem dX3_makeBow_1 : decode cX3_makeBow 1 = .ok (.iload_n 1, 1) := by decide +kernel
theorem dX3_makeBow_2 : decode cX3_makeBow 2 = .ok (.iload_n 2, 1) := by decide +kernel
theorem dX3_makeBow_3 : decode cX3_makeBow 3 = .ok (.invokevirtual 93, 3) := by decide +kernel
theorem dX3_makeBow_6 : decode cX3_makeBow 6 = .ok (.istore_n 3, 1) := by decide +kernel
theorem dX3_makeBow_7 : decode cX3_makeBow 7 = .ok (.iload_n 3, 1) := by decide +kernel
theorem dX3_makeBow_8 : decode cX3_makeBow 8 = .ok (.ifCond .ge 5, 3) := by decide +kernel
theorem dX3_makeBow_11 : decode cX3_makeBow 11 = .ok (.iload_n 3, 1) := by decide +kernel
theorem dX3_makeBow_12 : decode cX3_makeBow 12 = .ok (.ireturn, 1) := by decide +kernel
theorem dX3_makeBow_13 : decode cX3_makeBow 13 = .ok (.aload_n 0, 1) := by decide +kernel
theorem dX3_makeBow_14 : decode cX3_makeBow 14 = .ok (.getfield 36, 3) := by decide +kernel
theorem dX3_makeBow_17 : decode cX3_makeBow 17 = .ok (.iload_n 1, 1) := by decide +kernel
theorem dX3_makeBow_18 : decode cX3_makeBow 18 = .ok (.iload_n 2, 1) := by decide +kernel
theorem dX3_makeBow_19 : decode cX3_makeBow 19 = .ok (.invokevirtual 97, 3) := by decide +kernel
theorem dX3_makeBow_22 : decode cX3_makeBow 22 = .ok (.ifCond .eq 15, 3) := by decide +kernel
theorem dX3_makeBow_25 : decode cX3_makeBow 25 = .ok (.aload_n 0, 1) := by decide +kernel
theorem dX3_makeBow_26 : decode cX3_makeBow 26 = .ok (.getfield 36, 3) := by decide +kernel
theorem dX3_makeBow_29 : decode cX3_makeBow 29 = .ok (.iload_n 1, 1) := by decide +kernel
theorem dX3_makeBow_30 : decode cX3_makeBow 30 = .ok (.iload_n 2, 1) := by decide +kernel
theorem dX3_makeBow_31 : decode cX3_makeBow 31 = .ok (.invokevirtual 101, 3) := by decide +kernel
theorem dX3_makeBow_34 : decode cX3_makeBow 34 = .ok (.goto 5, 3) := by decide +kernel
theorem dX3_makeBow_37 : decode cX3_makeBow 37 = .ok (.bipush (-5), 2) := by decide +kernel
theorem dX3_makeBow_39 : decode cX3_makeBow 39 = .ok (.ireturn, 1) := by decide +kernel
theorem dX3_offerCup_0 : decode cX3_offerCup 0 = .ok (.aload_n 0, 1) := by decide +kernel
theorem dX3_offerCup_1 : decode cX3_offerCup 1 = .ok (.iload_n 1, 1) := by decide +kernel
theorem dX3_offerCup_2 : decode cX3_offerCup 2 = .ok (.iload_n 2, 1) := by decide +kernel
theorem dX3_offerCup_3 : decode cX3_offerCup 3 = .ok (.invokevirtual 93, 3) := by decide +kernel
theorem dX3_offerCup_6 : decode cX3_offerCup 6 = .ok (.istore_n 3, 1) := by decide +kernel
theorem dX3_offerCup_7 : decode cX3_offerCup 7 = .ok (.iload_n 3, 1) := by decide +kernel
theorem dX3_offerCup_8 : decode cX3_offerCup 8 = .ok (.ifCond .ge 5, 3) := by decide +kernel
theorem dX3_offerCup_11 : decode cX3_offerCup 11 = .ok (.iload_n 3, 1) := by decide +kernel
theorem dX3_offerCup_12 : decode cX3_offerCup 12 = .ok (.ireturn, 1) := by decide +kernel
theorem dX3_offerCup_13 : decode cX3_offerCup 13 = .ok (.aload_n 0, 1) := by decide +kernel
theorem dX3_offerCup_14 : decode cX3_offerCup 14 = .ok (.iload_n 2, 1) := by decide +kernel
theorem dX3_offerCup_15 : decode cX3_offerCup 15 = .ok (.invokevirtual 104, 3) := by decide +kernel
theorem dX3_offerCup_18 : decode cX3_offerCup 18 = .ok (.ifCond .ne 20, 3) := by decide +kernel
theorem dX3_offerCup_21 : decode cX3_offerCup 21 = .ok (.aload_n 0, 1) := by decide +kernel
theorem dX3_offerCup_22 : decode cX3_offerCup 22 = .ok (.getfield 53, 3) := by decide +kernel
theorem dX3_offerCup_25 : decode cX3_offerCup 25 = .ok (.aload_n 0, 1) := by decide +kernel
theorem dX3_offerCup_26 : decode cX3_offerCup 26 = .ok (.getfield 9, 3) := by decide +kernel
theorem dX3_offerCup_29 : decode cX3_offerCup 29 = .ok (.iconst 0, 1) := by decide +kernel
theorem dX3_offerCup_30 : decode cX3_offerCup 30 = .ok (.iaload, 1) := by decide +kernel
theorem dX3_offerCup_31 : decode cX3_offerCup 31 = .ok (.iadd, 1) := by decide +kernel
theorem dX3_offerCup_32 : decode cX3_offerCup 32 = .ok (.sipush 9999, 3) := by decide +kernel
theorem dX3_offerCup_35 : decode cX3_offerCup 35 = .ok (.if_icmp .le 6, 3) := by decide +kernel
theorem dX3_offerCup_38 : decode cX3_offerCup 38 = .ok (.bipush (-5), 2) := by decide +kernel
theorem dX3_offerCup_40 : decode cX3_offerCup 40 = .ok (.ireturn, 1) := by decide +kernel
theorem dX3_offerCup_41 : decode cX3_offerCup 41 = .ok (.aload_n 0, 1) := by decide +kernel
theorem dX3_offerCup_42 : decode cX3_offerCup 42 = .ok (.iload_n 2, 1) := by decide +kernel
theorem dX3_offerCup_43 : decode cX3_offerCup 43 = .ok (.invokevirtual 107, 3) := by decide +kernel
theorem dX3_offerCup_46 : decode cX3_offerCup 46 = .ok (.aload_n 0, 1) := by decide +kernel
theorem dX3_offerCup_47 : decode cX3_offerCup 47 = .ok (.getfield 36, 3) := by decide +kernel
theorem dX3_offerCup_50 : decode cX3_offerCup 50 = .ok (.iload_n 2, 1) := by decide +kernel
theorem dX3_offerCup_51 : decode cX3_offerCup 51 = .ok (.iload_n 1, 1) := by decide +kernel
theorem dX3_offerCup_52 : decode cX3_offerCup 52 = .ok (.iconst 2, 1) := by decide +kernel
theorem dX3_offerCup_53 : decode cX3_offerCup 53 = .ok (.invokevirtual 110, 3) := by decide +kernel
theorem dX3_offerCup_56 : decode cX3_offerCup 56 = .ok (.aload_n 0, 1) := by decide +kernel
theorem dX3_offerCup_57 : decode cX3_offerCup 57 = .ok (.getfield 36, 3) := by decide +kernel
theorem dX3_offerCup_60 : decode cX3_offerCup 60 = .ok (.iload_n 1, 1) := by decide +kernel
theorem dX3_offerCup_61 : decode cX3_offerCup 61 = .ok (.iload_n 2, 1) := by decide +kernel
theorem dX3_offerCup_62 : decode cX3_offerCup 62 = .ok (.invokevirtual 114, 3) := by decide +kernel
theorem dX3_offerCup_65 : decode cX3_offerCup 65 = .ok (.aload_n 0, 1) := by decide +kernel
theorem dX3_offerCup_66 : decode cX3_offerCup 66 = .ok (.getfield 36, 3) := by decide +kernel
theorem dX3_offerCup_69 : decode cX3_offerCup 69 = .ok (.iload_n 2, 1) := by decide +kernel
theorem dX3_offerCup_70 : decode cX3_offerCup 70 = .ok (.iload_n 1, 1) := by decide +kernel
theorem dX3_offerCup_71 : decode cX3_offerCup 71 = .ok (.invokevirtual 101, 3) := by decide +kernel
theorem dX3_offerCup_74 : decode cX3_offerCup 74 = .ok (.ireturn, 1) := by decide +kernel
theorem dX3_breatheOn_0 : decode cX3_breatheOn 0 = .ok (.iload_n 1, 1) := by decide +kernel
theorem dX3_breatheOn_1 : decode cX3_breatheOn 1 = .ok (.iconst 1, 1) := by decide +kernel
theorem dX3_breatheOn_2 : decode cX3_breatheOn 2 = .ok (.if_icmp .lt 9, 3) := by decide +kernel
theorem dX3_breatheOn_5 : decode cX3_breatheOn 5 = .ok (.iload_n 1, 1) := by decide +kernel
theorem dX3_breatheOn_6 : decode cX3_breatheOn 6 = .ok (.bipush 99, 2) := by decide +kernel
theorem dX3_breatheOn_8 : decode cX3_breatheOn 8 = .ok (.if_icmp .le 6, 3) := by decide +kernel
theorem dX3_breatheOn_11 : decode cX3_breatheOn 11 = .ok (.bipush (-2), 2) := by decide +kernel
theorem dX3_breatheOn_13 : decode cX3_breatheOn 13 = .ok (.ireturn, 1) := by decide +kernel
theorem dX3_breatheOn_14 : decode cX3_breatheOn 14 = .ok (.aload_n 0, 1) := by decide +kernel
theorem dX3_breatheOn_15 : decode cX3_breatheOn 15 = .ok (.getfield 53, 3) := by decide +kernel
theorem dX3_breatheOn_18 : decode cX3_breatheOn 18 = .ok (.iload_n 1, 1) := by decide +kernel
theorem dX3_breatheOn_19 : decode cX3_breatheOn 19 = .ok (.iadd, 1) := by decide +kernel
theorem dX3_breatheOn_20 : decode cX3_breatheOn 20 = .ok (.sipush 9999, 3) := by decide +kernel
theorem dX3_breatheOn_23 : decode cX3_breatheOn 23 = .ok (.if_icmp .le 8, 3) := by decide +kernel
theorem dX3_breatheOn_26 : decode cX3_breatheOn 26 = .ok (.bipush (-5), 2) := by decide +kernel
theorem dX3_breatheOn_28 : decode cX3_breatheOn 28 = .ok (.goto 8, 3) := by decide +kernel
theorem dX3_breatheOn_31 : decode cX3_breatheOn 31 = .ok (.aload_n 0, 1) := by decide +kernel
theorem dX3_breatheOn_32 : decode cX3_breatheOn 32 = .ok (.iload_n 1, 1) := by decide +kernel
theorem dX3_breatheOn_33 : decode cX3_breatheOn 33 = .ok (.invokevirtual 118, 3) := by decide +kernel
theorem dX3_breatheOn_36 : decode cX3_breatheOn 36 = .ok (.ireturn, 1) := by decide +kernel
theorem dX3_holdRound_0 : decode cX3_holdRound 0 = .ok (.aload_n 0, 1) := by decide +kernel
theorem dX3_holdRound_1 : decode cX3_holdRound 1 = .ok (.invokevirtual 82, 3) := by decide +kernel
theorem dX3_holdRound_4 : decode cX3_holdRound 4 = .ok (.ifCond .eq 13, 3) := by decide +kernel
theorem dX3_holdRound_7 : decode cX3_holdRound 7 = .ok (.aload_n 0, 1) := by decide +kernel
theorem dX3_holdRound_8 : decode cX3_holdRound 8 = .ok (.getfield 53, 3) := by decide +kernel
theorem dX3_holdRound_11 : decode cX3_holdRound 11 = .ok (.sipush 9900, 3) := by decide +kernel
theorem dX3_holdRound_14 : decode cX3_holdRound 14 = .ok (.if_icmp .le 6, 3) := by decide +kernel
theorem dX3_holdRound_17 : decode cX3_holdRound 17 = .ok (.bipush (-5), 2) := by decide +kernel
theorem dX3_holdRound_19 : decode cX3_holdRound 19 = .ok (.ireturn, 1) := by decide +kernel
theorem dX3_holdRound_20 : decode cX3_holdRound 20 = .ok (.aload_n 0, 1) := by decide +kernel
theorem dX3_holdRound_21 : decode cX3_holdRound 21 = .ok (.invokevirtual 121, 3) := by decide +kernel
theorem dX3_holdRound_24 : decode cX3_holdRound 24 = .ok (.istore_n 1, 1) := by decide +kernel
theorem dX3_holdRound_25 : decode cX3_holdRound 25 = .ok (.aload_n 0, 1) := by decide +kernel
theorem dX3_holdRound_26 : decode cX3_holdRound 26 = .ok (.invokevirtual 124, 3) := by decide +kernel
theorem dX3_holdRound_29 : decode cX3_holdRound 29 = .ok (.pop, 1) := by decide +kernel
theorem dX3_holdRound_30 : decode cX3_holdRound 30 = .ok (.aload_n 0, 1) := by decide +kernel
theorem dX3_holdRound_31 : decode cX3_holdRound 31 = .ok (.dup, 1) := by decide +kernel
theorem dX3_holdRound_32 : decode cX3_holdRound 32 = .ok (.getfield 57, 3) := by decide +kernel
theorem dX3_holdRound_35 : decode cX3_holdRound 35 = .ok (.iconst 1, 1) := by decide +kernel
theorem dX3_holdRound_36 : decode cX3_holdRound 36 = .ok (.iadd, 1) := by decide +kernel
theorem dX3_holdRound_37 : decode cX3_holdRound 37 = .ok (.putfield 57, 3) := by decide +kernel
theorem dX3_holdRound_40 : decode cX3_holdRound 40 = .ok (.iload_n 1, 1) := by decide +kernel
theorem dX3_holdRound_41 : decode cX3_holdRound 41 = .ok (.ireturn, 1) := by decide +kernel
theorem dX3_seatByRank_0 : decode cX3_seatByRank 0 = .ok (.iconst 0, 1) := by decide +kernel
theorem dX3_seatByRank_1 : decode cX3_seatByRank 1 = .ok (.istore_n 1, 1) := by decide +kernel
theorem dX3_seatByRank_2 : decode cX3_seatByRank 2 = .ok (.iload_n 1, 1) := by decide +kernel
theorem dX3_seatByRank_3 : decode cX3_seatByRank 3 = .ok (.bipush 9, 2) := by decide +kernel
theorem dX3_seatByRank_5 : decode cX3_seatByRank 5 = .ok (.if_icmp .ge 20, 3) := by decide +kernel
theorem dX3_seatByRank_8 : decode cX3_seatByRank 8 = .ok (.aload_n 0, 1) := by decide +kernel
theorem dX3_seatByRank_9 : decode cX3_seatByRank 9 = .ok (.getfield 40, 3) := by decide +kernel
theorem dX3_seatByRank_12 : decode cX3_seatByRank 12 = .ok (.iload_n 1, 1) := by decide +kernel
theorem dX3_seatByRank_13 : decode cX3_seatByRank 13 = .ok (.aload_n 0, 1) := by decide +kernel
theorem dX3_seatByRank_14 : decode cX3_seatByRank 14 = .ok (.iload_n 1, 1) := by decide +kernel
theorem dX3_seatByRank_15 : decode cX3_seatByRank 15 = .ok (.invokevirtual 127, 3) := by decide +kernel
theorem dX3_seatByRank_18 : decode cX3_seatByRank 18 = .ok (.iastore, 1) := by decide +kernel
theorem dX3_seatByRank_19 : decode cX3_seatByRank 19 = .ok (.iinc 1 1, 3) := by decide +kernel
theorem dX3_seatByRank_22 : decode cX3_seatByRank 22 = .ok (.goto (-20), 3) := by decide +kernel
theorem dX3_seatByRank_25 : decode cX3_seatByRank 25 = .ok (.iconst 0, 1) := by decide +kernel
theorem dX3_seatByRank_26 : decode cX3_seatByRank 26 = .ok (.istore_n 1, 1) := by decide +kernel
theorem dX3_seatByRank_27 : decode cX3_seatByRank 27 = .ok (.iconst 0, 1) := by decide +kernel
theorem dX3_seatByRank_28 : decode cX3_seatByRank 28 = .ok (.istore_n 2, 1) := by decide +kernel
theorem dX3_seatByRank_29 : decode cX3_seatByRank 29 = .ok (.iload_n 2, 1) := by decide +kernel
theorem dX3_seatByRank_30 : decode cX3_seatByRank 30 = .ok (.bipush 9, 2) := by decide +kernel
theorem dX3_seatByRank_32 : decode cX3_seatByRank 32 = .ok (.if_icmp .ge 48, 3) := by decide +kernel
theorem dX3_seatByRank_35 : decode cX3_seatByRank 35 = .ok (.aload_n 0, 1) := by decide +kernel
theorem dX3_seatByRank_36 : decode cX3_seatByRank 36 = .ok (.getfield 15, 3) := by decide +kernel
theorem dX3_seatByRank_39 : decode cX3_seatByRank 39 = .ok (.iload_n 2, 1) := by decide +kernel
theorem dX3_seatByRank_40 : decode cX3_seatByRank 40 = .ok (.iaload, 1) := by decide +kernel
theorem dX3_seatByRank_41 : decode cX3_seatByRank 41 = .ok (.ifCond .le 33, 3) := by decide +kernel
theorem dX3_seatByRank_44 : decode cX3_seatByRank 44 = .ok (.aload_n 0, 1) := by decide +kernel
theorem dX3_seatByRank_45 : decode cX3_seatByRank 45 = .ok (.getfield 30, 3) := by decide +kernel
theorem dX3_seatByRank_48 : decode cX3_seatByRank 48 = .ok (.iload_n 2, 1) := by decide +kernel
theorem dX3_seatByRank_49 : decode cX3_seatByRank 49 = .ok (.iaload, 1) := by decide +kernel
theorem dX3_seatByRank_50 : decode cX3_seatByRank 50 = .ok (.aload_n 0, 1) := by decide +kernel
theorem dX3_seatByRank_51 : decode cX3_seatByRank 51 = .ok (.getfield 40, 3) := by decide +kernel
theorem dX3_seatByRank_54 : decode cX3_seatByRank 54 = .ok (.iload_n 2, 1) := by decide +kernel
theorem dX3_seatByRank_55 : decode cX3_seatByRank 55 = .ok (.iaload, 1) := by decide +kernel
theorem dX3_seatByRank_56 : decode cX3_seatByRank 56 = .ok (.if_icmp .eq 18, 3) := by decide +kernel
theorem dX3_seatByRank_59 : decode cX3_seatByRank 59 = .ok (.aload_n 0, 1) := by decide +kernel
theorem dX3_seatByRank_60 : decode cX3_seatByRank 60 = .ok (.getfield 30, 3) := by decide +kernel
theorem dX3_seatByRank_63 : decode cX3_seatByRank 63 = .ok (.iload_n 2, 1) := by decide +kernel
theorem dX3_seatByRank_64 : decode cX3_seatByRank 64 = .ok (.aload_n 0, 1) := by decide +kernel
theorem dX3_seatByRank_65 : decode cX3_seatByRank 65 = .ok (.getfield 40, 3) := by decide +kernel
theorem dX3_seatByRank_68 : decode cX3_seatByRank 68 = .ok (.iload_n 2, 1) := by decide +kernel
theorem dX3_seatByRank_69 : decode cX3_seatByRank 69 = .ok (.iaload, 1) := by decide +kernel
theorem dX3_seatByRank_70 : decode cX3_seatByRank 70 = .ok (.iastore, 1) := by decide +kernel
theorem dX3_seatByRank_71 : decode cX3_seatByRank 71 = .ok (.iinc 1 1, 3) := by decide +kernel
theorem dX3_seatByRank_74 : decode cX3_seatByRank 74 = .ok (.iinc 2 1, 3) := by decide +kernel
theorem dX3_seatByRank_77 : decode cX3_seatByRank 77 = .ok (.goto (-48), 3) := by decide +kernel
theorem dX3_seatByRank_80 : decode cX3_seatByRank 80 = .ok (.iload_n 1, 1) := by decide +kernel
theorem dX3_seatByRank_81 : decode cX3_seatByRank 81 = .ok (.ireturn, 1) := by decide +kernel
theorem dX3_handCupOn_0 : decode cX3_handCupOn 0 = .ok (.iconst 0, 1) := by decide +kernel
theorem dX3_handCupOn_1 : decode cX3_handCupOn 1 = .ok (.istore_n 1, 1) := by decide +kernel
theorem dX3_handCupOn_2 : decode cX3_handCupOn 2 = .ok (.iconst (-1), 1) := by decide +kernel
theorem dX3_handCupOn_3 : decode cX3_handCupOn 3 = .ok (.istore_n 2, 1) := by decide +kernel
theorem dX3_handCupOn_4 : decode cX3_handCupOn 4 = .ok (.aload_n 0, 1) := by decide +kernel
theorem dX3_handCupOn_5 : decode cX3_handCupOn 5 = .ok (.invokevirtual 82, 3) := by decide +kernel
theorem dX3_handCupOn_8 : decode cX3_handCupOn 8 = .ok (.istore_n 3, 1) := by decide +kernel
theorem dX3_handCupOn_9 : decode cX3_handCupOn 9 = .ok (.iconst 0, 1) := by decide +kernel
theorem dX3_handCupOn_10 : decode cX3_handCupOn 10 = .ok (.istore 4, 2) := by decide +kernel
theorem dX3_handCupOn_12 : decode cX3_handCupOn 12 = .ok (.iload 4, 2) := by decide +kernel
theorem dX3_handCupOn_14 : decode cX3_handCupOn 14 = .ok (.iload_n 3, 1) := by decide +kernel
theorem dX3_handCupOn_15 : decode cX3_handCupOn 15 = .ok (.if_icmp .ge 66, 3) := by decide +kernel
theorem dX3_handCupOn_18 : decode cX3_handCupOn 18 = .ok (.aload_n 0, 1) := by decide +kernel
theorem dX3_handCupOn_19 : decode cX3_handCupOn 19 = .ok (.iload 4, 2) := by decide +kernel
theorem dX3_handCupOn_21 : decode cX3_handCupOn 21 = .ok (.invokevirtual 130, 3) := by decide +kernel
theorem dX3_handCupOn_24 : decode cX3_handCupOn 24 = .ok (.istore 5, 2) := by decide +kernel
theorem dX3_handCupOn_26 : decode cX3_handCupOn 26 = .ok (.aload_n 0, 1) := by decide +kernel
theorem dX3_handCupOn_27 : decode cX3_handCupOn 27 = .ok (.iload 5, 2) := by decide +kernel
theorem dX3_handCupOn_29 : decode cX3_handCupOn 29 = .ok (.invokevirtual 85, 3) := by decide +kernel
theorem dX3_handCupOn_32 : decode cX3_handCupOn 32 = .ok (.ifCond .eq 43, 3) := by decide +kernel
theorem dX3_handCupOn_35 : decode cX3_handCupOn 35 = .ok (.aload_n 0, 1) := by decide +kernel
theorem dX3_handCupOn_36 : decode cX3_handCupOn 36 = .ok (.iload 5, 2) := by decide +kernel
theorem dX3_handCupOn_38 : decode cX3_handCupOn 38 = .ok (.invokevirtual 104, 3) := by decide +kernel
theorem dX3_handCupOn_41 : decode cX3_handCupOn 41 = .ok (.ifCond .ne 34, 3) := by decide +kernel
theorem dX3_handCupOn_44 : decode cX3_handCupOn 44 = .ok (.aload_n 0, 1) := by decide +kernel
theorem dX3_handCupOn_45 : decode cX3_handCupOn 45 = .ok (.iload 5, 2) := by decide +kernel
theorem dX3_handCupOn_47 : decode cX3_handCupOn 47 = .ok (.invokevirtual 107, 3) := by decide +kernel
theorem dX3_handCupOn_50 : decode cX3_handCupOn 50 = .ok (.aload_n 0, 1) := by decide +kernel
theorem dX3_handCupOn_51 : decode cX3_handCupOn 51 = .ok (.iload_n 2, 1) := by decide +kernel
theorem dX3_handCupOn_52 : decode cX3_handCupOn 52 = .ok (.invokevirtual 85, 3) := by decide +kernel
theorem dX3_handCupOn_55 : decode cX3_handCupOn 55 = .ok (.ifCond .eq 14, 3) := by decide +kernel
theorem dX3_handCupOn_58 : decode cX3_handCupOn 58 = .ok (.aload_n 0, 1) := by decide +kernel
theorem dX3_handCupOn_59 : decode cX3_handCupOn 59 = .ok (.getfield 36, 3) := by decide +kernel
theorem dX3_handCupOn_62 : decode cX3_handCupOn 62 = .ok (.iload 5, 2) := by decide +kernel
theorem dX3_handCupOn_64 : decode cX3_handCupOn 64 = .ok (.iload_n 2, 1) := by decide +kernel
theorem dX3_handCupOn_65 : decode cX3_handCupOn 65 = .ok (.iconst 1, 1) := by decide +kernel
theorem dX3_handCupOn_66 : decode cX3_handCupOn 66 = .ok (.invokevirtual 110, 3) := by decide +kernel
theorem dX3_handCupOn_69 : decode cX3_handCupOn 69 = .ok (.iload 5, 2) := by decide +kernel
theorem dX3_handCupOn_71 : decode cX3_handCupOn 71 = .ok (.istore_n 2, 1) := by decide +kernel
theorem dX3_handCupOn_72 : decode cX3_handCupOn 72 = .ok (.iinc 1 1, 3) := by decide +kernel
theorem dX3_handCupOn_75 : decode cX3_handCupOn 75 = .ok (.iinc 4 1, 3) := by decide +kernel
theorem dX3_handCupOn_78 : decode cX3_handCupOn 78 = .ok (.goto (-66), 3) := by decide +kernel
theorem dX3_handCupOn_81 : decode cX3_handCupOn 81 = .ok (.iload_n 1, 1) := by decide +kernel
theorem dX3_handCupOn_82 : decode cX3_handCupOn 82 = .ok (.ireturn, 1) := by decide +kernel
theorem dX3_drink_0 : decode cX3_drink 0 = .ok (.aload_n 0, 1) := by decide +kernel
theorem dX3_drink_1 : decode cX3_drink 1 = .ok (.getfield 21, 3) := by decide +kernel
theorem dX3_drink_4 : decode cX3_drink 4 = .ok (.iload_n 1, 1) := by decide +kernel
theorem dX3_drink_5 : decode cX3_drink 5 = .ok (.dup2, 1) := by decide +kernel
theorem dX3_drink_6 : decode cX3_drink 6 = .ok (.iaload, 1) := by decide +kernel
theorem dX3_drink_7 : decode cX3_drink 7 = .ok (.iconst 1, 1) := by decide +kernel
theorem dX3_drink_8 : decode cX3_drink 8 = .ok (.iadd, 1) := by decide +kernel
theorem dX3_drink_9 : decode cX3_drink 9 = .ok (.iastore, 1) := by decide +kernel
theorem dX3_drink_10 : decode cX3_drink 10 = .ok (.aload_n 0, 1) := by decide +kernel
theorem dX3_drink_11 : decode cX3_drink 11 = .ok (.dup, 1) := by decide +kernel
theorem dX3_drink_12 : decode cX3_drink 12 = .ok (.getfield 60, 3) := by decide +kernel
theorem dX3_drink_15 : decode cX3_drink 15 = .ok (.iconst 1, 1) := by decide +kernel
theorem dX3_drink_16 : decode cX3_drink 16 = .ok (.iadd, 1) := by decide +kernel
theorem dX3_drink_17 : decode cX3_drink 17 = .ok (.putfield 60, 3) := by decide +kernel
theorem dX3_drink_20 : decode cX3_drink 20 = .ok (.aload_n 0, 1) := by decide +kernel
theorem dX3_drink_21 : decode cX3_drink 21 = .ok (.aload_n 0, 1) := by decide +kernel
theorem dX3_drink_22 : decode cX3_drink 22 = .ok (.getfield 9, 3) := by decide +kernel
theorem dX3_drink_25 : decode cX3_drink 25 = .ok (.iconst 0, 1) := by decide +kernel
theorem dX3_drink_26 : decode cX3_drink 26 = .ok (.iaload, 1) := by decide +kernel
theorem dX3_drink_27 : decode cX3_drink 27 = .ok (.invokevirtual 118, 3) := by decide +kernel
theorem dX3_drink_30 : decode cX3_drink 30 = .ok (.pop, 1) := by decide +kernel
theorem dX3_drink_31 : decode cX3_drink 31 = .ok (.return_, 1) := by decide +kernel
theorem dX3_passBreaths_0 : decode cX3_passBreaths 0 = .ok (.iconst 0, 1) := by decide +kernel
theorem dX3_passBreaths_1 : decode cX3_passBreaths 1 = .ok (.istore_n 2, 1) := by decide +kernel
theorem dX3_passBreaths_2 : decode cX3_passBreaths 2 = .ok (.iconst 0, 1) := by decide +kernel
theorem dX3_passBreaths_3 : decode cX3_passBreaths 3 = .ok (.istore_n 3, 1) := by decide +kernel
theorem dX3_passBreaths_4 : decode cX3_passBreaths 4 = .ok (.iload_n 3, 1) := by decide +kernel
theorem dX3_passBreaths_5 : decode cX3_passBreaths 5 = .ok (.iload_n 1, 1) := by decide +kernel
theorem dX3_passBreaths_6 : decode cX3_passBreaths 6 = .ok (.if_icmp .ge 47, 3) := by decide +kernel
theorem dX3_passBreaths_9 : decode cX3_passBreaths 9 = .ok (.iconst 0, 1) := by decide +kernel
theorem dX3_passBreaths_10 : decode cX3_passBreaths 10 = .ok (.istore 4, 2) := by decide +kernel
theorem dX3_passBreaths_12 : decode cX3_passBreaths 12 = .ok (.iload 4, 2) := by decide +kernel
theorem dX3_passBreaths_14 : decode cX3_passBreaths 14 = .ok (.bipush 9, 2) := by decide +kernel
theorem dX3_passBreaths_16 : decode cX3_passBreaths 16 = .ok (.if_icmp .ge 31, 3) := by decide +kernel
theorem dX3_passBreaths_19 : decode cX3_passBreaths 19 = .ok (.aload_n 0, 1) := by decide +kernel
theorem dX3_passBreaths_20 : decode cX3_passBreaths 20 = .ok (.getfield 15, 3) := by decide +kernel
theorem dX3_passBreaths_23 : decode cX3_passBreaths 23 = .ok (.iload 4, 2) := by decide +kernel
theorem dX3_passBreaths_25 : decode cX3_passBreaths 25 = .ok (.iaload, 1) := by decide +kernel
theorem dX3_passBreaths_26 : decode cX3_passBreaths 26 = .ok (.ifCond .le 15, 3) := by decide +kernel
theorem dX3_passBreaths_29 : decode cX3_passBreaths 29 = .ok (.aload_n 0, 1) := by decide +kernel
theorem dX3_passBreaths_30 : decode cX3_passBreaths 30 = .ok (.iload 4, 2) := by decide +kernel
theorem dX3_passBreaths_32 : decode cX3_passBreaths 32 = .ok (.invokevirtual 133, 3) := by decide +kernel
theorem dX3_passBreaths_35 : decode cX3_passBreaths 35 = .ok (.ifCond .eq 6, 3) := by decide +kernel
theorem dX3_passBreaths_38 : decode cX3_passBreaths 38 = .ok (.iinc 2 1, 3) := by decide +kernel
theorem dX3_passBreaths_41 : decode cX3_passBreaths 41 = .ok (.iinc 4 1, 3) := by decide +kernel
theorem dX3_passBreaths_44 : decode cX3_passBreaths 44 = .ok (.goto (-32), 3) := by decide +kernel
theorem dX3_passBreaths_47 : decode cX3_passBreaths 47 = .ok (.iinc 3 1, 3) := by decide +kernel
theorem dX3_passBreaths_50 : decode cX3_passBreaths 50 = .ok (.goto (-46), 3) := by decide +kernel
theorem dX3_passBreaths_53 : decode cX3_passBreaths 53 = .ok (.aload_n 0, 1) := by decide +kernel
theorem dX3_passBreaths_54 : decode cX3_passBreaths 54 = .ok (.dup, 1) := by decide +kernel
theorem dX3_passBreaths_55 : decode cX3_passBreaths 55 = .ok (.getfield 53, 3) := by decide +kernel
theorem dX3_passBreaths_58 : decode cX3_passBreaths 58 = .ok (.iload_n 1, 1) := by decide +kernel
theorem dX3_passBreaths_59 : decode cX3_passBreaths 59 = .ok (.iadd, 1) := by decide +kernel
theorem dX3_passBreaths_60 : decode cX3_passBreaths 60 = .ok (.putfield 53, 3) := by decide +kernel
theorem dX3_passBreaths_63 : decode cX3_passBreaths 63 = .ok (.aload_n 0, 1) := by decide +kernel
theorem dX3_passBreaths_64 : decode cX3_passBreaths 64 = .ok (.dup, 1) := by decide +kernel
theorem dX3_passBreaths_65 : decode cX3_passBreaths 65 = .ok (.getfield 66, 3) := by decide +kernel
theorem dX3_passBreaths_68 : decode cX3_passBreaths 68 = .ok (.iload_n 2, 1) := by decide +kernel
theorem dX3_passBreaths_69 : decode cX3_passBreaths 69 = .ok (.iadd, 1) := by decide +kernel
theorem dX3_passBreaths_70 : decode cX3_passBreaths 70 = .ok (.putfield 66, 3) := by decide +kernel
theorem dX3_passBreaths_73 : decode cX3_passBreaths 73 = .ok (.iload_n 2, 1) := by decide +kernel
theorem dX3_passBreaths_74 : decode cX3_passBreaths 74 = .ok (.ireturn, 1) := by decide +kernel
theorem dX3_sighsWithNextBreath_0 : decode cX3_sighsWithNextBreath 0 = .ok (.aload_n 0, 1) := by decide +kernel
theorem dX3_sighsWithNextBreath_1 : decode cX3_sighsWithNextBreath 1 = .ok (.getfield 18, 3) := by decide +kernel
theorem dX3_sighsWithNextBreath_4 : decode cX3_sighsWithNextBreath 4 = .ok (.iload_n 1, 1) := by decide +kernel
theorem dX3_sighsWithNextBreath_5 : decode cX3_sighsWithNextBreath 5 = .ok (.dup2, 1) := by decide +kernel
theorem dX3_sighsWithNextBreath_6 : decode cX3_sighsWithNextBreath 6 = .ok (.iaload, 1) := by decide +kernel
theorem dX3_sighsWithNextBreath_7 : decode cX3_sighsWithNextBreath 7 = .ok (.iconst 1, 1) := by decide +kernel
theorem dX3_sighsWithNextBreath_8 : decode cX3_sighsWithNextBreath 8 = .ok (.iadd, 1) := by decide +kernel
theorem dX3_sighsWithNextBreath_9 : decode cX3_sighsWithNextBreath 9 = .ok (.iastore, 1) := by decide +kernel
theorem dX3_sighsWithNextBreath_10 : decode cX3_sighsWithNextBreath 10 = .ok (.aload_n 0, 1) := by decide +kernel
theorem dX3_sighsWithNextBreath_11 : decode cX3_sighsWithNextBreath 11 = .ok (.getfield 18, 3) := by decide +kernel
theorem dX3_sighsWithNextBreath_14 : decode cX3_sighsWithNextBreath 14 = .ok (.iload_n 1, 1) := by decide +kernel
theorem dX3_sighsWithNextBreath_15 : decode cX3_sighsWithNextBreath 15 = .ok (.iaload, 1) := by decide +kernel
theorem dX3_sighsWithNextBreath_16 : decode cX3_sighsWithNextBreath 16 = .ok (.aload_n 0, 1) := by decide +kernel
theorem dX3_sighsWithNextBreath_17 : decode cX3_sighsWithNextBreath 17 = .ok (.getfield 9, 3) := by decide +kernel
theorem dX3_sighsWithNextBreath_20 : decode cX3_sighsWithNextBreath 20 = .ok (.iconst 3, 1) := by decide +kernel
theorem dX3_sighsWithNextBreath_21 : decode cX3_sighsWithNextBreath 21 = .ok (.iaload, 1) := by decide +kernel
theorem dX3_sighsWithNextBreath_22 : decode cX3_sighsWithNextBreath 22 = .ok (.aload_n 0, 1) := by decide +kernel
theorem dX3_sighsWithNextBreath_23 : decode cX3_sighsWithNextBreath 23 = .ok (.getfield 15, 3) := by decide +kernel
theorem dX3_sighsWithNextBreath_26 : decode cX3_sighsWithNextBreath 26 = .ok (.iload_n 1, 1) := by decide +kernel
theorem dX3_sighsWithNextBreath_27 : decode cX3_sighsWithNextBreath 27 = .ok (.iaload, 1) := by decide +kernel
theorem dX3_sighsWithNextBreath_28 : decode cX3_sighsWithNextBreath 28 = .ok (.imul, 1) := by decide +kernel
theorem dX3_sighsWithNextBreath_29 : decode cX3_sighsWithNextBreath 29 = .ok (.if_icmp .ge 5, 3) := by decide +kernel
theorem dX3_sighsWithNextBreath_32 : decode cX3_sighsWithNextBreath 32 = .ok (.iconst 0, 1) := by decide +kernel
theorem dX3_sighsWithNextBreath_33 : decode cX3_sighsWithNextBreath 33 = .ok (.ireturn, 1) := by decide +kernel
theorem dX3_sighsWithNextBreath_34 : decode cX3_sighsWithNextBreath 34 = .ok (.aload_n 0, 1) := by decide +kernel
theorem dX3_sighsWithNextBreath_35 : decode cX3_sighsWithNextBreath 35 = .ok (.getfield 18, 3) := by decide +kernel
theorem dX3_sighsWithNextBreath_38 : decode cX3_sighsWithNextBreath 38 = .ok (.iload_n 1, 1) := by decide +kernel
theorem dX3_sighsWithNextBreath_39 : decode cX3_sighsWithNextBreath 39 = .ok (.aload_n 0, 1) := by decide +kernel
theorem dX3_sighsWithNextBreath_40 : decode cX3_sighsWithNextBreath 40 = .ok (.getfield 15, 3) := by decide +kernel
theorem dX3_sighsWithNextBreath_43 : decode cX3_sighsWithNextBreath 43 = .ok (.iload_n 1, 1) := by decide +kernel
theorem dX3_sighsWithNextBreath_44 : decode cX3_sighsWithNextBreath 44 = .ok (.iaload, 1) := by decide +kernel
theorem dX3_sighsWithNextBreath_45 : decode cX3_sighsWithNextBreath 45 = .ok (.iastore, 1) := by decide +kernel
theorem dX3_sighsWithNextBreath_46 : decode cX3_sighsWithNextBreath 46 = .ok (.aload_n 0, 1) := by decide +kernel
theorem dX3_sighsWithNextBreath_47 : decode cX3_sighsWithNextBreath 47 = .ok (.getfield 24, 3) := by decide +kernel
theorem dX3_sighsWithNextBreath_50 : decode cX3_sighsWithNextBreath 50 = .ok (.iload_n 1, 1) := by decide +kernel
theorem dX3_sighsWithNextBreath_51 : decode cX3_sighsWithNextBreath 51 = .ok (.dup2, 1) := by decide +kernel
theorem dX3_sighsWithNextBreath_52 : decode cX3_sighsWithNextBreath 52 = .ok (.iaload, 1) := by decide +kernel
theorem dX3_sighsWithNextBreath_53 : decode cX3_sighsWithNextBreath 53 = .ok (.iconst 1, 1) := by decide +kernel
theorem dX3_sighsWithNextBreath_54 : decode cX3_sighsWithNextBreath 54 = .ok (.iadd, 1) := by decide +kernel
theorem dX3_sighsWithNextBreath_55 : decode cX3_sighsWithNextBreath 55 = .ok (.iastore, 1) := by decide +kernel
theorem dX3_sighsWithNextBreath_56 : decode cX3_sighsWithNextBreath 56 = .ok (.iconst 1, 1) := by decide +kernel
theorem dX3_sighsWithNextBreath_57 : decode cX3_sighsWithNextBreath 57 = .ok (.ireturn, 1) := by decide +kernel
theorem dX3_reasonToPassBy_0 : decode cX3_reasonToPassBy 0 = .ok (.aload_n 0, 1) := by decide +kernel
theorem dX3_reasonToPassBy_1 : decode cX3_reasonToPassBy 1 = .ok (.getfield 21, 3) := by decide +kernel
theorem dX3_reasonToPassBy_4 : decode cX3_reasonToPassBy 4 = .ok (.iload_n 1, 1) := by decide +kernel
theorem dX3_reasonToPassBy_5 : decode cX3_reasonToPassBy 5 = .ok (.iaload, 1) := by decide +kernel
theorem dX3_reasonToPassBy_6 : decode cX3_reasonToPassBy 6 = .ok (.aload_n 0, 1) := by decide +kernel
theorem dX3_reasonToPassBy_7 : decode cX3_reasonToPassBy 7 = .ok (.getfield 9, 3) := by decide +kernel
theorem dX3_reasonToPassBy_10 : decode cX3_reasonToPassBy 10 = .ok (.iconst 2, 1) := by decide +kernel
theorem dX3_reasonToPassBy_11 : decode cX3_reasonToPassBy 11 = .ok (.iaload, 1) := by decide +kernel
theorem dX3_reasonToPassBy_12 : decode cX3_reasonToPassBy 12 = .ok (.if_icmp .lt 5, 3) := by decide +kernel
theorem dX3_reasonToPassBy_15 : decode cX3_reasonToPassBy 15 = .ok (.iconst 1, 1) := by decide +kernel
theorem dX3_reasonToPassBy_16 : decode cX3_reasonToPassBy 16 = .ok (.ireturn, 1) := by decide +kernel
theorem dX3_reasonToPassBy_17 : decode cX3_reasonToPassBy 17 = .ok (.aload_n 0, 1) := by decide +kernel
theorem dX3_reasonToPassBy_18 : decode cX3_reasonToPassBy 18 = .ok (.getfield 36, 3) := by decide +kernel
theorem dX3_reasonToPassBy_21 : decode cX3_reasonToPassBy 21 = .ok (.iload_n 1, 1) := by decide +kernel
theorem dX3_reasonToPassBy_22 : decode cX3_reasonToPassBy 22 = .ok (.invokevirtual 136, 3) := by decide +kernel
theorem dX3_reasonToPassBy_25 : decode cX3_reasonToPassBy 25 = .ok (.aload_n 0, 1) := by decide +kernel
theorem dX3_reasonToPassBy_26 : decode cX3_reasonToPassBy 26 = .ok (.getfield 9, 3) := by decide +kernel
theorem dX3_reasonToPassBy_29 : decode cX3_reasonToPassBy 29 = .ok (.iconst 1, 1) := by decide +kernel
theorem dX3_reasonToPassBy_30 : decode cX3_reasonToPassBy 30 = .ok (.iaload, 1) := by decide +kernel
theorem dX3_reasonToPassBy_31 : decode cX3_reasonToPassBy 31 = .ok (.if_icmp .lt 7, 3) := by decide +kernel
theorem dX3_reasonToPassBy_34 : decode cX3_reasonToPassBy 34 = .ok (.iconst 2, 1) := by decide +kernel
theorem dX3_reasonToPassBy_35 : decode cX3_reasonToPassBy 35 = .ok (.goto 4, 3) := by decide +kernel
theorem dX3_reasonToPassBy_38 : decode cX3_reasonToPassBy 38 = .ok (.iconst 0, 1) := by decide +kernel
theorem dX3_reasonToPassBy_39 : decode cX3_reasonToPassBy 39 = .ok (.ireturn, 1) := by decide +kernel
theorem dX3_rankOf_0 : decode cX3_rankOf 0 = .ok (.iconst 0, 1) := by decide +kernel
theorem dX3_rankOf_1 : decode cX3_rankOf 1 = .ok (.istore_n 2, 1) := by decide +kernel
theorem dX3_rankOf_2 : decode cX3_rankOf 2 = .ok (.iconst 0, 1) := by decide +kernel
theorem dX3_rankOf_3 : decode cX3_rankOf 3 = .ok (.istore_n 3, 1) := by decide +kernel
theorem dX3_rankOf_4 : decode cX3_rankOf 4 = .ok (.iload_n 3, 1) := by decide +kernel
theorem dX3_rankOf_5 : decode cX3_rankOf 5 = .ok (.bipush 9, 2) := by decide +kernel
theorem dX3_rankOf_7 : decode cX3_rankOf 7 = .ok (.if_icmp .ge 35, 3) := by decide +kernel
theorem dX3_rankOf_10 : decode cX3_rankOf 10 = .ok (.iload_n 3, 1) := by decide +kernel
theorem dX3_rankOf_11 : decode cX3_rankOf 11 = .ok (.iload_n 1, 1) := by decide +kernel
theorem dX3_rankOf_12 : decode cX3_rankOf 12 = .ok (.if_icmp .eq 24, 3) := by decide +kernel
theorem dX3_rankOf_15 : decode cX3_rankOf 15 = .ok (.aload_n 0, 1) := by decide +kernel
theorem dX3_rankOf_16 : decode cX3_rankOf 16 = .ok (.getfield 15, 3) := by decide +kernel
theorem dX3_rankOf_19 : decode cX3_rankOf 19 = .ok (.iload_n 3, 1) := by decide +kernel
theorem dX3_rankOf_20 : decode cX3_rankOf 20 = .ok (.iaload, 1) := by decide +kernel
theorem dX3_rankOf_21 : decode cX3_rankOf 21 = .ok (.ifCond .le 15, 3) := by decide +kernel
theorem dX3_rankOf_24 : decode cX3_rankOf 24 = .ok (.aload_n 0, 1) := by decide +kernel
theorem dX3_rankOf_25 : decode cX3_rankOf 25 = .ok (.iload_n 3, 1) := by decide +kernel
theorem dX3_rankOf_26 : decode cX3_rankOf 26 = .ok (.iload_n 1, 1) := by decide +kernel
theorem dX3_rankOf_27 : decode cX3_rankOf 27 = .ok (.invokevirtual 139, 3) := by decide +kernel
theorem dX3_rankOf_30 : decode cX3_rankOf 30 = .ok (.ifCond .eq 6, 3) := by decide +kernel
theorem dX3_rankOf_33 : decode cX3_rankOf 33 = .ok (.iinc 2 1, 3) := by decide +kernel
theorem dX3_rankOf_36 : decode cX3_rankOf 36 = .ok (.iinc 3 1, 3) := by decide +kernel
theorem dX3_rankOf_39 : decode cX3_rankOf 39 = .ok (.goto (-35), 3) := by decide +kernel
theorem dX3_rankOf_42 : decode cX3_rankOf 42 = .ok (.iload_n 2, 1) := by decide +kernel
theorem dX3_rankOf_43 : decode cX3_rankOf 43 = .ok (.ireturn, 1) := by decide +kernel
theorem dX3_comesAhead_0 : decode cX3_comesAhead 0 = .ok (.aload_n 0, 1) := by decide +kernel
theorem dX3_comesAhead_1 : decode cX3_comesAhead 1 = .ok (.getfield 18, 3) := by decide +kernel
theorem dX3_comesAhead_4 : decode cX3_comesAhead 4 = .ok (.iload_n 1, 1) := by decide +kernel
theorem dX3_comesAhead_5 : decode cX3_comesAhead 5 = .ok (.iaload, 1) := by decide +kernel
theorem dX3_comesAhead_6 : decode cX3_comesAhead 6 = .ok (.aload_n 0, 1) := by decide +kernel
theorem dX3_comesAhead_7 : decode cX3_comesAhead 7 = .ok (.getfield 18, 3) := by decide +kernel
theorem dX3_comesAhead_10 : decode cX3_comesAhead 10 = .ok (.iload_n 2, 1) := by decide +kernel
theorem dX3_comesAhead_11 : decode cX3_comesAhead 11 = .ok (.iaload, 1) := by decide +kernel
theorem dX3_comesAhead_12 : decode cX3_comesAhead 12 = .ok (.if_icmp .eq 24, 3) := by decide +kernel
theorem dX3_comesAhead_15 : decode cX3_comesAhead 15 = .ok (.aload_n 0, 1) := by decide +kernel
theorem dX3_comesAhead_16 : decode cX3_comesAhead 16 = .ok (.getfield 18, 3) := by decide +kernel
theorem dX3_comesAhead_19 : decode cX3_comesAhead 19 = .ok (.iload_n 1, 1) := by decide +kernel
theorem dX3_comesAhead_20 : decode cX3_comesAhead 20 = .ok (.iaload, 1) := by decide +kernel
theorem dX3_comesAhead_21 : decode cX3_comesAhead 21 = .ok (.aload_n 0, 1) := by decide +kernel
theorem dX3_comesAhead_22 : decode cX3_comesAhead 22 = .ok (.getfield 18, 3) := by decide +kernel
theorem dX3_comesAhead_25 : decode cX3_comesAhead 25 = .ok (.iload_n 2, 1) := by decide +kernel
theorem dX3_comesAhead_26 : decode cX3_comesAhead 26 = .ok (.iaload, 1) := by decide +kernel
theorem dX3_comesAhead_27 : decode cX3_comesAhead 27 = .ok (.if_icmp .le 7, 3) := by decide +kernel
theorem dX3_comesAhead_30 : decode cX3_comesAhead 30 = .ok (.iconst 1, 1) := by decide +kernel
theorem dX3_comesAhead_31 : decode cX3_comesAhead 31 = .ok (.goto 4, 3) := by decide +kernel
theorem dX3_comesAhead_34 : decode cX3_comesAhead 34 = .ok (.iconst 0, 1) := by decide +kernel
theorem dX3_comesAhead_35 : decode cX3_comesAhead 35 = .ok (.ireturn, 1) := by decide +kernel
theorem dX3_comesAhead_36 : decode cX3_comesAhead 36 = .ok (.aload_n 0, 1) := by decide +kernel
theorem dX3_comesAhead_37 : decode cX3_comesAhead 37 = .ok (.getfield 21, 3) := by decide +kernel
theorem dX3_comesAhead_40 : decode cX3_comesAhead 40 = .ok (.iload_n 1, 1) := by decide +kernel
theorem dX3_comesAhead_41 : decode cX3_comesAhead 41 = .ok (.iaload, 1) := by decide +kernel
theorem dX3_comesAhead_42 : decode cX3_comesAhead 42 = .ok (.aload_n 0, 1) := by decide +kernel
theorem dX3_comesAhead_43 : decode cX3_comesAhead 43 = .ok (.getfield 21, 3) := by decide +kernel
theorem dX3_comesAhead_46 : decode cX3_comesAhead 46 = .ok (.iload_n 2, 1) := by decide +kernel
theorem dX3_comesAhead_47 : decode cX3_comesAhead 47 = .ok (.iaload, 1) := by decide +kernel
theorem dX3_comesAhead_48 : decode cX3_comesAhead 48 = .ok (.if_icmp .eq 24, 3) := by decide +kernel
theorem dX3_comesAhead_51 : decode cX3_comesAhead 51 = .ok (.aload_n 0, 1) := by decide +kernel
theorem dX3_comesAhead_52 : decode cX3_comesAhead 52 = .ok (.getfield 21, 3) := by decide +kernel
theorem dX3_comesAhead_55 : decode cX3_comesAhead 55 = .ok (.iload_n 1, 1) := by decide +kernel
theorem dX3_comesAhead_56 : decode cX3_comesAhead 56 = .ok (.iaload, 1) := by decide +kernel
theorem dX3_comesAhead_57 : decode cX3_comesAhead 57 = .ok (.aload_n 0, 1) := by decide +kernel
theorem dX3_comesAhead_58 : decode cX3_comesAhead 58 = .ok (.getfield 21, 3) := by decide +kernel
theorem dX3_comesAhead_61 : decode cX3_comesAhead 61 = .ok (.iload_n 2, 1) := by decide +kernel
theorem dX3_comesAhead_62 : decode cX3_comesAhead 62 = .ok (.iaload, 1) := by decide +kernel
theorem dX3_comesAhead_63 : decode cX3_comesAhead 63 = .ok (.if_icmp .ge 7, 3) := by decide +kernel
theorem dX3_comesAhead_66 : decode cX3_comesAhead 66 = .ok (.iconst 1, 1) := by decide +kernel
theorem dX3_comesAhead_67 : decode cX3_comesAhead 67 = .ok (.goto 4, 3) := by decide +kernel
theorem dX3_comesAhead_70 : decode cX3_comesAhead 70 = .ok (.iconst 0, 1) := by decide +kernel
theorem dX3_comesAhead_71 : decode cX3_comesAhead 71 = .ok (.ireturn, 1) := by decide +kernel
theorem dX3_comesAhead_72 : decode cX3_comesAhead 72 = .ok (.aload_n 0, 1) := by decide +kernel
theorem dX3_comesAhead_73 : decode cX3_comesAhead 73 = .ok (.getfield 36, 3) := by decide +kernel
theorem dX3_comesAhead_76 : decode cX3_comesAhead 76 = .ok (.iload_n 1, 1) := by decide +kernel
theorem dX3_comesAhead_77 : decode cX3_comesAhead 77 = .ok (.invokevirtual 136, 3) := by decide +kernel
theorem dX3_comesAhead_80 : decode cX3_comesAhead 80 = .ok (.istore_n 3, 1) := by decide +kernel
theorem dX3_comesAhead_81 : decode cX3_comesAhead 81 = .ok (.aload_n 0, 1) := by decide +kernel
theorem dX3_comesAhead_82 : decode cX3_comesAhead 82 = .ok (.getfield 36, 3) := by decide +kernel
theorem dX3_comesAhead_85 : decode cX3_comesAhead 85 = .ok (.iload_n 2, 1) := by decide +kernel
theorem dX3_comesAhead_86 : decode cX3_comesAhead 86 = .ok (.invokevirtual 136, 3) := by decide +kernel
theorem dX3_comesAhead_89 : decode cX3_comesAhead 89 = .ok (.istore 4, 2) := by decide +kernel
theorem dX3_comesAhead_91 : decode cX3_comesAhead 91 = .ok (.iload_n 3, 1) := by decide +kernel
theorem dX3_comesAhead_92 : decode cX3_comesAhead 92 = .ok (.iload 4, 2) := by decide +kernel
theorem dX3_comesAhead_94 : decode cX3_comesAhead 94 = .ok (.if_icmp .eq 17, 3) := by decide +kernel
theorem dX3_comesAhead_97 : decode cX3_comesAhead 97 = .ok (.iload_n 3, 1) := by decide +kernel
theorem dX3_comesAhead_98 : decode cX3_comesAhead 98 = .ok (.iload 4, 2) := by decide +kernel
theorem dX3_comesAhead_100 : decode cX3_comesAhead 100 = .ok (.if_icmp .ge 7, 3) := by decide +kernel
theorem dX3_comesAhead_103 : decode cX3_comesAhead 103 = .ok (.iconst 1, 1) := by decide +kernel
theorem dX3_comesAhead_104 : decode cX3_comesAhead 104 = .ok (.goto 27, 3) := by decide +kernel
theorem dX3_comesAhead_107 : decode cX3_comesAhead 107 = .ok (.iconst 0, 1) := by decide +kernel
theorem dX3_comesAhead_108 : decode cX3_comesAhead 108 = .ok (.goto 23, 3) := by decide +kernel
theorem dX3_comesAhead_111 : decode cX3_comesAhead 111 = .ok (.aload_n 0, 1) := by decide +kernel
theorem dX3_comesAhead_112 : decode cX3_comesAhead 112 = .ok (.getfield 30, 3) := by decide +kernel
theorem dX3_comesAhead_115 : decode cX3_comesAhead 115 = .ok (.iload_n 1, 1) := by decide +kernel
theorem dX3_comesAhead_116 : decode cX3_comesAhead 116 = .ok (.iaload, 1) := by decide +kernel
theorem dX3_comesAhead_117 : decode cX3_comesAhead 117 = .ok (.aload_n 0, 1) := by decide +kernel
theorem dX3_comesAhead_118 : decode cX3_comesAhead 118 = .ok (.getfield 30, 3) := by decide +kernel
theorem dX3_comesAhead_121 : decode cX3_comesAhead 121 = .ok (.iload_n 2, 1) := by decide +kernel
theorem dX3_comesAhead_122 : decode cX3_comesAhead 122 = .ok (.iaload, 1) := by decide +kernel
theorem dX3_comesAhead_123 : decode cX3_comesAhead 123 = .ok (.if_icmp .ge 7, 3) := by decide +kernel
theorem dX3_comesAhead_126 : decode cX3_comesAhead 126 = .ok (.iconst 1, 1) := by decide +kernel
theorem dX3_comesAhead_127 : decode cX3_comesAhead 127 = .ok (.goto 4, 3) := by decide +kernel
theorem dX3_comesAhead_130 : decode cX3_comesAhead 130 = .ok (.iconst 0, 1) := by decide +kernel
theorem dX3_comesAhead_131 : decode cX3_comesAhead 131 = .ok (.ireturn, 1) := by decide +kernel
theorem dX3_guestIn_0 : decode cX3_guestIn 0 = .ok (.iconst 0, 1) := by decide +kernel
theorem dX3_guestIn_1 : decode cX3_guestIn 1 = .ok (.istore_n 2, 1) := by decide +kernel
theorem dX3_guestIn_2 : decode cX3_guestIn 2 = .ok (.iload_n 2, 1) := by decide +kernel
theorem dX3_guestIn_3 : decode cX3_guestIn 3 = .ok (.bipush 9, 2) := by decide +kernel
theorem dX3_guestIn_5 : decode cX3_guestIn 5 = .ok (.if_icmp .ge 30, 3) := by decide +kernel
theorem dX3_guestIn_8 : decode cX3_guestIn 8 = .ok (.aload_n 0, 1) := by decide +kernel
theorem dX3_guestIn_9 : decode cX3_guestIn 9 = .ok (.getfield 15, 3) := by decide +kernel
theorem dX3_guestIn_12 : decode cX3_guestIn 12 = .ok (.iload_n 2, 1) := by decide +kernel
theorem dX3_guestIn_13 : decode cX3_guestIn 13 = .ok (.iaload, 1) := by decide +kernel
theorem dX3_guestIn_14 : decode cX3_guestIn 14 = .ok (.ifCond .le 15, 3) := by decide +kernel
theorem dX3_guestIn_17 : decode cX3_guestIn 17 = .ok (.aload_n 0, 1) := by decide +kernel
theorem dX3_guestIn_18 : decode cX3_guestIn 18 = .ok (.getfield 30, 3) := by decide +kernel
theorem dX3_guestIn_21 : decode cX3_guestIn 21 = .ok (.iload_n 2, 1) := by decide +kernel
theorem dX3_guestIn_22 : decode cX3_guestIn 22 = .ok (.iaload, 1) := by decide +kernel
theorem dX3_guestIn_23 : decode cX3_guestIn 23 = .ok (.iload_n 1, 1) := by decide +kernel
theorem dX3_guestIn_24 : decode cX3_guestIn 24 = .ok (.if_icmp .ne 5, 3) := by decide +kernel
theorem dX3_guestIn_27 : decode cX3_guestIn 27 = .ok (.iload_n 2, 1) := by decide +kernel
theorem dX3_guestIn_28 : decode cX3_guestIn 28 = .ok (.ireturn, 1) := by decide +kernel
theorem dX3_guestIn_29 : decode cX3_guestIn 29 = .ok (.iinc 2 1, 3) := by decide +kernel
theorem dX3_guestIn_32 : decode cX3_guestIn 32 = .ok (.goto (-30), 3) := by decide +kernel
theorem dX3_guestIn_35 : decode cX3_guestIn 35 = .ok (.iconst (-1), 1) := by decide +kernel
theorem dX3_guestIn_36 : decode cX3_guestIn 36 = .ok (.ireturn, 1) := by decide +kernel
theorem dX3_guestRanked_0 : decode cX3_guestRanked 0 = .ok (.iconst 0, 1) := by decide +kernel
theorem dX3_guestRanked_1 : decode cX3_guestRanked 1 = .ok (.istore_n 2, 1) := by decide +kernel
theorem dX3_guestRanked_2 : decode cX3_guestRanked 2 = .ok (.iload_n 2, 1) := by decide +kernel
theorem dX3_guestRanked_3 : decode cX3_guestRanked 3 = .ok (.bipush 9, 2) := by decide +kernel
theorem dX3_guestRanked_5 : decode cX3_guestRanked 5 = .ok (.if_icmp .ge 29, 3) := by decide +kernel
theorem dX3_guestRanked_8 : decode cX3_guestRanked 8 = .ok (.aload_n 0, 1) := by decide +kernel
theorem dX3_guestRanked_9 : decode cX3_guestRanked 9 = .ok (.getfield 15, 3) := by decide +kernel
theorem dX3_guestRanked_12 : decode cX3_guestRanked 12 = .ok (.iload_n 2, 1) := by decide +kernel
theorem dX3_guestRanked_13 : decode cX3_guestRanked 13 = .ok (.iaload, 1) := by decide +kernel
theorem dX3_guestRanked_14 : decode cX3_guestRanked 14 = .ok (.ifCond .le 14, 3) := by decide +kernel
theorem dX3_guestRanked_17 : decode cX3_guestRanked 17 = .ok (.aload_n 0, 1) := by decide +kernel
theorem dX3_guestRanked_18 : decode cX3_guestRanked 18 = .ok (.iload_n 2, 1) := by decide +kernel
theorem dX3_guestRanked_19 : decode cX3_guestRanked 19 = .ok (.invokevirtual 127, 3) := by decide +kernel
theorem dX3_guestRanked_22 : decode cX3_guestRanked 22 = .ok (.iload_n 1, 1) := by decide +kernel
theorem dX3_guestRanked_23 : decode cX3_guestRanked 23 = .ok (.if_icmp .ne 5, 3) := by decide +kernel
theorem dX3_guestRanked_26 : decode cX3_guestRanked 26 = .ok (.iload_n 2, 1) := by decide +kernel
theorem dX3_guestRanked_27 : decode cX3_guestRanked 27 = .ok (.ireturn, 1) := by decide +kernel
theorem dX3_guestRanked_28 : decode cX3_guestRanked 28 = .ok (.iinc 2 1, 3) := by decide +kernel
theorem dX3_guestRanked_31 : decode cX3_guestRanked 31 = .ok (.goto (-29), 3) := by decide +kernel
theorem dX3_guestRanked_34 : decode cX3_guestRanked 34 = .ok (.iconst (-1), 1) := by decide +kernel
theorem dX3_guestRanked_35 : decode cX3_guestRanked 35 = .ok (.ireturn, 1) := by decide +kernel
theorem dX3_silentFor_0 : decode cX3_silentFor 0 = .ok (.iconst 0, 1) := by decide +kernel
theorem dX3_silentFor_1 : decode cX3_silentFor 1 = .ok (.istore_n 2, 1) := by decide +kernel
theorem dX3_silentFor_2 : decode cX3_silentFor 2 = .ok (.iconst 0, 1) := by decide +kernel
theorem dX3_silentFor_3 : decode cX3_silentFor 3 = .ok (.istore_n 3, 1) := by decide +kernel
theorem dX3_silentFor_4 : decode cX3_silentFor 4 = .ok (.iload_n 3, 1) := by decide +kernel
theorem dX3_silentFor_5 : decode cX3_silentFor 5 = .ok (.bipush 9, 2) := by decide +kernel
theorem dX3_silentFor_7 : decode cX3_silentFor 7 = .ok (.if_icmp .ge 31, 3) := by decide +kernel
theorem dX3_silentFor_10 : decode cX3_silentFor 10 = .ok (.aload_n 0, 1) := by decide +kernel
theorem dX3_silentFor_11 : decode cX3_silentFor 11 = .ok (.getfield 15, 3) := by decide +kernel
theorem dX3_silentFor_14 : decode cX3_silentFor 14 = .ok (.iload_n 3, 1) := by decide +kernel
theorem dX3_silentFor_15 : decode cX3_silentFor 15 = .ok (.iaload, 1) := by decide +kernel
theorem dX3_silentFor_16 : decode cX3_silentFor 16 = .ok (.ifCond .le 16, 3) := by decide +kernel
theorem dX3_silentFor_19 : decode cX3_silentFor 19 = .ok (.aload_n 0, 1) := by decide +kernel
theorem dX3_silentFor_20 : decode cX3_silentFor 20 = .ok (.getfield 18, 3) := by decide +kernel
theorem dX3_silentFor_23 : decode cX3_silentFor 23 = .ok (.iload_n 3, 1) := by decide +kernel
theorem dX3_silentFor_24 : decode cX3_silentFor 24 = .ok (.iaload, 1) := by decide +kernel
theorem dX3_silentFor_25 : decode cX3_silentFor 25 = .ok (.iload_n 1, 1) := by decide +kernel
theorem dX3_silentFor_26 : decode cX3_silentFor 26 = .ok (.if_icmp .lt 6, 3) := by decide +kernel
theorem dX3_silentFor_29 : decode cX3_silentFor 29 = .ok (.iinc 2 1, 3) := by decide +kernel
theorem dX3_silentFor_32 : decode cX3_silentFor 32 = .ok (.iinc 3 1, 3) := by decide +kernel
theorem dX3_silentFor_35 : decode cX3_silentFor 35 = .ok (.goto (-31), 3) := by decide +kernel
theorem dX3_silentFor_38 : decode cX3_silentFor 38 = .ok (.iload_n 2, 1) := by decide +kernel
theorem dX3_silentFor_39 : decode cX3_silentFor 39 = .ok (.ireturn, 1) := by decide +kernel
theorem dX3_owedTo_0 : decode cX3_owedTo 0 = .ok (.aload_n 0, 1) := by decide +kernel
theorem dX3_owedTo_1 : decode cX3_owedTo 1 = .ok (.iload_n 1, 1) := by decide +kernel
theorem dX3_owedTo_2 : decode cX3_owedTo 2 = .ok (.iload_n 2, 1) := by decide +kernel
theorem dX3_owedTo_3 : decode cX3_owedTo 3 = .ok (.invokevirtual 93, 3) := by decide +kernel
theorem dX3_owedTo_6 : decode cX3_owedTo 6 = .ok (.istore_n 3, 1) := by decide +kernel
theorem dX3_owedTo_7 : decode cX3_owedTo 7 = .ok (.iload_n 3, 1) := by decide +kernel
theorem dX3_owedTo_8 : decode cX3_owedTo 8 = .ok (.ifCond .ge 7, 3) := by decide +kernel
theorem dX3_owedTo_11 : decode cX3_owedTo 11 = .ok (.iload_n 3, 1) := by decide +kernel
theorem dX3_owedTo_12 : decode cX3_owedTo 12 = .ok (.goto 12, 3) := by decide +kernel
theorem dX3_owedTo_15 : decode cX3_owedTo 15 = .ok (.aload_n 0, 1) := by decide +kernel
theorem dX3_owedTo_16 : decode cX3_owedTo 16 = .ok (.getfield 36, 3) := by decide +kernel
theorem dX3_owedTo_19 : decode cX3_owedTo 19 = .ok (.iload_n 1, 1) := by decide +kernel
theorem dX3_owedTo_20 : decode cX3_owedTo 20 = .ok (.iload_n 2, 1) := by decide +kernel
theorem dX3_owedTo_21 : decode cX3_owedTo 21 = .ok (.invokevirtual 101, 3) := by decide +kernel
theorem dX3_owedTo_24 : decode cX3_owedTo 24 = .ok (.ireturn, 1) := by decide +kernel
theorem dX3_factOf_0 : decode cX3_factOf 0 = .ok (.aload_n 0, 1) := by decide +kernel
theorem dX3_factOf_1 : decode cX3_factOf 1 = .ok (.iload_n 1, 1) := by decide +kernel
theorem dX3_factOf_2 : decode cX3_factOf 2 = .ok (.invokevirtual 85, 3) := by decide +kernel
theorem dX3_factOf_5 : decode cX3_factOf 5 = .ok (.ifCond .ne 5, 3) := by decide +kernel
theorem dX3_factOf_8 : decode cX3_factOf 8 = .ok (.iconst (-1), 1) := by decide +kernel
theorem dX3_factOf_9 : decode cX3_factOf 9 = .ok (.ireturn, 1) := by decide +kernel
theorem dX3_factOf_10 : decode cX3_factOf 10 = .ok (.iload_n 2, 1) := by decide +kernel
theorem dX3_factOf_11 : decode cX3_factOf 11 = .ok (.tableswitch 128 0 9 #[53, 60, 67, 74, 81, 88, 95, 104, 113, 122], 53) := by decide +kernel
theorem dX3_factOf_64 : decode cX3_factOf 64 = .ok (.aload_n 0, 1) := by decide +kernel
theorem dX3_factOf_65 : decode cX3_factOf 65 = .ok (.getfield 30, 3) := by decide +kernel
theorem dX3_factOf_68 : decode cX3_factOf 68 = .ok (.iload_n 1, 1) := by decide +kernel
theorem dX3_factOf_69 : decode cX3_factOf 69 = .ok (.iaload, 1) := by decide +kernel
theorem dX3_factOf_70 : decode cX3_factOf 70 = .ok (.ireturn, 1) := by decide +kernel
theorem dX3_factOf_71 : decode cX3_factOf 71 = .ok (.aload_n 0, 1) := by decide +kernel
theorem dX3_factOf_72 : decode cX3_factOf 72 = .ok (.getfield 15, 3) := by decide +kernel
theorem dX3_factOf_75 : decode cX3_factOf 75 = .ok (.iload_n 1, 1) := by decide +kernel
theorem dX3_factOf_76 : decode cX3_factOf 76 = .ok (.iaload, 1) := by decide +kernel
theorem dX3_factOf_77 : decode cX3_factOf 77 = .ok (.ireturn, 1) := by decide +kernel
theorem dX3_factOf_78 : decode cX3_factOf 78 = .ok (.aload_n 0, 1) := by decide +kernel
theorem dX3_factOf_79 : decode cX3_factOf 79 = .ok (.getfield 18, 3) := by decide +kernel
theorem dX3_factOf_82 : decode cX3_factOf 82 = .ok (.iload_n 1, 1) := by decide +kernel
theorem dX3_factOf_83 : decode cX3_factOf 83 = .ok (.iaload, 1) := by decide +kernel
theorem dX3_factOf_84 : decode cX3_factOf 84 = .ok (.ireturn, 1) := by decide +kernel
theorem dX3_factOf_85 : decode cX3_factOf 85 = .ok (.aload_n 0, 1) := by decide +kernel
theorem dX3_factOf_86 : decode cX3_factOf 86 = .ok (.getfield 21, 3) := by decide +kernel
theorem dX3_factOf_89 : decode cX3_factOf 89 = .ok (.iload_n 1, 1) := by decide +kernel
theorem dX3_factOf_90 : decode cX3_factOf 90 = .ok (.iaload, 1) := by decide +kernel
theorem dX3_factOf_91 : decode cX3_factOf 91 = .ok (.ireturn, 1) := by decide +kernel
theorem dX3_factOf_92 : decode cX3_factOf 92 = .ok (.aload_n 0, 1) := by decide +kernel
theorem dX3_factOf_93 : decode cX3_factOf 93 = .ok (.getfield 24, 3) := by decide +kernel
theorem dX3_factOf_96 : decode cX3_factOf 96 = .ok (.iload_n 1, 1) := by decide +kernel
theorem dX3_factOf_97 : decode cX3_factOf 97 = .ok (.iaload, 1) := by decide +kernel
theorem dX3_factOf_98 : decode cX3_factOf 98 = .ok (.ireturn, 1) := by decide +kernel
theorem dX3_factOf_99 : decode cX3_factOf 99 = .ok (.aload_n 0, 1) := by decide +kernel
theorem dX3_factOf_100 : decode cX3_factOf 100 = .ok (.getfield 27, 3) := by decide +kernel
theorem dX3_factOf_103 : decode cX3_factOf 103 = .ok (.iload_n 1, 1) := by decide +kernel
theorem dX3_factOf_104 : decode cX3_factOf 104 = .ok (.iaload, 1) := by decide +kernel
theorem dX3_factOf_105 : decode cX3_factOf 105 = .ok (.ireturn, 1) := by decide +kernel
theorem dX3_factOf_106 : decode cX3_factOf 106 = .ok (.aload_n 0, 1) := by decide +kernel
theorem dX3_factOf_107 : decode cX3_factOf 107 = .ok (.getfield 36, 3) := by decide +kernel
theorem dX3_factOf_110 : decode cX3_factOf 110 = .ok (.iload_n 1, 1) := by decide +kernel
theorem dX3_factOf_111 : decode cX3_factOf 111 = .ok (.invokevirtual 136, 3) := by decide +kernel
theorem dX3_factOf_114 : decode cX3_factOf 114 = .ok (.ireturn, 1) := by decide +kernel
theorem dX3_factOf_115 : decode cX3_factOf 115 = .ok (.aload_n 0, 1) := by decide +kernel
theorem dX3_factOf_116 : decode cX3_factOf 116 = .ok (.getfield 36, 3) := by decide +kernel
theorem dX3_factOf_119 : decode cX3_factOf 119 = .ok (.iload_n 1, 1) := by decide +kernel
theorem dX3_factOf_120 : decode cX3_factOf 120 = .ok (.invokevirtual 142, 3) := by decide +kernel
theorem dX3_factOf_123 : decode cX3_factOf 123 = .ok (.ireturn, 1) := by decide +kernel
theorem dX3_factOf_124 : decode cX3_factOf 124 = .ok (.aload_n 0, 1) := by decide +kernel
theorem dX3_factOf_125 : decode cX3_factOf 125 = .ok (.getfield 36, 3) := by decide +kernel
theorem dX3_factOf_128 : decode cX3_factOf 128 = .ok (.iload_n 1, 1) := by decide +kernel
theorem dX3_factOf_129 : decode cX3_factOf 129 = .ok (.invokevirtual 145, 3) := by decide +kernel
theorem dX3_factOf_132 : decode cX3_factOf 132 = .ok (.ireturn, 1) := by decide +kernel
theorem dX3_factOf_133 : decode cX3_factOf 133 = .ok (.aload_n 0, 1) := by decide +kernel
theorem dX3_factOf_134 : decode cX3_factOf 134 = .ok (.iload_n 1, 1) := by decide +kernel
theorem dX3_factOf_135 : decode cX3_factOf 135 = .ok (.invokevirtual 127, 3) := by decide +kernel
theorem dX3_factOf_138 : decode cX3_factOf 138 = .ok (.ireturn, 1) := by decide +kernel
theorem dX3_factOf_139 : decode cX3_factOf 139 = .ok (.bipush (-2), 2) := by decide +kernel
theorem dX3_factOf_141 : decode cX3_factOf 141 = .ok (.ireturn, 1) := by decide +kernel
theorem dX3_counted_0 : decode cX3_counted 0 = .ok (.iload_n 1, 1) := by decide +kernel
theorem dX3_counted_1 : decode cX3_counted 1 = .ok (.tableswitch 147 0 12 #[67, 72, 77, 82, 87, 95, 103, 111, 119, 127, 132, 137, 142], 67) := by decide +kernel
theorem dX3_counted_68 : decode cX3_counted 68 = .ok (.aload_n 0, 1) := by decide +kernel
theorem dX3_counted_69 : decode cX3_counted 69 = .ok (.getfield 53, 3) := by decide +kernel
theorem dX3_counted_72 : decode cX3_counted 72 = .ok (.ireturn, 1) := by decide +kernel
theorem dX3_counted_73 : decode cX3_counted 73 = .ok (.aload_n 0, 1) := by decide +kernel
theorem dX3_counted_74 : decode cX3_counted 74 = .ok (.invokevirtual 82, 3) := by decide +kernel
theorem dX3_counted_77 : decode cX3_counted 77 = .ok (.ireturn, 1) := by decide +kernel
theorem dX3_counted_78 : decode cX3_counted 78 = .ok (.aload_n 0, 1) := by decide +kernel
theorem dX3_counted_79 : decode cX3_counted 79 = .ok (.getfield 57, 3) := by decide +kernel
theorem dX3_counted_82 : decode cX3_counted 82 = .ok (.ireturn, 1) := by decide +kernel
theorem dX3_counted_83 : decode cX3_counted 83 = .ok (.aload_n 0, 1) := by decide +kernel
theorem dX3_counted_84 : decode cX3_counted 84 = .ok (.getfield 60, 3) := by decide +kernel
theorem dX3_counted_87 : decode cX3_counted 87 = .ok (.ireturn, 1) := by decide +kernel
theorem dX3_counted_88 : decode cX3_counted 88 = .ok (.aload_n 0, 1) := by decide +kernel
theorem dX3_counted_89 : decode cX3_counted 89 = .ok (.getfield 36, 3) := by decide +kernel
theorem dX3_counted_92 : decode cX3_counted 92 = .ok (.invokevirtual 148, 3) := by decide +kernel
theorem dX3_counted_95 : decode cX3_counted 95 = .ok (.ireturn, 1) := by decide +kernel
theorem dX3_counted_96 : decode cX3_counted 96 = .ok (.aload_n 0, 1) := by decide +kernel
theorem dX3_counted_97 : decode cX3_counted 97 = .ok (.getfield 36, 3) := by decide +kernel
theorem dX3_counted_100 : decode cX3_counted 100 = .ok (.invokevirtual 151, 3) := by decide +kernel
theorem dX3_counted_103 : decode cX3_counted 103 = .ok (.ireturn, 1) := by decide +kernel
theorem dX3_counted_104 : decode cX3_counted 104 = .ok (.aload_n 0, 1) := by decide +kernel
theorem dX3_counted_105 : decode cX3_counted 105 = .ok (.getfield 36, 3) := by decide +kernel
theorem dX3_counted_108 : decode cX3_counted 108 = .ok (.invokevirtual 154, 3) := by decide +kernel
theorem dX3_counted_111 : decode cX3_counted 111 = .ok (.ireturn, 1) := by decide +kernel
theorem dX3_counted_112 : decode cX3_counted 112 = .ok (.aload_n 0, 1) := by decide +kernel
theorem dX3_counted_113 : decode cX3_counted 113 = .ok (.getfield 36, 3) := by decide +kernel
theorem dX3_counted_116 : decode cX3_counted 116 = .ok (.invokevirtual 157, 3) := by decide +kernel
theorem dX3_counted_119 : decode cX3_counted 119 = .ok (.ireturn, 1) := by decide +kernel
theorem dX3_counted_120 : decode cX3_counted 120 = .ok (.aload_n 0, 1) := by decide +kernel
theorem dX3_counted_121 : decode cX3_counted 121 = .ok (.getfield 36, 3) := by decide +kernel
theorem dX3_counted_124 : decode cX3_counted 124 = .ok (.invokevirtual 160, 3) := by decide +kernel
theorem dX3_counted_127 : decode cX3_counted 127 = .ok (.ireturn, 1) := by decide +kernel
theorem dX3_counted_128 : decode cX3_counted 128 = .ok (.aload_n 0, 1) := by decide +kernel
theorem dX3_counted_129 : decode cX3_counted 129 = .ok (.getfield 63, 3) := by decide +kernel
theorem dX3_counted_132 : decode cX3_counted 132 = .ok (.ireturn, 1) := by decide +kernel
theorem dX3_counted_133 : decode cX3_counted 133 = .ok (.aload_n 0, 1) := by decide +kernel
theorem dX3_counted_134 : decode cX3_counted 134 = .ok (.getfield 66, 3) := by decide +kernel
theorem dX3_counted_137 : decode cX3_counted 137 = .ok (.ireturn, 1) := by decide +kernel
theorem dX3_counted_138 : decode cX3_counted 138 = .ok (.aload_n 0, 1) := by decide +kernel
theorem dX3_counted_139 : decode cX3_counted 139 = .ok (.invokevirtual 69, 3) := by decide +kernel
theorem dX3_counted_142 : decode cX3_counted 142 = .ok (.ireturn, 1) := by decide +kernel
theorem dX3_counted_143 : decode cX3_counted 143 = .ok (.aload_n 0, 1) := by decide +kernel
theorem dX3_counted_144 : decode cX3_counted 144 = .ok (.invokevirtual 163, 3) := by decide +kernel
theorem dX3_counted_147 : decode cX3_counted 147 = .ok (.ireturn, 1) := by decide +kernel
theorem dX3_counted_148 : decode cX3_counted 148 = .ok (.aload_n 0, 1) := by decide +kernel
theorem dX3_counted_149 : decode cX3_counted 149 = .ok (.iload_n 1, 1) := by decide +kernel
theorem dX3_counted_150 : decode cX3_counted 150 = .ok (.invokevirtual 166, 3) := by decide +kernel
theorem dX3_counted_153 : decode cX3_counted 153 = .ok (.ireturn, 1) := by decide +kernel
theorem dX3_settingCounted_0 : decode cX3_settingCounted 0 = .ok (.iload_n 1, 1) := by decide +kernel
theorem dX3_settingCounted_1 : decode cX3_settingCounted 1 = .ok (.bipush 13, 2) := by decide +kernel
theorem dX3_settingCounted_3 : decode cX3_settingCounted 3 = .ok (.if_icmp .lt 15, 3) := by decide +kernel
theorem dX3_settingCounted_6 : decode cX3_settingCounted 6 = .ok (.iload_n 1, 1) := by decide +kernel
theorem dX3_settingCounted_7 : decode cX3_settingCounted 7 = .ok (.bipush 13, 2) := by decide +kernel
theorem dX3_settingCounted_9 : decode cX3_settingCounted 9 = .ok (.isub, 1) := by decide +kernel
theorem dX3_settingCounted_10 : decode cX3_settingCounted 10 = .ok (.aload_n 0, 1) := by decide +kernel
theorem dX3_settingCounted_11 : decode cX3_settingCounted 11 = .ok (.getfield 9, 3) := by decide +kernel
theorem dX3_settingCounted_14 : decode cX3_settingCounted 14 = .ok (.arraylength, 1) := by decide +kernel
theorem dX3_settingCounted_15 : decode cX3_settingCounted 15 = .ok (.if_icmp .lt 6, 3) := by decide +kernel
theorem dX3_settingCounted_18 : decode cX3_settingCounted 18 = .ok (.bipush (-2), 2) := by decide +kernel
theorem dX3_settingCounted_20 : decode cX3_settingCounted 20 = .ok (.ireturn, 1) := by decide +kernel
theorem dX3_settingCounted_21 : decode cX3_settingCounted 21 = .ok (.aload_n 0, 1) := by decide +kernel
theorem dX3_settingCounted_22 : decode cX3_settingCounted 22 = .ok (.getfield 9, 3) := by decide +kernel
theorem dX3_settingCounted_25 : decode cX3_settingCounted 25 = .ok (.iload_n 1, 1) := by decide +kernel
theorem dX3_settingCounted_26 : decode cX3_settingCounted 26 = .ok (.bipush 13, 2) := by decide +kernel
theorem dX3_settingCounted_28 : decode cX3_settingCounted 28 = .ok (.isub, 1) := by decide +kernel
theorem dX3_settingCounted_29 : decode cX3_settingCounted 29 = .ok (.iaload, 1) := by decide +kernel
theorem dX3_settingCounted_30 : decode cX3_settingCounted 30 = .ok (.ireturn, 1) := by decide +kernel
theorem dX3_guestsAsSet_0 : decode cX3_guestsAsSet 0 = .ok (.iconst 0, 1) := by decide +kernel
theorem dX3_guestsAsSet_1 : decode cX3_guestsAsSet 1 = .ok (.istore_n 1, 1) := by decide +kernel
theorem dX3_guestsAsSet_2 : decode cX3_guestsAsSet 2 = .ok (.iconst 0, 1) := by decide +kernel
theorem dX3_guestsAsSet_3 : decode cX3_guestsAsSet 3 = .ok (.istore_n 2, 1) := by decide +kernel
theorem dX3_guestsAsSet_4 : decode cX3_guestsAsSet 4 = .ok (.iload_n 2, 1) := by decide +kernel
theorem dX3_guestsAsSet_5 : decode cX3_guestsAsSet 5 = .ok (.bipush 9, 2) := by decide +kernel
theorem dX3_guestsAsSet_7 : decode cX3_guestsAsSet 7 = .ok (.if_icmp .ge 24, 3) := by decide +kernel
theorem dX3_guestsAsSet_10 : decode cX3_guestsAsSet 10 = .ok (.aload_n 0, 1) := by decide +kernel
theorem dX3_guestsAsSet_11 : decode cX3_guestsAsSet 11 = .ok (.getfield 15, 3) := by decide +kernel
theorem dX3_guestsAsSet_14 : decode cX3_guestsAsSet 14 = .ok (.iload_n 2, 1) := by decide +kernel
theorem dX3_guestsAsSet_15 : decode cX3_guestsAsSet 15 = .ok (.iaload, 1) := by decide +kernel
theorem dX3_guestsAsSet_16 : decode cX3_guestsAsSet 16 = .ok (.ifCond .le 9, 3) := by decide +kernel
theorem dX3_guestsAsSet_19 : decode cX3_guestsAsSet 19 = .ok (.iload_n 1, 1) := by decide +kernel
theorem dX3_guestsAsSet_20 : decode cX3_guestsAsSet 20 = .ok (.iconst 1, 1) := by decide +kernel
theorem dX3_guestsAsSet_21 : decode cX3_guestsAsSet 21 = .ok (.iload_n 2, 1) := by decide +kernel
theorem dX3_guestsAsSet_22 : decode cX3_guestsAsSet 22 = .ok (.ishl, 1) := by decide +kernel
theorem dX3_guestsAsSet_23 : decode cX3_guestsAsSet 23 = .ok (.ior, 1) := by decide +kernel
theorem dX3_guestsAsSet_24 : decode cX3_guestsAsSet 24 = .ok (.istore_n 1, 1) := by decide +kernel
theorem dX3_guestsAsSet_25 : decode cX3_guestsAsSet 25 = .ok (.iinc 2 1, 3) := by decide +kernel
theorem dX3_guestsAsSet_28 : decode cX3_guestsAsSet 28 = .ok (.goto (-24), 3) := by decide +kernel
theorem dX3_guestsAsSet_31 : decode cX3_guestsAsSet 31 = .ok (.iload_n 1, 1) := by decide +kernel
theorem dX3_guestsAsSet_32 : decode cX3_guestsAsSet 32 = .ok (.ireturn, 1) := by decide +kernel
theorem dX3_passedByAsSet_0 : decode cX3_passedByAsSet 0 = .ok (.iconst 0, 1) := by decide +kernel
theorem dX3_passedByAsSet_1 : decode cX3_passedByAsSet 1 = .ok (.istore_n 1, 1) := by decide +kernel
theorem dX3_passedByAsSet_2 : decode cX3_passedByAsSet 2 = .ok (.iconst 0, 1) := by decide +kernel
theorem dX3_passedByAsSet_3 : decode cX3_passedByAsSet 3 = .ok (.istore_n 2, 1) := by decide +kernel
theorem dX3_passedByAsSet_4 : decode cX3_passedByAsSet 4 = .ok (.iload_n 2, 1) := by decide +kernel
theorem dX3_passedByAsSet_5 : decode cX3_passedByAsSet 5 = .ok (.bipush 9, 2) := by decide +kernel
theorem dX3_passedByAsSet_7 : decode cX3_passedByAsSet 7 = .ok (.if_icmp .ge 32, 3) := by decide +kernel
theorem dX3_passedByAsSet_10 : decode cX3_passedByAsSet 10 = .ok (.aload_n 0, 1) := by decide +kernel
theorem dX3_passedByAsSet_11 : decode cX3_passedByAsSet 11 = .ok (.getfield 15, 3) := by decide +kernel
theorem dX3_passedByAsSet_14 : decode cX3_passedByAsSet 14 = .ok (.iload_n 2, 1) := by decide +kernel
theorem dX3_passedByAsSet_15 : decode cX3_passedByAsSet 15 = .ok (.iaload, 1) := by decide +kernel
theorem dX3_passedByAsSet_16 : decode cX3_passedByAsSet 16 = .ok (.ifCond .le 17, 3) := by decide +kernel
theorem dX3_passedByAsSet_19 : decode cX3_passedByAsSet 19 = .ok (.aload_n 0, 1) := by decide +kernel
theorem dX3_passedByAsSet_20 : decode cX3_passedByAsSet 20 = .ok (.iload_n 2, 1) := by decide +kernel
theorem dX3_passedByAsSet_21 : decode cX3_passedByAsSet 21 = .ok (.invokevirtual 104, 3) := by decide +kernel
theorem dX3_passedByAsSet_24 : decode cX3_passedByAsSet 24 = .ok (.ifCond .eq 9, 3) := by decide +kernel
theorem dX3_passedByAsSet_27 : decode cX3_passedByAsSet 27 = .ok (.iload_n 1, 1) := by decide +kernel
theorem dX3_passedByAsSet_28 : decode cX3_passedByAsSet 28 = .ok (.iconst 1, 1) := by decide +kernel
theorem dX3_passedByAsSet_29 : decode cX3_passedByAsSet 29 = .ok (.iload_n 2, 1) := by decide +kernel
theorem dX3_passedByAsSet_30 : decode cX3_passedByAsSet 30 = .ok (.ishl, 1) := by decide +kernel
theorem dX3_passedByAsSet_31 : decode cX3_passedByAsSet 31 = .ok (.ior, 1) := by decide +kernel
theorem dX3_passedByAsSet_32 : decode cX3_passedByAsSet 32 = .ok (.istore_n 1, 1) := by decide +kernel
theorem dX3_passedByAsSet_33 : decode cX3_passedByAsSet 33 = .ok (.iinc 2 1, 3) := by decide +kernel
theorem dX3_passedByAsSet_36 : decode cX3_passedByAsSet 36 = .ok (.goto (-32), 3) := by decide +kernel
theorem dX3_passedByAsSet_39 : decode cX3_passedByAsSet 39 = .ok (.iload_n 1, 1) := by decide +kernel
theorem dX3_passedByAsSet_40 : decode cX3_passedByAsSet 40 = .ok (.ireturn, 1) := by decide +kernel
theorem dX4_init_0 : decode cX4_init 0 = .ok (.aload_n 0, 1) := by decide +kernel
theorem dX4_init_1 : decode cX4_init 1 = .ok (.invokespecial 1, 3) := by decide +kernel
theorem dX4_init_4 : decode cX4_init 4 = .ok (.aload_n 0, 1) := by decide +kernel
theorem dX4_init_5 : decode cX4_init 5 = .ok (.new 7, 3) := by decide +kernel
theorem dX4_init_8 : decode cX4_init 8 = .ok (.dup, 1) := by decide +kernel
theorem dX4_init_9 : decode cX4_init 9 = .ok (.invokespecial 9, 3) := by decide +kernel
theorem dX4_init_12 : decode cX4_init 12 = .ok (.putfield 10, 3) := by decide +kernel
theorem dX4_init_15 : decode cX4_init 15 = .ok (.return_, 1) := by decide +kernel
theorem dX4_isFilled_0 : decode cX4_isFilled 0 = .ok (.aload_n 0, 1) := by decide +kernel
theorem dX4_isFilled_1 : decode cX4_isFilled 1 = .ok (.getfield 16, 3) := by decide +kernel
theorem dX4_isFilled_4 : decode cX4_isFilled 4 = .ok (.ireturn, 1) := by decide +kernel
theorem dX4_fill_0 : decode cX4_fill 0 = .ok (.aload_n 0, 1) := by decide +kernel
theorem dX4_fill_1 : decode cX4_fill 1 = .ok (.getfield 10, 3) := by decide +kernel
theorem dX4_fill_4 : decode cX4_fill 4 = .ok (.aload_n 1, 1) := by decide +kernel
theorem dX4_fill_5 : decode cX4_fill 5 = .ok (.invokevirtual 20, 3) := by decide +kernel
theorem dX4_fill_8 : decode cX4_fill 8 = .ok (.aload_n 0, 1) := by decide +kernel
theorem dX4_fill_9 : decode cX4_fill 9 = .ok (.iconst 1, 1) := by decide +kernel
theorem dX4_fill_10 : decode cX4_fill 10 = .ok (.putfield 16, 3) := by decide +kernel
theorem dX4_fill_13 : decode cX4_fill 13 = .ok (.return_, 1) := by decide +kernel
theorem dX4_copyTo_0 : decode cX4_copyTo 0 = .ok (.aload_n 1, 1) := by decide +kernel
theorem dX4_copyTo_1 : decode cX4_copyTo 1 = .ok (.aload_n 0, 1) := by decide +kernel
theorem dX4_copyTo_2 : decode cX4_copyTo 2 = .ok (.getfield 10, 3) := by decide +kernel
theorem dX4_copyTo_5 : decode cX4_copyTo 5 = .ok (.invokevirtual 20, 3) := by decide +kernel
theorem dX4_copyTo_8 : decode cX4_copyTo 8 = .ok (.return_, 1) := by decide +kernel
theorem dX5_init_0 : decode cX5_init 0 = .ok (.aload_n 0, 1) := by decide +kernel
theorem dX5_init_1 : decode cX5_init 1 = .ok (.invokespecial 1, 3) := by decide +kernel
theorem dX5_init_4 : decode cX5_init 4 = .ok (.aload_n 0, 1) := by decide +kernel
theorem dX5_init_5 : decode cX5_init 5 = .ok (.new 7, 3) := by decide +kernel
theorem dX5_init_8 : decode cX5_init 8 = .ok (.dup, 1) := by decide +kernel
theorem dX5_init_9 : decode cX5_init 9 = .ok (.invokespecial 9, 3) := by decide +kernel
theorem dX5_init_12 : decode cX5_init 12 = .ok (.putfield 10, 3) := by decide +kernel
theorem dX5_init_15 : decode cX5_init 15 = .ok (.aload_n 0, 1) := by decide +kernel
theorem dX5_init_16 : decode cX5_init 16 = .ok (.new 7, 3) := by decide +kernel
theorem dX5_init_19 : decode cX5_init 19 = .ok (.dup, 1) := by decide +kernel
theorem dX5_init_20 : decode cX5_init 20 = .ok (.invokespecial 9, 3) := by decide +kernel
theorem dX5_init_23 : decode cX5_init 23 = .ok (.putfield 16, 3) := by decide +kernel
theorem dX5_init_26 : decode cX5_init 26 = .ok (.aload_n 0, 1) := by decide +kernel
theorem dX5_init_27 : decode cX5_init 27 = .ok (.new 7, 3) := by decide +kernel
theorem dX5_init_30 : decode cX5_init 30 = .ok (.dup, 1) := by decide +kernel
theorem dX5_init_31 : decode cX5_init 31 = .ok (.invokespecial 9, 3) := by decide +kernel
theorem dX5_init_34 : decode cX5_init 34 = .ok (.putfield 19, 3) := by decide +kernel
theorem dX5_init_37 : decode cX5_init 37 = .ok (.aload_n 0, 1) := by decide +kernel
theorem dX5_init_38 : decode cX5_init 38 = .ok (.new 22, 3) := by decide +kernel
theorem dX5_init_41 : decode cX5_init 41 = .ok (.dup, 1) := by decide +kernel
theorem dX5_init_42 : decode cX5_init 42 = .ok (.invokespecial 24, 3) := by decide +kernel
theorem dX5_init_45 : decode cX5_init 45 = .ok (.putfield 25, 3) := by decide +kernel
theorem dX5_init_48 : decode cX5_init 48 = .ok (.aload_n 0, 1) := by decide +kernel
theorem dX5_init_49 : decode cX5_init 49 = .ok (.new 22, 3) := by decide +kernel
theorem dX5_init_52 : decode cX5_init 52 = .ok (.dup, 1) := by decide +kernel
theorem dX5_init_53 : decode cX5_init 53 = .ok (.invokespecial 24, 3) := by decide +kernel
theorem dX5_init_56 : decode cX5_init 56 = .ok (.putfield 29, 3) := by decide +kernel
theorem dX5_init_59 : decode cX5_init 59 = .ok (.aload_n 0, 1) := by decide +kernel
theorem dX5_init_60 : decode cX5_init 60 = .ok (.new 32, 3) := by decide +kernel
theorem dX5_init_63 : decode cX5_init 63 = .ok (.dup, 1) := by decide +kernel
theorem dX5_init_64 : decode cX5_init 64 = .ok (.invokespecial 34, 3) := by decide +kernel
theorem dX5_init_67 : decode cX5_init 67 = .ok (.putfield 35, 3) := by decide +kernel
theorem dX5_init_70 : decode cX5_init 70 = .ok (.aload_n 0, 1) := by decide +kernel
theorem dX5_init_71 : decode cX5_init 71 = .ok (.new 39, 3) := by decide +kernel
theorem dX5_init_74 : decode cX5_init 74 = .ok (.dup, 1) := by decide +kernel
theorem dX5_init_75 : decode cX5_init 75 = .ok (.invokespecial 41, 3) := by decide +kernel
theorem dX5_init_78 : decode cX5_init 78 = .ok (.putfield 42, 3) := by decide +kernel
theorem dX5_init_81 : decode cX5_init 81 = .ok (.return_, 1) := by decide +kernel
theorem dX5_set_0 : decode cX5_set 0 = .ok (.aload_n 0, 1) := by decide +kernel
theorem dX5_set_1 : decode cX5_set 1 = .ok (.getfield 16, 3) := by decide +kernel
theorem dX5_set_4 : decode cX5_set 4 = .ok (.aload_n 0, 1) := by decide +kernel
theorem dX5_set_5 : decode cX5_set 5 = .ok (.getfield 10, 3) := by decide +kernel
theorem dX5_set_8 : decode cX5_set 8 = .ok (.invokevirtual 46, 3) := by decide +kernel
theorem dX5_set_11 : decode cX5_set 11 = .ok (.aload_n 0, 1) := by decide +kernel
theorem dX5_set_12 : decode cX5_set 12 = .ok (.aload_n 0, 1) := by decide +kernel
theorem dX5_set_13 : decode cX5_set 13 = .ok (.getfield 10, 3) := by decide +kernel
theorem dX5_set_16 : decode cX5_set 16 = .ok (.iload_n 1, 1) := by decide +kernel
theorem dX5_set_17 : decode cX5_set 17 = .ok (.iload_n 2, 1) := by decide +kernel
theorem dX5_set_18 : decode cX5_set 18 = .ok (.invokevirtual 50, 3) := by decide +kernel
theorem dX5_set_21 : decode cX5_set 21 = .ok (.invokevirtual 54, 3) := by decide +kernel
theorem dX5_set_24 : decode cX5_set 24 = .ok (.ireturn, 1) := by decide +kernel
theorem dX5_guest_0 : decode cX5_guest 0 = .ok (.aload_n 0, 1) := by decide +kernel
theorem dX5_guest_1 : decode cX5_guest 1 = .ok (.getfield 16, 3) := by decide +kernel
theorem dX5_guest_4 : decode cX5_guest 4 = .ok (.aload_n 0, 1) := by decide +kernel
theorem dX5_guest_5 : decode cX5_guest 5 = .ok (.getfield 10, 3) := by decide +kernel
theorem dX5_guest_8 : decode cX5_guest 8 = .ok (.invokevirtual 46, 3) := by decide +kernel
theorem dX5_guest_11 : decode cX5_guest 11 = .ok (.aload_n 0, 1) := by decide +kernel
theorem dX5_guest_12 : decode cX5_guest 12 = .ok (.aload_n 0, 1) := by decide +kernel
theorem dX5_guest_13 : decode cX5_guest 13 = .ok (.getfield 10, 3) := by decide +kernel
theorem dX5_guest_16 : decode cX5_guest 16 = .ok (.iload_n 1, 1) := by decide +kernel
theorem dX5_guest_17 : decode cX5_guest 17 = .ok (.invokevirtual 58, 3) := by decide +kernel
theorem dX5_guest_20 : decode cX5_guest 20 = .ok (.invokevirtual 54, 3) := by decide +kernel
theorem dX5_guest_23 : decode cX5_guest 23 = .ok (.ireturn, 1) := by decide +kernel
theorem dX5_leave_0 : decode cX5_leave 0 = .ok (.aload_n 0, 1) := by decide +kernel
theorem dX5_leave_1 : decode cX5_leave 1 = .ok (.getfield 16, 3) := by decide +kernel
theorem dX5_leave_4 : decode cX5_leave 4 = .ok (.aload_n 0, 1) := by decide +kernel
theorem dX5_leave_5 : decode cX5_leave 5 = .ok (.getfield 10, 3) := by decide +kernel
theorem dX5_leave_8 : decode cX5_leave 8 = .ok (.invokevirtual 46, 3) := by decide +kernel
theorem dX5_leave_11 : decode cX5_leave 11 = .ok (.aload_n 0, 1) := by decide +kernel
theorem dX5_leave_12 : decode cX5_leave 12 = .ok (.aload_n 0, 1) := by decide +kernel
theorem dX5_leave_13 : decode cX5_leave 13 = .ok (.getfield 10, 3) := by decide +kernel
theorem dX5_leave_16 : decode cX5_leave 16 = .ok (.iload_n 1, 1) := by decide +kernel
theorem dX5_leave_17 : decode cX5_leave 17 = .ok (.invokevirtual 61, 3) := by decide +kernel
theorem dX5_leave_20 : decode cX5_leave 20 = .ok (.invokevirtual 54, 3) := by decide +kernel
theorem dX5_leave_23 : decode cX5_leave 23 = .ok (.ireturn, 1) := by decide +kernel
theorem dX5_word_0 : decode cX5_word 0 = .ok (.aload_n 0, 1) := by decide +kernel
theorem dX5_word_1 : decode cX5_word 1 = .ok (.getfield 16, 3) := by decide +kernel
theorem dX5_word_4 : decode cX5_word 4 = .ok (.aload_n 0, 1) := by decide +kernel
theorem dX5_word_5 : decode cX5_word 5 = .ok (.getfield 10, 3) := by decide +kernel
theorem dX5_word_8 : decode cX5_word 8 = .ok (.invokevirtual 46, 3) := by decide +kernel
theorem dX5_word_11 : decode cX5_word 11 = .ok (.aload_n 0, 1) := by decide +kernel
theorem dX5_word_12 : decode cX5_word 12 = .ok (.aload_n 0, 1) := by decide +kernel
theorem dX5_word_13 : decode cX5_word 13 = .ok (.getfield 10, 3) := by decide +kernel
theorem dX5_word_16 : decode cX5_word 16 = .ok (.iload_n 1, 1) := by decide +kernel
theorem dX5_word_17 : decode cX5_word 17 = .ok (.invokevirtual 64, 3) := by decide +kernel
theorem dX5_word_20 : decode cX5_word 20 = .ok (.invokevirtual 54, 3) := by decide +kernel
theorem dX5_word_23 : decode cX5_word 23 = .ok (.ireturn, 1) := by decide +kernel
theorem dX5_bow_0 : decode cX5_bow 0 = .ok (.aload_n 0, 1) := by decide +kernel
theorem dX5_bow_1 : decode cX5_bow 1 = .ok (.getfield 16, 3) := by decide +kernel
theorem dX5_bow_4 : decode cX5_bow 4 = .ok (.aload_n 0, 1) := by decide +kernel
theorem dX5_bow_5 : decode cX5_bow 5 = .ok (.getfield 10, 3) := by decide +kernel
theorem dX5_bow_8 : decode cX5_bow 8 = .ok (.invokevirtual 46, 3) := by decide +kernel
theorem dX5_bow_11 : decode cX5_bow 11 = .ok (.aload_n 0, 1) := by decide +kernel
theorem dX5_bow_12 : decode cX5_bow 12 = .ok (.aload_n 0, 1) := by decide +kernel
theorem dX5_bow_13 : decode cX5_bow 13 = .ok (.getfield 10, 3) := by decide +kernel
theorem dX5_bow_16 : decode cX5_bow 16 = .ok (.iload_n 1, 1) := by decide +kernel
theorem dX5_bow_17 : decode cX5_bow 17 = .ok (.iload_n 2, 1) := by decide +kernel
theorem dX5_bow_18 : decode cX5_bow 18 = .ok (.invokevirtual 67, 3) := by decide +kernel
theorem dX5_bow_21 : decode cX5_bow 21 = .ok (.invokevirtual 54, 3) := by decide +kernel
theorem dX5_bow_24 : decode cX5_bow 24 = .ok (.ireturn, 1) := by decide +kernel
theorem dX5_offer_0 : decode cX5_offer 0 = .ok (.aload_n 0, 1) := by decide +kernel
theorem dX5_offer_1 : decode cX5_offer 1 = .ok (.getfield 16, 3) := by decide +kernel
theorem dX5_offer_4 : decode cX5_offer 4 = .ok (.aload_n 0, 1) := by decide +kernel
theorem dX5_offer_5 : decode cX5_offer 5 = .ok (.getfield 10, 3) := by decide +kernel
theorem dX5_offer_8 : decode cX5_offer 8 = .ok (.invokevirtual 46, 3) := by decide +kernel
theorem dX5_offer_11 : decode cX5_offer 11 = .ok (.aload_n 0, 1) := by decide +kernel
theorem dX5_offer_12 : decode cX5_offer 12 = .ok (.aload_n 0, 1) := by decide +kernel
theorem dX5_offer_13 : decode cX5_offer 13 = .ok (.getfield 10, 3) := by decide +kernel
theorem dX5_offer_16 : decode cX5_offer 16 = .ok (.iload_n 1, 1) := by decide +kernel
theorem dX5_offer_17 : decode cX5_offer 17 = .ok (.iload_n 2, 1) := by decide +kernel
theorem dX5_offer_18 : decode cX5_offer 18 = .ok (.invokevirtual 70, 3) := by decide +kernel
theorem dX5_offer_21 : decode cX5_offer 21 = .ok (.invokevirtual 54, 3) := by decide +kernel
theorem dX5_offer_24 : decode cX5_offer 24 = .ok (.ireturn, 1) := by decide +kernel
theorem dX5_breathe_0 : decode cX5_breathe 0 = .ok (.aload_n 0, 1) := by decide +kernel
theorem dX5_breathe_1 : decode cX5_breathe 1 = .ok (.getfield 16, 3) := by decide +kernel
theorem dX5_breathe_4 : decode cX5_breathe 4 = .ok (.aload_n 0, 1) := by decide +kernel
theorem dX5_breathe_5 : decode cX5_breathe 5 = .ok (.getfield 10, 3) := by decide +kernel
theorem dX5_breathe_8 : decode cX5_breathe 8 = .ok (.invokevirtual 46, 3) := by decide +kernel
theorem dX5_breathe_11 : decode cX5_breathe 11 = .ok (.aload_n 0, 1) := by decide +kernel
theorem dX5_breathe_12 : decode cX5_breathe 12 = .ok (.aload_n 0, 1) := by decide +kernel
theorem dX5_breathe_13 : decode cX5_breathe 13 = .ok (.getfield 10, 3) := by decide +kernel
theorem dX5_breathe_16 : decode cX5_breathe 16 = .ok (.iload_n 1, 1) := by decide +kernel
theorem dX5_breathe_17 : decode cX5_breathe 17 = .ok (.invokevirtual 73, 3) := by decide +kernel
theorem dX5_breathe_20 : decode cX5_breathe 20 = .ok (.invokevirtual 54, 3) := by decide +kernel
theorem dX5_breathe_23 : decode cX5_breathe 23 = .ok (.ireturn, 1) := by decide +kernel
theorem dX5_round_0 : decode cX5_round 0 = .ok (.aload_n 0, 1) := by decide +kernel
theorem dX5_round_1 : decode cX5_round 1 = .ok (.getfield 16, 3) := by decide +kernel
theorem dX5_round_4 : decode cX5_round 4 = .ok (.aload_n 0, 1) := by decide +kernel
theorem dX5_round_5 : decode cX5_round 5 = .ok (.getfield 10, 3) := by decide +kernel
theorem dX5_round_8 : decode cX5_round 8 = .ok (.invokevirtual 46, 3) := by decide +kernel
theorem dX5_round_11 : decode cX5_round 11 = .ok (.aload_n 0, 1) := by decide +kernel
theorem dX5_round_12 : decode cX5_round 12 = .ok (.aload_n 0, 1) := by decide +kernel
theorem dX5_round_13 : decode cX5_round 13 = .ok (.getfield 10, 3) := by decide +kernel
theorem dX5_round_16 : decode cX5_round 16 = .ok (.invokevirtual 76, 3) := by decide +kernel
theorem dX5_round_19 : decode cX5_round 19 = .ok (.invokevirtual 54, 3) := by decide +kernel
theorem dX5_round_22 : decode cX5_round 22 = .ok (.ireturn, 1) := by decide +kernel
theorem dX5_seatAnew_0 : decode cX5_seatAnew 0 = .ok (.aload_n 0, 1) := by decide +kernel
theorem dX5_seatAnew_1 : decode cX5_seatAnew 1 = .ok (.getfield 16, 3) := by decide +kernel
theorem dX5_seatAnew_4 : decode cX5_seatAnew 4 = .ok (.aload_n 0, 1) := by decide +kernel
theorem dX5_seatAnew_5 : decode cX5_seatAnew 5 = .ok (.getfield 10, 3) := by decide +kernel
theorem dX5_seatAnew_8 : decode cX5_seatAnew 8 = .ok (.invokevirtual 46, 3) := by decide +kernel
theorem dX5_seatAnew_11 : decode cX5_seatAnew 11 = .ok (.aload_n 0, 1) := by decide +kernel
theorem dX5_seatAnew_12 : decode cX5_seatAnew 12 = .ok (.aload_n 0, 1) := by decide +kernel
theorem dX5_seatAnew_13 : decode cX5_seatAnew 13 = .ok (.getfield 10, 3) := by decide +kernel
theorem dX5_seatAnew_16 : decode cX5_seatAnew 16 = .ok (.invokevirtual 80, 3) := by decide +kernel
theorem dX5_seatAnew_19 : decode cX5_seatAnew 19 = .ok (.invokevirtual 54, 3) := by decide +kernel
theorem dX5_seatAnew_22 : decode cX5_seatAnew 22 = .ok (.ireturn, 1) := by decide +kernel
theorem dX5_recorded_0 : decode cX5_recorded 0 = .ok (.iload_n 1, 1) := by decide +kernel
theorem dX5_recorded_1 : decode cX5_recorded 1 = .ok (.ifCond .lt 14, 3) := by decide +kernel
theorem dX5_recorded_4 : decode cX5_recorded 4 = .ok (.aload_n 0, 1) := by decide +kernel
theorem dX5_recorded_5 : decode cX5_recorded 5 = .ok (.getfield 35, 3) := by decide +kernel
theorem dX5_recorded_8 : decode cX5_recorded 8 = .ok (.aload_n 0, 1) := by decide +kernel
theorem dX5_recorded_9 : decode cX5_recorded 9 = .ok (.getfield 16, 3) := by decide +kernel
theorem dX5_recorded_12 : decode cX5_recorded 12 = .ok (.invokevirtual 83, 3) := by decide +kernel
theorem dX5_recorded_15 : decode cX5_recorded 15 = .ok (.iload_n 1, 1) := by decide +kernel
theorem dX5_recorded_16 : decode cX5_recorded 16 = .ok (.ireturn, 1) := by decide +kernel
theorem dX5_of_0 : decode cX5_of 0 = .ok (.aload_n 0, 1) := by decide +kernel
theorem dX5_of_1 : decode cX5_of 1 = .ok (.getfield 10, 3) := by decide +kernel
theorem dX5_of_4 : decode cX5_of 4 = .ok (.iload_n 1, 1) := by decide +kernel
theorem dX5_of_5 : decode cX5_of 5 = .ok (.iload_n 2, 1) := by decide +kernel
theorem dX5_of_6 : decode cX5_of 6 = .ok (.invokevirtual 86, 3) := by decide +kernel
theorem dX5_of_9 : decode cX5_of 9 = .ok (.ireturn, 1) := by decide +kernel
theorem dX5_owes_0 : decode cX5_owes 0 = .ok (.aload_n 0, 1) := by decide +kernel
theorem dX5_owes_1 : decode cX5_owes 1 = .ok (.getfield 10, 3) := by decide +kernel
theorem dX5_owes_4 : decode cX5_owes 4 = .ok (.iload_n 1, 1) := by decide +kernel
theorem dX5_owes_5 : decode cX5_owes 5 = .ok (.iload_n 2, 1) := by decide +kernel
theorem dX5_owes_6 : decode cX5_owes 6 = .ok (.invokevirtual 89, 3) := by decide +kernel
theorem dX5_owes_9 : decode cX5_owes 9 = .ok (.ireturn, 1) := by decide +kernel
theorem dX5_at_0 : decode cX5_at 0 = .ok (.aload_n 0, 1) := by decide +kernel
theorem dX5_at_1 : decode cX5_at 1 = .ok (.getfield 10, 3) := by decide +kernel
theorem dX5_at_4 : decode cX5_at 4 = .ok (.iload_n 1, 1) := by decide +kernel
theorem dX5_at_5 : decode cX5_at 5 = .ok (.invokevirtual 92, 3) := by decide +kernel
theorem dX5_at_8 : decode cX5_at 8 = .ok (.ireturn, 1) := by decide +kernel
theorem dX5_ranked_0 : decode cX5_ranked 0 = .ok (.aload_n 0, 1) := by decide +kernel
theorem dX5_ranked_1 : decode cX5_ranked 1 = .ok (.getfield 10, 3) := by decide +kernel
theorem dX5_ranked_4 : decode cX5_ranked 4 = .ok (.iload_n 1, 1) := by decide +kernel
theorem dX5_ranked_5 : decode cX5_ranked 5 = .ok (.invokevirtual 95, 3) := by decide +kernel
theorem dX5_ranked_8 : decode cX5_ranked 8 = .ok (.ireturn, 1) := by decide +kernel
theorem dX5_silent_0 : decode cX5_silent 0 = .ok (.iload_n 1, 1) := by decide +kernel
theorem dX5_silent_1 : decode cX5_silent 1 = .ok (.ifCond .ge 8, 3) := by decide +kernel
theorem dX5_silent_4 : decode cX5_silent 4 = .ok (.bipush (-2), 2) := by decide +kernel
theorem dX5_silent_6 : decode cX5_silent 6 = .ok (.goto 11, 3) := by decide +kernel
theorem dX5_silent_9 : decode cX5_silent 9 = .ok (.aload_n 0, 1) := by decide +kernel
theorem dX5_silent_10 : decode cX5_silent 10 = .ok (.getfield 10, 3) := by decide +kernel
theorem dX5_silent_13 : decode cX5_silent 13 = .ok (.iload_n 1, 1) := by decide +kernel
theorem dX5_silent_14 : decode cX5_silent 14 = .ok (.invokevirtual 98, 3) := by decide +kernel
theorem dX5_silent_17 : decode cX5_silent 17 = .ok (.ireturn, 1) := by decide +kernel
theorem dX5_count_0 : decode cX5_count 0 = .ok (.iload_n 1, 1) := by decide +kernel
theorem dX5_count_1 : decode cX5_count 1 = .ok (.lookupswitch 43 #[(17, 27), (18, 35)], 27) := by decide +kernel
theorem dX5_count_28 : decode cX5_count 28 = .ok (.aload_n 0, 1) := by decide +kernel
theorem dX5_count_29 : decode cX5_count 29 = .ok (.getfield 42, 3) := by decide +kernel
theorem dX5_count_32 : decode cX5_count 32 = .ok (.invokevirtual 101, 3) := by decide +kernel
theorem dX5_count_35 : decode cX5_count 35 = .ok (.ireturn, 1) := by decide +kernel
theorem dX5_count_36 : decode cX5_count 36 = .ok (.aload_n 0, 1) := by decide +kernel
theorem dX5_count_37 : decode cX5_count 37 = .ok (.getfield 35, 3) := by decide +kernel
theorem dX5_count_40 : decode cX5_count 40 = .ok (.invokevirtual 104, 3) := by decide +kernel
theorem dX5_count_43 : decode cX5_count 43 = .ok (.ireturn, 1) := by decide +kernel
theorem dX5_count_44 : decode cX5_count 44 = .ok (.aload_n 0, 1) := by decide +kernel
theorem dX5_count_45 : decode cX5_count 45 = .ok (.getfield 10, 3) := by decide +kernel
theorem dX5_count_48 : decode cX5_count 48 = .ok (.iload_n 1, 1) := by decide +kernel
theorem dX5_count_49 : decode cX5_count 49 = .ok (.invokevirtual 107, 3) := by decide +kernel
theorem dX5_count_52 : decode cX5_count 52 = .ok (.ireturn, 1) := by decide +kernel
theorem dX5_why_0 : decode cX5_why 0 = .ok (.aload_n 0, 1) := by decide +kernel
theorem dX5_why_1 : decode cX5_why 1 = .ok (.getfield 10, 3) := by decide +kernel
theorem dX5_why_4 : decode cX5_why 4 = .ok (.iload_n 1, 1) := by decide +kernel
theorem dX5_why_5 : decode cX5_why 5 = .ok (.invokevirtual 110, 3) := by decide +kernel
theorem dX5_why_8 : decode cX5_why 8 = .ok (.ifCond .eq 14, 3) := by decide +kernel
theorem dX5_why_11 : decode cX5_why 11 = .ok (.aload_n 0, 1) := by decide +kernel
theorem dX5_why_12 : decode cX5_why 12 = .ok (.getfield 10, 3) := by decide +kernel
theorem dX5_why_15 : decode cX5_why 15 = .ok (.iload_n 1, 1) := by decide +kernel
theorem dX5_why_16 : decode cX5_why 16 = .ok (.invokevirtual 114, 3) := by decide +kernel
theorem dX5_why_19 : decode cX5_why 19 = .ok (.goto 4, 3) := by decide +kernel
theorem dX5_why_22 : decode cX5_why 22 = .ok (.iconst (-1), 1) := by decide +kernel
theorem dX5_why_23 : decode cX5_why 23 = .ok (.ireturn, 1) := by decide +kernel
theorem dX5_seatedIn_0 : decode cX5_seatedIn 0 = .ok (.aload_n 0, 1) := by decide +kernel
theorem dX5_seatedIn_1 : decode cX5_seatedIn 1 = .ok (.getfield 10, 3) := by decide +kernel
theorem dX5_seatedIn_4 : decode cX5_seatedIn 4 = .ok (.iload_n 1, 1) := by decide +kernel
theorem dX5_seatedIn_5 : decode cX5_seatedIn 5 = .ok (.invokevirtual 110, 3) := by decide +kernel
theorem dX5_seatedIn_8 : decode cX5_seatedIn 8 = .ok (.ifCond .eq 18, 3) := by decide +kernel
theorem dX5_seatedIn_11 : decode cX5_seatedIn 11 = .ok (.iload_n 2, 1) := by decide +kernel
theorem dX5_seatedIn_12 : decode cX5_seatedIn 12 = .ok (.ifCond .lt 14, 3) := by decide +kernel
theorem dX5_seatedIn_15 : decode cX5_seatedIn 15 = .ok (.iload_n 2, 1) := by decide +kernel
theorem dX5_seatedIn_16 : decode cX5_seatedIn 16 = .ok (.aload_n 0, 1) := by decide +kernel
theorem dX5_seatedIn_17 : decode cX5_seatedIn 17 = .ok (.getfield 10, 3) := by decide +kernel
theorem dX5_seatedIn_20 : decode cX5_seatedIn 20 = .ok (.invokevirtual 117, 3) := by decide +kernel
theorem dX5_seatedIn_23 : decode cX5_seatedIn 23 = .ok (.if_icmp .lt 5, 3) := by decide +kernel
theorem dX5_seatedIn_26 : decode cX5_seatedIn 26 = .ok (.iconst (-1), 1) := by decide +kernel
theorem dX5_seatedIn_27 : decode cX5_seatedIn 27 = .ok (.ireturn, 1) := by decide +kernel
theorem dX5_seatedIn_28 : decode cX5_seatedIn 28 = .ok (.aload_n 0, 1) := by decide +kernel
theorem dX5_seatedIn_29 : decode cX5_seatedIn 29 = .ok (.getfield 19, 3) := by decide +kernel
theorem dX5_seatedIn_32 : decode cX5_seatedIn 32 = .ok (.aload_n 0, 1) := by decide +kernel
theorem dX5_seatedIn_33 : decode cX5_seatedIn 33 = .ok (.getfield 10, 3) := by decide +kernel
theorem dX5_seatedIn_36 : decode cX5_seatedIn 36 = .ok (.invokevirtual 46, 3) := by decide +kernel
theorem dX5_seatedIn_39 : decode cX5_seatedIn 39 = .ok (.iconst 0, 1) := by decide +kernel
theorem dX5_seatedIn_40 : decode cX5_seatedIn 40 = .ok (.istore_n 3, 1) := by decide +kernel
theorem dX5_seatedIn_41 : decode cX5_seatedIn 41 = .ok (.iload_n 3, 1) := by decide +kernel
theorem dX5_seatedIn_42 : decode cX5_seatedIn 42 = .ok (.sipush 300, 3) := by decide +kernel
theorem dX5_seatedIn_45 : decode cX5_seatedIn 45 = .ok (.if_icmp .gt 32, 3) := by decide +kernel
theorem dX5_seatedIn_48 : decode cX5_seatedIn 48 = .ok (.aload_n 0, 1) := by decide +kernel
theorem dX5_seatedIn_49 : decode cX5_seatedIn 49 = .ok (.getfield 19, 3) := by decide +kernel
theorem dX5_seatedIn_52 : decode cX5_seatedIn 52 = .ok (.iload_n 1, 1) := by decide +kernel
theorem dX5_seatedIn_53 : decode cX5_seatedIn 53 = .ok (.invokevirtual 120, 3) := by decide +kernel
theorem dX5_seatedIn_56 : decode cX5_seatedIn 56 = .ok (.iload_n 2, 1) := by decide +kernel
theorem dX5_seatedIn_57 : decode cX5_seatedIn 57 = .ok (.if_icmp .gt 5, 3) := by decide +kernel
theorem dX5_seatedIn_60 : decode cX5_seatedIn 60 = .ok (.iload_n 3, 1) := by decide +kernel
theorem dX5_seatedIn_61 : decode cX5_seatedIn 61 = .ok (.ireturn, 1) := by decide +kernel
theorem dX5_seatedIn_62 : decode cX5_seatedIn 62 = .ok (.aload_n 0, 1) := by decide +kernel
theorem dX5_seatedIn_63 : decode cX5_seatedIn 63 = .ok (.getfield 19, 3) := by decide +kernel
theorem dX5_seatedIn_66 : decode cX5_seatedIn 66 = .ok (.iconst 1, 1) := by decide +kernel
theorem dX5_seatedIn_67 : decode cX5_seatedIn 67 = .ok (.invokevirtual 123, 3) := by decide +kernel
theorem dX5_seatedIn_70 : decode cX5_seatedIn 70 = .ok (.pop, 1) := by decide +kernel
theorem dX5_seatedIn_71 : decode cX5_seatedIn 71 = .ok (.iinc 3 1, 3) := by decide +kernel
theorem dX5_seatedIn_74 : decode cX5_seatedIn 74 = .ok (.goto (-33), 3) := by decide +kernel
theorem dX5_seatedIn_77 : decode cX5_seatedIn 77 = .ok (.bipush (-6), 2) := by decide +kernel
theorem dX5_seatedIn_79 : decode cX5_seatedIn 79 = .ok (.ireturn, 1) := by decide +kernel
theorem dX5_ifWord_0 : decode cX5_ifWord 0 = .ok (.aload_n 0, 1) := by decide +kernel
theorem dX5_ifWord_1 : decode cX5_ifWord 1 = .ok (.getfield 10, 3) := by decide +kernel
theorem dX5_ifWord_4 : decode cX5_ifWord 4 = .ok (.iload_n 1, 1) := by decide +kernel
theorem dX5_ifWord_5 : decode cX5_ifWord 5 = .ok (.invokevirtual 110, 3) := by decide +kernel
theorem dX5_ifWord_8 : decode cX5_ifWord 8 = .ok (.ifCond .ne 5, 3) := by decide +kernel
theorem dX5_ifWord_11 : decode cX5_ifWord 11 = .ok (.iconst (-1), 1) := by decide +kernel
theorem dX5_ifWord_12 : decode cX5_ifWord 12 = .ok (.ireturn, 1) := by decide +kernel
theorem dX5_ifWord_13 : decode cX5_ifWord 13 = .ok (.aload_n 0, 1) := by decide +kernel
theorem dX5_ifWord_14 : decode cX5_ifWord 14 = .ok (.getfield 19, 3) := by decide +kernel
theorem dX5_ifWord_17 : decode cX5_ifWord 17 = .ok (.aload_n 0, 1) := by decide +kernel
theorem dX5_ifWord_18 : decode cX5_ifWord 18 = .ok (.getfield 10, 3) := by decide +kernel
theorem dX5_ifWord_21 : decode cX5_ifWord 21 = .ok (.invokevirtual 46, 3) := by decide +kernel
theorem dX5_ifWord_24 : decode cX5_ifWord 24 = .ok (.aload_n 0, 1) := by decide +kernel
theorem dX5_ifWord_25 : decode cX5_ifWord 25 = .ok (.getfield 19, 3) := by decide +kernel
theorem dX5_ifWord_28 : decode cX5_ifWord 28 = .ok (.iload_n 1, 1) := by decide +kernel
theorem dX5_ifWord_29 : decode cX5_ifWord 29 = .ok (.invokevirtual 64, 3) := by decide +kernel
theorem dX5_ifWord_32 : decode cX5_ifWord 32 = .ok (.pop, 1) := by decide +kernel
theorem dX5_ifWord_33 : decode cX5_ifWord 33 = .ok (.aload_n 0, 1) := by decide +kernel
theorem dX5_ifWord_34 : decode cX5_ifWord 34 = .ok (.getfield 19, 3) := by decide +kernel
theorem dX5_ifWord_37 : decode cX5_ifWord 37 = .ok (.iload_n 1, 1) := by decide +kernel
theorem dX5_ifWord_38 : decode cX5_ifWord 38 = .ok (.invokevirtual 120, 3) := by decide +kernel
theorem dX5_ifWord_41 : decode cX5_ifWord 41 = .ok (.ireturn, 1) := by decide +kernel
theorem dX5_ifRound_0 : decode cX5_ifRound 0 = .ok (.iload_n 1, 1) := by decide +kernel
theorem dX5_ifRound_1 : decode cX5_ifRound 1 = .ok (.ifCond .lt 8, 3) := by decide +kernel
theorem dX5_ifRound_4 : decode cX5_ifRound 4 = .ok (.iload_n 1, 1) := by decide +kernel
theorem dX5_ifRound_5 : decode cX5_ifRound 5 = .ok (.iconst 2, 1) := by decide +kernel
theorem dX5_ifRound_6 : decode cX5_ifRound 6 = .ok (.if_icmp .le 6, 3) := by decide +kernel
theorem dX5_ifRound_9 : decode cX5_ifRound 9 = .ok (.bipush (-2), 2) := by decide +kernel
theorem dX5_ifRound_11 : decode cX5_ifRound 11 = .ok (.ireturn, 1) := by decide +kernel
theorem dX5_ifRound_12 : decode cX5_ifRound 12 = .ok (.aload_n 0, 1) := by decide +kernel
theorem dX5_ifRound_13 : decode cX5_ifRound 13 = .ok (.getfield 10, 3) := by decide +kernel
theorem dX5_ifRound_16 : decode cX5_ifRound 16 = .ok (.invokevirtual 117, 3) := by decide +kernel
theorem dX5_ifRound_19 : decode cX5_ifRound 19 = .ok (.ifCond .ne 6, 3) := by decide +kernel
theorem dX5_ifRound_22 : decode cX5_ifRound 22 = .ok (.bipush (-5), 2) := by decide +kernel
theorem dX5_ifRound_24 : decode cX5_ifRound 24 = .ok (.ireturn, 1) := by decide +kernel
theorem dX5_ifRound_25 : decode cX5_ifRound 25 = .ok (.aload_n 0, 1) := by decide +kernel
theorem dX5_ifRound_26 : decode cX5_ifRound 26 = .ok (.getfield 19, 3) := by decide +kernel
theorem dX5_ifRound_29 : decode cX5_ifRound 29 = .ok (.aload_n 0, 1) := by decide +kernel
theorem dX5_ifRound_30 : decode cX5_ifRound 30 = .ok (.getfield 10, 3) := by decide +kernel
theorem dX5_ifRound_33 : decode cX5_ifRound 33 = .ok (.invokevirtual 46, 3) := by decide +kernel
theorem dX5_ifRound_36 : decode cX5_ifRound 36 = .ok (.aload_n 0, 1) := by decide +kernel
theorem dX5_ifRound_37 : decode cX5_ifRound 37 = .ok (.getfield 19, 3) := by decide +kernel
theorem dX5_ifRound_40 : decode cX5_ifRound 40 = .ok (.invokevirtual 126, 3) := by decide +kernel
theorem dX5_ifRound_43 : decode cX5_ifRound 43 = .ok (.istore_n 2, 1) := by decide +kernel
theorem dX5_ifRound_44 : decode cX5_ifRound 44 = .ok (.aload_n 0, 1) := by decide +kernel
theorem dX5_ifRound_45 : decode cX5_ifRound 45 = .ok (.getfield 19, 3) := by decide +kernel
theorem dX5_ifRound_48 : decode cX5_ifRound 48 = .ok (.invokevirtual 80, 3) := by decide +kernel
theorem dX5_ifRound_51 : decode cX5_ifRound 51 = .ok (.pop, 1) := by decide +kernel
theorem dX5_ifRound_52 : decode cX5_ifRound 52 = .ok (.iload_n 1, 1) := by decide +kernel
theorem dX5_ifRound_53 : decode cX5_ifRound 53 = .ok (.lookupswitch 45 #[(0, 27), (1, 29)], 27) := by decide +kernel
theorem dX5_ifRound_80 : decode cX5_ifRound 80 = .ok (.iload_n 2, 1) := by decide +kernel
theorem dX5_ifRound_81 : decode cX5_ifRound 81 = .ok (.ireturn, 1) := by decide +kernel
theorem dX5_ifRound_82 : decode cX5_ifRound 82 = .ok (.aload_n 0, 1) := by decide +kernel
theorem dX5_ifRound_83 : decode cX5_ifRound 83 = .ok (.getfield 19, 3) := by decide +kernel
theorem dX5_ifRound_86 : decode cX5_ifRound 86 = .ok (.invokevirtual 129, 3) := by decide +kernel
theorem dX5_ifRound_89 : decode cX5_ifRound 89 = .ok (.aload_n 0, 1) := by decide +kernel
theorem dX5_ifRound_90 : decode cX5_ifRound 90 = .ok (.getfield 10, 3) := by decide +kernel
theorem dX5_ifRound_93 : decode cX5_ifRound 93 = .ok (.invokevirtual 129, 3) := by decide +kernel
theorem dX5_ifRound_96 : decode cX5_ifRound 96 = .ok (.isub, 1) := by decide +kernel
theorem dX5_ifRound_97 : decode cX5_ifRound 97 = .ok (.ireturn, 1) := by decide +kernel
theorem dX5_ifRound_98 : decode cX5_ifRound 98 = .ok (.aload_n 0, 1) := by decide +kernel
theorem dX5_ifRound_99 : decode cX5_ifRound 99 = .ok (.getfield 19, 3) := by decide +kernel
theorem dX5_ifRound_102 : decode cX5_ifRound 102 = .ok (.iconst 0, 1) := by decide +kernel
theorem dX5_ifRound_103 : decode cX5_ifRound 103 = .ok (.invokevirtual 92, 3) := by decide +kernel
theorem dX5_ifRound_106 : decode cX5_ifRound 106 = .ok (.ireturn, 1) := by decide +kernel
theorem dX5_canLead_0 : decode cX5_canLead 0 = .ok (.iconst 0, 1) := by decide +kernel
theorem dX5_canLead_1 : decode cX5_canLead 1 = .ok (.istore_n 1, 1) := by decide +kernel
theorem dX5_canLead_2 : decode cX5_canLead 2 = .ok (.aload_n 0, 1) := by decide +kernel
theorem dX5_canLead_3 : decode cX5_canLead 3 = .ok (.getfield 19, 3) := by decide +kernel
theorem dX5_canLead_6 : decode cX5_canLead 6 = .ok (.aload_n 0, 1) := by decide +kernel
theorem dX5_canLead_7 : decode cX5_canLead 7 = .ok (.getfield 10, 3) := by decide +kernel
theorem dX5_canLead_10 : decode cX5_canLead 10 = .ok (.invokevirtual 46, 3) := by decide +kernel
theorem dX5_canLead_13 : decode cX5_canLead 13 = .ok (.iconst 0, 1) := by decide +kernel
theorem dX5_canLead_14 : decode cX5_canLead 14 = .ok (.istore_n 2, 1) := by decide +kernel
theorem dX5_canLead_15 : decode cX5_canLead 15 = .ok (.iload_n 2, 1) := by decide +kernel
theorem dX5_canLead_16 : decode cX5_canLead 16 = .ok (.bipush 100, 2) := by decide +kernel
theorem dX5_canLead_18 : decode cX5_canLead 18 = .ok (.if_icmp .gt 37, 3) := by decide +kernel
theorem dX5_canLead_21 : decode cX5_canLead 21 = .ok (.aload_n 0, 1) := by decide +kernel
theorem dX5_canLead_22 : decode cX5_canLead 22 = .ok (.getfield 19, 3) := by decide +kernel
theorem dX5_canLead_25 : decode cX5_canLead 25 = .ok (.iconst 0, 1) := by decide +kernel
theorem dX5_canLead_26 : decode cX5_canLead 26 = .ok (.invokevirtual 95, 3) := by decide +kernel
theorem dX5_canLead_29 : decode cX5_canLead 29 = .ok (.istore_n 3, 1) := by decide +kernel
theorem dX5_canLead_30 : decode cX5_canLead 30 = .ok (.iload_n 3, 1) := by decide +kernel
theorem dX5_canLead_31 : decode cX5_canLead 31 = .ok (.ifCond .lt 9, 3) := by decide +kernel
theorem dX5_canLead_34 : decode cX5_canLead 34 = .ok (.iload_n 1, 1) := by decide +kernel
theorem dX5_canLead_35 : decode cX5_canLead 35 = .ok (.iconst 1, 1) := by decide +kernel
theorem dX5_canLead_36 : decode cX5_canLead 36 = .ok (.iload_n 3, 1) := by decide +kernel
theorem dX5_canLead_37 : decode cX5_canLead 37 = .ok (.ishl, 1) := by decide +kernel
theorem dX5_canLead_38 : decode cX5_canLead 38 = .ok (.ior, 1) := by decide +kernel
theorem dX5_canLead_39 : decode cX5_canLead 39 = .ok (.istore_n 1, 1) := by decide +kernel
theorem dX5_canLead_40 : decode cX5_canLead 40 = .ok (.aload_n 0, 1) := by decide +kernel
theorem dX5_canLead_41 : decode cX5_canLead 41 = .ok (.getfield 19, 3) := by decide +kernel
theorem dX5_canLead_44 : decode cX5_canLead 44 = .ok (.iconst 1, 1) := by decide +kernel
theorem dX5_canLead_45 : decode cX5_canLead 45 = .ok (.invokevirtual 123, 3) := by decide +kernel
theorem dX5_canLead_48 : decode cX5_canLead 48 = .ok (.pop, 1) := by decide +kernel
theorem dX5_canLead_49 : decode cX5_canLead 49 = .ok (.iinc 2 1, 3) := by decide +kernel
theorem dX5_canLead_52 : decode cX5_canLead 52 = .ok (.goto (-37), 3) := by decide +kernel
theorem dX5_canLead_55 : decode cX5_canLead 55 = .ok (.iload_n 1, 1) := by decide +kernel
theorem dX5_canLead_56 : decode cX5_canLead 56 = .ok (.ireturn, 1) := by decide +kernel
theorem dX5_undo_0 : decode cX5_undo 0 = .ok (.aload_n 0, 1) := by decide +kernel
theorem dX5_undo_1 : decode cX5_undo 1 = .ok (.getfield 35, 3) := by decide +kernel
theorem dX5_undo_4 : decode cX5_undo 4 = .ok (.aload_n 0, 1) := by decide +kernel
theorem dX5_undo_5 : decode cX5_undo 5 = .ok (.getfield 10, 3) := by decide +kernel
theorem dX5_undo_8 : decode cX5_undo 8 = .ok (.invokevirtual 160, 3) := by decide +kernel
theorem dX5_undo_11 : decode cX5_undo 11 = .ok (.ireturn, 1) := by decide +kernel
theorem dX5_save_0 : decode cX5_save 0 = .ok (.iload_n 1, 1) := by decide +kernel
theorem dX5_save_1 : decode cX5_save 1 = .ok (.ifCond .lt 8, 3) := by decide +kernel
theorem dX5_save_4 : decode cX5_save 4 = .ok (.iload_n 1, 1) := by decide +kernel
theorem dX5_save_5 : decode cX5_save 5 = .ok (.iconst 1, 1) := by decide +kernel
theorem dX5_save_6 : decode cX5_save 6 = .ok (.if_icmp .le 6, 3) := by decide +kernel
theorem dX5_save_9 : decode cX5_save 9 = .ok (.bipush (-2), 2) := by decide +kernel
theorem dX5_save_11 : decode cX5_save 11 = .ok (.ireturn, 1) := by decide +kernel
theorem dX5_save_12 : decode cX5_save 12 = .ok (.aload_n 0, 1) := by decide +kernel
theorem dX5_save_13 : decode cX5_save 13 = .ok (.iload_n 1, 1) := by decide +kernel
theorem dX5_save_14 : decode cX5_save 14 = .ok (.invokevirtual 164, 3) := by decide +kernel
theorem dX5_save_17 : decode cX5_save 17 = .ok (.aload_n 0, 1) := by decide +kernel
theorem dX5_save_18 : decode cX5_save 18 = .ok (.getfield 10, 3) := by decide +kernel
theorem dX5_save_21 : decode cX5_save 21 = .ok (.invokevirtual 168, 3) := by decide +kernel
theorem dX5_save_24 : decode cX5_save 24 = .ok (.aload_n 0, 1) := by decide +kernel
theorem dX5_save_25 : decode cX5_save 25 = .ok (.getfield 10, 3) := by decide +kernel
theorem dX5_save_28 : decode cX5_save 28 = .ok (.invokevirtual 117, 3) := by decide +kernel
theorem dX5_save_31 : decode cX5_save 31 = .ok (.ireturn, 1) := by decide +kernel
theorem dX5_restore_0 : decode cX5_restore 0 = .ok (.iload_n 1, 1) := by decide +kernel
theorem dX5_restore_1 : decode cX5_restore 1 = .ok (.ifCond .lt 8, 3) := by decide +kernel
theorem dX5_restore_4 : decode cX5_restore 4 = .ok (.iload_n 1, 1) := by decide +kernel
theorem dX5_restore_5 : decode cX5_restore 5 = .ok (.iconst 1, 1) := by decide +kernel
theorem dX5_restore_6 : decode cX5_restore 6 = .ok (.if_icmp .le 6, 3) := by decide +kernel
theorem dX5_restore_9 : decode cX5_restore 9 = .ok (.bipush (-2), 2) := by decide +kernel
theorem dX5_restore_11 : decode cX5_restore 11 = .ok (.ireturn, 1) := by decide +kernel
theorem dX5_restore_12 : decode cX5_restore 12 = .ok (.aload_n 0, 1) := by decide +kernel
theorem dX5_restore_13 : decode cX5_restore 13 = .ok (.iload_n 1, 1) := by decide +kernel
theorem dX5_restore_14 : decode cX5_restore 14 = .ok (.invokevirtual 164, 3) := by decide +kernel
theorem dX5_restore_17 : decode cX5_restore 17 = .ok (.invokevirtual 171, 3) := by decide +kernel
theorem dX5_restore_20 : decode cX5_restore 20 = .ok (.ifCond .ne 6, 3) := by decide +kernel
theorem dX5_restore_23 : decode cX5_restore 23 = .ok (.bipush (-5), 2) := by decide +kernel
theorem dX5_restore_25 : decode cX5_restore 25 = .ok (.ireturn, 1) := by decide +kernel
theorem dX5_restore_26 : decode cX5_restore 26 = .ok (.aload_n 0, 1) := by decide +kernel
theorem dX5_restore_27 : decode cX5_restore 27 = .ok (.getfield 16, 3) := by decide +kernel
theorem dX5_restore_30 : decode cX5_restore 30 = .ok (.aload_n 0, 1) := by decide +kernel
theorem dX5_restore_31 : decode cX5_restore 31 = .ok (.getfield 10, 3) := by decide +kernel
theorem dX5_restore_34 : decode cX5_restore 34 = .ok (.invokevirtual 46, 3) := by decide +kernel
theorem dX5_restore_37 : decode cX5_restore 37 = .ok (.aload_n 0, 1) := by decide +kernel
theorem dX5_restore_38 : decode cX5_restore 38 = .ok (.iload_n 1, 1) := by decide +kernel
theorem dX5_restore_39 : decode cX5_restore 39 = .ok (.invokevirtual 164, 3) := by decide +kernel
theorem dX5_restore_42 : decode cX5_restore 42 = .ok (.aload_n 0, 1) := by decide +kernel
theorem dX5_restore_43 : decode cX5_restore 43 = .ok (.getfield 10, 3) := by decide +kernel
theorem dX5_restore_46 : decode cX5_restore 46 = .ok (.invokevirtual 175, 3) := by decide +kernel
theorem dX5_restore_49 : decode cX5_restore 49 = .ok (.aload_n 0, 1) := by decide +kernel
theorem dX5_restore_50 : decode cX5_restore 50 = .ok (.aload_n 0, 1) := by decide +kernel
theorem dX5_restore_51 : decode cX5_restore 51 = .ok (.getfield 10, 3) := by decide +kernel
theorem dX5_restore_54 : decode cX5_restore 54 = .ok (.invokevirtual 117, 3) := by decide +kernel
theorem dX5_restore_57 : decode cX5_restore 57 = .ok (.invokevirtual 54, 3) := by decide +kernel
theorem dX5_restore_60 : decode cX5_restore 60 = .ok (.ireturn, 1) := by decide +kernel
theorem dX5_slotNumbered_0 : decode cX5_slotNumbered 0 = .ok (.iload_n 1, 1) := by decide +kernel
theorem dX5_slotNumbered_1 : decode cX5_slotNumbered 1 = .ok (.ifCond .ne 10, 3) := by decide +kernel
theorem dX5_slotNumbered_4 : decode cX5_slotNumbered 4 = .ok (.aload_n 0, 1) := by decide +kernel
theorem dX5_slotNumbered_5 : decode cX5_slotNumbered 5 = .ok (.getfield 25, 3) := by decide +kernel
theorem dX5_slotNumbered_8 : decode cX5_slotNumbered 8 = .ok (.goto 7, 3) := by decide +kernel
theorem dX5_slotNumbered_11 : decode cX5_slotNumbered 11 = .ok (.aload_n 0, 1) := by decide +kernel
theorem dX5_slotNumbered_12 : decode cX5_slotNumbered 12 = .ok (.getfield 29, 3) := by decide +kernel
theorem dX5_slotNumbered_15 : decode cX5_slotNumbered 15 = .ok (.areturn, 1) := by decide +kernel
theorem dJ6_bitCount_0f7a4_0 : decode cJ6_bitCount_0f7a4 0 = .ok (.iload_n 0, 1) := by decide +kernel
theorem dJ6_bitCount_0f7a4_1 : decode cJ6_bitCount_0f7a4 1 = .ok (.iload_n 0, 1) := by decide +kernel
theorem dJ6_bitCount_0f7a4_2 : decode cJ6_bitCount_0f7a4 2 = .ok (.iconst 1, 1) := by decide +kernel
theorem dJ6_bitCount_0f7a4_3 : decode cJ6_bitCount_0f7a4 3 = .ok (.iushr, 1) := by decide +kernel
theorem dJ6_bitCount_0f7a4_4 : decode cJ6_bitCount_0f7a4 4 = .ok (.ldc_w 265, 3) := by decide +kernel
theorem dJ6_bitCount_0f7a4_7 : decode cJ6_bitCount_0f7a4 7 = .ok (.iand, 1) := by decide +kernel
theorem dJ6_bitCount_0f7a4_8 : decode cJ6_bitCount_0f7a4 8 = .ok (.isub, 1) := by decide +kernel
theorem dJ6_bitCount_0f7a4_9 : decode cJ6_bitCount_0f7a4 9 = .ok (.istore_n 0, 1) := by decide +kernel
theorem dJ6_bitCount_0f7a4_10 : decode cJ6_bitCount_0f7a4 10 = .ok (.iload_n 0, 1) := by decide +kernel
theorem dJ6_bitCount_0f7a4_11 : decode cJ6_bitCount_0f7a4 11 = .ok (.ldc_w 266, 3) := by decide +kernel
theorem dJ6_bitCount_0f7a4_14 : decode cJ6_bitCount_0f7a4 14 = .ok (.iand, 1) := by decide +kernel
theorem dJ6_bitCount_0f7a4_15 : decode cJ6_bitCount_0f7a4 15 = .ok (.iload_n 0, 1) := by decide +kernel
theorem dJ6_bitCount_0f7a4_16 : decode cJ6_bitCount_0f7a4 16 = .ok (.iconst 2, 1) := by decide +kernel
theorem dJ6_bitCount_0f7a4_17 : decode cJ6_bitCount_0f7a4 17 = .ok (.iushr, 1) := by decide +kernel
theorem dJ6_bitCount_0f7a4_18 : decode cJ6_bitCount_0f7a4 18 = .ok (.ldc_w 266, 3) := by decide +kernel
theorem dJ6_bitCount_0f7a4_21 : decode cJ6_bitCount_0f7a4 21 = .ok (.iand, 1) := by decide +kernel
theorem dJ6_bitCount_0f7a4_22 : decode cJ6_bitCount_0f7a4 22 = .ok (.iadd, 1) := by decide +kernel
theorem dJ6_bitCount_0f7a4_23 : decode cJ6_bitCount_0f7a4 23 = .ok (.istore_n 0, 1) := by decide +kernel
theorem dJ6_bitCount_0f7a4_24 : decode cJ6_bitCount_0f7a4 24 = .ok (.iload_n 0, 1) := by decide +kernel
theorem dJ6_bitCount_0f7a4_25 : decode cJ6_bitCount_0f7a4 25 = .ok (.iload_n 0, 1) := by decide +kernel
theorem dJ6_bitCount_0f7a4_26 : decode cJ6_bitCount_0f7a4 26 = .ok (.iconst 4, 1) := by decide +kernel
theorem dJ6_bitCount_0f7a4_27 : decode cJ6_bitCount_0f7a4 27 = .ok (.iushr, 1) := by decide +kernel
theorem dJ6_bitCount_0f7a4_28 : decode cJ6_bitCount_0f7a4 28 = .ok (.iadd, 1) := by decide +kernel
theorem dJ6_bitCount_0f7a4_29 : decode cJ6_bitCount_0f7a4 29 = .ok (.ldc_w 267, 3) := by decide +kernel
theorem dJ6_bitCount_0f7a4_32 : decode cJ6_bitCount_0f7a4 32 = .ok (.iand, 1) := by decide +kernel
theorem dJ6_bitCount_0f7a4_33 : decode cJ6_bitCount_0f7a4 33 = .ok (.istore_n 0, 1) := by decide +kernel
theorem dJ6_bitCount_0f7a4_34 : decode cJ6_bitCount_0f7a4 34 = .ok (.iload_n 0, 1) := by decide +kernel
theorem dJ6_bitCount_0f7a4_35 : decode cJ6_bitCount_0f7a4 35 = .ok (.iload_n 0, 1) := by decide +kernel
theorem dJ6_bitCount_0f7a4_36 : decode cJ6_bitCount_0f7a4 36 = .ok (.bipush 8, 2) := by decide +kernel
theorem dJ6_bitCount_0f7a4_38 : decode cJ6_bitCount_0f7a4 38 = .ok (.iushr, 1) := by decide +kernel
theorem dJ6_bitCount_0f7a4_39 : decode cJ6_bitCount_0f7a4 39 = .ok (.iadd, 1) := by decide +kernel
theorem dJ6_bitCount_0f7a4_40 : decode cJ6_bitCount_0f7a4 40 = .ok (.istore_n 0, 1) := by decide +kernel
theorem dJ6_bitCount_0f7a4_41 : decode cJ6_bitCount_0f7a4 41 = .ok (.iload_n 0, 1) := by decide +kernel
theorem dJ6_bitCount_0f7a4_42 : decode cJ6_bitCount_0f7a4 42 = .ok (.iload_n 0, 1) := by decide +kernel
theorem dJ6_bitCount_0f7a4_43 : decode cJ6_bitCount_0f7a4 43 = .ok (.bipush 16, 2) := by decide +kernel
theorem dJ6_bitCount_0f7a4_45 : decode cJ6_bitCount_0f7a4 45 = .ok (.iushr, 1) := by decide +kernel
theorem dJ6_bitCount_0f7a4_46 : decode cJ6_bitCount_0f7a4 46 = .ok (.iadd, 1) := by decide +kernel
theorem dJ6_bitCount_0f7a4_47 : decode cJ6_bitCount_0f7a4 47 = .ok (.istore_n 0, 1) := by decide +kernel
theorem dJ6_bitCount_0f7a4_48 : decode cJ6_bitCount_0f7a4 48 = .ok (.iload_n 0, 1) := by decide +kernel
theorem dJ6_bitCount_0f7a4_49 : decode cJ6_bitCount_0f7a4 49 = .ok (.bipush 63, 2) := by decide +kernel
theorem dJ6_bitCount_0f7a4_51 : decode cJ6_bitCount_0f7a4 51 = .ok (.iand, 1) := by decide +kernel
theorem dJ6_bitCount_0f7a4_52 : decode cJ6_bitCount_0f7a4 52 = .ok (.ireturn, 1) := by decide +kernel
theorem dJ9_min_7cf53_0 : decode cJ9_min_7cf53 0 = .ok (.iload_n 0, 1) := by decide +kernel
theorem dJ9_min_7cf53_1 : decode cJ9_min_7cf53 1 = .ok (.iload_n 1, 1) := by decide +kernel
theorem dJ9_min_7cf53_2 : decode cJ9_min_7cf53 2 = .ok (.if_icmp .gt 7, 3) := by decide +kernel
theorem dJ9_min_7cf53_5 : decode cJ9_min_7cf53 5 = .ok (.iload_n 0, 1) := by decide +kernel
theorem dJ9_min_7cf53_6 : decode cJ9_min_7cf53 6 = .ok (.goto 4, 3) := by decide +kernel
theorem dJ9_min_7cf53_9 : decode cJ9_min_7cf53 9 = .ok (.iload_n 1, 1) := by decide +kernel
theorem dJ9_min_7cf53_10 : decode cJ9_min_7cf53 10 = .ok (.ireturn, 1) := by decide +kernel
