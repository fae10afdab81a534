/-! Part 02: decode rows of the class. -/
theorem dd_D_withdraw_36 : decode cd_D_withdraw 36 = .ok (.astore_n 2, 1) := by decide +kernel
theorem dd_D_withdraw_37 : decode cd_D_withdraw 37 = .ok (.aload_n 2, 1) := by decide +kernel
theorem dd_D_withdraw_38 : decode cd_D_withdraw 38 = .ok (.ifnull 21, 3) := by decide +kernel
theorem dd_D_withdraw_41 : decode cd_D_withdraw 41 = .ok (.aload_n 2, 1) := by decide +kernel
theorem dd_D_withdraw_42 : decode cd_D_withdraw 42 = .ok (.dup, 1) := by decide +kernel
theorem dd_D_withdraw_43 : decode cd_D_withdraw 43 = .ok (.getfield 59, 3) := by decide +kernel
theorem dd_D_withdraw_46 : decode cd_D_withdraw 46 = .ok (.iconst 1, 1) := by decide +kernel
theorem dd_D_withdraw_47 : decode cd_D_withdraw 47 = .ok (.isub, 1) := by decide +kernel
theorem dd_D_withdraw_48 : decode cd_D_withdraw 48 = .ok (.putfield 59, 3) := by decide +kernel
theorem dd_D_withdraw_51 : decode cd_D_withdraw 51 = .ok (.aload_n 2, 1) := by decide +kernel
theorem dd_D_withdraw_52 : decode cd_D_withdraw 52 = .ok (.getfield 62, 3) := by decide +kernel
theorem dd_D_withdraw_55 : decode cd_D_withdraw 55 = .ok (.astore_n 2, 1) := by decide +kernel
theorem dd_D_withdraw_56 : decode cd_D_withdraw 56 = .ok (.goto (-19), 3) := by decide +kernel
theorem dd_D_withdraw_59 : decode cd_D_withdraw 59 = .ok (.return_, 1) := by decide +kernel
theorem dd_D_conclude_0 : decode cd_D_conclude 0 = .ok (.aload_n 1, 1) := by decide +kernel
theorem dd_D_conclude_1 : decode cd_D_conclude 1 = .ok (.iload_n 2, 1) := by decide +kernel
theorem dd_D_conclude_2 : decode cd_D_conclude 2 = .ok (.putfield 91, 3) := by decide +kernel
theorem dd_D_conclude_5 : decode cd_D_conclude 5 = .ok (.aload_n 1, 1) := by decide +kernel
theorem dd_D_conclude_6 : decode cd_D_conclude 6 = .ok (.getfield 110, 3) := by decide +kernel
theorem dd_D_conclude_9 : decode cd_D_conclude 9 = .ok (.ifnull 11, 3) := by decide +kernel
theorem dd_D_conclude_12 : decode cd_D_conclude 12 = .ok (.aload_n 1, 1) := by decide +kernel
theorem dd_D_conclude_13 : decode cd_D_conclude 13 = .ok (.getfield 110, 3) := by decide +kernel
theorem dd_D_conclude_16 : decode cd_D_conclude 16 = .ok (.iconst 3, 1) := by decide +kernel
theorem dd_D_conclude_17 : decode cd_D_conclude 17 = .ok (.putfield 91, 3) := by decide +kernel
theorem dd_D_conclude_20 : decode cd_D_conclude 20 = .ok (.aload_n 1, 1) := by decide +kernel
theorem dd_D_conclude_21 : decode cd_D_conclude 21 = .ok (.getfield 77, 3) := by decide +kernel
theorem dd_D_conclude_24 : decode cd_D_conclude 24 = .ok (.ifnull 24, 3) := by decide +kernel
theorem dd_D_conclude_27 : decode cd_D_conclude 27 = .ok (.aload_n 1, 1) := by decide +kernel
theorem dd_D_conclude_28 : decode cd_D_conclude 28 = .ok (.getfield 77, 3) := by decide +kernel
theorem dd_D_conclude_31 : decode cd_D_conclude 31 = .ok (.dup, 1) := by decide +kernel
theorem dd_D_conclude_32 : decode cd_D_conclude 32 = .ok (.getfield 81, 3) := by decide +kernel
theorem dd_D_conclude_35 : decode cd_D_conclude 35 = .ok (.iconst 1, 1) := by decide +kernel
theorem dd_D_conclude_36 : decode cd_D_conclude 36 = .ok (.isub, 1) := by decide +kernel
theorem dd_D_conclude_37 : decode cd_D_conclude 37 = .ok (.putfield 81, 3) := by decide +kernel
theorem dd_D_conclude_40 : decode cd_D_conclude 40 = .ok (.aload_n 0, 1) := by decide +kernel
theorem dd_D_conclude_41 : decode cd_D_conclude 41 = .ok (.aload_n 1, 1) := by decide +kernel
theorem dd_D_conclude_42 : decode cd_D_conclude 42 = .ok (.getfield 77, 3) := by decide +kernel
theorem dd_D_conclude_45 : decode cd_D_conclude 45 = .ok (.invokevirtual 123, 3) := by decide +kernel
theorem dd_D_conclude_48 : decode cd_D_conclude 48 = .ok (.return_, 1) := by decide +kernel
theorem dd_D_releaseIfEmpty_0 : decode cd_D_releaseIfEmpty 0 = .ok (.aload_n 1, 1) := by decide +kernel
theorem dd_D_releaseIfEmpty_1 : decode cd_D_releaseIfEmpty 1 = .ok (.invokevirtual 114, 3) := by decide +kernel
theorem dd_D_releaseIfEmpty_4 : decode cd_D_releaseIfEmpty 4 = .ok (.ifCond .ne 4, 3) := by decide +kernel
theorem dd_D_releaseIfEmpty_7 : decode cd_D_releaseIfEmpty 7 = .ok (.return_, 1) := by decide +kernel
theorem dd_D_releaseIfEmpty_8 : decode cd_D_releaseIfEmpty 8 = .ok (.iconst 0, 1) := by decide +kernel
theorem dd_D_releaseIfEmpty_9 : decode cd_D_releaseIfEmpty 9 = .ok (.istore_n 2, 1) := by decide +kernel
theorem dd_D_releaseIfEmpty_10 : decode cd_D_releaseIfEmpty 10 = .ok (.iload_n 2, 1) := by decide +kernel
theorem dd_D_releaseIfEmpty_11 : decode cd_D_releaseIfEmpty 11 = .ok (.aload_n 0, 1) := by decide +kernel
theorem dd_D_releaseIfEmpty_12 : decode cd_D_releaseIfEmpty 12 = .ok (.getfield 181, 3) := by decide +kernel
theorem dd_D_releaseIfEmpty_15 : decode cd_D_releaseIfEmpty 15 = .ok (.if_icmp .ge 44, 3) := by decide +kernel
theorem dd_D_releaseIfEmpty_18 : decode cd_D_releaseIfEmpty 18 = .ok (.aload_n 0, 1) := by decide +kernel
theorem dd_D_releaseIfEmpty_19 : decode cd_D_releaseIfEmpty 19 = .ok (.getfield 30, 3) := by decide +kernel
theorem dd_D_releaseIfEmpty_22 : decode cd_D_releaseIfEmpty 22 = .ok (.iload_n 2, 1) := by decide +kernel
theorem dd_D_releaseIfEmpty_23 : decode cd_D_releaseIfEmpty 23 = .ok (.aaload, 1) := by decide +kernel
theorem dd_D_releaseIfEmpty_24 : decode cd_D_releaseIfEmpty 24 = .ok (.getfield 91, 3) := by decide +kernel
theorem dd_D_releaseIfEmpty_27 : decode cd_D_releaseIfEmpty 27 = .ok (.ifCond .ne 26, 3) := by decide +kernel
theorem dd_D_releaseIfEmpty_30 : decode cd_D_releaseIfEmpty 30 = .ok (.aload_n 0, 1) := by decide +kernel
theorem dd_D_releaseIfEmpty_31 : decode cd_D_releaseIfEmpty 31 = .ok (.getfield 30, 3) := by decide +kernel
theorem dd_D_releaseIfEmpty_34 : decode cd_D_releaseIfEmpty 34 = .ok (.iload_n 2, 1) := by decide +kernel
theorem dd_D_releaseIfEmpty_35 : decode cd_D_releaseIfEmpty 35 = .ok (.aaload, 1) := by decide +kernel
theorem dd_D_releaseIfEmpty_36 : decode cd_D_releaseIfEmpty 36 = .ok (.getfield 117, 3) := by decide +kernel
theorem dd_D_releaseIfEmpty_39 : decode cd_D_releaseIfEmpty 39 = .ok (.aload_n 1, 1) := by decide +kernel
theorem dd_D_releaseIfEmpty_40 : decode cd_D_releaseIfEmpty 40 = .ok (.if_acmp .ne 13, 3) := by decide +kernel
theorem dd_D_releaseIfEmpty_43 : decode cd_D_releaseIfEmpty 43 = .ok (.aload_n 0, 1) := by decide +kernel
theorem dd_D_releaseIfEmpty_44 : decode cd_D_releaseIfEmpty 44 = .ok (.aload_n 0, 1) := by decide +kernel
theorem dd_D_releaseIfEmpty_45 : decode cd_D_releaseIfEmpty 45 = .ok (.getfield 30, 3) := by decide +kernel
theorem dd_D_releaseIfEmpty_48 : decode cd_D_releaseIfEmpty 48 = .ok (.iload_n 2, 1) := by decide +kernel
theorem dd_D_releaseIfEmpty_49 : decode cd_D_releaseIfEmpty 49 = .ok (.aaload, 1) := by decide +kernel
theorem dd_D_releaseIfEmpty_50 : decode cd_D_releaseIfEmpty 50 = .ok (.invokevirtual 84, 3) := by decide +kernel
theorem dd_D_releaseIfEmpty_53 : decode cd_D_releaseIfEmpty 53 = .ok (.iinc 2 1, 3) := by decide +kernel
theorem dd_D_releaseIfEmpty_56 : decode cd_D_releaseIfEmpty 56 = .ok (.goto (-46), 3) := by decide +kernel
theorem dd_D_releaseIfEmpty_59 : decode cd_D_releaseIfEmpty 59 = .ok (.return_, 1) := by decide +kernel
theorem dd_B_init_0 : decode cd_B_init 0 = .ok (.aload_n 0, 1) := by decide +kernel
theorem dd_B_init_1 : decode cd_B_init 1 = .ok (.invokespecial 3, 3) := by decide +kernel
theorem dd_B_init_4 : decode cd_B_init 4 = .ok (.aload_n 0, 1) := by decide +kernel
theorem dd_B_init_5 : decode cd_B_init 5 = .ok (.iload_n 1, 1) := by decide +kernel
theorem dd_B_init_6 : decode cd_B_init 6 = .ok (.putfield 9, 3) := by decide +kernel
theorem dd_B_init_9 : decode cd_B_init 9 = .ok (.aload_n 0, 1) := by decide +kernel
theorem dd_B_init_10 : decode cd_B_init 10 = .ok (.aload_n 2, 1) := by decide +kernel
theorem dd_B_init_11 : decode cd_B_init 11 = .ok (.putfield 15, 3) := by decide +kernel
theorem dd_B_init_14 : decode cd_B_init 14 = .ok (.aload_n 0, 1) := by decide +kernel
theorem dd_B_init_15 : decode cd_B_init 15 = .ok (.iload_n 3, 1) := by decide +kernel
theorem dd_B_init_16 : decode cd_B_init 16 = .ok (.putfield 19, 3) := by decide +kernel
theorem dd_B_init_19 : decode cd_B_init 19 = .ok (.return_, 1) := by decide +kernel
theorem dd_B_isAhead_0 : decode cd_B_isAhead 0 = .ok (.aload_n 0, 1) := by decide +kernel
theorem dd_B_isAhead_1 : decode cd_B_isAhead 1 = .ok (.getfield 23, 3) := by decide +kernel
theorem dd_B_isAhead_4 : decode cd_B_isAhead 4 = .ok (.ifCond .eq 19, 3) := by decide +kernel
theorem dd_B_isAhead_7 : decode cd_B_isAhead 7 = .ok (.aload_n 0, 1) := by decide +kernel
theorem dd_B_isAhead_8 : decode cd_B_isAhead 8 = .ok (.getfield 23, 3) := by decide +kernel
theorem dd_B_isAhead_11 : decode cd_B_isAhead 11 = .ok (.iconst 1, 1) := by decide +kernel
theorem dd_B_isAhead_12 : decode cd_B_isAhead 12 = .ok (.if_icmp .eq 11, 3) := by decide +kernel
theorem dd_B_isAhead_15 : decode cd_B_isAhead 15 = .ok (.aload_n 0, 1) := by decide +kernel
theorem dd_B_isAhead_16 : decode cd_B_isAhead 16 = .ok (.getfield 23, 3) := by decide +kernel
theorem dd_B_isAhead_19 : decode cd_B_isAhead 19 = .ok (.iconst 2, 1) := by decide +kernel
theorem dd_B_isAhead_20 : decode cd_B_isAhead 20 = .ok (.if_icmp .ne 7, 3) := by decide +kernel
theorem dd_B_isAhead_23 : decode cd_B_isAhead 23 = .ok (.iconst 1, 1) := by decide +kernel
theorem dd_B_isAhead_24 : decode cd_B_isAhead 24 = .ok (.goto 4, 3) := by decide +kernel
theorem dd_B_isAhead_27 : decode cd_B_isAhead 27 = .ok (.iconst 0, 1) := by decide +kernel
theorem dd_B_isAhead_28 : decode cd_B_isAhead 28 = .ok (.ireturn, 1) := by decide +kernel
theorem dd_B_isLetIn_0 : decode cd_B_isLetIn 0 = .ok (.aload_n 0, 1) := by decide +kernel
theorem dd_B_isLetIn_1 : decode cd_B_isLetIn 1 = .ok (.getfield 19, 3) := by decide +kernel
theorem dd_B_isLetIn_4 : decode cd_B_isLetIn 4 = .ok (.ifCond .eq 15, 3) := by decide +kernel
theorem dd_B_isLetIn_7 : decode cd_B_isLetIn 7 = .ok (.aload_n 0, 1) := by decide +kernel
theorem dd_B_isLetIn_8 : decode cd_B_isLetIn 8 = .ok (.getfield 15, 3) := by decide +kernel
theorem dd_B_isLetIn_11 : decode cd_B_isLetIn 11 = .ok (.getfield 26, 3) := by decide +kernel
theorem dd_B_isLetIn_14 : decode cd_B_isLetIn 14 = .ok (.ifCond .le 5, 3) := by decide +kernel
theorem dd_B_isLetIn_17 : decode cd_B_isLetIn 17 = .ok (.iconst 0, 1) := by decide +kernel
theorem dd_B_isLetIn_18 : decode cd_B_isLetIn 18 = .ok (.ireturn, 1) := by decide +kernel
theorem dd_B_isLetIn_19 : decode cd_B_isLetIn 19 = .ok (.aload_n 0, 1) := by decide +kernel
theorem dd_B_isLetIn_20 : decode cd_B_isLetIn 20 = .ok (.getfield 15, 3) := by decide +kernel
theorem dd_B_isLetIn_23 : decode cd_B_isLetIn 23 = .ok (.astore_n 1, 1) := by decide +kernel
theorem dd_B_isLetIn_24 : decode cd_B_isLetIn 24 = .ok (.aload_n 1, 1) := by decide +kernel
theorem dd_B_isLetIn_25 : decode cd_B_isLetIn 25 = .ok (.ifnull 51, 3) := by decide +kernel
theorem dd_B_isLetIn_28 : decode cd_B_isLetIn 28 = .ok (.aload_n 1, 1) := by decide +kernel
theorem dd_B_isLetIn_29 : decode cd_B_isLetIn 29 = .ok (.getfield 31, 3) := by decide +kernel
theorem dd_B_isLetIn_32 : decode cd_B_isLetIn 32 = .ok (.ifCond .gt 17, 3) := by decide +kernel
theorem dd_B_isLetIn_35 : decode cd_B_isLetIn 35 = .ok (.aload_n 1, 1) := by decide +kernel
theorem dd_B_isLetIn_36 : decode cd_B_isLetIn 36 = .ok (.invokevirtual 34, 3) := by decide +kernel
theorem dd_B_isLetIn_39 : decode cd_B_isLetIn 39 = .ok (.ifCond .eq 10, 3) := by decide +kernel
theorem dd_B_isLetIn_42 : decode cd_B_isLetIn 42 = .ok (.aload_n 1, 1) := by decide +kernel
theorem dd_B_isLetIn_43 : decode cd_B_isLetIn 43 = .ok (.getfield 38, 3) := by decide +kernel
theorem dd_B_isLetIn_46 : decode cd_B_isLetIn 46 = .ok (.ifCond .eq 5, 3) := by decide +kernel
theorem dd_B_isLetIn_49 : decode cd_B_isLetIn 49 = .ok (.iconst 0, 1) := by decide +kernel
theorem dd_B_isLetIn_50 : decode cd_B_isLetIn 50 = .ok (.ireturn, 1) := by decide +kernel
theorem dd_B_isLetIn_51 : decode cd_B_isLetIn 51 = .ok (.aload_n 1, 1) := by decide +kernel
theorem dd_B_isLetIn_52 : decode cd_B_isLetIn 52 = .ok (.aload_n 0, 1) := by decide +kernel
theorem dd_B_isLetIn_53 : decode cd_B_isLetIn 53 = .ok (.getfield 15, 3) := by decide +kernel
theorem dd_B_isLetIn_56 : decode cd_B_isLetIn 56 = .ok (.if_acmp .eq 12, 3) := by decide +kernel
theorem dd_B_isLetIn_59 : decode cd_B_isLetIn 59 = .ok (.aload_n 1, 1) := by decide +kernel
theorem dd_B_isLetIn_60 : decode cd_B_isLetIn 60 = .ok (.invokevirtual 41, 3) := by decide +kernel
theorem dd_B_isLetIn_63 : decode cd_B_isLetIn 63 = .ok (.ifCond .eq 5, 3) := by decide +kernel
theorem dd_B_isLetIn_66 : decode cd_B_isLetIn 66 = .ok (.iconst 0, 1) := by decide +kernel
theorem dd_B_isLetIn_67 : decode cd_B_isLetIn 67 = .ok (.ireturn, 1) := by decide +kernel
theorem dd_B_isLetIn_68 : decode cd_B_isLetIn 68 = .ok (.aload_n 1, 1) := by decide +kernel
theorem dd_B_isLetIn_69 : decode cd_B_isLetIn 69 = .ok (.getfield 44, 3) := by decide +kernel
theorem dd_B_isLetIn_72 : decode cd_B_isLetIn 72 = .ok (.astore_n 1, 1) := by decide +kernel
theorem dd_B_isLetIn_73 : decode cd_B_isLetIn 73 = .ok (.goto (-49), 3) := by decide +kernel
theorem dd_B_isLetIn_76 : decode cd_B_isLetIn 76 = .ok (.iconst 1, 1) := by decide +kernel
theorem dd_B_isLetIn_77 : decode cd_B_isLetIn 77 = .ok (.ireturn, 1) := by decide +kernel
theorem dd_B_goesBefore_0 : decode cd_B_goesBefore 0 = .ok (.aload_n 0, 1) := by decide +kernel
theorem dd_B_goesBefore_1 : decode cd_B_goesBefore 1 = .ok (.getfield 15, 3) := by decide +kernel
theorem dd_B_goesBefore_4 : decode cd_B_goesBefore 4 = .ok (.invokevirtual 47, 3) := by decide +kernel
theorem dd_B_goesBefore_7 : decode cd_B_goesBefore 7 = .ok (.istore_n 2, 1) := by decide +kernel
theorem dd_B_goesBefore_8 : decode cd_B_goesBefore 8 = .ok (.aload_n 1, 1) := by decide +kernel
theorem dd_B_goesBefore_9 : decode cd_B_goesBefore 9 = .ok (.getfield 15, 3) := by decide +kernel
theorem dd_B_goesBefore_12 : decode cd_B_goesBefore 12 = .ok (.invokevirtual 47, 3) := by decide +kernel
theorem dd_B_goesBefore_15 : decode cd_B_goesBefore 15 = .ok (.istore_n 3, 1) := by decide +kernel
theorem dd_B_goesBefore_16 : decode cd_B_goesBefore 16 = .ok (.iload_n 2, 1) := by decide +kernel
theorem dd_B_goesBefore_17 : decode cd_B_goesBefore 17 = .ok (.iload_n 3, 1) := by decide +kernel
theorem dd_B_goesBefore_18 : decode cd_B_goesBefore 18 = .ok (.if_icmp .gt 19, 3) := by decide +kernel
theorem dd_B_goesBefore_21 : decode cd_B_goesBefore 21 = .ok (.iload_n 2, 1) := by decide +kernel
theorem dd_B_goesBefore_22 : decode cd_B_goesBefore 22 = .ok (.iload_n 3, 1) := by decide +kernel
theorem dd_B_goesBefore_23 : decode cd_B_goesBefore 23 = .ok (.if_icmp .ne 18, 3) := by decide +kernel
theorem dd_B_goesBefore_26 : decode cd_B_goesBefore 26 = .ok (.aload_n 0, 1) := by decide +kernel
theorem dd_B_goesBefore_27 : decode cd_B_goesBefore 27 = .ok (.getfield 51, 3) := by decide +kernel
theorem dd_B_goesBefore_30 : decode cd_B_goesBefore 30 = .ok (.aload_n 1, 1) := by decide +kernel
theorem dd_B_goesBefore_31 : decode cd_B_goesBefore 31 = .ok (.getfield 51, 3) := by decide +kernel
theorem dd_B_goesBefore_34 : decode cd_B_goesBefore 34 = .ok (.if_icmp .ge 7, 3) := by decide +kernel
theorem dd_B_goesBefore_37 : decode cd_B_goesBefore 37 = .ok (.iconst 1, 1) := by decide +kernel
theorem dd_B_goesBefore_38 : decode cd_B_goesBefore 38 = .ok (.goto 4, 3) := by decide +kernel
theorem dd_B_goesBefore_41 : decode cd_B_goesBefore 41 = .ok (.iconst 0, 1) := by decide +kernel
theorem dd_B_goesBefore_42 : decode cd_B_goesBefore 42 = .ok (.ireturn, 1) := by decide +kernel
theorem dd_G_init_0 : decode cd_G_init 0 = .ok (.aload_n 0, 1) := by decide +kernel
theorem dd_G_init_1 : decode cd_G_init 1 = .ok (.invokespecial 1, 3) := by decide +kernel
theorem dd_G_init_4 : decode cd_G_init 4 = .ok (.return_, 1) := by decide +kernel
theorem dd_G_isEmpty_0 : decode cd_G_isEmpty 0 = .ok (.aload_n 0, 1) := by decide +kernel
theorem dd_G_isEmpty_1 : decode cd_G_isEmpty 1 = .ok (.getfield 7, 3) := by decide +kernel
theorem dd_G_isEmpty_4 : decode cd_G_isEmpty 4 = .ok (.ifCond .ne 14, 3) := by decide +kernel
theorem dd_G_isEmpty_7 : decode cd_G_isEmpty 7 = .ok (.aload_n 0, 1) := by decide +kernel
theorem dd_G_isEmpty_8 : decode cd_G_isEmpty 8 = .ok (.getfield 13, 3) := by decide +kernel
theorem dd_G_isEmpty_11 : decode cd_G_isEmpty 11 = .ok (.ifCond .ne 7, 3) := by decide +kernel
theorem dd_G_isEmpty_14 : decode cd_G_isEmpty 14 = .ok (.iconst 1, 1) := by decide +kernel
theorem dd_G_isEmpty_15 : decode cd_G_isEmpty 15 = .ok (.goto 4, 3) := by decide +kernel
theorem dd_G_isEmpty_18 : decode cd_G_isEmpty 18 = .ok (.iconst 0, 1) := by decide +kernel
theorem dd_G_isEmpty_19 : decode cd_G_isEmpty 19 = .ok (.ireturn, 1) := by decide +kernel
theorem dd_Q_init_0 : decode cd_Q_init 0 = .ok (.aload_n 0, 1) := by decide +kernel
theorem dd_Q_init_1 : decode cd_Q_init 1 = .ok (.invokespecial 1, 3) := by decide +kernel
theorem dd_Q_init_4 : decode cd_Q_init 4 = .ok (.aload_n 0, 1) := by decide +kernel
theorem dd_Q_init_5 : decode cd_Q_init 5 = .ok (.iload_n 1, 1) := by decide +kernel
theorem dd_Q_init_6 : decode cd_Q_init 6 = .ok (.putfield 7, 3) := by decide +kernel
theorem dd_Q_init_9 : decode cd_Q_init 9 = .ok (.aload_n 0, 1) := by decide +kernel
theorem dd_Q_init_10 : decode cd_Q_init 10 = .ok (.aload_n 2, 1) := by decide +kernel
theorem dd_Q_init_11 : decode cd_Q_init 11 = .ok (.putfield 13, 3) := by decide +kernel
theorem dd_Q_init_14 : decode cd_Q_init 14 = .ok (.aload_n 0, 1) := by decide +kernel
theorem dd_Q_init_15 : decode cd_Q_init 15 = .ok (.iload_n 3, 1) := by decide +kernel
theorem dd_Q_init_16 : decode cd_Q_init 16 = .ok (.putfield 17, 3) := by decide +kernel
theorem dd_Q_init_19 : decode cd_Q_init 19 = .ok (.return_, 1) := by decide +kernel
theorem dd_Q_isRoot_0 : decode cd_Q_isRoot 0 = .ok (.aload_n 0, 1) := by decide +kernel
theorem dd_Q_isRoot_1 : decode cd_Q_isRoot 1 = .ok (.getfield 13, 3) := by decide +kernel
theorem dd_Q_isRoot_4 : decode cd_Q_isRoot 4 = .ok (.ifnonnull 7, 3) := by decide +kernel
theorem dd_Q_isRoot_7 : decode cd_Q_isRoot 7 = .ok (.iconst 1, 1) := by decide +kernel
theorem dd_Q_isRoot_8 : decode cd_Q_isRoot 8 = .ok (.goto 4, 3) := by decide +kernel
theorem dd_Q_isRoot_11 : decode cd_Q_isRoot 11 = .ok (.iconst 0, 1) := by decide +kernel
theorem dd_Q_isRoot_12 : decode cd_Q_isRoot 12 = .ok (.ireturn, 1) := by decide +kernel
theorem dd_Q_leadsTo_0 : decode cd_Q_leadsTo 0 = .ok (.aload_n 0, 1) := by decide +kernel
theorem dd_Q_leadsTo_1 : decode cd_Q_leadsTo 1 = .ok (.astore_n 2, 1) := by decide +kernel
theorem dd_Q_leadsTo_2 : decode cd_Q_leadsTo 2 = .ok (.aload_n 2, 1) := by decide +kernel
theorem dd_Q_leadsTo_3 : decode cd_Q_leadsTo 3 = .ok (.ifnull 18, 3) := by decide +kernel
theorem dd_Q_leadsTo_6 : decode cd_Q_leadsTo 6 = .ok (.aload_n 2, 1) := by decide +kernel
theorem dd_Q_leadsTo_7 : decode cd_Q_leadsTo 7 = .ok (.aload_n 1, 1) := by decide +kernel
theorem dd_Q_leadsTo_8 : decode cd_Q_leadsTo 8 = .ok (.if_acmp .ne 5, 3) := by decide +kernel
theorem dd_Q_leadsTo_11 : decode cd_Q_leadsTo 11 = .ok (.iconst 1, 1) := by decide +kernel
theorem dd_Q_leadsTo_12 : decode cd_Q_leadsTo 12 = .ok (.ireturn, 1) := by decide +kernel
theorem dd_Q_leadsTo_13 : decode cd_Q_leadsTo 13 = .ok (.aload_n 2, 1) := by decide +kernel
theorem dd_Q_leadsTo_14 : decode cd_Q_leadsTo 14 = .ok (.getfield 13, 3) := by decide +kernel
theorem dd_Q_leadsTo_17 : decode cd_Q_leadsTo 17 = .ok (.astore_n 2, 1) := by decide +kernel
theorem dd_Q_leadsTo_18 : decode cd_Q_leadsTo 18 = .ok (.goto (-16), 3) := by decide +kernel
theorem dd_Q_leadsTo_21 : decode cd_Q_leadsTo 21 = .ok (.iconst 0, 1) := by decide +kernel
theorem dd_Q_leadsTo_22 : decode cd_Q_leadsTo 22 = .ok (.ireturn, 1) := by decide +kernel
theorem dd_Q_quality_0 : decode cd_Q_quality 0 = .ok (.aload_n 0, 1) := by decide +kernel
theorem dd_Q_quality_1 : decode cd_Q_quality 1 = .ok (.astore_n 1, 1) := by decide +kernel
theorem dd_Q_quality_2 : decode cd_Q_quality 2 = .ok (.aload_n 0, 1) := by decide +kernel
theorem dd_Q_quality_3 : decode cd_Q_quality 3 = .ok (.astore_n 2, 1) := by decide +kernel
theorem dd_Q_quality_4 : decode cd_Q_quality 4 = .ok (.aload_n 2, 1) := by decide +kernel
theorem dd_Q_quality_5 : decode cd_Q_quality 5 = .ok (.ifnull 13, 3) := by decide +kernel
theorem dd_Q_quality_8 : decode cd_Q_quality 8 = .ok (.aload_n 2, 1) := by decide +kernel
theorem dd_Q_quality_9 : decode cd_Q_quality 9 = .ok (.astore_n 1, 1) := by decide +kernel
theorem dd_Q_quality_10 : decode cd_Q_quality 10 = .ok (.aload_n 2, 1) := by decide +kernel
theorem dd_Q_quality_11 : decode cd_Q_quality 11 = .ok (.getfield 13, 3) := by decide +kernel
theorem dd_Q_quality_14 : decode cd_Q_quality 14 = .ok (.astore_n 2, 1) := by decide +kernel
theorem dd_Q_quality_15 : decode cd_Q_quality 15 = .ok (.goto (-11), 3) := by decide +kernel
theorem dd_Q_quality_18 : decode cd_Q_quality 18 = .ok (.aload_n 1, 1) := by decide +kernel
theorem dd_Q_quality_19 : decode cd_Q_quality 19 = .ok (.getfield 7, 3) := by decide +kernel
theorem dd_Q_quality_22 : decode cd_Q_quality 22 = .ok (.ireturn, 1) := by decide +kernel
theorem dd_Q_hasRoom_0 : decode cd_Q_hasRoom 0 = .ok (.aload_n 0, 1) := by decide +kernel
theorem dd_Q_hasRoom_1 : decode cd_Q_hasRoom 1 = .ok (.invokevirtual 20, 3) := by decide +kernel
theorem dd_Q_hasRoom_4 : decode cd_Q_hasRoom 4 = .ok (.ifCond .ne 14, 3) := by decide +kernel
theorem dd_Q_hasRoom_7 : decode cd_Q_hasRoom 7 = .ok (.aload_n 0, 1) := by decide +kernel
theorem dd_Q_hasRoom_8 : decode cd_Q_hasRoom 8 = .ok (.getfield 24, 3) := by decide +kernel
theorem dd_Q_hasRoom_11 : decode cd_Q_hasRoom 11 = .ok (.aload_n 0, 1) := by decide +kernel
theorem dd_Q_hasRoom_12 : decode cd_Q_hasRoom 12 = .ok (.getfield 17, 3) := by decide +kernel
theorem dd_Q_hasRoom_15 : decode cd_Q_hasRoom 15 = .ok (.if_icmp .ge 7, 3) := by decide +kernel
theorem dd_Q_hasRoom_18 : decode cd_Q_hasRoom 18 = .ok (.iconst 1, 1) := by decide +kernel
theorem dd_Q_hasRoom_19 : decode cd_Q_hasRoom 19 = .ok (.goto 4, 3) := by decide +kernel
theorem dd_Q_hasRoom_22 : decode cd_Q_hasRoom 22 = .ok (.iconst 0, 1) := by decide +kernel
theorem dd_Q_hasRoom_23 : decode cd_Q_hasRoom 23 = .ok (.ireturn, 1) := by decide +kernel
theorem dd_Q_isClosed_0 : decode cd_Q_isClosed 0 = .ok (.aload_n 0, 1) := by decide +kernel
theorem dd_Q_isClosed_1 : decode cd_Q_isClosed 1 = .ok (.getfield 27, 3) := by decide +kernel
theorem dd_Q_isClosed_4 : decode cd_Q_isClosed 4 = .ok (.ifnull 17, 3) := by decide +kernel
theorem dd_Q_isClosed_7 : decode cd_Q_isClosed 7 = .ok (.aload_n 0, 1) := by decide +kernel
theorem dd_Q_isClosed_8 : decode cd_Q_isClosed 8 = .ok (.getfield 27, 3) := by decide +kernel
theorem dd_Q_isClosed_11 : decode cd_Q_isClosed 11 = .ok (.getfield 31, 3) := by decide +kernel
theorem dd_Q_isClosed_14 : decode cd_Q_isClosed 14 = .ok (.ifCond .eq 7, 3) := by decide +kernel
theorem dd_Q_isClosed_17 : decode cd_Q_isClosed 17 = .ok (.iconst 1, 1) := by decide +kernel
theorem dd_Q_isClosed_18 : decode cd_Q_isClosed 18 = .ok (.goto 4, 3) := by decide +kernel
theorem dd_Q_isClosed_21 : decode cd_Q_isClosed 21 = .ok (.iconst 0, 1) := by decide +kernel
theorem dd_Q_isClosed_22 : decode cd_Q_isClosed 22 = .ok (.ireturn, 1) := by decide +kernel
theorem dd_Q_append_0 : decode cd_Q_append 0 = .ok (.aload_n 0, 1) := by decide +kernel
theorem dd_Q_append_1 : decode cd_Q_append 1 = .ok (.getfield 37, 3) := by decide +kernel
theorem dd_Q_append_4 : decode cd_Q_append 4 = .ok (.ifnonnull 11, 3) := by decide +kernel
theorem dd_Q_append_7 : decode cd_Q_append 7 = .ok (.aload_n 0, 1) := by decide +kernel
theorem dd_Q_append_8 : decode cd_Q_append 8 = .ok (.aload_n 1, 1) := by decide +kernel
theorem dd_Q_append_9 : decode cd_Q_append 9 = .ok (.putfield 27, 3) := by decide +kernel
theorem dd_Q_append_12 : decode cd_Q_append 12 = .ok (.goto 11, 3) := by decide +kernel
theorem dd_Q_append_15 : decode cd_Q_append 15 = .ok (.aload_n 0, 1) := by decide +kernel
theorem dd_Q_append_16 : decode cd_Q_append 16 = .ok (.getfield 37, 3) := by decide +kernel
theorem dd_Q_append_19 : decode cd_Q_append 19 = .ok (.aload_n 1, 1) := by decide +kernel
theorem dd_Q_append_20 : decode cd_Q_append 20 = .ok (.putfield 40, 3) := by decide +kernel
theorem dd_Q_append_23 : decode cd_Q_append 23 = .ok (.aload_n 0, 1) := by decide +kernel
theorem dd_Q_append_24 : decode cd_Q_append 24 = .ok (.aload_n 1, 1) := by decide +kernel
theorem dd_Q_append_25 : decode cd_Q_append 25 = .ok (.putfield 37, 3) := by decide +kernel
theorem dd_Q_append_28 : decode cd_Q_append 28 = .ok (.aload_n 0, 1) := by decide +kernel
theorem dd_Q_append_29 : decode cd_Q_append 29 = .ok (.dup, 1) := by decide +kernel
theorem dd_Q_append_30 : decode cd_Q_append 30 = .ok (.getfield 43, 3) := by decide +kernel
theorem dd_Q_append_33 : decode cd_Q_append 33 = .ok (.iconst 1, 1) := by decide +kernel
theorem dd_Q_append_34 : decode cd_Q_append 34 = .ok (.iadd, 1) := by decide +kernel
theorem dd_Q_append_35 : decode cd_Q_append 35 = .ok (.putfield 43, 3) := by decide +kernel
theorem dd_Q_append_38 : decode cd_Q_append 38 = .ok (.return_, 1) := by decide +kernel
theorem dd_Q_dropFirst_0 : decode cd_Q_dropFirst 0 = .ok (.aload_n 0, 1) := by decide +kernel
theorem dd_Q_dropFirst_1 : decode cd_Q_dropFirst 1 = .ok (.getfield 27, 3) := by decide +kernel
theorem dd_Q_dropFirst_4 : decode cd_Q_dropFirst 4 = .ok (.ifnonnull 4, 3) := by decide +kernel
theorem dd_Q_dropFirst_7 : decode cd_Q_dropFirst 7 = .ok (.return_, 1) := by decide +kernel
theorem dd_Q_dropFirst_8 : decode cd_Q_dropFirst 8 = .ok (.aload_n 0, 1) := by decide +kernel
theorem dd_Q_dropFirst_9 : decode cd_Q_dropFirst 9 = .ok (.aload_n 0, 1) := by decide +kernel
theorem dd_Q_dropFirst_10 : decode cd_Q_dropFirst 10 = .ok (.getfield 27, 3) := by decide +kernel
theorem dd_Q_dropFirst_13 : decode cd_Q_dropFirst 13 = .ok (.getfield 40, 3) := by decide +kernel
theorem dd_Q_dropFirst_16 : decode cd_Q_dropFirst 16 = .ok (.putfield 27, 3) := by decide +kernel
theorem dd_Q_dropFirst_19 : decode cd_Q_dropFirst 19 = .ok (.aload_n 0, 1) := by decide +kernel
theorem dd_Q_dropFirst_20 : decode cd_Q_dropFirst 20 = .ok (.getfield 27, 3) := by decide +kernel
theorem dd_Q_dropFirst_23 : decode cd_Q_dropFirst 23 = .ok (.ifnonnull 8, 3) := by decide +kernel
theorem dd_Q_dropFirst_26 : decode cd_Q_dropFirst 26 = .ok (.aload_n 0, 1) := by decide +kernel
theorem dd_Q_dropFirst_27 : decode cd_Q_dropFirst 27 = .ok (.aconst_null, 1) := by decide +kernel
theorem dd_Q_dropFirst_28 : decode cd_Q_dropFirst 28 = .ok (.putfield 37, 3) := by decide +kernel
theorem dd_Q_dropFirst_31 : decode cd_Q_dropFirst 31 = .ok (.aload_n 0, 1) := by decide +kernel
theorem dd_Q_dropFirst_32 : decode cd_Q_dropFirst 32 = .ok (.dup, 1) := by decide +kernel
theorem dd_Q_dropFirst_33 : decode cd_Q_dropFirst 33 = .ok (.getfield 43, 3) := by decide +kernel
theorem dd_Q_dropFirst_36 : decode cd_Q_dropFirst 36 = .ok (.iconst 1, 1) := by decide +kernel
theorem dd_Q_dropFirst_37 : decode cd_Q_dropFirst 37 = .ok (.isub, 1) := by decide +kernel
theorem dd_Q_dropFirst_38 : decode cd_Q_dropFirst 38 = .ok (.putfield 43, 3) := by decide +kernel
theorem dd_Q_dropFirst_41 : decode cd_Q_dropFirst 41 = .ok (.return_, 1) := by decide +kernel
theorem dd_L_cell_0 : decode cd_L_cell 0 = .ok (.iload_n 1, 1) := by decide +kernel
theorem dd_L_cell_1 : decode cd_L_cell 1 = .ok (.aload_n 0, 1) := by decide +kernel
theorem dd_L_cell_2 : decode cd_L_cell 2 = .ok (.arraylength, 1) := by decide +kernel
theorem dd_L_cell_3 : decode cd_L_cell 3 = .ok (.if_icmp .ge 9, 3) := by decide +kernel
theorem dd_L_cell_6 : decode cd_L_cell 6 = .ok (.aload_n 0, 1) := by decide +kernel
theorem dd_L_cell_7 : decode cd_L_cell 7 = .ok (.iload_n 1, 1) := by decide +kernel
theorem dd_L_cell_8 : decode cd_L_cell 8 = .ok (.iaload, 1) := by decide +kernel
theorem dd_L_cell_9 : decode cd_L_cell 9 = .ok (.goto 4, 3) := by decide +kernel
theorem dd_L_cell_12 : decode cd_L_cell 12 = .ok (.iconst 0, 1) := by decide +kernel
theorem dd_L_cell_13 : decode cd_L_cell 13 = .ok (.ireturn, 1) := by decide +kernel
