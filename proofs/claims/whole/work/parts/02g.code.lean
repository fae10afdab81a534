/-! Part 02: decode rows of the class. -/
theorem dd_D_blockAt_5 : decode cd_D_blockAt 5 = .ok (.aload_n 0, 1) := by decide +kernel
theorem dd_D_blockAt_6 : decode cd_D_blockAt 6 = .ok (.getfield 181, 3) := by decide +kernel
theorem dd_D_blockAt_9 : decode cd_D_blockAt 9 = .ok (.if_icmp .ge 12, 3) := by decide +kernel
theorem dd_D_blockAt_12 : decode cd_D_blockAt 12 = .ok (.aload_n 0, 1) := by decide +kernel
theorem dd_D_blockAt_13 : decode cd_D_blockAt 13 = .ok (.getfield 30, 3) := by decide +kernel
theorem dd_D_blockAt_16 : decode cd_D_blockAt 16 = .ok (.iload_n 1, 1) := by decide +kernel
theorem dd_D_blockAt_17 : decode cd_D_blockAt 17 = .ok (.aaload, 1) := by decide +kernel
theorem dd_D_blockAt_18 : decode cd_D_blockAt 18 = .ok (.goto 4, 3) := by decide +kernel
theorem dd_D_blockAt_21 : decode cd_D_blockAt 21 = .ok (.aconst_null, 1) := by decide +kernel
theorem dd_D_blockAt_22 : decode cd_D_blockAt 22 = .ok (.areturn, 1) := by decide +kernel
theorem dd_D_groupAt_0 : decode cd_D_groupAt 0 = .ok (.iload_n 1, 1) := by decide +kernel
theorem dd_D_groupAt_1 : decode cd_D_groupAt 1 = .ok (.ifCond .lt 17, 3) := by decide +kernel
theorem dd_D_groupAt_4 : decode cd_D_groupAt 4 = .ok (.iload_n 1, 1) := by decide +kernel
theorem dd_D_groupAt_5 : decode cd_D_groupAt 5 = .ok (.iconst 4, 1) := by decide +kernel
theorem dd_D_groupAt_6 : decode cd_D_groupAt 6 = .ok (.if_icmp .ge 12, 3) := by decide +kernel
theorem dd_D_groupAt_9 : decode cd_D_groupAt 9 = .ok (.aload_n 0, 1) := by decide +kernel
theorem dd_D_groupAt_10 : decode cd_D_groupAt 10 = .ok (.getfield 36, 3) := by decide +kernel
theorem dd_D_groupAt_13 : decode cd_D_groupAt 13 = .ok (.iload_n 1, 1) := by decide +kernel
theorem dd_D_groupAt_14 : decode cd_D_groupAt 14 = .ok (.aaload, 1) := by decide +kernel
theorem dd_D_groupAt_15 : decode cd_D_groupAt 15 = .ok (.goto 4, 3) := by decide +kernel
theorem dd_D_groupAt_18 : decode cd_D_groupAt 18 = .ok (.aconst_null, 1) := by decide +kernel
theorem dd_D_groupAt_19 : decode cd_D_groupAt 19 = .ok (.areturn, 1) := by decide +kernel
theorem dd_D_isFull_0 : decode cd_D_isFull 0 = .ok (.aload_n 0, 1) := by decide +kernel
theorem dd_D_isFull_1 : decode cd_D_isFull 1 = .ok (.getfield 181, 3) := by decide +kernel
theorem dd_D_isFull_4 : decode cd_D_isFull 4 = .ok (.sipush 160, 3) := by decide +kernel
theorem dd_D_isFull_7 : decode cd_D_isFull 7 = .ok (.if_icmp .lt 7, 3) := by decide +kernel
theorem dd_D_isFull_10 : decode cd_D_isFull 10 = .ok (.iconst 1, 1) := by decide +kernel
theorem dd_D_isFull_11 : decode cd_D_isFull 11 = .ok (.goto 4, 3) := by decide +kernel
theorem dd_D_isFull_14 : decode cd_D_isFull 14 = .ok (.iconst 0, 1) := by decide +kernel
theorem dd_D_isFull_15 : decode cd_D_isFull 15 = .ok (.ireturn, 1) := by decide +kernel
theorem dd_D_accept_0 : decode cd_D_accept 0 = .ok (.new 28, 3) := by decide +kernel
theorem dd_D_accept_3 : decode cd_D_accept 3 = .ok (.dup, 1) := by decide +kernel
theorem dd_D_accept_4 : decode cd_D_accept 4 = .ok (.aload_n 0, 1) := by decide +kernel
theorem dd_D_accept_5 : decode cd_D_accept 5 = .ok (.getfield 181, 3) := by decide +kernel
theorem dd_D_accept_8 : decode cd_D_accept 8 = .ok (.aload_n 1, 1) := by decide +kernel
theorem dd_D_accept_9 : decode cd_D_accept 9 = .ok (.iload_n 2, 1) := by decide +kernel
theorem dd_D_accept_10 : decode cd_D_accept 10 = .ok (.ifCond .eq 14, 3) := by decide +kernel
theorem dd_D_accept_13 : decode cd_D_accept 13 = .ok (.aload_n 1, 1) := by decide +kernel
theorem dd_D_accept_14 : decode cd_D_accept 14 = .ok (.invokevirtual 51, 3) := by decide +kernel
theorem dd_D_accept_17 : decode cd_D_accept 17 = .ok (.ifCond .ne 7, 3) := by decide +kernel
theorem dd_D_accept_20 : decode cd_D_accept 20 = .ok (.iconst 1, 1) := by decide +kernel
theorem dd_D_accept_21 : decode cd_D_accept 21 = .ok (.goto 4, 3) := by decide +kernel
theorem dd_D_accept_24 : decode cd_D_accept 24 = .ok (.iconst 0, 1) := by decide +kernel
theorem dd_D_accept_25 : decode cd_D_accept 25 = .ok (.invokespecial 184, 3) := by decide +kernel
theorem dd_D_accept_28 : decode cd_D_accept 28 = .ok (.astore_n 3, 1) := by decide +kernel
theorem dd_D_accept_29 : decode cd_D_accept 29 = .ok (.aload_n 0, 1) := by decide +kernel
theorem dd_D_accept_30 : decode cd_D_accept 30 = .ok (.getfield 30, 3) := by decide +kernel
theorem dd_D_accept_33 : decode cd_D_accept 33 = .ok (.aload_n 0, 1) := by decide +kernel
theorem dd_D_accept_34 : decode cd_D_accept 34 = .ok (.getfield 181, 3) := by decide +kernel
theorem dd_D_accept_37 : decode cd_D_accept 37 = .ok (.aload_n 3, 1) := by decide +kernel
theorem dd_D_accept_38 : decode cd_D_accept 38 = .ok (.aastore, 1) := by decide +kernel
theorem dd_D_accept_39 : decode cd_D_accept 39 = .ok (.aload_n 0, 1) := by decide +kernel
theorem dd_D_accept_40 : decode cd_D_accept 40 = .ok (.dup, 1) := by decide +kernel
theorem dd_D_accept_41 : decode cd_D_accept 41 = .ok (.getfield 181, 3) := by decide +kernel
theorem dd_D_accept_44 : decode cd_D_accept 44 = .ok (.iconst 1, 1) := by decide +kernel
theorem dd_D_accept_45 : decode cd_D_accept 45 = .ok (.iadd, 1) := by decide +kernel
theorem dd_D_accept_46 : decode cd_D_accept 46 = .ok (.putfield 181, 3) := by decide +kernel
theorem dd_D_accept_49 : decode cd_D_accept 49 = .ok (.aload_n 3, 1) := by decide +kernel
theorem dd_D_accept_50 : decode cd_D_accept 50 = .ok (.areturn, 1) := by decide +kernel
theorem dd_D_line_0 : decode cd_D_line 0 = .ok (.aload_n 1, 1) := by decide +kernel
theorem dd_D_line_1 : decode cd_D_line 1 = .ok (.iconst 2, 1) := by decide +kernel
theorem dd_D_line_2 : decode cd_D_line 2 = .ok (.putfield 91, 3) := by decide +kernel
theorem dd_D_line_5 : decode cd_D_line 5 = .ok (.aload_n 1, 1) := by decide +kernel
theorem dd_D_line_6 : decode cd_D_line 6 = .ok (.aload_n 0, 1) := by decide +kernel
theorem dd_D_line_7 : decode cd_D_line 7 = .ok (.getfield 187, 3) := by decide +kernel
theorem dd_D_line_10 : decode cd_D_line 10 = .ok (.putfield 190, 3) := by decide +kernel
theorem dd_D_line_13 : decode cd_D_line 13 = .ok (.aload_n 0, 1) := by decide +kernel
theorem dd_D_line_14 : decode cd_D_line 14 = .ok (.dup, 1) := by decide +kernel
theorem dd_D_line_15 : decode cd_D_line 15 = .ok (.getfield 187, 3) := by decide +kernel
theorem dd_D_line_18 : decode cd_D_line 18 = .ok (.iconst 1, 1) := by decide +kernel
theorem dd_D_line_19 : decode cd_D_line 19 = .ok (.iadd, 1) := by decide +kernel
theorem dd_D_line_20 : decode cd_D_line 20 = .ok (.putfield 187, 3) := by decide +kernel
theorem dd_D_line_23 : decode cd_D_line 23 = .ok (.aload_n 1, 1) := by decide +kernel
theorem dd_D_line_24 : decode cd_D_line 24 = .ok (.getfield 141, 3) := by decide +kernel
theorem dd_D_line_27 : decode cd_D_line 27 = .ok (.aload_n 1, 1) := by decide +kernel
theorem dd_D_line_28 : decode cd_D_line 28 = .ok (.invokevirtual 193, 3) := by decide +kernel
theorem dd_D_line_31 : decode cd_D_line 31 = .ok (.return_, 1) := by decide +kernel
theorem dd_D_deadlineIn_0 : decode cd_D_deadlineIn 0 = .ok (.lload_n 1, 1) := by decide +kernel
theorem dd_D_deadlineIn_1 : decode cd_D_deadlineIn 1 = .ok (.ldc2_w 196, 3) := by decide +kernel
theorem dd_D_deadlineIn_4 : decode cd_D_deadlineIn 4 = .ok (.aload_n 0, 1) := by decide +kernel
theorem dd_D_deadlineIn_5 : decode cd_D_deadlineIn 5 = .ok (.getfield 159, 3) := by decide +kernel
theorem dd_D_deadlineIn_8 : decode cd_D_deadlineIn 8 = .ok (.lsub, 1) := by decide +kernel
theorem dd_D_deadlineIn_9 : decode cd_D_deadlineIn 9 = .ok (.lcmp, 1) := by decide +kernel
theorem dd_D_deadlineIn_10 : decode cd_D_deadlineIn 10 = .ok (.ifCond .lt 9, 3) := by decide +kernel
theorem dd_D_deadlineIn_13 : decode cd_D_deadlineIn 13 = .ok (.ldc2_w 196, 3) := by decide +kernel
theorem dd_D_deadlineIn_16 : decode cd_D_deadlineIn 16 = .ok (.goto 9, 3) := by decide +kernel
theorem dd_D_deadlineIn_19 : decode cd_D_deadlineIn 19 = .ok (.aload_n 0, 1) := by decide +kernel
theorem dd_D_deadlineIn_20 : decode cd_D_deadlineIn 20 = .ok (.getfield 159, 3) := by decide +kernel
theorem dd_D_deadlineIn_23 : decode cd_D_deadlineIn 23 = .ok (.lload_n 1, 1) := by decide +kernel
theorem dd_D_deadlineIn_24 : decode cd_D_deadlineIn 24 = .ok (.ladd, 1) := by decide +kernel
theorem dd_D_deadlineIn_25 : decode cd_D_deadlineIn 25 = .ok (.lreturn, 1) := by decide +kernel
theorem dd_D_nextDue_0 : decode cd_D_nextDue 0 = .ok (.aconst_null, 1) := by decide +kernel
theorem dd_D_nextDue_1 : decode cd_D_nextDue 1 = .ok (.astore_n 1, 1) := by decide +kernel
theorem dd_D_nextDue_2 : decode cd_D_nextDue 2 = .ok (.iconst 0, 1) := by decide +kernel
theorem dd_D_nextDue_3 : decode cd_D_nextDue 3 = .ok (.istore_n 2, 1) := by decide +kernel
theorem dd_D_nextDue_4 : decode cd_D_nextDue 4 = .ok (.iload_n 2, 1) := by decide +kernel
theorem dd_D_nextDue_5 : decode cd_D_nextDue 5 = .ok (.aload_n 0, 1) := by decide +kernel
theorem dd_D_nextDue_6 : decode cd_D_nextDue 6 = .ok (.getfield 181, 3) := by decide +kernel
theorem dd_D_nextDue_9 : decode cd_D_nextDue 9 = .ok (.if_icmp .ge 66, 3) := by decide +kernel
theorem dd_D_nextDue_12 : decode cd_D_nextDue 12 = .ok (.aload_n 0, 1) := by decide +kernel
theorem dd_D_nextDue_13 : decode cd_D_nextDue 13 = .ok (.getfield 30, 3) := by decide +kernel
theorem dd_D_nextDue_16 : decode cd_D_nextDue 16 = .ok (.iload_n 2, 1) := by decide +kernel
theorem dd_D_nextDue_17 : decode cd_D_nextDue 17 = .ok (.aaload, 1) := by decide +kernel
theorem dd_D_nextDue_18 : decode cd_D_nextDue 18 = .ok (.astore_n 3, 1) := by decide +kernel
theorem dd_D_nextDue_19 : decode cd_D_nextDue 19 = .ok (.aload_n 3, 1) := by decide +kernel
theorem dd_D_nextDue_20 : decode cd_D_nextDue 20 = .ok (.getfield 91, 3) := by decide +kernel
theorem dd_D_nextDue_23 : decode cd_D_nextDue 23 = .ok (.iconst 1, 1) := by decide +kernel
theorem dd_D_nextDue_24 : decode cd_D_nextDue 24 = .ok (.if_icmp .ne 19, 3) := by decide +kernel
theorem dd_D_nextDue_27 : decode cd_D_nextDue 27 = .ok (.aload_n 3, 1) := by decide +kernel
theorem dd_D_nextDue_28 : decode cd_D_nextDue 28 = .ok (.getfield 98, 3) := by decide +kernel
theorem dd_D_nextDue_31 : decode cd_D_nextDue 31 = .ok (.aload_n 0, 1) := by decide +kernel
theorem dd_D_nextDue_32 : decode cd_D_nextDue 32 = .ok (.getfield 159, 3) := by decide +kernel
theorem dd_D_nextDue_35 : decode cd_D_nextDue 35 = .ok (.lcmp, 1) := by decide +kernel
theorem dd_D_nextDue_36 : decode cd_D_nextDue 36 = .ok (.ifCond .gt 7, 3) := by decide +kernel
theorem dd_D_nextDue_39 : decode cd_D_nextDue 39 = .ok (.iconst 1, 1) := by decide +kernel
theorem dd_D_nextDue_40 : decode cd_D_nextDue 40 = .ok (.goto 4, 3) := by decide +kernel
theorem dd_D_nextDue_43 : decode cd_D_nextDue 43 = .ok (.iconst 0, 1) := by decide +kernel
theorem dd_D_nextDue_44 : decode cd_D_nextDue 44 = .ok (.istore 4, 2) := by decide +kernel
theorem dd_D_nextDue_46 : decode cd_D_nextDue 46 = .ok (.iload 4, 2) := by decide +kernel
theorem dd_D_nextDue_48 : decode cd_D_nextDue 48 = .ok (.ifCond .eq 21, 3) := by decide +kernel
theorem dd_D_nextDue_51 : decode cd_D_nextDue 51 = .ok (.aload_n 1, 1) := by decide +kernel
theorem dd_D_nextDue_52 : decode cd_D_nextDue 52 = .ok (.ifnull 15, 3) := by decide +kernel
theorem dd_D_nextDue_55 : decode cd_D_nextDue 55 = .ok (.aload_n 3, 1) := by decide +kernel
theorem dd_D_nextDue_56 : decode cd_D_nextDue 56 = .ok (.getfield 98, 3) := by decide +kernel
theorem dd_D_nextDue_59 : decode cd_D_nextDue 59 = .ok (.aload_n 1, 1) := by decide +kernel
theorem dd_D_nextDue_60 : decode cd_D_nextDue 60 = .ok (.getfield 98, 3) := by decide +kernel
theorem dd_D_nextDue_63 : decode cd_D_nextDue 63 = .ok (.lcmp, 1) := by decide +kernel
theorem dd_D_nextDue_64 : decode cd_D_nextDue 64 = .ok (.ifCond .ge 5, 3) := by decide +kernel
theorem dd_D_nextDue_67 : decode cd_D_nextDue 67 = .ok (.aload_n 3, 1) := by decide +kernel
theorem dd_D_nextDue_68 : decode cd_D_nextDue 68 = .ok (.astore_n 1, 1) := by decide +kernel
theorem dd_D_nextDue_69 : decode cd_D_nextDue 69 = .ok (.iinc 2 1, 3) := by decide +kernel
theorem dd_D_nextDue_72 : decode cd_D_nextDue 72 = .ok (.goto (-68), 3) := by decide +kernel
theorem dd_D_nextDue_75 : decode cd_D_nextDue 75 = .ok (.aload_n 1, 1) := by decide +kernel
theorem dd_D_nextDue_76 : decode cd_D_nextDue 76 = .ok (.areturn, 1) := by decide +kernel
theorem dd_D_wouldDeadlock_0 : decode cd_D_wouldDeadlock 0 = .ok (.aload_n 1, 1) := by decide +kernel
theorem dd_D_wouldDeadlock_1 : decode cd_D_wouldDeadlock 1 = .ok (.astore_n 3, 1) := by decide +kernel
theorem dd_D_wouldDeadlock_2 : decode cd_D_wouldDeadlock 2 = .ok (.aload_n 3, 1) := by decide +kernel
theorem dd_D_wouldDeadlock_3 : decode cd_D_wouldDeadlock 3 = .ok (.ifnull 108, 3) := by decide +kernel
theorem dd_D_wouldDeadlock_6 : decode cd_D_wouldDeadlock 6 = .ok (.aload_n 3, 1) := by decide +kernel
theorem dd_D_wouldDeadlock_7 : decode cd_D_wouldDeadlock 7 = .ok (.invokevirtual 51, 3) := by decide +kernel
theorem dd_D_wouldDeadlock_10 : decode cd_D_wouldDeadlock 10 = .ok (.ifCond .ne 101, 3) := by decide +kernel
theorem dd_D_wouldDeadlock_13 : decode cd_D_wouldDeadlock 13 = .ok (.aload_n 3, 1) := by decide +kernel
theorem dd_D_wouldDeadlock_14 : decode cd_D_wouldDeadlock 14 = .ok (.getfield 198, 3) := by decide +kernel
theorem dd_D_wouldDeadlock_17 : decode cd_D_wouldDeadlock 17 = .ok (.iconst 1, 1) := by decide +kernel
theorem dd_D_wouldDeadlock_18 : decode cd_D_wouldDeadlock 18 = .ok (.if_icmp .eq 12, 3) := by decide +kernel
theorem dd_D_wouldDeadlock_21 : decode cd_D_wouldDeadlock 21 = .ok (.iload_n 2, 1) := by decide +kernel
theorem dd_D_wouldDeadlock_22 : decode cd_D_wouldDeadlock 22 = .ok (.ifCond .eq 12, 3) := by decide +kernel
theorem dd_D_wouldDeadlock_25 : decode cd_D_wouldDeadlock 25 = .ok (.aload_n 3, 1) := by decide +kernel
theorem dd_D_wouldDeadlock_26 : decode cd_D_wouldDeadlock 26 = .ok (.aload_n 1, 1) := by decide +kernel
theorem dd_D_wouldDeadlock_27 : decode cd_D_wouldDeadlock 27 = .ok (.if_acmp .ne 7, 3) := by decide +kernel
theorem dd_D_wouldDeadlock_30 : decode cd_D_wouldDeadlock 30 = .ok (.iconst 1, 1) := by decide +kernel
theorem dd_D_wouldDeadlock_31 : decode cd_D_wouldDeadlock 31 = .ok (.goto 4, 3) := by decide +kernel
theorem dd_D_wouldDeadlock_34 : decode cd_D_wouldDeadlock 34 = .ok (.iconst 0, 1) := by decide +kernel
theorem dd_D_wouldDeadlock_35 : decode cd_D_wouldDeadlock 35 = .ok (.istore 4, 2) := by decide +kernel
theorem dd_D_wouldDeadlock_37 : decode cd_D_wouldDeadlock 37 = .ok (.aload_n 0, 1) := by decide +kernel
theorem dd_D_wouldDeadlock_38 : decode cd_D_wouldDeadlock 38 = .ok (.astore 5, 2) := by decide +kernel
theorem dd_D_wouldDeadlock_40 : decode cd_D_wouldDeadlock 40 = .ok (.aload 5, 2) := by decide +kernel
theorem dd_D_wouldDeadlock_42 : decode cd_D_wouldDeadlock 42 = .ok (.ifnull 61, 3) := by decide +kernel
theorem dd_D_wouldDeadlock_45 : decode cd_D_wouldDeadlock 45 = .ok (.aload 5, 2) := by decide +kernel
theorem dd_D_wouldDeadlock_47 : decode cd_D_wouldDeadlock 47 = .ok (.getfield 201, 3) := by decide +kernel
theorem dd_D_wouldDeadlock_50 : decode cd_D_wouldDeadlock 50 = .ok (.ifCond .eq 16, 3) := by decide +kernel
theorem dd_D_wouldDeadlock_53 : decode cd_D_wouldDeadlock 53 = .ok (.aload 5, 2) := by decide +kernel
theorem dd_D_wouldDeadlock_55 : decode cd_D_wouldDeadlock 55 = .ok (.getfield 141, 3) := by decide +kernel
theorem dd_D_wouldDeadlock_58 : decode cd_D_wouldDeadlock 58 = .ok (.aload_n 3, 1) := by decide +kernel
theorem dd_D_wouldDeadlock_59 : decode cd_D_wouldDeadlock 59 = .ok (.if_acmp .ne 7, 3) := by decide +kernel
theorem dd_D_wouldDeadlock_62 : decode cd_D_wouldDeadlock 62 = .ok (.iconst 1, 1) := by decide +kernel
theorem dd_D_wouldDeadlock_63 : decode cd_D_wouldDeadlock 63 = .ok (.goto 4, 3) := by decide +kernel
theorem dd_D_wouldDeadlock_66 : decode cd_D_wouldDeadlock 66 = .ok (.iconst 0, 1) := by decide +kernel
theorem dd_D_wouldDeadlock_67 : decode cd_D_wouldDeadlock 67 = .ok (.istore 6, 2) := by decide +kernel
theorem dd_D_wouldDeadlock_69 : decode cd_D_wouldDeadlock 69 = .ok (.iload 4, 2) := by decide +kernel
theorem dd_D_wouldDeadlock_71 : decode cd_D_wouldDeadlock 71 = .ok (.ifCond .ne 8, 3) := by decide +kernel
theorem dd_D_wouldDeadlock_74 : decode cd_D_wouldDeadlock 74 = .ok (.iload 6, 2) := by decide +kernel
theorem dd_D_wouldDeadlock_76 : decode cd_D_wouldDeadlock 76 = .ok (.ifCond .eq 17, 3) := by decide +kernel
theorem dd_D_wouldDeadlock_79 : decode cd_D_wouldDeadlock 79 = .ok (.aload 5, 2) := by decide +kernel
theorem dd_D_wouldDeadlock_81 : decode cd_D_wouldDeadlock 81 = .ok (.getfield 141, 3) := by decide +kernel
theorem dd_D_wouldDeadlock_84 : decode cd_D_wouldDeadlock 84 = .ok (.aload_n 3, 1) := by decide +kernel
theorem dd_D_wouldDeadlock_85 : decode cd_D_wouldDeadlock 85 = .ok (.invokevirtual 55, 3) := by decide +kernel
theorem dd_D_wouldDeadlock_88 : decode cd_D_wouldDeadlock 88 = .ok (.ifCond .eq 5, 3) := by decide +kernel
theorem dd_D_wouldDeadlock_91 : decode cd_D_wouldDeadlock 91 = .ok (.iconst 1, 1) := by decide +kernel
theorem dd_D_wouldDeadlock_92 : decode cd_D_wouldDeadlock 92 = .ok (.ireturn, 1) := by decide +kernel
theorem dd_D_wouldDeadlock_93 : decode cd_D_wouldDeadlock 93 = .ok (.aload 5, 2) := by decide +kernel
theorem dd_D_wouldDeadlock_95 : decode cd_D_wouldDeadlock 95 = .ok (.getfield 110, 3) := by decide +kernel
theorem dd_D_wouldDeadlock_98 : decode cd_D_wouldDeadlock 98 = .ok (.astore 5, 2) := by decide +kernel
theorem dd_D_wouldDeadlock_100 : decode cd_D_wouldDeadlock 100 = .ok (.goto (-60), 3) := by decide +kernel
theorem dd_D_wouldDeadlock_103 : decode cd_D_wouldDeadlock 103 = .ok (.aload_n 3, 1) := by decide +kernel
theorem dd_D_wouldDeadlock_104 : decode cd_D_wouldDeadlock 104 = .ok (.getfield 62, 3) := by decide +kernel
theorem dd_D_wouldDeadlock_107 : decode cd_D_wouldDeadlock 107 = .ok (.astore_n 3, 1) := by decide +kernel
theorem dd_D_wouldDeadlock_108 : decode cd_D_wouldDeadlock 108 = .ok (.goto (-106), 3) := by decide +kernel
theorem dd_D_wouldDeadlock_111 : decode cd_D_wouldDeadlock 111 = .ok (.iconst 0, 1) := by decide +kernel
theorem dd_D_wouldDeadlock_112 : decode cd_D_wouldDeadlock 112 = .ok (.ireturn, 1) := by decide +kernel
theorem dd_D_choose_0 : decode cd_D_choose 0 = .ok (.aconst_null, 1) := by decide +kernel
theorem dd_D_choose_1 : decode cd_D_choose 1 = .ok (.astore_n 1, 1) := by decide +kernel
theorem dd_D_choose_2 : decode cd_D_choose 2 = .ok (.iconst 0, 1) := by decide +kernel
theorem dd_D_choose_3 : decode cd_D_choose 3 = .ok (.istore_n 2, 1) := by decide +kernel
theorem dd_D_choose_4 : decode cd_D_choose 4 = .ok (.iload_n 2, 1) := by decide +kernel
theorem dd_D_choose_5 : decode cd_D_choose 5 = .ok (.aload_n 0, 1) := by decide +kernel
theorem dd_D_choose_6 : decode cd_D_choose 6 = .ok (.getfield 43, 3) := by decide +kernel
theorem dd_D_choose_9 : decode cd_D_choose 9 = .ok (.if_icmp .ge 41, 3) := by decide +kernel
theorem dd_D_choose_12 : decode cd_D_choose 12 = .ok (.aload_n 0, 1) := by decide +kernel
theorem dd_D_choose_13 : decode cd_D_choose 13 = .ok (.getfield 24, 3) := by decide +kernel
theorem dd_D_choose_16 : decode cd_D_choose 16 = .ok (.iload_n 2, 1) := by decide +kernel
theorem dd_D_choose_17 : decode cd_D_choose 17 = .ok (.aaload, 1) := by decide +kernel
theorem dd_D_choose_18 : decode cd_D_choose 18 = .ok (.getfield 174, 3) := by decide +kernel
theorem dd_D_choose_21 : decode cd_D_choose 21 = .ok (.astore_n 3, 1) := by decide +kernel
theorem dd_D_choose_22 : decode cd_D_choose 22 = .ok (.aload_n 0, 1) := by decide +kernel
theorem dd_D_choose_23 : decode cd_D_choose 23 = .ok (.aload_n 3, 1) := by decide +kernel
theorem dd_D_choose_24 : decode cd_D_choose 24 = .ok (.invokevirtual 177, 3) := by decide +kernel
theorem dd_D_choose_27 : decode cd_D_choose 27 = .ok (.ifCond .eq 17, 3) := by decide +kernel
theorem dd_D_choose_30 : decode cd_D_choose 30 = .ok (.aload_n 1, 1) := by decide +kernel
theorem dd_D_choose_31 : decode cd_D_choose 31 = .ok (.ifnull 11, 3) := by decide +kernel
theorem dd_D_choose_34 : decode cd_D_choose 34 = .ok (.aload_n 3, 1) := by decide +kernel
theorem dd_D_choose_35 : decode cd_D_choose 35 = .ok (.aload_n 1, 1) := by decide +kernel
theorem dd_D_choose_36 : decode cd_D_choose 36 = .ok (.invokevirtual 204, 3) := by decide +kernel
theorem dd_D_choose_39 : decode cd_D_choose 39 = .ok (.ifCond .eq 5, 3) := by decide +kernel
theorem dd_D_choose_42 : decode cd_D_choose 42 = .ok (.aload_n 3, 1) := by decide +kernel
theorem dd_D_choose_43 : decode cd_D_choose 43 = .ok (.astore_n 1, 1) := by decide +kernel
theorem dd_D_choose_44 : decode cd_D_choose 44 = .ok (.iinc 2 1, 3) := by decide +kernel
theorem dd_D_choose_47 : decode cd_D_choose 47 = .ok (.goto (-43), 3) := by decide +kernel
theorem dd_D_choose_50 : decode cd_D_choose 50 = .ok (.aload_n 1, 1) := by decide +kernel
theorem dd_D_choose_51 : decode cd_D_choose 51 = .ok (.areturn, 1) := by decide +kernel
theorem dd_D_mayStart_0 : decode cd_D_mayStart 0 = .ok (.aload_n 1, 1) := by decide +kernel
theorem dd_D_mayStart_1 : decode cd_D_mayStart 1 = .ok (.ifnull 10, 3) := by decide +kernel
theorem dd_D_mayStart_4 : decode cd_D_mayStart 4 = .ok (.aload_n 1, 1) := by decide +kernel
theorem dd_D_mayStart_5 : decode cd_D_mayStart 5 = .ok (.invokevirtual 207, 3) := by decide +kernel
theorem dd_D_mayStart_8 : decode cd_D_mayStart 8 = .ok (.ifCond .ne 5, 3) := by decide +kernel
theorem dd_D_mayStart_11 : decode cd_D_mayStart 11 = .ok (.iconst 0, 1) := by decide +kernel
theorem dd_D_mayStart_12 : decode cd_D_mayStart 12 = .ok (.ireturn, 1) := by decide +kernel
theorem dd_D_mayStart_13 : decode cd_D_mayStart 13 = .ok (.aload_n 1, 1) := by decide +kernel
theorem dd_D_mayStart_14 : decode cd_D_mayStart 14 = .ok (.getfield 127, 3) := by decide +kernel
theorem dd_D_mayStart_17 : decode cd_D_mayStart 17 = .ok (.ifCond .ne 21, 3) := by decide +kernel
theorem dd_D_mayStart_20 : decode cd_D_mayStart 20 = .ok (.aload_n 1, 1) := by decide +kernel
theorem dd_D_mayStart_21 : decode cd_D_mayStart 21 = .ok (.getfield 110, 3) := by decide +kernel
theorem dd_D_mayStart_24 : decode cd_D_mayStart 24 = .ok (.ifnonnull 14, 3) := by decide +kernel
theorem dd_D_mayStart_27 : decode cd_D_mayStart 27 = .ok (.aload_n 0, 1) := by decide +kernel
theorem dd_D_mayStart_28 : decode cd_D_mayStart 28 = .ok (.getfield 210, 3) := by decide +kernel
theorem dd_D_mayStart_31 : decode cd_D_mayStart 31 = .ok (.aload_n 0, 1) := by decide +kernel
theorem dd_D_mayStart_32 : decode cd_D_mayStart 32 = .ok (.getfield 18, 3) := by decide +kernel
theorem dd_D_mayStart_35 : decode cd_D_mayStart 35 = .ok (.if_icmp .ge 7, 3) := by decide +kernel
theorem dd_D_mayStart_38 : decode cd_D_mayStart 38 = .ok (.iconst 1, 1) := by decide +kernel
theorem dd_D_mayStart_39 : decode cd_D_mayStart 39 = .ok (.goto 4, 3) := by decide +kernel
theorem dd_D_mayStart_42 : decode cd_D_mayStart 42 = .ok (.iconst 0, 1) := by decide +kernel
theorem dd_D_mayStart_43 : decode cd_D_mayStart 43 = .ok (.ireturn, 1) := by decide +kernel
theorem dd_D_start_0 : decode cd_D_start 0 = .ok (.aload_n 1, 1) := by decide +kernel
theorem dd_D_start_1 : decode cd_D_start 1 = .ok (.iconst 3, 1) := by decide +kernel
theorem dd_D_start_2 : decode cd_D_start 2 = .ok (.putfield 91, 3) := by decide +kernel
theorem dd_D_start_5 : decode cd_D_start 5 = .ok (.aload_n 1, 1) := by decide +kernel
theorem dd_D_start_6 : decode cd_D_start 6 = .ok (.getfield 110, 3) := by decide +kernel
theorem dd_D_start_9 : decode cd_D_start 9 = .ok (.ifnonnull 13, 3) := by decide +kernel
theorem dd_D_start_12 : decode cd_D_start 12 = .ok (.aload_n 0, 1) := by decide +kernel
theorem dd_D_start_13 : decode cd_D_start 13 = .ok (.dup, 1) := by decide +kernel
theorem dd_D_start_14 : decode cd_D_start 14 = .ok (.getfield 210, 3) := by decide +kernel
theorem dd_D_start_17 : decode cd_D_start 17 = .ok (.iconst 1, 1) := by decide +kernel
theorem dd_D_start_18 : decode cd_D_start 18 = .ok (.iadd, 1) := by decide +kernel
theorem dd_D_start_19 : decode cd_D_start 19 = .ok (.putfield 210, 3) := by decide +kernel
theorem dd_D_start_22 : decode cd_D_start 22 = .ok (.aload_n 1, 1) := by decide +kernel
theorem dd_D_start_23 : decode cd_D_start 23 = .ok (.getfield 201, 3) := by decide +kernel
theorem dd_D_start_26 : decode cd_D_start 26 = .ok (.ifCond .eq 11, 3) := by decide +kernel
theorem dd_D_start_29 : decode cd_D_start 29 = .ok (.aload_n 1, 1) := by decide +kernel
theorem dd_D_start_30 : decode cd_D_start 30 = .ok (.getfield 141, 3) := by decide +kernel
theorem dd_D_start_33 : decode cd_D_start 33 = .ok (.iconst 1, 1) := by decide +kernel
theorem dd_D_start_34 : decode cd_D_start 34 = .ok (.putfield 213, 3) := by decide +kernel
theorem dd_D_start_37 : decode cd_D_start 37 = .ok (.aload_n 1, 1) := by decide +kernel
theorem dd_D_start_38 : decode cd_D_start 38 = .ok (.getfield 141, 3) := by decide +kernel
theorem dd_D_start_41 : decode cd_D_start 41 = .ok (.astore_n 2, 1) := by decide +kernel
theorem dd_D_start_42 : decode cd_D_start 42 = .ok (.aload_n 2, 1) := by decide +kernel
theorem dd_D_start_43 : decode cd_D_start 43 = .ok (.ifnull 36, 3) := by decide +kernel
theorem dd_D_start_46 : decode cd_D_start 46 = .ok (.aload_n 2, 1) := by decide +kernel
theorem dd_D_start_47 : decode cd_D_start 47 = .ok (.dup, 1) := by decide +kernel
theorem dd_D_start_48 : decode cd_D_start 48 = .ok (.getfield 59, 3) := by decide +kernel
theorem dd_D_start_51 : decode cd_D_start 51 = .ok (.iconst 1, 1) := by decide +kernel
theorem dd_D_start_52 : decode cd_D_start 52 = .ok (.iadd, 1) := by decide +kernel
theorem dd_D_start_53 : decode cd_D_start 53 = .ok (.putfield 59, 3) := by decide +kernel
theorem dd_D_start_56 : decode cd_D_start 56 = .ok (.aload_n 2, 1) := by decide +kernel
theorem dd_D_start_57 : decode cd_D_start 57 = .ok (.aload_n 2, 1) := by decide +kernel
theorem dd_D_start_58 : decode cd_D_start 58 = .ok (.getfield 171, 3) := by decide +kernel
theorem dd_D_start_61 : decode cd_D_start 61 = .ok (.aload_n 2, 1) := by decide +kernel
theorem dd_D_start_62 : decode cd_D_start 62 = .ok (.getfield 59, 3) := by decide +kernel
theorem dd_D_start_65 : decode cd_D_start 65 = .ok (.invokestatic 15, 3) := by decide +kernel
theorem dd_D_start_68 : decode cd_D_start 68 = .ok (.putfield 171, 3) := by decide +kernel
theorem dd_D_start_71 : decode cd_D_start 71 = .ok (.aload_n 2, 1) := by decide +kernel
theorem dd_D_start_72 : decode cd_D_start 72 = .ok (.getfield 62, 3) := by decide +kernel
theorem dd_D_start_75 : decode cd_D_start 75 = .ok (.astore_n 2, 1) := by decide +kernel
theorem dd_D_start_76 : decode cd_D_start 76 = .ok (.goto (-34), 3) := by decide +kernel
theorem dd_D_start_79 : decode cd_D_start 79 = .ok (.return_, 1) := by decide +kernel
theorem dd_D_withdraw_0 : decode cd_D_withdraw 0 = .ok (.aload_n 1, 1) := by decide +kernel
theorem dd_D_withdraw_1 : decode cd_D_withdraw 1 = .ok (.getfield 110, 3) := by decide +kernel
theorem dd_D_withdraw_4 : decode cd_D_withdraw 4 = .ok (.ifnonnull 13, 3) := by decide +kernel
theorem dd_D_withdraw_7 : decode cd_D_withdraw 7 = .ok (.aload_n 0, 1) := by decide +kernel
theorem dd_D_withdraw_8 : decode cd_D_withdraw 8 = .ok (.dup, 1) := by decide +kernel
theorem dd_D_withdraw_9 : decode cd_D_withdraw 9 = .ok (.getfield 210, 3) := by decide +kernel
theorem dd_D_withdraw_12 : decode cd_D_withdraw 12 = .ok (.iconst 1, 1) := by decide +kernel
theorem dd_D_withdraw_13 : decode cd_D_withdraw 13 = .ok (.isub, 1) := by decide +kernel
theorem dd_D_withdraw_14 : decode cd_D_withdraw 14 = .ok (.putfield 210, 3) := by decide +kernel
theorem dd_D_withdraw_17 : decode cd_D_withdraw 17 = .ok (.aload_n 1, 1) := by decide +kernel
theorem dd_D_withdraw_18 : decode cd_D_withdraw 18 = .ok (.getfield 201, 3) := by decide +kernel
theorem dd_D_withdraw_21 : decode cd_D_withdraw 21 = .ok (.ifCond .eq 11, 3) := by decide +kernel
theorem dd_D_withdraw_24 : decode cd_D_withdraw 24 = .ok (.aload_n 1, 1) := by decide +kernel
theorem dd_D_withdraw_25 : decode cd_D_withdraw 25 = .ok (.getfield 141, 3) := by decide +kernel
theorem dd_D_withdraw_28 : decode cd_D_withdraw 28 = .ok (.iconst 0, 1) := by decide +kernel
theorem dd_D_withdraw_29 : decode cd_D_withdraw 29 = .ok (.putfield 213, 3) := by decide +kernel
theorem dd_D_withdraw_32 : decode cd_D_withdraw 32 = .ok (.aload_n 1, 1) := by decide +kernel
theorem dd_D_withdraw_33 : decode cd_D_withdraw 33 = .ok (.getfield 141, 3) := by decide +kernel
