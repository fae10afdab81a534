/-! Part 02: decode rows of the class. -/
theorem dd_D_whenDone_71 : decode cd_D_whenDone 71 = .ok (.putfield 117, 3) := by decide +kernel
theorem dd_D_whenDone_74 : decode cd_D_whenDone 74 = .ok (.aload 5, 2) := by decide +kernel
theorem dd_D_whenDone_76 : decode cd_D_whenDone 76 = .ok (.getfield 88, 3) := by decide +kernel
theorem dd_D_whenDone_79 : decode cd_D_whenDone 79 = .ok (.ireturn, 1) := by decide +kernel
theorem dd_D_enter_0 : decode cd_D_enter 0 = .ok (.aload_n 0, 1) := by decide +kernel
theorem dd_D_enter_1 : decode cd_D_enter 1 = .ok (.iload_n 1, 1) := by decide +kernel
theorem dd_D_enter_2 : decode cd_D_enter 2 = .ok (.invokevirtual 66, 3) := by decide +kernel
theorem dd_D_enter_5 : decode cd_D_enter 5 = .ok (.astore_n 2, 1) := by decide +kernel
theorem dd_D_enter_6 : decode cd_D_enter 6 = .ok (.aload_n 2, 1) := by decide +kernel
theorem dd_D_enter_7 : decode cd_D_enter 7 = .ok (.ifnull 13, 3) := by decide +kernel
theorem dd_D_enter_10 : decode cd_D_enter 10 = .ok (.aload_n 2, 1) := by decide +kernel
theorem dd_D_enter_11 : decode cd_D_enter 11 = .ok (.getfield 120, 3) := by decide +kernel
theorem dd_D_enter_14 : decode cd_D_enter 14 = .ok (.sipush 200, 3) := by decide +kernel
theorem dd_D_enter_17 : decode cd_D_enter 17 = .ok (.if_icmp .lt 5, 3) := by decide +kernel
theorem dd_D_enter_20 : decode cd_D_enter 20 = .ok (.iconst 0, 1) := by decide +kernel
theorem dd_D_enter_21 : decode cd_D_enter 21 = .ok (.ireturn, 1) := by decide +kernel
theorem dd_D_enter_22 : decode cd_D_enter 22 = .ok (.aload_n 2, 1) := by decide +kernel
theorem dd_D_enter_23 : decode cd_D_enter 23 = .ok (.dup, 1) := by decide +kernel
theorem dd_D_enter_24 : decode cd_D_enter 24 = .ok (.getfield 120, 3) := by decide +kernel
theorem dd_D_enter_27 : decode cd_D_enter 27 = .ok (.iconst 1, 1) := by decide +kernel
theorem dd_D_enter_28 : decode cd_D_enter 28 = .ok (.iadd, 1) := by decide +kernel
theorem dd_D_enter_29 : decode cd_D_enter 29 = .ok (.putfield 120, 3) := by decide +kernel
theorem dd_D_enter_32 : decode cd_D_enter 32 = .ok (.iconst 1, 1) := by decide +kernel
theorem dd_D_enter_33 : decode cd_D_enter 33 = .ok (.ireturn, 1) := by decide +kernel
theorem dd_D_leave_0 : decode cd_D_leave 0 = .ok (.aload_n 0, 1) := by decide +kernel
theorem dd_D_leave_1 : decode cd_D_leave 1 = .ok (.iload_n 1, 1) := by decide +kernel
theorem dd_D_leave_2 : decode cd_D_leave 2 = .ok (.invokevirtual 66, 3) := by decide +kernel
theorem dd_D_leave_5 : decode cd_D_leave 5 = .ok (.astore_n 2, 1) := by decide +kernel
theorem dd_D_leave_6 : decode cd_D_leave 6 = .ok (.aload_n 2, 1) := by decide +kernel
theorem dd_D_leave_7 : decode cd_D_leave 7 = .ok (.ifnull 10, 3) := by decide +kernel
theorem dd_D_leave_10 : decode cd_D_leave 10 = .ok (.aload_n 2, 1) := by decide +kernel
theorem dd_D_leave_11 : decode cd_D_leave 11 = .ok (.getfield 120, 3) := by decide +kernel
theorem dd_D_leave_14 : decode cd_D_leave 14 = .ok (.ifCond .gt 5, 3) := by decide +kernel
theorem dd_D_leave_17 : decode cd_D_leave 17 = .ok (.iconst 0, 1) := by decide +kernel
theorem dd_D_leave_18 : decode cd_D_leave 18 = .ok (.ireturn, 1) := by decide +kernel
theorem dd_D_leave_19 : decode cd_D_leave 19 = .ok (.aload_n 2, 1) := by decide +kernel
theorem dd_D_leave_20 : decode cd_D_leave 20 = .ok (.dup, 1) := by decide +kernel
theorem dd_D_leave_21 : decode cd_D_leave 21 = .ok (.getfield 120, 3) := by decide +kernel
theorem dd_D_leave_24 : decode cd_D_leave 24 = .ok (.iconst 1, 1) := by decide +kernel
theorem dd_D_leave_25 : decode cd_D_leave 25 = .ok (.isub, 1) := by decide +kernel
theorem dd_D_leave_26 : decode cd_D_leave 26 = .ok (.putfield 120, 3) := by decide +kernel
theorem dd_D_leave_29 : decode cd_D_leave 29 = .ok (.aload_n 0, 1) := by decide +kernel
theorem dd_D_leave_30 : decode cd_D_leave 30 = .ok (.aload_n 2, 1) := by decide +kernel
theorem dd_D_leave_31 : decode cd_D_leave 31 = .ok (.invokevirtual 123, 3) := by decide +kernel
theorem dd_D_leave_34 : decode cd_D_leave 34 = .ok (.iconst 1, 1) := by decide +kernel
theorem dd_D_leave_35 : decode cd_D_leave 35 = .ok (.ireturn, 1) := by decide +kernel
theorem dd_D_cancel_0 : decode cd_D_cancel 0 = .ok (.aload_n 0, 1) := by decide +kernel
theorem dd_D_cancel_1 : decode cd_D_cancel 1 = .ok (.iload_n 1, 1) := by decide +kernel
theorem dd_D_cancel_2 : decode cd_D_cancel 2 = .ok (.invokevirtual 102, 3) := by decide +kernel
theorem dd_D_cancel_5 : decode cd_D_cancel 5 = .ok (.astore_n 2, 1) := by decide +kernel
theorem dd_D_cancel_6 : decode cd_D_cancel 6 = .ok (.aload_n 2, 1) := by decide +kernel
theorem dd_D_cancel_7 : decode cd_D_cancel 7 = .ok (.ifnull 17, 3) := by decide +kernel
theorem dd_D_cancel_10 : decode cd_D_cancel 10 = .ok (.aload_n 2, 1) := by decide +kernel
theorem dd_D_cancel_11 : decode cd_D_cancel 11 = .ok (.getfield 127, 3) := by decide +kernel
theorem dd_D_cancel_14 : decode cd_D_cancel 14 = .ok (.ifCond .ne 10, 3) := by decide +kernel
theorem dd_D_cancel_17 : decode cd_D_cancel 17 = .ok (.aload_n 2, 1) := by decide +kernel
theorem dd_D_cancel_18 : decode cd_D_cancel 18 = .ok (.invokevirtual 131, 3) := by decide +kernel
theorem dd_D_cancel_21 : decode cd_D_cancel 21 = .ok (.ifCond .ne 5, 3) := by decide +kernel
theorem dd_D_cancel_24 : decode cd_D_cancel 24 = .ok (.iconst 0, 1) := by decide +kernel
theorem dd_D_cancel_25 : decode cd_D_cancel 25 = .ok (.ireturn, 1) := by decide +kernel
theorem dd_D_cancel_26 : decode cd_D_cancel 26 = .ok (.aload_n 2, 1) := by decide +kernel
theorem dd_D_cancel_27 : decode cd_D_cancel 27 = .ok (.iconst 1, 1) := by decide +kernel
theorem dd_D_cancel_28 : decode cd_D_cancel 28 = .ok (.putfield 127, 3) := by decide +kernel
theorem dd_D_cancel_31 : decode cd_D_cancel 31 = .ok (.iconst 1, 1) := by decide +kernel
theorem dd_D_cancel_32 : decode cd_D_cancel 32 = .ok (.ireturn, 1) := by decide +kernel
theorem dd_D_hold_0 : decode cd_D_hold 0 = .ok (.aload_n 0, 1) := by decide +kernel
theorem dd_D_hold_1 : decode cd_D_hold 1 = .ok (.iload_n 1, 1) := by decide +kernel
theorem dd_D_hold_2 : decode cd_D_hold 2 = .ok (.invokevirtual 47, 3) := by decide +kernel
theorem dd_D_hold_5 : decode cd_D_hold 5 = .ok (.astore_n 3, 1) := by decide +kernel
theorem dd_D_hold_6 : decode cd_D_hold 6 = .ok (.aload_n 3, 1) := by decide +kernel
theorem dd_D_hold_7 : decode cd_D_hold 7 = .ok (.ifnull 10, 3) := by decide +kernel
theorem dd_D_hold_10 : decode cd_D_hold 10 = .ok (.aload_n 3, 1) := by decide +kernel
theorem dd_D_hold_11 : decode cd_D_hold 11 = .ok (.invokevirtual 51, 3) := by decide +kernel
theorem dd_D_hold_14 : decode cd_D_hold 14 = .ok (.ifCond .eq 5, 3) := by decide +kernel
theorem dd_D_hold_17 : decode cd_D_hold 17 = .ok (.iconst (-1), 1) := by decide +kernel
theorem dd_D_hold_18 : decode cd_D_hold 18 = .ok (.ireturn, 1) := by decide +kernel
theorem dd_D_hold_19 : decode cd_D_hold 19 = .ok (.iload_n 2, 1) := by decide +kernel
theorem dd_D_hold_20 : decode cd_D_hold 20 = .ok (.ifCond .eq 15, 3) := by decide +kernel
theorem dd_D_hold_23 : decode cd_D_hold 23 = .ok (.aload_n 3, 1) := by decide +kernel
theorem dd_D_hold_24 : decode cd_D_hold 24 = .ok (.getfield 134, 3) := by decide +kernel
theorem dd_D_hold_27 : decode cd_D_hold 27 = .ok (.bipush 100, 2) := by decide +kernel
theorem dd_D_hold_29 : decode cd_D_hold 29 = .ok (.if_icmp .lt 6, 3) := by decide +kernel
theorem dd_D_hold_32 : decode cd_D_hold 32 = .ok (.bipush (-4), 2) := by decide +kernel
theorem dd_D_hold_34 : decode cd_D_hold 34 = .ok (.ireturn, 1) := by decide +kernel
theorem dd_D_hold_35 : decode cd_D_hold 35 = .ok (.iload_n 2, 1) := by decide +kernel
theorem dd_D_hold_36 : decode cd_D_hold 36 = .ok (.ifCond .ne 13, 3) := by decide +kernel
theorem dd_D_hold_39 : decode cd_D_hold 39 = .ok (.aload_n 3, 1) := by decide +kernel
theorem dd_D_hold_40 : decode cd_D_hold 40 = .ok (.getfield 134, 3) := by decide +kernel
theorem dd_D_hold_43 : decode cd_D_hold 43 = .ok (.ifCond .gt 6, 3) := by decide +kernel
theorem dd_D_hold_46 : decode cd_D_hold 46 = .ok (.bipush (-8), 2) := by decide +kernel
theorem dd_D_hold_48 : decode cd_D_hold 48 = .ok (.ireturn, 1) := by decide +kernel
theorem dd_D_hold_49 : decode cd_D_hold 49 = .ok (.aload_n 3, 1) := by decide +kernel
theorem dd_D_hold_50 : decode cd_D_hold 50 = .ok (.dup, 1) := by decide +kernel
theorem dd_D_hold_51 : decode cd_D_hold 51 = .ok (.getfield 134, 3) := by decide +kernel
theorem dd_D_hold_54 : decode cd_D_hold 54 = .ok (.iload_n 2, 1) := by decide +kernel
theorem dd_D_hold_55 : decode cd_D_hold 55 = .ok (.ifCond .eq 7, 3) := by decide +kernel
theorem dd_D_hold_58 : decode cd_D_hold 58 = .ok (.iconst 1, 1) := by decide +kernel
theorem dd_D_hold_59 : decode cd_D_hold 59 = .ok (.goto 4, 3) := by decide +kernel
theorem dd_D_hold_62 : decode cd_D_hold 62 = .ok (.iconst (-1), 1) := by decide +kernel
theorem dd_D_hold_63 : decode cd_D_hold 63 = .ok (.iadd, 1) := by decide +kernel
theorem dd_D_hold_64 : decode cd_D_hold 64 = .ok (.putfield 134, 3) := by decide +kernel
theorem dd_D_hold_67 : decode cd_D_hold 67 = .ok (.aload_n 3, 1) := by decide +kernel
theorem dd_D_hold_68 : decode cd_D_hold 68 = .ok (.getfield 134, 3) := by decide +kernel
theorem dd_D_hold_71 : decode cd_D_hold 71 = .ok (.ireturn, 1) := by decide +kernel
theorem dd_D_begin_0 : decode cd_D_begin 0 = .ok (.iconst 0, 1) := by decide +kernel
theorem dd_D_begin_1 : decode cd_D_begin 1 = .ok (.istore_n 1, 1) := by decide +kernel
theorem dd_D_begin_2 : decode cd_D_begin 2 = .ok (.iload_n 1, 1) := by decide +kernel
theorem dd_D_begin_3 : decode cd_D_begin 3 = .ok (.sipush 160, 3) := by decide +kernel
theorem dd_D_begin_6 : decode cd_D_begin 6 = .ok (.if_icmp .gt 52, 3) := by decide +kernel
theorem dd_D_begin_9 : decode cd_D_begin 9 = .ok (.aload_n 0, 1) := by decide +kernel
theorem dd_D_begin_10 : decode cd_D_begin 10 = .ok (.invokevirtual 137, 3) := by decide +kernel
theorem dd_D_begin_13 : decode cd_D_begin 13 = .ok (.astore_n 2, 1) := by decide +kernel
theorem dd_D_begin_14 : decode cd_D_begin 14 = .ok (.aload_n 2, 1) := by decide +kernel
theorem dd_D_begin_15 : decode cd_D_begin 15 = .ok (.ifnonnull 6, 3) := by decide +kernel
theorem dd_D_begin_18 : decode cd_D_begin 18 = .ok (.bipush (-8), 2) := by decide +kernel
theorem dd_D_begin_20 : decode cd_D_begin 20 = .ok (.ireturn, 1) := by decide +kernel
theorem dd_D_begin_21 : decode cd_D_begin 21 = .ok (.aload_n 2, 1) := by decide +kernel
theorem dd_D_begin_22 : decode cd_D_begin 22 = .ok (.getfield 141, 3) := by decide +kernel
theorem dd_D_begin_25 : decode cd_D_begin 25 = .ok (.invokevirtual 144, 3) := by decide +kernel
theorem dd_D_begin_28 : decode cd_D_begin 28 = .ok (.aload_n 2, 1) := by decide +kernel
theorem dd_D_begin_29 : decode cd_D_begin 29 = .ok (.getfield 127, 3) := by decide +kernel
theorem dd_D_begin_32 : decode cd_D_begin 32 = .ok (.ifCond .ne 13, 3) := by decide +kernel
theorem dd_D_begin_35 : decode cd_D_begin 35 = .ok (.aload_n 0, 1) := by decide +kernel
theorem dd_D_begin_36 : decode cd_D_begin 36 = .ok (.aload_n 2, 1) := by decide +kernel
theorem dd_D_begin_37 : decode cd_D_begin 37 = .ok (.invokevirtual 147, 3) := by decide +kernel
theorem dd_D_begin_40 : decode cd_D_begin 40 = .ok (.aload_n 2, 1) := by decide +kernel
theorem dd_D_begin_41 : decode cd_D_begin 41 = .ok (.getfield 88, 3) := by decide +kernel
theorem dd_D_begin_44 : decode cd_D_begin 44 = .ok (.ireturn, 1) := by decide +kernel
theorem dd_D_begin_45 : decode cd_D_begin 45 = .ok (.aload_n 0, 1) := by decide +kernel
theorem dd_D_begin_46 : decode cd_D_begin 46 = .ok (.aload_n 2, 1) := by decide +kernel
theorem dd_D_begin_47 : decode cd_D_begin 47 = .ok (.bipush 6, 2) := by decide +kernel
theorem dd_D_begin_49 : decode cd_D_begin 49 = .ok (.invokevirtual 150, 3) := by decide +kernel
theorem dd_D_begin_52 : decode cd_D_begin 52 = .ok (.iinc 1 1, 3) := by decide +kernel
theorem dd_D_begin_55 : decode cd_D_begin 55 = .ok (.goto (-53), 3) := by decide +kernel
theorem dd_D_begin_58 : decode cd_D_begin 58 = .ok (.bipush (-8), 2) := by decide +kernel
theorem dd_D_begin_60 : decode cd_D_begin 60 = .ok (.ireturn, 1) := by decide +kernel
theorem dd_D_finish_0 : decode cd_D_finish 0 = .ok (.aload_n 0, 1) := by decide +kernel
theorem dd_D_finish_1 : decode cd_D_finish 1 = .ok (.iload_n 1, 1) := by decide +kernel
theorem dd_D_finish_2 : decode cd_D_finish 2 = .ok (.invokevirtual 102, 3) := by decide +kernel
theorem dd_D_finish_5 : decode cd_D_finish 5 = .ok (.astore_n 2, 1) := by decide +kernel
theorem dd_D_finish_6 : decode cd_D_finish 6 = .ok (.aload_n 2, 1) := by decide +kernel
theorem dd_D_finish_7 : decode cd_D_finish 7 = .ok (.ifnull 11, 3) := by decide +kernel
theorem dd_D_finish_10 : decode cd_D_finish 10 = .ok (.aload_n 2, 1) := by decide +kernel
theorem dd_D_finish_11 : decode cd_D_finish 11 = .ok (.getfield 91, 3) := by decide +kernel
theorem dd_D_finish_14 : decode cd_D_finish 14 = .ok (.iconst 3, 1) := by decide +kernel
theorem dd_D_finish_15 : decode cd_D_finish 15 = .ok (.if_icmp .eq 5, 3) := by decide +kernel
theorem dd_D_finish_18 : decode cd_D_finish 18 = .ok (.iconst 0, 1) := by decide +kernel
theorem dd_D_finish_19 : decode cd_D_finish 19 = .ok (.ireturn, 1) := by decide +kernel
theorem dd_D_finish_20 : decode cd_D_finish 20 = .ok (.aload_n 0, 1) := by decide +kernel
theorem dd_D_finish_21 : decode cd_D_finish 21 = .ok (.aload_n 2, 1) := by decide +kernel
theorem dd_D_finish_22 : decode cd_D_finish 22 = .ok (.invokevirtual 154, 3) := by decide +kernel
theorem dd_D_finish_25 : decode cd_D_finish 25 = .ok (.aload_n 0, 1) := by decide +kernel
theorem dd_D_finish_26 : decode cd_D_finish 26 = .ok (.aload_n 2, 1) := by decide +kernel
theorem dd_D_finish_27 : decode cd_D_finish 27 = .ok (.iconst 5, 1) := by decide +kernel
theorem dd_D_finish_28 : decode cd_D_finish 28 = .ok (.invokevirtual 150, 3) := by decide +kernel
theorem dd_D_finish_31 : decode cd_D_finish 31 = .ok (.iconst 1, 1) := by decide +kernel
theorem dd_D_finish_32 : decode cd_D_finish 32 = .ok (.ireturn, 1) := by decide +kernel
theorem dd_D_advance_0 : decode cd_D_advance 0 = .ok (.lload_n 1, 1) := by decide +kernel
theorem dd_D_advance_1 : decode cd_D_advance 1 = .ok (.lconst 0, 1) := by decide +kernel
theorem dd_D_advance_2 : decode cd_D_advance 2 = .ok (.lcmp, 1) := by decide +kernel
theorem dd_D_advance_3 : decode cd_D_advance 3 = .ok (.ifCond .ge 6, 3) := by decide +kernel
theorem dd_D_advance_6 : decode cd_D_advance 6 = .ok (.bipush (-9), 2) := by decide +kernel
theorem dd_D_advance_8 : decode cd_D_advance 8 = .ok (.ireturn, 1) := by decide +kernel
theorem dd_D_advance_9 : decode cd_D_advance 9 = .ok (.ldc2_w 157, 3) := by decide +kernel
theorem dd_D_advance_12 : decode cd_D_advance 12 = .ok (.aload_n 0, 1) := by decide +kernel
theorem dd_D_advance_13 : decode cd_D_advance 13 = .ok (.getfield 159, 3) := by decide +kernel
theorem dd_D_advance_16 : decode cd_D_advance 16 = .ok (.lsub, 1) := by decide +kernel
theorem dd_D_advance_17 : decode cd_D_advance 17 = .ok (.lstore_n 3, 1) := by decide +kernel
theorem dd_D_advance_18 : decode cd_D_advance 18 = .ok (.aload_n 0, 1) := by decide +kernel
theorem dd_D_advance_19 : decode cd_D_advance 19 = .ok (.dup, 1) := by decide +kernel
theorem dd_D_advance_20 : decode cd_D_advance 20 = .ok (.getfield 159, 3) := by decide +kernel
theorem dd_D_advance_23 : decode cd_D_advance 23 = .ok (.lload_n 1, 1) := by decide +kernel
theorem dd_D_advance_24 : decode cd_D_advance 24 = .ok (.lload_n 3, 1) := by decide +kernel
theorem dd_D_advance_25 : decode cd_D_advance 25 = .ok (.invokestatic 162, 3) := by decide +kernel
theorem dd_D_advance_28 : decode cd_D_advance 28 = .ok (.ladd, 1) := by decide +kernel
theorem dd_D_advance_29 : decode cd_D_advance 29 = .ok (.putfield 159, 3) := by decide +kernel
theorem dd_D_advance_32 : decode cd_D_advance 32 = .ok (.iconst 0, 1) := by decide +kernel
theorem dd_D_advance_33 : decode cd_D_advance 33 = .ok (.istore 5, 2) := by decide +kernel
theorem dd_D_advance_35 : decode cd_D_advance 35 = .ok (.aload_n 0, 1) := by decide +kernel
theorem dd_D_advance_36 : decode cd_D_advance 36 = .ok (.invokevirtual 165, 3) := by decide +kernel
theorem dd_D_advance_39 : decode cd_D_advance 39 = .ok (.astore 6, 2) := by decide +kernel
theorem dd_D_advance_41 : decode cd_D_advance 41 = .ok (.aload 6, 2) := by decide +kernel
theorem dd_D_advance_43 : decode cd_D_advance 43 = .ok (.ifnull 29, 3) := by decide +kernel
theorem dd_D_advance_46 : decode cd_D_advance 46 = .ok (.iload 5, 2) := by decide +kernel
theorem dd_D_advance_48 : decode cd_D_advance 48 = .ok (.sipush 160, 3) := by decide +kernel
theorem dd_D_advance_51 : decode cd_D_advance 51 = .ok (.if_icmp .ge 21, 3) := by decide +kernel
theorem dd_D_advance_54 : decode cd_D_advance 54 = .ok (.aload_n 0, 1) := by decide +kernel
theorem dd_D_advance_55 : decode cd_D_advance 55 = .ok (.aload 6, 2) := by decide +kernel
theorem dd_D_advance_57 : decode cd_D_advance 57 = .ok (.invokevirtual 84, 3) := by decide +kernel
theorem dd_D_advance_60 : decode cd_D_advance 60 = .ok (.iinc 5 1, 3) := by decide +kernel
theorem dd_D_advance_63 : decode cd_D_advance 63 = .ok (.aload_n 0, 1) := by decide +kernel
theorem dd_D_advance_64 : decode cd_D_advance 64 = .ok (.invokevirtual 165, 3) := by decide +kernel
theorem dd_D_advance_67 : decode cd_D_advance 67 = .ok (.astore 6, 2) := by decide +kernel
theorem dd_D_advance_69 : decode cd_D_advance 69 = .ok (.goto (-28), 3) := by decide +kernel
theorem dd_D_advance_72 : decode cd_D_advance 72 = .ok (.iload 5, 2) := by decide +kernel
theorem dd_D_advance_74 : decode cd_D_advance 74 = .ok (.ireturn, 1) := by decide +kernel
theorem dd_D_now_0 : decode cd_D_now 0 = .ok (.aload_n 0, 1) := by decide +kernel
theorem dd_D_now_1 : decode cd_D_now 1 = .ok (.getfield 159, 3) := by decide +kernel
theorem dd_D_now_4 : decode cd_D_now 4 = .ok (.lreturn, 1) := by decide +kernel
theorem dd_D_state_0 : decode cd_D_state 0 = .ok (.aload_n 0, 1) := by decide +kernel
theorem dd_D_state_1 : decode cd_D_state 1 = .ok (.iload_n 1, 1) := by decide +kernel
theorem dd_D_state_2 : decode cd_D_state 2 = .ok (.invokevirtual 102, 3) := by decide +kernel
theorem dd_D_state_5 : decode cd_D_state 5 = .ok (.astore_n 2, 1) := by decide +kernel
theorem dd_D_state_6 : decode cd_D_state 6 = .ok (.aload_n 2, 1) := by decide +kernel
theorem dd_D_state_7 : decode cd_D_state 7 = .ok (.ifnonnull 6, 3) := by decide +kernel
theorem dd_D_state_10 : decode cd_D_state 10 = .ok (.bipush (-3), 2) := by decide +kernel
theorem dd_D_state_12 : decode cd_D_state 12 = .ok (.ireturn, 1) := by decide +kernel
theorem dd_D_state_13 : decode cd_D_state 13 = .ok (.aload_n 2, 1) := by decide +kernel
theorem dd_D_state_14 : decode cd_D_state 14 = .ok (.getfield 127, 3) := by decide +kernel
theorem dd_D_state_17 : decode cd_D_state 17 = .ok (.ifCond .eq 13, 3) := by decide +kernel
theorem dd_D_state_20 : decode cd_D_state 20 = .ok (.aload_n 2, 1) := by decide +kernel
theorem dd_D_state_21 : decode cd_D_state 21 = .ok (.getfield 91, 3) := by decide +kernel
theorem dd_D_state_24 : decode cd_D_state 24 = .ok (.bipush 8, 2) := by decide +kernel
theorem dd_D_state_26 : decode cd_D_state 26 = .ok (.iadd, 1) := by decide +kernel
theorem dd_D_state_27 : decode cd_D_state 27 = .ok (.goto 7, 3) := by decide +kernel
theorem dd_D_state_30 : decode cd_D_state 30 = .ok (.aload_n 2, 1) := by decide +kernel
theorem dd_D_state_31 : decode cd_D_state 31 = .ok (.getfield 91, 3) := by decide +kernel
theorem dd_D_state_34 : decode cd_D_state 34 = .ok (.ireturn, 1) := by decide +kernel
theorem dd_D_queued_0 : decode cd_D_queued 0 = .ok (.aload_n 0, 1) := by decide +kernel
theorem dd_D_queued_1 : decode cd_D_queued 1 = .ok (.iload_n 1, 1) := by decide +kernel
theorem dd_D_queued_2 : decode cd_D_queued 2 = .ok (.invokevirtual 47, 3) := by decide +kernel
theorem dd_D_queued_5 : decode cd_D_queued 5 = .ok (.astore_n 2, 1) := by decide +kernel
theorem dd_D_queued_6 : decode cd_D_queued 6 = .ok (.aload_n 2, 1) := by decide +kernel
theorem dd_D_queued_7 : decode cd_D_queued 7 = .ok (.ifnonnull 7, 3) := by decide +kernel
theorem dd_D_queued_10 : decode cd_D_queued 10 = .ok (.iconst (-1), 1) := by decide +kernel
theorem dd_D_queued_11 : decode cd_D_queued 11 = .ok (.goto 7, 3) := by decide +kernel
theorem dd_D_queued_14 : decode cd_D_queued 14 = .ok (.aload_n 2, 1) := by decide +kernel
theorem dd_D_queued_15 : decode cd_D_queued 15 = .ok (.getfield 168, 3) := by decide +kernel
theorem dd_D_queued_18 : decode cd_D_queued 18 = .ok (.ireturn, 1) := by decide +kernel
theorem dd_D_through_0 : decode cd_D_through 0 = .ok (.aload_n 0, 1) := by decide +kernel
theorem dd_D_through_1 : decode cd_D_through 1 = .ok (.iload_n 1, 1) := by decide +kernel
theorem dd_D_through_2 : decode cd_D_through 2 = .ok (.invokevirtual 47, 3) := by decide +kernel
theorem dd_D_through_5 : decode cd_D_through 5 = .ok (.astore_n 2, 1) := by decide +kernel
theorem dd_D_through_6 : decode cd_D_through 6 = .ok (.aload_n 2, 1) := by decide +kernel
theorem dd_D_through_7 : decode cd_D_through 7 = .ok (.ifnonnull 7, 3) := by decide +kernel
theorem dd_D_through_10 : decode cd_D_through 10 = .ok (.iconst (-1), 1) := by decide +kernel
theorem dd_D_through_11 : decode cd_D_through 11 = .ok (.goto 7, 3) := by decide +kernel
theorem dd_D_through_14 : decode cd_D_through 14 = .ok (.aload_n 2, 1) := by decide +kernel
theorem dd_D_through_15 : decode cd_D_through 15 = .ok (.getfield 59, 3) := by decide +kernel
theorem dd_D_through_18 : decode cd_D_through 18 = .ok (.ireturn, 1) := by decide +kernel
theorem dd_D_peak_0 : decode cd_D_peak 0 = .ok (.aload_n 0, 1) := by decide +kernel
theorem dd_D_peak_1 : decode cd_D_peak 1 = .ok (.iload_n 1, 1) := by decide +kernel
theorem dd_D_peak_2 : decode cd_D_peak 2 = .ok (.invokevirtual 47, 3) := by decide +kernel
theorem dd_D_peak_5 : decode cd_D_peak 5 = .ok (.astore_n 2, 1) := by decide +kernel
theorem dd_D_peak_6 : decode cd_D_peak 6 = .ok (.aload_n 2, 1) := by decide +kernel
theorem dd_D_peak_7 : decode cd_D_peak 7 = .ok (.ifnonnull 7, 3) := by decide +kernel
theorem dd_D_peak_10 : decode cd_D_peak 10 = .ok (.iconst (-1), 1) := by decide +kernel
theorem dd_D_peak_11 : decode cd_D_peak 11 = .ok (.goto 7, 3) := by decide +kernel
theorem dd_D_peak_14 : decode cd_D_peak 14 = .ok (.aload_n 2, 1) := by decide +kernel
theorem dd_D_peak_15 : decode cd_D_peak 15 = .ok (.getfield 171, 3) := by decide +kernel
theorem dd_D_peak_18 : decode cd_D_peak 18 = .ok (.ireturn, 1) := by decide +kernel
theorem dd_D_count_0 : decode cd_D_count 0 = .ok (.aload_n 0, 1) := by decide +kernel
theorem dd_D_count_1 : decode cd_D_count 1 = .ok (.iload_n 1, 1) := by decide +kernel
theorem dd_D_count_2 : decode cd_D_count 2 = .ok (.invokevirtual 66, 3) := by decide +kernel
theorem dd_D_count_5 : decode cd_D_count 5 = .ok (.astore_n 2, 1) := by decide +kernel
theorem dd_D_count_6 : decode cd_D_count 6 = .ok (.aload_n 2, 1) := by decide +kernel
theorem dd_D_count_7 : decode cd_D_count 7 = .ok (.ifnonnull 8, 3) := by decide +kernel
theorem dd_D_count_10 : decode cd_D_count 10 = .ok (.bipush (-2), 2) := by decide +kernel
theorem dd_D_count_12 : decode cd_D_count 12 = .ok (.goto 12, 3) := by decide +kernel
theorem dd_D_count_15 : decode cd_D_count 15 = .ok (.aload_n 2, 1) := by decide +kernel
theorem dd_D_count_16 : decode cd_D_count 16 = .ok (.getfield 120, 3) := by decide +kernel
theorem dd_D_count_19 : decode cd_D_count 19 = .ok (.aload_n 2, 1) := by decide +kernel
theorem dd_D_count_20 : decode cd_D_count 20 = .ok (.getfield 81, 3) := by decide +kernel
theorem dd_D_count_23 : decode cd_D_count 23 = .ok (.iadd, 1) := by decide +kernel
theorem dd_D_count_24 : decode cd_D_count 24 = .ok (.ireturn, 1) := by decide +kernel
theorem dd_D_ready_0 : decode cd_D_ready 0 = .ok (.iconst 0, 1) := by decide +kernel
theorem dd_D_ready_1 : decode cd_D_ready 1 = .ok (.istore_n 1, 1) := by decide +kernel
theorem dd_D_ready_2 : decode cd_D_ready 2 = .ok (.iconst 0, 1) := by decide +kernel
theorem dd_D_ready_3 : decode cd_D_ready 3 = .ok (.istore_n 2, 1) := by decide +kernel
theorem dd_D_ready_4 : decode cd_D_ready 4 = .ok (.iload_n 2, 1) := by decide +kernel
theorem dd_D_ready_5 : decode cd_D_ready 5 = .ok (.aload_n 0, 1) := by decide +kernel
theorem dd_D_ready_6 : decode cd_D_ready 6 = .ok (.getfield 43, 3) := by decide +kernel
theorem dd_D_ready_9 : decode cd_D_ready 9 = .ok (.if_icmp .ge 28, 3) := by decide +kernel
theorem dd_D_ready_12 : decode cd_D_ready 12 = .ok (.aload_n 0, 1) := by decide +kernel
theorem dd_D_ready_13 : decode cd_D_ready 13 = .ok (.aload_n 0, 1) := by decide +kernel
theorem dd_D_ready_14 : decode cd_D_ready 14 = .ok (.getfield 24, 3) := by decide +kernel
theorem dd_D_ready_17 : decode cd_D_ready 17 = .ok (.iload_n 2, 1) := by decide +kernel
theorem dd_D_ready_18 : decode cd_D_ready 18 = .ok (.aaload, 1) := by decide +kernel
theorem dd_D_ready_19 : decode cd_D_ready 19 = .ok (.getfield 174, 3) := by decide +kernel
theorem dd_D_ready_22 : decode cd_D_ready 22 = .ok (.invokevirtual 177, 3) := by decide +kernel
theorem dd_D_ready_25 : decode cd_D_ready 25 = .ok (.ifCond .eq 6, 3) := by decide +kernel
theorem dd_D_ready_28 : decode cd_D_ready 28 = .ok (.iinc 1 1, 3) := by decide +kernel
theorem dd_D_ready_31 : decode cd_D_ready 31 = .ok (.iinc 2 1, 3) := by decide +kernel
theorem dd_D_ready_34 : decode cd_D_ready 34 = .ok (.goto (-30), 3) := by decide +kernel
theorem dd_D_ready_37 : decode cd_D_ready 37 = .ok (.iload_n 1, 1) := by decide +kernel
theorem dd_D_ready_38 : decode cd_D_ready 38 = .ok (.ireturn, 1) := by decide +kernel
theorem dd_D_queueAt_0 : decode cd_D_queueAt 0 = .ok (.iload_n 1, 1) := by decide +kernel
theorem dd_D_queueAt_1 : decode cd_D_queueAt 1 = .ok (.ifCond .lt 20, 3) := by decide +kernel
theorem dd_D_queueAt_4 : decode cd_D_queueAt 4 = .ok (.iload_n 1, 1) := by decide +kernel
theorem dd_D_queueAt_5 : decode cd_D_queueAt 5 = .ok (.aload_n 0, 1) := by decide +kernel
theorem dd_D_queueAt_6 : decode cd_D_queueAt 6 = .ok (.getfield 43, 3) := by decide +kernel
theorem dd_D_queueAt_9 : decode cd_D_queueAt 9 = .ok (.if_icmp .ge 12, 3) := by decide +kernel
theorem dd_D_queueAt_12 : decode cd_D_queueAt 12 = .ok (.aload_n 0, 1) := by decide +kernel
theorem dd_D_queueAt_13 : decode cd_D_queueAt 13 = .ok (.getfield 24, 3) := by decide +kernel
theorem dd_D_queueAt_16 : decode cd_D_queueAt 16 = .ok (.iload_n 1, 1) := by decide +kernel
theorem dd_D_queueAt_17 : decode cd_D_queueAt 17 = .ok (.aaload, 1) := by decide +kernel
theorem dd_D_queueAt_18 : decode cd_D_queueAt 18 = .ok (.goto 4, 3) := by decide +kernel
theorem dd_D_queueAt_21 : decode cd_D_queueAt 21 = .ok (.aconst_null, 1) := by decide +kernel
theorem dd_D_queueAt_22 : decode cd_D_queueAt 22 = .ok (.areturn, 1) := by decide +kernel
theorem dd_D_blockAt_0 : decode cd_D_blockAt 0 = .ok (.iload_n 1, 1) := by decide +kernel
theorem dd_D_blockAt_1 : decode cd_D_blockAt 1 = .ok (.ifCond .lt 20, 3) := by decide +kernel
theorem dd_D_blockAt_4 : decode cd_D_blockAt 4 = .ok (.iload_n 1, 1) := by decide +kernel
