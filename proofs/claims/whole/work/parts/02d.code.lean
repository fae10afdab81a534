/-! Part 02: decode rows of the reference. -/
theorem dd_M_hold_83 : decode cd_M_hold 83 = .ok (.iaload, 1) := by decide +kernel
theorem dd_M_hold_84 : decode cd_M_hold 84 = .ok (.ireturn, 1) := by decide +kernel
theorem dd_M_chosen_0 : decode cd_M_chosen 0 = .ok (.iconst (-1), 1) := by decide +kernel
theorem dd_M_chosen_1 : decode cd_M_chosen 1 = .ok (.istore_n 1, 1) := by decide +kernel
theorem dd_M_chosen_2 : decode cd_M_chosen 2 = .ok (.iconst (-1), 1) := by decide +kernel
theorem dd_M_chosen_3 : decode cd_M_chosen 3 = .ok (.istore_n 2, 1) := by decide +kernel
theorem dd_M_chosen_4 : decode cd_M_chosen 4 = .ok (.iconst 0, 1) := by decide +kernel
theorem dd_M_chosen_5 : decode cd_M_chosen 5 = .ok (.istore_n 3, 1) := by decide +kernel
theorem dd_M_chosen_6 : decode cd_M_chosen 6 = .ok (.iload_n 3, 1) := by decide +kernel
theorem dd_M_chosen_7 : decode cd_M_chosen 7 = .ok (.aload_n 0, 1) := by decide +kernel
theorem dd_M_chosen_8 : decode cd_M_chosen 8 = .ok (.getfield 61, 3) := by decide +kernel
theorem dd_M_chosen_11 : decode cd_M_chosen 11 = .ok (.if_icmp .ge 65, 3) := by decide +kernel
theorem dd_M_chosen_14 : decode cd_M_chosen 14 = .ok (.aload_n 0, 1) := by decide +kernel
theorem dd_M_chosen_15 : decode cd_M_chosen 15 = .ok (.iload_n 3, 1) := by decide +kernel
theorem dd_M_chosen_16 : decode cd_M_chosen 16 = .ok (.invokevirtual 122, 3) := by decide +kernel
theorem dd_M_chosen_19 : decode cd_M_chosen 19 = .ok (.ifCond .eq 51, 3) := by decide +kernel
theorem dd_M_chosen_22 : decode cd_M_chosen 22 = .ok (.aload_n 0, 1) := by decide +kernel
theorem dd_M_chosen_23 : decode cd_M_chosen 23 = .ok (.aload_n 0, 1) := by decide +kernel
theorem dd_M_chosen_24 : decode cd_M_chosen 24 = .ok (.getfield 26, 3) := by decide +kernel
theorem dd_M_chosen_27 : decode cd_M_chosen 27 = .ok (.iload_n 3, 1) := by decide +kernel
theorem dd_M_chosen_28 : decode cd_M_chosen 28 = .ok (.iaload, 1) := by decide +kernel
theorem dd_M_chosen_29 : decode cd_M_chosen 29 = .ok (.invokevirtual 125, 3) := by decide +kernel
theorem dd_M_chosen_32 : decode cd_M_chosen 32 = .ok (.istore 4, 2) := by decide +kernel
theorem dd_M_chosen_34 : decode cd_M_chosen 34 = .ok (.iload_n 1, 1) := by decide +kernel
theorem dd_M_chosen_35 : decode cd_M_chosen 35 = .ok (.ifCond .lt 30, 3) := by decide +kernel
theorem dd_M_chosen_38 : decode cd_M_chosen 38 = .ok (.iload 4, 2) := by decide +kernel
theorem dd_M_chosen_40 : decode cd_M_chosen 40 = .ok (.iload_n 2, 1) := by decide +kernel
theorem dd_M_chosen_41 : decode cd_M_chosen 41 = .ok (.if_icmp .gt 24, 3) := by decide +kernel
theorem dd_M_chosen_44 : decode cd_M_chosen 44 = .ok (.iload 4, 2) := by decide +kernel
theorem dd_M_chosen_46 : decode cd_M_chosen 46 = .ok (.iload_n 2, 1) := by decide +kernel
theorem dd_M_chosen_47 : decode cd_M_chosen 47 = .ok (.if_icmp .ne 23, 3) := by decide +kernel
theorem dd_M_chosen_50 : decode cd_M_chosen 50 = .ok (.aload_n 0, 1) := by decide +kernel
theorem dd_M_chosen_51 : decode cd_M_chosen 51 = .ok (.getfield 41, 3) := by decide +kernel
theorem dd_M_chosen_54 : decode cd_M_chosen 54 = .ok (.iload_n 3, 1) := by decide +kernel
theorem dd_M_chosen_55 : decode cd_M_chosen 55 = .ok (.iaload, 1) := by decide +kernel
theorem dd_M_chosen_56 : decode cd_M_chosen 56 = .ok (.aload_n 0, 1) := by decide +kernel
theorem dd_M_chosen_57 : decode cd_M_chosen 57 = .ok (.getfield 41, 3) := by decide +kernel
theorem dd_M_chosen_60 : decode cd_M_chosen 60 = .ok (.iload_n 1, 1) := by decide +kernel
theorem dd_M_chosen_61 : decode cd_M_chosen 61 = .ok (.iaload, 1) := by decide +kernel
theorem dd_M_chosen_62 : decode cd_M_chosen 62 = .ok (.if_icmp .ge 8, 3) := by decide +kernel
theorem dd_M_chosen_65 : decode cd_M_chosen 65 = .ok (.iload_n 3, 1) := by decide +kernel
theorem dd_M_chosen_66 : decode cd_M_chosen 66 = .ok (.istore_n 1, 1) := by decide +kernel
theorem dd_M_chosen_67 : decode cd_M_chosen 67 = .ok (.iload 4, 2) := by decide +kernel
theorem dd_M_chosen_69 : decode cd_M_chosen 69 = .ok (.istore_n 2, 1) := by decide +kernel
theorem dd_M_chosen_70 : decode cd_M_chosen 70 = .ok (.iinc 3 1, 3) := by decide +kernel
theorem dd_M_chosen_73 : decode cd_M_chosen 73 = .ok (.goto (-67), 3) := by decide +kernel
theorem dd_M_chosen_76 : decode cd_M_chosen 76 = .ok (.iload_n 1, 1) := by decide +kernel
theorem dd_M_chosen_77 : decode cd_M_chosen 77 = .ok (.ireturn, 1) := by decide +kernel
theorem dd_M_begin_0 : decode cd_M_begin 0 = .ok (.aload_n 0, 1) := by decide +kernel
theorem dd_M_begin_1 : decode cd_M_begin 1 = .ok (.invokevirtual 128, 3) := by decide +kernel
theorem dd_M_begin_4 : decode cd_M_begin 4 = .ok (.istore_n 1, 1) := by decide +kernel
theorem dd_M_begin_5 : decode cd_M_begin 5 = .ok (.iconst 0, 1) := by decide +kernel
theorem dd_M_begin_6 : decode cd_M_begin 6 = .ok (.istore_n 2, 1) := by decide +kernel
theorem dd_M_begin_7 : decode cd_M_begin 7 = .ok (.iload_n 2, 1) := by decide +kernel
theorem dd_M_begin_8 : decode cd_M_begin 8 = .ok (.sipush 161, 3) := by decide +kernel
theorem dd_M_begin_11 : decode cd_M_begin 11 = .ok (.if_icmp .ge 34, 3) := by decide +kernel
theorem dd_M_begin_14 : decode cd_M_begin 14 = .ok (.iload_n 1, 1) := by decide +kernel
theorem dd_M_begin_15 : decode cd_M_begin 15 = .ok (.ifCond .lt 30, 3) := by decide +kernel
theorem dd_M_begin_18 : decode cd_M_begin 18 = .ok (.aload_n 0, 1) := by decide +kernel
theorem dd_M_begin_19 : decode cd_M_begin 19 = .ok (.getfield 52, 3) := by decide +kernel
theorem dd_M_begin_22 : decode cd_M_begin 22 = .ok (.iload_n 1, 1) := by decide +kernel
theorem dd_M_begin_23 : decode cd_M_begin 23 = .ok (.baload, 1) := by decide +kernel
theorem dd_M_begin_24 : decode cd_M_begin 24 = .ok (.ifCond .eq 21, 3) := by decide +kernel
theorem dd_M_begin_27 : decode cd_M_begin 27 = .ok (.aload_n 0, 1) := by decide +kernel
theorem dd_M_begin_28 : decode cd_M_begin 28 = .ok (.iload_n 1, 1) := by decide +kernel
theorem dd_M_begin_29 : decode cd_M_begin 29 = .ok (.bipush 6, 2) := by decide +kernel
theorem dd_M_begin_31 : decode cd_M_begin 31 = .ok (.invokevirtual 131, 3) := by decide +kernel
theorem dd_M_begin_34 : decode cd_M_begin 34 = .ok (.aload_n 0, 1) := by decide +kernel
theorem dd_M_begin_35 : decode cd_M_begin 35 = .ok (.invokevirtual 128, 3) := by decide +kernel
theorem dd_M_begin_38 : decode cd_M_begin 38 = .ok (.istore_n 1, 1) := by decide +kernel
theorem dd_M_begin_39 : decode cd_M_begin 39 = .ok (.iinc 2 1, 3) := by decide +kernel
theorem dd_M_begin_42 : decode cd_M_begin 42 = .ok (.goto (-35), 3) := by decide +kernel
theorem dd_M_begin_45 : decode cd_M_begin 45 = .ok (.iload_n 1, 1) := by decide +kernel
theorem dd_M_begin_46 : decode cd_M_begin 46 = .ok (.ifCond .ge 6, 3) := by decide +kernel
theorem dd_M_begin_49 : decode cd_M_begin 49 = .ok (.bipush (-8), 2) := by decide +kernel
theorem dd_M_begin_51 : decode cd_M_begin 51 = .ok (.ireturn, 1) := by decide +kernel
theorem dd_M_begin_52 : decode cd_M_begin 52 = .ok (.aload_n 0, 1) := by decide +kernel
theorem dd_M_begin_53 : decode cd_M_begin 53 = .ok (.getfield 29, 3) := by decide +kernel
theorem dd_M_begin_56 : decode cd_M_begin 56 = .ok (.iload_n 1, 1) := by decide +kernel
theorem dd_M_begin_57 : decode cd_M_begin 57 = .ok (.iconst 3, 1) := by decide +kernel
theorem dd_M_begin_58 : decode cd_M_begin 58 = .ok (.iastore, 1) := by decide +kernel
theorem dd_M_begin_59 : decode cd_M_begin 59 = .ok (.iconst 0, 1) := by decide +kernel
theorem dd_M_begin_60 : decode cd_M_begin 60 = .ok (.istore_n 2, 1) := by decide +kernel
theorem dd_M_begin_61 : decode cd_M_begin 61 = .ok (.iload_n 2, 1) := by decide +kernel
theorem dd_M_begin_62 : decode cd_M_begin 62 = .ok (.aload_n 0, 1) := by decide +kernel
theorem dd_M_begin_63 : decode cd_M_begin 63 = .ok (.getfield 7, 3) := by decide +kernel
theorem dd_M_begin_66 : decode cd_M_begin 66 = .ok (.if_icmp .ge 41, 3) := by decide +kernel
theorem dd_M_begin_69 : decode cd_M_begin 69 = .ok (.aload_n 0, 1) := by decide +kernel
theorem dd_M_begin_70 : decode cd_M_begin 70 = .ok (.iload_n 2, 1) := by decide +kernel
theorem dd_M_begin_71 : decode cd_M_begin 71 = .ok (.invokevirtual 72, 3) := by decide +kernel
theorem dd_M_begin_74 : decode cd_M_begin 74 = .ok (.istore_n 3, 1) := by decide +kernel
theorem dd_M_begin_75 : decode cd_M_begin 75 = .ok (.aload_n 0, 1) := by decide +kernel
theorem dd_M_begin_76 : decode cd_M_begin 76 = .ok (.getfield 23, 3) := by decide +kernel
theorem dd_M_begin_79 : decode cd_M_begin 79 = .ok (.iload_n 2, 1) := by decide +kernel
theorem dd_M_begin_80 : decode cd_M_begin 80 = .ok (.iload_n 3, 1) := by decide +kernel
theorem dd_M_begin_81 : decode cd_M_begin 81 = .ok (.aload_n 0, 1) := by decide +kernel
theorem dd_M_begin_82 : decode cd_M_begin 82 = .ok (.getfield 23, 3) := by decide +kernel
theorem dd_M_begin_85 : decode cd_M_begin 85 = .ok (.iload_n 2, 1) := by decide +kernel
theorem dd_M_begin_86 : decode cd_M_begin 86 = .ok (.iaload, 1) := by decide +kernel
theorem dd_M_begin_87 : decode cd_M_begin 87 = .ok (.if_icmp .le 7, 3) := by decide +kernel
theorem dd_M_begin_90 : decode cd_M_begin 90 = .ok (.iload_n 3, 1) := by decide +kernel
theorem dd_M_begin_91 : decode cd_M_begin 91 = .ok (.goto 9, 3) := by decide +kernel
theorem dd_M_begin_94 : decode cd_M_begin 94 = .ok (.aload_n 0, 1) := by decide +kernel
theorem dd_M_begin_95 : decode cd_M_begin 95 = .ok (.getfield 23, 3) := by decide +kernel
theorem dd_M_begin_98 : decode cd_M_begin 98 = .ok (.iload_n 2, 1) := by decide +kernel
theorem dd_M_begin_99 : decode cd_M_begin 99 = .ok (.iaload, 1) := by decide +kernel
theorem dd_M_begin_100 : decode cd_M_begin 100 = .ok (.iastore, 1) := by decide +kernel
theorem dd_M_begin_101 : decode cd_M_begin 101 = .ok (.iinc 2 1, 3) := by decide +kernel
theorem dd_M_begin_104 : decode cd_M_begin 104 = .ok (.goto (-43), 3) := by decide +kernel
theorem dd_M_begin_107 : decode cd_M_begin 107 = .ok (.iload_n 1, 1) := by decide +kernel
theorem dd_M_begin_108 : decode cd_M_begin 108 = .ok (.ireturn, 1) := by decide +kernel
theorem dd_M_finish_0 : decode cd_M_finish 0 = .ok (.aload_n 0, 1) := by decide +kernel
theorem dd_M_finish_1 : decode cd_M_finish 1 = .ok (.iload_n 1, 1) := by decide +kernel
theorem dd_M_finish_2 : decode cd_M_finish 2 = .ok (.invokevirtual 115, 3) := by decide +kernel
theorem dd_M_finish_5 : decode cd_M_finish 5 = .ok (.ifCond .eq 13, 3) := by decide +kernel
theorem dd_M_finish_8 : decode cd_M_finish 8 = .ok (.aload_n 0, 1) := by decide +kernel
theorem dd_M_finish_9 : decode cd_M_finish 9 = .ok (.getfield 29, 3) := by decide +kernel
theorem dd_M_finish_12 : decode cd_M_finish 12 = .ok (.iload_n 1, 1) := by decide +kernel
theorem dd_M_finish_13 : decode cd_M_finish 13 = .ok (.iaload, 1) := by decide +kernel
theorem dd_M_finish_14 : decode cd_M_finish 14 = .ok (.iconst 3, 1) := by decide +kernel
theorem dd_M_finish_15 : decode cd_M_finish 15 = .ok (.if_icmp .eq 5, 3) := by decide +kernel
theorem dd_M_finish_18 : decode cd_M_finish 18 = .ok (.iconst 0, 1) := by decide +kernel
theorem dd_M_finish_19 : decode cd_M_finish 19 = .ok (.ireturn, 1) := by decide +kernel
theorem dd_M_finish_20 : decode cd_M_finish 20 = .ok (.aload_n 0, 1) := by decide +kernel
theorem dd_M_finish_21 : decode cd_M_finish 21 = .ok (.iload_n 1, 1) := by decide +kernel
theorem dd_M_finish_22 : decode cd_M_finish 22 = .ok (.iconst 5, 1) := by decide +kernel
theorem dd_M_finish_23 : decode cd_M_finish 23 = .ok (.invokevirtual 131, 3) := by decide +kernel
theorem dd_M_finish_26 : decode cd_M_finish 26 = .ok (.iconst 1, 1) := by decide +kernel
theorem dd_M_finish_27 : decode cd_M_finish 27 = .ok (.ireturn, 1) := by decide +kernel
theorem dd_M_advance_0 : decode cd_M_advance 0 = .ok (.lload_n 1, 1) := by decide +kernel
theorem dd_M_advance_1 : decode cd_M_advance 1 = .ok (.lconst 0, 1) := by decide +kernel
theorem dd_M_advance_2 : decode cd_M_advance 2 = .ok (.lcmp, 1) := by decide +kernel
theorem dd_M_advance_3 : decode cd_M_advance 3 = .ok (.ifCond .ge 6, 3) := by decide +kernel
theorem dd_M_advance_6 : decode cd_M_advance 6 = .ok (.bipush (-9), 2) := by decide +kernel
theorem dd_M_advance_8 : decode cd_M_advance 8 = .ok (.ireturn, 1) := by decide +kernel
theorem dd_M_advance_9 : decode cd_M_advance 9 = .ok (.aload_n 0, 1) := by decide +kernel
theorem dd_M_advance_10 : decode cd_M_advance 10 = .ok (.lload_n 1, 1) := by decide +kernel
theorem dd_M_advance_11 : decode cd_M_advance 11 = .ok (.ldc2_w 135, 3) := by decide +kernel
theorem dd_M_advance_14 : decode cd_M_advance 14 = .ok (.aload_n 0, 1) := by decide +kernel
theorem dd_M_advance_15 : decode cd_M_advance 15 = .ok (.getfield 111, 3) := by decide +kernel
theorem dd_M_advance_18 : decode cd_M_advance 18 = .ok (.lsub, 1) := by decide +kernel
theorem dd_M_advance_19 : decode cd_M_advance 19 = .ok (.lcmp, 1) := by decide +kernel
theorem dd_M_advance_20 : decode cd_M_advance 20 = .ok (.ifCond .le 9, 3) := by decide +kernel
theorem dd_M_advance_23 : decode cd_M_advance 23 = .ok (.ldc2_w 135, 3) := by decide +kernel
theorem dd_M_advance_26 : decode cd_M_advance 26 = .ok (.goto 9, 3) := by decide +kernel
theorem dd_M_advance_29 : decode cd_M_advance 29 = .ok (.aload_n 0, 1) := by decide +kernel
theorem dd_M_advance_30 : decode cd_M_advance 30 = .ok (.getfield 111, 3) := by decide +kernel
theorem dd_M_advance_33 : decode cd_M_advance 33 = .ok (.lload_n 1, 1) := by decide +kernel
theorem dd_M_advance_34 : decode cd_M_advance 34 = .ok (.ladd, 1) := by decide +kernel
theorem dd_M_advance_35 : decode cd_M_advance 35 = .ok (.putfield 111, 3) := by decide +kernel
theorem dd_M_advance_38 : decode cd_M_advance 38 = .ok (.iconst 0, 1) := by decide +kernel
theorem dd_M_advance_39 : decode cd_M_advance 39 = .ok (.istore_n 3, 1) := by decide +kernel
theorem dd_M_advance_40 : decode cd_M_advance 40 = .ok (.aload_n 0, 1) := by decide +kernel
theorem dd_M_advance_41 : decode cd_M_advance 41 = .ok (.invokevirtual 137, 3) := by decide +kernel
theorem dd_M_advance_44 : decode cd_M_advance 44 = .ok (.istore 4, 2) := by decide +kernel
theorem dd_M_advance_46 : decode cd_M_advance 46 = .ok (.iload 4, 2) := by decide +kernel
theorem dd_M_advance_48 : decode cd_M_advance 48 = .ok (.ifCond .lt 29, 3) := by decide +kernel
theorem dd_M_advance_51 : decode cd_M_advance 51 = .ok (.iload_n 3, 1) := by decide +kernel
theorem dd_M_advance_52 : decode cd_M_advance 52 = .ok (.sipush 160, 3) := by decide +kernel
theorem dd_M_advance_55 : decode cd_M_advance 55 = .ok (.if_icmp .ge 22, 3) := by decide +kernel
theorem dd_M_advance_58 : decode cd_M_advance 58 = .ok (.aload_n 0, 1) := by decide +kernel
theorem dd_M_advance_59 : decode cd_M_advance 59 = .ok (.iload 4, 2) := by decide +kernel
theorem dd_M_advance_61 : decode cd_M_advance 61 = .ok (.invokevirtual 95, 3) := by decide +kernel
theorem dd_M_advance_64 : decode cd_M_advance 64 = .ok (.iload_n 3, 1) := by decide +kernel
theorem dd_M_advance_65 : decode cd_M_advance 65 = .ok (.iconst 1, 1) := by decide +kernel
theorem dd_M_advance_66 : decode cd_M_advance 66 = .ok (.iadd, 1) := by decide +kernel
theorem dd_M_advance_67 : decode cd_M_advance 67 = .ok (.istore_n 3, 1) := by decide +kernel
theorem dd_M_advance_68 : decode cd_M_advance 68 = .ok (.aload_n 0, 1) := by decide +kernel
theorem dd_M_advance_69 : decode cd_M_advance 69 = .ok (.invokevirtual 137, 3) := by decide +kernel
theorem dd_M_advance_72 : decode cd_M_advance 72 = .ok (.istore 4, 2) := by decide +kernel
theorem dd_M_advance_74 : decode cd_M_advance 74 = .ok (.goto (-28), 3) := by decide +kernel
theorem dd_M_advance_77 : decode cd_M_advance 77 = .ok (.iload_n 3, 1) := by decide +kernel
theorem dd_M_advance_78 : decode cd_M_advance 78 = .ok (.ireturn, 1) := by decide +kernel
theorem dd_M_due_0 : decode cd_M_due 0 = .ok (.iconst (-1), 1) := by decide +kernel
theorem dd_M_due_1 : decode cd_M_due 1 = .ok (.istore_n 1, 1) := by decide +kernel
theorem dd_M_due_2 : decode cd_M_due 2 = .ok (.iconst 0, 1) := by decide +kernel
theorem dd_M_due_3 : decode cd_M_due 3 = .ok (.istore_n 2, 1) := by decide +kernel
theorem dd_M_due_4 : decode cd_M_due 4 = .ok (.iload_n 2, 1) := by decide +kernel
theorem dd_M_due_5 : decode cd_M_due 5 = .ok (.aload_n 0, 1) := by decide +kernel
theorem dd_M_due_6 : decode cd_M_due 6 = .ok (.getfield 61, 3) := by decide +kernel
theorem dd_M_due_9 : decode cd_M_due 9 = .ok (.if_icmp .ge 55, 3) := by decide +kernel
theorem dd_M_due_12 : decode cd_M_due 12 = .ok (.aload_n 0, 1) := by decide +kernel
theorem dd_M_due_13 : decode cd_M_due 13 = .ok (.getfield 29, 3) := by decide +kernel
theorem dd_M_due_16 : decode cd_M_due 16 = .ok (.iload_n 2, 1) := by decide +kernel
theorem dd_M_due_17 : decode cd_M_due 17 = .ok (.iaload, 1) := by decide +kernel
theorem dd_M_due_18 : decode cd_M_due 18 = .ok (.iconst 1, 1) := by decide +kernel
theorem dd_M_due_19 : decode cd_M_due 19 = .ok (.if_icmp .ne 39, 3) := by decide +kernel
theorem dd_M_due_22 : decode cd_M_due 22 = .ok (.aload_n 0, 1) := by decide +kernel
theorem dd_M_due_23 : decode cd_M_due 23 = .ok (.getfield 44, 3) := by decide +kernel
theorem dd_M_due_26 : decode cd_M_due 26 = .ok (.iload_n 2, 1) := by decide +kernel
theorem dd_M_due_27 : decode cd_M_due 27 = .ok (.laload, 1) := by decide +kernel
theorem dd_M_due_28 : decode cd_M_due 28 = .ok (.aload_n 0, 1) := by decide +kernel
theorem dd_M_due_29 : decode cd_M_due 29 = .ok (.getfield 111, 3) := by decide +kernel
theorem dd_M_due_32 : decode cd_M_due 32 = .ok (.lcmp, 1) := by decide +kernel
theorem dd_M_due_33 : decode cd_M_due 33 = .ok (.ifCond .gt 25, 3) := by decide +kernel
theorem dd_M_due_36 : decode cd_M_due 36 = .ok (.iload_n 1, 1) := by decide +kernel
theorem dd_M_due_37 : decode cd_M_due 37 = .ok (.ifCond .lt 19, 3) := by decide +kernel
theorem dd_M_due_40 : decode cd_M_due 40 = .ok (.aload_n 0, 1) := by decide +kernel
theorem dd_M_due_41 : decode cd_M_due 41 = .ok (.getfield 44, 3) := by decide +kernel
theorem dd_M_due_44 : decode cd_M_due 44 = .ok (.iload_n 2, 1) := by decide +kernel
theorem dd_M_due_45 : decode cd_M_due 45 = .ok (.laload, 1) := by decide +kernel
theorem dd_M_due_46 : decode cd_M_due 46 = .ok (.aload_n 0, 1) := by decide +kernel
theorem dd_M_due_47 : decode cd_M_due 47 = .ok (.getfield 44, 3) := by decide +kernel
theorem dd_M_due_50 : decode cd_M_due 50 = .ok (.iload_n 1, 1) := by decide +kernel
theorem dd_M_due_51 : decode cd_M_due 51 = .ok (.laload, 1) := by decide +kernel
theorem dd_M_due_52 : decode cd_M_due 52 = .ok (.lcmp, 1) := by decide +kernel
theorem dd_M_due_53 : decode cd_M_due 53 = .ok (.ifCond .ge 5, 3) := by decide +kernel
theorem dd_M_due_56 : decode cd_M_due 56 = .ok (.iload_n 2, 1) := by decide +kernel
theorem dd_M_due_57 : decode cd_M_due 57 = .ok (.istore_n 1, 1) := by decide +kernel
theorem dd_M_due_58 : decode cd_M_due 58 = .ok (.iinc 2 1, 3) := by decide +kernel
theorem dd_M_due_61 : decode cd_M_due 61 = .ok (.goto (-57), 3) := by decide +kernel
theorem dd_M_due_64 : decode cd_M_due 64 = .ok (.iload_n 1, 1) := by decide +kernel
theorem dd_M_due_65 : decode cd_M_due 65 = .ok (.ireturn, 1) := by decide +kernel
theorem dd_M_now_0 : decode cd_M_now 0 = .ok (.aload_n 0, 1) := by decide +kernel
theorem dd_M_now_1 : decode cd_M_now 1 = .ok (.getfield 111, 3) := by decide +kernel
theorem dd_M_now_4 : decode cd_M_now 4 = .ok (.lreturn, 1) := by decide +kernel
theorem dd_M_state_0 : decode cd_M_state 0 = .ok (.aload_n 0, 1) := by decide +kernel
theorem dd_M_state_1 : decode cd_M_state 1 = .ok (.iload_n 1, 1) := by decide +kernel
theorem dd_M_state_2 : decode cd_M_state 2 = .ok (.invokevirtual 115, 3) := by decide +kernel
theorem dd_M_state_5 : decode cd_M_state 5 = .ok (.ifCond .ne 6, 3) := by decide +kernel
theorem dd_M_state_8 : decode cd_M_state 8 = .ok (.bipush (-3), 2) := by decide +kernel
theorem dd_M_state_10 : decode cd_M_state 10 = .ok (.ireturn, 1) := by decide +kernel
theorem dd_M_state_11 : decode cd_M_state 11 = .ok (.aload_n 0, 1) := by decide +kernel
theorem dd_M_state_12 : decode cd_M_state 12 = .ok (.getfield 29, 3) := by decide +kernel
theorem dd_M_state_15 : decode cd_M_state 15 = .ok (.iload_n 1, 1) := by decide +kernel
theorem dd_M_state_16 : decode cd_M_state 16 = .ok (.iaload, 1) := by decide +kernel
theorem dd_M_state_17 : decode cd_M_state 17 = .ok (.aload_n 0, 1) := by decide +kernel
theorem dd_M_state_18 : decode cd_M_state 18 = .ok (.getfield 52, 3) := by decide +kernel
theorem dd_M_state_21 : decode cd_M_state 21 = .ok (.iload_n 1, 1) := by decide +kernel
theorem dd_M_state_22 : decode cd_M_state 22 = .ok (.baload, 1) := by decide +kernel
theorem dd_M_state_23 : decode cd_M_state 23 = .ok (.ifCond .eq 8, 3) := by decide +kernel
theorem dd_M_state_26 : decode cd_M_state 26 = .ok (.bipush 8, 2) := by decide +kernel
theorem dd_M_state_28 : decode cd_M_state 28 = .ok (.goto 4, 3) := by decide +kernel
theorem dd_M_state_31 : decode cd_M_state 31 = .ok (.iconst 0, 1) := by decide +kernel
theorem dd_M_state_32 : decode cd_M_state 32 = .ok (.iadd, 1) := by decide +kernel
theorem dd_M_state_33 : decode cd_M_state 33 = .ok (.ireturn, 1) := by decide +kernel
theorem dd_M_queued_0 : decode cd_M_queued 0 = .ok (.aload_n 0, 1) := by decide +kernel
theorem dd_M_queued_1 : decode cd_M_queued 1 = .ok (.iload_n 1, 1) := by decide +kernel
theorem dd_M_queued_2 : decode cd_M_queued 2 = .ok (.invokevirtual 102, 3) := by decide +kernel
theorem dd_M_queued_5 : decode cd_M_queued 5 = .ok (.ifCond .ne 5, 3) := by decide +kernel
theorem dd_M_queued_8 : decode cd_M_queued 8 = .ok (.iconst (-1), 1) := by decide +kernel
theorem dd_M_queued_9 : decode cd_M_queued 9 = .ok (.ireturn, 1) := by decide +kernel
theorem dd_M_queued_10 : decode cd_M_queued 10 = .ok (.iconst 0, 1) := by decide +kernel
theorem dd_M_queued_11 : decode cd_M_queued 11 = .ok (.istore_n 2, 1) := by decide +kernel
theorem dd_M_queued_12 : decode cd_M_queued 12 = .ok (.iconst 0, 1) := by decide +kernel
theorem dd_M_queued_13 : decode cd_M_queued 13 = .ok (.istore_n 3, 1) := by decide +kernel
theorem dd_M_queued_14 : decode cd_M_queued 14 = .ok (.iload_n 3, 1) := by decide +kernel
theorem dd_M_queued_15 : decode cd_M_queued 15 = .ok (.aload_n 0, 1) := by decide +kernel
theorem dd_M_queued_16 : decode cd_M_queued 16 = .ok (.getfield 61, 3) := by decide +kernel
theorem dd_M_queued_19 : decode cd_M_queued 19 = .ok (.if_icmp .ge 37, 3) := by decide +kernel
theorem dd_M_queued_22 : decode cd_M_queued 22 = .ok (.aload_n 0, 1) := by decide +kernel
theorem dd_M_queued_23 : decode cd_M_queued 23 = .ok (.getfield 29, 3) := by decide +kernel
theorem dd_M_queued_26 : decode cd_M_queued 26 = .ok (.iload_n 3, 1) := by decide +kernel
theorem dd_M_queued_27 : decode cd_M_queued 27 = .ok (.iaload, 1) := by decide +kernel
theorem dd_M_queued_28 : decode cd_M_queued 28 = .ok (.iconst 2, 1) := by decide +kernel
theorem dd_M_queued_29 : decode cd_M_queued 29 = .ok (.if_icmp .ne 19, 3) := by decide +kernel
theorem dd_M_queued_32 : decode cd_M_queued 32 = .ok (.aload_n 0, 1) := by decide +kernel
theorem dd_M_queued_33 : decode cd_M_queued 33 = .ok (.getfield 26, 3) := by decide +kernel
theorem dd_M_queued_36 : decode cd_M_queued 36 = .ok (.iload_n 3, 1) := by decide +kernel
theorem dd_M_queued_37 : decode cd_M_queued 37 = .ok (.iaload, 1) := by decide +kernel
theorem dd_M_queued_38 : decode cd_M_queued 38 = .ok (.iload_n 1, 1) := by decide +kernel
theorem dd_M_queued_39 : decode cd_M_queued 39 = .ok (.if_icmp .ne 9, 3) := by decide +kernel
theorem dd_M_queued_42 : decode cd_M_queued 42 = .ok (.iload_n 2, 1) := by decide +kernel
theorem dd_M_queued_43 : decode cd_M_queued 43 = .ok (.iconst 1, 1) := by decide +kernel
theorem dd_M_queued_44 : decode cd_M_queued 44 = .ok (.iadd, 1) := by decide +kernel
theorem dd_M_queued_45 : decode cd_M_queued 45 = .ok (.goto 4, 3) := by decide +kernel
theorem dd_M_queued_48 : decode cd_M_queued 48 = .ok (.iload_n 2, 1) := by decide +kernel
theorem dd_M_queued_49 : decode cd_M_queued 49 = .ok (.istore_n 2, 1) := by decide +kernel
theorem dd_M_queued_50 : decode cd_M_queued 50 = .ok (.iinc 3 1, 3) := by decide +kernel
theorem dd_M_queued_53 : decode cd_M_queued 53 = .ok (.goto (-39), 3) := by decide +kernel
theorem dd_M_queued_56 : decode cd_M_queued 56 = .ok (.iload_n 2, 1) := by decide +kernel
theorem dd_M_queued_57 : decode cd_M_queued 57 = .ok (.ireturn, 1) := by decide +kernel
theorem dd_M_through_0 : decode cd_M_through 0 = .ok (.aload_n 0, 1) := by decide +kernel
theorem dd_M_through_1 : decode cd_M_through 1 = .ok (.iload_n 1, 1) := by decide +kernel
theorem dd_M_through_2 : decode cd_M_through 2 = .ok (.invokevirtual 102, 3) := by decide +kernel
theorem dd_M_through_5 : decode cd_M_through 5 = .ok (.ifCond .eq 11, 3) := by decide +kernel
theorem dd_M_through_8 : decode cd_M_through 8 = .ok (.aload_n 0, 1) := by decide +kernel
theorem dd_M_through_9 : decode cd_M_through 9 = .ok (.iload_n 1, 1) := by decide +kernel
theorem dd_M_through_10 : decode cd_M_through 10 = .ok (.invokevirtual 72, 3) := by decide +kernel
theorem dd_M_through_13 : decode cd_M_through 13 = .ok (.goto 4, 3) := by decide +kernel
theorem dd_M_through_16 : decode cd_M_through 16 = .ok (.iconst (-1), 1) := by decide +kernel
theorem dd_M_through_17 : decode cd_M_through 17 = .ok (.ireturn, 1) := by decide +kernel
theorem dd_M_peak_0 : decode cd_M_peak 0 = .ok (.aload_n 0, 1) := by decide +kernel
theorem dd_M_peak_1 : decode cd_M_peak 1 = .ok (.iload_n 1, 1) := by decide +kernel
theorem dd_M_peak_2 : decode cd_M_peak 2 = .ok (.invokevirtual 102, 3) := by decide +kernel
theorem dd_M_peak_5 : decode cd_M_peak 5 = .ok (.ifCond .eq 12, 3) := by decide +kernel
theorem dd_M_peak_8 : decode cd_M_peak 8 = .ok (.aload_n 0, 1) := by decide +kernel
theorem dd_M_peak_9 : decode cd_M_peak 9 = .ok (.getfield 23, 3) := by decide +kernel
theorem dd_M_peak_12 : decode cd_M_peak 12 = .ok (.iload_n 1, 1) := by decide +kernel
theorem dd_M_peak_13 : decode cd_M_peak 13 = .ok (.iaload, 1) := by decide +kernel
theorem dd_M_peak_14 : decode cd_M_peak 14 = .ok (.goto 4, 3) := by decide +kernel
theorem dd_M_peak_17 : decode cd_M_peak 17 = .ok (.iconst (-1), 1) := by decide +kernel
theorem dd_M_peak_18 : decode cd_M_peak 18 = .ok (.ireturn, 1) := by decide +kernel
theorem dd_M_count_0 : decode cd_M_count 0 = .ok (.iload_n 1, 1) := by decide +kernel
theorem dd_M_count_1 : decode cd_M_count 1 = .ok (.ifCond .lt 8, 3) := by decide +kernel
theorem dd_M_count_4 : decode cd_M_count 4 = .ok (.iload_n 1, 1) := by decide +kernel
theorem dd_M_count_5 : decode cd_M_count 5 = .ok (.iconst 3, 1) := by decide +kernel
theorem dd_M_count_6 : decode cd_M_count 6 = .ok (.if_icmp .le 8, 3) := by decide +kernel
theorem dd_M_count_9 : decode cd_M_count 9 = .ok (.bipush (-2), 2) := by decide +kernel
theorem dd_M_count_11 : decode cd_M_count 11 = .ok (.goto 8, 3) := by decide +kernel
theorem dd_M_count_14 : decode cd_M_count 14 = .ok (.aload_n 0, 1) := by decide +kernel
theorem dd_M_count_15 : decode cd_M_count 15 = .ok (.iload_n 1, 1) := by decide +kernel
theorem dd_M_count_16 : decode cd_M_count 16 = .ok (.invokevirtual 92, 3) := by decide +kernel
theorem dd_M_count_19 : decode cd_M_count 19 = .ok (.ireturn, 1) := by decide +kernel
theorem dd_M_ready_0 : decode cd_M_ready 0 = .ok (.iconst 0, 1) := by decide +kernel
theorem dd_M_ready_1 : decode cd_M_ready 1 = .ok (.istore_n 1, 1) := by decide +kernel
theorem dd_M_ready_2 : decode cd_M_ready 2 = .ok (.iconst 0, 1) := by decide +kernel
theorem dd_M_ready_3 : decode cd_M_ready 3 = .ok (.istore_n 2, 1) := by decide +kernel
theorem dd_M_ready_4 : decode cd_M_ready 4 = .ok (.iload_n 2, 1) := by decide +kernel
theorem dd_M_ready_5 : decode cd_M_ready 5 = .ok (.aload_n 0, 1) := by decide +kernel
theorem dd_M_ready_6 : decode cd_M_ready 6 = .ok (.getfield 61, 3) := by decide +kernel
theorem dd_M_ready_9 : decode cd_M_ready 9 = .ok (.if_icmp .ge 25, 3) := by decide +kernel
theorem dd_M_ready_12 : decode cd_M_ready 12 = .ok (.aload_n 0, 1) := by decide +kernel
theorem dd_M_ready_13 : decode cd_M_ready 13 = .ok (.iload_n 2, 1) := by decide +kernel
theorem dd_M_ready_14 : decode cd_M_ready 14 = .ok (.invokevirtual 122, 3) := by decide +kernel
theorem dd_M_ready_17 : decode cd_M_ready 17 = .ok (.ifCond .eq 9, 3) := by decide +kernel
theorem dd_M_ready_20 : decode cd_M_ready 20 = .ok (.iload_n 1, 1) := by decide +kernel
theorem dd_M_ready_21 : decode cd_M_ready 21 = .ok (.iconst 1, 1) := by decide +kernel
theorem dd_M_ready_22 : decode cd_M_ready 22 = .ok (.iadd, 1) := by decide +kernel
theorem dd_M_ready_23 : decode cd_M_ready 23 = .ok (.goto 4, 3) := by decide +kernel
theorem dd_M_ready_26 : decode cd_M_ready 26 = .ok (.iload_n 1, 1) := by decide +kernel
theorem dd_M_ready_27 : decode cd_M_ready 27 = .ok (.istore_n 1, 1) := by decide +kernel
theorem dd_M_ready_28 : decode cd_M_ready 28 = .ok (.iinc 2 1, 3) := by decide +kernel
theorem dd_M_ready_31 : decode cd_M_ready 31 = .ok (.goto (-27), 3) := by decide +kernel
theorem dd_M_ready_34 : decode cd_M_ready 34 = .ok (.iload_n 1, 1) := by decide +kernel
theorem dd_M_ready_35 : decode cd_M_ready 35 = .ok (.ireturn, 1) := by decide +kernel
