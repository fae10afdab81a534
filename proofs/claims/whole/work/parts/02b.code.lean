/-! Part 02: decode rows of the reference. -/
theorem dd_M_mayStart_17 : decode cd_M_mayStart 17 = .ok (.invokevirtual 79, 3) := by decide +kernel
theorem dd_M_mayStart_20 : decode cd_M_mayStart 20 = .ok (.iload_n 1, 1) := by decide +kernel
theorem dd_M_mayStart_21 : decode cd_M_mayStart 21 = .ok (.if_icmp .eq 5, 3) := by decide +kernel
theorem dd_M_mayStart_24 : decode cd_M_mayStart 24 = .ok (.iconst 0, 1) := by decide +kernel
theorem dd_M_mayStart_25 : decode cd_M_mayStart 25 = .ok (.ireturn, 1) := by decide +kernel
theorem dd_M_mayStart_26 : decode cd_M_mayStart 26 = .ok (.aload_n 0, 1) := by decide +kernel
theorem dd_M_mayStart_27 : decode cd_M_mayStart 27 = .ok (.getfield 48, 3) := by decide +kernel
theorem dd_M_mayStart_30 : decode cd_M_mayStart 30 = .ok (.iload_n 1, 1) := by decide +kernel
theorem dd_M_mayStart_31 : decode cd_M_mayStart 31 = .ok (.baload, 1) := by decide +kernel
theorem dd_M_mayStart_32 : decode cd_M_mayStart 32 = .ok (.ifCond .eq 18, 3) := by decide +kernel
theorem dd_M_mayStart_35 : decode cd_M_mayStart 35 = .ok (.aload_n 0, 1) := by decide +kernel
theorem dd_M_mayStart_36 : decode cd_M_mayStart 36 = .ok (.aload_n 0, 1) := by decide +kernel
theorem dd_M_mayStart_37 : decode cd_M_mayStart 37 = .ok (.getfield 26, 3) := by decide +kernel
theorem dd_M_mayStart_40 : decode cd_M_mayStart 40 = .ok (.iload_n 1, 1) := by decide +kernel
theorem dd_M_mayStart_41 : decode cd_M_mayStart 41 = .ok (.iaload, 1) := by decide +kernel
theorem dd_M_mayStart_42 : decode cd_M_mayStart 42 = .ok (.invokevirtual 72, 3) := by decide +kernel
theorem dd_M_mayStart_45 : decode cd_M_mayStart 45 = .ok (.ifCond .le 5, 3) := by decide +kernel
theorem dd_M_mayStart_48 : decode cd_M_mayStart 48 = .ok (.iconst 0, 1) := by decide +kernel
theorem dd_M_mayStart_49 : decode cd_M_mayStart 49 = .ok (.ireturn, 1) := by decide +kernel
theorem dd_M_mayStart_50 : decode cd_M_mayStart 50 = .ok (.aload_n 0, 1) := by decide +kernel
theorem dd_M_mayStart_51 : decode cd_M_mayStart 51 = .ok (.getfield 52, 3) := by decide +kernel
theorem dd_M_mayStart_54 : decode cd_M_mayStart 54 = .ok (.iload_n 1, 1) := by decide +kernel
theorem dd_M_mayStart_55 : decode cd_M_mayStart 55 = .ok (.baload, 1) := by decide +kernel
theorem dd_M_mayStart_56 : decode cd_M_mayStart 56 = .ok (.ifCond .ne 25, 3) := by decide +kernel
theorem dd_M_mayStart_59 : decode cd_M_mayStart 59 = .ok (.aload_n 0, 1) := by decide +kernel
theorem dd_M_mayStart_60 : decode cd_M_mayStart 60 = .ok (.getfield 32, 3) := by decide +kernel
theorem dd_M_mayStart_63 : decode cd_M_mayStart 63 = .ok (.iload_n 1, 1) := by decide +kernel
theorem dd_M_mayStart_64 : decode cd_M_mayStart 64 = .ok (.iaload, 1) := by decide +kernel
theorem dd_M_mayStart_65 : decode cd_M_mayStart 65 = .ok (.ifCond .ge 16, 3) := by decide +kernel
theorem dd_M_mayStart_68 : decode cd_M_mayStart 68 = .ok (.aload_n 0, 1) := by decide +kernel
theorem dd_M_mayStart_69 : decode cd_M_mayStart 69 = .ok (.invokevirtual 82, 3) := by decide +kernel
theorem dd_M_mayStart_72 : decode cd_M_mayStart 72 = .ok (.aload_n 0, 1) := by decide +kernel
theorem dd_M_mayStart_73 : decode cd_M_mayStart 73 = .ok (.getfield 58, 3) := by decide +kernel
theorem dd_M_mayStart_76 : decode cd_M_mayStart 76 = .ok (.if_icmp .lt 5, 3) := by decide +kernel
theorem dd_M_mayStart_79 : decode cd_M_mayStart 79 = .ok (.iconst 0, 1) := by decide +kernel
theorem dd_M_mayStart_80 : decode cd_M_mayStart 80 = .ok (.ireturn, 1) := by decide +kernel
theorem dd_M_mayStart_81 : decode cd_M_mayStart 81 = .ok (.iconst 0, 1) := by decide +kernel
theorem dd_M_mayStart_82 : decode cd_M_mayStart 82 = .ok (.istore_n 2, 1) := by decide +kernel
theorem dd_M_mayStart_83 : decode cd_M_mayStart 83 = .ok (.iload_n 2, 1) := by decide +kernel
theorem dd_M_mayStart_84 : decode cd_M_mayStart 84 = .ok (.aload_n 0, 1) := by decide +kernel
theorem dd_M_mayStart_85 : decode cd_M_mayStart 85 = .ok (.getfield 7, 3) := by decide +kernel
theorem dd_M_mayStart_88 : decode cd_M_mayStart 88 = .ok (.if_icmp .ge 34, 3) := by decide +kernel
theorem dd_M_mayStart_91 : decode cd_M_mayStart 91 = .ok (.aload_n 0, 1) := by decide +kernel
theorem dd_M_mayStart_92 : decode cd_M_mayStart 92 = .ok (.aload_n 0, 1) := by decide +kernel
theorem dd_M_mayStart_93 : decode cd_M_mayStart 93 = .ok (.getfield 26, 3) := by decide +kernel
theorem dd_M_mayStart_96 : decode cd_M_mayStart 96 = .ok (.iload_n 1, 1) := by decide +kernel
theorem dd_M_mayStart_97 : decode cd_M_mayStart 97 = .ok (.iaload, 1) := by decide +kernel
theorem dd_M_mayStart_98 : decode cd_M_mayStart 98 = .ok (.iload_n 2, 1) := by decide +kernel
theorem dd_M_mayStart_99 : decode cd_M_mayStart 99 = .ok (.invokevirtual 64, 3) := by decide +kernel
theorem dd_M_mayStart_102 : decode cd_M_mayStart 102 = .ok (.ifCond .eq 14, 3) := by decide +kernel
theorem dd_M_mayStart_105 : decode cd_M_mayStart 105 = .ok (.aload_n 0, 1) := by decide +kernel
theorem dd_M_mayStart_106 : decode cd_M_mayStart 106 = .ok (.iload_n 2, 1) := by decide +kernel
theorem dd_M_mayStart_107 : decode cd_M_mayStart 107 = .ok (.iload_n 1, 1) := by decide +kernel
theorem dd_M_mayStart_108 : decode cd_M_mayStart 108 = .ok (.invokevirtual 86, 3) := by decide +kernel
theorem dd_M_mayStart_111 : decode cd_M_mayStart 111 = .ok (.ifCond .ne 5, 3) := by decide +kernel
theorem dd_M_mayStart_114 : decode cd_M_mayStart 114 = .ok (.iconst 0, 1) := by decide +kernel
theorem dd_M_mayStart_115 : decode cd_M_mayStart 115 = .ok (.ireturn, 1) := by decide +kernel
theorem dd_M_mayStart_116 : decode cd_M_mayStart 116 = .ok (.iinc 2 1, 3) := by decide +kernel
theorem dd_M_mayStart_119 : decode cd_M_mayStart 119 = .ok (.goto (-36), 3) := by decide +kernel
theorem dd_M_mayStart_122 : decode cd_M_mayStart 122 = .ok (.iconst 1, 1) := by decide +kernel
theorem dd_M_mayStart_123 : decode cd_M_mayStart 123 = .ok (.ireturn, 1) := by decide +kernel
theorem dd_M_countOf_0 : decode cd_M_countOf 0 = .ok (.aload_n 0, 1) := by decide +kernel
theorem dd_M_countOf_1 : decode cd_M_countOf 1 = .ok (.getfield 55, 3) := by decide +kernel
theorem dd_M_countOf_4 : decode cd_M_countOf 4 = .ok (.iload_n 1, 1) := by decide +kernel
theorem dd_M_countOf_5 : decode cd_M_countOf 5 = .ok (.iaload, 1) := by decide +kernel
theorem dd_M_countOf_6 : decode cd_M_countOf 6 = .ok (.istore_n 2, 1) := by decide +kernel
theorem dd_M_countOf_7 : decode cd_M_countOf 7 = .ok (.iconst 0, 1) := by decide +kernel
theorem dd_M_countOf_8 : decode cd_M_countOf 8 = .ok (.istore_n 3, 1) := by decide +kernel
theorem dd_M_countOf_9 : decode cd_M_countOf 9 = .ok (.iload_n 3, 1) := by decide +kernel
theorem dd_M_countOf_10 : decode cd_M_countOf 10 = .ok (.aload_n 0, 1) := by decide +kernel
theorem dd_M_countOf_11 : decode cd_M_countOf 11 = .ok (.getfield 61, 3) := by decide +kernel
theorem dd_M_countOf_14 : decode cd_M_countOf 14 = .ok (.if_icmp .ge 33, 3) := by decide +kernel
theorem dd_M_countOf_17 : decode cd_M_countOf 17 = .ok (.aload_n 0, 1) := by decide +kernel
theorem dd_M_countOf_18 : decode cd_M_countOf 18 = .ok (.getfield 35, 3) := by decide +kernel
theorem dd_M_countOf_21 : decode cd_M_countOf 21 = .ok (.iload_n 3, 1) := by decide +kernel
theorem dd_M_countOf_22 : decode cd_M_countOf 22 = .ok (.iaload, 1) := by decide +kernel
theorem dd_M_countOf_23 : decode cd_M_countOf 23 = .ok (.iload_n 1, 1) := by decide +kernel
theorem dd_M_countOf_24 : decode cd_M_countOf 24 = .ok (.if_icmp .ne 17, 3) := by decide +kernel
theorem dd_M_countOf_27 : decode cd_M_countOf 27 = .ok (.aload_n 0, 1) := by decide +kernel
theorem dd_M_countOf_28 : decode cd_M_countOf 28 = .ok (.getfield 29, 3) := by decide +kernel
theorem dd_M_countOf_31 : decode cd_M_countOf 31 = .ok (.iload_n 3, 1) := by decide +kernel
theorem dd_M_countOf_32 : decode cd_M_countOf 32 = .ok (.iaload, 1) := by decide +kernel
theorem dd_M_countOf_33 : decode cd_M_countOf 33 = .ok (.iconst 5, 1) := by decide +kernel
theorem dd_M_countOf_34 : decode cd_M_countOf 34 = .ok (.if_icmp .ge 7, 3) := by decide +kernel
theorem dd_M_countOf_37 : decode cd_M_countOf 37 = .ok (.iload_n 2, 1) := by decide +kernel
theorem dd_M_countOf_38 : decode cd_M_countOf 38 = .ok (.iconst 1, 1) := by decide +kernel
theorem dd_M_countOf_39 : decode cd_M_countOf 39 = .ok (.iadd, 1) := by decide +kernel
theorem dd_M_countOf_40 : decode cd_M_countOf 40 = .ok (.istore_n 2, 1) := by decide +kernel
theorem dd_M_countOf_41 : decode cd_M_countOf 41 = .ok (.iinc 3 1, 3) := by decide +kernel
theorem dd_M_countOf_44 : decode cd_M_countOf 44 = .ok (.goto (-35), 3) := by decide +kernel
theorem dd_M_countOf_47 : decode cd_M_countOf 47 = .ok (.iload_n 2, 1) := by decide +kernel
theorem dd_M_countOf_48 : decode cd_M_countOf 48 = .ok (.ireturn, 1) := by decide +kernel
theorem dd_M_accept_0 : decode cd_M_accept 0 = .ok (.aload_n 0, 1) := by decide +kernel
theorem dd_M_accept_1 : decode cd_M_accept 1 = .ok (.getfield 61, 3) := by decide +kernel
theorem dd_M_accept_4 : decode cd_M_accept 4 = .ok (.istore_n 3, 1) := by decide +kernel
theorem dd_M_accept_5 : decode cd_M_accept 5 = .ok (.aload_n 0, 1) := by decide +kernel
theorem dd_M_accept_6 : decode cd_M_accept 6 = .ok (.aload_n 0, 1) := by decide +kernel
theorem dd_M_accept_7 : decode cd_M_accept 7 = .ok (.getfield 61, 3) := by decide +kernel
theorem dd_M_accept_10 : decode cd_M_accept 10 = .ok (.iconst 1, 1) := by decide +kernel
theorem dd_M_accept_11 : decode cd_M_accept 11 = .ok (.iadd, 1) := by decide +kernel
theorem dd_M_accept_12 : decode cd_M_accept 12 = .ok (.putfield 61, 3) := by decide +kernel
theorem dd_M_accept_15 : decode cd_M_accept 15 = .ok (.aload_n 0, 1) := by decide +kernel
theorem dd_M_accept_16 : decode cd_M_accept 16 = .ok (.getfield 26, 3) := by decide +kernel
theorem dd_M_accept_19 : decode cd_M_accept 19 = .ok (.iload_n 3, 1) := by decide +kernel
theorem dd_M_accept_20 : decode cd_M_accept 20 = .ok (.iload_n 1, 1) := by decide +kernel
theorem dd_M_accept_21 : decode cd_M_accept 21 = .ok (.iastore, 1) := by decide +kernel
theorem dd_M_accept_22 : decode cd_M_accept 22 = .ok (.aload_n 0, 1) := by decide +kernel
theorem dd_M_accept_23 : decode cd_M_accept 23 = .ok (.getfield 29, 3) := by decide +kernel
theorem dd_M_accept_26 : decode cd_M_accept 26 = .ok (.iload_n 3, 1) := by decide +kernel
theorem dd_M_accept_27 : decode cd_M_accept 27 = .ok (.iconst 1, 1) := by decide +kernel
theorem dd_M_accept_28 : decode cd_M_accept 28 = .ok (.iastore, 1) := by decide +kernel
theorem dd_M_accept_29 : decode cd_M_accept 29 = .ok (.aload_n 0, 1) := by decide +kernel
theorem dd_M_accept_30 : decode cd_M_accept 30 = .ok (.getfield 32, 3) := by decide +kernel
theorem dd_M_accept_33 : decode cd_M_accept 33 = .ok (.iload_n 3, 1) := by decide +kernel
theorem dd_M_accept_34 : decode cd_M_accept 34 = .ok (.iconst (-1), 1) := by decide +kernel
theorem dd_M_accept_35 : decode cd_M_accept 35 = .ok (.iastore, 1) := by decide +kernel
theorem dd_M_accept_36 : decode cd_M_accept 36 = .ok (.aload_n 0, 1) := by decide +kernel
theorem dd_M_accept_37 : decode cd_M_accept 37 = .ok (.getfield 35, 3) := by decide +kernel
theorem dd_M_accept_40 : decode cd_M_accept 40 = .ok (.iload_n 3, 1) := by decide +kernel
theorem dd_M_accept_41 : decode cd_M_accept 41 = .ok (.iconst (-1), 1) := by decide +kernel
theorem dd_M_accept_42 : decode cd_M_accept 42 = .ok (.iastore, 1) := by decide +kernel
theorem dd_M_accept_43 : decode cd_M_accept 43 = .ok (.aload_n 0, 1) := by decide +kernel
theorem dd_M_accept_44 : decode cd_M_accept 44 = .ok (.getfield 38, 3) := by decide +kernel
theorem dd_M_accept_47 : decode cd_M_accept 47 = .ok (.iload_n 3, 1) := by decide +kernel
theorem dd_M_accept_48 : decode cd_M_accept 48 = .ok (.iconst (-1), 1) := by decide +kernel
theorem dd_M_accept_49 : decode cd_M_accept 49 = .ok (.iastore, 1) := by decide +kernel
theorem dd_M_accept_50 : decode cd_M_accept 50 = .ok (.aload_n 0, 1) := by decide +kernel
theorem dd_M_accept_51 : decode cd_M_accept 51 = .ok (.getfield 48, 3) := by decide +kernel
theorem dd_M_accept_54 : decode cd_M_accept 54 = .ok (.iload_n 3, 1) := by decide +kernel
theorem dd_M_accept_55 : decode cd_M_accept 55 = .ok (.iload_n 2, 1) := by decide +kernel
theorem dd_M_accept_56 : decode cd_M_accept 56 = .ok (.ifCond .eq 12, 3) := by decide +kernel
theorem dd_M_accept_59 : decode cd_M_accept 59 = .ok (.iload_n 1, 1) := by decide +kernel
theorem dd_M_accept_60 : decode cd_M_accept 60 = .ok (.iconst 3, 1) := by decide +kernel
theorem dd_M_accept_61 : decode cd_M_accept 61 = .ok (.if_icmp .lt 7, 3) := by decide +kernel
theorem dd_M_accept_64 : decode cd_M_accept 64 = .ok (.iconst 1, 1) := by decide +kernel
theorem dd_M_accept_65 : decode cd_M_accept 65 = .ok (.goto 4, 3) := by decide +kernel
theorem dd_M_accept_68 : decode cd_M_accept 68 = .ok (.iconst 0, 1) := by decide +kernel
theorem dd_M_accept_69 : decode cd_M_accept 69 = .ok (.bastore, 1) := by decide +kernel
theorem dd_M_accept_70 : decode cd_M_accept 70 = .ok (.iload_n 3, 1) := by decide +kernel
theorem dd_M_accept_71 : decode cd_M_accept 71 = .ok (.ireturn, 1) := by decide +kernel
theorem dd_M_line_0 : decode cd_M_line 0 = .ok (.aload_n 0, 1) := by decide +kernel
theorem dd_M_line_1 : decode cd_M_line 1 = .ok (.getfield 29, 3) := by decide +kernel
theorem dd_M_line_4 : decode cd_M_line 4 = .ok (.iload_n 1, 1) := by decide +kernel
theorem dd_M_line_5 : decode cd_M_line 5 = .ok (.iconst 2, 1) := by decide +kernel
theorem dd_M_line_6 : decode cd_M_line 6 = .ok (.iastore, 1) := by decide +kernel
theorem dd_M_line_7 : decode cd_M_line 7 = .ok (.aload_n 0, 1) := by decide +kernel
theorem dd_M_line_8 : decode cd_M_line 8 = .ok (.getfield 41, 3) := by decide +kernel
theorem dd_M_line_11 : decode cd_M_line 11 = .ok (.iload_n 1, 1) := by decide +kernel
theorem dd_M_line_12 : decode cd_M_line 12 = .ok (.aload_n 0, 1) := by decide +kernel
theorem dd_M_line_13 : decode cd_M_line 13 = .ok (.getfield 89, 3) := by decide +kernel
theorem dd_M_line_16 : decode cd_M_line 16 = .ok (.iastore, 1) := by decide +kernel
theorem dd_M_line_17 : decode cd_M_line 17 = .ok (.aload_n 0, 1) := by decide +kernel
theorem dd_M_line_18 : decode cd_M_line 18 = .ok (.aload_n 0, 1) := by decide +kernel
theorem dd_M_line_19 : decode cd_M_line 19 = .ok (.getfield 89, 3) := by decide +kernel
theorem dd_M_line_22 : decode cd_M_line 22 = .ok (.iconst 1, 1) := by decide +kernel
theorem dd_M_line_23 : decode cd_M_line 23 = .ok (.iadd, 1) := by decide +kernel
theorem dd_M_line_24 : decode cd_M_line 24 = .ok (.putfield 89, 3) := by decide +kernel
theorem dd_M_line_27 : decode cd_M_line 27 = .ok (.return_, 1) := by decide +kernel
theorem dd_M_release_0 : decode cd_M_release 0 = .ok (.aload_n 0, 1) := by decide +kernel
theorem dd_M_release_1 : decode cd_M_release 1 = .ok (.iload_n 1, 1) := by decide +kernel
theorem dd_M_release_2 : decode cd_M_release 2 = .ok (.invokevirtual 92, 3) := by decide +kernel
theorem dd_M_release_5 : decode cd_M_release 5 = .ok (.ifCond .le 4, 3) := by decide +kernel
theorem dd_M_release_8 : decode cd_M_release 8 = .ok (.return_, 1) := by decide +kernel
theorem dd_M_release_9 : decode cd_M_release 9 = .ok (.iconst 0, 1) := by decide +kernel
theorem dd_M_release_10 : decode cd_M_release 10 = .ok (.istore_n 2, 1) := by decide +kernel
theorem dd_M_release_11 : decode cd_M_release 11 = .ok (.iload_n 2, 1) := by decide +kernel
theorem dd_M_release_12 : decode cd_M_release 12 = .ok (.aload_n 0, 1) := by decide +kernel
theorem dd_M_release_13 : decode cd_M_release 13 = .ok (.getfield 61, 3) := by decide +kernel
theorem dd_M_release_16 : decode cd_M_release 16 = .ok (.if_icmp .ge 33, 3) := by decide +kernel
theorem dd_M_release_19 : decode cd_M_release 19 = .ok (.aload_n 0, 1) := by decide +kernel
theorem dd_M_release_20 : decode cd_M_release 20 = .ok (.getfield 29, 3) := by decide +kernel
theorem dd_M_release_23 : decode cd_M_release 23 = .ok (.iload_n 2, 1) := by decide +kernel
theorem dd_M_release_24 : decode cd_M_release 24 = .ok (.iaload, 1) := by decide +kernel
theorem dd_M_release_25 : decode cd_M_release 25 = .ok (.ifCond .ne 18, 3) := by decide +kernel
theorem dd_M_release_28 : decode cd_M_release 28 = .ok (.aload_n 0, 1) := by decide +kernel
theorem dd_M_release_29 : decode cd_M_release 29 = .ok (.getfield 38, 3) := by decide +kernel
theorem dd_M_release_32 : decode cd_M_release 32 = .ok (.iload_n 2, 1) := by decide +kernel
theorem dd_M_release_33 : decode cd_M_release 33 = .ok (.iaload, 1) := by decide +kernel
theorem dd_M_release_34 : decode cd_M_release 34 = .ok (.iload_n 1, 1) := by decide +kernel
theorem dd_M_release_35 : decode cd_M_release 35 = .ok (.if_icmp .ne 8, 3) := by decide +kernel
theorem dd_M_release_38 : decode cd_M_release 38 = .ok (.aload_n 0, 1) := by decide +kernel
theorem dd_M_release_39 : decode cd_M_release 39 = .ok (.iload_n 2, 1) := by decide +kernel
theorem dd_M_release_40 : decode cd_M_release 40 = .ok (.invokevirtual 95, 3) := by decide +kernel
theorem dd_M_release_43 : decode cd_M_release 43 = .ok (.iinc 2 1, 3) := by decide +kernel
theorem dd_M_release_46 : decode cd_M_release 46 = .ok (.goto (-35), 3) := by decide +kernel
theorem dd_M_release_49 : decode cd_M_release 49 = .ok (.return_, 1) := by decide +kernel
theorem dd_M_end_0 : decode cd_M_end 0 = .ok (.aload_n 0, 1) := by decide +kernel
theorem dd_M_end_1 : decode cd_M_end 1 = .ok (.getfield 29, 3) := by decide +kernel
theorem dd_M_end_4 : decode cd_M_end 4 = .ok (.iload_n 1, 1) := by decide +kernel
theorem dd_M_end_5 : decode cd_M_end 5 = .ok (.iload_n 2, 1) := by decide +kernel
theorem dd_M_end_6 : decode cd_M_end 6 = .ok (.iastore, 1) := by decide +kernel
theorem dd_M_end_7 : decode cd_M_end 7 = .ok (.aload_n 0, 1) := by decide +kernel
theorem dd_M_end_8 : decode cd_M_end 8 = .ok (.getfield 32, 3) := by decide +kernel
theorem dd_M_end_11 : decode cd_M_end 11 = .ok (.iload_n 1, 1) := by decide +kernel
theorem dd_M_end_12 : decode cd_M_end 12 = .ok (.iaload, 1) := by decide +kernel
theorem dd_M_end_13 : decode cd_M_end 13 = .ok (.ifCond .lt 15, 3) := by decide +kernel
theorem dd_M_end_16 : decode cd_M_end 16 = .ok (.aload_n 0, 1) := by decide +kernel
theorem dd_M_end_17 : decode cd_M_end 17 = .ok (.getfield 29, 3) := by decide +kernel
theorem dd_M_end_20 : decode cd_M_end 20 = .ok (.aload_n 0, 1) := by decide +kernel
theorem dd_M_end_21 : decode cd_M_end 21 = .ok (.getfield 32, 3) := by decide +kernel
theorem dd_M_end_24 : decode cd_M_end 24 = .ok (.iload_n 1, 1) := by decide +kernel
theorem dd_M_end_25 : decode cd_M_end 25 = .ok (.iaload, 1) := by decide +kernel
theorem dd_M_end_26 : decode cd_M_end 26 = .ok (.iconst 3, 1) := by decide +kernel
theorem dd_M_end_27 : decode cd_M_end 27 = .ok (.iastore, 1) := by decide +kernel
theorem dd_M_end_28 : decode cd_M_end 28 = .ok (.aload_n 0, 1) := by decide +kernel
theorem dd_M_end_29 : decode cd_M_end 29 = .ok (.getfield 35, 3) := by decide +kernel
theorem dd_M_end_32 : decode cd_M_end 32 = .ok (.iload_n 1, 1) := by decide +kernel
theorem dd_M_end_33 : decode cd_M_end 33 = .ok (.iaload, 1) := by decide +kernel
theorem dd_M_end_34 : decode cd_M_end 34 = .ok (.ifCond .lt 13, 3) := by decide +kernel
theorem dd_M_end_37 : decode cd_M_end 37 = .ok (.aload_n 0, 1) := by decide +kernel
theorem dd_M_end_38 : decode cd_M_end 38 = .ok (.aload_n 0, 1) := by decide +kernel
theorem dd_M_end_39 : decode cd_M_end 39 = .ok (.getfield 35, 3) := by decide +kernel
theorem dd_M_end_42 : decode cd_M_end 42 = .ok (.iload_n 1, 1) := by decide +kernel
theorem dd_M_end_43 : decode cd_M_end 43 = .ok (.iaload, 1) := by decide +kernel
theorem dd_M_end_44 : decode cd_M_end 44 = .ok (.invokevirtual 99, 3) := by decide +kernel
theorem dd_M_end_47 : decode cd_M_end 47 = .ok (.return_, 1) := by decide +kernel
theorem dd_M_queue_0 : decode cd_M_queue 0 = .ok (.aload_n 0, 1) := by decide +kernel
theorem dd_M_queue_1 : decode cd_M_queue 1 = .ok (.iload_n 1, 1) := by decide +kernel
theorem dd_M_queue_2 : decode cd_M_queue 2 = .ok (.invokevirtual 102, 3) := by decide +kernel
theorem dd_M_queue_5 : decode cd_M_queue 5 = .ok (.ifCond .ne 5, 3) := by decide +kernel
theorem dd_M_queue_8 : decode cd_M_queue 8 = .ok (.iconst (-1), 1) := by decide +kernel
theorem dd_M_queue_9 : decode cd_M_queue 9 = .ok (.ireturn, 1) := by decide +kernel
theorem dd_M_queue_10 : decode cd_M_queue 10 = .ok (.iload_n 2, 1) := by decide +kernel
theorem dd_M_queue_11 : decode cd_M_queue 11 = .ok (.iconst 1, 1) := by decide +kernel
theorem dd_M_queue_12 : decode cd_M_queue 12 = .ok (.if_icmp .lt 9, 3) := by decide +kernel
theorem dd_M_queue_15 : decode cd_M_queue 15 = .ok (.iload_n 2, 1) := by decide +kernel
theorem dd_M_queue_16 : decode cd_M_queue 16 = .ok (.bipush 8, 2) := by decide +kernel
theorem dd_M_queue_18 : decode cd_M_queue 18 = .ok (.if_icmp .le 6, 3) := by decide +kernel
theorem dd_M_queue_21 : decode cd_M_queue 21 = .ok (.bipush (-9), 2) := by decide +kernel
theorem dd_M_queue_23 : decode cd_M_queue 23 = .ok (.ireturn, 1) := by decide +kernel
theorem dd_M_queue_24 : decode cd_M_queue 24 = .ok (.aload_n 0, 1) := by decide +kernel
theorem dd_M_queue_25 : decode cd_M_queue 25 = .ok (.getfield 7, 3) := by decide +kernel
theorem dd_M_queue_28 : decode cd_M_queue 28 = .ok (.bipush 12, 2) := by decide +kernel
theorem dd_M_queue_30 : decode cd_M_queue 30 = .ok (.if_icmp .ne 6, 3) := by decide +kernel
theorem dd_M_queue_33 : decode cd_M_queue 33 = .ok (.bipush (-4), 2) := by decide +kernel
theorem dd_M_queue_35 : decode cd_M_queue 35 = .ok (.ireturn, 1) := by decide +kernel
theorem dd_M_queue_36 : decode cd_M_queue 36 = .ok (.aload_n 0, 1) := by decide +kernel
theorem dd_M_queue_37 : decode cd_M_queue 37 = .ok (.getfield 13, 3) := by decide +kernel
theorem dd_M_queue_40 : decode cd_M_queue 40 = .ok (.aload_n 0, 1) := by decide +kernel
theorem dd_M_queue_41 : decode cd_M_queue 41 = .ok (.getfield 7, 3) := by decide +kernel
theorem dd_M_queue_44 : decode cd_M_queue 44 = .ok (.iload_n 1, 1) := by decide +kernel
theorem dd_M_queue_45 : decode cd_M_queue 45 = .ok (.iastore, 1) := by decide +kernel
theorem dd_M_queue_46 : decode cd_M_queue 46 = .ok (.aload_n 0, 1) := by decide +kernel
theorem dd_M_queue_47 : decode cd_M_queue 47 = .ok (.getfield 17, 3) := by decide +kernel
theorem dd_M_queue_50 : decode cd_M_queue 50 = .ok (.aload_n 0, 1) := by decide +kernel
theorem dd_M_queue_51 : decode cd_M_queue 51 = .ok (.getfield 7, 3) := by decide +kernel
theorem dd_M_queue_54 : decode cd_M_queue 54 = .ok (.iload_n 2, 1) := by decide +kernel
theorem dd_M_queue_55 : decode cd_M_queue 55 = .ok (.iastore, 1) := by decide +kernel
theorem dd_M_queue_56 : decode cd_M_queue 56 = .ok (.aload_n 0, 1) := by decide +kernel
theorem dd_M_queue_57 : decode cd_M_queue 57 = .ok (.aload_n 0, 1) := by decide +kernel
theorem dd_M_queue_58 : decode cd_M_queue 58 = .ok (.getfield 7, 3) := by decide +kernel
theorem dd_M_queue_61 : decode cd_M_queue 61 = .ok (.iconst 1, 1) := by decide +kernel
theorem dd_M_queue_62 : decode cd_M_queue 62 = .ok (.iadd, 1) := by decide +kernel
theorem dd_M_queue_63 : decode cd_M_queue 63 = .ok (.putfield 7, 3) := by decide +kernel
theorem dd_M_queue_66 : decode cd_M_queue 66 = .ok (.aload_n 0, 1) := by decide +kernel
theorem dd_M_queue_67 : decode cd_M_queue 67 = .ok (.getfield 7, 3) := by decide +kernel
theorem dd_M_queue_70 : decode cd_M_queue 70 = .ok (.iconst 1, 1) := by decide +kernel
theorem dd_M_queue_71 : decode cd_M_queue 71 = .ok (.isub, 1) := by decide +kernel
theorem dd_M_queue_72 : decode cd_M_queue 72 = .ok (.ireturn, 1) := by decide +kernel
theorem dd_M_retarget_0 : decode cd_M_retarget 0 = .ok (.aload_n 0, 1) := by decide +kernel
theorem dd_M_retarget_1 : decode cd_M_retarget 1 = .ok (.iload_n 1, 1) := by decide +kernel
theorem dd_M_retarget_2 : decode cd_M_retarget 2 = .ok (.invokevirtual 102, 3) := by decide +kernel
theorem dd_M_retarget_5 : decode cd_M_retarget 5 = .ok (.ifCond .eq 16, 3) := by decide +kernel
theorem dd_M_retarget_8 : decode cd_M_retarget 8 = .ok (.iload_n 1, 1) := by decide +kernel
theorem dd_M_retarget_9 : decode cd_M_retarget 9 = .ok (.iconst 3, 1) := by decide +kernel
theorem dd_M_retarget_10 : decode cd_M_retarget 10 = .ok (.if_icmp .lt 11, 3) := by decide +kernel
theorem dd_M_retarget_13 : decode cd_M_retarget 13 = .ok (.aload_n 0, 1) := by decide +kernel
theorem dd_M_retarget_14 : decode cd_M_retarget 14 = .ok (.iload_n 2, 1) := by decide +kernel
theorem dd_M_retarget_15 : decode cd_M_retarget 15 = .ok (.invokevirtual 102, 3) := by decide +kernel
theorem dd_M_retarget_18 : decode cd_M_retarget 18 = .ok (.ifCond .ne 5, 3) := by decide +kernel
theorem dd_M_retarget_21 : decode cd_M_retarget 21 = .ok (.iconst (-1), 1) := by decide +kernel
theorem dd_M_retarget_22 : decode cd_M_retarget 22 = .ok (.ireturn, 1) := by decide +kernel
theorem dd_M_retarget_23 : decode cd_M_retarget 23 = .ok (.aload_n 0, 1) := by decide +kernel
theorem dd_M_retarget_24 : decode cd_M_retarget 24 = .ok (.iload_n 2, 1) := by decide +kernel
theorem dd_M_retarget_25 : decode cd_M_retarget 25 = .ok (.iload_n 1, 1) := by decide +kernel
theorem dd_M_retarget_26 : decode cd_M_retarget 26 = .ok (.invokevirtual 64, 3) := by decide +kernel
theorem dd_M_retarget_29 : decode cd_M_retarget 29 = .ok (.ifCond .eq 6, 3) := by decide +kernel
theorem dd_M_retarget_32 : decode cd_M_retarget 32 = .ok (.bipush (-5), 2) := by decide +kernel
theorem dd_M_retarget_34 : decode cd_M_retarget 34 = .ok (.ireturn, 1) := by decide +kernel
theorem dd_M_retarget_35 : decode cd_M_retarget 35 = .ok (.aload_n 0, 1) := by decide +kernel
theorem dd_M_retarget_36 : decode cd_M_retarget 36 = .ok (.iload_n 1, 1) := by decide +kernel
theorem dd_M_retarget_37 : decode cd_M_retarget 37 = .ok (.invokevirtual 72, 3) := by decide +kernel
theorem dd_M_retarget_40 : decode cd_M_retarget 40 = .ok (.ifCond .le 6, 3) := by decide +kernel
theorem dd_M_retarget_43 : decode cd_M_retarget 43 = .ok (.bipush (-6), 2) := by decide +kernel
theorem dd_M_retarget_45 : decode cd_M_retarget 45 = .ok (.ireturn, 1) := by decide +kernel
theorem dd_M_retarget_46 : decode cd_M_retarget 46 = .ok (.aload_n 0, 1) := by decide +kernel
theorem dd_M_retarget_47 : decode cd_M_retarget 47 = .ok (.getfield 13, 3) := by decide +kernel
theorem dd_M_retarget_50 : decode cd_M_retarget 50 = .ok (.iload_n 1, 1) := by decide +kernel
theorem dd_M_retarget_51 : decode cd_M_retarget 51 = .ok (.iload_n 2, 1) := by decide +kernel
theorem dd_M_retarget_52 : decode cd_M_retarget 52 = .ok (.iastore, 1) := by decide +kernel
theorem dd_M_retarget_53 : decode cd_M_retarget 53 = .ok (.iconst 0, 1) := by decide +kernel
theorem dd_M_retarget_54 : decode cd_M_retarget 54 = .ok (.ireturn, 1) := by decide +kernel
theorem dd_M_submit_0 : decode cd_M_submit 0 = .ok (.aload_n 0, 1) := by decide +kernel
theorem dd_M_submit_1 : decode cd_M_submit 1 = .ok (.iload_n 1, 1) := by decide +kernel
theorem dd_M_submit_2 : decode cd_M_submit 2 = .ok (.invokevirtual 102, 3) := by decide +kernel
theorem dd_M_submit_5 : decode cd_M_submit 5 = .ok (.ifCond .ne 5, 3) := by decide +kernel
theorem dd_M_submit_8 : decode cd_M_submit 8 = .ok (.iconst (-1), 1) := by decide +kernel
theorem dd_M_submit_9 : decode cd_M_submit 9 = .ok (.ireturn, 1) := by decide +kernel
theorem dd_M_submit_10 : decode cd_M_submit 10 = .ok (.iload_n 3, 1) := by decide +kernel
theorem dd_M_submit_11 : decode cd_M_submit 11 = .ok (.iconst (-1), 1) := by decide +kernel
theorem dd_M_submit_12 : decode cd_M_submit 12 = .ok (.if_icmp .lt 8, 3) := by decide +kernel
theorem dd_M_submit_15 : decode cd_M_submit 15 = .ok (.iload_n 3, 1) := by decide +kernel
theorem dd_M_submit_16 : decode cd_M_submit 16 = .ok (.iconst 3, 1) := by decide +kernel
theorem dd_M_submit_17 : decode cd_M_submit 17 = .ok (.if_icmp .le 6, 3) := by decide +kernel
theorem dd_M_submit_20 : decode cd_M_submit 20 = .ok (.bipush (-2), 2) := by decide +kernel
theorem dd_M_submit_22 : decode cd_M_submit 22 = .ok (.ireturn, 1) := by decide +kernel
theorem dd_M_submit_23 : decode cd_M_submit 23 = .ok (.aload_n 0, 1) := by decide +kernel
theorem dd_M_submit_24 : decode cd_M_submit 24 = .ok (.getfield 61, 3) := by decide +kernel
theorem dd_M_submit_27 : decode cd_M_submit 27 = .ok (.sipush 160, 3) := by decide +kernel
theorem dd_M_submit_30 : decode cd_M_submit 30 = .ok (.if_icmp .ne 6, 3) := by decide +kernel
theorem dd_M_submit_33 : decode cd_M_submit 33 = .ok (.bipush (-4), 2) := by decide +kernel
theorem dd_M_submit_35 : decode cd_M_submit 35 = .ok (.ireturn, 1) := by decide +kernel
theorem dd_M_submit_36 : decode cd_M_submit 36 = .ok (.aload_n 0, 1) := by decide +kernel
theorem dd_M_submit_37 : decode cd_M_submit 37 = .ok (.iload_n 1, 1) := by decide +kernel
theorem dd_M_submit_38 : decode cd_M_submit 38 = .ok (.iload_n 2, 1) := by decide +kernel
theorem dd_M_submit_39 : decode cd_M_submit 39 = .ok (.invokevirtual 105, 3) := by decide +kernel
theorem dd_M_submit_42 : decode cd_M_submit 42 = .ok (.istore 4, 2) := by decide +kernel
theorem dd_M_submit_44 : decode cd_M_submit 44 = .ok (.aload_n 0, 1) := by decide +kernel
theorem dd_M_submit_45 : decode cd_M_submit 45 = .ok (.getfield 35, 3) := by decide +kernel
theorem dd_M_submit_48 : decode cd_M_submit 48 = .ok (.iload 4, 2) := by decide +kernel
theorem dd_M_submit_50 : decode cd_M_submit 50 = .ok (.iload_n 3, 1) := by decide +kernel
theorem dd_M_submit_51 : decode cd_M_submit 51 = .ok (.iastore, 1) := by decide +kernel
theorem dd_M_submit_52 : decode cd_M_submit 52 = .ok (.aload_n 0, 1) := by decide +kernel
theorem dd_M_submit_53 : decode cd_M_submit 53 = .ok (.iload 4, 2) := by decide +kernel
theorem dd_M_submit_55 : decode cd_M_submit 55 = .ok (.invokevirtual 95, 3) := by decide +kernel
theorem dd_M_submit_58 : decode cd_M_submit 58 = .ok (.iload 4, 2) := by decide +kernel
theorem dd_M_submit_60 : decode cd_M_submit 60 = .ok (.ireturn, 1) := by decide +kernel
theorem dd_M_after_0 : decode cd_M_after 0 = .ok (.aload_n 0, 1) := by decide +kernel
