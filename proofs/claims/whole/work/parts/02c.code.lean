/-! Part 02: decode rows of the reference. -/
theorem dd_M_after_1 : decode cd_M_after 1 = .ok (.iload_n 1, 1) := by decide +kernel
theorem dd_M_after_2 : decode cd_M_after 2 = .ok (.invokevirtual 102, 3) := by decide +kernel
theorem dd_M_after_5 : decode cd_M_after 5 = .ok (.ifCond .ne 5, 3) := by decide +kernel
theorem dd_M_after_8 : decode cd_M_after 8 = .ok (.iconst (-1), 1) := by decide +kernel
theorem dd_M_after_9 : decode cd_M_after 9 = .ok (.ireturn, 1) := by decide +kernel
theorem dd_M_after_10 : decode cd_M_after 10 = .ok (.aload_n 0, 1) := by decide +kernel
theorem dd_M_after_11 : decode cd_M_after 11 = .ok (.getfield 61, 3) := by decide +kernel
theorem dd_M_after_14 : decode cd_M_after 14 = .ok (.sipush 160, 3) := by decide +kernel
theorem dd_M_after_17 : decode cd_M_after 17 = .ok (.if_icmp .ne 6, 3) := by decide +kernel
theorem dd_M_after_20 : decode cd_M_after 20 = .ok (.bipush (-4), 2) := by decide +kernel
theorem dd_M_after_22 : decode cd_M_after 22 = .ok (.ireturn, 1) := by decide +kernel
theorem dd_M_after_23 : decode cd_M_after 23 = .ok (.aload_n 0, 1) := by decide +kernel
theorem dd_M_after_24 : decode cd_M_after 24 = .ok (.iload_n 1, 1) := by decide +kernel
theorem dd_M_after_25 : decode cd_M_after 25 = .ok (.iconst 0, 1) := by decide +kernel
theorem dd_M_after_26 : decode cd_M_after 26 = .ok (.invokevirtual 105, 3) := by decide +kernel
theorem dd_M_after_29 : decode cd_M_after 29 = .ok (.istore 4, 2) := by decide +kernel
theorem dd_M_after_31 : decode cd_M_after 31 = .ok (.lload_n 2, 1) := by decide +kernel
theorem dd_M_after_32 : decode cd_M_after 32 = .ok (.lconst 0, 1) := by decide +kernel
theorem dd_M_after_33 : decode cd_M_after 33 = .ok (.lcmp, 1) := by decide +kernel
theorem dd_M_after_34 : decode cd_M_after 34 = .ok (.ifCond .gt 12, 3) := by decide +kernel
theorem dd_M_after_37 : decode cd_M_after 37 = .ok (.aload_n 0, 1) := by decide +kernel
theorem dd_M_after_38 : decode cd_M_after 38 = .ok (.iload 4, 2) := by decide +kernel
theorem dd_M_after_40 : decode cd_M_after 40 = .ok (.invokevirtual 95, 3) := by decide +kernel
theorem dd_M_after_43 : decode cd_M_after 43 = .ok (.goto 35, 3) := by decide +kernel
theorem dd_M_after_46 : decode cd_M_after 46 = .ok (.aload_n 0, 1) := by decide +kernel
theorem dd_M_after_47 : decode cd_M_after 47 = .ok (.getfield 44, 3) := by decide +kernel
theorem dd_M_after_50 : decode cd_M_after 50 = .ok (.iload 4, 2) := by decide +kernel
theorem dd_M_after_52 : decode cd_M_after 52 = .ok (.lload_n 2, 1) := by decide +kernel
theorem dd_M_after_53 : decode cd_M_after 53 = .ok (.ldc2_w 109, 3) := by decide +kernel
theorem dd_M_after_56 : decode cd_M_after 56 = .ok (.aload_n 0, 1) := by decide +kernel
theorem dd_M_after_57 : decode cd_M_after 57 = .ok (.getfield 111, 3) := by decide +kernel
theorem dd_M_after_60 : decode cd_M_after 60 = .ok (.lsub, 1) := by decide +kernel
theorem dd_M_after_61 : decode cd_M_after 61 = .ok (.lcmp, 1) := by decide +kernel
theorem dd_M_after_62 : decode cd_M_after 62 = .ok (.ifCond .lt 9, 3) := by decide +kernel
theorem dd_M_after_65 : decode cd_M_after 65 = .ok (.ldc2_w 109, 3) := by decide +kernel
theorem dd_M_after_68 : decode cd_M_after 68 = .ok (.goto 9, 3) := by decide +kernel
theorem dd_M_after_71 : decode cd_M_after 71 = .ok (.aload_n 0, 1) := by decide +kernel
theorem dd_M_after_72 : decode cd_M_after 72 = .ok (.getfield 111, 3) := by decide +kernel
theorem dd_M_after_75 : decode cd_M_after 75 = .ok (.lload_n 2, 1) := by decide +kernel
theorem dd_M_after_76 : decode cd_M_after 76 = .ok (.ladd, 1) := by decide +kernel
theorem dd_M_after_77 : decode cd_M_after 77 = .ok (.lastore, 1) := by decide +kernel
theorem dd_M_after_78 : decode cd_M_after 78 = .ok (.iload 4, 2) := by decide +kernel
theorem dd_M_after_80 : decode cd_M_after 80 = .ok (.ireturn, 1) := by decide +kernel
theorem dd_M_inTheWay_0 : decode cd_M_inTheWay 0 = .ok (.iconst 3, 1) := by decide +kernel
theorem dd_M_inTheWay_1 : decode cd_M_inTheWay 1 = .ok (.istore 4, 2) := by decide +kernel
theorem dd_M_inTheWay_3 : decode cd_M_inTheWay 3 = .ok (.iload 4, 2) := by decide +kernel
theorem dd_M_inTheWay_5 : decode cd_M_inTheWay 5 = .ok (.aload_n 0, 1) := by decide +kernel
theorem dd_M_inTheWay_6 : decode cd_M_inTheWay 6 = .ok (.getfield 7, 3) := by decide +kernel
theorem dd_M_inTheWay_9 : decode cd_M_inTheWay 9 = .ok (.if_icmp .ge 77, 3) := by decide +kernel
theorem dd_M_inTheWay_12 : decode cd_M_inTheWay 12 = .ok (.aload_n 0, 1) := by decide +kernel
theorem dd_M_inTheWay_13 : decode cd_M_inTheWay 13 = .ok (.iload_n 2, 1) := by decide +kernel
theorem dd_M_inTheWay_14 : decode cd_M_inTheWay 14 = .ok (.iload 4, 2) := by decide +kernel
theorem dd_M_inTheWay_16 : decode cd_M_inTheWay 16 = .ok (.invokevirtual 64, 3) := by decide +kernel
theorem dd_M_inTheWay_19 : decode cd_M_inTheWay 19 = .ok (.ifCond .eq 61, 3) := by decide +kernel
theorem dd_M_inTheWay_22 : decode cd_M_inTheWay 22 = .ok (.aload_n 0, 1) := by decide +kernel
theorem dd_M_inTheWay_23 : decode cd_M_inTheWay 23 = .ok (.aload_n 0, 1) := by decide +kernel
theorem dd_M_inTheWay_24 : decode cd_M_inTheWay 24 = .ok (.getfield 26, 3) := by decide +kernel
theorem dd_M_inTheWay_27 : decode cd_M_inTheWay 27 = .ok (.iload_n 1, 1) := by decide +kernel
theorem dd_M_inTheWay_28 : decode cd_M_inTheWay 28 = .ok (.iaload, 1) := by decide +kernel
theorem dd_M_inTheWay_29 : decode cd_M_inTheWay 29 = .ok (.iload 4, 2) := by decide +kernel
theorem dd_M_inTheWay_31 : decode cd_M_inTheWay 31 = .ok (.invokevirtual 64, 3) := by decide +kernel
theorem dd_M_inTheWay_34 : decode cd_M_inTheWay 34 = .ok (.ifCond .eq 46, 3) := by decide +kernel
theorem dd_M_inTheWay_37 : decode cd_M_inTheWay 37 = .ok (.aload_n 0, 1) := by decide +kernel
theorem dd_M_inTheWay_38 : decode cd_M_inTheWay 38 = .ok (.getfield 17, 3) := by decide +kernel
theorem dd_M_inTheWay_41 : decode cd_M_inTheWay 41 = .ok (.iload 4, 2) := by decide +kernel
theorem dd_M_inTheWay_43 : decode cd_M_inTheWay 43 = .ok (.iaload, 1) := by decide +kernel
theorem dd_M_inTheWay_44 : decode cd_M_inTheWay 44 = .ok (.iconst 1, 1) := by decide +kernel
theorem dd_M_inTheWay_45 : decode cd_M_inTheWay 45 = .ok (.if_icmp .eq 33, 3) := by decide +kernel
theorem dd_M_inTheWay_48 : decode cd_M_inTheWay 48 = .ok (.aload_n 0, 1) := by decide +kernel
theorem dd_M_inTheWay_49 : decode cd_M_inTheWay 49 = .ok (.getfield 48, 3) := by decide +kernel
theorem dd_M_inTheWay_52 : decode cd_M_inTheWay 52 = .ok (.iload_n 1, 1) := by decide +kernel
theorem dd_M_inTheWay_53 : decode cd_M_inTheWay 53 = .ok (.baload, 1) := by decide +kernel
theorem dd_M_inTheWay_54 : decode cd_M_inTheWay 54 = .ok (.ifCond .eq 14, 3) := by decide +kernel
theorem dd_M_inTheWay_57 : decode cd_M_inTheWay 57 = .ok (.aload_n 0, 1) := by decide +kernel
theorem dd_M_inTheWay_58 : decode cd_M_inTheWay 58 = .ok (.getfield 26, 3) := by decide +kernel
theorem dd_M_inTheWay_61 : decode cd_M_inTheWay 61 = .ok (.iload_n 1, 1) := by decide +kernel
theorem dd_M_inTheWay_62 : decode cd_M_inTheWay 62 = .ok (.iaload, 1) := by decide +kernel
theorem dd_M_inTheWay_63 : decode cd_M_inTheWay 63 = .ok (.iload 4, 2) := by decide +kernel
theorem dd_M_inTheWay_65 : decode cd_M_inTheWay 65 = .ok (.if_icmp .eq 13, 3) := by decide +kernel
theorem dd_M_inTheWay_68 : decode cd_M_inTheWay 68 = .ok (.iload_n 3, 1) := by decide +kernel
theorem dd_M_inTheWay_69 : decode cd_M_inTheWay 69 = .ok (.ifCond .eq 11, 3) := by decide +kernel
theorem dd_M_inTheWay_72 : decode cd_M_inTheWay 72 = .ok (.iload 4, 2) := by decide +kernel
theorem dd_M_inTheWay_74 : decode cd_M_inTheWay 74 = .ok (.iload_n 2, 1) := by decide +kernel
theorem dd_M_inTheWay_75 : decode cd_M_inTheWay 75 = .ok (.if_icmp .ne 5, 3) := by decide +kernel
theorem dd_M_inTheWay_78 : decode cd_M_inTheWay 78 = .ok (.iconst 1, 1) := by decide +kernel
theorem dd_M_inTheWay_79 : decode cd_M_inTheWay 79 = .ok (.ireturn, 1) := by decide +kernel
theorem dd_M_inTheWay_80 : decode cd_M_inTheWay 80 = .ok (.iinc 4 1, 3) := by decide +kernel
theorem dd_M_inTheWay_83 : decode cd_M_inTheWay 83 = .ok (.goto (-80), 3) := by decide +kernel
theorem dd_M_inTheWay_86 : decode cd_M_inTheWay 86 = .ok (.iconst 0, 1) := by decide +kernel
theorem dd_M_inTheWay_87 : decode cd_M_inTheWay 87 = .ok (.ireturn, 1) := by decide +kernel
theorem dd_M_call_0 : decode cd_M_call 0 = .ok (.aload_n 0, 1) := by decide +kernel
theorem dd_M_call_1 : decode cd_M_call 1 = .ok (.iload_n 1, 1) := by decide +kernel
theorem dd_M_call_2 : decode cd_M_call 2 = .ok (.invokevirtual 115, 3) := by decide +kernel
theorem dd_M_call_5 : decode cd_M_call 5 = .ok (.ifCond .eq 13, 3) := by decide +kernel
theorem dd_M_call_8 : decode cd_M_call 8 = .ok (.aload_n 0, 1) := by decide +kernel
theorem dd_M_call_9 : decode cd_M_call 9 = .ok (.getfield 29, 3) := by decide +kernel
theorem dd_M_call_12 : decode cd_M_call 12 = .ok (.iload_n 1, 1) := by decide +kernel
theorem dd_M_call_13 : decode cd_M_call 13 = .ok (.iaload, 1) := by decide +kernel
theorem dd_M_call_14 : decode cd_M_call 14 = .ok (.iconst 3, 1) := by decide +kernel
theorem dd_M_call_15 : decode cd_M_call 15 = .ok (.if_icmp .eq 6, 3) := by decide +kernel
theorem dd_M_call_18 : decode cd_M_call 18 = .ok (.bipush (-3), 2) := by decide +kernel
theorem dd_M_call_20 : decode cd_M_call 20 = .ok (.ireturn, 1) := by decide +kernel
theorem dd_M_call_21 : decode cd_M_call 21 = .ok (.aload_n 0, 1) := by decide +kernel
theorem dd_M_call_22 : decode cd_M_call 22 = .ok (.iload_n 2, 1) := by decide +kernel
theorem dd_M_call_23 : decode cd_M_call 23 = .ok (.invokevirtual 102, 3) := by decide +kernel
theorem dd_M_call_26 : decode cd_M_call 26 = .ok (.ifCond .ne 5, 3) := by decide +kernel
theorem dd_M_call_29 : decode cd_M_call 29 = .ok (.iconst (-1), 1) := by decide +kernel
theorem dd_M_call_30 : decode cd_M_call 30 = .ok (.ireturn, 1) := by decide +kernel
theorem dd_M_call_31 : decode cd_M_call 31 = .ok (.iload_n 1, 1) := by decide +kernel
theorem dd_M_call_32 : decode cd_M_call 32 = .ok (.istore 4, 2) := by decide +kernel
theorem dd_M_call_34 : decode cd_M_call 34 = .ok (.iconst 0, 1) := by decide +kernel
theorem dd_M_call_35 : decode cd_M_call 35 = .ok (.istore 5, 2) := by decide +kernel
theorem dd_M_call_37 : decode cd_M_call 37 = .ok (.iload 5, 2) := by decide +kernel
theorem dd_M_call_39 : decode cd_M_call 39 = .ok (.sipush 160, 3) := by decide +kernel
theorem dd_M_call_42 : decode cd_M_call 42 = .ok (.if_icmp .ge 37, 3) := by decide +kernel
theorem dd_M_call_45 : decode cd_M_call 45 = .ok (.iload 4, 2) := by decide +kernel
theorem dd_M_call_47 : decode cd_M_call 47 = .ok (.ifCond .lt 32, 3) := by decide +kernel
theorem dd_M_call_50 : decode cd_M_call 50 = .ok (.aload_n 0, 1) := by decide +kernel
theorem dd_M_call_51 : decode cd_M_call 51 = .ok (.iload 4, 2) := by decide +kernel
theorem dd_M_call_53 : decode cd_M_call 53 = .ok (.iload_n 2, 1) := by decide +kernel
theorem dd_M_call_54 : decode cd_M_call 54 = .ok (.iload_n 3, 1) := by decide +kernel
theorem dd_M_call_55 : decode cd_M_call 55 = .ok (.invokevirtual 118, 3) := by decide +kernel
theorem dd_M_call_58 : decode cd_M_call 58 = .ok (.ifCond .eq 6, 3) := by decide +kernel
theorem dd_M_call_61 : decode cd_M_call 61 = .ok (.bipush (-7), 2) := by decide +kernel
theorem dd_M_call_63 : decode cd_M_call 63 = .ok (.ireturn, 1) := by decide +kernel
theorem dd_M_call_64 : decode cd_M_call 64 = .ok (.aload_n 0, 1) := by decide +kernel
theorem dd_M_call_65 : decode cd_M_call 65 = .ok (.getfield 32, 3) := by decide +kernel
theorem dd_M_call_68 : decode cd_M_call 68 = .ok (.iload 4, 2) := by decide +kernel
theorem dd_M_call_70 : decode cd_M_call 70 = .ok (.iaload, 1) := by decide +kernel
theorem dd_M_call_71 : decode cd_M_call 71 = .ok (.istore 4, 2) := by decide +kernel
theorem dd_M_call_73 : decode cd_M_call 73 = .ok (.iinc 5 1, 3) := by decide +kernel
theorem dd_M_call_76 : decode cd_M_call 76 = .ok (.goto (-39), 3) := by decide +kernel
theorem dd_M_call_79 : decode cd_M_call 79 = .ok (.aload_n 0, 1) := by decide +kernel
theorem dd_M_call_80 : decode cd_M_call 80 = .ok (.getfield 61, 3) := by decide +kernel
theorem dd_M_call_83 : decode cd_M_call 83 = .ok (.sipush 160, 3) := by decide +kernel
theorem dd_M_call_86 : decode cd_M_call 86 = .ok (.if_icmp .ne 6, 3) := by decide +kernel
theorem dd_M_call_89 : decode cd_M_call 89 = .ok (.bipush (-4), 2) := by decide +kernel
theorem dd_M_call_91 : decode cd_M_call 91 = .ok (.ireturn, 1) := by decide +kernel
theorem dd_M_call_92 : decode cd_M_call 92 = .ok (.aload_n 0, 1) := by decide +kernel
theorem dd_M_call_93 : decode cd_M_call 93 = .ok (.iload_n 2, 1) := by decide +kernel
theorem dd_M_call_94 : decode cd_M_call 94 = .ok (.iload_n 3, 1) := by decide +kernel
theorem dd_M_call_95 : decode cd_M_call 95 = .ok (.invokevirtual 105, 3) := by decide +kernel
theorem dd_M_call_98 : decode cd_M_call 98 = .ok (.istore 5, 2) := by decide +kernel
theorem dd_M_call_100 : decode cd_M_call 100 = .ok (.aload_n 0, 1) := by decide +kernel
theorem dd_M_call_101 : decode cd_M_call 101 = .ok (.getfield 32, 3) := by decide +kernel
theorem dd_M_call_104 : decode cd_M_call 104 = .ok (.iload 5, 2) := by decide +kernel
theorem dd_M_call_106 : decode cd_M_call 106 = .ok (.iload_n 1, 1) := by decide +kernel
theorem dd_M_call_107 : decode cd_M_call 107 = .ok (.iastore, 1) := by decide +kernel
theorem dd_M_call_108 : decode cd_M_call 108 = .ok (.aload_n 0, 1) := by decide +kernel
theorem dd_M_call_109 : decode cd_M_call 109 = .ok (.getfield 29, 3) := by decide +kernel
theorem dd_M_call_112 : decode cd_M_call 112 = .ok (.iload_n 1, 1) := by decide +kernel
theorem dd_M_call_113 : decode cd_M_call 113 = .ok (.iconst 4, 1) := by decide +kernel
theorem dd_M_call_114 : decode cd_M_call 114 = .ok (.iastore, 1) := by decide +kernel
theorem dd_M_call_115 : decode cd_M_call 115 = .ok (.aload_n 0, 1) := by decide +kernel
theorem dd_M_call_116 : decode cd_M_call 116 = .ok (.iload 5, 2) := by decide +kernel
theorem dd_M_call_118 : decode cd_M_call 118 = .ok (.invokevirtual 95, 3) := by decide +kernel
theorem dd_M_call_121 : decode cd_M_call 121 = .ok (.iload 5, 2) := by decide +kernel
theorem dd_M_call_123 : decode cd_M_call 123 = .ok (.ireturn, 1) := by decide +kernel
theorem dd_M_whenDone_0 : decode cd_M_whenDone 0 = .ok (.iload_n 1, 1) := by decide +kernel
theorem dd_M_whenDone_1 : decode cd_M_whenDone 1 = .ok (.ifCond .lt 8, 3) := by decide +kernel
theorem dd_M_whenDone_4 : decode cd_M_whenDone 4 = .ok (.iload_n 1, 1) := by decide +kernel
theorem dd_M_whenDone_5 : decode cd_M_whenDone 5 = .ok (.iconst 3, 1) := by decide +kernel
theorem dd_M_whenDone_6 : decode cd_M_whenDone 6 = .ok (.if_icmp .le 6, 3) := by decide +kernel
theorem dd_M_whenDone_9 : decode cd_M_whenDone 9 = .ok (.bipush (-2), 2) := by decide +kernel
theorem dd_M_whenDone_11 : decode cd_M_whenDone 11 = .ok (.ireturn, 1) := by decide +kernel
theorem dd_M_whenDone_12 : decode cd_M_whenDone 12 = .ok (.aload_n 0, 1) := by decide +kernel
theorem dd_M_whenDone_13 : decode cd_M_whenDone 13 = .ok (.iload_n 2, 1) := by decide +kernel
theorem dd_M_whenDone_14 : decode cd_M_whenDone 14 = .ok (.invokevirtual 102, 3) := by decide +kernel
theorem dd_M_whenDone_17 : decode cd_M_whenDone 17 = .ok (.ifCond .ne 5, 3) := by decide +kernel
theorem dd_M_whenDone_20 : decode cd_M_whenDone 20 = .ok (.iconst (-1), 1) := by decide +kernel
theorem dd_M_whenDone_21 : decode cd_M_whenDone 21 = .ok (.ireturn, 1) := by decide +kernel
theorem dd_M_whenDone_22 : decode cd_M_whenDone 22 = .ok (.aload_n 0, 1) := by decide +kernel
theorem dd_M_whenDone_23 : decode cd_M_whenDone 23 = .ok (.getfield 61, 3) := by decide +kernel
theorem dd_M_whenDone_26 : decode cd_M_whenDone 26 = .ok (.sipush 160, 3) := by decide +kernel
theorem dd_M_whenDone_29 : decode cd_M_whenDone 29 = .ok (.if_icmp .ne 6, 3) := by decide +kernel
theorem dd_M_whenDone_32 : decode cd_M_whenDone 32 = .ok (.bipush (-4), 2) := by decide +kernel
theorem dd_M_whenDone_34 : decode cd_M_whenDone 34 = .ok (.ireturn, 1) := by decide +kernel
theorem dd_M_whenDone_35 : decode cd_M_whenDone 35 = .ok (.aload_n 0, 1) := by decide +kernel
theorem dd_M_whenDone_36 : decode cd_M_whenDone 36 = .ok (.iload_n 2, 1) := by decide +kernel
theorem dd_M_whenDone_37 : decode cd_M_whenDone 37 = .ok (.iconst 0, 1) := by decide +kernel
theorem dd_M_whenDone_38 : decode cd_M_whenDone 38 = .ok (.invokevirtual 105, 3) := by decide +kernel
theorem dd_M_whenDone_41 : decode cd_M_whenDone 41 = .ok (.istore_n 3, 1) := by decide +kernel
theorem dd_M_whenDone_42 : decode cd_M_whenDone 42 = .ok (.aload_n 0, 1) := by decide +kernel
theorem dd_M_whenDone_43 : decode cd_M_whenDone 43 = .ok (.getfield 38, 3) := by decide +kernel
theorem dd_M_whenDone_46 : decode cd_M_whenDone 46 = .ok (.iload_n 3, 1) := by decide +kernel
theorem dd_M_whenDone_47 : decode cd_M_whenDone 47 = .ok (.iload_n 1, 1) := by decide +kernel
theorem dd_M_whenDone_48 : decode cd_M_whenDone 48 = .ok (.iastore, 1) := by decide +kernel
theorem dd_M_whenDone_49 : decode cd_M_whenDone 49 = .ok (.aload_n 0, 1) := by decide +kernel
theorem dd_M_whenDone_50 : decode cd_M_whenDone 50 = .ok (.iload_n 1, 1) := by decide +kernel
theorem dd_M_whenDone_51 : decode cd_M_whenDone 51 = .ok (.invokevirtual 92, 3) := by decide +kernel
theorem dd_M_whenDone_54 : decode cd_M_whenDone 54 = .ok (.ifCond .ne 11, 3) := by decide +kernel
theorem dd_M_whenDone_57 : decode cd_M_whenDone 57 = .ok (.aload_n 0, 1) := by decide +kernel
theorem dd_M_whenDone_58 : decode cd_M_whenDone 58 = .ok (.iload_n 3, 1) := by decide +kernel
theorem dd_M_whenDone_59 : decode cd_M_whenDone 59 = .ok (.invokevirtual 95, 3) := by decide +kernel
theorem dd_M_whenDone_62 : decode cd_M_whenDone 62 = .ok (.goto 10, 3) := by decide +kernel
theorem dd_M_whenDone_65 : decode cd_M_whenDone 65 = .ok (.aload_n 0, 1) := by decide +kernel
theorem dd_M_whenDone_66 : decode cd_M_whenDone 66 = .ok (.getfield 29, 3) := by decide +kernel
theorem dd_M_whenDone_69 : decode cd_M_whenDone 69 = .ok (.iload_n 3, 1) := by decide +kernel
theorem dd_M_whenDone_70 : decode cd_M_whenDone 70 = .ok (.iconst 0, 1) := by decide +kernel
theorem dd_M_whenDone_71 : decode cd_M_whenDone 71 = .ok (.iastore, 1) := by decide +kernel
theorem dd_M_whenDone_72 : decode cd_M_whenDone 72 = .ok (.iload_n 3, 1) := by decide +kernel
theorem dd_M_whenDone_73 : decode cd_M_whenDone 73 = .ok (.ireturn, 1) := by decide +kernel
theorem dd_M_enter_0 : decode cd_M_enter 0 = .ok (.iload_n 1, 1) := by decide +kernel
theorem dd_M_enter_1 : decode cd_M_enter 1 = .ok (.ifCond .lt 20, 3) := by decide +kernel
theorem dd_M_enter_4 : decode cd_M_enter 4 = .ok (.iload_n 1, 1) := by decide +kernel
theorem dd_M_enter_5 : decode cd_M_enter 5 = .ok (.iconst 3, 1) := by decide +kernel
theorem dd_M_enter_6 : decode cd_M_enter 6 = .ok (.if_icmp .gt 15, 3) := by decide +kernel
theorem dd_M_enter_9 : decode cd_M_enter 9 = .ok (.aload_n 0, 1) := by decide +kernel
theorem dd_M_enter_10 : decode cd_M_enter 10 = .ok (.getfield 55, 3) := by decide +kernel
theorem dd_M_enter_13 : decode cd_M_enter 13 = .ok (.iload_n 1, 1) := by decide +kernel
theorem dd_M_enter_14 : decode cd_M_enter 14 = .ok (.iaload, 1) := by decide +kernel
theorem dd_M_enter_15 : decode cd_M_enter 15 = .ok (.sipush 200, 3) := by decide +kernel
theorem dd_M_enter_18 : decode cd_M_enter 18 = .ok (.if_icmp .lt 5, 3) := by decide +kernel
theorem dd_M_enter_21 : decode cd_M_enter 21 = .ok (.iconst 0, 1) := by decide +kernel
theorem dd_M_enter_22 : decode cd_M_enter 22 = .ok (.ireturn, 1) := by decide +kernel
theorem dd_M_enter_23 : decode cd_M_enter 23 = .ok (.aload_n 0, 1) := by decide +kernel
theorem dd_M_enter_24 : decode cd_M_enter 24 = .ok (.getfield 55, 3) := by decide +kernel
theorem dd_M_enter_27 : decode cd_M_enter 27 = .ok (.iload_n 1, 1) := by decide +kernel
theorem dd_M_enter_28 : decode cd_M_enter 28 = .ok (.aload_n 0, 1) := by decide +kernel
theorem dd_M_enter_29 : decode cd_M_enter 29 = .ok (.getfield 55, 3) := by decide +kernel
theorem dd_M_enter_32 : decode cd_M_enter 32 = .ok (.iload_n 1, 1) := by decide +kernel
theorem dd_M_enter_33 : decode cd_M_enter 33 = .ok (.iaload, 1) := by decide +kernel
theorem dd_M_enter_34 : decode cd_M_enter 34 = .ok (.iconst 1, 1) := by decide +kernel
theorem dd_M_enter_35 : decode cd_M_enter 35 = .ok (.iadd, 1) := by decide +kernel
theorem dd_M_enter_36 : decode cd_M_enter 36 = .ok (.iastore, 1) := by decide +kernel
theorem dd_M_enter_37 : decode cd_M_enter 37 = .ok (.iconst 1, 1) := by decide +kernel
theorem dd_M_enter_38 : decode cd_M_enter 38 = .ok (.ireturn, 1) := by decide +kernel
theorem dd_M_leave_0 : decode cd_M_leave 0 = .ok (.iload_n 1, 1) := by decide +kernel
theorem dd_M_leave_1 : decode cd_M_leave 1 = .ok (.ifCond .lt 17, 3) := by decide +kernel
theorem dd_M_leave_4 : decode cd_M_leave 4 = .ok (.iload_n 1, 1) := by decide +kernel
theorem dd_M_leave_5 : decode cd_M_leave 5 = .ok (.iconst 3, 1) := by decide +kernel
theorem dd_M_leave_6 : decode cd_M_leave 6 = .ok (.if_icmp .gt 12, 3) := by decide +kernel
theorem dd_M_leave_9 : decode cd_M_leave 9 = .ok (.aload_n 0, 1) := by decide +kernel
theorem dd_M_leave_10 : decode cd_M_leave 10 = .ok (.getfield 55, 3) := by decide +kernel
theorem dd_M_leave_13 : decode cd_M_leave 13 = .ok (.iload_n 1, 1) := by decide +kernel
theorem dd_M_leave_14 : decode cd_M_leave 14 = .ok (.iaload, 1) := by decide +kernel
theorem dd_M_leave_15 : decode cd_M_leave 15 = .ok (.ifCond .ne 5, 3) := by decide +kernel
theorem dd_M_leave_18 : decode cd_M_leave 18 = .ok (.iconst 0, 1) := by decide +kernel
theorem dd_M_leave_19 : decode cd_M_leave 19 = .ok (.ireturn, 1) := by decide +kernel
theorem dd_M_leave_20 : decode cd_M_leave 20 = .ok (.aload_n 0, 1) := by decide +kernel
theorem dd_M_leave_21 : decode cd_M_leave 21 = .ok (.getfield 55, 3) := by decide +kernel
theorem dd_M_leave_24 : decode cd_M_leave 24 = .ok (.iload_n 1, 1) := by decide +kernel
theorem dd_M_leave_25 : decode cd_M_leave 25 = .ok (.aload_n 0, 1) := by decide +kernel
theorem dd_M_leave_26 : decode cd_M_leave 26 = .ok (.getfield 55, 3) := by decide +kernel
theorem dd_M_leave_29 : decode cd_M_leave 29 = .ok (.iload_n 1, 1) := by decide +kernel
theorem dd_M_leave_30 : decode cd_M_leave 30 = .ok (.iaload, 1) := by decide +kernel
theorem dd_M_leave_31 : decode cd_M_leave 31 = .ok (.iconst 1, 1) := by decide +kernel
theorem dd_M_leave_32 : decode cd_M_leave 32 = .ok (.isub, 1) := by decide +kernel
theorem dd_M_leave_33 : decode cd_M_leave 33 = .ok (.iastore, 1) := by decide +kernel
theorem dd_M_leave_34 : decode cd_M_leave 34 = .ok (.aload_n 0, 1) := by decide +kernel
theorem dd_M_leave_35 : decode cd_M_leave 35 = .ok (.iload_n 1, 1) := by decide +kernel
theorem dd_M_leave_36 : decode cd_M_leave 36 = .ok (.invokevirtual 99, 3) := by decide +kernel
theorem dd_M_leave_39 : decode cd_M_leave 39 = .ok (.iconst 1, 1) := by decide +kernel
theorem dd_M_leave_40 : decode cd_M_leave 40 = .ok (.ireturn, 1) := by decide +kernel
theorem dd_M_cancel_0 : decode cd_M_cancel 0 = .ok (.aload_n 0, 1) := by decide +kernel
theorem dd_M_cancel_1 : decode cd_M_cancel 1 = .ok (.iload_n 1, 1) := by decide +kernel
theorem dd_M_cancel_2 : decode cd_M_cancel 2 = .ok (.invokevirtual 115, 3) := by decide +kernel
theorem dd_M_cancel_5 : decode cd_M_cancel 5 = .ok (.ifCond .eq 22, 3) := by decide +kernel
theorem dd_M_cancel_8 : decode cd_M_cancel 8 = .ok (.aload_n 0, 1) := by decide +kernel
theorem dd_M_cancel_9 : decode cd_M_cancel 9 = .ok (.getfield 29, 3) := by decide +kernel
theorem dd_M_cancel_12 : decode cd_M_cancel 12 = .ok (.iload_n 1, 1) := by decide +kernel
theorem dd_M_cancel_13 : decode cd_M_cancel 13 = .ok (.iaload, 1) := by decide +kernel
theorem dd_M_cancel_14 : decode cd_M_cancel 14 = .ok (.iconst 2, 1) := by decide +kernel
theorem dd_M_cancel_15 : decode cd_M_cancel 15 = .ok (.if_icmp .gt 12, 3) := by decide +kernel
theorem dd_M_cancel_18 : decode cd_M_cancel 18 = .ok (.aload_n 0, 1) := by decide +kernel
theorem dd_M_cancel_19 : decode cd_M_cancel 19 = .ok (.getfield 52, 3) := by decide +kernel
theorem dd_M_cancel_22 : decode cd_M_cancel 22 = .ok (.iload_n 1, 1) := by decide +kernel
theorem dd_M_cancel_23 : decode cd_M_cancel 23 = .ok (.baload, 1) := by decide +kernel
theorem dd_M_cancel_24 : decode cd_M_cancel 24 = .ok (.ifCond .eq 5, 3) := by decide +kernel
theorem dd_M_cancel_27 : decode cd_M_cancel 27 = .ok (.iconst 0, 1) := by decide +kernel
theorem dd_M_cancel_28 : decode cd_M_cancel 28 = .ok (.ireturn, 1) := by decide +kernel
theorem dd_M_cancel_29 : decode cd_M_cancel 29 = .ok (.aload_n 0, 1) := by decide +kernel
theorem dd_M_cancel_30 : decode cd_M_cancel 30 = .ok (.getfield 52, 3) := by decide +kernel
theorem dd_M_cancel_33 : decode cd_M_cancel 33 = .ok (.iload_n 1, 1) := by decide +kernel
theorem dd_M_cancel_34 : decode cd_M_cancel 34 = .ok (.iconst 1, 1) := by decide +kernel
theorem dd_M_cancel_35 : decode cd_M_cancel 35 = .ok (.bastore, 1) := by decide +kernel
theorem dd_M_cancel_36 : decode cd_M_cancel 36 = .ok (.iconst 1, 1) := by decide +kernel
theorem dd_M_cancel_37 : decode cd_M_cancel 37 = .ok (.ireturn, 1) := by decide +kernel
theorem dd_M_hold_0 : decode cd_M_hold 0 = .ok (.aload_n 0, 1) := by decide +kernel
theorem dd_M_hold_1 : decode cd_M_hold 1 = .ok (.iload_n 1, 1) := by decide +kernel
theorem dd_M_hold_2 : decode cd_M_hold 2 = .ok (.invokevirtual 102, 3) := by decide +kernel
theorem dd_M_hold_5 : decode cd_M_hold 5 = .ok (.ifCond .eq 8, 3) := by decide +kernel
theorem dd_M_hold_8 : decode cd_M_hold 8 = .ok (.iload_n 1, 1) := by decide +kernel
theorem dd_M_hold_9 : decode cd_M_hold 9 = .ok (.iconst 3, 1) := by decide +kernel
theorem dd_M_hold_10 : decode cd_M_hold 10 = .ok (.if_icmp .ge 5, 3) := by decide +kernel
theorem dd_M_hold_13 : decode cd_M_hold 13 = .ok (.iconst (-1), 1) := by decide +kernel
theorem dd_M_hold_14 : decode cd_M_hold 14 = .ok (.ireturn, 1) := by decide +kernel
theorem dd_M_hold_15 : decode cd_M_hold 15 = .ok (.iload_n 2, 1) := by decide +kernel
theorem dd_M_hold_16 : decode cd_M_hold 16 = .ok (.ifCond .eq 17, 3) := by decide +kernel
theorem dd_M_hold_19 : decode cd_M_hold 19 = .ok (.aload_n 0, 1) := by decide +kernel
theorem dd_M_hold_20 : decode cd_M_hold 20 = .ok (.getfield 20, 3) := by decide +kernel
theorem dd_M_hold_23 : decode cd_M_hold 23 = .ok (.iload_n 1, 1) := by decide +kernel
theorem dd_M_hold_24 : decode cd_M_hold 24 = .ok (.iaload, 1) := by decide +kernel
theorem dd_M_hold_25 : decode cd_M_hold 25 = .ok (.bipush 100, 2) := by decide +kernel
theorem dd_M_hold_27 : decode cd_M_hold 27 = .ok (.if_icmp .ne 6, 3) := by decide +kernel
theorem dd_M_hold_30 : decode cd_M_hold 30 = .ok (.bipush (-4), 2) := by decide +kernel
theorem dd_M_hold_32 : decode cd_M_hold 32 = .ok (.ireturn, 1) := by decide +kernel
theorem dd_M_hold_33 : decode cd_M_hold 33 = .ok (.iload_n 2, 1) := by decide +kernel
theorem dd_M_hold_34 : decode cd_M_hold 34 = .ok (.ifCond .ne 15, 3) := by decide +kernel
theorem dd_M_hold_37 : decode cd_M_hold 37 = .ok (.aload_n 0, 1) := by decide +kernel
theorem dd_M_hold_38 : decode cd_M_hold 38 = .ok (.getfield 20, 3) := by decide +kernel
theorem dd_M_hold_41 : decode cd_M_hold 41 = .ok (.iload_n 1, 1) := by decide +kernel
theorem dd_M_hold_42 : decode cd_M_hold 42 = .ok (.iaload, 1) := by decide +kernel
theorem dd_M_hold_43 : decode cd_M_hold 43 = .ok (.ifCond .ne 6, 3) := by decide +kernel
theorem dd_M_hold_46 : decode cd_M_hold 46 = .ok (.bipush (-8), 2) := by decide +kernel
theorem dd_M_hold_48 : decode cd_M_hold 48 = .ok (.ireturn, 1) := by decide +kernel
theorem dd_M_hold_49 : decode cd_M_hold 49 = .ok (.aload_n 0, 1) := by decide +kernel
theorem dd_M_hold_50 : decode cd_M_hold 50 = .ok (.getfield 20, 3) := by decide +kernel
theorem dd_M_hold_53 : decode cd_M_hold 53 = .ok (.iload_n 1, 1) := by decide +kernel
theorem dd_M_hold_54 : decode cd_M_hold 54 = .ok (.iload_n 2, 1) := by decide +kernel
theorem dd_M_hold_55 : decode cd_M_hold 55 = .ok (.ifCond .eq 14, 3) := by decide +kernel
theorem dd_M_hold_58 : decode cd_M_hold 58 = .ok (.aload_n 0, 1) := by decide +kernel
theorem dd_M_hold_59 : decode cd_M_hold 59 = .ok (.getfield 20, 3) := by decide +kernel
theorem dd_M_hold_62 : decode cd_M_hold 62 = .ok (.iload_n 1, 1) := by decide +kernel
theorem dd_M_hold_63 : decode cd_M_hold 63 = .ok (.iaload, 1) := by decide +kernel
theorem dd_M_hold_64 : decode cd_M_hold 64 = .ok (.iconst 1, 1) := by decide +kernel
theorem dd_M_hold_65 : decode cd_M_hold 65 = .ok (.iadd, 1) := by decide +kernel
theorem dd_M_hold_66 : decode cd_M_hold 66 = .ok (.goto 11, 3) := by decide +kernel
theorem dd_M_hold_69 : decode cd_M_hold 69 = .ok (.aload_n 0, 1) := by decide +kernel
theorem dd_M_hold_70 : decode cd_M_hold 70 = .ok (.getfield 20, 3) := by decide +kernel
theorem dd_M_hold_73 : decode cd_M_hold 73 = .ok (.iload_n 1, 1) := by decide +kernel
theorem dd_M_hold_74 : decode cd_M_hold 74 = .ok (.iaload, 1) := by decide +kernel
theorem dd_M_hold_75 : decode cd_M_hold 75 = .ok (.iconst 1, 1) := by decide +kernel
theorem dd_M_hold_76 : decode cd_M_hold 76 = .ok (.isub, 1) := by decide +kernel
theorem dd_M_hold_77 : decode cd_M_hold 77 = .ok (.iastore, 1) := by decide +kernel
theorem dd_M_hold_78 : decode cd_M_hold 78 = .ok (.aload_n 0, 1) := by decide +kernel
theorem dd_M_hold_79 : decode cd_M_hold 79 = .ok (.getfield 20, 3) := by decide +kernel
theorem dd_M_hold_82 : decode cd_M_hold 82 = .ok (.iload_n 1, 1) := by decide +kernel
