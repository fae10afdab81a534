/-! Part 02: decode rows of the reference. -/
theorem dd_M_init_0 : decode cd_M_init 0 = .ok (.aload_n 0, 1) := by decide +kernel
theorem dd_M_init_1 : decode cd_M_init 1 = .ok (.invokespecial 1, 3) := by decide +kernel
theorem dd_M_init_4 : decode cd_M_init 4 = .ok (.aload_n 0, 1) := by decide +kernel
theorem dd_M_init_5 : decode cd_M_init 5 = .ok (.iconst 3, 1) := by decide +kernel
theorem dd_M_init_6 : decode cd_M_init 6 = .ok (.putfield 7, 3) := by decide +kernel
theorem dd_M_init_9 : decode cd_M_init 9 = .ok (.aload_n 0, 1) := by decide +kernel
theorem dd_M_init_10 : decode cd_M_init 10 = .ok (.bipush 12, 2) := by decide +kernel
theorem dd_M_init_12 : decode cd_M_init 12 = .ok (.newarray .int, 2) := by decide +kernel
theorem dd_M_init_14 : decode cd_M_init 14 = .ok (.putfield 13, 3) := by decide +kernel
theorem dd_M_init_17 : decode cd_M_init 17 = .ok (.aload_n 0, 1) := by decide +kernel
theorem dd_M_init_18 : decode cd_M_init 18 = .ok (.bipush 12, 2) := by decide +kernel
theorem dd_M_init_20 : decode cd_M_init 20 = .ok (.newarray .int, 2) := by decide +kernel
theorem dd_M_init_22 : decode cd_M_init 22 = .ok (.putfield 17, 3) := by decide +kernel
theorem dd_M_init_25 : decode cd_M_init 25 = .ok (.aload_n 0, 1) := by decide +kernel
theorem dd_M_init_26 : decode cd_M_init 26 = .ok (.bipush 12, 2) := by decide +kernel
theorem dd_M_init_28 : decode cd_M_init 28 = .ok (.newarray .int, 2) := by decide +kernel
theorem dd_M_init_30 : decode cd_M_init 30 = .ok (.putfield 20, 3) := by decide +kernel
theorem dd_M_init_33 : decode cd_M_init 33 = .ok (.aload_n 0, 1) := by decide +kernel
theorem dd_M_init_34 : decode cd_M_init 34 = .ok (.bipush 12, 2) := by decide +kernel
theorem dd_M_init_36 : decode cd_M_init 36 = .ok (.newarray .int, 2) := by decide +kernel
theorem dd_M_init_38 : decode cd_M_init 38 = .ok (.putfield 23, 3) := by decide +kernel
theorem dd_M_init_41 : decode cd_M_init 41 = .ok (.aload_n 0, 1) := by decide +kernel
theorem dd_M_init_42 : decode cd_M_init 42 = .ok (.sipush 160, 3) := by decide +kernel
theorem dd_M_init_45 : decode cd_M_init 45 = .ok (.newarray .int, 2) := by decide +kernel
theorem dd_M_init_47 : decode cd_M_init 47 = .ok (.putfield 26, 3) := by decide +kernel
theorem dd_M_init_50 : decode cd_M_init 50 = .ok (.aload_n 0, 1) := by decide +kernel
theorem dd_M_init_51 : decode cd_M_init 51 = .ok (.sipush 160, 3) := by decide +kernel
theorem dd_M_init_54 : decode cd_M_init 54 = .ok (.newarray .int, 2) := by decide +kernel
theorem dd_M_init_56 : decode cd_M_init 56 = .ok (.putfield 29, 3) := by decide +kernel
theorem dd_M_init_59 : decode cd_M_init 59 = .ok (.aload_n 0, 1) := by decide +kernel
theorem dd_M_init_60 : decode cd_M_init 60 = .ok (.sipush 160, 3) := by decide +kernel
theorem dd_M_init_63 : decode cd_M_init 63 = .ok (.newarray .int, 2) := by decide +kernel
theorem dd_M_init_65 : decode cd_M_init 65 = .ok (.putfield 32, 3) := by decide +kernel
theorem dd_M_init_68 : decode cd_M_init 68 = .ok (.aload_n 0, 1) := by decide +kernel
theorem dd_M_init_69 : decode cd_M_init 69 = .ok (.sipush 160, 3) := by decide +kernel
theorem dd_M_init_72 : decode cd_M_init 72 = .ok (.newarray .int, 2) := by decide +kernel
theorem dd_M_init_74 : decode cd_M_init 74 = .ok (.putfield 35, 3) := by decide +kernel
theorem dd_M_init_77 : decode cd_M_init 77 = .ok (.aload_n 0, 1) := by decide +kernel
theorem dd_M_init_78 : decode cd_M_init 78 = .ok (.sipush 160, 3) := by decide +kernel
theorem dd_M_init_81 : decode cd_M_init 81 = .ok (.newarray .int, 2) := by decide +kernel
theorem dd_M_init_83 : decode cd_M_init 83 = .ok (.putfield 38, 3) := by decide +kernel
theorem dd_M_init_86 : decode cd_M_init 86 = .ok (.aload_n 0, 1) := by decide +kernel
theorem dd_M_init_87 : decode cd_M_init 87 = .ok (.sipush 160, 3) := by decide +kernel
theorem dd_M_init_90 : decode cd_M_init 90 = .ok (.newarray .int, 2) := by decide +kernel
theorem dd_M_init_92 : decode cd_M_init 92 = .ok (.putfield 41, 3) := by decide +kernel
theorem dd_M_init_95 : decode cd_M_init 95 = .ok (.aload_n 0, 1) := by decide +kernel
theorem dd_M_init_96 : decode cd_M_init 96 = .ok (.sipush 160, 3) := by decide +kernel
theorem dd_M_init_99 : decode cd_M_init 99 = .ok (.newarray .long, 2) := by decide +kernel
theorem dd_M_init_101 : decode cd_M_init 101 = .ok (.putfield 44, 3) := by decide +kernel
theorem dd_M_init_104 : decode cd_M_init 104 = .ok (.aload_n 0, 1) := by decide +kernel
theorem dd_M_init_105 : decode cd_M_init 105 = .ok (.sipush 160, 3) := by decide +kernel
theorem dd_M_init_108 : decode cd_M_init 108 = .ok (.newarray .boolean, 2) := by decide +kernel
theorem dd_M_init_110 : decode cd_M_init 110 = .ok (.putfield 48, 3) := by decide +kernel
theorem dd_M_init_113 : decode cd_M_init 113 = .ok (.aload_n 0, 1) := by decide +kernel
theorem dd_M_init_114 : decode cd_M_init 114 = .ok (.sipush 160, 3) := by decide +kernel
theorem dd_M_init_117 : decode cd_M_init 117 = .ok (.newarray .boolean, 2) := by decide +kernel
theorem dd_M_init_119 : decode cd_M_init 119 = .ok (.putfield 52, 3) := by decide +kernel
theorem dd_M_init_122 : decode cd_M_init 122 = .ok (.aload_n 0, 1) := by decide +kernel
theorem dd_M_init_123 : decode cd_M_init 123 = .ok (.iconst 4, 1) := by decide +kernel
theorem dd_M_init_124 : decode cd_M_init 124 = .ok (.newarray .int, 2) := by decide +kernel
theorem dd_M_init_126 : decode cd_M_init 126 = .ok (.putfield 55, 3) := by decide +kernel
theorem dd_M_init_129 : decode cd_M_init 129 = .ok (.aload_n 0, 1) := by decide +kernel
theorem dd_M_init_130 : decode cd_M_init 130 = .ok (.iload_n 1, 1) := by decide +kernel
theorem dd_M_init_131 : decode cd_M_init 131 = .ok (.iconst 1, 1) := by decide +kernel
theorem dd_M_init_132 : decode cd_M_init 132 = .ok (.if_icmp .ge 7, 3) := by decide +kernel
theorem dd_M_init_135 : decode cd_M_init 135 = .ok (.iconst 1, 1) := by decide +kernel
theorem dd_M_init_136 : decode cd_M_init 136 = .ok (.goto 15, 3) := by decide +kernel
theorem dd_M_init_139 : decode cd_M_init 139 = .ok (.iload_n 1, 1) := by decide +kernel
theorem dd_M_init_140 : decode cd_M_init 140 = .ok (.bipush 8, 2) := by decide +kernel
theorem dd_M_init_142 : decode cd_M_init 142 = .ok (.if_icmp .le 8, 3) := by decide +kernel
theorem dd_M_init_145 : decode cd_M_init 145 = .ok (.bipush 8, 2) := by decide +kernel
theorem dd_M_init_147 : decode cd_M_init 147 = .ok (.goto 4, 3) := by decide +kernel
theorem dd_M_init_150 : decode cd_M_init 150 = .ok (.iload_n 1, 1) := by decide +kernel
theorem dd_M_init_151 : decode cd_M_init 151 = .ok (.putfield 58, 3) := by decide +kernel
theorem dd_M_init_154 : decode cd_M_init 154 = .ok (.return_, 1) := by decide +kernel
theorem dd_M_isQueue_0 : decode cd_M_isQueue 0 = .ok (.iload_n 1, 1) := by decide +kernel
theorem dd_M_isQueue_1 : decode cd_M_isQueue 1 = .ok (.ifCond .lt 15, 3) := by decide +kernel
theorem dd_M_isQueue_4 : decode cd_M_isQueue 4 = .ok (.iload_n 1, 1) := by decide +kernel
theorem dd_M_isQueue_5 : decode cd_M_isQueue 5 = .ok (.aload_n 0, 1) := by decide +kernel
theorem dd_M_isQueue_6 : decode cd_M_isQueue 6 = .ok (.getfield 7, 3) := by decide +kernel
theorem dd_M_isQueue_9 : decode cd_M_isQueue 9 = .ok (.if_icmp .ge 7, 3) := by decide +kernel
theorem dd_M_isQueue_12 : decode cd_M_isQueue 12 = .ok (.iconst 1, 1) := by decide +kernel
theorem dd_M_isQueue_13 : decode cd_M_isQueue 13 = .ok (.goto 4, 3) := by decide +kernel
theorem dd_M_isQueue_16 : decode cd_M_isQueue 16 = .ok (.iconst 0, 1) := by decide +kernel
theorem dd_M_isQueue_17 : decode cd_M_isQueue 17 = .ok (.ireturn, 1) := by decide +kernel
theorem dd_M_isBlock_0 : decode cd_M_isBlock 0 = .ok (.iload_n 1, 1) := by decide +kernel
theorem dd_M_isBlock_1 : decode cd_M_isBlock 1 = .ok (.ifCond .lt 15, 3) := by decide +kernel
theorem dd_M_isBlock_4 : decode cd_M_isBlock 4 = .ok (.iload_n 1, 1) := by decide +kernel
theorem dd_M_isBlock_5 : decode cd_M_isBlock 5 = .ok (.aload_n 0, 1) := by decide +kernel
theorem dd_M_isBlock_6 : decode cd_M_isBlock 6 = .ok (.getfield 61, 3) := by decide +kernel
theorem dd_M_isBlock_9 : decode cd_M_isBlock 9 = .ok (.if_icmp .ge 7, 3) := by decide +kernel
theorem dd_M_isBlock_12 : decode cd_M_isBlock 12 = .ok (.iconst 1, 1) := by decide +kernel
theorem dd_M_isBlock_13 : decode cd_M_isBlock 13 = .ok (.goto 4, 3) := by decide +kernel
theorem dd_M_isBlock_16 : decode cd_M_isBlock 16 = .ok (.iconst 0, 1) := by decide +kernel
theorem dd_M_isBlock_17 : decode cd_M_isBlock 17 = .ok (.ireturn, 1) := by decide +kernel
theorem dd_M_leads_0 : decode cd_M_leads 0 = .ok (.iload_n 1, 1) := by decide +kernel
theorem dd_M_leads_1 : decode cd_M_leads 1 = .ok (.istore_n 3, 1) := by decide +kernel
theorem dd_M_leads_2 : decode cd_M_leads 2 = .ok (.iconst 0, 1) := by decide +kernel
theorem dd_M_leads_3 : decode cd_M_leads 3 = .ok (.istore 4, 2) := by decide +kernel
theorem dd_M_leads_5 : decode cd_M_leads 5 = .ok (.iload 4, 2) := by decide +kernel
theorem dd_M_leads_7 : decode cd_M_leads 7 = .ok (.bipush 12, 2) := by decide +kernel
theorem dd_M_leads_9 : decode cd_M_leads 9 = .ok (.if_icmp .ge 30, 3) := by decide +kernel
theorem dd_M_leads_12 : decode cd_M_leads 12 = .ok (.iload_n 3, 1) := by decide +kernel
theorem dd_M_leads_13 : decode cd_M_leads 13 = .ok (.iload_n 2, 1) := by decide +kernel
theorem dd_M_leads_14 : decode cd_M_leads 14 = .ok (.if_icmp .ne 5, 3) := by decide +kernel
theorem dd_M_leads_17 : decode cd_M_leads 17 = .ok (.iconst 1, 1) := by decide +kernel
theorem dd_M_leads_18 : decode cd_M_leads 18 = .ok (.ireturn, 1) := by decide +kernel
theorem dd_M_leads_19 : decode cd_M_leads 19 = .ok (.iload_n 3, 1) := by decide +kernel
theorem dd_M_leads_20 : decode cd_M_leads 20 = .ok (.iconst 3, 1) := by decide +kernel
theorem dd_M_leads_21 : decode cd_M_leads 21 = .ok (.if_icmp .ge 5, 3) := by decide +kernel
theorem dd_M_leads_24 : decode cd_M_leads 24 = .ok (.iconst 0, 1) := by decide +kernel
theorem dd_M_leads_25 : decode cd_M_leads 25 = .ok (.ireturn, 1) := by decide +kernel
theorem dd_M_leads_26 : decode cd_M_leads 26 = .ok (.aload_n 0, 1) := by decide +kernel
theorem dd_M_leads_27 : decode cd_M_leads 27 = .ok (.getfield 13, 3) := by decide +kernel
theorem dd_M_leads_30 : decode cd_M_leads 30 = .ok (.iload_n 3, 1) := by decide +kernel
theorem dd_M_leads_31 : decode cd_M_leads 31 = .ok (.iaload, 1) := by decide +kernel
theorem dd_M_leads_32 : decode cd_M_leads 32 = .ok (.istore_n 3, 1) := by decide +kernel
theorem dd_M_leads_33 : decode cd_M_leads 33 = .ok (.iinc 4 1, 3) := by decide +kernel
theorem dd_M_leads_36 : decode cd_M_leads 36 = .ok (.goto (-31), 3) := by decide +kernel
theorem dd_M_leads_39 : decode cd_M_leads 39 = .ok (.iconst 0, 1) := by decide +kernel
theorem dd_M_leads_40 : decode cd_M_leads 40 = .ok (.ireturn, 1) := by decide +kernel
theorem dd_M_root_0 : decode cd_M_root 0 = .ok (.aload_n 0, 1) := by decide +kernel
theorem dd_M_root_1 : decode cd_M_root 1 = .ok (.iload_n 1, 1) := by decide +kernel
theorem dd_M_root_2 : decode cd_M_root 2 = .ok (.iconst 0, 1) := by decide +kernel
theorem dd_M_root_3 : decode cd_M_root 3 = .ok (.invokevirtual 64, 3) := by decide +kernel
theorem dd_M_root_6 : decode cd_M_root 6 = .ok (.ifCond .eq 7, 3) := by decide +kernel
theorem dd_M_root_9 : decode cd_M_root 9 = .ok (.iconst 0, 1) := by decide +kernel
theorem dd_M_root_10 : decode cd_M_root 10 = .ok (.goto 17, 3) := by decide +kernel
theorem dd_M_root_13 : decode cd_M_root 13 = .ok (.aload_n 0, 1) := by decide +kernel
theorem dd_M_root_14 : decode cd_M_root 14 = .ok (.iload_n 1, 1) := by decide +kernel
theorem dd_M_root_15 : decode cd_M_root 15 = .ok (.iconst 1, 1) := by decide +kernel
theorem dd_M_root_16 : decode cd_M_root 16 = .ok (.invokevirtual 64, 3) := by decide +kernel
theorem dd_M_root_19 : decode cd_M_root 19 = .ok (.ifCond .eq 7, 3) := by decide +kernel
theorem dd_M_root_22 : decode cd_M_root 22 = .ok (.iconst 1, 1) := by decide +kernel
theorem dd_M_root_23 : decode cd_M_root 23 = .ok (.goto 4, 3) := by decide +kernel
theorem dd_M_root_26 : decode cd_M_root 26 = .ok (.iconst 2, 1) := by decide +kernel
theorem dd_M_root_27 : decode cd_M_root 27 = .ok (.ireturn, 1) := by decide +kernel
theorem dd_M_live_0 : decode cd_M_live 0 = .ok (.aload_n 0, 1) := by decide +kernel
theorem dd_M_live_1 : decode cd_M_live 1 = .ok (.getfield 29, 3) := by decide +kernel
theorem dd_M_live_4 : decode cd_M_live 4 = .ok (.iload_n 1, 1) := by decide +kernel
theorem dd_M_live_5 : decode cd_M_live 5 = .ok (.iaload, 1) := by decide +kernel
theorem dd_M_live_6 : decode cd_M_live 6 = .ok (.iconst 3, 1) := by decide +kernel
theorem dd_M_live_7 : decode cd_M_live 7 = .ok (.if_icmp .eq 13, 3) := by decide +kernel
theorem dd_M_live_10 : decode cd_M_live 10 = .ok (.aload_n 0, 1) := by decide +kernel
theorem dd_M_live_11 : decode cd_M_live 11 = .ok (.getfield 29, 3) := by decide +kernel
theorem dd_M_live_14 : decode cd_M_live 14 = .ok (.iload_n 1, 1) := by decide +kernel
theorem dd_M_live_15 : decode cd_M_live 15 = .ok (.iaload, 1) := by decide +kernel
theorem dd_M_live_16 : decode cd_M_live 16 = .ok (.iconst 4, 1) := by decide +kernel
theorem dd_M_live_17 : decode cd_M_live 17 = .ok (.if_icmp .ne 7, 3) := by decide +kernel
theorem dd_M_live_20 : decode cd_M_live 20 = .ok (.iconst 1, 1) := by decide +kernel
theorem dd_M_live_21 : decode cd_M_live 21 = .ok (.goto 4, 3) := by decide +kernel
theorem dd_M_live_24 : decode cd_M_live 24 = .ok (.iconst 0, 1) := by decide +kernel
theorem dd_M_live_25 : decode cd_M_live 25 = .ok (.ireturn, 1) := by decide +kernel
theorem dd_M_passing_0 : decode cd_M_passing 0 = .ok (.iconst 0, 1) := by decide +kernel
theorem dd_M_passing_1 : decode cd_M_passing 1 = .ok (.istore_n 2, 1) := by decide +kernel
theorem dd_M_passing_2 : decode cd_M_passing 2 = .ok (.iconst 0, 1) := by decide +kernel
theorem dd_M_passing_3 : decode cd_M_passing 3 = .ok (.istore_n 3, 1) := by decide +kernel
theorem dd_M_passing_4 : decode cd_M_passing 4 = .ok (.iload_n 3, 1) := by decide +kernel
theorem dd_M_passing_5 : decode cd_M_passing 5 = .ok (.aload_n 0, 1) := by decide +kernel
theorem dd_M_passing_6 : decode cd_M_passing 6 = .ok (.getfield 61, 3) := by decide +kernel
theorem dd_M_passing_9 : decode cd_M_passing 9 = .ok (.if_icmp .ge 35, 3) := by decide +kernel
theorem dd_M_passing_12 : decode cd_M_passing 12 = .ok (.aload_n 0, 1) := by decide +kernel
theorem dd_M_passing_13 : decode cd_M_passing 13 = .ok (.iload_n 3, 1) := by decide +kernel
theorem dd_M_passing_14 : decode cd_M_passing 14 = .ok (.invokevirtual 68, 3) := by decide +kernel
theorem dd_M_passing_17 : decode cd_M_passing 17 = .ok (.ifCond .eq 21, 3) := by decide +kernel
theorem dd_M_passing_20 : decode cd_M_passing 20 = .ok (.aload_n 0, 1) := by decide +kernel
theorem dd_M_passing_21 : decode cd_M_passing 21 = .ok (.aload_n 0, 1) := by decide +kernel
theorem dd_M_passing_22 : decode cd_M_passing 22 = .ok (.getfield 26, 3) := by decide +kernel
theorem dd_M_passing_25 : decode cd_M_passing 25 = .ok (.iload_n 3, 1) := by decide +kernel
theorem dd_M_passing_26 : decode cd_M_passing 26 = .ok (.iaload, 1) := by decide +kernel
theorem dd_M_passing_27 : decode cd_M_passing 27 = .ok (.iload_n 1, 1) := by decide +kernel
theorem dd_M_passing_28 : decode cd_M_passing 28 = .ok (.invokevirtual 64, 3) := by decide +kernel
theorem dd_M_passing_31 : decode cd_M_passing 31 = .ok (.ifCond .eq 7, 3) := by decide +kernel
theorem dd_M_passing_34 : decode cd_M_passing 34 = .ok (.iload_n 2, 1) := by decide +kernel
theorem dd_M_passing_35 : decode cd_M_passing 35 = .ok (.iconst 1, 1) := by decide +kernel
theorem dd_M_passing_36 : decode cd_M_passing 36 = .ok (.iadd, 1) := by decide +kernel
theorem dd_M_passing_37 : decode cd_M_passing 37 = .ok (.istore_n 2, 1) := by decide +kernel
theorem dd_M_passing_38 : decode cd_M_passing 38 = .ok (.iinc 3 1, 3) := by decide +kernel
theorem dd_M_passing_41 : decode cd_M_passing 41 = .ok (.goto (-37), 3) := by decide +kernel
theorem dd_M_passing_44 : decode cd_M_passing 44 = .ok (.iload_n 2, 1) := by decide +kernel
theorem dd_M_passing_45 : decode cd_M_passing 45 = .ok (.ireturn, 1) := by decide +kernel
theorem dd_M_workersInUse_0 : decode cd_M_workersInUse 0 = .ok (.iconst 0, 1) := by decide +kernel
theorem dd_M_workersInUse_1 : decode cd_M_workersInUse 1 = .ok (.istore_n 1, 1) := by decide +kernel
theorem dd_M_workersInUse_2 : decode cd_M_workersInUse 2 = .ok (.iconst 0, 1) := by decide +kernel
theorem dd_M_workersInUse_3 : decode cd_M_workersInUse 3 = .ok (.istore_n 2, 1) := by decide +kernel
theorem dd_M_workersInUse_4 : decode cd_M_workersInUse 4 = .ok (.iload_n 2, 1) := by decide +kernel
theorem dd_M_workersInUse_5 : decode cd_M_workersInUse 5 = .ok (.aload_n 0, 1) := by decide +kernel
theorem dd_M_workersInUse_6 : decode cd_M_workersInUse 6 = .ok (.getfield 61, 3) := by decide +kernel
theorem dd_M_workersInUse_9 : decode cd_M_workersInUse 9 = .ok (.if_icmp .ge 30, 3) := by decide +kernel
theorem dd_M_workersInUse_12 : decode cd_M_workersInUse 12 = .ok (.aload_n 0, 1) := by decide +kernel
theorem dd_M_workersInUse_13 : decode cd_M_workersInUse 13 = .ok (.iload_n 2, 1) := by decide +kernel
theorem dd_M_workersInUse_14 : decode cd_M_workersInUse 14 = .ok (.invokevirtual 68, 3) := by decide +kernel
theorem dd_M_workersInUse_17 : decode cd_M_workersInUse 17 = .ok (.ifCond .eq 16, 3) := by decide +kernel
theorem dd_M_workersInUse_20 : decode cd_M_workersInUse 20 = .ok (.aload_n 0, 1) := by decide +kernel
theorem dd_M_workersInUse_21 : decode cd_M_workersInUse 21 = .ok (.getfield 32, 3) := by decide +kernel
theorem dd_M_workersInUse_24 : decode cd_M_workersInUse 24 = .ok (.iload_n 2, 1) := by decide +kernel
theorem dd_M_workersInUse_25 : decode cd_M_workersInUse 25 = .ok (.iaload, 1) := by decide +kernel
theorem dd_M_workersInUse_26 : decode cd_M_workersInUse 26 = .ok (.ifCond .ge 7, 3) := by decide +kernel
theorem dd_M_workersInUse_29 : decode cd_M_workersInUse 29 = .ok (.iload_n 1, 1) := by decide +kernel
theorem dd_M_workersInUse_30 : decode cd_M_workersInUse 30 = .ok (.iconst 1, 1) := by decide +kernel
theorem dd_M_workersInUse_31 : decode cd_M_workersInUse 31 = .ok (.iadd, 1) := by decide +kernel
theorem dd_M_workersInUse_32 : decode cd_M_workersInUse 32 = .ok (.istore_n 1, 1) := by decide +kernel
theorem dd_M_workersInUse_33 : decode cd_M_workersInUse 33 = .ok (.iinc 2 1, 3) := by decide +kernel
theorem dd_M_workersInUse_36 : decode cd_M_workersInUse 36 = .ok (.goto (-32), 3) := by decide +kernel
theorem dd_M_workersInUse_39 : decode cd_M_workersInUse 39 = .ok (.iload_n 1, 1) := by decide +kernel
theorem dd_M_workersInUse_40 : decode cd_M_workersInUse 40 = .ok (.ireturn, 1) := by decide +kernel
theorem dd_M_oldest_0 : decode cd_M_oldest 0 = .ok (.iconst (-1), 1) := by decide +kernel
theorem dd_M_oldest_1 : decode cd_M_oldest 1 = .ok (.istore_n 2, 1) := by decide +kernel
theorem dd_M_oldest_2 : decode cd_M_oldest 2 = .ok (.iconst 0, 1) := by decide +kernel
theorem dd_M_oldest_3 : decode cd_M_oldest 3 = .ok (.istore_n 3, 1) := by decide +kernel
theorem dd_M_oldest_4 : decode cd_M_oldest 4 = .ok (.iload_n 3, 1) := by decide +kernel
theorem dd_M_oldest_5 : decode cd_M_oldest 5 = .ok (.aload_n 0, 1) := by decide +kernel
theorem dd_M_oldest_6 : decode cd_M_oldest 6 = .ok (.getfield 61, 3) := by decide +kernel
theorem dd_M_oldest_9 : decode cd_M_oldest 9 = .ok (.if_icmp .ge 50, 3) := by decide +kernel
theorem dd_M_oldest_12 : decode cd_M_oldest 12 = .ok (.aload_n 0, 1) := by decide +kernel
theorem dd_M_oldest_13 : decode cd_M_oldest 13 = .ok (.getfield 29, 3) := by decide +kernel
theorem dd_M_oldest_16 : decode cd_M_oldest 16 = .ok (.iload_n 3, 1) := by decide +kernel
theorem dd_M_oldest_17 : decode cd_M_oldest 17 = .ok (.iaload, 1) := by decide +kernel
theorem dd_M_oldest_18 : decode cd_M_oldest 18 = .ok (.iconst 2, 1) := by decide +kernel
theorem dd_M_oldest_19 : decode cd_M_oldest 19 = .ok (.if_icmp .ne 34, 3) := by decide +kernel
theorem dd_M_oldest_22 : decode cd_M_oldest 22 = .ok (.aload_n 0, 1) := by decide +kernel
theorem dd_M_oldest_23 : decode cd_M_oldest 23 = .ok (.getfield 26, 3) := by decide +kernel
theorem dd_M_oldest_26 : decode cd_M_oldest 26 = .ok (.iload_n 3, 1) := by decide +kernel
theorem dd_M_oldest_27 : decode cd_M_oldest 27 = .ok (.iaload, 1) := by decide +kernel
theorem dd_M_oldest_28 : decode cd_M_oldest 28 = .ok (.iload_n 1, 1) := by decide +kernel
theorem dd_M_oldest_29 : decode cd_M_oldest 29 = .ok (.if_icmp .ne 24, 3) := by decide +kernel
theorem dd_M_oldest_32 : decode cd_M_oldest 32 = .ok (.iload_n 2, 1) := by decide +kernel
theorem dd_M_oldest_33 : decode cd_M_oldest 33 = .ok (.ifCond .lt 18, 3) := by decide +kernel
theorem dd_M_oldest_36 : decode cd_M_oldest 36 = .ok (.aload_n 0, 1) := by decide +kernel
theorem dd_M_oldest_37 : decode cd_M_oldest 37 = .ok (.getfield 41, 3) := by decide +kernel
theorem dd_M_oldest_40 : decode cd_M_oldest 40 = .ok (.iload_n 3, 1) := by decide +kernel
theorem dd_M_oldest_41 : decode cd_M_oldest 41 = .ok (.iaload, 1) := by decide +kernel
theorem dd_M_oldest_42 : decode cd_M_oldest 42 = .ok (.aload_n 0, 1) := by decide +kernel
theorem dd_M_oldest_43 : decode cd_M_oldest 43 = .ok (.getfield 41, 3) := by decide +kernel
theorem dd_M_oldest_46 : decode cd_M_oldest 46 = .ok (.iload_n 2, 1) := by decide +kernel
theorem dd_M_oldest_47 : decode cd_M_oldest 47 = .ok (.iaload, 1) := by decide +kernel
theorem dd_M_oldest_48 : decode cd_M_oldest 48 = .ok (.if_icmp .ge 5, 3) := by decide +kernel
theorem dd_M_oldest_51 : decode cd_M_oldest 51 = .ok (.iload_n 3, 1) := by decide +kernel
theorem dd_M_oldest_52 : decode cd_M_oldest 52 = .ok (.istore_n 2, 1) := by decide +kernel
theorem dd_M_oldest_53 : decode cd_M_oldest 53 = .ok (.iinc 3 1, 3) := by decide +kernel
theorem dd_M_oldest_56 : decode cd_M_oldest 56 = .ok (.goto (-52), 3) := by decide +kernel
theorem dd_M_oldest_59 : decode cd_M_oldest 59 = .ok (.iload_n 2, 1) := by decide +kernel
theorem dd_M_oldest_60 : decode cd_M_oldest 60 = .ok (.ireturn, 1) := by decide +kernel
theorem dd_M_barrierRuns_0 : decode cd_M_barrierRuns 0 = .ok (.iconst 0, 1) := by decide +kernel
theorem dd_M_barrierRuns_1 : decode cd_M_barrierRuns 1 = .ok (.istore_n 2, 1) := by decide +kernel
theorem dd_M_barrierRuns_2 : decode cd_M_barrierRuns 2 = .ok (.iload_n 2, 1) := by decide +kernel
theorem dd_M_barrierRuns_3 : decode cd_M_barrierRuns 3 = .ok (.aload_n 0, 1) := by decide +kernel
theorem dd_M_barrierRuns_4 : decode cd_M_barrierRuns 4 = .ok (.getfield 61, 3) := by decide +kernel
theorem dd_M_barrierRuns_7 : decode cd_M_barrierRuns 7 = .ok (.if_icmp .ge 38, 3) := by decide +kernel
theorem dd_M_barrierRuns_10 : decode cd_M_barrierRuns 10 = .ok (.aload_n 0, 1) := by decide +kernel
theorem dd_M_barrierRuns_11 : decode cd_M_barrierRuns 11 = .ok (.iload_n 2, 1) := by decide +kernel
theorem dd_M_barrierRuns_12 : decode cd_M_barrierRuns 12 = .ok (.invokevirtual 68, 3) := by decide +kernel
theorem dd_M_barrierRuns_15 : decode cd_M_barrierRuns 15 = .ok (.ifCond .eq 24, 3) := by decide +kernel
theorem dd_M_barrierRuns_18 : decode cd_M_barrierRuns 18 = .ok (.aload_n 0, 1) := by decide +kernel
theorem dd_M_barrierRuns_19 : decode cd_M_barrierRuns 19 = .ok (.getfield 48, 3) := by decide +kernel
theorem dd_M_barrierRuns_22 : decode cd_M_barrierRuns 22 = .ok (.iload_n 2, 1) := by decide +kernel
theorem dd_M_barrierRuns_23 : decode cd_M_barrierRuns 23 = .ok (.baload, 1) := by decide +kernel
theorem dd_M_barrierRuns_24 : decode cd_M_barrierRuns 24 = .ok (.ifCond .eq 15, 3) := by decide +kernel
theorem dd_M_barrierRuns_27 : decode cd_M_barrierRuns 27 = .ok (.aload_n 0, 1) := by decide +kernel
theorem dd_M_barrierRuns_28 : decode cd_M_barrierRuns 28 = .ok (.getfield 26, 3) := by decide +kernel
theorem dd_M_barrierRuns_31 : decode cd_M_barrierRuns 31 = .ok (.iload_n 2, 1) := by decide +kernel
theorem dd_M_barrierRuns_32 : decode cd_M_barrierRuns 32 = .ok (.iaload, 1) := by decide +kernel
theorem dd_M_barrierRuns_33 : decode cd_M_barrierRuns 33 = .ok (.iload_n 1, 1) := by decide +kernel
theorem dd_M_barrierRuns_34 : decode cd_M_barrierRuns 34 = .ok (.if_icmp .ne 5, 3) := by decide +kernel
theorem dd_M_barrierRuns_37 : decode cd_M_barrierRuns 37 = .ok (.iconst 1, 1) := by decide +kernel
theorem dd_M_barrierRuns_38 : decode cd_M_barrierRuns 38 = .ok (.ireturn, 1) := by decide +kernel
theorem dd_M_barrierRuns_39 : decode cd_M_barrierRuns 39 = .ok (.iinc 2 1, 3) := by decide +kernel
theorem dd_M_barrierRuns_42 : decode cd_M_barrierRuns 42 = .ok (.goto (-40), 3) := by decide +kernel
theorem dd_M_barrierRuns_45 : decode cd_M_barrierRuns 45 = .ok (.iconst 0, 1) := by decide +kernel
theorem dd_M_barrierRuns_46 : decode cd_M_barrierRuns 46 = .ok (.ireturn, 1) := by decide +kernel
theorem dd_M_lets_0 : decode cd_M_lets 0 = .ok (.iload_n 1, 1) := by decide +kernel
theorem dd_M_lets_1 : decode cd_M_lets 1 = .ok (.iconst 3, 1) := by decide +kernel
theorem dd_M_lets_2 : decode cd_M_lets 2 = .ok (.if_icmp .lt 28, 3) := by decide +kernel
theorem dd_M_lets_5 : decode cd_M_lets 5 = .ok (.aload_n 0, 1) := by decide +kernel
theorem dd_M_lets_6 : decode cd_M_lets 6 = .ok (.getfield 20, 3) := by decide +kernel
theorem dd_M_lets_9 : decode cd_M_lets 9 = .ok (.iload_n 1, 1) := by decide +kernel
theorem dd_M_lets_10 : decode cd_M_lets 10 = .ok (.iaload, 1) := by decide +kernel
theorem dd_M_lets_11 : decode cd_M_lets 11 = .ok (.ifCond .gt 17, 3) := by decide +kernel
theorem dd_M_lets_14 : decode cd_M_lets 14 = .ok (.aload_n 0, 1) := by decide +kernel
theorem dd_M_lets_15 : decode cd_M_lets 15 = .ok (.iload_n 1, 1) := by decide +kernel
theorem dd_M_lets_16 : decode cd_M_lets 16 = .ok (.invokevirtual 72, 3) := by decide +kernel
theorem dd_M_lets_19 : decode cd_M_lets 19 = .ok (.aload_n 0, 1) := by decide +kernel
theorem dd_M_lets_20 : decode cd_M_lets 20 = .ok (.getfield 17, 3) := by decide +kernel
theorem dd_M_lets_23 : decode cd_M_lets 23 = .ok (.iload_n 1, 1) := by decide +kernel
theorem dd_M_lets_24 : decode cd_M_lets 24 = .ok (.iaload, 1) := by decide +kernel
theorem dd_M_lets_25 : decode cd_M_lets 25 = .ok (.if_icmp .lt 5, 3) := by decide +kernel
theorem dd_M_lets_28 : decode cd_M_lets 28 = .ok (.iconst 0, 1) := by decide +kernel
theorem dd_M_lets_29 : decode cd_M_lets 29 = .ok (.ireturn, 1) := by decide +kernel
theorem dd_M_lets_30 : decode cd_M_lets 30 = .ok (.aload_n 0, 1) := by decide +kernel
theorem dd_M_lets_31 : decode cd_M_lets 31 = .ok (.iload_n 1, 1) := by decide +kernel
theorem dd_M_lets_32 : decode cd_M_lets 32 = .ok (.invokevirtual 76, 3) := by decide +kernel
theorem dd_M_lets_35 : decode cd_M_lets 35 = .ok (.ifCond .eq 5, 3) := by decide +kernel
theorem dd_M_lets_38 : decode cd_M_lets 38 = .ok (.iconst 0, 1) := by decide +kernel
theorem dd_M_lets_39 : decode cd_M_lets 39 = .ok (.ireturn, 1) := by decide +kernel
theorem dd_M_lets_40 : decode cd_M_lets 40 = .ok (.iload_n 1, 1) := by decide +kernel
theorem dd_M_lets_41 : decode cd_M_lets 41 = .ok (.aload_n 0, 1) := by decide +kernel
theorem dd_M_lets_42 : decode cd_M_lets 42 = .ok (.getfield 26, 3) := by decide +kernel
theorem dd_M_lets_45 : decode cd_M_lets 45 = .ok (.iload_n 2, 1) := by decide +kernel
theorem dd_M_lets_46 : decode cd_M_lets 46 = .ok (.iaload, 1) := by decide +kernel
theorem dd_M_lets_47 : decode cd_M_lets 47 = .ok (.if_icmp .ne 7, 3) := by decide +kernel
theorem dd_M_lets_50 : decode cd_M_lets 50 = .ok (.iconst (-1), 1) := by decide +kernel
theorem dd_M_lets_51 : decode cd_M_lets 51 = .ok (.goto 8, 3) := by decide +kernel
theorem dd_M_lets_54 : decode cd_M_lets 54 = .ok (.aload_n 0, 1) := by decide +kernel
theorem dd_M_lets_55 : decode cd_M_lets 55 = .ok (.iload_n 1, 1) := by decide +kernel
theorem dd_M_lets_56 : decode cd_M_lets 56 = .ok (.invokevirtual 79, 3) := by decide +kernel
theorem dd_M_lets_59 : decode cd_M_lets 59 = .ok (.istore_n 3, 1) := by decide +kernel
theorem dd_M_lets_60 : decode cd_M_lets 60 = .ok (.iload_n 3, 1) := by decide +kernel
theorem dd_M_lets_61 : decode cd_M_lets 61 = .ok (.ifCond .lt 12, 3) := by decide +kernel
theorem dd_M_lets_64 : decode cd_M_lets 64 = .ok (.aload_n 0, 1) := by decide +kernel
theorem dd_M_lets_65 : decode cd_M_lets 65 = .ok (.getfield 48, 3) := by decide +kernel
theorem dd_M_lets_68 : decode cd_M_lets 68 = .ok (.iload_n 3, 1) := by decide +kernel
theorem dd_M_lets_69 : decode cd_M_lets 69 = .ok (.baload, 1) := by decide +kernel
theorem dd_M_lets_70 : decode cd_M_lets 70 = .ok (.ifCond .ne 7, 3) := by decide +kernel
theorem dd_M_lets_73 : decode cd_M_lets 73 = .ok (.iconst 1, 1) := by decide +kernel
theorem dd_M_lets_74 : decode cd_M_lets 74 = .ok (.goto 4, 3) := by decide +kernel
theorem dd_M_lets_77 : decode cd_M_lets 77 = .ok (.iconst 0, 1) := by decide +kernel
theorem dd_M_lets_78 : decode cd_M_lets 78 = .ok (.ireturn, 1) := by decide +kernel
theorem dd_M_mayStart_0 : decode cd_M_mayStart 0 = .ok (.aload_n 0, 1) := by decide +kernel
theorem dd_M_mayStart_1 : decode cd_M_mayStart 1 = .ok (.getfield 29, 3) := by decide +kernel
theorem dd_M_mayStart_4 : decode cd_M_mayStart 4 = .ok (.iload_n 1, 1) := by decide +kernel
theorem dd_M_mayStart_5 : decode cd_M_mayStart 5 = .ok (.iaload, 1) := by decide +kernel
theorem dd_M_mayStart_6 : decode cd_M_mayStart 6 = .ok (.iconst 2, 1) := by decide +kernel
theorem dd_M_mayStart_7 : decode cd_M_mayStart 7 = .ok (.if_icmp .ne 17, 3) := by decide +kernel
theorem dd_M_mayStart_10 : decode cd_M_mayStart 10 = .ok (.aload_n 0, 1) := by decide +kernel
theorem dd_M_mayStart_11 : decode cd_M_mayStart 11 = .ok (.aload_n 0, 1) := by decide +kernel
theorem dd_M_mayStart_12 : decode cd_M_mayStart 12 = .ok (.getfield 26, 3) := by decide +kernel
theorem dd_M_mayStart_15 : decode cd_M_mayStart 15 = .ok (.iload_n 1, 1) := by decide +kernel
theorem dd_M_mayStart_16 : decode cd_M_mayStart 16 = .ok (.iaload, 1) := by decide +kernel
