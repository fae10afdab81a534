/-! Part 02: decode rows of the class. -/
theorem dd_D_init_0 : decode cd_D_init 0 = .ok (.aload_n 0, 1) := by decide +kernel
theorem dd_D_init_1 : decode cd_D_init 1 = .ok (.invokespecial 1, 3) := by decide +kernel
theorem dd_D_init_4 : decode cd_D_init 4 = .ok (.aload_n 0, 1) := by decide +kernel
theorem dd_D_init_5 : decode cd_D_init 5 = .ok (.iconst 1, 1) := by decide +kernel
theorem dd_D_init_6 : decode cd_D_init 6 = .ok (.bipush 8, 2) := by decide +kernel
theorem dd_D_init_8 : decode cd_D_init 8 = .ok (.iload_n 1, 1) := by decide +kernel
theorem dd_D_init_9 : decode cd_D_init 9 = .ok (.invokestatic 9, 3) := by decide +kernel
theorem dd_D_init_12 : decode cd_D_init 12 = .ok (.invokestatic 15, 3) := by decide +kernel
theorem dd_D_init_15 : decode cd_D_init 15 = .ok (.putfield 18, 3) := by decide +kernel
theorem dd_D_init_18 : decode cd_D_init 18 = .ok (.aload_n 0, 1) := by decide +kernel
theorem dd_D_init_19 : decode cd_D_init 19 = .ok (.bipush 12, 2) := by decide +kernel
theorem dd_D_init_21 : decode cd_D_init 21 = .ok (.anewarray 22, 3) := by decide +kernel
theorem dd_D_init_24 : decode cd_D_init 24 = .ok (.putfield 24, 3) := by decide +kernel
theorem dd_D_init_27 : decode cd_D_init 27 = .ok (.aload_n 0, 1) := by decide +kernel
theorem dd_D_init_28 : decode cd_D_init 28 = .ok (.sipush 160, 3) := by decide +kernel
theorem dd_D_init_31 : decode cd_D_init 31 = .ok (.anewarray 28, 3) := by decide +kernel
theorem dd_D_init_34 : decode cd_D_init 34 = .ok (.putfield 30, 3) := by decide +kernel
theorem dd_D_init_37 : decode cd_D_init 37 = .ok (.aload_n 0, 1) := by decide +kernel
theorem dd_D_init_38 : decode cd_D_init 38 = .ok (.iconst 4, 1) := by decide +kernel
theorem dd_D_init_39 : decode cd_D_init 39 = .ok (.anewarray 34, 3) := by decide +kernel
theorem dd_D_init_42 : decode cd_D_init 42 = .ok (.putfield 36, 3) := by decide +kernel
theorem dd_D_init_45 : decode cd_D_init 45 = .ok (.iconst 0, 1) := by decide +kernel
theorem dd_D_init_46 : decode cd_D_init 46 = .ok (.istore_n 2, 1) := by decide +kernel
theorem dd_D_init_47 : decode cd_D_init 47 = .ok (.iload_n 2, 1) := by decide +kernel
theorem dd_D_init_48 : decode cd_D_init 48 = .ok (.iconst 3, 1) := by decide +kernel
theorem dd_D_init_49 : decode cd_D_init 49 = .ok (.if_icmp .ge 25, 3) := by decide +kernel
theorem dd_D_init_52 : decode cd_D_init 52 = .ok (.aload_n 0, 1) := by decide +kernel
theorem dd_D_init_53 : decode cd_D_init 53 = .ok (.getfield 24, 3) := by decide +kernel
theorem dd_D_init_56 : decode cd_D_init 56 = .ok (.iload_n 2, 1) := by decide +kernel
theorem dd_D_init_57 : decode cd_D_init 57 = .ok (.new 22, 3) := by decide +kernel
theorem dd_D_init_60 : decode cd_D_init 60 = .ok (.dup, 1) := by decide +kernel
theorem dd_D_init_61 : decode cd_D_init 61 = .ok (.iload_n 2, 1) := by decide +kernel
theorem dd_D_init_62 : decode cd_D_init 62 = .ok (.aconst_null, 1) := by decide +kernel
theorem dd_D_init_63 : decode cd_D_init 63 = .ok (.iconst 0, 1) := by decide +kernel
theorem dd_D_init_64 : decode cd_D_init 64 = .ok (.invokespecial 40, 3) := by decide +kernel
theorem dd_D_init_67 : decode cd_D_init 67 = .ok (.aastore, 1) := by decide +kernel
theorem dd_D_init_68 : decode cd_D_init 68 = .ok (.iinc 2 1, 3) := by decide +kernel
theorem dd_D_init_71 : decode cd_D_init 71 = .ok (.goto (-24), 3) := by decide +kernel
theorem dd_D_init_74 : decode cd_D_init 74 = .ok (.aload_n 0, 1) := by decide +kernel
theorem dd_D_init_75 : decode cd_D_init 75 = .ok (.iconst 3, 1) := by decide +kernel
theorem dd_D_init_76 : decode cd_D_init 76 = .ok (.putfield 43, 3) := by decide +kernel
theorem dd_D_init_79 : decode cd_D_init 79 = .ok (.iconst 0, 1) := by decide +kernel
theorem dd_D_init_80 : decode cd_D_init 80 = .ok (.istore_n 2, 1) := by decide +kernel
theorem dd_D_init_81 : decode cd_D_init 81 = .ok (.iload_n 2, 1) := by decide +kernel
theorem dd_D_init_82 : decode cd_D_init 82 = .ok (.iconst 4, 1) := by decide +kernel
theorem dd_D_init_83 : decode cd_D_init 83 = .ok (.if_icmp .ge 22, 3) := by decide +kernel
theorem dd_D_init_86 : decode cd_D_init 86 = .ok (.aload_n 0, 1) := by decide +kernel
theorem dd_D_init_87 : decode cd_D_init 87 = .ok (.getfield 36, 3) := by decide +kernel
theorem dd_D_init_90 : decode cd_D_init 90 = .ok (.iload_n 2, 1) := by decide +kernel
theorem dd_D_init_91 : decode cd_D_init 91 = .ok (.new 34, 3) := by decide +kernel
theorem dd_D_init_94 : decode cd_D_init 94 = .ok (.dup, 1) := by decide +kernel
theorem dd_D_init_95 : decode cd_D_init 95 = .ok (.invokespecial 46, 3) := by decide +kernel
theorem dd_D_init_98 : decode cd_D_init 98 = .ok (.aastore, 1) := by decide +kernel
theorem dd_D_init_99 : decode cd_D_init 99 = .ok (.iinc 2 1, 3) := by decide +kernel
theorem dd_D_init_102 : decode cd_D_init 102 = .ok (.goto (-21), 3) := by decide +kernel
theorem dd_D_init_105 : decode cd_D_init 105 = .ok (.return_, 1) := by decide +kernel
theorem dd_D_queue_0 : decode cd_D_queue 0 = .ok (.aload_n 0, 1) := by decide +kernel
theorem dd_D_queue_1 : decode cd_D_queue 1 = .ok (.iload_n 1, 1) := by decide +kernel
theorem dd_D_queue_2 : decode cd_D_queue 2 = .ok (.invokevirtual 47, 3) := by decide +kernel
theorem dd_D_queue_5 : decode cd_D_queue 5 = .ok (.astore_n 3, 1) := by decide +kernel
theorem dd_D_queue_6 : decode cd_D_queue 6 = .ok (.aload_n 3, 1) := by decide +kernel
theorem dd_D_queue_7 : decode cd_D_queue 7 = .ok (.ifnonnull 5, 3) := by decide +kernel
theorem dd_D_queue_10 : decode cd_D_queue 10 = .ok (.iconst (-1), 1) := by decide +kernel
theorem dd_D_queue_11 : decode cd_D_queue 11 = .ok (.ireturn, 1) := by decide +kernel
theorem dd_D_queue_12 : decode cd_D_queue 12 = .ok (.iload_n 2, 1) := by decide +kernel
theorem dd_D_queue_13 : decode cd_D_queue 13 = .ok (.iconst 1, 1) := by decide +kernel
theorem dd_D_queue_14 : decode cd_D_queue 14 = .ok (.if_icmp .lt 9, 3) := by decide +kernel
theorem dd_D_queue_17 : decode cd_D_queue 17 = .ok (.iload_n 2, 1) := by decide +kernel
theorem dd_D_queue_18 : decode cd_D_queue 18 = .ok (.bipush 8, 2) := by decide +kernel
theorem dd_D_queue_20 : decode cd_D_queue 20 = .ok (.if_icmp .le 6, 3) := by decide +kernel
theorem dd_D_queue_23 : decode cd_D_queue 23 = .ok (.bipush (-9), 2) := by decide +kernel
theorem dd_D_queue_25 : decode cd_D_queue 25 = .ok (.ireturn, 1) := by decide +kernel
theorem dd_D_queue_26 : decode cd_D_queue 26 = .ok (.aload_n 0, 1) := by decide +kernel
theorem dd_D_queue_27 : decode cd_D_queue 27 = .ok (.getfield 43, 3) := by decide +kernel
theorem dd_D_queue_30 : decode cd_D_queue 30 = .ok (.bipush 12, 2) := by decide +kernel
theorem dd_D_queue_32 : decode cd_D_queue 32 = .ok (.if_icmp .lt 6, 3) := by decide +kernel
theorem dd_D_queue_35 : decode cd_D_queue 35 = .ok (.bipush (-4), 2) := by decide +kernel
theorem dd_D_queue_37 : decode cd_D_queue 37 = .ok (.ireturn, 1) := by decide +kernel
theorem dd_D_queue_38 : decode cd_D_queue 38 = .ok (.aload_n 0, 1) := by decide +kernel
theorem dd_D_queue_39 : decode cd_D_queue 39 = .ok (.getfield 43, 3) := by decide +kernel
theorem dd_D_queue_42 : decode cd_D_queue 42 = .ok (.istore 4, 2) := by decide +kernel
theorem dd_D_queue_44 : decode cd_D_queue 44 = .ok (.aload_n 0, 1) := by decide +kernel
theorem dd_D_queue_45 : decode cd_D_queue 45 = .ok (.getfield 24, 3) := by decide +kernel
theorem dd_D_queue_48 : decode cd_D_queue 48 = .ok (.iload 4, 2) := by decide +kernel
theorem dd_D_queue_50 : decode cd_D_queue 50 = .ok (.new 22, 3) := by decide +kernel
theorem dd_D_queue_53 : decode cd_D_queue 53 = .ok (.dup, 1) := by decide +kernel
theorem dd_D_queue_54 : decode cd_D_queue 54 = .ok (.iload 4, 2) := by decide +kernel
theorem dd_D_queue_56 : decode cd_D_queue 56 = .ok (.aload_n 3, 1) := by decide +kernel
theorem dd_D_queue_57 : decode cd_D_queue 57 = .ok (.iload_n 2, 1) := by decide +kernel
theorem dd_D_queue_58 : decode cd_D_queue 58 = .ok (.invokespecial 40, 3) := by decide +kernel
theorem dd_D_queue_61 : decode cd_D_queue 61 = .ok (.aastore, 1) := by decide +kernel
theorem dd_D_queue_62 : decode cd_D_queue 62 = .ok (.aload_n 0, 1) := by decide +kernel
theorem dd_D_queue_63 : decode cd_D_queue 63 = .ok (.dup, 1) := by decide +kernel
theorem dd_D_queue_64 : decode cd_D_queue 64 = .ok (.getfield 43, 3) := by decide +kernel
theorem dd_D_queue_67 : decode cd_D_queue 67 = .ok (.iconst 1, 1) := by decide +kernel
theorem dd_D_queue_68 : decode cd_D_queue 68 = .ok (.iadd, 1) := by decide +kernel
theorem dd_D_queue_69 : decode cd_D_queue 69 = .ok (.putfield 43, 3) := by decide +kernel
theorem dd_D_queue_72 : decode cd_D_queue 72 = .ok (.iload 4, 2) := by decide +kernel
theorem dd_D_queue_74 : decode cd_D_queue 74 = .ok (.ireturn, 1) := by decide +kernel
theorem dd_D_retarget_0 : decode cd_D_retarget 0 = .ok (.aload_n 0, 1) := by decide +kernel
theorem dd_D_retarget_1 : decode cd_D_retarget 1 = .ok (.iload_n 1, 1) := by decide +kernel
theorem dd_D_retarget_2 : decode cd_D_retarget 2 = .ok (.invokevirtual 47, 3) := by decide +kernel
theorem dd_D_retarget_5 : decode cd_D_retarget 5 = .ok (.astore_n 3, 1) := by decide +kernel
theorem dd_D_retarget_6 : decode cd_D_retarget 6 = .ok (.aload_n 0, 1) := by decide +kernel
theorem dd_D_retarget_7 : decode cd_D_retarget 7 = .ok (.iload_n 2, 1) := by decide +kernel
theorem dd_D_retarget_8 : decode cd_D_retarget 8 = .ok (.invokevirtual 47, 3) := by decide +kernel
theorem dd_D_retarget_11 : decode cd_D_retarget 11 = .ok (.astore 4, 2) := by decide +kernel
theorem dd_D_retarget_13 : decode cd_D_retarget 13 = .ok (.aload_n 3, 1) := by decide +kernel
theorem dd_D_retarget_14 : decode cd_D_retarget 14 = .ok (.ifnull 15, 3) := by decide +kernel
theorem dd_D_retarget_17 : decode cd_D_retarget 17 = .ok (.aload_n 3, 1) := by decide +kernel
theorem dd_D_retarget_18 : decode cd_D_retarget 18 = .ok (.invokevirtual 51, 3) := by decide +kernel
theorem dd_D_retarget_21 : decode cd_D_retarget 21 = .ok (.ifCond .ne 8, 3) := by decide +kernel
theorem dd_D_retarget_24 : decode cd_D_retarget 24 = .ok (.aload 4, 2) := by decide +kernel
theorem dd_D_retarget_26 : decode cd_D_retarget 26 = .ok (.ifnonnull 5, 3) := by decide +kernel
theorem dd_D_retarget_29 : decode cd_D_retarget 29 = .ok (.iconst (-1), 1) := by decide +kernel
theorem dd_D_retarget_30 : decode cd_D_retarget 30 = .ok (.ireturn, 1) := by decide +kernel
theorem dd_D_retarget_31 : decode cd_D_retarget 31 = .ok (.aload 4, 2) := by decide +kernel
theorem dd_D_retarget_33 : decode cd_D_retarget 33 = .ok (.aload_n 3, 1) := by decide +kernel
theorem dd_D_retarget_34 : decode cd_D_retarget 34 = .ok (.invokevirtual 55, 3) := by decide +kernel
theorem dd_D_retarget_37 : decode cd_D_retarget 37 = .ok (.ifCond .eq 6, 3) := by decide +kernel
theorem dd_D_retarget_40 : decode cd_D_retarget 40 = .ok (.bipush (-5), 2) := by decide +kernel
theorem dd_D_retarget_42 : decode cd_D_retarget 42 = .ok (.ireturn, 1) := by decide +kernel
theorem dd_D_retarget_43 : decode cd_D_retarget 43 = .ok (.aload_n 3, 1) := by decide +kernel
theorem dd_D_retarget_44 : decode cd_D_retarget 44 = .ok (.getfield 59, 3) := by decide +kernel
theorem dd_D_retarget_47 : decode cd_D_retarget 47 = .ok (.ifCond .le 6, 3) := by decide +kernel
theorem dd_D_retarget_50 : decode cd_D_retarget 50 = .ok (.bipush (-6), 2) := by decide +kernel
theorem dd_D_retarget_52 : decode cd_D_retarget 52 = .ok (.ireturn, 1) := by decide +kernel
theorem dd_D_retarget_53 : decode cd_D_retarget 53 = .ok (.aload_n 3, 1) := by decide +kernel
theorem dd_D_retarget_54 : decode cd_D_retarget 54 = .ok (.aload 4, 2) := by decide +kernel
theorem dd_D_retarget_56 : decode cd_D_retarget 56 = .ok (.putfield 62, 3) := by decide +kernel
theorem dd_D_retarget_59 : decode cd_D_retarget 59 = .ok (.iconst 0, 1) := by decide +kernel
theorem dd_D_retarget_60 : decode cd_D_retarget 60 = .ok (.ireturn, 1) := by decide +kernel
theorem dd_D_submit_0 : decode cd_D_submit 0 = .ok (.aload_n 0, 1) := by decide +kernel
theorem dd_D_submit_1 : decode cd_D_submit 1 = .ok (.iload_n 1, 1) := by decide +kernel
theorem dd_D_submit_2 : decode cd_D_submit 2 = .ok (.invokevirtual 47, 3) := by decide +kernel
theorem dd_D_submit_5 : decode cd_D_submit 5 = .ok (.astore 4, 2) := by decide +kernel
theorem dd_D_submit_7 : decode cd_D_submit 7 = .ok (.aload 4, 2) := by decide +kernel
theorem dd_D_submit_9 : decode cd_D_submit 9 = .ok (.ifnonnull 5, 3) := by decide +kernel
theorem dd_D_submit_12 : decode cd_D_submit 12 = .ok (.iconst (-1), 1) := by decide +kernel
theorem dd_D_submit_13 : decode cd_D_submit 13 = .ok (.ireturn, 1) := by decide +kernel
theorem dd_D_submit_14 : decode cd_D_submit 14 = .ok (.aload_n 0, 1) := by decide +kernel
theorem dd_D_submit_15 : decode cd_D_submit 15 = .ok (.iload_n 3, 1) := by decide +kernel
theorem dd_D_submit_16 : decode cd_D_submit 16 = .ok (.invokevirtual 66, 3) := by decide +kernel
theorem dd_D_submit_19 : decode cd_D_submit 19 = .ok (.astore 5, 2) := by decide +kernel
theorem dd_D_submit_21 : decode cd_D_submit 21 = .ok (.aload 5, 2) := by decide +kernel
theorem dd_D_submit_23 : decode cd_D_submit 23 = .ok (.ifnonnull 11, 3) := by decide +kernel
theorem dd_D_submit_26 : decode cd_D_submit 26 = .ok (.iload_n 3, 1) := by decide +kernel
theorem dd_D_submit_27 : decode cd_D_submit 27 = .ok (.iconst (-1), 1) := by decide +kernel
theorem dd_D_submit_28 : decode cd_D_submit 28 = .ok (.if_icmp .eq 6, 3) := by decide +kernel
theorem dd_D_submit_31 : decode cd_D_submit 31 = .ok (.bipush (-2), 2) := by decide +kernel
theorem dd_D_submit_33 : decode cd_D_submit 33 = .ok (.ireturn, 1) := by decide +kernel
theorem dd_D_submit_34 : decode cd_D_submit 34 = .ok (.aload_n 0, 1) := by decide +kernel
theorem dd_D_submit_35 : decode cd_D_submit 35 = .ok (.invokevirtual 70, 3) := by decide +kernel
theorem dd_D_submit_38 : decode cd_D_submit 38 = .ok (.ifCond .eq 6, 3) := by decide +kernel
theorem dd_D_submit_41 : decode cd_D_submit 41 = .ok (.bipush (-4), 2) := by decide +kernel
theorem dd_D_submit_43 : decode cd_D_submit 43 = .ok (.ireturn, 1) := by decide +kernel
theorem dd_D_submit_44 : decode cd_D_submit 44 = .ok (.aload_n 0, 1) := by decide +kernel
theorem dd_D_submit_45 : decode cd_D_submit 45 = .ok (.aload 4, 2) := by decide +kernel
theorem dd_D_submit_47 : decode cd_D_submit 47 = .ok (.iload_n 2, 1) := by decide +kernel
theorem dd_D_submit_48 : decode cd_D_submit 48 = .ok (.invokevirtual 73, 3) := by decide +kernel
theorem dd_D_submit_51 : decode cd_D_submit 51 = .ok (.astore 6, 2) := by decide +kernel
theorem dd_D_submit_53 : decode cd_D_submit 53 = .ok (.aload 5, 2) := by decide +kernel
theorem dd_D_submit_55 : decode cd_D_submit 55 = .ok (.ifnull 21, 3) := by decide +kernel
theorem dd_D_submit_58 : decode cd_D_submit 58 = .ok (.aload 6, 2) := by decide +kernel
theorem dd_D_submit_60 : decode cd_D_submit 60 = .ok (.aload 5, 2) := by decide +kernel
theorem dd_D_submit_62 : decode cd_D_submit 62 = .ok (.putfield 77, 3) := by decide +kernel
theorem dd_D_submit_65 : decode cd_D_submit 65 = .ok (.aload 5, 2) := by decide +kernel
theorem dd_D_submit_67 : decode cd_D_submit 67 = .ok (.dup, 1) := by decide +kernel
theorem dd_D_submit_68 : decode cd_D_submit 68 = .ok (.getfield 81, 3) := by decide +kernel
theorem dd_D_submit_71 : decode cd_D_submit 71 = .ok (.iconst 1, 1) := by decide +kernel
theorem dd_D_submit_72 : decode cd_D_submit 72 = .ok (.iadd, 1) := by decide +kernel
theorem dd_D_submit_73 : decode cd_D_submit 73 = .ok (.putfield 81, 3) := by decide +kernel
theorem dd_D_submit_76 : decode cd_D_submit 76 = .ok (.aload_n 0, 1) := by decide +kernel
theorem dd_D_submit_77 : decode cd_D_submit 77 = .ok (.aload 6, 2) := by decide +kernel
theorem dd_D_submit_79 : decode cd_D_submit 79 = .ok (.invokevirtual 84, 3) := by decide +kernel
theorem dd_D_submit_82 : decode cd_D_submit 82 = .ok (.aload 6, 2) := by decide +kernel
theorem dd_D_submit_84 : decode cd_D_submit 84 = .ok (.getfield 88, 3) := by decide +kernel
theorem dd_D_submit_87 : decode cd_D_submit 87 = .ok (.ireturn, 1) := by decide +kernel
theorem dd_D_after_0 : decode cd_D_after 0 = .ok (.aload_n 0, 1) := by decide +kernel
theorem dd_D_after_1 : decode cd_D_after 1 = .ok (.iload_n 1, 1) := by decide +kernel
theorem dd_D_after_2 : decode cd_D_after 2 = .ok (.invokevirtual 47, 3) := by decide +kernel
theorem dd_D_after_5 : decode cd_D_after 5 = .ok (.astore 4, 2) := by decide +kernel
theorem dd_D_after_7 : decode cd_D_after 7 = .ok (.aload 4, 2) := by decide +kernel
theorem dd_D_after_9 : decode cd_D_after 9 = .ok (.ifnonnull 5, 3) := by decide +kernel
theorem dd_D_after_12 : decode cd_D_after 12 = .ok (.iconst (-1), 1) := by decide +kernel
theorem dd_D_after_13 : decode cd_D_after 13 = .ok (.ireturn, 1) := by decide +kernel
theorem dd_D_after_14 : decode cd_D_after 14 = .ok (.aload_n 0, 1) := by decide +kernel
theorem dd_D_after_15 : decode cd_D_after 15 = .ok (.invokevirtual 70, 3) := by decide +kernel
theorem dd_D_after_18 : decode cd_D_after 18 = .ok (.ifCond .eq 6, 3) := by decide +kernel
theorem dd_D_after_21 : decode cd_D_after 21 = .ok (.bipush (-4), 2) := by decide +kernel
theorem dd_D_after_23 : decode cd_D_after 23 = .ok (.ireturn, 1) := by decide +kernel
theorem dd_D_after_24 : decode cd_D_after 24 = .ok (.aload_n 0, 1) := by decide +kernel
theorem dd_D_after_25 : decode cd_D_after 25 = .ok (.aload 4, 2) := by decide +kernel
theorem dd_D_after_27 : decode cd_D_after 27 = .ok (.iconst 0, 1) := by decide +kernel
theorem dd_D_after_28 : decode cd_D_after 28 = .ok (.invokevirtual 73, 3) := by decide +kernel
theorem dd_D_after_31 : decode cd_D_after 31 = .ok (.astore 5, 2) := by decide +kernel
theorem dd_D_after_33 : decode cd_D_after 33 = .ok (.lload_n 2, 1) := by decide +kernel
theorem dd_D_after_34 : decode cd_D_after 34 = .ok (.lconst 0, 1) := by decide +kernel
theorem dd_D_after_35 : decode cd_D_after 35 = .ok (.lcmp, 1) := by decide +kernel
theorem dd_D_after_36 : decode cd_D_after 36 = .ok (.ifCond .gt 12, 3) := by decide +kernel
theorem dd_D_after_39 : decode cd_D_after 39 = .ok (.aload_n 0, 1) := by decide +kernel
theorem dd_D_after_40 : decode cd_D_after 40 = .ok (.aload 5, 2) := by decide +kernel
theorem dd_D_after_42 : decode cd_D_after 42 = .ok (.invokevirtual 84, 3) := by decide +kernel
theorem dd_D_after_45 : decode cd_D_after 45 = .ok (.goto 19, 3) := by decide +kernel
theorem dd_D_after_48 : decode cd_D_after 48 = .ok (.aload 5, 2) := by decide +kernel
theorem dd_D_after_50 : decode cd_D_after 50 = .ok (.iconst 1, 1) := by decide +kernel
theorem dd_D_after_51 : decode cd_D_after 51 = .ok (.putfield 91, 3) := by decide +kernel
theorem dd_D_after_54 : decode cd_D_after 54 = .ok (.aload 5, 2) := by decide +kernel
theorem dd_D_after_56 : decode cd_D_after 56 = .ok (.aload_n 0, 1) := by decide +kernel
theorem dd_D_after_57 : decode cd_D_after 57 = .ok (.lload_n 2, 1) := by decide +kernel
theorem dd_D_after_58 : decode cd_D_after 58 = .ok (.invokevirtual 94, 3) := by decide +kernel
theorem dd_D_after_61 : decode cd_D_after 61 = .ok (.putfield 98, 3) := by decide +kernel
theorem dd_D_after_64 : decode cd_D_after 64 = .ok (.aload 5, 2) := by decide +kernel
theorem dd_D_after_66 : decode cd_D_after 66 = .ok (.getfield 88, 3) := by decide +kernel
theorem dd_D_after_69 : decode cd_D_after 69 = .ok (.ireturn, 1) := by decide +kernel
theorem dd_D_call_0 : decode cd_D_call 0 = .ok (.aload_n 0, 1) := by decide +kernel
theorem dd_D_call_1 : decode cd_D_call 1 = .ok (.iload_n 1, 1) := by decide +kernel
theorem dd_D_call_2 : decode cd_D_call 2 = .ok (.invokevirtual 102, 3) := by decide +kernel
theorem dd_D_call_5 : decode cd_D_call 5 = .ok (.astore 4, 2) := by decide +kernel
theorem dd_D_call_7 : decode cd_D_call 7 = .ok (.aload 4, 2) := by decide +kernel
theorem dd_D_call_9 : decode cd_D_call 9 = .ok (.ifnull 12, 3) := by decide +kernel
theorem dd_D_call_12 : decode cd_D_call 12 = .ok (.aload 4, 2) := by decide +kernel
theorem dd_D_call_14 : decode cd_D_call 14 = .ok (.getfield 91, 3) := by decide +kernel
theorem dd_D_call_17 : decode cd_D_call 17 = .ok (.iconst 3, 1) := by decide +kernel
theorem dd_D_call_18 : decode cd_D_call 18 = .ok (.if_icmp .eq 6, 3) := by decide +kernel
theorem dd_D_call_21 : decode cd_D_call 21 = .ok (.bipush (-3), 2) := by decide +kernel
theorem dd_D_call_23 : decode cd_D_call 23 = .ok (.ireturn, 1) := by decide +kernel
theorem dd_D_call_24 : decode cd_D_call 24 = .ok (.aload_n 0, 1) := by decide +kernel
theorem dd_D_call_25 : decode cd_D_call 25 = .ok (.iload_n 2, 1) := by decide +kernel
theorem dd_D_call_26 : decode cd_D_call 26 = .ok (.invokevirtual 47, 3) := by decide +kernel
theorem dd_D_call_29 : decode cd_D_call 29 = .ok (.astore 5, 2) := by decide +kernel
theorem dd_D_call_31 : decode cd_D_call 31 = .ok (.aload 5, 2) := by decide +kernel
theorem dd_D_call_33 : decode cd_D_call 33 = .ok (.ifnonnull 5, 3) := by decide +kernel
theorem dd_D_call_36 : decode cd_D_call 36 = .ok (.iconst (-1), 1) := by decide +kernel
theorem dd_D_call_37 : decode cd_D_call 37 = .ok (.ireturn, 1) := by decide +kernel
theorem dd_D_call_38 : decode cd_D_call 38 = .ok (.aload 4, 2) := by decide +kernel
theorem dd_D_call_40 : decode cd_D_call 40 = .ok (.aload 5, 2) := by decide +kernel
theorem dd_D_call_42 : decode cd_D_call 42 = .ok (.iload_n 3, 1) := by decide +kernel
theorem dd_D_call_43 : decode cd_D_call 43 = .ok (.invokestatic 106, 3) := by decide +kernel
theorem dd_D_call_46 : decode cd_D_call 46 = .ok (.ifCond .eq 6, 3) := by decide +kernel
theorem dd_D_call_49 : decode cd_D_call 49 = .ok (.bipush (-7), 2) := by decide +kernel
theorem dd_D_call_51 : decode cd_D_call 51 = .ok (.ireturn, 1) := by decide +kernel
theorem dd_D_call_52 : decode cd_D_call 52 = .ok (.aload_n 0, 1) := by decide +kernel
theorem dd_D_call_53 : decode cd_D_call 53 = .ok (.invokevirtual 70, 3) := by decide +kernel
theorem dd_D_call_56 : decode cd_D_call 56 = .ok (.ifCond .eq 6, 3) := by decide +kernel
theorem dd_D_call_59 : decode cd_D_call 59 = .ok (.bipush (-4), 2) := by decide +kernel
theorem dd_D_call_61 : decode cd_D_call 61 = .ok (.ireturn, 1) := by decide +kernel
theorem dd_D_call_62 : decode cd_D_call 62 = .ok (.aload_n 0, 1) := by decide +kernel
theorem dd_D_call_63 : decode cd_D_call 63 = .ok (.aload 5, 2) := by decide +kernel
theorem dd_D_call_65 : decode cd_D_call 65 = .ok (.iload_n 3, 1) := by decide +kernel
theorem dd_D_call_66 : decode cd_D_call 66 = .ok (.invokevirtual 73, 3) := by decide +kernel
theorem dd_D_call_69 : decode cd_D_call 69 = .ok (.astore 6, 2) := by decide +kernel
theorem dd_D_call_71 : decode cd_D_call 71 = .ok (.aload 6, 2) := by decide +kernel
theorem dd_D_call_73 : decode cd_D_call 73 = .ok (.aload 4, 2) := by decide +kernel
theorem dd_D_call_75 : decode cd_D_call 75 = .ok (.putfield 110, 3) := by decide +kernel
theorem dd_D_call_78 : decode cd_D_call 78 = .ok (.aload 4, 2) := by decide +kernel
theorem dd_D_call_80 : decode cd_D_call 80 = .ok (.iconst 4, 1) := by decide +kernel
theorem dd_D_call_81 : decode cd_D_call 81 = .ok (.putfield 91, 3) := by decide +kernel
theorem dd_D_call_84 : decode cd_D_call 84 = .ok (.aload_n 0, 1) := by decide +kernel
theorem dd_D_call_85 : decode cd_D_call 85 = .ok (.aload 6, 2) := by decide +kernel
theorem dd_D_call_87 : decode cd_D_call 87 = .ok (.invokevirtual 84, 3) := by decide +kernel
theorem dd_D_call_90 : decode cd_D_call 90 = .ok (.aload 6, 2) := by decide +kernel
theorem dd_D_call_92 : decode cd_D_call 92 = .ok (.getfield 88, 3) := by decide +kernel
theorem dd_D_call_95 : decode cd_D_call 95 = .ok (.ireturn, 1) := by decide +kernel
theorem dd_D_whenDone_0 : decode cd_D_whenDone 0 = .ok (.aload_n 0, 1) := by decide +kernel
theorem dd_D_whenDone_1 : decode cd_D_whenDone 1 = .ok (.iload_n 1, 1) := by decide +kernel
theorem dd_D_whenDone_2 : decode cd_D_whenDone 2 = .ok (.invokevirtual 66, 3) := by decide +kernel
theorem dd_D_whenDone_5 : decode cd_D_whenDone 5 = .ok (.astore_n 3, 1) := by decide +kernel
theorem dd_D_whenDone_6 : decode cd_D_whenDone 6 = .ok (.aload_n 3, 1) := by decide +kernel
theorem dd_D_whenDone_7 : decode cd_D_whenDone 7 = .ok (.ifnonnull 6, 3) := by decide +kernel
theorem dd_D_whenDone_10 : decode cd_D_whenDone 10 = .ok (.bipush (-2), 2) := by decide +kernel
theorem dd_D_whenDone_12 : decode cd_D_whenDone 12 = .ok (.ireturn, 1) := by decide +kernel
theorem dd_D_whenDone_13 : decode cd_D_whenDone 13 = .ok (.aload_n 0, 1) := by decide +kernel
theorem dd_D_whenDone_14 : decode cd_D_whenDone 14 = .ok (.iload_n 2, 1) := by decide +kernel
theorem dd_D_whenDone_15 : decode cd_D_whenDone 15 = .ok (.invokevirtual 47, 3) := by decide +kernel
theorem dd_D_whenDone_18 : decode cd_D_whenDone 18 = .ok (.astore 4, 2) := by decide +kernel
theorem dd_D_whenDone_20 : decode cd_D_whenDone 20 = .ok (.aload 4, 2) := by decide +kernel
theorem dd_D_whenDone_22 : decode cd_D_whenDone 22 = .ok (.ifnonnull 5, 3) := by decide +kernel
theorem dd_D_whenDone_25 : decode cd_D_whenDone 25 = .ok (.iconst (-1), 1) := by decide +kernel
theorem dd_D_whenDone_26 : decode cd_D_whenDone 26 = .ok (.ireturn, 1) := by decide +kernel
theorem dd_D_whenDone_27 : decode cd_D_whenDone 27 = .ok (.aload_n 0, 1) := by decide +kernel
theorem dd_D_whenDone_28 : decode cd_D_whenDone 28 = .ok (.invokevirtual 70, 3) := by decide +kernel
theorem dd_D_whenDone_31 : decode cd_D_whenDone 31 = .ok (.ifCond .eq 6, 3) := by decide +kernel
theorem dd_D_whenDone_34 : decode cd_D_whenDone 34 = .ok (.bipush (-4), 2) := by decide +kernel
theorem dd_D_whenDone_36 : decode cd_D_whenDone 36 = .ok (.ireturn, 1) := by decide +kernel
theorem dd_D_whenDone_37 : decode cd_D_whenDone 37 = .ok (.aload_n 0, 1) := by decide +kernel
theorem dd_D_whenDone_38 : decode cd_D_whenDone 38 = .ok (.aload 4, 2) := by decide +kernel
theorem dd_D_whenDone_40 : decode cd_D_whenDone 40 = .ok (.iconst 0, 1) := by decide +kernel
theorem dd_D_whenDone_41 : decode cd_D_whenDone 41 = .ok (.invokevirtual 73, 3) := by decide +kernel
theorem dd_D_whenDone_44 : decode cd_D_whenDone 44 = .ok (.astore 5, 2) := by decide +kernel
theorem dd_D_whenDone_46 : decode cd_D_whenDone 46 = .ok (.aload_n 3, 1) := by decide +kernel
theorem dd_D_whenDone_47 : decode cd_D_whenDone 47 = .ok (.invokevirtual 114, 3) := by decide +kernel
theorem dd_D_whenDone_50 : decode cd_D_whenDone 50 = .ok (.ifCond .eq 12, 3) := by decide +kernel
theorem dd_D_whenDone_53 : decode cd_D_whenDone 53 = .ok (.aload_n 0, 1) := by decide +kernel
theorem dd_D_whenDone_54 : decode cd_D_whenDone 54 = .ok (.aload 5, 2) := by decide +kernel
theorem dd_D_whenDone_56 : decode cd_D_whenDone 56 = .ok (.invokevirtual 84, 3) := by decide +kernel
theorem dd_D_whenDone_59 : decode cd_D_whenDone 59 = .ok (.goto 15, 3) := by decide +kernel
theorem dd_D_whenDone_62 : decode cd_D_whenDone 62 = .ok (.aload 5, 2) := by decide +kernel
theorem dd_D_whenDone_64 : decode cd_D_whenDone 64 = .ok (.iconst 0, 1) := by decide +kernel
theorem dd_D_whenDone_65 : decode cd_D_whenDone 65 = .ok (.putfield 91, 3) := by decide +kernel
theorem dd_D_whenDone_68 : decode cd_D_whenDone 68 = .ok (.aload 5, 2) := by decide +kernel
theorem dd_D_whenDone_70 : decode cd_D_whenDone 70 = .ok (.aload_n 3, 1) := by decide +kernel
