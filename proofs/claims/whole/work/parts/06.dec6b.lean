theorem dX6_pushesGo_92 : decode cX6_pushesGo 92 = .ok (.goto (-60), 3) := by decide +kernel
theorem dX6_pushesGo_95 : decode cX6_pushesGo 95 = .ok (.iload_n 3, 1) := by decide +kernel
theorem dX6_pushesGo_96 : decode cX6_pushesGo 96 = .ok (.ireturn, 1) := by decide +kernel
theorem dX6_runs_0 : decode cX6_runs 0 = .ok (.iload_n 1, 1) := by decide +kernel
theorem dX6_runs_1 : decode cX6_runs 1 = .ok (.i2l, 1) := by decide +kernel
theorem dX6_runs_2 : decode cX6_runs 2 = .ok (.lconst 0, 1) := by decide +kernel
theorem dX6_runs_3 : decode cX6_runs 3 = .ok (.ldc2_w 161, 3) := by decide +kernel
theorem dX6_runs_6 : decode cX6_runs 6 = .ok (.invokestatic 46, 3) := by decide +kernel
theorem dX6_runs_9 : decode cX6_runs 9 = .ok (.ifCond .eq 15, 3) := by decide +kernel
theorem dX6_runs_12 : decode cX6_runs 12 = .ok (.iload_n 2, 1) := by decide +kernel
theorem dX6_runs_13 : decode cX6_runs 13 = .ok (.i2l, 1) := by decide +kernel
theorem dX6_runs_14 : decode cX6_runs 14 = .ok (.lconst 0, 1) := by decide +kernel
theorem dX6_runs_15 : decode cX6_runs 15 = .ok (.ldc2_w 99, 3) := by decide +kernel
theorem dX6_runs_18 : decode cX6_runs 18 = .ok (.invokestatic 46, 3) := by decide +kernel
theorem dX6_runs_21 : decode cX6_runs 21 = .ok (.ifCond .ne 5, 3) := by decide +kernel
theorem dX6_runs_24 : decode cX6_runs 24 = .ok (.iconst (-1), 1) := by decide +kernel
theorem dX6_runs_25 : decode cX6_runs 25 = .ok (.ireturn, 1) := by decide +kernel
theorem dX6_runs_26 : decode cX6_runs 26 = .ok (.aload_n 0, 1) := by decide +kernel
theorem dX6_runs_27 : decode cX6_runs 27 = .ok (.iconst 0, 1) := by decide +kernel
theorem dX6_runs_28 : decode cX6_runs 28 = .ok (.iload_n 1, 1) := by decide +kernel
theorem dX6_runs_29 : decode cX6_runs 29 = .ok (.invokevirtual 176, 3) := by decide +kernel
theorem dX6_runs_32 : decode cX6_runs 32 = .ok (.istore_n 3, 1) := by decide +kernel
theorem dX6_runs_33 : decode cX6_runs 33 = .ok (.iload_n 2, 1) := by decide +kernel
theorem dX6_runs_34 : decode cX6_runs 34 = .ok (.tableswitch 49 0 3 #[30, 32, 37, 42], 30) := by decide +kernel
theorem dX6_runs_64 : decode cX6_runs 64 = .ok (.iload_n 3, 1) := by decide +kernel
theorem dX6_runs_65 : decode cX6_runs 65 = .ok (.ireturn, 1) := by decide +kernel
theorem dX6_runs_66 : decode cX6_runs 66 = .ok (.aload_n 0, 1) := by decide +kernel
theorem dX6_runs_67 : decode cX6_runs 67 = .ok (.getfield 125, 3) := by decide +kernel
theorem dX6_runs_70 : decode cX6_runs 70 = .ok (.ireturn, 1) := by decide +kernel
theorem dX6_runs_71 : decode cX6_runs 71 = .ok (.aload_n 0, 1) := by decide +kernel
theorem dX6_runs_72 : decode cX6_runs 72 = .ok (.getfield 173, 3) := by decide +kernel
theorem dX6_runs_75 : decode cX6_runs 75 = .ok (.ireturn, 1) := by decide +kernel
theorem dX6_runs_76 : decode cX6_runs 76 = .ok (.aload_n 0, 1) := by decide +kernel
theorem dX6_runs_77 : decode cX6_runs 77 = .ok (.bipush 88, 2) := by decide +kernel
theorem dX6_runs_79 : decode cX6_runs 79 = .ok (.invokevirtual 141, 3) := by decide +kernel
theorem dX6_runs_82 : decode cX6_runs 82 = .ok (.ireturn, 1) := by decide +kernel
theorem dX6_runs_83 : decode cX6_runs 83 = .ok (.aload_n 0, 1) := by decide +kernel
theorem dX6_runs_84 : decode cX6_runs 84 = .ok (.getfield 170, 3) := by decide +kernel
theorem dX6_runs_87 : decode cX6_runs 87 = .ok (.ireturn, 1) := by decide +kernel
theorem dX6_ahead_0 : decode cX6_ahead 0 = .ok (.aload_n 0, 1) := by decide +kernel
theorem dX6_ahead_1 : decode cX6_ahead 1 = .ok (.iload_n 1, 1) := by decide +kernel
theorem dX6_ahead_2 : decode cX6_ahead 2 = .ok (.invokevirtual 144, 3) := by decide +kernel
theorem dX6_ahead_5 : decode cX6_ahead 5 = .ok (.ifCond .eq 15, 3) := by decide +kernel
theorem dX6_ahead_8 : decode cX6_ahead 8 = .ok (.iload_n 2, 1) := by decide +kernel
theorem dX6_ahead_9 : decode cX6_ahead 9 = .ok (.i2l, 1) := by decide +kernel
theorem dX6_ahead_10 : decode cX6_ahead 10 = .ok (.lconst 0, 1) := by decide +kernel
theorem dX6_ahead_11 : decode cX6_ahead 11 = .ok (.ldc2_w 161, 3) := by decide +kernel
theorem dX6_ahead_14 : decode cX6_ahead 14 = .ok (.invokestatic 46, 3) := by decide +kernel
theorem dX6_ahead_17 : decode cX6_ahead 17 = .ok (.ifCond .ne 5, 3) := by decide +kernel
theorem dX6_ahead_20 : decode cX6_ahead 20 = .ok (.iconst (-1), 1) := by decide +kernel
theorem dX6_ahead_21 : decode cX6_ahead 21 = .ok (.ireturn, 1) := by decide +kernel
theorem dX6_ahead_22 : decode cX6_ahead 22 = .ok (.aload_n 0, 1) := by decide +kernel
theorem dX6_ahead_23 : decode cX6_ahead 23 = .ok (.iconst 0, 1) := by decide +kernel
theorem dX6_ahead_24 : decode cX6_ahead 24 = .ok (.iload_n 2, 1) := by decide +kernel
theorem dX6_ahead_25 : decode cX6_ahead 25 = .ok (.invokevirtual 176, 3) := by decide +kernel
theorem dX6_ahead_28 : decode cX6_ahead 28 = .ok (.pop, 1) := by decide +kernel
theorem dX6_ahead_29 : decode cX6_ahead 29 = .ok (.aload_n 0, 1) := by decide +kernel
theorem dX6_ahead_30 : decode cX6_ahead 30 = .ok (.getfield 7, 3) := by decide +kernel
theorem dX6_ahead_33 : decode cX6_ahead 33 = .ok (.bipush 98, 2) := by decide +kernel
theorem dX6_ahead_35 : decode cX6_ahead 35 = .ok (.iload_n 1, 1) := by decide +kernel
theorem dX6_ahead_36 : decode cX6_ahead 36 = .ok (.iadd, 1) := by decide +kernel
theorem dX6_ahead_37 : decode cX6_ahead 37 = .ok (.iaload, 1) := by decide +kernel
theorem dX6_ahead_38 : decode cX6_ahead 38 = .ok (.ireturn, 1) := by decide +kernel
theorem dX6_firstTime_0 : decode cX6_firstTime 0 = .ok (.aload_n 0, 1) := by decide +kernel
theorem dX6_firstTime_1 : decode cX6_firstTime 1 = .ok (.iconst 0, 1) := by decide +kernel
theorem dX6_firstTime_2 : decode cX6_firstTime 2 = .ok (.bipush 88, 2) := by decide +kernel
theorem dX6_firstTime_4 : decode cX6_firstTime 4 = .ok (.invokevirtual 167, 3) := by decide +kernel
theorem dX6_firstTime_7 : decode cX6_firstTime 7 = .ok (.iconst 0, 1) := by decide +kernel
theorem dX6_firstTime_8 : decode cX6_firstTime 8 = .ok (.istore 4, 2) := by decide +kernel
theorem dX6_firstTime_10 : decode cX6_firstTime 10 = .ok (.iload 4, 2) := by decide +kernel
theorem dX6_firstTime_12 : decode cX6_firstTime 12 = .ok (.sipush 1000, 3) := by decide +kernel
theorem dX6_firstTime_15 : decode cX6_firstTime 15 = .ok (.if_icmp .gt 56, 3) := by decide +kernel
theorem dX6_firstTime_18 : decode cX6_firstTime 18 = .ok (.iload_n 1, 1) := by decide +kernel
theorem dX6_firstTime_19 : decode cX6_firstTime 19 = .ok (.bipush (-4), 2) := by decide +kernel
theorem dX6_firstTime_21 : decode cX6_firstTime 21 = .ok (.if_icmp .ne 12, 3) := by decide +kernel
theorem dX6_firstTime_24 : decode cX6_firstTime 24 = .ok (.aload_n 0, 1) := by decide +kernel
theorem dX6_firstTime_25 : decode cX6_firstTime 25 = .ok (.bipush 88, 2) := by decide +kernel
theorem dX6_firstTime_27 : decode cX6_firstTime 27 = .ok (.invokevirtual 135, 3) := by decide +kernel
theorem dX6_firstTime_30 : decode cX6_firstTime 30 = .ok (.goto 12, 3) := by decide +kernel
theorem dX6_firstTime_33 : decode cX6_firstTime 33 = .ok (.aload_n 0, 1) := by decide +kernel
theorem dX6_firstTime_34 : decode cX6_firstTime 34 = .ok (.getfield 7, 3) := by decide +kernel
theorem dX6_firstTime_37 : decode cX6_firstTime 37 = .ok (.bipush 98, 2) := by decide +kernel
theorem dX6_firstTime_39 : decode cX6_firstTime 39 = .ok (.iload_n 1, 1) := by decide +kernel
theorem dX6_firstTime_40 : decode cX6_firstTime 40 = .ok (.iadd, 1) := by decide +kernel
theorem dX6_firstTime_41 : decode cX6_firstTime 41 = .ok (.iaload, 1) := by decide +kernel
theorem dX6_firstTime_42 : decode cX6_firstTime 42 = .ok (.istore 5, 2) := by decide +kernel
theorem dX6_firstTime_44 : decode cX6_firstTime 44 = .ok (.iload 4, 2) := by decide +kernel
theorem dX6_firstTime_46 : decode cX6_firstTime 46 = .ok (.iload_n 3, 1) := by decide +kernel
theorem dX6_firstTime_47 : decode cX6_firstTime 47 = .ok (.if_icmp .lt 12, 3) := by decide +kernel
theorem dX6_firstTime_50 : decode cX6_firstTime 50 = .ok (.iload 5, 2) := by decide +kernel
theorem dX6_firstTime_52 : decode cX6_firstTime 52 = .ok (.iload_n 2, 1) := by decide +kernel
theorem dX6_firstTime_53 : decode cX6_firstTime 53 = .ok (.if_icmp .ne 6, 3) := by decide +kernel
theorem dX6_firstTime_56 : decode cX6_firstTime 56 = .ok (.iload 4, 2) := by decide +kernel
theorem dX6_firstTime_58 : decode cX6_firstTime 58 = .ok (.ireturn, 1) := by decide +kernel
theorem dX6_firstTime_59 : decode cX6_firstTime 59 = .ok (.aload_n 0, 1) := by decide +kernel
theorem dX6_firstTime_60 : decode cX6_firstTime 60 = .ok (.bipush 88, 2) := by decide +kernel
theorem dX6_firstTime_62 : decode cX6_firstTime 62 = .ok (.invokevirtual 164, 3) := by decide +kernel
theorem dX6_firstTime_65 : decode cX6_firstTime 65 = .ok (.iinc 4 1, 3) := by decide +kernel
theorem dX6_firstTime_68 : decode cX6_firstTime 68 = .ok (.goto (-58), 3) := by decide +kernel
theorem dX6_firstTime_71 : decode cX6_firstTime 71 = .ok (.bipush (-4), 2) := by decide +kernel
theorem dX6_firstTime_73 : decode cX6_firstTime 73 = .ok (.ireturn, 1) := by decide +kernel
theorem dX6_when_0 : decode cX6_when 0 = .ok (.iload_n 1, 1) := by decide +kernel
theorem dX6_when_1 : decode cX6_when 1 = .ok (.invokestatic 179, 3) := by decide +kernel
theorem dX6_when_4 : decode cX6_when 4 = .ok (.ifCond .eq 14, 3) := by decide +kernel
theorem dX6_when_7 : decode cX6_when 7 = .ok (.aload_n 0, 1) := by decide +kernel
theorem dX6_when_8 : decode cX6_when 8 = .ok (.bipush (-4), 2) := by decide +kernel
theorem dX6_when_10 : decode cX6_when 10 = .ok (.iload_n 1, 1) := by decide +kernel
theorem dX6_when_11 : decode cX6_when 11 = .ok (.iconst 0, 1) := by decide +kernel
theorem dX6_when_12 : decode cX6_when 12 = .ok (.invokevirtual 182, 3) := by decide +kernel
theorem dX6_when_15 : decode cX6_when 15 = .ok (.goto 4, 3) := by decide +kernel
theorem dX6_when_18 : decode cX6_when 18 = .ok (.iconst (-1), 1) := by decide +kernel
theorem dX6_when_19 : decode cX6_when 19 = .ok (.ireturn, 1) := by decide +kernel
theorem dX6_shows_0 : decode cX6_shows 0 = .ok (.aload_n 0, 1) := by decide +kernel
theorem dX6_shows_1 : decode cX6_shows 1 = .ok (.iload_n 1, 1) := by decide +kernel
theorem dX6_shows_2 : decode cX6_shows 2 = .ok (.invokevirtual 144, 3) := by decide +kernel
theorem dX6_shows_5 : decode cX6_shows 5 = .ok (.ifCond .eq 20, 3) := by decide +kernel
theorem dX6_shows_8 : decode cX6_shows 8 = .ok (.iload_n 2, 1) := by decide +kernel
theorem dX6_shows_9 : decode cX6_shows 9 = .ok (.invokestatic 154, 3) := by decide +kernel
theorem dX6_shows_12 : decode cX6_shows 12 = .ok (.ifCond .eq 13, 3) := by decide +kernel
theorem dX6_shows_15 : decode cX6_shows 15 = .ok (.aload_n 0, 1) := by decide +kernel
theorem dX6_shows_16 : decode cX6_shows 16 = .ok (.iload_n 1, 1) := by decide +kernel
theorem dX6_shows_17 : decode cX6_shows 17 = .ok (.iload_n 2, 1) := by decide +kernel
theorem dX6_shows_18 : decode cX6_shows 18 = .ok (.iconst 0, 1) := by decide +kernel
theorem dX6_shows_19 : decode cX6_shows 19 = .ok (.invokevirtual 182, 3) := by decide +kernel
theorem dX6_shows_22 : decode cX6_shows 22 = .ok (.goto 4, 3) := by decide +kernel
theorem dX6_shows_25 : decode cX6_shows 25 = .ok (.iconst (-1), 1) := by decide +kernel
theorem dX6_shows_26 : decode cX6_shows 26 = .ok (.ireturn, 1) := by decide +kernel
theorem dX6_again_0 : decode cX6_again 0 = .ok (.aload_n 0, 1) := by decide +kernel
theorem dX6_again_1 : decode cX6_again 1 = .ok (.bipush (-4), 2) := by decide +kernel
theorem dX6_again_3 : decode cX6_again 3 = .ok (.aload_n 0, 1) := by decide +kernel
theorem dX6_again_4 : decode cX6_again 4 = .ok (.iconst 0, 1) := by decide +kernel
theorem dX6_again_5 : decode cX6_again 5 = .ok (.invokevirtual 135, 3) := by decide +kernel
theorem dX6_again_8 : decode cX6_again 8 = .ok (.iconst 1, 1) := by decide +kernel
theorem dX6_again_9 : decode cX6_again 9 = .ok (.invokevirtual 182, 3) := by decide +kernel
theorem dX6_again_12 : decode cX6_again 12 = .ok (.ireturn, 1) := by decide +kernel
theorem dX6_errorBehind_0 : decode cX6_errorBehind 0 = .ok (.aload_n 0, 1) := by decide +kernel
theorem dX6_errorBehind_1 : decode cX6_errorBehind 1 = .ok (.iload_n 1, 1) := by decide +kernel
theorem dX6_errorBehind_2 : decode cX6_errorBehind 2 = .ok (.iload_n 2, 1) := by decide +kernel
theorem dX6_errorBehind_3 : decode cX6_errorBehind 3 = .ok (.invokevirtual 176, 3) := by decide +kernel
theorem dX6_errorBehind_6 : decode cX6_errorBehind 6 = .ok (.pop, 1) := by decide +kernel
theorem dX6_errorBehind_7 : decode cX6_errorBehind 7 = .ok (.aload_n 0, 1) := by decide +kernel
theorem dX6_errorBehind_8 : decode cX6_errorBehind 8 = .ok (.bipush 88, 2) := by decide +kernel
theorem dX6_errorBehind_10 : decode cX6_errorBehind 10 = .ok (.invokevirtual 141, 3) := by decide +kernel
theorem dX6_errorBehind_13 : decode cX6_errorBehind 13 = .ok (.ireturn, 1) := by decide +kernel
theorem dX6_mend_0 : decode cX6_mend 0 = .ok (.iload_n 1, 1) := by decide +kernel
theorem dX6_mend_1 : decode cX6_mend 1 = .ok (.i2l, 1) := by decide +kernel
theorem dX6_mend_2 : decode cX6_mend 2 = .ok (.lconst 0, 1) := by decide +kernel
theorem dX6_mend_3 : decode cX6_mend 3 = .ok (.ldc2_w 185, 3) := by decide +kernel
theorem dX6_mend_6 : decode cX6_mend 6 = .ok (.invokestatic 46, 3) := by decide +kernel
theorem dX6_mend_9 : decode cX6_mend 9 = .ok (.ifCond .eq 13, 3) := by decide +kernel
theorem dX6_mend_12 : decode cX6_mend 12 = .ok (.iload_n 2, 1) := by decide +kernel
theorem dX6_mend_13 : decode cX6_mend 13 = .ok (.i2l, 1) := by decide +kernel
theorem dX6_mend_14 : decode cX6_mend 14 = .ok (.lconst 0, 1) := by decide +kernel
theorem dX6_mend_15 : decode cX6_mend 15 = .ok (.lconst 1, 1) := by decide +kernel
theorem dX6_mend_16 : decode cX6_mend 16 = .ok (.invokestatic 46, 3) := by decide +kernel
theorem dX6_mend_19 : decode cX6_mend 19 = .ok (.ifCond .ne 5, 3) := by decide +kernel
theorem dX6_mend_22 : decode cX6_mend 22 = .ok (.iconst (-1), 1) := by decide +kernel
theorem dX6_mend_23 : decode cX6_mend 23 = .ok (.ireturn, 1) := by decide +kernel
theorem dX6_mend_24 : decode cX6_mend 24 = .ok (.aload_n 0, 1) := by decide +kernel
theorem dX6_mend_25 : decode cX6_mend 25 = .ok (.iconst 0, 1) := by decide +kernel
theorem dX6_mend_26 : decode cX6_mend 26 = .ok (.iload_n 1, 1) := by decide +kernel
theorem dX6_mend_27 : decode cX6_mend 27 = .ok (.invokevirtual 187, 3) := by decide +kernel
theorem dX6_mend_30 : decode cX6_mend 30 = .ok (.istore_n 3, 1) := by decide +kernel
theorem dX6_mend_31 : decode cX6_mend 31 = .ok (.bipush (-4), 2) := by decide +kernel
theorem dX6_mend_33 : decode cX6_mend 33 = .ok (.istore 4, 2) := by decide +kernel
theorem dX6_mend_35 : decode cX6_mend 35 = .ok (.iconst 0, 1) := by decide +kernel
theorem dX6_mend_36 : decode cX6_mend 36 = .ok (.istore 5, 2) := by decide +kernel
theorem dX6_mend_38 : decode cX6_mend 38 = .ok (.iload 5, 2) := by decide +kernel
theorem dX6_mend_40 : decode cX6_mend 40 = .ok (.aload_n 0, 1) := by decide +kernel
theorem dX6_mend_41 : decode cX6_mend 41 = .ok (.getfield 7, 3) := by decide +kernel
theorem dX6_mend_44 : decode cX6_mend 44 = .ok (.bipush 20, 2) := by decide +kernel
theorem dX6_mend_46 : decode cX6_mend 46 = .ok (.iaload, 1) := by decide +kernel
theorem dX6_mend_47 : decode cX6_mend 47 = .ok (.if_icmp .ge 64, 3) := by decide +kernel
theorem dX6_mend_50 : decode cX6_mend 50 = .ok (.aload_n 0, 1) := by decide +kernel
theorem dX6_mend_51 : decode cX6_mend 51 = .ok (.iconst 0, 1) := by decide +kernel
theorem dX6_mend_52 : decode cX6_mend 52 = .ok (.bipush 110, 2) := by decide +kernel
theorem dX6_mend_54 : decode cX6_mend 54 = .ok (.invokevirtual 167, 3) := by decide +kernel
theorem dX6_mend_57 : decode cX6_mend 57 = .ok (.aload_n 0, 1) := by decide +kernel
theorem dX6_mend_58 : decode cX6_mend 58 = .ok (.getfield 7, 3) := by decide +kernel
theorem dX6_mend_61 : decode cX6_mend 61 = .ok (.bipush 125, 2) := by decide +kernel
theorem dX6_mend_63 : decode cX6_mend 63 = .ok (.iload 5, 2) := by decide +kernel
theorem dX6_mend_65 : decode cX6_mend 65 = .ok (.iadd, 1) := by decide +kernel
theorem dX6_mend_66 : decode cX6_mend 66 = .ok (.iconst 0, 1) := by decide +kernel
theorem dX6_mend_67 : decode cX6_mend 67 = .ok (.iastore, 1) := by decide +kernel
theorem dX6_mend_68 : decode cX6_mend 68 = .ok (.aload_n 0, 1) := by decide +kernel
theorem dX6_mend_69 : decode cX6_mend 69 = .ok (.bipush 110, 2) := by decide +kernel
theorem dX6_mend_71 : decode cX6_mend 71 = .ok (.iload_n 1, 1) := by decide +kernel
theorem dX6_mend_72 : decode cX6_mend 72 = .ok (.invokevirtual 187, 3) := by decide +kernel
theorem dX6_mend_75 : decode cX6_mend 75 = .ok (.istore 6, 2) := by decide +kernel
theorem dX6_mend_77 : decode cX6_mend 77 = .ok (.iload 6, 2) := by decide +kernel
theorem dX6_mend_79 : decode cX6_mend 79 = .ok (.iload_n 3, 1) := by decide +kernel
theorem dX6_mend_80 : decode cX6_mend 80 = .ok (.if_icmp .ge 8, 3) := by decide +kernel
theorem dX6_mend_83 : decode cX6_mend 83 = .ok (.iload 5, 2) := by decide +kernel
theorem dX6_mend_85 : decode cX6_mend 85 = .ok (.goto 5, 3) := by decide +kernel
theorem dX6_mend_88 : decode cX6_mend 88 = .ok (.iload 4, 2) := by decide +kernel
theorem dX6_mend_90 : decode cX6_mend 90 = .ok (.istore 4, 2) := by decide +kernel
theorem dX6_mend_92 : decode cX6_mend 92 = .ok (.iload 6, 2) := by decide +kernel
theorem dX6_mend_94 : decode cX6_mend 94 = .ok (.iload_n 3, 1) := by decide +kernel
theorem dX6_mend_95 : decode cX6_mend 95 = .ok (.if_icmp .ge 8, 3) := by decide +kernel
theorem dX6_mend_98 : decode cX6_mend 98 = .ok (.iload 6, 2) := by decide +kernel
theorem dX6_mend_100 : decode cX6_mend 100 = .ok (.goto 4, 3) := by decide +kernel
theorem dX6_mend_103 : decode cX6_mend 103 = .ok (.iload_n 3, 1) := by decide +kernel
theorem dX6_mend_104 : decode cX6_mend 104 = .ok (.istore_n 3, 1) := by decide +kernel
theorem dX6_mend_105 : decode cX6_mend 105 = .ok (.iinc 5 1, 3) := by decide +kernel
theorem dX6_mend_108 : decode cX6_mend 108 = .ok (.goto (-70), 3) := by decide +kernel
theorem dX6_mend_111 : decode cX6_mend 111 = .ok (.iload 4, 2) := by decide +kernel
theorem dX6_mend_113 : decode cX6_mend 113 = .ok (.bipush (-4), 2) := by decide +kernel
theorem dX6_mend_115 : decode cX6_mend 115 = .ok (.if_icmp .eq 7, 3) := by decide +kernel
theorem dX6_mend_118 : decode cX6_mend 118 = .ok (.iload_n 2, 1) := by decide +kernel
theorem dX6_mend_119 : decode cX6_mend 119 = .ok (.ifCond .ne 8, 3) := by decide +kernel
theorem dX6_mend_122 : decode cX6_mend 122 = .ok (.iload 4, 2) := by decide +kernel
theorem dX6_mend_124 : decode cX6_mend 124 = .ok (.goto 4, 3) := by decide +kernel
theorem dX6_mend_127 : decode cX6_mend 127 = .ok (.iload_n 3, 1) := by decide +kernel
theorem dX6_mend_128 : decode cX6_mend 128 = .ok (.ireturn, 1) := by decide +kernel
theorem dX6_swap_0 : decode cX6_swap 0 = .ok (.iload_n 1, 1) := by decide +kernel
theorem dX6_swap_1 : decode cX6_swap 1 = .ok (.i2l, 1) := by decide +kernel
theorem dX6_swap_2 : decode cX6_swap 2 = .ok (.lconst 0, 1) := by decide +kernel
theorem dX6_swap_3 : decode cX6_swap 3 = .ok (.ldc2_w 185, 3) := by decide +kernel
theorem dX6_swap_6 : decode cX6_swap 6 = .ok (.invokestatic 46, 3) := by decide +kernel
theorem dX6_swap_9 : decode cX6_swap 9 = .ok (.ifCond .eq 13, 3) := by decide +kernel
theorem dX6_swap_12 : decode cX6_swap 12 = .ok (.iload_n 2, 1) := by decide +kernel
theorem dX6_swap_13 : decode cX6_swap 13 = .ok (.i2l, 1) := by decide +kernel
theorem dX6_swap_14 : decode cX6_swap 14 = .ok (.lconst 0, 1) := by decide +kernel
theorem dX6_swap_15 : decode cX6_swap 15 = .ok (.lconst 1, 1) := by decide +kernel
theorem dX6_swap_16 : decode cX6_swap 16 = .ok (.invokestatic 46, 3) := by decide +kernel
theorem dX6_swap_19 : decode cX6_swap 19 = .ok (.ifCond .ne 5, 3) := by decide +kernel
theorem dX6_swap_22 : decode cX6_swap 22 = .ok (.iconst (-1), 1) := by decide +kernel
theorem dX6_swap_23 : decode cX6_swap 23 = .ok (.ireturn, 1) := by decide +kernel
theorem dX6_swap_24 : decode cX6_swap 24 = .ok (.aload_n 0, 1) := by decide +kernel
theorem dX6_swap_25 : decode cX6_swap 25 = .ok (.iconst 0, 1) := by decide +kernel
theorem dX6_swap_26 : decode cX6_swap 26 = .ok (.iload_n 1, 1) := by decide +kernel
theorem dX6_swap_27 : decode cX6_swap 27 = .ok (.invokevirtual 187, 3) := by decide +kernel
theorem dX6_swap_30 : decode cX6_swap 30 = .ok (.istore_n 3, 1) := by decide +kernel
theorem dX6_swap_31 : decode cX6_swap 31 = .ok (.bipush (-4), 2) := by decide +kernel
theorem dX6_swap_33 : decode cX6_swap 33 = .ok (.istore 4, 2) := by decide +kernel
theorem dX6_swap_35 : decode cX6_swap 35 = .ok (.iconst 0, 1) := by decide +kernel
theorem dX6_swap_36 : decode cX6_swap 36 = .ok (.istore 5, 2) := by decide +kernel
theorem dX6_swap_38 : decode cX6_swap 38 = .ok (.iload 5, 2) := by decide +kernel
theorem dX6_swap_40 : decode cX6_swap 40 = .ok (.aload_n 0, 1) := by decide +kernel
theorem dX6_swap_41 : decode cX6_swap 41 = .ok (.getfield 7, 3) := by decide +kernel
theorem dX6_swap_44 : decode cX6_swap 44 = .ok (.bipush 20, 2) := by decide +kernel
theorem dX6_swap_46 : decode cX6_swap 46 = .ok (.iaload, 1) := by decide +kernel
theorem dX6_swap_47 : decode cX6_swap 47 = .ok (.if_icmp .ge 145, 3) := by decide +kernel
theorem dX6_swap_50 : decode cX6_swap 50 = .ok (.iload 5, 2) := by decide +kernel
theorem dX6_swap_52 : decode cX6_swap 52 = .ok (.iconst 1, 1) := by decide +kernel
theorem dX6_swap_53 : decode cX6_swap 53 = .ok (.iadd, 1) := by decide +kernel
theorem dX6_swap_54 : decode cX6_swap 54 = .ok (.istore 6, 2) := by decide +kernel
theorem dX6_swap_56 : decode cX6_swap 56 = .ok (.iload 6, 2) := by decide +kernel
theorem dX6_swap_58 : decode cX6_swap 58 = .ok (.aload_n 0, 1) := by decide +kernel
theorem dX6_swap_59 : decode cX6_swap 59 = .ok (.getfield 7, 3) := by decide +kernel
theorem dX6_swap_62 : decode cX6_swap 62 = .ok (.bipush 20, 2) := by decide +kernel
theorem dX6_swap_64 : decode cX6_swap 64 = .ok (.iaload, 1) := by decide +kernel
theorem dX6_swap_65 : decode cX6_swap 65 = .ok (.if_icmp .ge 121, 3) := by decide +kernel
theorem dX6_swap_68 : decode cX6_swap 68 = .ok (.aload_n 0, 1) := by decide +kernel
theorem dX6_swap_69 : decode cX6_swap 69 = .ok (.iconst 0, 1) := by decide +kernel
theorem dX6_swap_70 : decode cX6_swap 70 = .ok (.bipush 110, 2) := by decide +kernel
theorem dX6_swap_72 : decode cX6_swap 72 = .ok (.invokevirtual 167, 3) := by decide +kernel
theorem dX6_swap_75 : decode cX6_swap 75 = .ok (.iconst 0, 1) := by decide +kernel
theorem dX6_swap_76 : decode cX6_swap 76 = .ok (.istore 7, 2) := by decide +kernel
theorem dX6_swap_78 : decode cX6_swap 78 = .ok (.iload 7, 2) := by decide +kernel
theorem dX6_swap_80 : decode cX6_swap 80 = .ok (.bipush 20, 2) := by decide +kernel
theorem dX6_swap_82 : decode cX6_swap 82 = .ok (.if_icmp .ge 55, 3) := by decide +kernel
theorem dX6_swap_85 : decode cX6_swap 85 = .ok (.aload_n 0, 1) := by decide +kernel
theorem dX6_swap_86 : decode cX6_swap 86 = .ok (.getfield 7, 3) := by decide +kernel
theorem dX6_swap_89 : decode cX6_swap 89 = .ok (.bipush 110, 2) := by decide +kernel
theorem dX6_swap_91 : decode cX6_swap 91 = .ok (.iload 7, 2) := by decide +kernel
theorem dX6_swap_93 : decode cX6_swap 93 = .ok (.iadd, 1) := by decide +kernel
theorem dX6_swap_94 : decode cX6_swap 94 = .ok (.iload 5, 2) := by decide +kernel
theorem dX6_swap_96 : decode cX6_swap 96 = .ok (.iadd, 1) := by decide +kernel
theorem dX6_swap_97 : decode cX6_swap 97 = .ok (.aload_n 0, 1) := by decide +kernel
theorem dX6_swap_98 : decode cX6_swap 98 = .ok (.getfield 7, 3) := by decide +kernel
theorem dX6_swap_101 : decode cX6_swap 101 = .ok (.iload 7, 2) := by decide +kernel
theorem dX6_swap_103 : decode cX6_swap 103 = .ok (.iload 6, 2) := by decide +kernel
theorem dX6_swap_105 : decode cX6_swap 105 = .ok (.iadd, 1) := by decide +kernel
theorem dX6_swap_106 : decode cX6_swap 106 = .ok (.iaload, 1) := by decide +kernel
theorem dX6_swap_107 : decode cX6_swap 107 = .ok (.iastore, 1) := by decide +kernel
theorem dX6_swap_108 : decode cX6_swap 108 = .ok (.aload_n 0, 1) := by decide +kernel
theorem dX6_swap_109 : decode cX6_swap 109 = .ok (.getfield 7, 3) := by decide +kernel
theorem dX6_swap_112 : decode cX6_swap 112 = .ok (.bipush 110, 2) := by decide +kernel
theorem dX6_swap_114 : decode cX6_swap 114 = .ok (.iload 7, 2) := by decide +kernel
theorem dX6_swap_116 : decode cX6_swap 116 = .ok (.iadd, 1) := by decide +kernel
theorem dX6_swap_117 : decode cX6_swap 117 = .ok (.iload 6, 2) := by decide +kernel
theorem dX6_swap_119 : decode cX6_swap 119 = .ok (.iadd, 1) := by decide +kernel
theorem dX6_swap_120 : decode cX6_swap 120 = .ok (.aload_n 0, 1) := by decide +kernel
theorem dX6_swap_121 : decode cX6_swap 121 = .ok (.getfield 7, 3) := by decide +kernel
theorem dX6_swap_124 : decode cX6_swap 124 = .ok (.iload 7, 2) := by decide +kernel
theorem dX6_swap_126 : decode cX6_swap 126 = .ok (.iload 5, 2) := by decide +kernel
theorem dX6_swap_128 : decode cX6_swap 128 = .ok (.iadd, 1) := by decide +kernel
theorem dX6_swap_129 : decode cX6_swap 129 = .ok (.iaload, 1) := by decide +kernel
theorem dX6_swap_130 : decode cX6_swap 130 = .ok (.iastore, 1) := by decide +kernel
theorem dX6_swap_131 : decode cX6_swap 131 = .ok (.iinc 7 5, 3) := by decide +kernel
theorem dX6_swap_134 : decode cX6_swap 134 = .ok (.goto (-56), 3) := by decide +kernel
theorem dX6_swap_137 : decode cX6_swap 137 = .ok (.aload_n 0, 1) := by decide +kernel
theorem dX6_swap_138 : decode cX6_swap 138 = .ok (.bipush 110, 2) := by decide +kernel
theorem dX6_swap_140 : decode cX6_swap 140 = .ok (.iload_n 1, 1) := by decide +kernel
theorem dX6_swap_141 : decode cX6_swap 141 = .ok (.invokevirtual 187, 3) := by decide +kernel
theorem dX6_swap_144 : decode cX6_swap 144 = .ok (.istore 7, 2) := by decide +kernel
theorem dX6_swap_146 : decode cX6_swap 146 = .ok (.iload 7, 2) := by decide +kernel
theorem dX6_swap_148 : decode cX6_swap 148 = .ok (.iload_n 3, 1) := by decide +kernel
theorem dX6_swap_149 : decode cX6_swap 149 = .ok (.if_icmp .ge 14, 3) := by decide +kernel
theorem dX6_swap_152 : decode cX6_swap 152 = .ok (.bipush 10, 2) := by decide +kernel
theorem dX6_swap_154 : decode cX6_swap 154 = .ok (.iload 5, 2) := by decide +kernel
theorem dX6_swap_156 : decode cX6_swap 156 = .ok (.imul, 1) := by decide +kernel
theorem dX6_swap_157 : decode cX6_swap 157 = .ok (.iload 6, 2) := by decide +kernel
theorem dX6_swap_159 : decode cX6_swap 159 = .ok (.iadd, 1) := by decide +kernel
theorem dX6_swap_160 : decode cX6_swap 160 = .ok (.goto 5, 3) := by decide +kernel
theorem dX6_swap_163 : decode cX6_swap 163 = .ok (.iload 4, 2) := by decide +kernel
theorem dX6_swap_165 : decode cX6_swap 165 = .ok (.istore 4, 2) := by decide +kernel
theorem dX6_swap_167 : decode cX6_swap 167 = .ok (.iload 7, 2) := by decide +kernel
theorem dX6_swap_169 : decode cX6_swap 169 = .ok (.iload_n 3, 1) := by decide +kernel
theorem dX6_swap_170 : decode cX6_swap 170 = .ok (.if_icmp .ge 8, 3) := by decide +kernel
theorem dX6_swap_173 : decode cX6_swap 173 = .ok (.iload 7, 2) := by decide +kernel
theorem dX6_swap_175 : decode cX6_swap 175 = .ok (.goto 4, 3) := by decide +kernel
theorem dX6_swap_178 : decode cX6_swap 178 = .ok (.iload_n 3, 1) := by decide +kernel
theorem dX6_swap_179 : decode cX6_swap 179 = .ok (.istore_n 3, 1) := by decide +kernel
theorem dX6_swap_180 : decode cX6_swap 180 = .ok (.iinc 6 1, 3) := by decide +kernel
theorem dX6_swap_183 : decode cX6_swap 183 = .ok (.goto (-127), 3) := by decide +kernel
theorem dX6_swap_186 : decode cX6_swap 186 = .ok (.iinc 5 1, 3) := by decide +kernel
theorem dX6_swap_189 : decode cX6_swap 189 = .ok (.goto (-151), 3) := by decide +kernel
theorem dX6_swap_192 : decode cX6_swap 192 = .ok (.iload 4, 2) := by decide +kernel
theorem dX6_swap_194 : decode cX6_swap 194 = .ok (.bipush (-4), 2) := by decide +kernel
theorem dX6_swap_196 : decode cX6_swap 196 = .ok (.if_icmp .eq 7, 3) := by decide +kernel
theorem dX6_swap_199 : decode cX6_swap 199 = .ok (.iload_n 2, 1) := by decide +kernel
theorem dX6_swap_200 : decode cX6_swap 200 = .ok (.ifCond .ne 8, 3) := by decide +kernel
theorem dX6_swap_203 : decode cX6_swap 203 = .ok (.iload 4, 2) := by decide +kernel
theorem dX6_swap_205 : decode cX6_swap 205 = .ok (.goto 4, 3) := by decide +kernel
theorem dX6_swap_208 : decode cX6_swap 208 = .ok (.iload_n 3, 1) := by decide +kernel
theorem dX6_swap_209 : decode cX6_swap 209 = .ok (.ireturn, 1) := by decide +kernel
theorem dX6_leastAt_0 : decode cX6_leastAt 0 = .ok (.ldc 190, 2) := by decide +kernel
theorem dX6_leastAt_2 : decode cX6_leastAt 2 = .ok (.istore 7, 2) := by decide +kernel
theorem dX6_leastAt_4 : decode cX6_leastAt 4 = .ok (.iconst 0, 1) := by decide +kernel
theorem dX6_leastAt_5 : decode cX6_leastAt 5 = .ok (.istore 8, 2) := by decide +kernel
theorem dX6_leastAt_7 : decode cX6_leastAt 7 = .ok (.aload_n 0, 1) := by decide +kernel
theorem dX6_leastAt_8 : decode cX6_leastAt 8 = .ok (.iconst 0, 1) := by decide +kernel
theorem dX6_leastAt_9 : decode cX6_leastAt 9 = .ok (.bipush 110, 2) := by decide +kernel
theorem dX6_leastAt_11 : decode cX6_leastAt 11 = .ok (.invokevirtual 167, 3) := by decide +kernel
theorem dX6_leastAt_14 : decode cX6_leastAt 14 = .ok (.iconst 0, 1) := by decide +kernel
theorem dX6_leastAt_15 : decode cX6_leastAt 15 = .ok (.istore 9, 2) := by decide +kernel
theorem dX6_leastAt_17 : decode cX6_leastAt 17 = .ok (.iload 9, 2) := by decide +kernel
theorem dX6_leastAt_19 : decode cX6_leastAt 19 = .ok (.iload_n 3, 1) := by decide +kernel
theorem dX6_leastAt_20 : decode cX6_leastAt 20 = .ok (.if_icmp .ge 80, 3) := by decide +kernel
theorem dX6_leastAt_23 : decode cX6_leastAt 23 = .ok (.aload_n 0, 1) := by decide +kernel
theorem dX6_leastAt_24 : decode cX6_leastAt 24 = .ok (.getfield 7, 3) := by decide +kernel
theorem dX6_leastAt_27 : decode cX6_leastAt 27 = .ok (.bipush 110, 2) := by decide +kernel
theorem dX6_leastAt_29 : decode cX6_leastAt 29 = .ok (.iload_n 1, 1) := by decide +kernel
theorem dX6_leastAt_30 : decode cX6_leastAt 30 = .ok (.iadd, 1) := by decide +kernel
theorem dX6_leastAt_31 : decode cX6_leastAt 31 = .ok (.iload_n 2, 1) := by decide +kernel
theorem dX6_leastAt_32 : decode cX6_leastAt 32 = .ok (.iload 9, 2) := by decide +kernel
theorem dX6_leastAt_34 : decode cX6_leastAt 34 = .ok (.iadd, 1) := by decide +kernel
theorem dX6_leastAt_35 : decode cX6_leastAt 35 = .ok (.iastore, 1) := by decide +kernel
theorem dX6_leastAt_36 : decode cX6_leastAt 36 = .ok (.iload 5, 2) := by decide +kernel
theorem dX6_leastAt_38 : decode cX6_leastAt 38 = .ok (.ifCond .eq 14, 3) := by decide +kernel
theorem dX6_leastAt_41 : decode cX6_leastAt 41 = .ok (.aload_n 0, 1) := by decide +kernel
theorem dX6_leastAt_42 : decode cX6_leastAt 42 = .ok (.bipush 110, 2) := by decide +kernel
theorem dX6_leastAt_44 : decode cX6_leastAt 44 = .ok (.iload 4, 2) := by decide +kernel
theorem dX6_leastAt_46 : decode cX6_leastAt 46 = .ok (.invokevirtual 176, 3) := by decide +kernel
theorem dX6_leastAt_49 : decode cX6_leastAt 49 = .ok (.goto 11, 3) := by decide +kernel
theorem dX6_leastAt_52 : decode cX6_leastAt 52 = .ok (.aload_n 0, 1) := by decide +kernel
theorem dX6_leastAt_53 : decode cX6_leastAt 53 = .ok (.bipush 110, 2) := by decide +kernel
theorem dX6_leastAt_55 : decode cX6_leastAt 55 = .ok (.iload 4, 2) := by decide +kernel
theorem dX6_leastAt_57 : decode cX6_leastAt 57 = .ok (.invokevirtual 187, 3) := by decide +kernel
theorem dX6_leastAt_60 : decode cX6_leastAt 60 = .ok (.istore 10, 2) := by decide +kernel
theorem dX6_leastAt_62 : decode cX6_leastAt 62 = .ok (.iload 10, 2) := by decide +kernel
theorem dX6_leastAt_64 : decode cX6_leastAt 64 = .ok (.iload 7, 2) := by decide +kernel
theorem dX6_leastAt_66 : decode cX6_leastAt 66 = .ok (.if_icmp .ge 8, 3) := by decide +kernel
theorem dX6_leastAt_69 : decode cX6_leastAt 69 = .ok (.iload 9, 2) := by decide +kernel
theorem dX6_leastAt_71 : decode cX6_leastAt 71 = .ok (.goto 5, 3) := by decide +kernel
theorem dX6_leastAt_74 : decode cX6_leastAt 74 = .ok (.iload 8, 2) := by decide +kernel
theorem dX6_leastAt_76 : decode cX6_leastAt 76 = .ok (.istore 8, 2) := by decide +kernel
theorem dX6_leastAt_78 : decode cX6_leastAt 78 = .ok (.iload 10, 2) := by decide +kernel
theorem dX6_leastAt_80 : decode cX6_leastAt 80 = .ok (.iload 7, 2) := by decide +kernel
theorem dX6_leastAt_82 : decode cX6_leastAt 82 = .ok (.if_icmp .ge 8, 3) := by decide +kernel
theorem dX6_leastAt_85 : decode cX6_leastAt 85 = .ok (.iload 10, 2) := by decide +kernel
theorem dX6_leastAt_87 : decode cX6_leastAt 87 = .ok (.goto 5, 3) := by decide +kernel
theorem dX6_leastAt_90 : decode cX6_leastAt 90 = .ok (.iload 7, 2) := by decide +kernel
theorem dX6_leastAt_92 : decode cX6_leastAt 92 = .ok (.istore 7, 2) := by decide +kernel
theorem dX6_leastAt_94 : decode cX6_leastAt 94 = .ok (.iinc 9 1, 3) := by decide +kernel
theorem dX6_leastAt_97 : decode cX6_leastAt 97 = .ok (.goto (-80), 3) := by decide +kernel
theorem dX6_leastAt_100 : decode cX6_leastAt 100 = .ok (.iload 6, 2) := by decide +kernel
theorem dX6_leastAt_102 : decode cX6_leastAt 102 = .ok (.ifCond .ne 8, 3) := by decide +kernel
theorem dX6_leastAt_105 : decode cX6_leastAt 105 = .ok (.iload 8, 2) := by decide +kernel
theorem dX6_leastAt_107 : decode cX6_leastAt 107 = .ok (.goto 5, 3) := by decide +kernel
theorem dX6_leastAt_110 : decode cX6_leastAt 110 = .ok (.iload 7, 2) := by decide +kernel
theorem dX6_leastAt_112 : decode cX6_leastAt 112 = .ok (.ireturn, 1) := by decide +kernel
theorem dX6_kind_0 : decode cX6_kind 0 = .ok (.aload_n 0, 1) := by decide +kernel
theorem dX6_kind_1 : decode cX6_kind 1 = .ok (.iload_n 1, 1) := by decide +kernel
theorem dX6_kind_2 : decode cX6_kind 2 = .ok (.invokevirtual 144, 3) := by decide +kernel
theorem dX6_kind_5 : decode cX6_kind 5 = .ok (.ifCond .eq 38, 3) := by decide +kernel
theorem dX6_kind_8 : decode cX6_kind 8 = .ok (.iload_n 2, 1) := by decide +kernel
theorem dX6_kind_9 : decode cX6_kind 9 = .ok (.i2l, 1) := by decide +kernel
theorem dX6_kind_10 : decode cX6_kind 10 = .ok (.lconst 0, 1) := by decide +kernel
theorem dX6_kind_11 : decode cX6_kind 11 = .ok (.ldc2_w 185, 3) := by decide +kernel
theorem dX6_kind_14 : decode cX6_kind 14 = .ok (.invokestatic 46, 3) := by decide +kernel
theorem dX6_kind_17 : decode cX6_kind 17 = .ok (.ifCond .eq 26, 3) := by decide +kernel
theorem dX6_kind_20 : decode cX6_kind 20 = .ok (.iload_n 3, 1) := by decide +kernel
theorem dX6_kind_21 : decode cX6_kind 21 = .ok (.i2l, 1) := by decide +kernel
theorem dX6_kind_22 : decode cX6_kind 22 = .ok (.lconst 0, 1) := by decide +kernel
theorem dX6_kind_23 : decode cX6_kind 23 = .ok (.lconst 1, 1) := by decide +kernel
theorem dX6_kind_24 : decode cX6_kind 24 = .ok (.invokestatic 46, 3) := by decide +kernel
theorem dX6_kind_27 : decode cX6_kind 27 = .ok (.ifCond .eq 16, 3) := by decide +kernel
theorem dX6_kind_30 : decode cX6_kind 30 = .ok (.aload_n 0, 1) := by decide +kernel
theorem dX6_kind_31 : decode cX6_kind 31 = .ok (.iload_n 1, 1) := by decide +kernel
theorem dX6_kind_32 : decode cX6_kind 32 = .ok (.iconst 0, 1) := by decide +kernel
theorem dX6_kind_33 : decode cX6_kind 33 = .ok (.iconst 4, 1) := by decide +kernel
theorem dX6_kind_34 : decode cX6_kind 34 = .ok (.iload_n 2, 1) := by decide +kernel
theorem dX6_kind_35 : decode cX6_kind 35 = .ok (.iconst 0, 1) := by decide +kernel
theorem dX6_kind_36 : decode cX6_kind 36 = .ok (.iload_n 3, 1) := by decide +kernel
theorem dX6_kind_37 : decode cX6_kind 37 = .ok (.invokevirtual 191, 3) := by decide +kernel
theorem dX6_kind_40 : decode cX6_kind 40 = .ok (.goto 4, 3) := by decide +kernel
theorem dX6_kind_43 : decode cX6_kind 43 = .ok (.iconst (-1), 1) := by decide +kernel
theorem dX6_kind_44 : decode cX6_kind 44 = .ok (.ireturn, 1) := by decide +kernel
theorem dX6_begin_0 : decode cX6_begin 0 = .ok (.aload_n 0, 1) := by decide +kernel
theorem dX6_begin_1 : decode cX6_begin 1 = .ok (.iload_n 1, 1) := by decide +kernel
theorem dX6_begin_2 : decode cX6_begin 2 = .ok (.invokevirtual 144, 3) := by decide +kernel
theorem dX6_begin_5 : decode cX6_begin 5 = .ok (.ifCond .eq 48, 3) := by decide +kernel
theorem dX6_begin_8 : decode cX6_begin 8 = .ok (.iload_n 2, 1) := by decide +kernel
theorem dX6_begin_9 : decode cX6_begin 9 = .ok (.i2l, 1) := by decide +kernel
theorem dX6_begin_10 : decode cX6_begin 10 = .ok (.lconst 0, 1) := by decide +kernel
theorem dX6_begin_11 : decode cX6_begin 11 = .ok (.ldc2_w 185, 3) := by decide +kernel
theorem dX6_begin_14 : decode cX6_begin 14 = .ok (.invokestatic 46, 3) := by decide +kernel
theorem dX6_begin_17 : decode cX6_begin 17 = .ok (.ifCond .eq 36, 3) := by decide +kernel
theorem dX6_begin_20 : decode cX6_begin 20 = .ok (.iload_n 3, 1) := by decide +kernel
theorem dX6_begin_21 : decode cX6_begin 21 = .ok (.i2l, 1) := by decide +kernel
theorem dX6_begin_22 : decode cX6_begin 22 = .ok (.lconst 0, 1) := by decide +kernel
theorem dX6_begin_23 : decode cX6_begin 23 = .ok (.lconst 1, 1) := by decide +kernel
theorem dX6_begin_24 : decode cX6_begin 24 = .ok (.invokestatic 46, 3) := by decide +kernel
theorem dX6_begin_27 : decode cX6_begin 27 = .ok (.ifCond .eq 26, 3) := by decide +kernel
theorem dX6_begin_30 : decode cX6_begin 30 = .ok (.aload_n 0, 1) := by decide +kernel
theorem dX6_begin_31 : decode cX6_begin 31 = .ok (.bipush 10, 2) := by decide +kernel
theorem dX6_begin_33 : decode cX6_begin 33 = .ok (.iload_n 1, 1) := by decide +kernel
theorem dX6_begin_34 : decode cX6_begin 34 = .ok (.iadd, 1) := by decide +kernel
theorem dX6_begin_35 : decode cX6_begin 35 = .ok (.iconst 0, 1) := by decide +kernel
theorem dX6_begin_36 : decode cX6_begin 36 = .ok (.aload_n 0, 1) := by decide +kernel
theorem dX6_begin_37 : decode cX6_begin 37 = .ok (.getfield 7, 3) := by decide +kernel
theorem dX6_begin_40 : decode cX6_begin 40 = .ok (.iconst 5, 1) := by decide +kernel
theorem dX6_begin_41 : decode cX6_begin 41 = .ok (.iload_n 1, 1) := by decide +kernel
theorem dX6_begin_42 : decode cX6_begin 42 = .ok (.iadd, 1) := by decide +kernel
theorem dX6_begin_43 : decode cX6_begin 43 = .ok (.iaload, 1) := by decide +kernel
theorem dX6_begin_44 : decode cX6_begin 44 = .ok (.iload_n 2, 1) := by decide +kernel
theorem dX6_begin_45 : decode cX6_begin 45 = .ok (.iconst 0, 1) := by decide +kernel
theorem dX6_begin_46 : decode cX6_begin 46 = .ok (.iload_n 3, 1) := by decide +kernel
theorem dX6_begin_47 : decode cX6_begin 47 = .ok (.invokevirtual 191, 3) := by decide +kernel
theorem dX6_begin_50 : decode cX6_begin 50 = .ok (.goto 4, 3) := by decide +kernel
theorem dX6_begin_53 : decode cX6_begin 53 = .ok (.iconst (-1), 1) := by decide +kernel
theorem dX6_begin_54 : decode cX6_begin 54 = .ok (.ireturn, 1) := by decide +kernel
theorem dX6_file_0 : decode cX6_file 0 = .ok (.aload_n 0, 1) := by decide +kernel
theorem dX6_file_1 : decode cX6_file 1 = .ok (.iload_n 1, 1) := by decide +kernel
theorem dX6_file_2 : decode cX6_file 2 = .ok (.invokevirtual 144, 3) := by decide +kernel
theorem dX6_file_5 : decode cX6_file 5 = .ok (.ifCond .eq 49, 3) := by decide +kernel
theorem dX6_file_8 : decode cX6_file 8 = .ok (.iload_n 2, 1) := by decide +kernel
theorem dX6_file_9 : decode cX6_file 9 = .ok (.i2l, 1) := by decide +kernel
theorem dX6_file_10 : decode cX6_file 10 = .ok (.lconst 0, 1) := by decide +kernel
theorem dX6_file_11 : decode cX6_file 11 = .ok (.ldc2_w 185, 3) := by decide +kernel
theorem dX6_file_14 : decode cX6_file 14 = .ok (.invokestatic 46, 3) := by decide +kernel
theorem dX6_file_17 : decode cX6_file 17 = .ok (.ifCond .eq 37, 3) := by decide +kernel
theorem dX6_file_20 : decode cX6_file 20 = .ok (.iload_n 3, 1) := by decide +kernel
theorem dX6_file_21 : decode cX6_file 21 = .ok (.i2l, 1) := by decide +kernel
theorem dX6_file_22 : decode cX6_file 22 = .ok (.lconst 0, 1) := by decide +kernel
theorem dX6_file_23 : decode cX6_file 23 = .ok (.lconst 1, 1) := by decide +kernel
theorem dX6_file_24 : decode cX6_file 24 = .ok (.invokestatic 46, 3) := by decide +kernel
theorem dX6_file_27 : decode cX6_file 27 = .ok (.ifCond .eq 27, 3) := by decide +kernel
theorem dX6_file_30 : decode cX6_file 30 = .ok (.aload_n 0, 1) := by decide +kernel
theorem dX6_file_31 : decode cX6_file 31 = .ok (.bipush 15, 2) := by decide +kernel
theorem dX6_file_33 : decode cX6_file 33 = .ok (.iload_n 1, 1) := by decide +kernel
theorem dX6_file_34 : decode cX6_file 34 = .ok (.iadd, 1) := by decide +kernel
theorem dX6_file_35 : decode cX6_file 35 = .ok (.bipush (-12), 2) := by decide +kernel
theorem dX6_file_37 : decode cX6_file 37 = .ok (.aload_n 0, 1) := by decide +kernel
theorem dX6_file_38 : decode cX6_file 38 = .ok (.getfield 7, 3) := by decide +kernel
theorem dX6_file_41 : decode cX6_file 41 = .ok (.iconst 5, 1) := by decide +kernel
theorem dX6_file_42 : decode cX6_file 42 = .ok (.iload_n 1, 1) := by decide +kernel
theorem dX6_file_43 : decode cX6_file 43 = .ok (.iadd, 1) := by decide +kernel
theorem dX6_file_44 : decode cX6_file 44 = .ok (.iaload, 1) := by decide +kernel
theorem dX6_file_45 : decode cX6_file 45 = .ok (.iload_n 2, 1) := by decide +kernel
theorem dX6_file_46 : decode cX6_file 46 = .ok (.iconst 1, 1) := by decide +kernel
theorem dX6_file_47 : decode cX6_file 47 = .ok (.iload_n 3, 1) := by decide +kernel
theorem dX6_file_48 : decode cX6_file 48 = .ok (.invokevirtual 191, 3) := by decide +kernel
theorem dX6_file_51 : decode cX6_file 51 = .ok (.goto 4, 3) := by decide +kernel
theorem dX6_file_54 : decode cX6_file 54 = .ok (.iconst (-1), 1) := by decide +kernel
theorem dX6_file_55 : decode cX6_file 55 = .ok (.ireturn, 1) := by decide +kernel
theorem dX6_lowest_0 : decode cX6_lowest 0 = .ok (.lload_n 0, 1) := by decide +kernel
theorem dX6_lowest_1 : decode cX6_lowest 1 = .ok (.lstore 5, 2) := by decide +kernel
theorem dX6_lowest_3 : decode cX6_lowest 3 = .ok (.lload_n 2, 1) := by decide +kernel
theorem dX6_lowest_4 : decode cX6_lowest 4 = .ok (.lstore 7, 2) := by decide +kernel
theorem dX6_lowest_6 : decode cX6_lowest 6 = .ok (.lload 7, 2) := by decide +kernel
theorem dX6_lowest_8 : decode cX6_lowest 8 = .ok (.lconst 0, 1) := by decide +kernel
theorem dX6_lowest_9 : decode cX6_lowest 9 = .ok (.lcmp, 1) := by decide +kernel
theorem dX6_lowest_10 : decode cX6_lowest 10 = .ok (.ifCond .eq 21, 3) := by decide +kernel
theorem dX6_lowest_13 : decode cX6_lowest 13 = .ok (.lload 5, 2) := by decide +kernel
theorem dX6_lowest_15 : decode cX6_lowest 15 = .ok (.lload 7, 2) := by decide +kernel
theorem dX6_lowest_17 : decode cX6_lowest 17 = .ok (.lrem, 1) := by decide +kernel
theorem dX6_lowest_18 : decode cX6_lowest 18 = .ok (.lstore 9, 2) := by decide +kernel
theorem dX6_lowest_20 : decode cX6_lowest 20 = .ok (.lload 7, 2) := by decide +kernel
theorem dX6_lowest_22 : decode cX6_lowest 22 = .ok (.lstore 5, 2) := by decide +kernel
theorem dX6_lowest_24 : decode cX6_lowest 24 = .ok (.lload 9, 2) := by decide +kernel
theorem dX6_lowest_26 : decode cX6_lowest 26 = .ok (.lstore 7, 2) := by decide +kernel
theorem dX6_lowest_28 : decode cX6_lowest 28 = .ok (.goto (-22), 3) := by decide +kernel
theorem dX6_lowest_31 : decode cX6_lowest 31 = .ok (.iload 4, 2) := by decide +kernel
theorem dX6_lowest_33 : decode cX6_lowest 33 = .ok (.ifCond .ne 7, 3) := by decide +kernel
theorem dX6_lowest_36 : decode cX6_lowest 36 = .ok (.lload_n 0, 1) := by decide +kernel
theorem dX6_lowest_37 : decode cX6_lowest 37 = .ok (.goto 4, 3) := by decide +kernel
theorem dX6_lowest_40 : decode cX6_lowest 40 = .ok (.lload_n 2, 1) := by decide +kernel
theorem dX6_lowest_41 : decode cX6_lowest 41 = .ok (.lload 5, 2) := by decide +kernel
theorem dX6_lowest_43 : decode cX6_lowest 43 = .ok (.ldiv, 1) := by decide +kernel
theorem dX6_lowest_44 : decode cX6_lowest 44 = .ok (.lreturn, 1) := by decide +kernel
theorem dX6_byMisses_0 : decode cX6_byMisses 0 = .ok (.lconst 0, 1) := by decide +kernel
theorem dX6_byMisses_1 : decode cX6_byMisses 1 = .ok (.lstore 6, 2) := by decide +kernel
theorem dX6_byMisses_3 : decode cX6_byMisses 3 = .ok (.lconst 1, 1) := by decide +kernel
theorem dX6_byMisses_4 : decode cX6_byMisses 4 = .ok (.lstore 8, 2) := by decide +kernel
theorem dX6_byMisses_6 : decode cX6_byMisses 6 = .ok (.iconst 0, 1) := by decide +kernel
theorem dX6_byMisses_7 : decode cX6_byMisses 7 = .ok (.istore 10, 2) := by decide +kernel
theorem dX6_byMisses_9 : decode cX6_byMisses 9 = .ok (.iload 10, 2) := by decide +kernel
theorem dX6_byMisses_11 : decode cX6_byMisses 11 = .ok (.iload 4, 2) := by decide +kernel
theorem dX6_byMisses_13 : decode cX6_byMisses 13 = .ok (.if_icmp .ge 17, 3) := by decide +kernel
theorem dX6_byMisses_16 : decode cX6_byMisses 16 = .ok (.lload 8, 2) := by decide +kernel
theorem dX6_byMisses_18 : decode cX6_byMisses 18 = .ok (.ldc2_w 195, 3) := by decide +kernel
theorem dX6_byMisses_21 : decode cX6_byMisses 21 = .ok (.lmul, 1) := by decide +kernel
theorem dX6_byMisses_22 : decode cX6_byMisses 22 = .ok (.lstore 8, 2) := by decide +kernel
theorem dX6_byMisses_24 : decode cX6_byMisses 24 = .ok (.iinc 10 1, 3) := by decide +kernel
theorem dX6_byMisses_27 : decode cX6_byMisses 27 = .ok (.goto (-18), 3) := by decide +kernel
theorem dX6_byMisses_30 : decode cX6_byMisses 30 = .ok (.iconst 0, 1) := by decide +kernel
theorem dX6_byMisses_31 : decode cX6_byMisses 31 = .ok (.istore 10, 2) := by decide +kernel
theorem dX6_byMisses_33 : decode cX6_byMisses 33 = .ok (.iload 10, 2) := by decide +kernel
theorem dX6_byMisses_35 : decode cX6_byMisses 35 = .ok (.iconst 1, 1) := by decide +kernel
theorem dX6_byMisses_36 : decode cX6_byMisses 36 = .ok (.iload 4, 2) := by decide +kernel
theorem dX6_byMisses_38 : decode cX6_byMisses 38 = .ok (.ishl, 1) := by decide +kernel
theorem dX6_byMisses_39 : decode cX6_byMisses 39 = .ok (.if_icmp .ge 126, 3) := by decide +kernel
theorem dX6_byMisses_42 : decode cX6_byMisses 42 = .ok (.lconst 1, 1) := by decide +kernel
theorem dX6_byMisses_43 : decode cX6_byMisses 43 = .ok (.lstore 11, 2) := by decide +kernel
theorem dX6_byMisses_45 : decode cX6_byMisses 45 = .ok (.aload_n 0, 1) := by decide +kernel
theorem dX6_byMisses_46 : decode cX6_byMisses 46 = .ok (.iconst 0, 1) := by decide +kernel
theorem dX6_byMisses_47 : decode cX6_byMisses 47 = .ok (.bipush 88, 2) := by decide +kernel
theorem dX6_byMisses_49 : decode cX6_byMisses 49 = .ok (.invokevirtual 167, 3) := by decide +kernel
theorem dX6_byMisses_52 : decode cX6_byMisses 52 = .ok (.iconst 0, 1) := by decide +kernel
theorem dX6_byMisses_53 : decode cX6_byMisses 53 = .ok (.istore 13, 2) := by decide +kernel
theorem dX6_byMisses_55 : decode cX6_byMisses 55 = .ok (.iload 13, 2) := by decide +kernel
theorem dX6_byMisses_57 : decode cX6_byMisses 57 = .ok (.iload 4, 2) := by decide +kernel
theorem dX6_byMisses_59 : decode cX6_byMisses 59 = .ok (.if_icmp .ge 58, 3) := by decide +kernel
theorem dX6_byMisses_62 : decode cX6_byMisses 62 = .ok (.iload 10, 2) := by decide +kernel
theorem dX6_byMisses_64 : decode cX6_byMisses 64 = .ok (.iload 13, 2) := by decide +kernel
theorem dX6_byMisses_66 : decode cX6_byMisses 66 = .ok (.ishr, 1) := by decide +kernel
theorem dX6_byMisses_67 : decode cX6_byMisses 67 = .ok (.iconst 1, 1) := by decide +kernel
theorem dX6_byMisses_68 : decode cX6_byMisses 68 = .ok (.iand, 1) := by decide +kernel
theorem dX6_byMisses_69 : decode cX6_byMisses 69 = .ok (.iconst 1, 1) := by decide +kernel
theorem dX6_byMisses_70 : decode cX6_byMisses 70 = .ok (.if_icmp .ne 7, 3) := by decide +kernel
theorem dX6_byMisses_73 : decode cX6_byMisses 73 = .ok (.iconst 1, 1) := by decide +kernel
theorem dX6_byMisses_74 : decode cX6_byMisses 74 = .ok (.goto 4, 3) := by decide +kernel
theorem dX6_byMisses_77 : decode cX6_byMisses 77 = .ok (.iconst 0, 1) := by decide +kernel
theorem dX6_byMisses_78 : decode cX6_byMisses 78 = .ok (.istore 14, 2) := by decide +kernel
theorem dX6_byMisses_80 : decode cX6_byMisses 80 = .ok (.lload 11, 2) := by decide +kernel
theorem dX6_byMisses_82 : decode cX6_byMisses 82 = .ok (.iload 14, 2) := by decide +kernel
theorem dX6_byMisses_84 : decode cX6_byMisses 84 = .ok (.ifCond .eq 8, 3) := by decide +kernel
theorem dX6_byMisses_87 : decode cX6_byMisses 87 = .ok (.iload_n 1, 1) := by decide +kernel
theorem dX6_byMisses_88 : decode cX6_byMisses 88 = .ok (.i2l, 1) := by decide +kernel
theorem dX6_byMisses_89 : decode cX6_byMisses 89 = .ok (.goto 8, 3) := by decide +kernel
theorem dX6_byMisses_92 : decode cX6_byMisses 92 = .ok (.bipush 10, 2) := by decide +kernel
theorem dX6_byMisses_94 : decode cX6_byMisses 94 = .ok (.iload_n 1, 1) := by decide +kernel
theorem dX6_byMisses_95 : decode cX6_byMisses 95 = .ok (.isub, 1) := by decide +kernel
theorem dX6_byMisses_96 : decode cX6_byMisses 96 = .ok (.i2l, 1) := by decide +kernel
theorem dX6_byMisses_97 : decode cX6_byMisses 97 = .ok (.lmul, 1) := by decide +kernel
theorem dX6_byMisses_98 : decode cX6_byMisses 98 = .ok (.lstore 11, 2) := by decide +kernel
theorem dX6_byMisses_100 : decode cX6_byMisses 100 = .ok (.iload 14, 2) := by decide +kernel
theorem dX6_byMisses_102 : decode cX6_byMisses 102 = .ok (.ifCond .ne 9, 3) := by decide +kernel
theorem dX6_byMisses_105 : decode cX6_byMisses 105 = .ok (.aload_n 0, 1) := by decide +kernel
theorem dX6_byMisses_106 : decode cX6_byMisses 106 = .ok (.bipush 88, 2) := by decide +kernel
theorem dX6_byMisses_108 : decode cX6_byMisses 108 = .ok (.invokevirtual 164, 3) := by decide +kernel
theorem dX6_byMisses_111 : decode cX6_byMisses 111 = .ok (.iinc 13 1, 3) := by decide +kernel
theorem dX6_byMisses_114 : decode cX6_byMisses 114 = .ok (.goto (-59), 3) := by decide +kernel
theorem dX6_byMisses_117 : decode cX6_byMisses 117 = .ok (.lload 6, 2) := by decide +kernel
theorem dX6_byMisses_119 : decode cX6_byMisses 119 = .ok (.lload 11, 2) := by decide +kernel
theorem dX6_byMisses_121 : decode cX6_byMisses 121 = .ok (.iload_n 2, 1) := by decide +kernel
theorem dX6_byMisses_122 : decode cX6_byMisses 122 = .ok (.bipush (-4), 2) := by decide +kernel
theorem dX6_byMisses_124 : decode cX6_byMisses 124 = .ok (.if_icmp .ne 12, 3) := by decide +kernel
theorem dX6_byMisses_127 : decode cX6_byMisses 127 = .ok (.aload_n 0, 1) := by decide +kernel
theorem dX6_byMisses_128 : decode cX6_byMisses 128 = .ok (.bipush 88, 2) := by decide +kernel
theorem dX6_byMisses_130 : decode cX6_byMisses 130 = .ok (.invokevirtual 135, 3) := by decide +kernel
theorem dX6_byMisses_133 : decode cX6_byMisses 133 = .ok (.goto 21, 3) := by decide +kernel
theorem dX6_byMisses_136 : decode cX6_byMisses 136 = .ok (.aload_n 0, 1) := by decide +kernel
theorem dX6_byMisses_137 : decode cX6_byMisses 137 = .ok (.getfield 7, 3) := by decide +kernel
theorem dX6_byMisses_140 : decode cX6_byMisses 140 = .ok (.bipush 98, 2) := by decide +kernel
theorem dX6_byMisses_142 : decode cX6_byMisses 142 = .ok (.iload_n 2, 1) := by decide +kernel
theorem dX6_byMisses_143 : decode cX6_byMisses 143 = .ok (.iadd, 1) := by decide +kernel
theorem dX6_byMisses_144 : decode cX6_byMisses 144 = .ok (.iaload, 1) := by decide +kernel
theorem dX6_byMisses_145 : decode cX6_byMisses 145 = .ok (.iload_n 3, 1) := by decide +kernel
theorem dX6_byMisses_146 : decode cX6_byMisses 146 = .ok (.if_icmp .ne 7, 3) := by decide +kernel
theorem dX6_byMisses_149 : decode cX6_byMisses 149 = .ok (.iconst 1, 1) := by decide +kernel
theorem dX6_byMisses_150 : decode cX6_byMisses 150 = .ok (.goto 4, 3) := by decide +kernel
theorem dX6_byMisses_153 : decode cX6_byMisses 153 = .ok (.iconst 0, 1) := by decide +kernel
theorem dX6_byMisses_154 : decode cX6_byMisses 154 = .ok (.i2l, 1) := by decide +kernel
theorem dX6_byMisses_155 : decode cX6_byMisses 155 = .ok (.lmul, 1) := by decide +kernel
theorem dX6_byMisses_156 : decode cX6_byMisses 156 = .ok (.ladd, 1) := by decide +kernel
theorem dX6_byMisses_157 : decode cX6_byMisses 157 = .ok (.lstore 6, 2) := by decide +kernel
theorem dX6_byMisses_159 : decode cX6_byMisses 159 = .ok (.iinc 10 1, 3) := by decide +kernel
theorem dX6_byMisses_162 : decode cX6_byMisses 162 = .ok (.goto (-129), 3) := by decide +kernel
theorem dX6_byMisses_165 : decode cX6_byMisses 165 = .ok (.lload 6, 2) := by decide +kernel
theorem dX6_byMisses_167 : decode cX6_byMisses 167 = .ok (.lload 8, 2) := by decide +kernel
theorem dX6_byMisses_169 : decode cX6_byMisses 169 = .ok (.iload 5, 2) := by decide +kernel
theorem dX6_byMisses_171 : decode cX6_byMisses 171 = .ok (.invokestatic 197, 3) := by decide +kernel
theorem dX6_byMisses_174 : decode cX6_byMisses 174 = .ok (.lreturn, 1) := by decide +kernel
theorem dX6_luck_0 : decode cX6_luck 0 = .ok (.iload_n 1, 1) := by decide +kernel
theorem dX6_luck_1 : decode cX6_luck 1 = .ok (.i2l, 1) := by decide +kernel
theorem dX6_luck_2 : decode cX6_luck 2 = .ok (.lconst 0, 1) := by decide +kernel
theorem dX6_luck_3 : decode cX6_luck 3 = .ok (.ldc2_w 195, 3) := by decide +kernel
theorem dX6_luck_6 : decode cX6_luck 6 = .ok (.invokestatic 46, 3) := by decide +kernel
theorem dX6_luck_9 : decode cX6_luck 9 = .ok (.ifCond .eq 56, 3) := by decide +kernel
theorem dX6_luck_12 : decode cX6_luck 12 = .ok (.aload_n 0, 1) := by decide +kernel
theorem dX6_luck_13 : decode cX6_luck 13 = .ok (.iload_n 2, 1) := by decide +kernel
theorem dX6_luck_14 : decode cX6_luck 14 = .ok (.invokevirtual 144, 3) := by decide +kernel
theorem dX6_luck_17 : decode cX6_luck 17 = .ok (.ifCond .eq 48, 3) := by decide +kernel
theorem dX6_luck_20 : decode cX6_luck 20 = .ok (.iload_n 3, 1) := by decide +kernel
theorem dX6_luck_21 : decode cX6_luck 21 = .ok (.invokestatic 154, 3) := by decide +kernel
theorem dX6_luck_24 : decode cX6_luck 24 = .ok (.ifCond .eq 41, 3) := by decide +kernel
theorem dX6_luck_27 : decode cX6_luck 27 = .ok (.iload 4, 2) := by decide +kernel
theorem dX6_luck_29 : decode cX6_luck 29 = .ok (.i2l, 1) := by decide +kernel
theorem dX6_luck_30 : decode cX6_luck 30 = .ok (.lconst 0, 1) := by decide +kernel
theorem dX6_luck_31 : decode cX6_luck 31 = .ok (.ldc2_w 201, 3) := by decide +kernel
theorem dX6_luck_34 : decode cX6_luck 34 = .ok (.invokestatic 46, 3) := by decide +kernel
theorem dX6_luck_37 : decode cX6_luck 37 = .ok (.ifCond .eq 28, 3) := by decide +kernel
theorem dX6_luck_40 : decode cX6_luck 40 = .ok (.iload 5, 2) := by decide +kernel
theorem dX6_luck_42 : decode cX6_luck 42 = .ok (.i2l, 1) := by decide +kernel
theorem dX6_luck_43 : decode cX6_luck 43 = .ok (.lconst 0, 1) := by decide +kernel
theorem dX6_luck_44 : decode cX6_luck 44 = .ok (.lconst 1, 1) := by decide +kernel
theorem dX6_luck_45 : decode cX6_luck 45 = .ok (.invokestatic 46, 3) := by decide +kernel
theorem dX6_luck_48 : decode cX6_luck 48 = .ok (.ifCond .eq 17, 3) := by decide +kernel
theorem dX6_luck_51 : decode cX6_luck 51 = .ok (.aload_n 0, 1) := by decide +kernel
theorem dX6_luck_52 : decode cX6_luck 52 = .ok (.iload_n 1, 1) := by decide +kernel
theorem dX6_luck_53 : decode cX6_luck 53 = .ok (.iload_n 2, 1) := by decide +kernel
theorem dX6_luck_54 : decode cX6_luck 54 = .ok (.iload_n 3, 1) := by decide +kernel
theorem dX6_luck_55 : decode cX6_luck 55 = .ok (.iload 4, 2) := by decide +kernel
theorem dX6_luck_57 : decode cX6_luck 57 = .ok (.iload 5, 2) := by decide +kernel
theorem dX6_luck_59 : decode cX6_luck 59 = .ok (.invokevirtual 203, 3) := by decide +kernel
theorem dX6_luck_62 : decode cX6_luck 62 = .ok (.goto 6, 3) := by decide +kernel
theorem dX6_luck_65 : decode cX6_luck 65 = .ok (.ldc2_w 207, 3) := by decide +kernel
theorem dX6_luck_68 : decode cX6_luck 68 = .ok (.lreturn, 1) := by decide +kernel
theorem dX6_mean_0 : decode cX6_mean 0 = .ok (.iload_n 1, 1) := by decide +kernel
theorem dX6_mean_1 : decode cX6_mean 1 = .ok (.i2l, 1) := by decide +kernel
theorem dX6_mean_2 : decode cX6_mean 2 = .ok (.lconst 0, 1) := by decide +kernel
theorem dX6_mean_3 : decode cX6_mean 3 = .ok (.ldc2_w 195, 3) := by decide +kernel
theorem dX6_mean_6 : decode cX6_mean 6 = .ok (.invokestatic 46, 3) := by decide +kernel
theorem dX6_mean_9 : decode cX6_mean 9 = .ok (.ifCond .eq 38, 3) := by decide +kernel
theorem dX6_mean_12 : decode cX6_mean 12 = .ok (.iload_n 2, 1) := by decide +kernel
theorem dX6_mean_13 : decode cX6_mean 13 = .ok (.i2l, 1) := by decide +kernel
theorem dX6_mean_14 : decode cX6_mean 14 = .ok (.lconst 0, 1) := by decide +kernel
theorem dX6_mean_15 : decode cX6_mean 15 = .ok (.ldc2_w 201, 3) := by decide +kernel
theorem dX6_mean_18 : decode cX6_mean 18 = .ok (.invokestatic 46, 3) := by decide +kernel
theorem dX6_mean_21 : decode cX6_mean 21 = .ok (.ifCond .eq 26, 3) := by decide +kernel
theorem dX6_mean_24 : decode cX6_mean 24 = .ok (.iload_n 3, 1) := by decide +kernel
theorem dX6_mean_25 : decode cX6_mean 25 = .ok (.i2l, 1) := by decide +kernel
theorem dX6_mean_26 : decode cX6_mean 26 = .ok (.lconst 0, 1) := by decide +kernel
theorem dX6_mean_27 : decode cX6_mean 27 = .ok (.lconst 1, 1) := by decide +kernel
theorem dX6_mean_28 : decode cX6_mean 28 = .ok (.invokestatic 46, 3) := by decide +kernel
theorem dX6_mean_31 : decode cX6_mean 31 = .ok (.ifCond .eq 16, 3) := by decide +kernel
theorem dX6_mean_34 : decode cX6_mean 34 = .ok (.aload_n 0, 1) := by decide +kernel
theorem dX6_mean_35 : decode cX6_mean 35 = .ok (.iload_n 1, 1) := by decide +kernel
theorem dX6_mean_36 : decode cX6_mean 36 = .ok (.bipush (-4), 2) := by decide +kernel
theorem dX6_mean_38 : decode cX6_mean 38 = .ok (.iconst 0, 1) := by decide +kernel
theorem dX6_mean_39 : decode cX6_mean 39 = .ok (.iload_n 2, 1) := by decide +kernel
theorem dX6_mean_40 : decode cX6_mean 40 = .ok (.iload_n 3, 1) := by decide +kernel
theorem dX6_mean_41 : decode cX6_mean 41 = .ok (.invokevirtual 203, 3) := by decide +kernel
theorem dX6_mean_44 : decode cX6_mean 44 = .ok (.goto 6, 3) := by decide +kernel
theorem dX6_mean_47 : decode cX6_mean 47 = .ok (.ldc2_w 207, 3) := by decide +kernel
theorem dX6_mean_50 : decode cX6_mean 50 = .ok (.lreturn, 1) := by decide +kernel
theorem dX6_see_0 : decode cX6_see 0 = .ok (.iload_n 1, 1) := by decide +kernel
theorem dX6_see_1 : decode cX6_see 1 = .ok (.i2l, 1) := by decide +kernel
theorem dX6_see_2 : decode cX6_see 2 = .ok (.lconst 0, 1) := by decide +kernel
theorem dX6_see_3 : decode cX6_see 3 = .ok (.ldc2_w 185, 3) := by decide +kernel
theorem dX6_see_6 : decode cX6_see 6 = .ok (.invokestatic 46, 3) := by decide +kernel
theorem dX6_see_9 : decode cX6_see 9 = .ok (.ifCond .eq 10, 3) := by decide +kernel
theorem dX6_see_12 : decode cX6_see 12 = .ok (.iload_n 2, 1) := by decide +kernel
theorem dX6_see_13 : decode cX6_see 13 = .ok (.invokestatic 179, 3) := by decide +kernel
theorem dX6_see_16 : decode cX6_see 16 = .ok (.ifCond .ne 5, 3) := by decide +kernel
theorem dX6_see_19 : decode cX6_see 19 = .ok (.iconst (-1), 1) := by decide +kernel
theorem dX6_see_20 : decode cX6_see 20 = .ok (.ireturn, 1) := by decide +kernel
theorem dX6_see_21 : decode cX6_see 21 = .ok (.aload_n 0, 1) := by decide +kernel
theorem dX6_see_22 : decode cX6_see 22 = .ok (.getfield 114, 3) := by decide +kernel
theorem dX6_see_25 : decode cX6_see 25 = .ok (.bipush 6, 2) := by decide +kernel
theorem dX6_see_27 : decode cX6_see 27 = .ok (.if_icmp .ne 6, 3) := by decide +kernel
theorem dX6_see_30 : decode cX6_see 30 = .ok (.bipush (-3), 2) := by decide +kernel
theorem dX6_see_32 : decode cX6_see 32 = .ok (.ireturn, 1) := by decide +kernel
theorem dX6_see_33 : decode cX6_see 33 = .ok (.aload_n 0, 1) := by decide +kernel
theorem dX6_see_34 : decode cX6_see 34 = .ok (.getfield 25, 3) := by decide +kernel
theorem dX6_see_37 : decode cX6_see 37 = .ok (.iconst 2, 1) := by decide +kernel
theorem dX6_see_38 : decode cX6_see 38 = .ok (.aload_n 0, 1) := by decide +kernel
theorem dX6_see_39 : decode cX6_see 39 = .ok (.getfield 114, 3) := by decide +kernel
theorem dX6_see_42 : decode cX6_see 42 = .ok (.imul, 1) := by decide +kernel
theorem dX6_see_43 : decode cX6_see 43 = .ok (.iload_n 1, 1) := by decide +kernel
theorem dX6_see_44 : decode cX6_see 44 = .ok (.iastore, 1) := by decide +kernel
theorem dX6_see_45 : decode cX6_see 45 = .ok (.aload_n 0, 1) := by decide +kernel
theorem dX6_see_46 : decode cX6_see 46 = .ok (.getfield 25, 3) := by decide +kernel
theorem dX6_see_49 : decode cX6_see 49 = .ok (.iconst 2, 1) := by decide +kernel
theorem dX6_see_50 : decode cX6_see 50 = .ok (.aload_n 0, 1) := by decide +kernel
theorem dX6_see_51 : decode cX6_see 51 = .ok (.getfield 114, 3) := by decide +kernel
theorem dX6_see_54 : decode cX6_see 54 = .ok (.imul, 1) := by decide +kernel
theorem dX6_see_55 : decode cX6_see 55 = .ok (.iconst 1, 1) := by decide +kernel
theorem dX6_see_56 : decode cX6_see 56 = .ok (.iadd, 1) := by decide +kernel
theorem dX6_see_57 : decode cX6_see 57 = .ok (.iload_n 2, 1) := by decide +kernel
theorem dX6_see_58 : decode cX6_see 58 = .ok (.iastore, 1) := by decide +kernel
theorem dX6_see_59 : decode cX6_see 59 = .ok (.aload_n 0, 1) := by decide +kernel
theorem dX6_see_60 : decode cX6_see 60 = .ok (.dup, 1) := by decide +kernel
theorem dX6_see_61 : decode cX6_see 61 = .ok (.getfield 114, 3) := by decide +kernel
theorem dX6_see_64 : decode cX6_see 64 = .ok (.iconst 1, 1) := by decide +kernel
theorem dX6_see_65 : decode cX6_see 65 = .ok (.iadd, 1) := by decide +kernel
theorem dX6_see_66 : decode cX6_see 66 = .ok (.putfield 114, 3) := by decide +kernel
theorem dX6_see_69 : decode cX6_see 69 = .ok (.aload_n 0, 1) := by decide +kernel
theorem dX6_see_70 : decode cX6_see 70 = .ok (.getfield 114, 3) := by decide +kernel
theorem dX6_see_73 : decode cX6_see 73 = .ok (.ireturn, 1) := by decide +kernel
theorem dX6_forget_0 : decode cX6_forget 0 = .ok (.iload_n 1, 1) := by decide +kernel
theorem dX6_forget_1 : decode cX6_forget 1 = .ok (.i2l, 1) := by decide +kernel
theorem dX6_forget_2 : decode cX6_forget 2 = .ok (.lconst 0, 1) := by decide +kernel
theorem dX6_forget_3 : decode cX6_forget 3 = .ok (.aload_n 0, 1) := by decide +kernel
theorem dX6_forget_4 : decode cX6_forget 4 = .ok (.getfield 114, 3) := by decide +kernel
theorem dX6_forget_7 : decode cX6_forget 7 = .ok (.i2l, 1) := by decide +kernel
theorem dX6_forget_8 : decode cX6_forget 8 = .ok (.invokestatic 46, 3) := by decide +kernel
theorem dX6_forget_11 : decode cX6_forget 11 = .ok (.ifCond .ne 5, 3) := by decide +kernel
theorem dX6_forget_14 : decode cX6_forget 14 = .ok (.iconst (-1), 1) := by decide +kernel
theorem dX6_forget_15 : decode cX6_forget 15 = .ok (.ireturn, 1) := by decide +kernel
theorem dX6_forget_16 : decode cX6_forget 16 = .ok (.aload_n 0, 1) := by decide +kernel
theorem dX6_forget_17 : decode cX6_forget 17 = .ok (.getfield 114, 3) := by decide +kernel
theorem dX6_forget_20 : decode cX6_forget 20 = .ok (.istore_n 2, 1) := by decide +kernel
theorem dX6_forget_21 : decode cX6_forget 21 = .ok (.aload_n 0, 1) := by decide +kernel
theorem dX6_forget_22 : decode cX6_forget 22 = .ok (.iload_n 1, 1) := by decide +kernel
theorem dX6_forget_23 : decode cX6_forget 23 = .ok (.putfield 114, 3) := by decide +kernel
theorem dX6_forget_26 : decode cX6_forget 26 = .ok (.iload_n 2, 1) := by decide +kernel
theorem dX6_forget_27 : decode cX6_forget 27 = .ok (.ireturn, 1) := by decide +kernel
theorem dX6_isAsSeen_0 : decode cX6_isAsSeen 0 = .ok (.aload_n 0, 1) := by decide +kernel
theorem dX6_isAsSeen_1 : decode cX6_isAsSeen 1 = .ok (.iconst 0, 1) := by decide +kernel
theorem dX6_isAsSeen_2 : decode cX6_isAsSeen 2 = .ok (.bipush 88, 2) := by decide +kernel
theorem dX6_isAsSeen_4 : decode cX6_isAsSeen 4 = .ok (.invokevirtual 167, 3) := by decide +kernel
theorem dX6_isAsSeen_7 : decode cX6_isAsSeen 7 = .ok (.iconst 1, 1) := by decide +kernel
theorem dX6_isAsSeen_8 : decode cX6_isAsSeen 8 = .ok (.istore_n 2, 1) := by decide +kernel
theorem dX6_isAsSeen_9 : decode cX6_isAsSeen 9 = .ok (.iconst 0, 1) := by decide +kernel
theorem dX6_isAsSeen_10 : decode cX6_isAsSeen 10 = .ok (.istore_n 3, 1) := by decide +kernel
theorem dX6_isAsSeen_11 : decode cX6_isAsSeen 11 = .ok (.iload_n 3, 1) := by decide +kernel
theorem dX6_isAsSeen_12 : decode cX6_isAsSeen 12 = .ok (.sipush 200, 3) := by decide +kernel
theorem dX6_isAsSeen_15 : decode cX6_isAsSeen 15 = .ok (.if_icmp .gt 94, 3) := by decide +kernel
theorem dX6_isAsSeen_18 : decode cX6_isAsSeen 18 = .ok (.aload_n 0, 1) := by decide +kernel
theorem dX6_isAsSeen_19 : decode cX6_isAsSeen 19 = .ok (.bipush 88, 2) := by decide +kernel
theorem dX6_isAsSeen_21 : decode cX6_isAsSeen 21 = .ok (.invokevirtual 135, 3) := by decide +kernel
theorem dX6_isAsSeen_24 : decode cX6_isAsSeen 24 = .ok (.istore 4, 2) := by decide +kernel
theorem dX6_isAsSeen_26 : decode cX6_isAsSeen 26 = .ok (.aload_n 0, 1) := by decide +kernel
theorem dX6_isAsSeen_27 : decode cX6_isAsSeen 27 = .ok (.getfield 28, 3) := by decide +kernel
theorem dX6_isAsSeen_30 : decode cX6_isAsSeen 30 = .ok (.sipush 201, 3) := by decide +kernel
theorem dX6_isAsSeen_33 : decode cX6_isAsSeen 33 = .ok (.iload_n 1, 1) := by decide +kernel
theorem dX6_isAsSeen_34 : decode cX6_isAsSeen 34 = .ok (.imul, 1) := by decide +kernel
theorem dX6_isAsSeen_35 : decode cX6_isAsSeen 35 = .ok (.iload_n 3, 1) := by decide +kernel
theorem dX6_isAsSeen_36 : decode cX6_isAsSeen 36 = .ok (.iadd, 1) := by decide +kernel
theorem dX6_isAsSeen_37 : decode cX6_isAsSeen 37 = .ok (.iload 4, 2) := by decide +kernel
theorem dX6_isAsSeen_39 : decode cX6_isAsSeen 39 = .ok (.iastore, 1) := by decide +kernel
theorem dX6_isAsSeen_40 : decode cX6_isAsSeen 40 = .ok (.iconst 0, 1) := by decide +kernel
theorem dX6_isAsSeen_41 : decode cX6_isAsSeen 41 = .ok (.istore 5, 2) := by decide +kernel
theorem dX6_isAsSeen_43 : decode cX6_isAsSeen 43 = .ok (.iload 5, 2) := by decide +kernel
theorem dX6_isAsSeen_45 : decode cX6_isAsSeen 45 = .ok (.aload_n 0, 1) := by decide +kernel
theorem dX6_isAsSeen_46 : decode cX6_isAsSeen 46 = .ok (.getfield 114, 3) := by decide +kernel
theorem dX6_isAsSeen_49 : decode cX6_isAsSeen 49 = .ok (.if_icmp .ge 48, 3) := by decide +kernel
theorem dX6_isAsSeen_52 : decode cX6_isAsSeen 52 = .ok (.iload_n 2, 1) := by decide +kernel
theorem dX6_isAsSeen_53 : decode cX6_isAsSeen 53 = .ok (.ifCond .eq 36, 3) := by decide +kernel
theorem dX6_isAsSeen_56 : decode cX6_isAsSeen 56 = .ok (.aload_n 0, 1) := by decide +kernel
theorem dX6_isAsSeen_57 : decode cX6_isAsSeen 57 = .ok (.getfield 25, 3) := by decide +kernel
theorem dX6_isAsSeen_60 : decode cX6_isAsSeen 60 = .ok (.iconst 2, 1) := by decide +kernel
theorem dX6_isAsSeen_61 : decode cX6_isAsSeen 61 = .ok (.iload 5, 2) := by decide +kernel
theorem dX6_isAsSeen_63 : decode cX6_isAsSeen 63 = .ok (.imul, 1) := by decide +kernel
theorem dX6_isAsSeen_64 : decode cX6_isAsSeen 64 = .ok (.iaload, 1) := by decide +kernel
theorem dX6_isAsSeen_65 : decode cX6_isAsSeen 65 = .ok (.iload_n 3, 1) := by decide +kernel
theorem dX6_isAsSeen_66 : decode cX6_isAsSeen 66 = .ok (.if_icmp .ne 19, 3) := by decide +kernel
theorem dX6_isAsSeen_69 : decode cX6_isAsSeen 69 = .ok (.iload 4, 2) := by decide +kernel
theorem dX6_isAsSeen_71 : decode cX6_isAsSeen 71 = .ok (.aload_n 0, 1) := by decide +kernel
theorem dX6_isAsSeen_72 : decode cX6_isAsSeen 72 = .ok (.getfield 25, 3) := by decide +kernel
theorem dX6_isAsSeen_75 : decode cX6_isAsSeen 75 = .ok (.iconst 2, 1) := by decide +kernel
theorem dX6_isAsSeen_76 : decode cX6_isAsSeen 76 = .ok (.iload 5, 2) := by decide +kernel
theorem dX6_isAsSeen_78 : decode cX6_isAsSeen 78 = .ok (.imul, 1) := by decide +kernel
theorem dX6_isAsSeen_79 : decode cX6_isAsSeen 79 = .ok (.iconst 1, 1) := by decide +kernel
theorem dX6_isAsSeen_80 : decode cX6_isAsSeen 80 = .ok (.iadd, 1) := by decide +kernel
theorem dX6_isAsSeen_81 : decode cX6_isAsSeen 81 = .ok (.iaload, 1) := by decide +kernel
theorem dX6_isAsSeen_82 : decode cX6_isAsSeen 82 = .ok (.if_icmp .ne 7, 3) := by decide +kernel
theorem dX6_isAsSeen_85 : decode cX6_isAsSeen 85 = .ok (.iconst 1, 1) := by decide +kernel
theorem dX6_isAsSeen_86 : decode cX6_isAsSeen 86 = .ok (.goto 4, 3) := by decide +kernel
theorem dX6_isAsSeen_89 : decode cX6_isAsSeen 89 = .ok (.iconst 0, 1) := by decide +kernel
theorem dX6_isAsSeen_90 : decode cX6_isAsSeen 90 = .ok (.istore_n 2, 1) := by decide +kernel
theorem dX6_isAsSeen_91 : decode cX6_isAsSeen 91 = .ok (.iinc 5 1, 3) := by decide +kernel
theorem dX6_isAsSeen_94 : decode cX6_isAsSeen 94 = .ok (.goto (-51), 3) := by decide +kernel
theorem dX6_isAsSeen_97 : decode cX6_isAsSeen 97 = .ok (.aload_n 0, 1) := by decide +kernel
theorem dX6_isAsSeen_98 : decode cX6_isAsSeen 98 = .ok (.bipush 88, 2) := by decide +kernel
theorem dX6_isAsSeen_100 : decode cX6_isAsSeen 100 = .ok (.invokevirtual 164, 3) := by decide +kernel
theorem dX6_isAsSeen_103 : decode cX6_isAsSeen 103 = .ok (.iinc 3 1, 3) := by decide +kernel
theorem dX6_isAsSeen_106 : decode cX6_isAsSeen 106 = .ok (.goto (-95), 3) := by decide +kernel
theorem dX6_isAsSeen_109 : decode cX6_isAsSeen 109 = .ok (.iload_n 2, 1) := by decide +kernel
theorem dX6_isAsSeen_110 : decode cX6_isAsSeen 110 = .ok (.ireturn, 1) := by decide +kernel
theorem dX6_kinds_0 : decode cX6_kinds 0 = .ok (.aload_n 0, 1) := by decide +kernel
theorem dX6_kinds_1 : decode cX6_kinds 1 = .ok (.iload_n 1, 1) := by decide +kernel
theorem dX6_kinds_2 : decode cX6_kinds 2 = .ok (.invokevirtual 144, 3) := by decide +kernel
theorem dX6_kinds_5 : decode cX6_kinds 5 = .ok (.ifCond .ne 5, 3) := by decide +kernel
theorem dX6_kinds_8 : decode cX6_kinds 8 = .ok (.iconst (-1), 1) := by decide +kernel
theorem dX6_kinds_9 : decode cX6_kinds 9 = .ok (.ireturn, 1) := by decide +kernel
theorem dX6_kinds_10 : decode cX6_kinds 10 = .ok (.aload_n 0, 1) := by decide +kernel
theorem dX6_kinds_11 : decode cX6_kinds 11 = .ok (.getfield 7, 3) := by decide +kernel
theorem dX6_kinds_14 : decode cX6_kinds 14 = .ok (.iload_n 1, 1) := by decide +kernel
theorem dX6_kinds_15 : decode cX6_kinds 15 = .ok (.iaload, 1) := by decide +kernel
theorem dX6_kinds_16 : decode cX6_kinds 16 = .ok (.istore_n 2, 1) := by decide +kernel
theorem dX6_kinds_17 : decode cX6_kinds 17 = .ok (.iconst 0, 1) := by decide +kernel
theorem dX6_kinds_18 : decode cX6_kinds 18 = .ok (.istore_n 3, 1) := by decide +kernel
theorem dX6_kinds_19 : decode cX6_kinds 19 = .ok (.iconst 0, 1) := by decide +kernel
theorem dX6_kinds_20 : decode cX6_kinds 20 = .ok (.istore 4, 2) := by decide +kernel
theorem dX6_kinds_22 : decode cX6_kinds 22 = .ok (.iload 4, 2) := by decide +kernel
theorem dX6_kinds_24 : decode cX6_kinds 24 = .ok (.iconst 4, 1) := by decide +kernel
theorem dX6_kinds_25 : decode cX6_kinds 25 = .ok (.if_icmp .ge 36, 3) := by decide +kernel
theorem dX6_kinds_28 : decode cX6_kinds 28 = .ok (.aload_n 0, 1) := by decide +kernel
theorem dX6_kinds_29 : decode cX6_kinds 29 = .ok (.getfield 7, 3) := by decide +kernel
theorem dX6_kinds_32 : decode cX6_kinds 32 = .ok (.iload_n 1, 1) := by decide +kernel
theorem dX6_kinds_33 : decode cX6_kinds 33 = .ok (.iload 4, 2) := by decide +kernel
theorem dX6_kinds_35 : decode cX6_kinds 35 = .ok (.iastore, 1) := by decide +kernel
theorem dX6_kinds_36 : decode cX6_kinds 36 = .ok (.iload_n 3, 1) := by decide +kernel
theorem dX6_kinds_37 : decode cX6_kinds 37 = .ok (.aload_n 0, 1) := by decide +kernel
theorem dX6_kinds_38 : decode cX6_kinds 38 = .ok (.iconst 0, 1) := by decide +kernel
theorem dX6_kinds_39 : decode cX6_kinds 39 = .ok (.invokevirtual 209, 3) := by decide +kernel
theorem dX6_kinds_42 : decode cX6_kinds 42 = .ok (.ifCond .eq 10, 3) := by decide +kernel
theorem dX6_kinds_45 : decode cX6_kinds 45 = .ok (.iconst 1, 1) := by decide +kernel
theorem dX6_kinds_46 : decode cX6_kinds 46 = .ok (.iload 4, 2) := by decide +kernel
theorem dX6_kinds_48 : decode cX6_kinds 48 = .ok (.ishl, 1) := by decide +kernel
theorem dX6_kinds_49 : decode cX6_kinds 49 = .ok (.goto 4, 3) := by decide +kernel
theorem dX6_kinds_52 : decode cX6_kinds 52 = .ok (.iconst 0, 1) := by decide +kernel
theorem dX6_kinds_53 : decode cX6_kinds 53 = .ok (.ior, 1) := by decide +kernel
theorem dX6_kinds_54 : decode cX6_kinds 54 = .ok (.istore_n 3, 1) := by decide +kernel
theorem dX6_kinds_55 : decode cX6_kinds 55 = .ok (.iinc 4 1, 3) := by decide +kernel
theorem dX6_kinds_58 : decode cX6_kinds 58 = .ok (.goto (-36), 3) := by decide +kernel
theorem dX6_kinds_61 : decode cX6_kinds 61 = .ok (.aload_n 0, 1) := by decide +kernel
theorem dX6_kinds_62 : decode cX6_kinds 62 = .ok (.getfield 7, 3) := by decide +kernel
theorem dX6_kinds_65 : decode cX6_kinds 65 = .ok (.iload_n 1, 1) := by decide +kernel
theorem dX6_kinds_66 : decode cX6_kinds 66 = .ok (.iload_n 2, 1) := by decide +kernel
theorem dX6_kinds_67 : decode cX6_kinds 67 = .ok (.iastore, 1) := by decide +kernel
theorem dX6_kinds_68 : decode cX6_kinds 68 = .ok (.iload_n 3, 1) := by decide +kernel
theorem dX6_kinds_69 : decode cX6_kinds 69 = .ok (.ireturn, 1) := by decide +kernel
theorem dX6_brokenOf_0 : decode cX6_brokenOf 0 = .ok (.aload_n 0, 1) := by decide +kernel
theorem dX6_brokenOf_1 : decode cX6_brokenOf 1 = .ok (.getfield 7, 3) := by decide +kernel
theorem dX6_brokenOf_4 : decode cX6_brokenOf 4 = .ok (.bipush 15, 2) := by decide +kernel
theorem dX6_brokenOf_6 : decode cX6_brokenOf 6 = .ok (.iload_n 1, 1) := by decide +kernel
theorem dX6_brokenOf_7 : decode cX6_brokenOf 7 = .ok (.iadd, 1) := by decide +kernel
theorem dX6_brokenOf_8 : decode cX6_brokenOf 8 = .ok (.iaload, 1) := by decide +kernel
theorem dX6_brokenOf_9 : decode cX6_brokenOf 9 = .ok (.istore_n 2, 1) := by decide +kernel
theorem dX6_brokenOf_10 : decode cX6_brokenOf 10 = .ok (.iconst 0, 1) := by decide +kernel
theorem dX6_brokenOf_11 : decode cX6_brokenOf 11 = .ok (.istore_n 3, 1) := by decide +kernel
theorem dX6_brokenOf_12 : decode cX6_brokenOf 12 = .ok (.iconst 0, 1) := by decide +kernel
theorem dX6_brokenOf_13 : decode cX6_brokenOf 13 = .ok (.istore 4, 2) := by decide +kernel
theorem dX6_brokenOf_15 : decode cX6_brokenOf 15 = .ok (.iload 4, 2) := by decide +kernel
theorem dX6_brokenOf_17 : decode cX6_brokenOf 17 = .ok (.bipush 12, 2) := by decide +kernel
theorem dX6_brokenOf_19 : decode cX6_brokenOf 19 = .ok (.if_icmp .gt 63, 3) := by decide +kernel
theorem dX6_brokenOf_22 : decode cX6_brokenOf 22 = .ok (.iload 4, 2) := by decide +kernel
theorem dX6_brokenOf_24 : decode cX6_brokenOf 24 = .ok (.aload_n 0, 1) := by decide +kernel
theorem dX6_brokenOf_25 : decode cX6_brokenOf 25 = .ok (.getfield 7, 3) := by decide +kernel
theorem dX6_brokenOf_28 : decode cX6_brokenOf 28 = .ok (.iconst 5, 1) := by decide +kernel
theorem dX6_brokenOf_29 : decode cX6_brokenOf 29 = .ok (.iload_n 1, 1) := by decide +kernel
theorem dX6_brokenOf_30 : decode cX6_brokenOf 30 = .ok (.iadd, 1) := by decide +kernel
theorem dX6_brokenOf_31 : decode cX6_brokenOf 31 = .ok (.iaload, 1) := by decide +kernel
theorem dX6_brokenOf_32 : decode cX6_brokenOf 32 = .ok (.if_icmp .lt 10, 3) := by decide +kernel
theorem dX6_brokenOf_35 : decode cX6_brokenOf 35 = .ok (.iload 4, 2) := by decide +kernel
theorem dX6_brokenOf_37 : decode cX6_brokenOf 37 = .ok (.bipush 12, 2) := by decide +kernel
theorem dX6_brokenOf_39 : decode cX6_brokenOf 39 = .ok (.if_icmp .ne 37, 3) := by decide +kernel
theorem dX6_brokenOf_42 : decode cX6_brokenOf 42 = .ok (.aload_n 0, 1) := by decide +kernel
theorem dX6_brokenOf_43 : decode cX6_brokenOf 43 = .ok (.getfield 7, 3) := by decide +kernel
theorem dX6_brokenOf_46 : decode cX6_brokenOf 46 = .ok (.bipush 15, 2) := by decide +kernel
theorem dX6_brokenOf_48 : decode cX6_brokenOf 48 = .ok (.iload_n 1, 1) := by decide +kernel
theorem dX6_brokenOf_49 : decode cX6_brokenOf 49 = .ok (.iadd, 1) := by decide +kernel
theorem dX6_brokenOf_50 : decode cX6_brokenOf 50 = .ok (.iload 4, 2) := by decide +kernel
theorem dX6_brokenOf_52 : decode cX6_brokenOf 52 = .ok (.bipush 12, 2) := by decide +kernel
theorem dX6_brokenOf_54 : decode cX6_brokenOf 54 = .ok (.isub, 1) := by decide +kernel
theorem dX6_brokenOf_55 : decode cX6_brokenOf 55 = .ok (.iastore, 1) := by decide +kernel
theorem dX6_brokenOf_56 : decode cX6_brokenOf 56 = .ok (.iload_n 3, 1) := by decide +kernel
theorem dX6_brokenOf_57 : decode cX6_brokenOf 57 = .ok (.aload_n 0, 1) := by decide +kernel
theorem dX6_brokenOf_58 : decode cX6_brokenOf 58 = .ok (.iload 4, 2) := by decide +kernel
theorem dX6_brokenOf_60 : decode cX6_brokenOf 60 = .ok (.invokevirtual 209, 3) := by decide +kernel
theorem dX6_brokenOf_63 : decode cX6_brokenOf 63 = .ok (.ifCond .eq 10, 3) := by decide +kernel
theorem dX6_brokenOf_66 : decode cX6_brokenOf 66 = .ok (.iconst 1, 1) := by decide +kernel
theorem dX6_brokenOf_67 : decode cX6_brokenOf 67 = .ok (.iload 4, 2) := by decide +kernel
theorem dX6_brokenOf_69 : decode cX6_brokenOf 69 = .ok (.ishl, 1) := by decide +kernel
theorem dX6_brokenOf_70 : decode cX6_brokenOf 70 = .ok (.goto 4, 3) := by decide +kernel
theorem dX6_brokenOf_73 : decode cX6_brokenOf 73 = .ok (.iconst 0, 1) := by decide +kernel
theorem dX6_brokenOf_74 : decode cX6_brokenOf 74 = .ok (.ior, 1) := by decide +kernel
theorem dX6_brokenOf_75 : decode cX6_brokenOf 75 = .ok (.istore_n 3, 1) := by decide +kernel
theorem dX6_brokenOf_76 : decode cX6_brokenOf 76 = .ok (.iinc 4 1, 3) := by decide +kernel
theorem dX6_brokenOf_79 : decode cX6_brokenOf 79 = .ok (.goto (-64), 3) := by decide +kernel
theorem dX6_brokenOf_82 : decode cX6_brokenOf 82 = .ok (.aload_n 0, 1) := by decide +kernel
theorem dX6_brokenOf_83 : decode cX6_brokenOf 83 = .ok (.getfield 7, 3) := by decide +kernel
theorem dX6_brokenOf_86 : decode cX6_brokenOf 86 = .ok (.bipush 15, 2) := by decide +kernel
theorem dX6_brokenOf_88 : decode cX6_brokenOf 88 = .ok (.iload_n 1, 1) := by decide +kernel
theorem dX6_brokenOf_89 : decode cX6_brokenOf 89 = .ok (.iadd, 1) := by decide +kernel
theorem dX6_brokenOf_90 : decode cX6_brokenOf 90 = .ok (.iload_n 2, 1) := by decide +kernel
theorem dX6_brokenOf_91 : decode cX6_brokenOf 91 = .ok (.iastore, 1) := by decide +kernel
theorem dX6_brokenOf_92 : decode cX6_brokenOf 92 = .ok (.iload_n 3, 1) := by decide +kernel
theorem dX6_brokenOf_93 : decode cX6_brokenOf 93 = .ok (.ireturn, 1) := by decide +kernel
theorem dX6_broken_0 : decode cX6_broken 0 = .ok (.aload_n 0, 1) := by decide +kernel
theorem dX6_broken_1 : decode cX6_broken 1 = .ok (.iload_n 1, 1) := by decide +kernel
theorem dX6_broken_2 : decode cX6_broken 2 = .ok (.invokevirtual 144, 3) := by decide +kernel
theorem dX6_broken_5 : decode cX6_broken 5 = .ok (.ifCond .eq 11, 3) := by decide +kernel
theorem dX6_broken_8 : decode cX6_broken 8 = .ok (.aload_n 0, 1) := by decide +kernel
theorem dX6_broken_9 : decode cX6_broken 9 = .ok (.iload_n 1, 1) := by decide +kernel
theorem dX6_broken_10 : decode cX6_broken 10 = .ok (.invokevirtual 212, 3) := by decide +kernel
theorem dX6_broken_13 : decode cX6_broken 13 = .ok (.goto 4, 3) := by decide +kernel
theorem dX6_broken_16 : decode cX6_broken 16 = .ok (.iconst (-1), 1) := by decide +kernel
theorem dX6_broken_17 : decode cX6_broken 17 = .ok (.ireturn, 1) := by decide +kernel
theorem dX6_worstAt_0 : decode cX6_worstAt 0 = .ok (.iconst 0, 1) := by decide +kernel
theorem dX6_worstAt_1 : decode cX6_worstAt 1 = .ok (.istore_n 3, 1) := by decide +kernel
theorem dX6_worstAt_2 : decode cX6_worstAt 2 = .ok (.iconst 0, 1) := by decide +kernel
theorem dX6_worstAt_3 : decode cX6_worstAt 3 = .ok (.istore 4, 2) := by decide +kernel
theorem dX6_worstAt_5 : decode cX6_worstAt 5 = .ok (.iload 4, 2) := by decide +kernel
theorem dX6_worstAt_7 : decode cX6_worstAt 7 = .ok (.bipush 12, 2) := by decide +kernel
theorem dX6_worstAt_9 : decode cX6_worstAt 9 = .ok (.if_icmp .gt 100, 3) := by decide +kernel
theorem dX6_worstAt_12 : decode cX6_worstAt 12 = .ok (.iconst 0, 1) := by decide +kernel
theorem dX6_worstAt_13 : decode cX6_worstAt 13 = .ok (.istore 5, 2) := by decide +kernel
theorem dX6_worstAt_15 : decode cX6_worstAt 15 = .ok (.iconst 0, 1) := by decide +kernel
theorem dX6_worstAt_16 : decode cX6_worstAt 16 = .ok (.istore 6, 2) := by decide +kernel
theorem dX6_worstAt_18 : decode cX6_worstAt 18 = .ok (.iload 6, 2) := by decide +kernel
theorem dX6_worstAt_20 : decode cX6_worstAt 20 = .ok (.bipush 12, 2) := by decide +kernel
theorem dX6_worstAt_22 : decode cX6_worstAt 22 = .ok (.if_icmp .gt 68, 3) := by decide +kernel
theorem dX6_worstAt_25 : decode cX6_worstAt 25 = .ok (.iload_n 1, 1) := by decide +kernel
theorem dX6_worstAt_26 : decode cX6_worstAt 26 = .ok (.iload 4, 2) := by decide +kernel
theorem dX6_worstAt_28 : decode cX6_worstAt 28 = .ok (.ishr, 1) := by decide +kernel
theorem dX6_worstAt_29 : decode cX6_worstAt 29 = .ok (.iconst 1, 1) := by decide +kernel
theorem dX6_worstAt_30 : decode cX6_worstAt 30 = .ok (.iand, 1) := by decide +kernel
theorem dX6_worstAt_31 : decode cX6_worstAt 31 = .ok (.iconst 1, 1) := by decide +kernel
theorem dX6_worstAt_32 : decode cX6_worstAt 32 = .ok (.if_icmp .ne 58, 3) := by decide +kernel
theorem dX6_worstAt_35 : decode cX6_worstAt 35 = .ok (.iload 5, 2) := by decide +kernel
theorem dX6_worstAt_37 : decode cX6_worstAt 37 = .ok (.iload_n 1, 1) := by decide +kernel
theorem dX6_worstAt_38 : decode cX6_worstAt 38 = .ok (.iload 6, 2) := by decide +kernel
theorem dX6_worstAt_40 : decode cX6_worstAt 40 = .ok (.ishr, 1) := by decide +kernel
theorem dX6_worstAt_41 : decode cX6_worstAt 41 = .ok (.iconst 1, 1) := by decide +kernel
theorem dX6_worstAt_42 : decode cX6_worstAt 42 = .ok (.iand, 1) := by decide +kernel
theorem dX6_worstAt_43 : decode cX6_worstAt 43 = .ok (.iconst 1, 1) := by decide +kernel
theorem dX6_worstAt_44 : decode cX6_worstAt 44 = .ok (.if_icmp .ne 36, 3) := by decide +kernel
theorem dX6_worstAt_47 : decode cX6_worstAt 47 = .ok (.aload_n 0, 1) := by decide +kernel
theorem dX6_worstAt_48 : decode cX6_worstAt 48 = .ok (.getfield 28, 3) := by decide +kernel
theorem dX6_worstAt_51 : decode cX6_worstAt 51 = .ok (.sipush 201, 3) := by decide +kernel
theorem dX6_worstAt_54 : decode cX6_worstAt 54 = .ok (.iload 4, 2) := by decide +kernel
theorem dX6_worstAt_56 : decode cX6_worstAt 56 = .ok (.imul, 1) := by decide +kernel
theorem dX6_worstAt_57 : decode cX6_worstAt 57 = .ok (.iload_n 2, 1) := by decide +kernel
theorem dX6_worstAt_58 : decode cX6_worstAt 58 = .ok (.iadd, 1) := by decide +kernel
theorem dX6_worstAt_59 : decode cX6_worstAt 59 = .ok (.iaload, 1) := by decide +kernel
theorem dX6_worstAt_60 : decode cX6_worstAt 60 = .ok (.aload_n 0, 1) := by decide +kernel
theorem dX6_worstAt_61 : decode cX6_worstAt 61 = .ok (.getfield 28, 3) := by decide +kernel
theorem dX6_worstAt_64 : decode cX6_worstAt 64 = .ok (.sipush 201, 3) := by decide +kernel
theorem dX6_worstAt_67 : decode cX6_worstAt 67 = .ok (.iload 6, 2) := by decide +kernel
theorem dX6_worstAt_69 : decode cX6_worstAt 69 = .ok (.imul, 1) := by decide +kernel
theorem dX6_worstAt_70 : decode cX6_worstAt 70 = .ok (.iload_n 2, 1) := by decide +kernel
theorem dX6_worstAt_71 : decode cX6_worstAt 71 = .ok (.iadd, 1) := by decide +kernel
theorem dX6_worstAt_72 : decode cX6_worstAt 72 = .ok (.iaload, 1) := by decide +kernel
theorem dX6_worstAt_73 : decode cX6_worstAt 73 = .ok (.if_icmp .ne 7, 3) := by decide +kernel
theorem dX6_worstAt_76 : decode cX6_worstAt 76 = .ok (.iconst 1, 1) := by decide +kernel
theorem dX6_worstAt_77 : decode cX6_worstAt 77 = .ok (.goto 4, 3) := by decide +kernel
theorem dX6_worstAt_80 : decode cX6_worstAt 80 = .ok (.iconst 0, 1) := by decide +kernel
theorem dX6_worstAt_81 : decode cX6_worstAt 81 = .ok (.iadd, 1) := by decide +kernel
theorem dX6_worstAt_82 : decode cX6_worstAt 82 = .ok (.istore 5, 2) := by decide +kernel
theorem dX6_worstAt_84 : decode cX6_worstAt 84 = .ok (.iinc 6 1, 3) := by decide +kernel
theorem dX6_worstAt_87 : decode cX6_worstAt 87 = .ok (.goto (-69), 3) := by decide +kernel
theorem dX6_worstAt_90 : decode cX6_worstAt 90 = .ok (.iload 5, 2) := by decide +kernel
theorem dX6_worstAt_92 : decode cX6_worstAt 92 = .ok (.iload_n 3, 1) := by decide +kernel
theorem dX6_worstAt_93 : decode cX6_worstAt 93 = .ok (.if_icmp .le 8, 3) := by decide +kernel
theorem dX6_worstAt_96 : decode cX6_worstAt 96 = .ok (.iload 5, 2) := by decide +kernel
theorem dX6_worstAt_98 : decode cX6_worstAt 98 = .ok (.goto 4, 3) := by decide +kernel
theorem dX6_worstAt_101 : decode cX6_worstAt 101 = .ok (.iload_n 3, 1) := by decide +kernel
theorem dX6_worstAt_102 : decode cX6_worstAt 102 = .ok (.istore_n 3, 1) := by decide +kernel
theorem dX6_worstAt_103 : decode cX6_worstAt 103 = .ok (.iinc 4 1, 3) := by decide +kernel
theorem dX6_worstAt_106 : decode cX6_worstAt 106 = .ok (.goto (-101), 3) := by decide +kernel
theorem dX6_worstAt_109 : decode cX6_worstAt 109 = .ok (.iload_n 3, 1) := by decide +kernel
theorem dX6_worstAt_110 : decode cX6_worstAt 110 = .ok (.ireturn, 1) := by decide +kernel
theorem dX6_ask_0 : decode cX6_ask 0 = .ok (.aload_n 0, 1) := by decide +kernel
theorem dX6_ask_1 : decode cX6_ask 1 = .ok (.iload_n 1, 1) := by decide +kernel
theorem dX6_ask_2 : decode cX6_ask 2 = .ok (.invokevirtual 144, 3) := by decide +kernel
theorem dX6_ask_5 : decode cX6_ask 5 = .ok (.ifCond .eq 13, 3) := by decide +kernel
theorem dX6_ask_8 : decode cX6_ask 8 = .ok (.iload_n 2, 1) := by decide +kernel
theorem dX6_ask_9 : decode cX6_ask 9 = .ok (.i2l, 1) := by decide +kernel
theorem dX6_ask_10 : decode cX6_ask 10 = .ok (.lconst 0, 1) := by decide +kernel
theorem dX6_ask_11 : decode cX6_ask 11 = .ok (.lconst 1, 1) := by decide +kernel
theorem dX6_ask_12 : decode cX6_ask 12 = .ok (.invokestatic 46, 3) := by decide +kernel
theorem dX6_ask_15 : decode cX6_ask 15 = .ok (.ifCond .ne 5, 3) := by decide +kernel
theorem dX6_ask_18 : decode cX6_ask 18 = .ok (.iconst (-1), 1) := by decide +kernel
theorem dX6_ask_19 : decode cX6_ask 19 = .ok (.ireturn, 1) := by decide +kernel
theorem dX6_ask_20 : decode cX6_ask 20 = .ok (.aload_n 0, 1) := by decide +kernel
theorem dX6_ask_21 : decode cX6_ask 21 = .ok (.iload_n 1, 1) := by decide +kernel
theorem dX6_ask_22 : decode cX6_ask 22 = .ok (.invokevirtual 212, 3) := by decide +kernel
theorem dX6_ask_25 : decode cX6_ask 25 = .ok (.istore_n 3, 1) := by decide +kernel
theorem dX6_ask_26 : decode cX6_ask 26 = .ok (.iconst 0, 1) := by decide +kernel
theorem dX6_ask_27 : decode cX6_ask 27 = .ok (.istore 4, 2) := by decide +kernel
theorem dX6_ask_29 : decode cX6_ask 29 = .ok (.iconst 0, 1) := by decide +kernel
theorem dX6_ask_30 : decode cX6_ask 30 = .ok (.istore 5, 2) := by decide +kernel
theorem dX6_ask_32 : decode cX6_ask 32 = .ok (.iload 5, 2) := by decide +kernel
theorem dX6_ask_34 : decode cX6_ask 34 = .ok (.bipush 12, 2) := by decide +kernel
theorem dX6_ask_36 : decode cX6_ask 36 = .ok (.if_icmp .gt 20, 3) := by decide +kernel
theorem dX6_ask_39 : decode cX6_ask 39 = .ok (.iload 4, 2) := by decide +kernel
theorem dX6_ask_41 : decode cX6_ask 41 = .ok (.iload_n 3, 1) := by decide +kernel
theorem dX6_ask_42 : decode cX6_ask 42 = .ok (.iload 5, 2) := by decide +kernel
theorem dX6_ask_44 : decode cX6_ask 44 = .ok (.ishr, 1) := by decide +kernel
theorem dX6_ask_45 : decode cX6_ask 45 = .ok (.iconst 1, 1) := by decide +kernel
theorem dX6_ask_46 : decode cX6_ask 46 = .ok (.iand, 1) := by decide +kernel
theorem dX6_ask_47 : decode cX6_ask 47 = .ok (.iadd, 1) := by decide +kernel
theorem dX6_ask_48 : decode cX6_ask 48 = .ok (.istore 4, 2) := by decide +kernel
theorem dX6_ask_50 : decode cX6_ask 50 = .ok (.iinc 5 1, 3) := by decide +kernel
theorem dX6_ask_53 : decode cX6_ask 53 = .ok (.goto (-21), 3) := by decide +kernel
theorem dX6_ask_56 : decode cX6_ask 56 = .ok (.bipush (-4), 2) := by decide +kernel
theorem dX6_ask_58 : decode cX6_ask 58 = .ok (.istore 5, 2) := by decide +kernel
theorem dX6_ask_60 : decode cX6_ask 60 = .ok (.iconst 0, 1) := by decide +kernel
theorem dX6_ask_61 : decode cX6_ask 61 = .ok (.istore 6, 2) := by decide +kernel
theorem dX6_ask_63 : decode cX6_ask 63 = .ok (.iload 6, 2) := by decide +kernel
theorem dX6_ask_65 : decode cX6_ask 65 = .ok (.sipush 200, 3) := by decide +kernel
theorem dX6_ask_68 : decode cX6_ask 68 = .ok (.if_icmp .gt 50, 3) := by decide +kernel
theorem dX6_ask_71 : decode cX6_ask 71 = .ok (.aload_n 0, 1) := by decide +kernel
theorem dX6_ask_72 : decode cX6_ask 72 = .ok (.iload_n 3, 1) := by decide +kernel
theorem dX6_ask_73 : decode cX6_ask 73 = .ok (.iload 6, 2) := by decide +kernel
theorem dX6_ask_75 : decode cX6_ask 75 = .ok (.invokevirtual 215, 3) := by decide +kernel
theorem dX6_ask_78 : decode cX6_ask 78 = .ok (.istore 7, 2) := by decide +kernel
theorem dX6_ask_80 : decode cX6_ask 80 = .ok (.iload 7, 2) := by decide +kernel
theorem dX6_ask_82 : decode cX6_ask 82 = .ok (.iload 4, 2) := by decide +kernel
theorem dX6_ask_84 : decode cX6_ask 84 = .ok (.if_icmp .ge 8, 3) := by decide +kernel
theorem dX6_ask_87 : decode cX6_ask 87 = .ok (.iload 6, 2) := by decide +kernel
theorem dX6_ask_89 : decode cX6_ask 89 = .ok (.goto 5, 3) := by decide +kernel
theorem dX6_ask_92 : decode cX6_ask 92 = .ok (.iload 5, 2) := by decide +kernel
theorem dX6_ask_94 : decode cX6_ask 94 = .ok (.istore 5, 2) := by decide +kernel
theorem dX6_ask_96 : decode cX6_ask 96 = .ok (.iload 7, 2) := by decide +kernel
theorem dX6_ask_98 : decode cX6_ask 98 = .ok (.iload 4, 2) := by decide +kernel
theorem dX6_ask_100 : decode cX6_ask 100 = .ok (.if_icmp .ge 8, 3) := by decide +kernel
theorem dX6_ask_103 : decode cX6_ask 103 = .ok (.iload 7, 2) := by decide +kernel
theorem dX6_ask_105 : decode cX6_ask 105 = .ok (.goto 5, 3) := by decide +kernel
theorem dX6_ask_108 : decode cX6_ask 108 = .ok (.iload 4, 2) := by decide +kernel
theorem dX6_ask_110 : decode cX6_ask 110 = .ok (.istore 4, 2) := by decide +kernel
theorem dX6_ask_112 : decode cX6_ask 112 = .ok (.iinc 6 1, 3) := by decide +kernel
theorem dX6_ask_115 : decode cX6_ask 115 = .ok (.goto (-52), 3) := by decide +kernel
theorem dX6_ask_118 : decode cX6_ask 118 = .ok (.iload 5, 2) := by decide +kernel
theorem dX6_ask_120 : decode cX6_ask 120 = .ok (.bipush (-4), 2) := by decide +kernel
theorem dX6_ask_122 : decode cX6_ask 122 = .ok (.if_icmp .eq 7, 3) := by decide +kernel
theorem dX6_ask_125 : decode cX6_ask 125 = .ok (.iload_n 2, 1) := by decide +kernel
theorem dX6_ask_126 : decode cX6_ask 126 = .ok (.ifCond .ne 8, 3) := by decide +kernel
theorem dX6_ask_129 : decode cX6_ask 129 = .ok (.iload 5, 2) := by decide +kernel
theorem dX6_ask_131 : decode cX6_ask 131 = .ok (.goto 5, 3) := by decide +kernel
theorem dX6_ask_134 : decode cX6_ask 134 = .ok (.iload 4, 2) := by decide +kernel
theorem dX6_ask_136 : decode cX6_ask 136 = .ok (.ireturn, 1) := by decide +kernel
theorem dX6_drift_0 : decode cX6_drift 0 = .ok (.iload_n 2, 1) := by decide +kernel
theorem dX6_drift_1 : decode cX6_drift 1 = .ok (.i2l, 1) := by decide +kernel
theorem dX6_drift_2 : decode cX6_drift 2 = .ok (.lconst 1, 1) := by decide +kernel
theorem dX6_drift_3 : decode cX6_drift 3 = .ok (.ldc2_w 185, 3) := by decide +kernel
theorem dX6_drift_6 : decode cX6_drift 6 = .ok (.invokestatic 46, 3) := by decide +kernel
theorem dX6_drift_9 : decode cX6_drift 9 = .ok (.ifCond .eq 13, 3) := by decide +kernel
theorem dX6_drift_12 : decode cX6_drift 12 = .ok (.iload_n 3, 1) := by decide +kernel
theorem dX6_drift_13 : decode cX6_drift 13 = .ok (.i2l, 1) := by decide +kernel
theorem dX6_drift_14 : decode cX6_drift 14 = .ok (.lconst 0, 1) := by decide +kernel
theorem dX6_drift_15 : decode cX6_drift 15 = .ok (.lconst 1, 1) := by decide +kernel
theorem dX6_drift_16 : decode cX6_drift 16 = .ok (.invokestatic 46, 3) := by decide +kernel
theorem dX6_drift_19 : decode cX6_drift 19 = .ok (.ifCond .ne 5, 3) := by decide +kernel
theorem dX6_drift_22 : decode cX6_drift 22 = .ok (.iconst (-1), 1) := by decide +kernel
theorem dX6_drift_23 : decode cX6_drift 23 = .ok (.ireturn, 1) := by decide +kernel
theorem dX6_drift_24 : decode cX6_drift 24 = .ok (.aload_n 0, 1) := by decide +kernel
theorem dX6_drift_25 : decode cX6_drift 25 = .ok (.getfield 7, 3) := by decide +kernel
theorem dX6_drift_28 : decode cX6_drift 28 = .ok (.bipush 20, 2) := by decide +kernel
theorem dX6_drift_30 : decode cX6_drift 30 = .ok (.iaload, 1) := by decide +kernel
theorem dX6_drift_31 : decode cX6_drift 31 = .ok (.ifCond .ne 6, 3) := by decide +kernel
theorem dX6_drift_34 : decode cX6_drift 34 = .ok (.bipush (-2), 2) := by decide +kernel
theorem dX6_drift_36 : decode cX6_drift 36 = .ok (.ireturn, 1) := by decide +kernel
theorem dX6_drift_37 : decode cX6_drift 37 = .ok (.aload_n 0, 1) := by decide +kernel
theorem dX6_drift_38 : decode cX6_drift 38 = .ok (.iconst 0, 1) := by decide +kernel
theorem dX6_drift_39 : decode cX6_drift 39 = .ok (.bipush 88, 2) := by decide +kernel
theorem dX6_drift_41 : decode cX6_drift 41 = .ok (.invokevirtual 167, 3) := by decide +kernel
theorem dX6_drift_44 : decode cX6_drift 44 = .ok (.aload_n 0, 1) := by decide +kernel
theorem dX6_drift_45 : decode cX6_drift 45 = .ok (.iconst 0, 1) := by decide +kernel
theorem dX6_drift_46 : decode cX6_drift 46 = .ok (.putfield 125, 3) := by decide +kernel
theorem dX6_drift_49 : decode cX6_drift 49 = .ok (.iload_n 1, 1) := by decide +kernel
theorem dX6_drift_50 : decode cX6_drift 50 = .ok (.istore 4, 2) := by decide +kernel
theorem dX6_drift_52 : decode cX6_drift 52 = .ok (.iconst 0, 1) := by decide +kernel
theorem dX6_drift_53 : decode cX6_drift 53 = .ok (.istore 5, 2) := by decide +kernel
theorem dX6_drift_55 : decode cX6_drift 55 = .ok (.iload 5, 2) := by decide +kernel
theorem dX6_drift_57 : decode cX6_drift 57 = .ok (.iload_n 2, 1) := by decide +kernel
theorem dX6_drift_58 : decode cX6_drift 58 = .ok (.if_icmp .ge 43, 3) := by decide +kernel
theorem dX6_drift_61 : decode cX6_drift 61 = .ok (.iload 4, 2) := by decide +kernel
theorem dX6_drift_63 : decode cX6_drift 63 = .ok (.ldc 218, 2) := by decide +kernel
theorem dX6_drift_65 : decode cX6_drift 65 = .ok (.imul, 1) := by decide +kernel
theorem dX6_drift_66 : decode cX6_drift 66 = .ok (.sipush 12345, 3) := by decide +kernel
theorem dX6_drift_69 : decode cX6_drift 69 = .ok (.iadd, 1) := by decide +kernel
theorem dX6_drift_70 : decode cX6_drift 70 = .ok (.istore 4, 2) := by decide +kernel
theorem dX6_drift_72 : decode cX6_drift 72 = .ok (.aload_n 0, 1) := by decide +kernel
theorem dX6_drift_73 : decode cX6_drift 73 = .ok (.bipush 88, 2) := by decide +kernel
theorem dX6_drift_75 : decode cX6_drift 75 = .ok (.iload 4, 2) := by decide +kernel
theorem dX6_drift_77 : decode cX6_drift 77 = .ok (.bipush 16, 2) := by decide +kernel
theorem dX6_drift_79 : decode cX6_drift 79 = .ok (.ishr, 1) := by decide +kernel
theorem dX6_drift_80 : decode cX6_drift 80 = .ok (.sipush 32767, 3) := by decide +kernel
theorem dX6_drift_83 : decode cX6_drift 83 = .ok (.iand, 1) := by decide +kernel
theorem dX6_drift_84 : decode cX6_drift 84 = .ok (.aload_n 0, 1) := by decide +kernel
theorem dX6_drift_85 : decode cX6_drift 85 = .ok (.getfield 7, 3) := by decide +kernel
theorem dX6_drift_88 : decode cX6_drift 88 = .ok (.bipush 20, 2) := by decide +kernel
theorem dX6_drift_90 : decode cX6_drift 90 = .ok (.iaload, 1) := by decide +kernel
theorem dX6_drift_91 : decode cX6_drift 91 = .ok (.irem, 1) := by decide +kernel
theorem dX6_drift_92 : decode cX6_drift 92 = .ok (.invokevirtual 131, 3) := by decide +kernel
theorem dX6_drift_95 : decode cX6_drift 95 = .ok (.iinc 5 1, 3) := by decide +kernel
theorem dX6_drift_98 : decode cX6_drift 98 = .ok (.goto (-43), 3) := by decide +kernel
theorem dX6_drift_101 : decode cX6_drift 101 = .ok (.iload_n 3, 1) := by decide +kernel
theorem dX6_drift_102 : decode cX6_drift 102 = .ok (.ifCond .ne 12, 3) := by decide +kernel
theorem dX6_drift_105 : decode cX6_drift 105 = .ok (.aload_n 0, 1) := by decide +kernel
theorem dX6_drift_106 : decode cX6_drift 106 = .ok (.bipush 88, 2) := by decide +kernel
theorem dX6_drift_108 : decode cX6_drift 108 = .ok (.invokevirtual 135, 3) := by decide +kernel
theorem dX6_drift_111 : decode cX6_drift 111 = .ok (.goto 7, 3) := by decide +kernel
theorem dX6_drift_114 : decode cX6_drift 114 = .ok (.aload_n 0, 1) := by decide +kernel
theorem dX6_drift_115 : decode cX6_drift 115 = .ok (.getfield 125, 3) := by decide +kernel
theorem dX6_drift_118 : decode cX6_drift 118 = .ok (.ireturn, 1) := by decide +kernel
theorem dX6_keep_0 : decode cX6_keep 0 = .ok (.iload_n 1, 1) := by decide +kernel
theorem dX6_keep_1 : decode cX6_keep 1 = .ok (.i2l, 1) := by decide +kernel
theorem dX6_keep_2 : decode cX6_keep 2 = .ok (.lconst 0, 1) := by decide +kernel
theorem dX6_keep_3 : decode cX6_keep 3 = .ok (.lconst 1, 1) := by decide +kernel
theorem dX6_keep_4 : decode cX6_keep 4 = .ok (.invokestatic 46, 3) := by decide +kernel
theorem dX6_keep_7 : decode cX6_keep 7 = .ok (.ifCond .ne 5, 3) := by decide +kernel
theorem dX6_keep_10 : decode cX6_keep 10 = .ok (.iconst (-1), 1) := by decide +kernel
theorem dX6_keep_11 : decode cX6_keep 11 = .ok (.ireturn, 1) := by decide +kernel
theorem dX6_keep_12 : decode cX6_keep 12 = .ok (.aload_n 0, 1) := by decide +kernel
theorem dX6_keep_13 : decode cX6_keep 13 = .ok (.iconst 0, 1) := by decide +kernel
theorem dX6_keep_14 : decode cX6_keep 14 = .ok (.bipush 22, 2) := by decide +kernel
theorem dX6_keep_16 : decode cX6_keep 16 = .ok (.iload_n 1, 1) := by decide +kernel
theorem dX6_keep_17 : decode cX6_keep 17 = .ok (.iconst 1, 1) := by decide +kernel
theorem dX6_keep_18 : decode cX6_keep 18 = .ok (.iadd, 1) := by decide +kernel
theorem dX6_keep_19 : decode cX6_keep 19 = .ok (.imul, 1) := by decide +kernel
theorem dX6_keep_20 : decode cX6_keep 20 = .ok (.invokevirtual 167, 3) := by decide +kernel
theorem dX6_keep_23 : decode cX6_keep 23 = .ok (.aload_n 0, 1) := by decide +kernel
theorem dX6_keep_24 : decode cX6_keep 24 = .ok (.getfield 31, 3) := by decide +kernel
theorem dX6_keep_27 : decode cX6_keep 27 = .ok (.iload_n 1, 1) := by decide +kernel
theorem dX6_keep_28 : decode cX6_keep 28 = .ok (.baload, 1) := by decide +kernel
theorem dX6_keep_29 : decode cX6_keep 29 = .ok (.ifCond .eq 7, 3) := by decide +kernel
theorem dX6_keep_32 : decode cX6_keep 32 = .ok (.iconst 1, 1) := by decide +kernel
theorem dX6_keep_33 : decode cX6_keep 33 = .ok (.goto 4, 3) := by decide +kernel
theorem dX6_keep_36 : decode cX6_keep 36 = .ok (.iconst 0, 1) := by decide +kernel
theorem dX6_keep_37 : decode cX6_keep 37 = .ok (.istore_n 2, 1) := by decide +kernel
theorem dX6_keep_38 : decode cX6_keep 38 = .ok (.aload_n 0, 1) := by decide +kernel
theorem dX6_keep_39 : decode cX6_keep 39 = .ok (.getfield 31, 3) := by decide +kernel
theorem dX6_keep_42 : decode cX6_keep 42 = .ok (.iload_n 1, 1) := by decide +kernel
theorem dX6_keep_43 : decode cX6_keep 43 = .ok (.iconst 1, 1) := by decide +kernel
theorem dX6_keep_44 : decode cX6_keep 44 = .ok (.bastore, 1) := by decide +kernel
theorem dX6_keep_45 : decode cX6_keep 45 = .ok (.iload_n 2, 1) := by decide +kernel
theorem dX6_keep_46 : decode cX6_keep 46 = .ok (.ireturn, 1) := by decide +kernel
theorem dX6_back_0 : decode cX6_back 0 = .ok (.iload_n 1, 1) := by decide +kernel
theorem dX6_back_1 : decode cX6_back 1 = .ok (.i2l, 1) := by decide +kernel
theorem dX6_back_2 : decode cX6_back 2 = .ok (.lconst 0, 1) := by decide +kernel
theorem dX6_back_3 : decode cX6_back 3 = .ok (.lconst 1, 1) := by decide +kernel
theorem dX6_back_4 : decode cX6_back 4 = .ok (.invokestatic 46, 3) := by decide +kernel
theorem dX6_back_7 : decode cX6_back 7 = .ok (.ifCond .ne 5, 3) := by decide +kernel
theorem dX6_back_10 : decode cX6_back 10 = .ok (.iconst (-1), 1) := by decide +kernel
theorem dX6_back_11 : decode cX6_back 11 = .ok (.ireturn, 1) := by decide +kernel
theorem dX6_back_12 : decode cX6_back 12 = .ok (.aload_n 0, 1) := by decide +kernel
theorem dX6_back_13 : decode cX6_back 13 = .ok (.getfield 31, 3) := by decide +kernel
theorem dX6_back_16 : decode cX6_back 16 = .ok (.iload_n 1, 1) := by decide +kernel
theorem dX6_back_17 : decode cX6_back 17 = .ok (.baload, 1) := by decide +kernel
theorem dX6_back_18 : decode cX6_back 18 = .ok (.ifCond .ne 6, 3) := by decide +kernel
theorem dX6_back_21 : decode cX6_back 21 = .ok (.bipush (-2), 2) := by decide +kernel
theorem dX6_back_23 : decode cX6_back 23 = .ok (.ireturn, 1) := by decide +kernel
theorem dX6_back_24 : decode cX6_back 24 = .ok (.aload_n 0, 1) := by decide +kernel
theorem dX6_back_25 : decode cX6_back 25 = .ok (.bipush 22, 2) := by decide +kernel
theorem dX6_back_27 : decode cX6_back 27 = .ok (.iload_n 1, 1) := by decide +kernel
theorem dX6_back_28 : decode cX6_back 28 = .ok (.iconst 1, 1) := by decide +kernel
theorem dX6_back_29 : decode cX6_back 29 = .ok (.iadd, 1) := by decide +kernel
theorem dX6_back_30 : decode cX6_back 30 = .ok (.imul, 1) := by decide +kernel
theorem dX6_back_31 : decode cX6_back 31 = .ok (.iconst 0, 1) := by decide +kernel
theorem dX6_back_32 : decode cX6_back 32 = .ok (.invokevirtual 167, 3) := by decide +kernel
theorem dX6_back_35 : decode cX6_back 35 = .ok (.aload_n 0, 1) := by decide +kernel
theorem dX6_back_36 : decode cX6_back 36 = .ok (.getfield 7, 3) := by decide +kernel
theorem dX6_back_39 : decode cX6_back 39 = .ok (.bipush 21, 2) := by decide +kernel
theorem dX6_back_41 : decode cX6_back 41 = .ok (.iaload, 1) := by decide +kernel
theorem dX6_back_42 : decode cX6_back 42 = .ok (.ireturn, 1) := by decide +kernel
theorem dX6_sheet_0 : decode cX6_sheet 0 = .ok (.iload_n 1, 1) := by decide +kernel
theorem dX6_sheet_1 : decode cX6_sheet 1 = .ok (.i2l, 1) := by decide +kernel
theorem dX6_sheet_2 : decode cX6_sheet 2 = .ok (.lconst 0, 1) := by decide +kernel
theorem dX6_sheet_3 : decode cX6_sheet 3 = .ok (.ldc2_w 148, 3) := by decide +kernel
theorem dX6_sheet_6 : decode cX6_sheet 6 = .ok (.invokestatic 46, 3) := by decide +kernel
theorem dX6_sheet_9 : decode cX6_sheet 9 = .ok (.ifCond .eq 21, 3) := by decide +kernel
theorem dX6_sheet_12 : decode cX6_sheet 12 = .ok (.iload_n 2, 1) := by decide +kernel
theorem dX6_sheet_13 : decode cX6_sheet 13 = .ok (.i2l, 1) := by decide +kernel
theorem dX6_sheet_14 : decode cX6_sheet 14 = .ok (.lconst 0, 1) := by decide +kernel
theorem dX6_sheet_15 : decode cX6_sheet 15 = .ok (.ldc2_w 150, 3) := by decide +kernel
theorem dX6_sheet_18 : decode cX6_sheet 18 = .ok (.invokestatic 46, 3) := by decide +kernel
theorem dX6_sheet_21 : decode cX6_sheet 21 = .ok (.ifCond .eq 9, 3) := by decide +kernel
theorem dX6_sheet_24 : decode cX6_sheet 24 = .ok (.iload_n 3, 1) := by decide +kernel
theorem dX6_sheet_25 : decode cX6_sheet 25 = .ok (.bipush 40, 2) := by decide +kernel
theorem dX6_sheet_27 : decode cX6_sheet 27 = .ok (.if_icmp .le 5, 3) := by decide +kernel
theorem dX6_sheet_30 : decode cX6_sheet 30 = .ok (.iconst (-1), 1) := by decide +kernel
theorem dX6_sheet_31 : decode cX6_sheet 31 = .ok (.ireturn, 1) := by decide +kernel
theorem dX6_sheet_32 : decode cX6_sheet 32 = .ok (.iload_n 3, 1) := by decide +kernel
theorem dX6_sheet_33 : decode cX6_sheet 33 = .ok (.ifCond .ge 6, 3) := by decide +kernel
theorem dX6_sheet_36 : decode cX6_sheet 36 = .ok (.bipush (-14), 2) := by decide +kernel
theorem dX6_sheet_38 : decode cX6_sheet 38 = .ok (.ireturn, 1) := by decide +kernel
theorem dX6_sheet_39 : decode cX6_sheet 39 = .ok (.aload_n 0, 1) := by decide +kernel
theorem dX6_sheet_40 : decode cX6_sheet 40 = .ok (.getfield 35, 3) := by decide +kernel
theorem dX6_sheet_43 : decode cX6_sheet 43 = .ok (.iload_n 1, 1) := by decide +kernel
theorem dX6_sheet_44 : decode cX6_sheet 44 = .ok (.iload_n 2, 1) := by decide +kernel
theorem dX6_sheet_45 : decode cX6_sheet 45 = .ok (.iastore, 1) := by decide +kernel
theorem dX6_sheet_46 : decode cX6_sheet 46 = .ok (.aload_n 0, 1) := by decide +kernel
theorem dX6_sheet_47 : decode cX6_sheet 47 = .ok (.getfield 38, 3) := by decide +kernel
theorem dX6_sheet_50 : decode cX6_sheet 50 = .ok (.iload_n 1, 1) := by decide +kernel
theorem dX6_sheet_51 : decode cX6_sheet 51 = .ok (.iload_n 3, 1) := by decide +kernel
theorem dX6_sheet_52 : decode cX6_sheet 52 = .ok (.iastore, 1) := by decide +kernel
theorem dX6_sheet_53 : decode cX6_sheet 53 = .ok (.iconst 0, 1) := by decide +kernel
theorem dX6_sheet_54 : decode cX6_sheet 54 = .ok (.istore 4, 2) := by decide +kernel
theorem dX6_sheet_56 : decode cX6_sheet 56 = .ok (.iload 4, 2) := by decide +kernel
theorem dX6_sheet_58 : decode cX6_sheet 58 = .ok (.bipush 40, 2) := by decide +kernel
theorem dX6_sheet_60 : decode cX6_sheet 60 = .ok (.if_icmp .ge 22, 3) := by decide +kernel
theorem dX6_sheet_63 : decode cX6_sheet 63 = .ok (.aload_n 0, 1) := by decide +kernel
theorem dX6_sheet_64 : decode cX6_sheet 64 = .ok (.getfield 41, 3) := by decide +kernel
theorem dX6_sheet_67 : decode cX6_sheet 67 = .ok (.bipush 40, 2) := by decide +kernel
theorem dX6_sheet_69 : decode cX6_sheet 69 = .ok (.iload_n 1, 1) := by decide +kernel
theorem dX6_sheet_70 : decode cX6_sheet 70 = .ok (.imul, 1) := by decide +kernel
theorem dX6_sheet_71 : decode cX6_sheet 71 = .ok (.iload 4, 2) := by decide +kernel
theorem dX6_sheet_73 : decode cX6_sheet 73 = .ok (.iadd, 1) := by decide +kernel
theorem dX6_sheet_74 : decode cX6_sheet 74 = .ok (.iconst 0, 1) := by decide +kernel
theorem dX6_sheet_75 : decode cX6_sheet 75 = .ok (.iastore, 1) := by decide +kernel
theorem dX6_sheet_76 : decode cX6_sheet 76 = .ok (.iinc 4 1, 3) := by decide +kernel
theorem dX6_sheet_79 : decode cX6_sheet 79 = .ok (.goto (-23), 3) := by decide +kernel
theorem dX6_sheet_82 : decode cX6_sheet 82 = .ok (.iconst 1, 1) := by decide +kernel
theorem dX6_sheet_83 : decode cX6_sheet 83 = .ok (.ireturn, 1) := by decide +kernel
theorem dX6_lay_0 : decode cX6_lay 0 = .ok (.iload_n 1, 1) := by decide +kernel
theorem dX6_lay_1 : decode cX6_lay 1 = .ok (.i2l, 1) := by decide +kernel
theorem dX6_lay_2 : decode cX6_lay 2 = .ok (.lconst 0, 1) := by decide +kernel
theorem dX6_lay_3 : decode cX6_lay 3 = .ok (.ldc2_w 148, 3) := by decide +kernel
theorem dX6_lay_6 : decode cX6_lay 6 = .ok (.invokestatic 46, 3) := by decide +kernel
theorem dX6_lay_9 : decode cX6_lay 9 = .ok (.ifCond .ne 5, 3) := by decide +kernel
theorem dX6_lay_12 : decode cX6_lay 12 = .ok (.iconst (-1), 1) := by decide +kernel
theorem dX6_lay_13 : decode cX6_lay 13 = .ok (.ireturn, 1) := by decide +kernel
theorem dX6_lay_14 : decode cX6_lay 14 = .ok (.aload_n 0, 1) := by decide +kernel
theorem dX6_lay_15 : decode cX6_lay 15 = .ok (.getfield 35, 3) := by decide +kernel
theorem dX6_lay_18 : decode cX6_lay 18 = .ok (.iload_n 1, 1) := by decide +kernel
theorem dX6_lay_19 : decode cX6_lay 19 = .ok (.iaload, 1) := by decide +kernel
theorem dX6_lay_20 : decode cX6_lay 20 = .ok (.bipush (-4), 2) := by decide +kernel
theorem dX6_lay_22 : decode cX6_lay 22 = .ok (.if_icmp .ne 6, 3) := by decide +kernel
theorem dX6_lay_25 : decode cX6_lay 25 = .ok (.bipush (-11), 2) := by decide +kernel
theorem dX6_lay_27 : decode cX6_lay 27 = .ok (.ireturn, 1) := by decide +kernel
theorem dX6_lay_28 : decode cX6_lay 28 = .ok (.iload_n 2, 1) := by decide +kernel
theorem dX6_lay_29 : decode cX6_lay 29 = .ok (.i2l, 1) := by decide +kernel
theorem dX6_lay_30 : decode cX6_lay 30 = .ok (.lconst 0, 1) := by decide +kernel
theorem dX6_lay_31 : decode cX6_lay 31 = .ok (.aload_n 0, 1) := by decide +kernel
theorem dX6_lay_32 : decode cX6_lay 32 = .ok (.getfield 38, 3) := by decide +kernel
theorem dX6_lay_35 : decode cX6_lay 35 = .ok (.iload_n 1, 1) := by decide +kernel
theorem dX6_lay_36 : decode cX6_lay 36 = .ok (.iaload, 1) := by decide +kernel
theorem dX6_lay_37 : decode cX6_lay 37 = .ok (.iconst 1, 1) := by decide +kernel
theorem dX6_lay_38 : decode cX6_lay 38 = .ok (.isub, 1) := by decide +kernel
theorem dX6_lay_39 : decode cX6_lay 39 = .ok (.i2l, 1) := by decide +kernel
theorem dX6_lay_40 : decode cX6_lay 40 = .ok (.invokestatic 46, 3) := by decide +kernel
theorem dX6_lay_43 : decode cX6_lay 43 = .ok (.ifCond .ne 6, 3) := by decide +kernel
theorem dX6_lay_46 : decode cX6_lay 46 = .ok (.bipush (-12), 2) := by decide +kernel
theorem dX6_lay_48 : decode cX6_lay 48 = .ok (.ireturn, 1) := by decide +kernel
theorem dX6_lay_49 : decode cX6_lay 49 = .ok (.aload_n 0, 1) := by decide +kernel
theorem dX6_lay_50 : decode cX6_lay 50 = .ok (.getfield 41, 3) := by decide +kernel
theorem dX6_lay_53 : decode cX6_lay 53 = .ok (.bipush 40, 2) := by decide +kernel
theorem dX6_lay_55 : decode cX6_lay 55 = .ok (.iload_n 1, 1) := by decide +kernel
theorem dX6_lay_56 : decode cX6_lay 56 = .ok (.imul, 1) := by decide +kernel
theorem dX6_lay_57 : decode cX6_lay 57 = .ok (.iload_n 2, 1) := by decide +kernel
theorem dX6_lay_58 : decode cX6_lay 58 = .ok (.iadd, 1) := by decide +kernel
theorem dX6_lay_59 : decode cX6_lay 59 = .ok (.aload_n 0, 1) := by decide +kernel
theorem dX6_lay_60 : decode cX6_lay 60 = .ok (.getfield 35, 3) := by decide +kernel
theorem dX6_lay_63 : decode cX6_lay 63 = .ok (.iload_n 1, 1) := by decide +kernel
theorem dX6_lay_64 : decode cX6_lay 64 = .ok (.iaload, 1) := by decide +kernel
theorem dX6_lay_65 : decode cX6_lay 65 = .ok (.ifCond .ne 13, 3) := by decide +kernel
theorem dX6_lay_68 : decode cX6_lay 68 = .ok (.iload_n 3, 1) := by decide +kernel
theorem dX6_lay_69 : decode cX6_lay 69 = .ok (.bipush 24, 2) := by decide +kernel
theorem dX6_lay_71 : decode cX6_lay 71 = .ok (.ishl, 1) := by decide +kernel
theorem dX6_lay_72 : decode cX6_lay 72 = .ok (.bipush 24, 2) := by decide +kernel
theorem dX6_lay_74 : decode cX6_lay 74 = .ok (.ishr, 1) := by decide +kernel
theorem dX6_lay_75 : decode cX6_lay 75 = .ok (.goto 24, 3) := by decide +kernel
theorem dX6_lay_78 : decode cX6_lay 78 = .ok (.aload_n 0, 1) := by decide +kernel
theorem dX6_lay_79 : decode cX6_lay 79 = .ok (.getfield 35, 3) := by decide +kernel
theorem dX6_lay_82 : decode cX6_lay 82 = .ok (.iload_n 1, 1) := by decide +kernel
theorem dX6_lay_83 : decode cX6_lay 83 = .ok (.iaload, 1) := by decide +kernel
theorem dX6_lay_84 : decode cX6_lay 84 = .ok (.iconst 1, 1) := by decide +kernel
theorem dX6_lay_85 : decode cX6_lay 85 = .ok (.if_icmp .ne 13, 3) := by decide +kernel
theorem dX6_lay_88 : decode cX6_lay 88 = .ok (.iload_n 3, 1) := by decide +kernel
theorem dX6_lay_89 : decode cX6_lay 89 = .ok (.bipush 16, 2) := by decide +kernel
theorem dX6_lay_91 : decode cX6_lay 91 = .ok (.ishl, 1) := by decide +kernel
theorem dX6_lay_92 : decode cX6_lay 92 = .ok (.bipush 16, 2) := by decide +kernel
theorem dX6_lay_94 : decode cX6_lay 94 = .ok (.ishr, 1) := by decide +kernel
theorem dX6_lay_95 : decode cX6_lay 95 = .ok (.goto 4, 3) := by decide +kernel
theorem dX6_lay_98 : decode cX6_lay 98 = .ok (.iload_n 3, 1) := by decide +kernel
theorem dX6_lay_99 : decode cX6_lay 99 = .ok (.iastore, 1) := by decide +kernel
theorem dX6_lay_100 : decode cX6_lay 100 = .ok (.iconst 1, 1) := by decide +kernel
theorem dX6_lay_101 : decode cX6_lay 101 = .ok (.ireturn, 1) := by decide +kernel
theorem dX6_read_0 : decode cX6_read 0 = .ok (.iload_n 1, 1) := by decide +kernel
theorem dX6_read_1 : decode cX6_read 1 = .ok (.i2l, 1) := by decide +kernel
theorem dX6_read_2 : decode cX6_read 2 = .ok (.lconst 0, 1) := by decide +kernel
theorem dX6_read_3 : decode cX6_read 3 = .ok (.ldc2_w 148, 3) := by decide +kernel
theorem dX6_read_6 : decode cX6_read 6 = .ok (.invokestatic 46, 3) := by decide +kernel
theorem dX6_read_9 : decode cX6_read 9 = .ok (.ifCond .eq 28, 3) := by decide +kernel
theorem dX6_read_12 : decode cX6_read 12 = .ok (.iload_n 2, 1) := by decide +kernel
theorem dX6_read_13 : decode cX6_read 13 = .ok (.i2l, 1) := by decide +kernel
theorem dX6_read_14 : decode cX6_read 14 = .ok (.lconst 0, 1) := by decide +kernel
theorem dX6_read_15 : decode cX6_read 15 = .ok (.ldc2_w 150, 3) := by decide +kernel
theorem dX6_read_18 : decode cX6_read 18 = .ok (.invokestatic 46, 3) := by decide +kernel
theorem dX6_read_21 : decode cX6_read 21 = .ok (.ifCond .eq 16, 3) := by decide +kernel
theorem dX6_read_24 : decode cX6_read 24 = .ok (.iload 4, 2) := by decide +kernel
theorem dX6_read_26 : decode cX6_read 26 = .ok (.i2l, 1) := by decide +kernel
theorem dX6_read_27 : decode cX6_read 27 = .ok (.lconst 0, 1) := by decide +kernel
theorem dX6_read_28 : decode cX6_read 28 = .ok (.ldc2_w 219, 3) := by decide +kernel
theorem dX6_read_31 : decode cX6_read 31 = .ok (.invokestatic 46, 3) := by decide +kernel
theorem dX6_read_34 : decode cX6_read 34 = .ok (.ifCond .ne 5, 3) := by decide +kernel
theorem dX6_read_37 : decode cX6_read 37 = .ok (.iconst (-1), 1) := by decide +kernel
theorem dX6_read_38 : decode cX6_read 38 = .ok (.ireturn, 1) := by decide +kernel
theorem dX6_read_39 : decode cX6_read 39 = .ok (.aload_n 0, 1) := by decide +kernel
theorem dX6_read_40 : decode cX6_read 40 = .ok (.iconst 0, 1) := by decide +kernel
theorem dX6_read_41 : decode cX6_read 41 = .ok (.bipush 66, 2) := by decide +kernel
theorem dX6_read_43 : decode cX6_read 43 = .ok (.invokevirtual 167, 3) := by decide +kernel
theorem dX6_read_46 : decode cX6_read 46 = .ok (.iconst 0, 1) := by decide +kernel
theorem dX6_read_47 : decode cX6_read 47 = .ok (.istore 5, 2) := by decide +kernel
theorem dX6_read_49 : decode cX6_read 49 = .ok (.iconst 0, 1) := by decide +kernel
theorem dX6_read_50 : decode cX6_read 50 = .ok (.istore 6, 2) := by decide +kernel
theorem dX6_read_52 : decode cX6_read 52 = .ok (.iconst 0, 1) := by decide +kernel
theorem dX6_read_53 : decode cX6_read 53 = .ok (.istore 7, 2) := by decide +kernel
theorem dX6_read_55 : decode cX6_read 55 = .ok (.iload 7, 2) := by decide +kernel
theorem dX6_read_57 : decode cX6_read 57 = .ok (.iconst 2, 1) := by decide +kernel
theorem dX6_read_58 : decode cX6_read 58 = .ok (.iload 4, 2) := by decide +kernel
theorem dX6_read_60 : decode cX6_read 60 = .ok (.imul, 1) := by decide +kernel
theorem dX6_read_61 : decode cX6_read 61 = .ok (.if_icmp .ge 165, 3) := by decide +kernel
theorem dX6_read_64 : decode cX6_read 64 = .ok (.iload 5, 2) := by decide +kernel
theorem dX6_read_66 : decode cX6_read 66 = .ok (.ifCond .ne 160, 3) := by decide +kernel
theorem dX6_read_69 : decode cX6_read 69 = .ok (.aload_n 0, 1) := by decide +kernel
theorem dX6_read_70 : decode cX6_read 70 = .ok (.getfield 35, 3) := by decide +kernel
theorem dX6_read_73 : decode cX6_read 73 = .ok (.iload_n 1, 1) := by decide +kernel
theorem dX6_read_74 : decode cX6_read 74 = .ok (.iaload, 1) := by decide +kernel
theorem dX6_read_75 : decode cX6_read 75 = .ok (.bipush (-4), 2) := by decide +kernel
theorem dX6_read_77 : decode cX6_read 77 = .ok (.if_icmp .ne 7, 3) := by decide +kernel
theorem dX6_read_80 : decode cX6_read 80 = .ok (.iconst 1, 1) := by decide +kernel
theorem dX6_read_81 : decode cX6_read 81 = .ok (.goto 44, 3) := by decide +kernel
theorem dX6_read_84 : decode cX6_read 84 = .ok (.aload_n 0, 1) := by decide +kernel
theorem dX6_read_85 : decode cX6_read 85 = .ok (.getfield 35, 3) := by decide +kernel
theorem dX6_read_88 : decode cX6_read 88 = .ok (.iload_n 1, 1) := by decide +kernel
theorem dX6_read_89 : decode cX6_read 89 = .ok (.iaload, 1) := by decide +kernel
theorem dX6_read_90 : decode cX6_read 90 = .ok (.iload_n 2, 1) := by decide +kernel
theorem dX6_read_91 : decode cX6_read 91 = .ok (.if_icmp .eq 7, 3) := by decide +kernel
theorem dX6_read_94 : decode cX6_read 94 = .ok (.iconst 3, 1) := by decide +kernel
theorem dX6_read_95 : decode cX6_read 95 = .ok (.goto 30, 3) := by decide +kernel
theorem dX6_read_98 : decode cX6_read 98 = .ok (.iload_n 3, 1) := by decide +kernel
theorem dX6_read_99 : decode cX6_read 99 = .ok (.i2l, 1) := by decide +kernel
theorem dX6_read_100 : decode cX6_read 100 = .ok (.iload 7, 2) := by decide +kernel
theorem dX6_read_102 : decode cX6_read 102 = .ok (.i2l, 1) := by decide +kernel
theorem dX6_read_103 : decode cX6_read 103 = .ok (.ladd, 1) := by decide +kernel
theorem dX6_read_104 : decode cX6_read 104 = .ok (.lconst 0, 1) := by decide +kernel
theorem dX6_read_105 : decode cX6_read 105 = .ok (.aload_n 0, 1) := by decide +kernel
theorem dX6_read_106 : decode cX6_read 106 = .ok (.getfield 38, 3) := by decide +kernel
theorem dX6_read_109 : decode cX6_read 109 = .ok (.iload_n 1, 1) := by decide +kernel
theorem dX6_read_110 : decode cX6_read 110 = .ok (.iaload, 1) := by decide +kernel
theorem dX6_read_111 : decode cX6_read 111 = .ok (.iconst 1, 1) := by decide +kernel
theorem dX6_read_112 : decode cX6_read 112 = .ok (.isub, 1) := by decide +kernel
theorem dX6_read_113 : decode cX6_read 113 = .ok (.i2l, 1) := by decide +kernel
theorem dX6_read_114 : decode cX6_read 114 = .ok (.invokestatic 46, 3) := by decide +kernel
theorem dX6_read_117 : decode cX6_read 117 = .ok (.ifCond .ne 7, 3) := by decide +kernel
theorem dX6_read_120 : decode cX6_read 120 = .ok (.iconst 2, 1) := by decide +kernel
theorem dX6_read_121 : decode cX6_read 121 = .ok (.goto 4, 3) := by decide +kernel
theorem dX6_read_124 : decode cX6_read 124 = .ok (.iconst 0, 1) := by decide +kernel
theorem dX6_read_125 : decode cX6_read 125 = .ok (.istore 5, 2) := by decide +kernel
theorem dX6_read_127 : decode cX6_read 127 = .ok (.iload 5, 2) := by decide +kernel
theorem dX6_read_129 : decode cX6_read 129 = .ok (.ifCond .ne 91, 3) := by decide +kernel
theorem dX6_read_132 : decode cX6_read 132 = .ok (.iload 7, 2) := by decide +kernel
theorem dX6_read_134 : decode cX6_read 134 = .ok (.iconst 2, 1) := by decide +kernel
theorem dX6_read_135 : decode cX6_read 135 = .ok (.irem, 1) := by decide +kernel
theorem dX6_read_136 : decode cX6_read 136 = .ok (.iconst 1, 1) := by decide +kernel
theorem dX6_read_137 : decode cX6_read 137 = .ok (.if_icmp .ne 83, 3) := by decide +kernel
theorem dX6_read_140 : decode cX6_read 140 = .ok (.bipush 40, 2) := by decide +kernel
theorem dX6_read_142 : decode cX6_read 142 = .ok (.iload_n 1, 1) := by decide +kernel
theorem dX6_read_143 : decode cX6_read 143 = .ok (.imul, 1) := by decide +kernel
theorem dX6_read_144 : decode cX6_read 144 = .ok (.iload_n 3, 1) := by decide +kernel
theorem dX6_read_145 : decode cX6_read 145 = .ok (.iadd, 1) := by decide +kernel
theorem dX6_read_146 : decode cX6_read 146 = .ok (.iload 7, 2) := by decide +kernel
theorem dX6_read_148 : decode cX6_read 148 = .ok (.iadd, 1) := by decide +kernel
theorem dX6_read_149 : decode cX6_read 149 = .ok (.istore 8, 2) := by decide +kernel
theorem dX6_read_151 : decode cX6_read 151 = .ok (.aload_n 0, 1) := by decide +kernel
theorem dX6_read_152 : decode cX6_read 152 = .ok (.aload_n 0, 1) := by decide +kernel
theorem dX6_read_153 : decode cX6_read 153 = .ok (.getfield 41, 3) := by decide +kernel
theorem dX6_read_156 : decode cX6_read 156 = .ok (.iload 8, 2) := by decide +kernel
theorem dX6_read_158 : decode cX6_read 158 = .ok (.iconst 1, 1) := by decide +kernel
theorem dX6_read_159 : decode cX6_read 159 = .ok (.isub, 1) := by decide +kernel
theorem dX6_read_160 : decode cX6_read 160 = .ok (.iaload, 1) := by decide +kernel
theorem dX6_read_161 : decode cX6_read 161 = .ok (.iconst 2, 1) := by decide +kernel
theorem dX6_read_162 : decode cX6_read 162 = .ok (.aload_n 0, 1) := by decide +kernel
theorem dX6_read_163 : decode cX6_read 163 = .ok (.getfield 41, 3) := by decide +kernel
theorem dX6_read_166 : decode cX6_read 166 = .ok (.iload 8, 2) := by decide +kernel
theorem dX6_read_168 : decode cX6_read 168 = .ok (.iaload, 1) := by decide +kernel
theorem dX6_read_169 : decode cX6_read 169 = .ok (.invokevirtual 157, 3) := by decide +kernel
theorem dX6_read_172 : decode cX6_read 172 = .ok (.ifCond .lt 19, 3) := by decide +kernel
theorem dX6_read_175 : decode cX6_read 175 = .ok (.aload_n 0, 1) := by decide +kernel
theorem dX6_read_176 : decode cX6_read 176 = .ok (.getfield 7, 3) := by decide +kernel
theorem dX6_read_179 : decode cX6_read 179 = .ok (.bipush 21, 2) := by decide +kernel
theorem dX6_read_181 : decode cX6_read 181 = .ok (.iaload, 1) := by decide +kernel
theorem dX6_read_182 : decode cX6_read 182 = .ok (.ldc 163, 2) := by decide +kernel
theorem dX6_read_184 : decode cX6_read 184 = .ok (.if_icmp .ge 7, 3) := by decide +kernel
theorem dX6_read_187 : decode cX6_read 187 = .ok (.iconst 1, 1) := by decide +kernel
theorem dX6_read_188 : decode cX6_read 188 = .ok (.goto 4, 3) := by decide +kernel
theorem dX6_read_191 : decode cX6_read 191 = .ok (.iconst 0, 1) := by decide +kernel
theorem dX6_read_192 : decode cX6_read 192 = .ok (.istore 9, 2) := by decide +kernel
theorem dX6_read_194 : decode cX6_read 194 = .ok (.iload 9, 2) := by decide +kernel
theorem dX6_read_196 : decode cX6_read 196 = .ok (.ifCond .ne 16, 3) := by decide +kernel
theorem dX6_read_199 : decode cX6_read 199 = .ok (.aload_n 0, 1) := by decide +kernel
theorem dX6_read_200 : decode cX6_read 200 = .ok (.bipush 66, 2) := by decide +kernel
theorem dX6_read_202 : decode cX6_read 202 = .ok (.iconst 0, 1) := by decide +kernel
theorem dX6_read_203 : decode cX6_read 203 = .ok (.invokevirtual 167, 3) := by decide +kernel
theorem dX6_read_206 : decode cX6_read 206 = .ok (.bipush (-20), 2) := by decide +kernel
theorem dX6_read_208 : decode cX6_read 208 = .ok (.iload 6, 2) := by decide +kernel
theorem dX6_read_210 : decode cX6_read 210 = .ok (.isub, 1) := by decide +kernel
theorem dX6_read_211 : decode cX6_read 211 = .ok (.ireturn, 1) := by decide +kernel
theorem dX6_read_212 : decode cX6_read 212 = .ok (.aload_n 0, 1) := by decide +kernel
theorem dX6_read_213 : decode cX6_read 213 = .ok (.iconst 0, 1) := by decide +kernel
theorem dX6_read_214 : decode cX6_read 214 = .ok (.invokevirtual 164, 3) := by decide +kernel
theorem dX6_read_217 : decode cX6_read 217 = .ok (.iinc 6 1, 3) := by decide +kernel
theorem dX6_read_220 : decode cX6_read 220 = .ok (.iinc 7 1, 3) := by decide +kernel
theorem dX6_read_223 : decode cX6_read 223 = .ok (.goto (-168), 3) := by decide +kernel
theorem dX6_read_226 : decode cX6_read 226 = .ok (.aload_n 0, 1) := by decide +kernel
theorem dX6_read_227 : decode cX6_read 227 = .ok (.iload 5, 2) := by decide +kernel
theorem dX6_read_229 : decode cX6_read 229 = .ok (.putfield 221, 3) := by decide +kernel
theorem dX6_read_232 : decode cX6_read 232 = .ok (.iload 6, 2) := by decide +kernel
theorem dX6_read_234 : decode cX6_read 234 = .ok (.ireturn, 1) := by decide +kernel
theorem dX6_torn_0 : decode cX6_torn 0 = .ok (.aload_n 0, 1) := by decide +kernel
theorem dX6_torn_1 : decode cX6_torn 1 = .ok (.getfield 221, 3) := by decide +kernel
theorem dX6_torn_4 : decode cX6_torn 4 = .ok (.ireturn, 1) := by decide +kernel
theorem dX6_count_0 : decode cX6_count 0 = .ok (.iconst 0, 1) := by decide +kernel
theorem dX6_count_1 : decode cX6_count 1 = .ok (.istore_n 2, 1) := by decide +kernel
theorem dX6_count_2 : decode cX6_count 2 = .ok (.iconst 0, 1) := by decide +kernel
theorem dX6_count_3 : decode cX6_count 3 = .ok (.istore_n 3, 1) := by decide +kernel
theorem dX6_count_4 : decode cX6_count 4 = .ok (.iconst 0, 1) := by decide +kernel
theorem dX6_count_5 : decode cX6_count 5 = .ok (.istore 4, 2) := by decide +kernel
theorem dX6_count_7 : decode cX6_count 7 = .ok (.iload 4, 2) := by decide +kernel
theorem dX6_count_9 : decode cX6_count 9 = .ok (.aload_n 0, 1) := by decide +kernel
theorem dX6_count_10 : decode cX6_count 10 = .ok (.getfield 7, 3) := by decide +kernel
theorem dX6_count_13 : decode cX6_count 13 = .ok (.bipush 20, 2) := by decide +kernel
theorem dX6_count_15 : decode cX6_count 15 = .ok (.iaload, 1) := by decide +kernel
theorem dX6_count_16 : decode cX6_count 16 = .ok (.if_icmp .ge 42, 3) := by decide +kernel
theorem dX6_count_19 : decode cX6_count 19 = .ok (.iload_n 2, 1) := by decide +kernel
theorem dX6_count_20 : decode cX6_count 20 = .ok (.aload_n 0, 1) := by decide +kernel
theorem dX6_count_21 : decode cX6_count 21 = .ok (.getfield 7, 3) := by decide +kernel
theorem dX6_count_24 : decode cX6_count 24 = .ok (.iconst 5, 1) := by decide +kernel
theorem dX6_count_25 : decode cX6_count 25 = .ok (.iload 4, 2) := by decide +kernel
theorem dX6_count_27 : decode cX6_count 27 = .ok (.iadd, 1) := by decide +kernel
theorem dX6_count_28 : decode cX6_count 28 = .ok (.iaload, 1) := by decide +kernel
theorem dX6_count_29 : decode cX6_count 29 = .ok (.iadd, 1) := by decide +kernel
theorem dX6_count_30 : decode cX6_count 30 = .ok (.istore_n 2, 1) := by decide +kernel
theorem dX6_count_31 : decode cX6_count 31 = .ok (.iload_n 3, 1) := by decide +kernel
theorem dX6_count_32 : decode cX6_count 32 = .ok (.aload_n 0, 1) := by decide +kernel
theorem dX6_count_33 : decode cX6_count 33 = .ok (.getfield 7, 3) := by decide +kernel
theorem dX6_count_36 : decode cX6_count 36 = .ok (.bipush 15, 2) := by decide +kernel
theorem dX6_count_38 : decode cX6_count 38 = .ok (.iload 4, 2) := by decide +kernel
theorem dX6_count_40 : decode cX6_count 40 = .ok (.iadd, 1) := by decide +kernel
theorem dX6_count_41 : decode cX6_count 41 = .ok (.iaload, 1) := by decide +kernel
theorem dX6_count_42 : decode cX6_count 42 = .ok (.ifCond .ge 7, 3) := by decide +kernel
theorem dX6_count_45 : decode cX6_count 45 = .ok (.iconst 1, 1) := by decide +kernel
theorem dX6_count_46 : decode cX6_count 46 = .ok (.goto 4, 3) := by decide +kernel
theorem dX6_count_49 : decode cX6_count 49 = .ok (.iconst 0, 1) := by decide +kernel
theorem dX6_count_50 : decode cX6_count 50 = .ok (.iadd, 1) := by decide +kernel
theorem dX6_count_51 : decode cX6_count 51 = .ok (.istore_n 3, 1) := by decide +kernel
theorem dX6_count_52 : decode cX6_count 52 = .ok (.iinc 4 1, 3) := by decide +kernel
theorem dX6_count_55 : decode cX6_count 55 = .ok (.goto (-48), 3) := by decide +kernel
theorem dX6_count_58 : decode cX6_count 58 = .ok (.iload_n 1, 1) := by decide +kernel
theorem dX6_count_59 : decode cX6_count 59 = .ok (.tableswitch 104 0 5 #[37, 42, 72, 77, 100, 102], 37) := by decide +kernel
theorem dX6_count_96 : decode cX6_count 96 = .ok (.aload_n 0, 1) := by decide +kernel
theorem dX6_count_97 : decode cX6_count 97 = .ok (.getfield 114, 3) := by decide +kernel
theorem dX6_count_100 : decode cX6_count 100 = .ok (.ireturn, 1) := by decide +kernel
theorem dX6_count_101 : decode cX6_count 101 = .ok (.aload_n 0, 1) := by decide +kernel
theorem dX6_count_102 : decode cX6_count 102 = .ok (.getfield 31, 3) := by decide +kernel
theorem dX6_count_105 : decode cX6_count 105 = .ok (.iconst 0, 1) := by decide +kernel
theorem dX6_count_106 : decode cX6_count 106 = .ok (.baload, 1) := by decide +kernel
theorem dX6_count_107 : decode cX6_count 107 = .ok (.ifCond .eq 7, 3) := by decide +kernel
theorem dX6_count_110 : decode cX6_count 110 = .ok (.iconst 1, 1) := by decide +kernel
theorem dX6_count_111 : decode cX6_count 111 = .ok (.goto 4, 3) := by decide +kernel
theorem dX6_count_114 : decode cX6_count 114 = .ok (.iconst 0, 1) := by decide +kernel
theorem dX6_count_115 : decode cX6_count 115 = .ok (.aload_n 0, 1) := by decide +kernel
theorem dX6_count_116 : decode cX6_count 116 = .ok (.getfield 31, 3) := by decide +kernel
theorem dX6_count_119 : decode cX6_count 119 = .ok (.iconst 1, 1) := by decide +kernel
theorem dX6_count_120 : decode cX6_count 120 = .ok (.baload, 1) := by decide +kernel
theorem dX6_count_121 : decode cX6_count 121 = .ok (.ifCond .eq 7, 3) := by decide +kernel
theorem dX6_count_124 : decode cX6_count 124 = .ok (.iconst 1, 1) := by decide +kernel
theorem dX6_count_125 : decode cX6_count 125 = .ok (.goto 4, 3) := by decide +kernel
theorem dX6_count_128 : decode cX6_count 128 = .ok (.iconst 0, 1) := by decide +kernel
theorem dX6_count_129 : decode cX6_count 129 = .ok (.iadd, 1) := by decide +kernel
theorem dX6_count_130 : decode cX6_count 130 = .ok (.ireturn, 1) := by decide +kernel
theorem dX6_count_131 : decode cX6_count 131 = .ok (.aload_n 0, 1) := by decide +kernel
theorem dX6_count_132 : decode cX6_count 132 = .ok (.getfield 50, 3) := by decide +kernel
theorem dX6_count_135 : decode cX6_count 135 = .ok (.ireturn, 1) := by decide +kernel
theorem dX6_count_136 : decode cX6_count 136 = .ok (.aload_n 0, 1) := by decide +kernel
theorem dX6_count_137 : decode cX6_count 137 = .ok (.getfield 35, 3) := by decide +kernel
theorem dX6_count_140 : decode cX6_count 140 = .ok (.iconst 0, 1) := by decide +kernel
theorem dX6_count_141 : decode cX6_count 141 = .ok (.iaload, 1) := by decide +kernel
theorem dX6_count_142 : decode cX6_count 142 = .ok (.bipush (-4), 2) := by decide +kernel
theorem dX6_count_144 : decode cX6_count 144 = .ok (.if_icmp .ne 8, 3) := by decide +kernel
theorem dX6_count_147 : decode cX6_count 147 = .ok (.bipush (-4), 2) := by decide +kernel
theorem dX6_count_149 : decode cX6_count 149 = .ok (.goto 9, 3) := by decide +kernel
theorem dX6_count_152 : decode cX6_count 152 = .ok (.aload_n 0, 1) := by decide +kernel
theorem dX6_count_153 : decode cX6_count 153 = .ok (.getfield 38, 3) := by decide +kernel
theorem dX6_count_156 : decode cX6_count 156 = .ok (.iconst 0, 1) := by decide +kernel
theorem dX6_count_157 : decode cX6_count 157 = .ok (.iaload, 1) := by decide +kernel
theorem dX6_count_158 : decode cX6_count 158 = .ok (.ireturn, 1) := by decide +kernel
theorem dX6_count_159 : decode cX6_count 159 = .ok (.iload_n 2, 1) := by decide +kernel
theorem dX6_count_160 : decode cX6_count 160 = .ok (.ireturn, 1) := by decide +kernel
theorem dX6_count_161 : decode cX6_count 161 = .ok (.iload_n 3, 1) := by decide +kernel
theorem dX6_count_162 : decode cX6_count 162 = .ok (.ireturn, 1) := by decide +kernel
theorem dX6_count_163 : decode cX6_count 163 = .ok (.iconst (-1), 1) := by decide +kernel
theorem dX6_count_164 : decode cX6_count 164 = .ok (.ireturn, 1) := by decide +kernel
