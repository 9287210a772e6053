theorem dX5_init_0 : decode cX5_init 0 = .ok (.aload_n 0, 1) := by decide +kernel
theorem dX5_init_1 : decode cX5_init 1 = .ok (.invokespecial 1, 3) := by decide +kernel
theorem dX5_init_4 : decode cX5_init 4 = .ok (.aload_n 0, 1) := by decide +kernel
theorem dX5_init_5 : decode cX5_init 5 = .ok (.new 7, 3) := by decide +kernel
theorem dX5_init_8 : decode cX5_init 8 = .ok (.dup, 1) := by decide +kernel
theorem dX5_init_9 : decode cX5_init 9 = .ok (.invokespecial 9, 3) := by decide +kernel
theorem dX5_init_12 : decode cX5_init 12 = .ok (.putfield 10, 3) := by decide +kernel
theorem dX5_init_15 : decode cX5_init 15 = .ok (.aload_n 0, 1) := by decide +kernel
theorem dX5_init_16 : decode cX5_init 16 = .ok (.new 7, 3) := by decide +kernel
theorem dX5_init_19 : decode cX5_init 19 = .ok (.dup, 1) := by decide +kernel
theorem dX5_init_20 : decode cX5_init 20 = .ok (.invokespecial 9, 3) := by decide +kernel
theorem dX5_init_23 : decode cX5_init 23 = .ok (.putfield 16, 3) := by decide +kernel
theorem dX5_init_26 : decode cX5_init 26 = .ok (.aload_n 0, 1) := by decide +kernel
theorem dX5_init_27 : decode cX5_init 27 = .ok (.iconst 2, 1) := by decide +kernel
theorem dX5_init_28 : decode cX5_init 28 = .ok (.anewarray 7, 3) := by decide +kernel
theorem dX5_init_31 : decode cX5_init 31 = .ok (.dup, 1) := by decide +kernel
theorem dX5_init_32 : decode cX5_init 32 = .ok (.iconst 0, 1) := by decide +kernel
theorem dX5_init_33 : decode cX5_init 33 = .ok (.new 7, 3) := by decide +kernel
theorem dX5_init_36 : decode cX5_init 36 = .ok (.dup, 1) := by decide +kernel
theorem dX5_init_37 : decode cX5_init 37 = .ok (.invokespecial 9, 3) := by decide +kernel
theorem dX5_init_40 : decode cX5_init 40 = .ok (.aastore, 1) := by decide +kernel
theorem dX5_init_41 : decode cX5_init 41 = .ok (.dup, 1) := by decide +kernel
theorem dX5_init_42 : decode cX5_init 42 = .ok (.iconst 1, 1) := by decide +kernel
theorem dX5_init_43 : decode cX5_init 43 = .ok (.new 7, 3) := by decide +kernel
theorem dX5_init_46 : decode cX5_init 46 = .ok (.dup, 1) := by decide +kernel
theorem dX5_init_47 : decode cX5_init 47 = .ok (.invokespecial 9, 3) := by decide +kernel
theorem dX5_init_50 : decode cX5_init 50 = .ok (.aastore, 1) := by decide +kernel
theorem dX5_init_51 : decode cX5_init 51 = .ok (.putfield 19, 3) := by decide +kernel
theorem dX5_init_54 : decode cX5_init 54 = .ok (.aload_n 0, 1) := by decide +kernel
theorem dX5_init_55 : decode cX5_init 55 = .ok (.iconst 2, 1) := by decide +kernel
theorem dX5_init_56 : decode cX5_init 56 = .ok (.newarray .boolean, 2) := by decide +kernel
theorem dX5_init_58 : decode cX5_init 58 = .ok (.putfield 23, 3) := by decide +kernel
theorem dX5_init_61 : decode cX5_init 61 = .ok (.aload_n 0, 1) := by decide +kernel
theorem dX5_init_62 : decode cX5_init 62 = .ok (.new 27, 3) := by decide +kernel
theorem dX5_init_65 : decode cX5_init 65 = .ok (.dup, 1) := by decide +kernel
theorem dX5_init_66 : decode cX5_init 66 = .ok (.invokespecial 29, 3) := by decide +kernel
theorem dX5_init_69 : decode cX5_init 69 = .ok (.putfield 30, 3) := by decide +kernel
theorem dX5_init_72 : decode cX5_init 72 = .ok (.aload_n 0, 1) := by decide +kernel
theorem dX5_init_73 : decode cX5_init 73 = .ok (.aload_n 0, 1) := by decide +kernel
theorem dX5_init_74 : decode cX5_init 74 = .ok (.getfield 30, 3) := by decide +kernel
theorem dX5_init_77 : decode cX5_init 77 = .ok (.getfield 34, 3) := by decide +kernel
theorem dX5_init_80 : decode cX5_init 80 = .ok (.putfield 38, 3) := by decide +kernel
theorem dX5_init_83 : decode cX5_init 83 = .ok (.aload_n 0, 1) := by decide +kernel
theorem dX5_init_84 : decode cX5_init 84 = .ok (.new 39, 3) := by decide +kernel
theorem dX5_init_87 : decode cX5_init 87 = .ok (.dup, 1) := by decide +kernel
theorem dX5_init_88 : decode cX5_init 88 = .ok (.invokespecial 41, 3) := by decide +kernel
theorem dX5_init_91 : decode cX5_init 91 = .ok (.putfield 42, 3) := by decide +kernel
theorem dX5_init_94 : decode cX5_init 94 = .ok (.aload_n 0, 1) := by decide +kernel
theorem dX5_init_95 : decode cX5_init 95 = .ok (.iconst 4, 1) := by decide +kernel
theorem dX5_init_96 : decode cX5_init 96 = .ok (.anewarray 46, 3) := by decide +kernel
theorem dX5_init_99 : decode cX5_init 99 = .ok (.dup, 1) := by decide +kernel
theorem dX5_init_100 : decode cX5_init 100 = .ok (.iconst 0, 1) := by decide +kernel
theorem dX5_init_101 : decode cX5_init 101 = .ok (.new 46, 3) := by decide +kernel
theorem dX5_init_104 : decode cX5_init 104 = .ok (.dup, 1) := by decide +kernel
theorem dX5_init_105 : decode cX5_init 105 = .ok (.invokespecial 48, 3) := by decide +kernel
theorem dX5_init_108 : decode cX5_init 108 = .ok (.aastore, 1) := by decide +kernel
theorem dX5_init_109 : decode cX5_init 109 = .ok (.dup, 1) := by decide +kernel
theorem dX5_init_110 : decode cX5_init 110 = .ok (.iconst 1, 1) := by decide +kernel
theorem dX5_init_111 : decode cX5_init 111 = .ok (.new 46, 3) := by decide +kernel
theorem dX5_init_114 : decode cX5_init 114 = .ok (.dup, 1) := by decide +kernel
theorem dX5_init_115 : decode cX5_init 115 = .ok (.invokespecial 48, 3) := by decide +kernel
theorem dX5_init_118 : decode cX5_init 118 = .ok (.aastore, 1) := by decide +kernel
theorem dX5_init_119 : decode cX5_init 119 = .ok (.dup, 1) := by decide +kernel
theorem dX5_init_120 : decode cX5_init 120 = .ok (.iconst 2, 1) := by decide +kernel
theorem dX5_init_121 : decode cX5_init 121 = .ok (.new 46, 3) := by decide +kernel
theorem dX5_init_124 : decode cX5_init 124 = .ok (.dup, 1) := by decide +kernel
theorem dX5_init_125 : decode cX5_init 125 = .ok (.invokespecial 48, 3) := by decide +kernel
theorem dX5_init_128 : decode cX5_init 128 = .ok (.aastore, 1) := by decide +kernel
theorem dX5_init_129 : decode cX5_init 129 = .ok (.dup, 1) := by decide +kernel
theorem dX5_init_130 : decode cX5_init 130 = .ok (.iconst 3, 1) := by decide +kernel
theorem dX5_init_131 : decode cX5_init 131 = .ok (.new 46, 3) := by decide +kernel
theorem dX5_init_134 : decode cX5_init 134 = .ok (.dup, 1) := by decide +kernel
theorem dX5_init_135 : decode cX5_init 135 = .ok (.invokespecial 48, 3) := by decide +kernel
theorem dX5_init_138 : decode cX5_init 138 = .ok (.aastore, 1) := by decide +kernel
theorem dX5_init_139 : decode cX5_init 139 = .ok (.putfield 49, 3) := by decide +kernel
theorem dX5_init_142 : decode cX5_init 142 = .ok (.aload_n 0, 1) := by decide +kernel
theorem dX5_init_143 : decode cX5_init 143 = .ok (.iconst 0, 1) := by decide +kernel
theorem dX5_init_144 : decode cX5_init 144 = .ok (.putfield 53, 3) := by decide +kernel
theorem dX5_init_147 : decode cX5_init 147 = .ok (.aload_n 0, 1) := by decide +kernel
theorem dX5_init_148 : decode cX5_init 148 = .ok (.bipush 9, 2) := by decide +kernel
theorem dX5_init_150 : decode cX5_init 150 = .ok (.newarray .long, 2) := by decide +kernel
theorem dX5_init_152 : decode cX5_init 152 = .ok (.putfield 57, 3) := by decide +kernel
theorem dX5_init_155 : decode cX5_init 155 = .ok (.aload_n 0, 1) := by decide +kernel
theorem dX5_init_156 : decode cX5_init 156 = .ok (.bipush 13, 2) := by decide +kernel
theorem dX5_init_158 : decode cX5_init 158 = .ok (.newarray .int, 2) := by decide +kernel
theorem dX5_init_160 : decode cX5_init 160 = .ok (.putfield 61, 3) := by decide +kernel
theorem dX5_init_163 : decode cX5_init 163 = .ok (.aload_n 0, 1) := by decide +kernel
theorem dX5_init_164 : decode cX5_init 164 = .ok (.bipush 13, 2) := by decide +kernel
theorem dX5_init_166 : decode cX5_init 166 = .ok (.sipush 201, 3) := by decide +kernel
theorem dX5_init_169 : decode cX5_init 169 = .ok (.multianewarray 65 2, 4) := by decide +kernel
theorem dX5_init_173 : decode cX5_init 173 = .ok (.putfield 67, 3) := by decide +kernel
theorem dX5_init_176 : decode cX5_init 176 = .ok (.return_, 1) := by decide +kernel
theorem dX5_feed_0 : decode cX5_feed 0 = .ok (.iload_n 1, 1) := by decide +kernel
theorem dX5_feed_1 : decode cX5_feed 1 = .ok (.iconst 0, 1) := by decide +kernel
theorem dX5_feed_2 : decode cX5_feed 2 = .ok (.bipush 127, 2) := by decide +kernel
theorem dX5_feed_4 : decode cX5_feed 4 = .ok (.invokestatic 70, 3) := by decide +kernel
theorem dX5_feed_7 : decode cX5_feed 7 = .ok (.ifCond .ne 5, 3) := by decide +kernel
theorem dX5_feed_10 : decode cX5_feed 10 = .ok (.iconst (-1), 1) := by decide +kernel
theorem dX5_feed_11 : decode cX5_feed 11 = .ok (.ireturn, 1) := by decide +kernel
theorem dX5_feed_12 : decode cX5_feed 12 = .ok (.aload_n 0, 1) := by decide +kernel
theorem dX5_feed_13 : decode cX5_feed 13 = .ok (.getfield 38, 3) := by decide +kernel
theorem dX5_feed_16 : decode cX5_feed 16 = .ok (.getfield 74, 3) := by decide +kernel
theorem dX5_feed_19 : decode cX5_feed 19 = .ok (.sipush 160, 3) := by decide +kernel
theorem dX5_feed_22 : decode cX5_feed 22 = .ok (.if_icmp .lt 6, 3) := by decide +kernel
theorem dX5_feed_25 : decode cX5_feed 25 = .ok (.bipush (-3), 2) := by decide +kernel
theorem dX5_feed_27 : decode cX5_feed 27 = .ok (.ireturn, 1) := by decide +kernel
theorem dX5_feed_28 : decode cX5_feed 28 = .ok (.aload_n 0, 1) := by decide +kernel
theorem dX5_feed_29 : decode cX5_feed 29 = .ok (.getfield 38, 3) := by decide +kernel
theorem dX5_feed_32 : decode cX5_feed 32 = .ok (.getfield 79, 3) := by decide +kernel
theorem dX5_feed_35 : decode cX5_feed 35 = .ok (.aload_n 0, 1) := by decide +kernel
theorem dX5_feed_36 : decode cX5_feed 36 = .ok (.getfield 38, 3) := by decide +kernel
theorem dX5_feed_39 : decode cX5_feed 39 = .ok (.getfield 74, 3) := by decide +kernel
theorem dX5_feed_42 : decode cX5_feed 42 = .ok (.iload_n 1, 1) := by decide +kernel
theorem dX5_feed_43 : decode cX5_feed 43 = .ok (.i2b, 1) := by decide +kernel
theorem dX5_feed_44 : decode cX5_feed 44 = .ok (.bastore, 1) := by decide +kernel
theorem dX5_feed_45 : decode cX5_feed 45 = .ok (.aload_n 0, 1) := by decide +kernel
theorem dX5_feed_46 : decode cX5_feed 46 = .ok (.getfield 38, 3) := by decide +kernel
theorem dX5_feed_49 : decode cX5_feed 49 = .ok (.dup, 1) := by decide +kernel
theorem dX5_feed_50 : decode cX5_feed 50 = .ok (.getfield 74, 3) := by decide +kernel
theorem dX5_feed_53 : decode cX5_feed 53 = .ok (.iconst 1, 1) := by decide +kernel
theorem dX5_feed_54 : decode cX5_feed 54 = .ok (.iadd, 1) := by decide +kernel
theorem dX5_feed_55 : decode cX5_feed 55 = .ok (.putfield 74, 3) := by decide +kernel
theorem dX5_feed_58 : decode cX5_feed 58 = .ok (.aload_n 0, 1) := by decide +kernel
theorem dX5_feed_59 : decode cX5_feed 59 = .ok (.getfield 38, 3) := by decide +kernel
theorem dX5_feed_62 : decode cX5_feed 62 = .ok (.getfield 74, 3) := by decide +kernel
theorem dX5_feed_65 : decode cX5_feed 65 = .ok (.ireturn, 1) := by decide +kernel
theorem dX5_end_0 : decode cX5_end 0 = .ok (.iload_n 1, 1) := by decide +kernel
theorem dX5_end_1 : decode cX5_end 1 = .ok (.iconst 0, 1) := by decide +kernel
theorem dX5_end_2 : decode cX5_end 2 = .ok (.aload_n 0, 1) := by decide +kernel
theorem dX5_end_3 : decode cX5_end 3 = .ok (.getfield 38, 3) := by decide +kernel
theorem dX5_end_6 : decode cX5_end 6 = .ok (.getfield 74, 3) := by decide +kernel
theorem dX5_end_9 : decode cX5_end 9 = .ok (.invokestatic 70, 3) := by decide +kernel
theorem dX5_end_12 : decode cX5_end 12 = .ok (.ifCond .ne 5, 3) := by decide +kernel
theorem dX5_end_15 : decode cX5_end 15 = .ok (.iconst (-1), 1) := by decide +kernel
theorem dX5_end_16 : decode cX5_end 16 = .ok (.ireturn, 1) := by decide +kernel
theorem dX5_end_17 : decode cX5_end 17 = .ok (.aload_n 0, 1) := by decide +kernel
theorem dX5_end_18 : decode cX5_end 18 = .ok (.getfield 38, 3) := by decide +kernel
theorem dX5_end_21 : decode cX5_end 21 = .ok (.getfield 74, 3) := by decide +kernel
theorem dX5_end_24 : decode cX5_end 24 = .ok (.istore_n 2, 1) := by decide +kernel
theorem dX5_end_25 : decode cX5_end 25 = .ok (.aload_n 0, 1) := by decide +kernel
theorem dX5_end_26 : decode cX5_end 26 = .ok (.getfield 38, 3) := by decide +kernel
theorem dX5_end_29 : decode cX5_end 29 = .ok (.iload_n 1, 1) := by decide +kernel
theorem dX5_end_30 : decode cX5_end 30 = .ok (.putfield 74, 3) := by decide +kernel
theorem dX5_end_33 : decode cX5_end 33 = .ok (.iload_n 2, 1) := by decide +kernel
theorem dX5_end_34 : decode cX5_end 34 = .ok (.ireturn, 1) := by decide +kernel
theorem dX5_text_0 : decode cX5_text 0 = .ok (.aload_n 0, 1) := by decide +kernel
theorem dX5_text_1 : decode cX5_text 1 = .ok (.getfield 30, 3) := by decide +kernel
theorem dX5_text_4 : decode cX5_text 4 = .ok (.aload_n 0, 1) := by decide +kernel
theorem dX5_text_5 : decode cX5_text 5 = .ok (.getfield 16, 3) := by decide +kernel
theorem dX5_text_8 : decode cX5_text 8 = .ok (.invokevirtual 83, 3) := by decide +kernel
theorem dX5_text_11 : decode cX5_text 11 = .ok (.istore_n 1, 1) := by decide +kernel
theorem dX5_text_12 : decode cX5_text 12 = .ok (.aload_n 0, 1) := by decide +kernel
theorem dX5_text_13 : decode cX5_text 13 = .ok (.getfield 38, 3) := by decide +kernel
theorem dX5_text_16 : decode cX5_text 16 = .ok (.iconst 0, 1) := by decide +kernel
theorem dX5_text_17 : decode cX5_text 17 = .ok (.putfield 74, 3) := by decide +kernel
theorem dX5_text_20 : decode cX5_text 20 = .ok (.iload_n 1, 1) := by decide +kernel
theorem dX5_text_21 : decode cX5_text 21 = .ok (.ifCond .ne 14, 3) := by decide +kernel
theorem dX5_text_24 : decode cX5_text 24 = .ok (.bipush (-10), 2) := by decide +kernel
theorem dX5_text_26 : decode cX5_text 26 = .ok (.aload_n 0, 1) := by decide +kernel
theorem dX5_text_27 : decode cX5_text 27 = .ok (.getfield 30, 3) := by decide +kernel
theorem dX5_text_30 : decode cX5_text 30 = .ok (.getfield 87, 3) := by decide +kernel
theorem dX5_text_33 : decode cX5_text 33 = .ok (.isub, 1) := by decide +kernel
theorem dX5_text_34 : decode cX5_text 34 = .ok (.ireturn, 1) := by decide +kernel
theorem dX5_text_35 : decode cX5_text 35 = .ok (.aload_n 0, 1) := by decide +kernel
theorem dX5_text_36 : decode cX5_text 36 = .ok (.getfield 10, 3) := by decide +kernel
theorem dX5_text_39 : decode cX5_text 39 = .ok (.aload_n 0, 1) := by decide +kernel
theorem dX5_text_40 : decode cX5_text 40 = .ok (.getfield 16, 3) := by decide +kernel
theorem dX5_text_43 : decode cX5_text 43 = .ok (.invokevirtual 90, 3) := by decide +kernel
theorem dX5_text_46 : decode cX5_text 46 = .ok (.aload_n 0, 1) := by decide +kernel
theorem dX5_text_47 : decode cX5_text 47 = .ok (.getfield 42, 3) := by decide +kernel
theorem dX5_text_50 : decode cX5_text 50 = .ok (.iconst 0, 1) := by decide +kernel
theorem dX5_text_51 : decode cX5_text 51 = .ok (.putfield 94, 3) := by decide +kernel
theorem dX5_text_54 : decode cX5_text 54 = .ok (.iconst 0, 1) := by decide +kernel
theorem dX5_text_55 : decode cX5_text 55 = .ok (.istore_n 2, 1) := by decide +kernel
theorem dX5_text_56 : decode cX5_text 56 = .ok (.iload_n 2, 1) := by decide +kernel
theorem dX5_text_57 : decode cX5_text 57 = .ok (.iconst 2, 1) := by decide +kernel
theorem dX5_text_58 : decode cX5_text 58 = .ok (.if_icmp .ge 16, 3) := by decide +kernel
theorem dX5_text_61 : decode cX5_text 61 = .ok (.aload_n 0, 1) := by decide +kernel
theorem dX5_text_62 : decode cX5_text 62 = .ok (.getfield 23, 3) := by decide +kernel
theorem dX5_text_65 : decode cX5_text 65 = .ok (.iload_n 2, 1) := by decide +kernel
theorem dX5_text_66 : decode cX5_text 66 = .ok (.iconst 0, 1) := by decide +kernel
theorem dX5_text_67 : decode cX5_text 67 = .ok (.bastore, 1) := by decide +kernel
theorem dX5_text_68 : decode cX5_text 68 = .ok (.iinc 2 1, 3) := by decide +kernel
theorem dX5_text_71 : decode cX5_text 71 = .ok (.goto (-15), 3) := by decide +kernel
theorem dX5_text_74 : decode cX5_text 74 = .ok (.aload_n 0, 1) := by decide +kernel
theorem dX5_text_75 : decode cX5_text 75 = .ok (.getfield 30, 3) := by decide +kernel
theorem dX5_text_78 : decode cX5_text 78 = .ok (.getfield 97, 3) := by decide +kernel
theorem dX5_text_81 : decode cX5_text 81 = .ok (.ireturn, 1) := by decide +kernel
theorem dX5_fault_0 : decode cX5_fault 0 = .ok (.aload_n 0, 1) := by decide +kernel
theorem dX5_fault_1 : decode cX5_fault 1 = .ok (.getfield 30, 3) := by decide +kernel
theorem dX5_fault_4 : decode cX5_fault 4 = .ok (.getfield 100, 3) := by decide +kernel
theorem dX5_fault_7 : decode cX5_fault 7 = .ok (.ireturn, 1) := by decide +kernel
theorem dX5_rule_0 : decode cX5_rule 0 = .ok (.iload_n 1, 1) := by decide +kernel
theorem dX5_rule_1 : decode cX5_rule 1 = .ok (.tableswitch 87 0 5 #[39, 47, 55, 63, 71, 79], 39) := by decide +kernel
theorem dX5_rule_40 : decode cX5_rule 40 = .ok (.aload_n 0, 1) := by decide +kernel
theorem dX5_rule_41 : decode cX5_rule 41 = .ok (.getfield 10, 3) := by decide +kernel
theorem dX5_rule_44 : decode cX5_rule 44 = .ok (.getfield 103, 3) := by decide +kernel
theorem dX5_rule_47 : decode cX5_rule 47 = .ok (.ireturn, 1) := by decide +kernel
theorem dX5_rule_48 : decode cX5_rule 48 = .ok (.aload_n 0, 1) := by decide +kernel
theorem dX5_rule_49 : decode cX5_rule 49 = .ok (.getfield 10, 3) := by decide +kernel
theorem dX5_rule_52 : decode cX5_rule 52 = .ok (.getfield 104, 3) := by decide +kernel
theorem dX5_rule_55 : decode cX5_rule 55 = .ok (.ireturn, 1) := by decide +kernel
theorem dX5_rule_56 : decode cX5_rule 56 = .ok (.aload_n 0, 1) := by decide +kernel
theorem dX5_rule_57 : decode cX5_rule 57 = .ok (.getfield 10, 3) := by decide +kernel
theorem dX5_rule_60 : decode cX5_rule 60 = .ok (.invokevirtual 107, 3) := by decide +kernel
theorem dX5_rule_63 : decode cX5_rule 63 = .ok (.ireturn, 1) := by decide +kernel
theorem dX5_rule_64 : decode cX5_rule 64 = .ok (.aload_n 0, 1) := by decide +kernel
theorem dX5_rule_65 : decode cX5_rule 65 = .ok (.getfield 10, 3) := by decide +kernel
theorem dX5_rule_68 : decode cX5_rule 68 = .ok (.invokevirtual 111, 3) := by decide +kernel
theorem dX5_rule_71 : decode cX5_rule 71 = .ok (.ireturn, 1) := by decide +kernel
theorem dX5_rule_72 : decode cX5_rule 72 = .ok (.aload_n 0, 1) := by decide +kernel
theorem dX5_rule_73 : decode cX5_rule 73 = .ok (.getfield 10, 3) := by decide +kernel
theorem dX5_rule_76 : decode cX5_rule 76 = .ok (.invokevirtual 114, 3) := by decide +kernel
theorem dX5_rule_79 : decode cX5_rule 79 = .ok (.ireturn, 1) := by decide +kernel
theorem dX5_rule_80 : decode cX5_rule 80 = .ok (.aload_n 0, 1) := by decide +kernel
theorem dX5_rule_81 : decode cX5_rule 81 = .ok (.getfield 10, 3) := by decide +kernel
theorem dX5_rule_84 : decode cX5_rule 84 = .ok (.invokevirtual 117, 3) := by decide +kernel
theorem dX5_rule_87 : decode cX5_rule 87 = .ok (.ireturn, 1) := by decide +kernel
theorem dX5_rule_88 : decode cX5_rule 88 = .ok (.iconst (-1), 1) := by decide +kernel
theorem dX5_rule_89 : decode cX5_rule 89 = .ok (.ireturn, 1) := by decide +kernel
theorem dX5_wheel_0 : decode cX5_wheel 0 = .ok (.aload_n 0, 1) := by decide +kernel
theorem dX5_wheel_1 : decode cX5_wheel 1 = .ok (.getfield 10, 3) := by decide +kernel
theorem dX5_wheel_4 : decode cX5_wheel 4 = .ok (.iload_n 1, 1) := by decide +kernel
theorem dX5_wheel_5 : decode cX5_wheel 5 = .ok (.invokevirtual 120, 3) := by decide +kernel
theorem dX5_wheel_8 : decode cX5_wheel 8 = .ok (.ifCond .ne 5, 3) := by decide +kernel
theorem dX5_wheel_11 : decode cX5_wheel 11 = .ok (.iconst (-1), 1) := by decide +kernel
theorem dX5_wheel_12 : decode cX5_wheel 12 = .ok (.ireturn, 1) := by decide +kernel
theorem dX5_wheel_13 : decode cX5_wheel 13 = .ok (.iload_n 2, 1) := by decide +kernel
theorem dX5_wheel_14 : decode cX5_wheel 14 = .ok (.iconst 4, 1) := by decide +kernel
theorem dX5_wheel_15 : decode cX5_wheel 15 = .ok (.if_icmp .ne 12, 3) := by decide +kernel
theorem dX5_wheel_18 : decode cX5_wheel 18 = .ok (.aload_n 0, 1) := by decide +kernel
theorem dX5_wheel_19 : decode cX5_wheel 19 = .ok (.getfield 10, 3) := by decide +kernel
theorem dX5_wheel_22 : decode cX5_wheel 22 = .ok (.iload_n 1, 1) := by decide +kernel
theorem dX5_wheel_23 : decode cX5_wheel 23 = .ok (.invokevirtual 124, 3) := by decide +kernel
theorem dX5_wheel_26 : decode cX5_wheel 26 = .ok (.ireturn, 1) := by decide +kernel
theorem dX5_wheel_27 : decode cX5_wheel 27 = .ok (.iload_n 2, 1) := by decide +kernel
theorem dX5_wheel_28 : decode cX5_wheel 28 = .ok (.iconst 0, 1) := by decide +kernel
theorem dX5_wheel_29 : decode cX5_wheel 29 = .ok (.iconst 3, 1) := by decide +kernel
theorem dX5_wheel_30 : decode cX5_wheel 30 = .ok (.invokestatic 70, 3) := by decide +kernel
theorem dX5_wheel_33 : decode cX5_wheel 33 = .ok (.ifCond .eq 15, 3) := by decide +kernel
theorem dX5_wheel_36 : decode cX5_wheel 36 = .ok (.aload_n 0, 1) := by decide +kernel
theorem dX5_wheel_37 : decode cX5_wheel 37 = .ok (.getfield 10, 3) := by decide +kernel
theorem dX5_wheel_40 : decode cX5_wheel 40 = .ok (.iload_n 1, 1) := by decide +kernel
theorem dX5_wheel_41 : decode cX5_wheel 41 = .ok (.iload_n 2, 1) := by decide +kernel
theorem dX5_wheel_42 : decode cX5_wheel 42 = .ok (.invokevirtual 128, 3) := by decide +kernel
theorem dX5_wheel_45 : decode cX5_wheel 45 = .ok (.goto 4, 3) := by decide +kernel
theorem dX5_wheel_48 : decode cX5_wheel 48 = .ok (.iconst (-1), 1) := by decide +kernel
theorem dX5_wheel_49 : decode cX5_wheel 49 = .ok (.ireturn, 1) := by decide +kernel
theorem dX5_alter_0 : decode cX5_alter 0 = .ok (.aload_n 0, 1) := by decide +kernel
theorem dX5_alter_1 : decode cX5_alter 1 = .ok (.getfield 10, 3) := by decide +kernel
theorem dX5_alter_4 : decode cX5_alter 4 = .ok (.iload_n 1, 1) := by decide +kernel
theorem dX5_alter_5 : decode cX5_alter 5 = .ok (.iload_n 2, 1) := by decide +kernel
theorem dX5_alter_6 : decode cX5_alter 6 = .ok (.iload_n 3, 1) := by decide +kernel
theorem dX5_alter_7 : decode cX5_alter 7 = .ok (.invokevirtual 132, 3) := by decide +kernel
theorem dX5_alter_10 : decode cX5_alter 10 = .ok (.ireturn, 1) := by decide +kernel
theorem dX5_add_0 : decode cX5_add 0 = .ok (.iload_n 1, 1) := by decide +kernel
theorem dX5_add_1 : decode cX5_add 1 = .ok (.iconst 0, 1) := by decide +kernel
theorem dX5_add_2 : decode cX5_add 2 = .ok (.iconst 3, 1) := by decide +kernel
theorem dX5_add_3 : decode cX5_add 3 = .ok (.invokestatic 70, 3) := by decide +kernel
theorem dX5_add_6 : decode cX5_add 6 = .ok (.ifCond .eq 13, 3) := by decide +kernel
theorem dX5_add_9 : decode cX5_add 9 = .ok (.iload_n 2, 1) := by decide +kernel
theorem dX5_add_10 : decode cX5_add 10 = .ok (.iconst 2, 1) := by decide +kernel
theorem dX5_add_11 : decode cX5_add 11 = .ok (.bipush 12, 2) := by decide +kernel
theorem dX5_add_13 : decode cX5_add 13 = .ok (.invokestatic 70, 3) := by decide +kernel
theorem dX5_add_16 : decode cX5_add 16 = .ok (.ifCond .ne 5, 3) := by decide +kernel
theorem dX5_add_19 : decode cX5_add 19 = .ok (.iconst (-1), 1) := by decide +kernel
theorem dX5_add_20 : decode cX5_add 20 = .ok (.ireturn, 1) := by decide +kernel
theorem dX5_add_21 : decode cX5_add 21 = .ok (.aload_n 0, 1) := by decide +kernel
theorem dX5_add_22 : decode cX5_add 22 = .ok (.getfield 10, 3) := by decide +kernel
theorem dX5_add_25 : decode cX5_add 25 = .ok (.getfield 103, 3) := by decide +kernel
theorem dX5_add_28 : decode cX5_add 28 = .ok (.iconst 5, 1) := by decide +kernel
theorem dX5_add_29 : decode cX5_add 29 = .ok (.if_icmp .lt 6, 3) := by decide +kernel
theorem dX5_add_32 : decode cX5_add 32 = .ok (.bipush (-3), 2) := by decide +kernel
theorem dX5_add_34 : decode cX5_add 34 = .ok (.ireturn, 1) := by decide +kernel
theorem dX5_add_35 : decode cX5_add 35 = .ok (.aload_n 0, 1) := by decide +kernel
theorem dX5_add_36 : decode cX5_add 36 = .ok (.getfield 10, 3) := by decide +kernel
theorem dX5_add_39 : decode cX5_add 39 = .ok (.iload_n 1, 1) := by decide +kernel
theorem dX5_add_40 : decode cX5_add 40 = .ok (.iload_n 2, 1) := by decide +kernel
theorem dX5_add_41 : decode cX5_add 41 = .ok (.iconst 0, 1) := by decide +kernel
theorem dX5_add_42 : decode cX5_add 42 = .ok (.bipush 12, 2) := by decide +kernel
theorem dX5_add_44 : decode cX5_add 44 = .ok (.invokevirtual 136, 3) := by decide +kernel
theorem dX5_add_47 : decode cX5_add 47 = .ok (.aload_n 0, 1) := by decide +kernel
theorem dX5_add_48 : decode cX5_add 48 = .ok (.getfield 10, 3) := by decide +kernel
theorem dX5_add_51 : decode cX5_add 51 = .ok (.getfield 103, 3) := by decide +kernel
theorem dX5_add_54 : decode cX5_add 54 = .ok (.ireturn, 1) := by decide +kernel
theorem dX5_cut_0 : decode cX5_cut 0 = .ok (.iload_n 1, 1) := by decide +kernel
theorem dX5_cut_1 : decode cX5_cut 1 = .ok (.iconst 0, 1) := by decide +kernel
theorem dX5_cut_2 : decode cX5_cut 2 = .ok (.aload_n 0, 1) := by decide +kernel
theorem dX5_cut_3 : decode cX5_cut 3 = .ok (.getfield 10, 3) := by decide +kernel
theorem dX5_cut_6 : decode cX5_cut 6 = .ok (.getfield 103, 3) := by decide +kernel
theorem dX5_cut_9 : decode cX5_cut 9 = .ok (.invokestatic 70, 3) := by decide +kernel
theorem dX5_cut_12 : decode cX5_cut 12 = .ok (.ifCond .ne 5, 3) := by decide +kernel
theorem dX5_cut_15 : decode cX5_cut 15 = .ok (.iconst (-1), 1) := by decide +kernel
theorem dX5_cut_16 : decode cX5_cut 16 = .ok (.ireturn, 1) := by decide +kernel
theorem dX5_cut_17 : decode cX5_cut 17 = .ok (.aload_n 0, 1) := by decide +kernel
theorem dX5_cut_18 : decode cX5_cut 18 = .ok (.getfield 10, 3) := by decide +kernel
theorem dX5_cut_21 : decode cX5_cut 21 = .ok (.getfield 103, 3) := by decide +kernel
theorem dX5_cut_24 : decode cX5_cut 24 = .ok (.istore_n 2, 1) := by decide +kernel
theorem dX5_cut_25 : decode cX5_cut 25 = .ok (.aload_n 0, 1) := by decide +kernel
theorem dX5_cut_26 : decode cX5_cut 26 = .ok (.getfield 10, 3) := by decide +kernel
theorem dX5_cut_29 : decode cX5_cut 29 = .ok (.iload_n 1, 1) := by decide +kernel
theorem dX5_cut_30 : decode cX5_cut 30 = .ok (.putfield 103, 3) := by decide +kernel
theorem dX5_cut_33 : decode cX5_cut 33 = .ok (.iload_n 2, 1) := by decide +kernel
theorem dX5_cut_34 : decode cX5_cut 34 = .ok (.ireturn, 1) := by decide +kernel
theorem dX5_turn_0 : decode cX5_turn 0 = .ok (.aload_n 0, 1) := by decide +kernel
theorem dX5_turn_1 : decode cX5_turn 1 = .ok (.getfield 10, 3) := by decide +kernel
theorem dX5_turn_4 : decode cX5_turn 4 = .ok (.iload_n 1, 1) := by decide +kernel
theorem dX5_turn_5 : decode cX5_turn 5 = .ok (.invokevirtual 120, 3) := by decide +kernel
theorem dX5_turn_8 : decode cX5_turn 8 = .ok (.ifCond .ne 5, 3) := by decide +kernel
theorem dX5_turn_11 : decode cX5_turn 11 = .ok (.iconst (-1), 1) := by decide +kernel
theorem dX5_turn_12 : decode cX5_turn 12 = .ok (.ireturn, 1) := by decide +kernel
theorem dX5_turn_13 : decode cX5_turn 13 = .ok (.aload_n 0, 1) := by decide +kernel
theorem dX5_turn_14 : decode cX5_turn 14 = .ok (.getfield 10, 3) := by decide +kernel
theorem dX5_turn_17 : decode cX5_turn 17 = .ok (.iload_n 1, 1) := by decide +kernel
theorem dX5_turn_18 : decode cX5_turn 18 = .ok (.invokevirtual 140, 3) := by decide +kernel
theorem dX5_turn_21 : decode cX5_turn 21 = .ok (.aload_n 0, 1) := by decide +kernel
theorem dX5_turn_22 : decode cX5_turn 22 = .ok (.getfield 10, 3) := by decide +kernel
theorem dX5_turn_25 : decode cX5_turn 25 = .ok (.invokevirtual 107, 3) := by decide +kernel
theorem dX5_turn_28 : decode cX5_turn 28 = .ok (.ireturn, 1) := by decide +kernel
theorem dX5_clear_0 : decode cX5_clear 0 = .ok (.aload_n 0, 1) := by decide +kernel
theorem dX5_clear_1 : decode cX5_clear 1 = .ok (.getfield 10, 3) := by decide +kernel
theorem dX5_clear_4 : decode cX5_clear 4 = .ok (.invokevirtual 107, 3) := by decide +kernel
theorem dX5_clear_7 : decode cX5_clear 7 = .ok (.istore_n 1, 1) := by decide +kernel
theorem dX5_clear_8 : decode cX5_clear 8 = .ok (.iconst 0, 1) := by decide +kernel
theorem dX5_clear_9 : decode cX5_clear 9 = .ok (.istore_n 2, 1) := by decide +kernel
theorem dX5_clear_10 : decode cX5_clear 10 = .ok (.iload_n 2, 1) := by decide +kernel
theorem dX5_clear_11 : decode cX5_clear 11 = .ok (.aload_n 0, 1) := by decide +kernel
theorem dX5_clear_12 : decode cX5_clear 12 = .ok (.getfield 10, 3) := by decide +kernel
theorem dX5_clear_15 : decode cX5_clear 15 = .ok (.getfield 103, 3) := by decide +kernel
theorem dX5_clear_18 : decode cX5_clear 18 = .ok (.if_icmp .ge 19, 3) := by decide +kernel
theorem dX5_clear_21 : decode cX5_clear 21 = .ok (.aload_n 0, 1) := by decide +kernel
theorem dX5_clear_22 : decode cX5_clear 22 = .ok (.getfield 10, 3) := by decide +kernel
theorem dX5_clear_25 : decode cX5_clear 25 = .ok (.getfield 144, 3) := by decide +kernel
theorem dX5_clear_28 : decode cX5_clear 28 = .ok (.iload_n 2, 1) := by decide +kernel
theorem dX5_clear_29 : decode cX5_clear 29 = .ok (.iconst 0, 1) := by decide +kernel
theorem dX5_clear_30 : decode cX5_clear 30 = .ok (.iastore, 1) := by decide +kernel
theorem dX5_clear_31 : decode cX5_clear 31 = .ok (.iinc 2 1, 3) := by decide +kernel
theorem dX5_clear_34 : decode cX5_clear 34 = .ok (.goto (-24), 3) := by decide +kernel
theorem dX5_clear_37 : decode cX5_clear 37 = .ok (.aload_n 0, 1) := by decide +kernel
theorem dX5_clear_38 : decode cX5_clear 38 = .ok (.getfield 10, 3) := by decide +kernel
theorem dX5_clear_41 : decode cX5_clear 41 = .ok (.iconst 0, 1) := by decide +kernel
theorem dX5_clear_42 : decode cX5_clear 42 = .ok (.putfield 104, 3) := by decide +kernel
theorem dX5_clear_45 : decode cX5_clear 45 = .ok (.iload_n 1, 1) := by decide +kernel
theorem dX5_clear_46 : decode cX5_clear 46 = .ok (.ireturn, 1) := by decide +kernel
theorem dX5_pushes_0 : decode cX5_pushes 0 = .ok (.iload_n 1, 1) := by decide +kernel
theorem dX5_pushes_1 : decode cX5_pushes 1 = .ok (.iconst 0, 1) := by decide +kernel
theorem dX5_pushes_2 : decode cX5_pushes 2 = .ok (.sipush 1000, 3) := by decide +kernel
theorem dX5_pushes_5 : decode cX5_pushes 5 = .ok (.invokestatic 70, 3) := by decide +kernel
theorem dX5_pushes_8 : decode cX5_pushes 8 = .ok (.ifCond .ne 5, 3) := by decide +kernel
theorem dX5_pushes_11 : decode cX5_pushes 11 = .ok (.iconst (-1), 1) := by decide +kernel
theorem dX5_pushes_12 : decode cX5_pushes 12 = .ok (.ireturn, 1) := by decide +kernel
theorem dX5_pushes_13 : decode cX5_pushes 13 = .ok (.aload_n 0, 1) := by decide +kernel
theorem dX5_pushes_14 : decode cX5_pushes 14 = .ok (.getfield 10, 3) := by decide +kernel
theorem dX5_pushes_17 : decode cX5_pushes 17 = .ok (.getfield 104, 3) := by decide +kernel
theorem dX5_pushes_20 : decode cX5_pushes 20 = .ok (.iload_n 1, 1) := by decide +kernel
theorem dX5_pushes_21 : decode cX5_pushes 21 = .ok (.iadd, 1) := by decide +kernel
theorem dX5_pushes_22 : decode cX5_pushes 22 = .ok (.ldc 147, 2) := by decide +kernel
theorem dX5_pushes_24 : decode cX5_pushes 24 = .ok (.if_icmp .le 6, 3) := by decide +kernel
theorem dX5_pushes_27 : decode cX5_pushes 27 = .ok (.bipush (-3), 2) := by decide +kernel
theorem dX5_pushes_29 : decode cX5_pushes 29 = .ok (.ireturn, 1) := by decide +kernel
theorem dX5_pushes_30 : decode cX5_pushes 30 = .ok (.aload_n 0, 1) := by decide +kernel
theorem dX5_pushes_31 : decode cX5_pushes 31 = .ok (.getfield 10, 3) := by decide +kernel
theorem dX5_pushes_34 : decode cX5_pushes 34 = .ok (.iload_n 1, 1) := by decide +kernel
theorem dX5_pushes_35 : decode cX5_pushes 35 = .ok (.invokevirtual 148, 3) := by decide +kernel
theorem dX5_pushes_38 : decode cX5_pushes 38 = .ok (.aload_n 0, 1) := by decide +kernel
theorem dX5_pushes_39 : decode cX5_pushes 39 = .ok (.getfield 10, 3) := by decide +kernel
theorem dX5_pushes_42 : decode cX5_pushes 42 = .ok (.invokevirtual 107, 3) := by decide +kernel
theorem dX5_pushes_45 : decode cX5_pushes 45 = .ok (.ireturn, 1) := by decide +kernel
theorem dX5_runs_0 : decode cX5_runs 0 = .ok (.iload_n 1, 1) := by decide +kernel
theorem dX5_runs_1 : decode cX5_runs 1 = .ok (.iconst 0, 1) := by decide +kernel
theorem dX5_runs_2 : decode cX5_runs 2 = .ok (.sipush 1000, 3) := by decide +kernel
theorem dX5_runs_5 : decode cX5_runs 5 = .ok (.invokestatic 70, 3) := by decide +kernel
theorem dX5_runs_8 : decode cX5_runs 8 = .ok (.ifCond .eq 12, 3) := by decide +kernel
theorem dX5_runs_11 : decode cX5_runs 11 = .ok (.iload_n 2, 1) := by decide +kernel
theorem dX5_runs_12 : decode cX5_runs 12 = .ok (.iconst 0, 1) := by decide +kernel
theorem dX5_runs_13 : decode cX5_runs 13 = .ok (.iconst 4, 1) := by decide +kernel
theorem dX5_runs_14 : decode cX5_runs 14 = .ok (.invokestatic 70, 3) := by decide +kernel
theorem dX5_runs_17 : decode cX5_runs 17 = .ok (.ifCond .ne 5, 3) := by decide +kernel
theorem dX5_runs_20 : decode cX5_runs 20 = .ok (.iconst (-1), 1) := by decide +kernel
theorem dX5_runs_21 : decode cX5_runs 21 = .ok (.ireturn, 1) := by decide +kernel
theorem dX5_runs_22 : decode cX5_runs 22 = .ok (.aload_n 0, 1) := by decide +kernel
theorem dX5_runs_23 : decode cX5_runs 23 = .ok (.getfield 16, 3) := by decide +kernel
theorem dX5_runs_26 : decode cX5_runs 26 = .ok (.aload_n 0, 1) := by decide +kernel
theorem dX5_runs_27 : decode cX5_runs 27 = .ok (.getfield 10, 3) := by decide +kernel
theorem dX5_runs_30 : decode cX5_runs 30 = .ok (.invokevirtual 90, 3) := by decide +kernel
theorem dX5_runs_33 : decode cX5_runs 33 = .ok (.aload_n 0, 1) := by decide +kernel
theorem dX5_runs_34 : decode cX5_runs 34 = .ok (.getfield 16, 3) := by decide +kernel
theorem dX5_runs_37 : decode cX5_runs 37 = .ok (.invokevirtual 107, 3) := by decide +kernel
theorem dX5_runs_40 : decode cX5_runs 40 = .ok (.istore_n 3, 1) := by decide +kernel
theorem dX5_runs_41 : decode cX5_runs 41 = .ok (.iconst 0, 1) := by decide +kernel
theorem dX5_runs_42 : decode cX5_runs 42 = .ok (.istore 4, 2) := by decide +kernel
theorem dX5_runs_44 : decode cX5_runs 44 = .ok (.iconst 0, 1) := by decide +kernel
theorem dX5_runs_45 : decode cX5_runs 45 = .ok (.istore 5, 2) := by decide +kernel
theorem dX5_runs_47 : decode cX5_runs 47 = .ok (.iload 5, 2) := by decide +kernel
theorem dX5_runs_49 : decode cX5_runs 49 = .ok (.iload_n 1, 1) := by decide +kernel
theorem dX5_runs_50 : decode cX5_runs 50 = .ok (.if_icmp .ge 54, 3) := by decide +kernel
theorem dX5_runs_53 : decode cX5_runs 53 = .ok (.aload_n 0, 1) := by decide +kernel
theorem dX5_runs_54 : decode cX5_runs 54 = .ok (.getfield 16, 3) := by decide +kernel
theorem dX5_runs_57 : decode cX5_runs 57 = .ok (.invokevirtual 151, 3) := by decide +kernel
theorem dX5_runs_60 : decode cX5_runs 60 = .ok (.iload_n 2, 1) := by decide +kernel
theorem dX5_runs_61 : decode cX5_runs 61 = .ok (.iconst 2, 1) := by decide +kernel
theorem dX5_runs_62 : decode cX5_runs 62 = .ok (.if_icmp .ne 18, 3) := by decide +kernel
theorem dX5_runs_65 : decode cX5_runs 65 = .ok (.iload_n 3, 1) := by decide +kernel
theorem dX5_runs_66 : decode cX5_runs 66 = .ok (.aload_n 0, 1) := by decide +kernel
theorem dX5_runs_67 : decode cX5_runs 67 = .ok (.getfield 16, 3) := by decide +kernel
theorem dX5_runs_70 : decode cX5_runs 70 = .ok (.invokevirtual 107, 3) := by decide +kernel
theorem dX5_runs_73 : decode cX5_runs 73 = .ok (.invokestatic 154, 3) := by decide +kernel
theorem dX5_runs_76 : decode cX5_runs 76 = .ok (.istore_n 3, 1) := by decide +kernel
theorem dX5_runs_77 : decode cX5_runs 77 = .ok (.goto 21, 3) := by decide +kernel
theorem dX5_runs_80 : decode cX5_runs 80 = .ok (.iload_n 2, 1) := by decide +kernel
theorem dX5_runs_81 : decode cX5_runs 81 = .ok (.iconst 4, 1) := by decide +kernel
theorem dX5_runs_82 : decode cX5_runs 82 = .ok (.if_icmp .ne 16, 3) := by decide +kernel
theorem dX5_runs_85 : decode cX5_runs 85 = .ok (.aload_n 0, 1) := by decide +kernel
theorem dX5_runs_86 : decode cX5_runs 86 = .ok (.getfield 16, 3) := by decide +kernel
theorem dX5_runs_89 : decode cX5_runs 89 = .ok (.invokevirtual 159, 3) := by decide +kernel
theorem dX5_runs_92 : decode cX5_runs 92 = .ok (.ifCond .eq 6, 3) := by decide +kernel
theorem dX5_runs_95 : decode cX5_runs 95 = .ok (.iinc 4 1, 3) := by decide +kernel
theorem dX5_runs_98 : decode cX5_runs 98 = .ok (.iinc 5 1, 3) := by decide +kernel
theorem dX5_runs_101 : decode cX5_runs 101 = .ok (.goto (-54), 3) := by decide +kernel
theorem dX5_runs_104 : decode cX5_runs 104 = .ok (.iload_n 2, 1) := by decide +kernel
theorem dX5_runs_105 : decode cX5_runs 105 = .ok (.tableswitch 57 0 3 #[31, 39, 47, 49], 31) := by decide +kernel
theorem dX5_runs_136 : decode cX5_runs 136 = .ok (.aload_n 0, 1) := by decide +kernel
theorem dX5_runs_137 : decode cX5_runs 137 = .ok (.getfield 16, 3) := by decide +kernel
theorem dX5_runs_140 : decode cX5_runs 140 = .ok (.invokevirtual 107, 3) := by decide +kernel
theorem dX5_runs_143 : decode cX5_runs 143 = .ok (.ireturn, 1) := by decide +kernel
theorem dX5_runs_144 : decode cX5_runs 144 = .ok (.aload_n 0, 1) := by decide +kernel
theorem dX5_runs_145 : decode cX5_runs 145 = .ok (.getfield 16, 3) := by decide +kernel
theorem dX5_runs_148 : decode cX5_runs 148 = .ok (.getfield 163, 3) := by decide +kernel
theorem dX5_runs_151 : decode cX5_runs 151 = .ok (.ireturn, 1) := by decide +kernel
theorem dX5_runs_152 : decode cX5_runs 152 = .ok (.iload_n 3, 1) := by decide +kernel
theorem dX5_runs_153 : decode cX5_runs 153 = .ok (.ireturn, 1) := by decide +kernel
theorem dX5_runs_154 : decode cX5_runs 154 = .ok (.aload_n 0, 1) := by decide +kernel
theorem dX5_runs_155 : decode cX5_runs 155 = .ok (.getfield 16, 3) := by decide +kernel
theorem dX5_runs_158 : decode cX5_runs 158 = .ok (.invokevirtual 114, 3) := by decide +kernel
theorem dX5_runs_161 : decode cX5_runs 161 = .ok (.ireturn, 1) := by decide +kernel
theorem dX5_runs_162 : decode cX5_runs 162 = .ok (.iload 4, 2) := by decide +kernel
theorem dX5_runs_164 : decode cX5_runs 164 = .ok (.ireturn, 1) := by decide +kernel
theorem dX5_ahead_0 : decode cX5_ahead 0 = .ok (.aload_n 0, 1) := by decide +kernel
theorem dX5_ahead_1 : decode cX5_ahead 1 = .ok (.getfield 10, 3) := by decide +kernel
theorem dX5_ahead_4 : decode cX5_ahead 4 = .ok (.iload_n 1, 1) := by decide +kernel
theorem dX5_ahead_5 : decode cX5_ahead 5 = .ok (.invokevirtual 120, 3) := by decide +kernel
theorem dX5_ahead_8 : decode cX5_ahead 8 = .ok (.ifCond .eq 14, 3) := by decide +kernel
theorem dX5_ahead_11 : decode cX5_ahead 11 = .ok (.iload_n 2, 1) := by decide +kernel
theorem dX5_ahead_12 : decode cX5_ahead 12 = .ok (.iconst 0, 1) := by decide +kernel
theorem dX5_ahead_13 : decode cX5_ahead 13 = .ok (.sipush 1000, 3) := by decide +kernel
theorem dX5_ahead_16 : decode cX5_ahead 16 = .ok (.invokestatic 70, 3) := by decide +kernel
theorem dX5_ahead_19 : decode cX5_ahead 19 = .ok (.ifCond .ne 5, 3) := by decide +kernel
theorem dX5_ahead_22 : decode cX5_ahead 22 = .ok (.iconst (-1), 1) := by decide +kernel
theorem dX5_ahead_23 : decode cX5_ahead 23 = .ok (.ireturn, 1) := by decide +kernel
theorem dX5_ahead_24 : decode cX5_ahead 24 = .ok (.aload_n 0, 1) := by decide +kernel
theorem dX5_ahead_25 : decode cX5_ahead 25 = .ok (.getfield 16, 3) := by decide +kernel
theorem dX5_ahead_28 : decode cX5_ahead 28 = .ok (.aload_n 0, 1) := by decide +kernel
theorem dX5_ahead_29 : decode cX5_ahead 29 = .ok (.getfield 10, 3) := by decide +kernel
theorem dX5_ahead_32 : decode cX5_ahead 32 = .ok (.invokevirtual 90, 3) := by decide +kernel
theorem dX5_ahead_35 : decode cX5_ahead 35 = .ok (.aload_n 0, 1) := by decide +kernel
theorem dX5_ahead_36 : decode cX5_ahead 36 = .ok (.getfield 16, 3) := by decide +kernel
theorem dX5_ahead_39 : decode cX5_ahead 39 = .ok (.iload_n 2, 1) := by decide +kernel
theorem dX5_ahead_40 : decode cX5_ahead 40 = .ok (.invokevirtual 148, 3) := by decide +kernel
theorem dX5_ahead_43 : decode cX5_ahead 43 = .ok (.aload_n 0, 1) := by decide +kernel
theorem dX5_ahead_44 : decode cX5_ahead 44 = .ok (.getfield 16, 3) := by decide +kernel
theorem dX5_ahead_47 : decode cX5_ahead 47 = .ok (.getfield 144, 3) := by decide +kernel
theorem dX5_ahead_50 : decode cX5_ahead 50 = .ok (.iload_n 1, 1) := by decide +kernel
theorem dX5_ahead_51 : decode cX5_ahead 51 = .ok (.iaload, 1) := by decide +kernel
theorem dX5_ahead_52 : decode cX5_ahead 52 = .ok (.ireturn, 1) := by decide +kernel
theorem dX5_when_0 : decode cX5_when 0 = .ok (.iload_n 1, 1) := by decide +kernel
theorem dX5_when_1 : decode cX5_when 1 = .ok (.iconst 0, 1) := by decide +kernel
theorem dX5_when_2 : decode cX5_when 2 = .ok (.ldc 166, 2) := by decide +kernel
theorem dX5_when_4 : decode cX5_when 4 = .ok (.invokestatic 70, 3) := by decide +kernel
theorem dX5_when_7 : decode cX5_when 7 = .ok (.ifCond .ne 5, 3) := by decide +kernel
theorem dX5_when_10 : decode cX5_when 10 = .ok (.iconst (-1), 1) := by decide +kernel
theorem dX5_when_11 : decode cX5_when 11 = .ok (.ireturn, 1) := by decide +kernel
theorem dX5_when_12 : decode cX5_when 12 = .ok (.aload_n 0, 1) := by decide +kernel
theorem dX5_when_13 : decode cX5_when 13 = .ok (.getfield 16, 3) := by decide +kernel
theorem dX5_when_16 : decode cX5_when 16 = .ok (.aload_n 0, 1) := by decide +kernel
theorem dX5_when_17 : decode cX5_when 17 = .ok (.getfield 10, 3) := by decide +kernel
theorem dX5_when_20 : decode cX5_when 20 = .ok (.invokevirtual 90, 3) := by decide +kernel
theorem dX5_when_23 : decode cX5_when 23 = .ok (.iconst 0, 1) := by decide +kernel
theorem dX5_when_24 : decode cX5_when 24 = .ok (.istore_n 2, 1) := by decide +kernel
theorem dX5_when_25 : decode cX5_when 25 = .ok (.iload_n 2, 1) := by decide +kernel
theorem dX5_when_26 : decode cX5_when 26 = .ok (.sipush 1000, 3) := by decide +kernel
theorem dX5_when_29 : decode cX5_when 29 = .ok (.if_icmp .gt 29, 3) := by decide +kernel
theorem dX5_when_32 : decode cX5_when 32 = .ok (.aload_n 0, 1) := by decide +kernel
theorem dX5_when_33 : decode cX5_when 33 = .ok (.getfield 16, 3) := by decide +kernel
theorem dX5_when_36 : decode cX5_when 36 = .ok (.invokevirtual 107, 3) := by decide +kernel
theorem dX5_when_39 : decode cX5_when 39 = .ok (.iload_n 1, 1) := by decide +kernel
theorem dX5_when_40 : decode cX5_when 40 = .ok (.if_icmp .ne 5, 3) := by decide +kernel
theorem dX5_when_43 : decode cX5_when 43 = .ok (.iload_n 2, 1) := by decide +kernel
theorem dX5_when_44 : decode cX5_when 44 = .ok (.ireturn, 1) := by decide +kernel
theorem dX5_when_45 : decode cX5_when 45 = .ok (.aload_n 0, 1) := by decide +kernel
theorem dX5_when_46 : decode cX5_when 46 = .ok (.getfield 16, 3) := by decide +kernel
theorem dX5_when_49 : decode cX5_when 49 = .ok (.invokevirtual 151, 3) := by decide +kernel
theorem dX5_when_52 : decode cX5_when 52 = .ok (.iinc 2 1, 3) := by decide +kernel
theorem dX5_when_55 : decode cX5_when 55 = .ok (.goto (-30), 3) := by decide +kernel
theorem dX5_when_58 : decode cX5_when 58 = .ok (.bipush (-4), 2) := by decide +kernel
theorem dX5_when_60 : decode cX5_when 60 = .ok (.ireturn, 1) := by decide +kernel
theorem dX5_shows_0 : decode cX5_shows 0 = .ok (.aload_n 0, 1) := by decide +kernel
theorem dX5_shows_1 : decode cX5_shows 1 = .ok (.getfield 10, 3) := by decide +kernel
theorem dX5_shows_4 : decode cX5_shows 4 = .ok (.iload_n 1, 1) := by decide +kernel
theorem dX5_shows_5 : decode cX5_shows 5 = .ok (.invokevirtual 120, 3) := by decide +kernel
theorem dX5_shows_8 : decode cX5_shows 8 = .ok (.ifCond .eq 13, 3) := by decide +kernel
theorem dX5_shows_11 : decode cX5_shows 11 = .ok (.iload_n 2, 1) := by decide +kernel
theorem dX5_shows_12 : decode cX5_shows 12 = .ok (.iconst 0, 1) := by decide +kernel
theorem dX5_shows_13 : decode cX5_shows 13 = .ok (.bipush 11, 2) := by decide +kernel
theorem dX5_shows_15 : decode cX5_shows 15 = .ok (.invokestatic 70, 3) := by decide +kernel
theorem dX5_shows_18 : decode cX5_shows 18 = .ok (.ifCond .ne 5, 3) := by decide +kernel
theorem dX5_shows_21 : decode cX5_shows 21 = .ok (.iconst (-1), 1) := by decide +kernel
theorem dX5_shows_22 : decode cX5_shows 22 = .ok (.ireturn, 1) := by decide +kernel
theorem dX5_shows_23 : decode cX5_shows 23 = .ok (.aload_n 0, 1) := by decide +kernel
theorem dX5_shows_24 : decode cX5_shows 24 = .ok (.getfield 16, 3) := by decide +kernel
theorem dX5_shows_27 : decode cX5_shows 27 = .ok (.aload_n 0, 1) := by decide +kernel
theorem dX5_shows_28 : decode cX5_shows 28 = .ok (.getfield 10, 3) := by decide +kernel
theorem dX5_shows_31 : decode cX5_shows 31 = .ok (.invokevirtual 90, 3) := by decide +kernel
theorem dX5_shows_34 : decode cX5_shows 34 = .ok (.iconst 0, 1) := by decide +kernel
theorem dX5_shows_35 : decode cX5_shows 35 = .ok (.istore_n 3, 1) := by decide +kernel
theorem dX5_shows_36 : decode cX5_shows 36 = .ok (.iload_n 3, 1) := by decide +kernel
theorem dX5_shows_37 : decode cX5_shows 37 = .ok (.sipush 1000, 3) := by decide +kernel
theorem dX5_shows_40 : decode cX5_shows 40 = .ok (.if_icmp .gt 31, 3) := by decide +kernel
theorem dX5_shows_43 : decode cX5_shows 43 = .ok (.aload_n 0, 1) := by decide +kernel
theorem dX5_shows_44 : decode cX5_shows 44 = .ok (.getfield 16, 3) := by decide +kernel
theorem dX5_shows_47 : decode cX5_shows 47 = .ok (.getfield 144, 3) := by decide +kernel
theorem dX5_shows_50 : decode cX5_shows 50 = .ok (.iload_n 1, 1) := by decide +kernel
theorem dX5_shows_51 : decode cX5_shows 51 = .ok (.iaload, 1) := by decide +kernel
theorem dX5_shows_52 : decode cX5_shows 52 = .ok (.iload_n 2, 1) := by decide +kernel
theorem dX5_shows_53 : decode cX5_shows 53 = .ok (.if_icmp .ne 5, 3) := by decide +kernel
theorem dX5_shows_56 : decode cX5_shows 56 = .ok (.iload_n 3, 1) := by decide +kernel
theorem dX5_shows_57 : decode cX5_shows 57 = .ok (.ireturn, 1) := by decide +kernel
theorem dX5_shows_58 : decode cX5_shows 58 = .ok (.aload_n 0, 1) := by decide +kernel
theorem dX5_shows_59 : decode cX5_shows 59 = .ok (.getfield 16, 3) := by decide +kernel
theorem dX5_shows_62 : decode cX5_shows 62 = .ok (.invokevirtual 151, 3) := by decide +kernel
theorem dX5_shows_65 : decode cX5_shows 65 = .ok (.iinc 3 1, 3) := by decide +kernel
theorem dX5_shows_68 : decode cX5_shows 68 = .ok (.goto (-32), 3) := by decide +kernel
theorem dX5_shows_71 : decode cX5_shows 71 = .ok (.bipush (-4), 2) := by decide +kernel
theorem dX5_shows_73 : decode cX5_shows 73 = .ok (.ireturn, 1) := by decide +kernel
theorem dX5_again_0 : decode cX5_again 0 = .ok (.aload_n 0, 1) := by decide +kernel
theorem dX5_again_1 : decode cX5_again 1 = .ok (.getfield 16, 3) := by decide +kernel
theorem dX5_again_4 : decode cX5_again 4 = .ok (.aload_n 0, 1) := by decide +kernel
theorem dX5_again_5 : decode cX5_again 5 = .ok (.getfield 10, 3) := by decide +kernel
theorem dX5_again_8 : decode cX5_again 8 = .ok (.invokevirtual 90, 3) := by decide +kernel
theorem dX5_again_11 : decode cX5_again 11 = .ok (.iconst 1, 1) := by decide +kernel
theorem dX5_again_12 : decode cX5_again 12 = .ok (.istore_n 1, 1) := by decide +kernel
theorem dX5_again_13 : decode cX5_again 13 = .ok (.iload_n 1, 1) := by decide +kernel
theorem dX5_again_14 : decode cX5_again 14 = .ok (.sipush 1000, 3) := by decide +kernel
theorem dX5_again_17 : decode cX5_again 17 = .ok (.if_icmp .gt 32, 3) := by decide +kernel
theorem dX5_again_20 : decode cX5_again 20 = .ok (.aload_n 0, 1) := by decide +kernel
theorem dX5_again_21 : decode cX5_again 21 = .ok (.getfield 16, 3) := by decide +kernel
theorem dX5_again_24 : decode cX5_again 24 = .ok (.invokevirtual 151, 3) := by decide +kernel
theorem dX5_again_27 : decode cX5_again 27 = .ok (.aload_n 0, 1) := by decide +kernel
theorem dX5_again_28 : decode cX5_again 28 = .ok (.getfield 16, 3) := by decide +kernel
theorem dX5_again_31 : decode cX5_again 31 = .ok (.aload_n 0, 1) := by decide +kernel
theorem dX5_again_32 : decode cX5_again 32 = .ok (.getfield 10, 3) := by decide +kernel
theorem dX5_again_35 : decode cX5_again 35 = .ok (.invokevirtual 167, 3) := by decide +kernel
theorem dX5_again_38 : decode cX5_again 38 = .ok (.ifCond .eq 5, 3) := by decide +kernel
theorem dX5_again_41 : decode cX5_again 41 = .ok (.iload_n 1, 1) := by decide +kernel
theorem dX5_again_42 : decode cX5_again 42 = .ok (.ireturn, 1) := by decide +kernel
theorem dX5_again_43 : decode cX5_again 43 = .ok (.iinc 1 1, 3) := by decide +kernel
theorem dX5_again_46 : decode cX5_again 46 = .ok (.goto (-33), 3) := by decide +kernel
theorem dX5_again_49 : decode cX5_again 49 = .ok (.bipush (-4), 2) := by decide +kernel
theorem dX5_again_51 : decode cX5_again 51 = .ok (.ireturn, 1) := by decide +kernel
theorem dX5_mend_0 : decode cX5_mend 0 = .ok (.iload_n 1, 1) := by decide +kernel
theorem dX5_mend_1 : decode cX5_mend 1 = .ok (.iconst 0, 1) := by decide +kernel
theorem dX5_mend_2 : decode cX5_mend 2 = .ok (.sipush 200, 3) := by decide +kernel
theorem dX5_mend_5 : decode cX5_mend 5 = .ok (.invokestatic 70, 3) := by decide +kernel
theorem dX5_mend_8 : decode cX5_mend 8 = .ok (.ifCond .eq 12, 3) := by decide +kernel
theorem dX5_mend_11 : decode cX5_mend 11 = .ok (.iload_n 2, 1) := by decide +kernel
theorem dX5_mend_12 : decode cX5_mend 12 = .ok (.iconst 0, 1) := by decide +kernel
theorem dX5_mend_13 : decode cX5_mend 13 = .ok (.iconst 1, 1) := by decide +kernel
theorem dX5_mend_14 : decode cX5_mend 14 = .ok (.invokestatic 70, 3) := by decide +kernel
theorem dX5_mend_17 : decode cX5_mend 17 = .ok (.ifCond .ne 5, 3) := by decide +kernel
theorem dX5_mend_20 : decode cX5_mend 20 = .ok (.iconst (-1), 1) := by decide +kernel
theorem dX5_mend_21 : decode cX5_mend 21 = .ok (.ireturn, 1) := by decide +kernel
theorem dX5_mend_22 : decode cX5_mend 22 = .ok (.aload_n 0, 1) := by decide +kernel
theorem dX5_mend_23 : decode cX5_mend 23 = .ok (.getfield 16, 3) := by decide +kernel
theorem dX5_mend_26 : decode cX5_mend 26 = .ok (.aload_n 0, 1) := by decide +kernel
theorem dX5_mend_27 : decode cX5_mend 27 = .ok (.getfield 10, 3) := by decide +kernel
theorem dX5_mend_30 : decode cX5_mend 30 = .ok (.invokevirtual 90, 3) := by decide +kernel
theorem dX5_mend_33 : decode cX5_mend 33 = .ok (.aload_n 0, 1) := by decide +kernel
theorem dX5_mend_34 : decode cX5_mend 34 = .ok (.iload_n 1, 1) := by decide +kernel
theorem dX5_mend_35 : decode cX5_mend 35 = .ok (.invokevirtual 170, 3) := by decide +kernel
theorem dX5_mend_38 : decode cX5_mend 38 = .ok (.istore_n 3, 1) := by decide +kernel
theorem dX5_mend_39 : decode cX5_mend 39 = .ok (.bipush (-4), 2) := by decide +kernel
theorem dX5_mend_41 : decode cX5_mend 41 = .ok (.istore 4, 2) := by decide +kernel
theorem dX5_mend_43 : decode cX5_mend 43 = .ok (.iconst 0, 1) := by decide +kernel
theorem dX5_mend_44 : decode cX5_mend 44 = .ok (.istore 5, 2) := by decide +kernel
theorem dX5_mend_46 : decode cX5_mend 46 = .ok (.iload 5, 2) := by decide +kernel
theorem dX5_mend_48 : decode cX5_mend 48 = .ok (.aload_n 0, 1) := by decide +kernel
theorem dX5_mend_49 : decode cX5_mend 49 = .ok (.getfield 10, 3) := by decide +kernel
theorem dX5_mend_52 : decode cX5_mend 52 = .ok (.getfield 103, 3) := by decide +kernel
theorem dX5_mend_55 : decode cX5_mend 55 = .ok (.if_icmp .ge 38, 3) := by decide +kernel
theorem dX5_mend_58 : decode cX5_mend 58 = .ok (.aload_n 0, 1) := by decide +kernel
theorem dX5_mend_59 : decode cX5_mend 59 = .ok (.iload 5, 2) := by decide +kernel
theorem dX5_mend_61 : decode cX5_mend 61 = .ok (.iconst 3, 1) := by decide +kernel
theorem dX5_mend_62 : decode cX5_mend 62 = .ok (.bipush 12, 2) := by decide +kernel
theorem dX5_mend_64 : decode cX5_mend 64 = .ok (.invokevirtual 173, 3) := by decide +kernel
theorem dX5_mend_67 : decode cX5_mend 67 = .ok (.aload_n 0, 1) := by decide +kernel
theorem dX5_mend_68 : decode cX5_mend 68 = .ok (.iload_n 1, 1) := by decide +kernel
theorem dX5_mend_69 : decode cX5_mend 69 = .ok (.invokevirtual 170, 3) := by decide +kernel
theorem dX5_mend_72 : decode cX5_mend 72 = .ok (.istore 6, 2) := by decide +kernel
theorem dX5_mend_74 : decode cX5_mend 74 = .ok (.iload 6, 2) := by decide +kernel
theorem dX5_mend_76 : decode cX5_mend 76 = .ok (.iload_n 3, 1) := by decide +kernel
theorem dX5_mend_77 : decode cX5_mend 77 = .ok (.if_icmp .ge 10, 3) := by decide +kernel
theorem dX5_mend_80 : decode cX5_mend 80 = .ok (.iload 6, 2) := by decide +kernel
theorem dX5_mend_82 : decode cX5_mend 82 = .ok (.istore_n 3, 1) := by decide +kernel
theorem dX5_mend_83 : decode cX5_mend 83 = .ok (.iload 5, 2) := by decide +kernel
theorem dX5_mend_85 : decode cX5_mend 85 = .ok (.istore 4, 2) := by decide +kernel
theorem dX5_mend_87 : decode cX5_mend 87 = .ok (.iinc 5 1, 3) := by decide +kernel
theorem dX5_mend_90 : decode cX5_mend 90 = .ok (.goto (-44), 3) := by decide +kernel
theorem dX5_mend_93 : decode cX5_mend 93 = .ok (.iload 4, 2) := by decide +kernel
theorem dX5_mend_95 : decode cX5_mend 95 = .ok (.bipush (-4), 2) := by decide +kernel
theorem dX5_mend_97 : decode cX5_mend 97 = .ok (.if_icmp .eq 7, 3) := by decide +kernel
theorem dX5_mend_100 : decode cX5_mend 100 = .ok (.iload_n 2, 1) := by decide +kernel
theorem dX5_mend_101 : decode cX5_mend 101 = .ok (.ifCond .ne 8, 3) := by decide +kernel
theorem dX5_mend_104 : decode cX5_mend 104 = .ok (.iload 4, 2) := by decide +kernel
theorem dX5_mend_106 : decode cX5_mend 106 = .ok (.goto 4, 3) := by decide +kernel
theorem dX5_mend_109 : decode cX5_mend 109 = .ok (.iload_n 3, 1) := by decide +kernel
theorem dX5_mend_110 : decode cX5_mend 110 = .ok (.ireturn, 1) := by decide +kernel
theorem dX5_swap_0 : decode cX5_swap 0 = .ok (.iload_n 1, 1) := by decide +kernel
theorem dX5_swap_1 : decode cX5_swap 1 = .ok (.iconst 0, 1) := by decide +kernel
theorem dX5_swap_2 : decode cX5_swap 2 = .ok (.sipush 200, 3) := by decide +kernel
theorem dX5_swap_5 : decode cX5_swap 5 = .ok (.invokestatic 70, 3) := by decide +kernel
theorem dX5_swap_8 : decode cX5_swap 8 = .ok (.ifCond .eq 12, 3) := by decide +kernel
theorem dX5_swap_11 : decode cX5_swap 11 = .ok (.iload_n 2, 1) := by decide +kernel
theorem dX5_swap_12 : decode cX5_swap 12 = .ok (.iconst 0, 1) := by decide +kernel
theorem dX5_swap_13 : decode cX5_swap 13 = .ok (.iconst 1, 1) := by decide +kernel
theorem dX5_swap_14 : decode cX5_swap 14 = .ok (.invokestatic 70, 3) := by decide +kernel
theorem dX5_swap_17 : decode cX5_swap 17 = .ok (.ifCond .ne 5, 3) := by decide +kernel
theorem dX5_swap_20 : decode cX5_swap 20 = .ok (.iconst (-1), 1) := by decide +kernel
theorem dX5_swap_21 : decode cX5_swap 21 = .ok (.ireturn, 1) := by decide +kernel
theorem dX5_swap_22 : decode cX5_swap 22 = .ok (.aload_n 0, 1) := by decide +kernel
theorem dX5_swap_23 : decode cX5_swap 23 = .ok (.getfield 16, 3) := by decide +kernel
theorem dX5_swap_26 : decode cX5_swap 26 = .ok (.aload_n 0, 1) := by decide +kernel
theorem dX5_swap_27 : decode cX5_swap 27 = .ok (.getfield 10, 3) := by decide +kernel
theorem dX5_swap_30 : decode cX5_swap 30 = .ok (.invokevirtual 90, 3) := by decide +kernel
theorem dX5_swap_33 : decode cX5_swap 33 = .ok (.aload_n 0, 1) := by decide +kernel
theorem dX5_swap_34 : decode cX5_swap 34 = .ok (.iload_n 1, 1) := by decide +kernel
theorem dX5_swap_35 : decode cX5_swap 35 = .ok (.invokevirtual 170, 3) := by decide +kernel
theorem dX5_swap_38 : decode cX5_swap 38 = .ok (.istore_n 3, 1) := by decide +kernel
theorem dX5_swap_39 : decode cX5_swap 39 = .ok (.bipush (-4), 2) := by decide +kernel
theorem dX5_swap_41 : decode cX5_swap 41 = .ok (.istore 4, 2) := by decide +kernel
theorem dX5_swap_43 : decode cX5_swap 43 = .ok (.iconst 0, 1) := by decide +kernel
theorem dX5_swap_44 : decode cX5_swap 44 = .ok (.istore 5, 2) := by decide +kernel
theorem dX5_swap_46 : decode cX5_swap 46 = .ok (.iload 5, 2) := by decide +kernel
theorem dX5_swap_48 : decode cX5_swap 48 = .ok (.aload_n 0, 1) := by decide +kernel
theorem dX5_swap_49 : decode cX5_swap 49 = .ok (.getfield 10, 3) := by decide +kernel
theorem dX5_swap_52 : decode cX5_swap 52 = .ok (.getfield 103, 3) := by decide +kernel
theorem dX5_swap_55 : decode cX5_swap 55 = .ok (.if_icmp .ge 81, 3) := by decide +kernel
theorem dX5_swap_58 : decode cX5_swap 58 = .ok (.iload 5, 2) := by decide +kernel
theorem dX5_swap_60 : decode cX5_swap 60 = .ok (.iconst 1, 1) := by decide +kernel
theorem dX5_swap_61 : decode cX5_swap 61 = .ok (.iadd, 1) := by decide +kernel
theorem dX5_swap_62 : decode cX5_swap 62 = .ok (.istore 6, 2) := by decide +kernel
theorem dX5_swap_64 : decode cX5_swap 64 = .ok (.iload 6, 2) := by decide +kernel
theorem dX5_swap_66 : decode cX5_swap 66 = .ok (.aload_n 0, 1) := by decide +kernel
theorem dX5_swap_67 : decode cX5_swap 67 = .ok (.getfield 10, 3) := by decide +kernel
theorem dX5_swap_70 : decode cX5_swap 70 = .ok (.getfield 103, 3) := by decide +kernel
theorem dX5_swap_73 : decode cX5_swap 73 = .ok (.if_icmp .ge 57, 3) := by decide +kernel
theorem dX5_swap_76 : decode cX5_swap 76 = .ok (.aload_n 0, 1) := by decide +kernel
theorem dX5_swap_77 : decode cX5_swap 77 = .ok (.getfield 16, 3) := by decide +kernel
theorem dX5_swap_80 : decode cX5_swap 80 = .ok (.aload_n 0, 1) := by decide +kernel
theorem dX5_swap_81 : decode cX5_swap 81 = .ok (.getfield 10, 3) := by decide +kernel
theorem dX5_swap_84 : decode cX5_swap 84 = .ok (.invokevirtual 90, 3) := by decide +kernel
theorem dX5_swap_87 : decode cX5_swap 87 = .ok (.aload_n 0, 1) := by decide +kernel
theorem dX5_swap_88 : decode cX5_swap 88 = .ok (.getfield 16, 3) := by decide +kernel
theorem dX5_swap_91 : decode cX5_swap 91 = .ok (.iload 5, 2) := by decide +kernel
theorem dX5_swap_93 : decode cX5_swap 93 = .ok (.iload 6, 2) := by decide +kernel
theorem dX5_swap_95 : decode cX5_swap 95 = .ok (.invokevirtual 177, 3) := by decide +kernel
theorem dX5_swap_98 : decode cX5_swap 98 = .ok (.aload_n 0, 1) := by decide +kernel
theorem dX5_swap_99 : decode cX5_swap 99 = .ok (.iload_n 1, 1) := by decide +kernel
theorem dX5_swap_100 : decode cX5_swap 100 = .ok (.invokevirtual 170, 3) := by decide +kernel
theorem dX5_swap_103 : decode cX5_swap 103 = .ok (.istore 7, 2) := by decide +kernel
theorem dX5_swap_105 : decode cX5_swap 105 = .ok (.iload 7, 2) := by decide +kernel
theorem dX5_swap_107 : decode cX5_swap 107 = .ok (.iload_n 3, 1) := by decide +kernel
theorem dX5_swap_108 : decode cX5_swap 108 = .ok (.if_icmp .ge 16, 3) := by decide +kernel
theorem dX5_swap_111 : decode cX5_swap 111 = .ok (.iload 7, 2) := by decide +kernel
theorem dX5_swap_113 : decode cX5_swap 113 = .ok (.istore_n 3, 1) := by decide +kernel
theorem dX5_swap_114 : decode cX5_swap 114 = .ok (.bipush 10, 2) := by decide +kernel
theorem dX5_swap_116 : decode cX5_swap 116 = .ok (.iload 5, 2) := by decide +kernel
theorem dX5_swap_118 : decode cX5_swap 118 = .ok (.imul, 1) := by decide +kernel
theorem dX5_swap_119 : decode cX5_swap 119 = .ok (.iload 6, 2) := by decide +kernel
theorem dX5_swap_121 : decode cX5_swap 121 = .ok (.iadd, 1) := by decide +kernel
theorem dX5_swap_122 : decode cX5_swap 122 = .ok (.istore 4, 2) := by decide +kernel
theorem dX5_swap_124 : decode cX5_swap 124 = .ok (.iinc 6 1, 3) := by decide +kernel
theorem dX5_swap_127 : decode cX5_swap 127 = .ok (.goto (-63), 3) := by decide +kernel
theorem dX5_swap_130 : decode cX5_swap 130 = .ok (.iinc 5 1, 3) := by decide +kernel
theorem dX5_swap_133 : decode cX5_swap 133 = .ok (.goto (-87), 3) := by decide +kernel
theorem dX5_swap_136 : decode cX5_swap 136 = .ok (.iload 4, 2) := by decide +kernel
theorem dX5_swap_138 : decode cX5_swap 138 = .ok (.bipush (-4), 2) := by decide +kernel
theorem dX5_swap_140 : decode cX5_swap 140 = .ok (.if_icmp .eq 7, 3) := by decide +kernel
theorem dX5_swap_143 : decode cX5_swap 143 = .ok (.iload_n 2, 1) := by decide +kernel
theorem dX5_swap_144 : decode cX5_swap 144 = .ok (.ifCond .ne 8, 3) := by decide +kernel
theorem dX5_swap_147 : decode cX5_swap 147 = .ok (.iload 4, 2) := by decide +kernel
theorem dX5_swap_149 : decode cX5_swap 149 = .ok (.goto 4, 3) := by decide +kernel
theorem dX5_swap_152 : decode cX5_swap 152 = .ok (.iload_n 3, 1) := by decide +kernel
theorem dX5_swap_153 : decode cX5_swap 153 = .ok (.ireturn, 1) := by decide +kernel
theorem dX5_kind_0 : decode cX5_kind 0 = .ok (.aload_n 0, 1) := by decide +kernel
theorem dX5_kind_1 : decode cX5_kind 1 = .ok (.iload_n 1, 1) := by decide +kernel
theorem dX5_kind_2 : decode cX5_kind 2 = .ok (.iconst 0, 1) := by decide +kernel
theorem dX5_kind_3 : decode cX5_kind 3 = .ok (.iload_n 2, 1) := by decide +kernel
theorem dX5_kind_4 : decode cX5_kind 4 = .ok (.iload_n 3, 1) := by decide +kernel
theorem dX5_kind_5 : decode cX5_kind 5 = .ok (.invokevirtual 181, 3) := by decide +kernel
theorem dX5_kind_8 : decode cX5_kind 8 = .ok (.ireturn, 1) := by decide +kernel
theorem dX5_begin_0 : decode cX5_begin 0 = .ok (.aload_n 0, 1) := by decide +kernel
theorem dX5_begin_1 : decode cX5_begin 1 = .ok (.iload_n 1, 1) := by decide +kernel
theorem dX5_begin_2 : decode cX5_begin 2 = .ok (.iconst 2, 1) := by decide +kernel
theorem dX5_begin_3 : decode cX5_begin 3 = .ok (.iload_n 2, 1) := by decide +kernel
theorem dX5_begin_4 : decode cX5_begin 4 = .ok (.iload_n 3, 1) := by decide +kernel
theorem dX5_begin_5 : decode cX5_begin 5 = .ok (.invokevirtual 181, 3) := by decide +kernel
theorem dX5_begin_8 : decode cX5_begin 8 = .ok (.ireturn, 1) := by decide +kernel
theorem dX5_file_0 : decode cX5_file 0 = .ok (.aload_n 0, 1) := by decide +kernel
theorem dX5_file_1 : decode cX5_file 1 = .ok (.iload_n 1, 1) := by decide +kernel
theorem dX5_file_2 : decode cX5_file 2 = .ok (.iconst 3, 1) := by decide +kernel
theorem dX5_file_3 : decode cX5_file 3 = .ok (.iload_n 2, 1) := by decide +kernel
theorem dX5_file_4 : decode cX5_file 4 = .ok (.iload_n 3, 1) := by decide +kernel
theorem dX5_file_5 : decode cX5_file 5 = .ok (.invokevirtual 181, 3) := by decide +kernel
theorem dX5_file_8 : decode cX5_file 8 = .ok (.ireturn, 1) := by decide +kernel
theorem dX5_luck_0 : decode cX5_luck 0 = .ok (.iload_n 1, 1) := by decide +kernel
theorem dX5_luck_1 : decode cX5_luck 1 = .ok (.iconst 0, 1) := by decide +kernel
theorem dX5_luck_2 : decode cX5_luck 2 = .ok (.bipush 10, 2) := by decide +kernel
theorem dX5_luck_4 : decode cX5_luck 4 = .ok (.invokestatic 70, 3) := by decide +kernel
theorem dX5_luck_7 : decode cX5_luck 7 = .ok (.ifCond .eq 45, 3) := by decide +kernel
theorem dX5_luck_10 : decode cX5_luck 10 = .ok (.aload_n 0, 1) := by decide +kernel
theorem dX5_luck_11 : decode cX5_luck 11 = .ok (.getfield 10, 3) := by decide +kernel
theorem dX5_luck_14 : decode cX5_luck 14 = .ok (.iload_n 2, 1) := by decide +kernel
theorem dX5_luck_15 : decode cX5_luck 15 = .ok (.invokevirtual 120, 3) := by decide +kernel
theorem dX5_luck_18 : decode cX5_luck 18 = .ok (.ifCond .eq 34, 3) := by decide +kernel
theorem dX5_luck_21 : decode cX5_luck 21 = .ok (.iload_n 3, 1) := by decide +kernel
theorem dX5_luck_22 : decode cX5_luck 22 = .ok (.iconst 0, 1) := by decide +kernel
theorem dX5_luck_23 : decode cX5_luck 23 = .ok (.bipush 11, 2) := by decide +kernel
theorem dX5_luck_25 : decode cX5_luck 25 = .ok (.invokestatic 70, 3) := by decide +kernel
theorem dX5_luck_28 : decode cX5_luck 28 = .ok (.ifCond .eq 24, 3) := by decide +kernel
theorem dX5_luck_31 : decode cX5_luck 31 = .ok (.iload 4, 2) := by decide +kernel
theorem dX5_luck_33 : decode cX5_luck 33 = .ok (.iconst 0, 1) := by decide +kernel
theorem dX5_luck_34 : decode cX5_luck 34 = .ok (.bipush 8, 2) := by decide +kernel
theorem dX5_luck_36 : decode cX5_luck 36 = .ok (.invokestatic 70, 3) := by decide +kernel
theorem dX5_luck_39 : decode cX5_luck 39 = .ok (.ifCond .eq 13, 3) := by decide +kernel
theorem dX5_luck_42 : decode cX5_luck 42 = .ok (.iload 5, 2) := by decide +kernel
theorem dX5_luck_44 : decode cX5_luck 44 = .ok (.iconst 0, 1) := by decide +kernel
theorem dX5_luck_45 : decode cX5_luck 45 = .ok (.iconst 1, 1) := by decide +kernel
theorem dX5_luck_46 : decode cX5_luck 46 = .ok (.invokestatic 70, 3) := by decide +kernel
theorem dX5_luck_49 : decode cX5_luck 49 = .ok (.ifCond .ne 7, 3) := by decide +kernel
theorem dX5_luck_52 : decode cX5_luck 52 = .ok (.ldc2_w 185, 3) := by decide +kernel
theorem dX5_luck_55 : decode cX5_luck 55 = .ok (.lreturn, 1) := by decide +kernel
theorem dX5_luck_56 : decode cX5_luck 56 = .ok (.aload_n 0, 1) := by decide +kernel
theorem dX5_luck_57 : decode cX5_luck 57 = .ok (.iload_n 1, 1) := by decide +kernel
theorem dX5_luck_58 : decode cX5_luck 58 = .ok (.iload 4, 2) := by decide +kernel
theorem dX5_luck_60 : decode cX5_luck 60 = .ok (.invokevirtual 187, 3) := by decide +kernel
theorem dX5_luck_63 : decode cX5_luck 63 = .ok (.lstore 6, 2) := by decide +kernel
theorem dX5_luck_65 : decode cX5_luck 65 = .ok (.lconst 0, 1) := by decide +kernel
theorem dX5_luck_66 : decode cX5_luck 66 = .ok (.lstore 8, 2) := by decide +kernel
theorem dX5_luck_68 : decode cX5_luck 68 = .ok (.aload_n 0, 1) := by decide +kernel
theorem dX5_luck_69 : decode cX5_luck 69 = .ok (.getfield 16, 3) := by decide +kernel
theorem dX5_luck_72 : decode cX5_luck 72 = .ok (.aload_n 0, 1) := by decide +kernel
theorem dX5_luck_73 : decode cX5_luck 73 = .ok (.getfield 10, 3) := by decide +kernel
theorem dX5_luck_76 : decode cX5_luck 76 = .ok (.invokevirtual 90, 3) := by decide +kernel
theorem dX5_luck_79 : decode cX5_luck 79 = .ok (.iconst 0, 1) := by decide +kernel
theorem dX5_luck_80 : decode cX5_luck 80 = .ok (.istore 10, 2) := by decide +kernel
theorem dX5_luck_82 : decode cX5_luck 82 = .ok (.iload 10, 2) := by decide +kernel
theorem dX5_luck_84 : decode cX5_luck 84 = .ok (.iload 4, 2) := by decide +kernel
theorem dX5_luck_86 : decode cX5_luck 86 = .ok (.if_icmp .gt 41, 3) := by decide +kernel
theorem dX5_luck_89 : decode cX5_luck 89 = .ok (.aload_n 0, 1) := by decide +kernel
theorem dX5_luck_90 : decode cX5_luck 90 = .ok (.getfield 16, 3) := by decide +kernel
theorem dX5_luck_93 : decode cX5_luck 93 = .ok (.getfield 144, 3) := by decide +kernel
theorem dX5_luck_96 : decode cX5_luck 96 = .ok (.iload_n 2, 1) := by decide +kernel
theorem dX5_luck_97 : decode cX5_luck 97 = .ok (.iaload, 1) := by decide +kernel
theorem dX5_luck_98 : decode cX5_luck 98 = .ok (.iload_n 3, 1) := by decide +kernel
theorem dX5_luck_99 : decode cX5_luck 99 = .ok (.if_icmp .ne 15, 3) := by decide +kernel
theorem dX5_luck_102 : decode cX5_luck 102 = .ok (.lload 8, 2) := by decide +kernel
theorem dX5_luck_104 : decode cX5_luck 104 = .ok (.aload_n 0, 1) := by decide +kernel
theorem dX5_luck_105 : decode cX5_luck 105 = .ok (.getfield 57, 3) := by decide +kernel
theorem dX5_luck_108 : decode cX5_luck 108 = .ok (.iload 10, 2) := by decide +kernel
theorem dX5_luck_110 : decode cX5_luck 110 = .ok (.laload, 1) := by decide +kernel
theorem dX5_luck_111 : decode cX5_luck 111 = .ok (.ladd, 1) := by decide +kernel
theorem dX5_luck_112 : decode cX5_luck 112 = .ok (.lstore 8, 2) := by decide +kernel
theorem dX5_luck_114 : decode cX5_luck 114 = .ok (.aload_n 0, 1) := by decide +kernel
theorem dX5_luck_115 : decode cX5_luck 115 = .ok (.getfield 16, 3) := by decide +kernel
theorem dX5_luck_118 : decode cX5_luck 118 = .ok (.invokevirtual 151, 3) := by decide +kernel
theorem dX5_luck_121 : decode cX5_luck 121 = .ok (.iinc 10 1, 3) := by decide +kernel
theorem dX5_luck_124 : decode cX5_luck 124 = .ok (.goto (-42), 3) := by decide +kernel
theorem dX5_luck_127 : decode cX5_luck 127 = .ok (.lload 8, 2) := by decide +kernel
theorem dX5_luck_129 : decode cX5_luck 129 = .ok (.lload 6, 2) := by decide +kernel
theorem dX5_luck_131 : decode cX5_luck 131 = .ok (.iload 5, 2) := by decide +kernel
theorem dX5_luck_133 : decode cX5_luck 133 = .ok (.invokestatic 191, 3) := by decide +kernel
theorem dX5_luck_136 : decode cX5_luck 136 = .ok (.lreturn, 1) := by decide +kernel
theorem dX5_mean_0 : decode cX5_mean 0 = .ok (.iload_n 1, 1) := by decide +kernel
theorem dX5_mean_1 : decode cX5_mean 1 = .ok (.iconst 0, 1) := by decide +kernel
theorem dX5_mean_2 : decode cX5_mean 2 = .ok (.bipush 10, 2) := by decide +kernel
theorem dX5_mean_4 : decode cX5_mean 4 = .ok (.invokestatic 70, 3) := by decide +kernel
theorem dX5_mean_7 : decode cX5_mean 7 = .ok (.ifCond .eq 22, 3) := by decide +kernel
theorem dX5_mean_10 : decode cX5_mean 10 = .ok (.iload_n 2, 1) := by decide +kernel
theorem dX5_mean_11 : decode cX5_mean 11 = .ok (.iconst 0, 1) := by decide +kernel
theorem dX5_mean_12 : decode cX5_mean 12 = .ok (.bipush 8, 2) := by decide +kernel
theorem dX5_mean_14 : decode cX5_mean 14 = .ok (.invokestatic 70, 3) := by decide +kernel
theorem dX5_mean_17 : decode cX5_mean 17 = .ok (.ifCond .eq 12, 3) := by decide +kernel
theorem dX5_mean_20 : decode cX5_mean 20 = .ok (.iload_n 3, 1) := by decide +kernel
theorem dX5_mean_21 : decode cX5_mean 21 = .ok (.iconst 0, 1) := by decide +kernel
theorem dX5_mean_22 : decode cX5_mean 22 = .ok (.iconst 1, 1) := by decide +kernel
theorem dX5_mean_23 : decode cX5_mean 23 = .ok (.invokestatic 70, 3) := by decide +kernel
theorem dX5_mean_26 : decode cX5_mean 26 = .ok (.ifCond .ne 7, 3) := by decide +kernel
theorem dX5_mean_29 : decode cX5_mean 29 = .ok (.ldc2_w 185, 3) := by decide +kernel
theorem dX5_mean_32 : decode cX5_mean 32 = .ok (.lreturn, 1) := by decide +kernel
theorem dX5_mean_33 : decode cX5_mean 33 = .ok (.aload_n 0, 1) := by decide +kernel
theorem dX5_mean_34 : decode cX5_mean 34 = .ok (.iload_n 1, 1) := by decide +kernel
theorem dX5_mean_35 : decode cX5_mean 35 = .ok (.iload_n 2, 1) := by decide +kernel
theorem dX5_mean_36 : decode cX5_mean 36 = .ok (.invokevirtual 187, 3) := by decide +kernel
theorem dX5_mean_39 : decode cX5_mean 39 = .ok (.lstore 4, 2) := by decide +kernel
theorem dX5_mean_41 : decode cX5_mean 41 = .ok (.lconst 0, 1) := by decide +kernel
theorem dX5_mean_42 : decode cX5_mean 42 = .ok (.lstore 6, 2) := by decide +kernel
theorem dX5_mean_44 : decode cX5_mean 44 = .ok (.aload_n 0, 1) := by decide +kernel
theorem dX5_mean_45 : decode cX5_mean 45 = .ok (.getfield 16, 3) := by decide +kernel
theorem dX5_mean_48 : decode cX5_mean 48 = .ok (.aload_n 0, 1) := by decide +kernel
theorem dX5_mean_49 : decode cX5_mean 49 = .ok (.getfield 10, 3) := by decide +kernel
theorem dX5_mean_52 : decode cX5_mean 52 = .ok (.invokevirtual 90, 3) := by decide +kernel
theorem dX5_mean_55 : decode cX5_mean 55 = .ok (.iconst 0, 1) := by decide +kernel
theorem dX5_mean_56 : decode cX5_mean 56 = .ok (.istore 8, 2) := by decide +kernel
theorem dX5_mean_58 : decode cX5_mean 58 = .ok (.iload 8, 2) := by decide +kernel
theorem dX5_mean_60 : decode cX5_mean 60 = .ok (.iload_n 2, 1) := by decide +kernel
theorem dX5_mean_61 : decode cX5_mean 61 = .ok (.if_icmp .gt 37, 3) := by decide +kernel
theorem dX5_mean_64 : decode cX5_mean 64 = .ok (.lload 6, 2) := by decide +kernel
theorem dX5_mean_66 : decode cX5_mean 66 = .ok (.aload_n 0, 1) := by decide +kernel
theorem dX5_mean_67 : decode cX5_mean 67 = .ok (.getfield 57, 3) := by decide +kernel
theorem dX5_mean_70 : decode cX5_mean 70 = .ok (.iload 8, 2) := by decide +kernel
theorem dX5_mean_72 : decode cX5_mean 72 = .ok (.laload, 1) := by decide +kernel
theorem dX5_mean_73 : decode cX5_mean 73 = .ok (.aload_n 0, 1) := by decide +kernel
theorem dX5_mean_74 : decode cX5_mean 74 = .ok (.getfield 16, 3) := by decide +kernel
theorem dX5_mean_77 : decode cX5_mean 77 = .ok (.invokevirtual 107, 3) := by decide +kernel
theorem dX5_mean_80 : decode cX5_mean 80 = .ok (.i2l, 1) := by decide +kernel
theorem dX5_mean_81 : decode cX5_mean 81 = .ok (.lmul, 1) := by decide +kernel
theorem dX5_mean_82 : decode cX5_mean 82 = .ok (.ladd, 1) := by decide +kernel
theorem dX5_mean_83 : decode cX5_mean 83 = .ok (.lstore 6, 2) := by decide +kernel
theorem dX5_mean_85 : decode cX5_mean 85 = .ok (.aload_n 0, 1) := by decide +kernel
theorem dX5_mean_86 : decode cX5_mean 86 = .ok (.getfield 16, 3) := by decide +kernel
theorem dX5_mean_89 : decode cX5_mean 89 = .ok (.invokevirtual 151, 3) := by decide +kernel
theorem dX5_mean_92 : decode cX5_mean 92 = .ok (.iinc 8 1, 3) := by decide +kernel
theorem dX5_mean_95 : decode cX5_mean 95 = .ok (.goto (-37), 3) := by decide +kernel
theorem dX5_mean_98 : decode cX5_mean 98 = .ok (.lload 6, 2) := by decide +kernel
theorem dX5_mean_100 : decode cX5_mean 100 = .ok (.lload 4, 2) := by decide +kernel
theorem dX5_mean_102 : decode cX5_mean 102 = .ok (.iload_n 3, 1) := by decide +kernel
theorem dX5_mean_103 : decode cX5_mean 103 = .ok (.invokestatic 191, 3) := by decide +kernel
theorem dX5_mean_106 : decode cX5_mean 106 = .ok (.lreturn, 1) := by decide +kernel
theorem dX5_see_0 : decode cX5_see 0 = .ok (.iload_n 1, 1) := by decide +kernel
theorem dX5_see_1 : decode cX5_see 1 = .ok (.iconst 0, 1) := by decide +kernel
theorem dX5_see_2 : decode cX5_see 2 = .ok (.sipush 200, 3) := by decide +kernel
theorem dX5_see_5 : decode cX5_see 5 = .ok (.invokestatic 70, 3) := by decide +kernel
theorem dX5_see_8 : decode cX5_see 8 = .ok (.ifCond .eq 13, 3) := by decide +kernel
theorem dX5_see_11 : decode cX5_see 11 = .ok (.iload_n 2, 1) := by decide +kernel
theorem dX5_see_12 : decode cX5_see 12 = .ok (.iconst 0, 1) := by decide +kernel
theorem dX5_see_13 : decode cX5_see 13 = .ok (.ldc 166, 2) := by decide +kernel
theorem dX5_see_15 : decode cX5_see 15 = .ok (.invokestatic 70, 3) := by decide +kernel
theorem dX5_see_18 : decode cX5_see 18 = .ok (.ifCond .ne 5, 3) := by decide +kernel
theorem dX5_see_21 : decode cX5_see 21 = .ok (.iconst (-1), 1) := by decide +kernel
theorem dX5_see_22 : decode cX5_see 22 = .ok (.ireturn, 1) := by decide +kernel
theorem dX5_see_23 : decode cX5_see 23 = .ok (.aload_n 0, 1) := by decide +kernel
theorem dX5_see_24 : decode cX5_see 24 = .ok (.getfield 42, 3) := by decide +kernel
theorem dX5_see_27 : decode cX5_see 27 = .ok (.getfield 94, 3) := by decide +kernel
theorem dX5_see_30 : decode cX5_see 30 = .ok (.bipush 6, 2) := by decide +kernel
theorem dX5_see_32 : decode cX5_see 32 = .ok (.if_icmp .lt 6, 3) := by decide +kernel
theorem dX5_see_35 : decode cX5_see 35 = .ok (.bipush (-3), 2) := by decide +kernel
theorem dX5_see_37 : decode cX5_see 37 = .ok (.ireturn, 1) := by decide +kernel
theorem dX5_see_38 : decode cX5_see 38 = .ok (.aload_n 0, 1) := by decide +kernel
theorem dX5_see_39 : decode cX5_see 39 = .ok (.getfield 42, 3) := by decide +kernel
theorem dX5_see_42 : decode cX5_see 42 = .ok (.getfield 195, 3) := by decide +kernel
theorem dX5_see_45 : decode cX5_see 45 = .ok (.aload_n 0, 1) := by decide +kernel
theorem dX5_see_46 : decode cX5_see 46 = .ok (.getfield 42, 3) := by decide +kernel
theorem dX5_see_49 : decode cX5_see 49 = .ok (.getfield 94, 3) := by decide +kernel
theorem dX5_see_52 : decode cX5_see 52 = .ok (.iload_n 1, 1) := by decide +kernel
theorem dX5_see_53 : decode cX5_see 53 = .ok (.iastore, 1) := by decide +kernel
theorem dX5_see_54 : decode cX5_see 54 = .ok (.aload_n 0, 1) := by decide +kernel
theorem dX5_see_55 : decode cX5_see 55 = .ok (.getfield 42, 3) := by decide +kernel
theorem dX5_see_58 : decode cX5_see 58 = .ok (.getfield 198, 3) := by decide +kernel
theorem dX5_see_61 : decode cX5_see 61 = .ok (.aload_n 0, 1) := by decide +kernel
theorem dX5_see_62 : decode cX5_see 62 = .ok (.getfield 42, 3) := by decide +kernel
theorem dX5_see_65 : decode cX5_see 65 = .ok (.getfield 94, 3) := by decide +kernel
theorem dX5_see_68 : decode cX5_see 68 = .ok (.iload_n 2, 1) := by decide +kernel
theorem dX5_see_69 : decode cX5_see 69 = .ok (.iastore, 1) := by decide +kernel
theorem dX5_see_70 : decode cX5_see 70 = .ok (.aload_n 0, 1) := by decide +kernel
theorem dX5_see_71 : decode cX5_see 71 = .ok (.getfield 42, 3) := by decide +kernel
theorem dX5_see_74 : decode cX5_see 74 = .ok (.dup, 1) := by decide +kernel
theorem dX5_see_75 : decode cX5_see 75 = .ok (.getfield 94, 3) := by decide +kernel
theorem dX5_see_78 : decode cX5_see 78 = .ok (.iconst 1, 1) := by decide +kernel
theorem dX5_see_79 : decode cX5_see 79 = .ok (.iadd, 1) := by decide +kernel
theorem dX5_see_80 : decode cX5_see 80 = .ok (.putfield 94, 3) := by decide +kernel
theorem dX5_see_83 : decode cX5_see 83 = .ok (.aload_n 0, 1) := by decide +kernel
theorem dX5_see_84 : decode cX5_see 84 = .ok (.getfield 42, 3) := by decide +kernel
theorem dX5_see_87 : decode cX5_see 87 = .ok (.getfield 94, 3) := by decide +kernel
theorem dX5_see_90 : decode cX5_see 90 = .ok (.ireturn, 1) := by decide +kernel
theorem dX5_forget_0 : decode cX5_forget 0 = .ok (.iload_n 1, 1) := by decide +kernel
theorem dX5_forget_1 : decode cX5_forget 1 = .ok (.iconst 0, 1) := by decide +kernel
theorem dX5_forget_2 : decode cX5_forget 2 = .ok (.aload_n 0, 1) := by decide +kernel
theorem dX5_forget_3 : decode cX5_forget 3 = .ok (.getfield 42, 3) := by decide +kernel
theorem dX5_forget_6 : decode cX5_forget 6 = .ok (.getfield 94, 3) := by decide +kernel
theorem dX5_forget_9 : decode cX5_forget 9 = .ok (.invokestatic 70, 3) := by decide +kernel
theorem dX5_forget_12 : decode cX5_forget 12 = .ok (.ifCond .ne 5, 3) := by decide +kernel
theorem dX5_forget_15 : decode cX5_forget 15 = .ok (.iconst (-1), 1) := by decide +kernel
theorem dX5_forget_16 : decode cX5_forget 16 = .ok (.ireturn, 1) := by decide +kernel
theorem dX5_forget_17 : decode cX5_forget 17 = .ok (.aload_n 0, 1) := by decide +kernel
theorem dX5_forget_18 : decode cX5_forget 18 = .ok (.getfield 42, 3) := by decide +kernel
theorem dX5_forget_21 : decode cX5_forget 21 = .ok (.getfield 94, 3) := by decide +kernel
theorem dX5_forget_24 : decode cX5_forget 24 = .ok (.istore_n 2, 1) := by decide +kernel
theorem dX5_forget_25 : decode cX5_forget 25 = .ok (.aload_n 0, 1) := by decide +kernel
theorem dX5_forget_26 : decode cX5_forget 26 = .ok (.getfield 42, 3) := by decide +kernel
theorem dX5_forget_29 : decode cX5_forget 29 = .ok (.iload_n 1, 1) := by decide +kernel
theorem dX5_forget_30 : decode cX5_forget 30 = .ok (.putfield 94, 3) := by decide +kernel
theorem dX5_forget_33 : decode cX5_forget 33 = .ok (.iload_n 2, 1) := by decide +kernel
theorem dX5_forget_34 : decode cX5_forget 34 = .ok (.ireturn, 1) := by decide +kernel
theorem dX5_kinds_0 : decode cX5_kinds 0 = .ok (.aload_n 0, 1) := by decide +kernel
theorem dX5_kinds_1 : decode cX5_kinds 1 = .ok (.getfield 10, 3) := by decide +kernel
theorem dX5_kinds_4 : decode cX5_kinds 4 = .ok (.iload_n 1, 1) := by decide +kernel
theorem dX5_kinds_5 : decode cX5_kinds 5 = .ok (.invokevirtual 120, 3) := by decide +kernel
theorem dX5_kinds_8 : decode cX5_kinds 8 = .ok (.ifCond .ne 5, 3) := by decide +kernel
theorem dX5_kinds_11 : decode cX5_kinds 11 = .ok (.iconst (-1), 1) := by decide +kernel
theorem dX5_kinds_12 : decode cX5_kinds 12 = .ok (.ireturn, 1) := by decide +kernel
theorem dX5_kinds_13 : decode cX5_kinds 13 = .ok (.iconst 0, 1) := by decide +kernel
theorem dX5_kinds_14 : decode cX5_kinds 14 = .ok (.istore_n 2, 1) := by decide +kernel
theorem dX5_kinds_15 : decode cX5_kinds 15 = .ok (.iconst 0, 1) := by decide +kernel
theorem dX5_kinds_16 : decode cX5_kinds 16 = .ok (.istore_n 3, 1) := by decide +kernel
theorem dX5_kinds_17 : decode cX5_kinds 17 = .ok (.iload_n 3, 1) := by decide +kernel
theorem dX5_kinds_18 : decode cX5_kinds 18 = .ok (.iconst 4, 1) := by decide +kernel
theorem dX5_kinds_19 : decode cX5_kinds 19 = .ok (.if_icmp .ge 25, 3) := by decide +kernel
theorem dX5_kinds_22 : decode cX5_kinds 22 = .ok (.aload_n 0, 1) := by decide +kernel
theorem dX5_kinds_23 : decode cX5_kinds 23 = .ok (.iload_n 1, 1) := by decide +kernel
theorem dX5_kinds_24 : decode cX5_kinds 24 = .ok (.iconst 0, 1) := by decide +kernel
theorem dX5_kinds_25 : decode cX5_kinds 25 = .ok (.iload_n 3, 1) := by decide +kernel
theorem dX5_kinds_26 : decode cX5_kinds 26 = .ok (.invokevirtual 201, 3) := by decide +kernel
theorem dX5_kinds_29 : decode cX5_kinds 29 = .ok (.ifCond .eq 9, 3) := by decide +kernel
theorem dX5_kinds_32 : decode cX5_kinds 32 = .ok (.iload_n 2, 1) := by decide +kernel
theorem dX5_kinds_33 : decode cX5_kinds 33 = .ok (.iconst 1, 1) := by decide +kernel
theorem dX5_kinds_34 : decode cX5_kinds 34 = .ok (.iload_n 3, 1) := by decide +kernel
theorem dX5_kinds_35 : decode cX5_kinds 35 = .ok (.ishl, 1) := by decide +kernel
theorem dX5_kinds_36 : decode cX5_kinds 36 = .ok (.ior, 1) := by decide +kernel
theorem dX5_kinds_37 : decode cX5_kinds 37 = .ok (.istore_n 2, 1) := by decide +kernel
theorem dX5_kinds_38 : decode cX5_kinds 38 = .ok (.iinc 3 1, 3) := by decide +kernel
theorem dX5_kinds_41 : decode cX5_kinds 41 = .ok (.goto (-24), 3) := by decide +kernel
theorem dX5_kinds_44 : decode cX5_kinds 44 = .ok (.iload_n 2, 1) := by decide +kernel
theorem dX5_kinds_45 : decode cX5_kinds 45 = .ok (.ireturn, 1) := by decide +kernel
theorem dX5_broken_0 : decode cX5_broken 0 = .ok (.aload_n 0, 1) := by decide +kernel
theorem dX5_broken_1 : decode cX5_broken 1 = .ok (.getfield 10, 3) := by decide +kernel
theorem dX5_broken_4 : decode cX5_broken 4 = .ok (.iload_n 1, 1) := by decide +kernel
theorem dX5_broken_5 : decode cX5_broken 5 = .ok (.invokevirtual 120, 3) := by decide +kernel
theorem dX5_broken_8 : decode cX5_broken 8 = .ok (.ifCond .ne 5, 3) := by decide +kernel
theorem dX5_broken_11 : decode cX5_broken 11 = .ok (.iconst (-1), 1) := by decide +kernel
theorem dX5_broken_12 : decode cX5_broken 12 = .ok (.ireturn, 1) := by decide +kernel
theorem dX5_broken_13 : decode cX5_broken 13 = .ok (.aload_n 0, 1) := by decide +kernel
theorem dX5_broken_14 : decode cX5_broken 14 = .ok (.iload_n 1, 1) := by decide +kernel
theorem dX5_broken_15 : decode cX5_broken 15 = .ok (.iconst 3, 1) := by decide +kernel
theorem dX5_broken_16 : decode cX5_broken 16 = .ok (.bipush 12, 2) := by decide +kernel
theorem dX5_broken_18 : decode cX5_broken 18 = .ok (.invokevirtual 201, 3) := by decide +kernel
theorem dX5_broken_21 : decode cX5_broken 21 = .ok (.ifCond .eq 9, 3) := by decide +kernel
theorem dX5_broken_24 : decode cX5_broken 24 = .ok (.sipush 4096, 3) := by decide +kernel
theorem dX5_broken_27 : decode cX5_broken 27 = .ok (.goto 4, 3) := by decide +kernel
theorem dX5_broken_30 : decode cX5_broken 30 = .ok (.iconst 0, 1) := by decide +kernel
theorem dX5_broken_31 : decode cX5_broken 31 = .ok (.istore_n 2, 1) := by decide +kernel
theorem dX5_broken_32 : decode cX5_broken 32 = .ok (.iconst 0, 1) := by decide +kernel
theorem dX5_broken_33 : decode cX5_broken 33 = .ok (.istore_n 3, 1) := by decide +kernel
theorem dX5_broken_34 : decode cX5_broken 34 = .ok (.iload_n 3, 1) := by decide +kernel
theorem dX5_broken_35 : decode cX5_broken 35 = .ok (.aload_n 0, 1) := by decide +kernel
theorem dX5_broken_36 : decode cX5_broken 36 = .ok (.getfield 10, 3) := by decide +kernel
theorem dX5_broken_39 : decode cX5_broken 39 = .ok (.getfield 204, 3) := by decide +kernel
theorem dX5_broken_42 : decode cX5_broken 42 = .ok (.iload_n 1, 1) := by decide +kernel
theorem dX5_broken_43 : decode cX5_broken 43 = .ok (.iaload, 1) := by decide +kernel
theorem dX5_broken_44 : decode cX5_broken 44 = .ok (.if_icmp .ge 25, 3) := by decide +kernel
theorem dX5_broken_47 : decode cX5_broken 47 = .ok (.aload_n 0, 1) := by decide +kernel
theorem dX5_broken_48 : decode cX5_broken 48 = .ok (.iload_n 1, 1) := by decide +kernel
theorem dX5_broken_49 : decode cX5_broken 49 = .ok (.iconst 3, 1) := by decide +kernel
theorem dX5_broken_50 : decode cX5_broken 50 = .ok (.iload_n 3, 1) := by decide +kernel
theorem dX5_broken_51 : decode cX5_broken 51 = .ok (.invokevirtual 201, 3) := by decide +kernel
theorem dX5_broken_54 : decode cX5_broken 54 = .ok (.ifCond .eq 9, 3) := by decide +kernel
theorem dX5_broken_57 : decode cX5_broken 57 = .ok (.iload_n 2, 1) := by decide +kernel
theorem dX5_broken_58 : decode cX5_broken 58 = .ok (.iconst 1, 1) := by decide +kernel
theorem dX5_broken_59 : decode cX5_broken 59 = .ok (.iload_n 3, 1) := by decide +kernel
theorem dX5_broken_60 : decode cX5_broken 60 = .ok (.ishl, 1) := by decide +kernel
theorem dX5_broken_61 : decode cX5_broken 61 = .ok (.ior, 1) := by decide +kernel
theorem dX5_broken_62 : decode cX5_broken 62 = .ok (.istore_n 2, 1) := by decide +kernel
theorem dX5_broken_63 : decode cX5_broken 63 = .ok (.iinc 3 1, 3) := by decide +kernel
theorem dX5_broken_66 : decode cX5_broken 66 = .ok (.goto (-32), 3) := by decide +kernel
theorem dX5_broken_69 : decode cX5_broken 69 = .ok (.iload_n 2, 1) := by decide +kernel
theorem dX5_broken_70 : decode cX5_broken 70 = .ok (.ireturn, 1) := by decide +kernel
theorem dX5_ask_0 : decode cX5_ask 0 = .ok (.aload_n 0, 1) := by decide +kernel
theorem dX5_ask_1 : decode cX5_ask 1 = .ok (.getfield 10, 3) := by decide +kernel
theorem dX5_ask_4 : decode cX5_ask 4 = .ok (.iload_n 1, 1) := by decide +kernel
theorem dX5_ask_5 : decode cX5_ask 5 = .ok (.invokevirtual 120, 3) := by decide +kernel
theorem dX5_ask_8 : decode cX5_ask 8 = .ok (.ifCond .eq 12, 3) := by decide +kernel
theorem dX5_ask_11 : decode cX5_ask 11 = .ok (.iload_n 2, 1) := by decide +kernel
theorem dX5_ask_12 : decode cX5_ask 12 = .ok (.iconst 0, 1) := by decide +kernel
theorem dX5_ask_13 : decode cX5_ask 13 = .ok (.iconst 1, 1) := by decide +kernel
theorem dX5_ask_14 : decode cX5_ask 14 = .ok (.invokestatic 70, 3) := by decide +kernel
theorem dX5_ask_17 : decode cX5_ask 17 = .ok (.ifCond .ne 5, 3) := by decide +kernel
theorem dX5_ask_20 : decode cX5_ask 20 = .ok (.iconst (-1), 1) := by decide +kernel
theorem dX5_ask_21 : decode cX5_ask 21 = .ok (.ireturn, 1) := by decide +kernel
theorem dX5_ask_22 : decode cX5_ask 22 = .ok (.aload_n 0, 1) := by decide +kernel
theorem dX5_ask_23 : decode cX5_ask 23 = .ok (.aload_n 0, 1) := by decide +kernel
theorem dX5_ask_24 : decode cX5_ask 24 = .ok (.iload_n 1, 1) := by decide +kernel
theorem dX5_ask_25 : decode cX5_ask 25 = .ok (.invokevirtual 207, 3) := by decide +kernel
theorem dX5_ask_28 : decode cX5_ask 28 = .ok (.invokevirtual 210, 3) := by decide +kernel
theorem dX5_ask_31 : decode cX5_ask 31 = .ok (.istore_n 3, 1) := by decide +kernel
theorem dX5_ask_32 : decode cX5_ask 32 = .ok (.iconst 0, 1) := by decide +kernel
theorem dX5_ask_33 : decode cX5_ask 33 = .ok (.istore 4, 2) := by decide +kernel
theorem dX5_ask_35 : decode cX5_ask 35 = .ok (.iload 4, 2) := by decide +kernel
theorem dX5_ask_37 : decode cX5_ask 37 = .ok (.iload_n 3, 1) := by decide +kernel
theorem dX5_ask_38 : decode cX5_ask 38 = .ok (.if_icmp .ge 28, 3) := by decide +kernel
theorem dX5_ask_41 : decode cX5_ask 41 = .ok (.aload_n 0, 1) := by decide +kernel
theorem dX5_ask_42 : decode cX5_ask 42 = .ok (.iload_n 1, 1) := by decide +kernel
theorem dX5_ask_43 : decode cX5_ask 43 = .ok (.aload_n 0, 1) := by decide +kernel
theorem dX5_ask_44 : decode cX5_ask 44 = .ok (.getfield 61, 3) := by decide +kernel
theorem dX5_ask_47 : decode cX5_ask 47 = .ok (.iload 4, 2) := by decide +kernel
theorem dX5_ask_49 : decode cX5_ask 49 = .ok (.iaload, 1) := by decide +kernel
theorem dX5_ask_50 : decode cX5_ask 50 = .ok (.aload_n 0, 1) := by decide +kernel
theorem dX5_ask_51 : decode cX5_ask 51 = .ok (.getfield 67, 3) := by decide +kernel
theorem dX5_ask_54 : decode cX5_ask 54 = .ok (.iload 4, 2) := by decide +kernel
theorem dX5_ask_56 : decode cX5_ask 56 = .ok (.aaload, 1) := by decide +kernel
theorem dX5_ask_57 : decode cX5_ask 57 = .ok (.invokevirtual 213, 3) := by decide +kernel
theorem dX5_ask_60 : decode cX5_ask 60 = .ok (.iinc 4 1, 3) := by decide +kernel
theorem dX5_ask_63 : decode cX5_ask 63 = .ok (.goto (-28), 3) := by decide +kernel
theorem dX5_ask_66 : decode cX5_ask 66 = .ok (.iload_n 3, 1) := by decide +kernel
theorem dX5_ask_67 : decode cX5_ask 67 = .ok (.istore 4, 2) := by decide +kernel
theorem dX5_ask_69 : decode cX5_ask 69 = .ok (.bipush (-4), 2) := by decide +kernel
theorem dX5_ask_71 : decode cX5_ask 71 = .ok (.istore 5, 2) := by decide +kernel
theorem dX5_ask_73 : decode cX5_ask 73 = .ok (.iconst 0, 1) := by decide +kernel
theorem dX5_ask_74 : decode cX5_ask 74 = .ok (.istore 6, 2) := by decide +kernel
theorem dX5_ask_76 : decode cX5_ask 76 = .ok (.iload 6, 2) := by decide +kernel
theorem dX5_ask_78 : decode cX5_ask 78 = .ok (.sipush 200, 3) := by decide +kernel
theorem dX5_ask_81 : decode cX5_ask 81 = .ok (.if_icmp .gt 33, 3) := by decide +kernel
theorem dX5_ask_84 : decode cX5_ask 84 = .ok (.aload_n 0, 1) := by decide +kernel
theorem dX5_ask_85 : decode cX5_ask 85 = .ok (.iload 6, 2) := by decide +kernel
theorem dX5_ask_87 : decode cX5_ask 87 = .ok (.iload_n 3, 1) := by decide +kernel
theorem dX5_ask_88 : decode cX5_ask 88 = .ok (.invokevirtual 217, 3) := by decide +kernel
theorem dX5_ask_91 : decode cX5_ask 91 = .ok (.istore 7, 2) := by decide +kernel
theorem dX5_ask_93 : decode cX5_ask 93 = .ok (.iload 7, 2) := by decide +kernel
theorem dX5_ask_95 : decode cX5_ask 95 = .ok (.iload 4, 2) := by decide +kernel
theorem dX5_ask_97 : decode cX5_ask 97 = .ok (.if_icmp .ge 11, 3) := by decide +kernel
theorem dX5_ask_100 : decode cX5_ask 100 = .ok (.iload 7, 2) := by decide +kernel
theorem dX5_ask_102 : decode cX5_ask 102 = .ok (.istore 4, 2) := by decide +kernel
theorem dX5_ask_104 : decode cX5_ask 104 = .ok (.iload 6, 2) := by decide +kernel
theorem dX5_ask_106 : decode cX5_ask 106 = .ok (.istore 5, 2) := by decide +kernel
theorem dX5_ask_108 : decode cX5_ask 108 = .ok (.iinc 6 1, 3) := by decide +kernel
theorem dX5_ask_111 : decode cX5_ask 111 = .ok (.goto (-35), 3) := by decide +kernel
theorem dX5_ask_114 : decode cX5_ask 114 = .ok (.iload 5, 2) := by decide +kernel
theorem dX5_ask_116 : decode cX5_ask 116 = .ok (.bipush (-4), 2) := by decide +kernel
theorem dX5_ask_118 : decode cX5_ask 118 = .ok (.if_icmp .eq 7, 3) := by decide +kernel
theorem dX5_ask_121 : decode cX5_ask 121 = .ok (.iload_n 2, 1) := by decide +kernel
theorem dX5_ask_122 : decode cX5_ask 122 = .ok (.ifCond .ne 8, 3) := by decide +kernel
theorem dX5_ask_125 : decode cX5_ask 125 = .ok (.iload 5, 2) := by decide +kernel
theorem dX5_ask_127 : decode cX5_ask 127 = .ok (.goto 5, 3) := by decide +kernel
theorem dX5_ask_130 : decode cX5_ask 130 = .ok (.iload 4, 2) := by decide +kernel
theorem dX5_ask_132 : decode cX5_ask 132 = .ok (.ireturn, 1) := by decide +kernel
theorem dX5_drift_0 : decode cX5_drift 0 = .ok (.iload_n 2, 1) := by decide +kernel
theorem dX5_drift_1 : decode cX5_drift 1 = .ok (.iconst 1, 1) := by decide +kernel
theorem dX5_drift_2 : decode cX5_drift 2 = .ok (.sipush 200, 3) := by decide +kernel
theorem dX5_drift_5 : decode cX5_drift 5 = .ok (.invokestatic 70, 3) := by decide +kernel
theorem dX5_drift_8 : decode cX5_drift 8 = .ok (.ifCond .eq 12, 3) := by decide +kernel
theorem dX5_drift_11 : decode cX5_drift 11 = .ok (.iload_n 3, 1) := by decide +kernel
theorem dX5_drift_12 : decode cX5_drift 12 = .ok (.iconst 0, 1) := by decide +kernel
theorem dX5_drift_13 : decode cX5_drift 13 = .ok (.iconst 1, 1) := by decide +kernel
theorem dX5_drift_14 : decode cX5_drift 14 = .ok (.invokestatic 70, 3) := by decide +kernel
theorem dX5_drift_17 : decode cX5_drift 17 = .ok (.ifCond .ne 5, 3) := by decide +kernel
theorem dX5_drift_20 : decode cX5_drift 20 = .ok (.iconst (-1), 1) := by decide +kernel
theorem dX5_drift_21 : decode cX5_drift 21 = .ok (.ireturn, 1) := by decide +kernel
theorem dX5_drift_22 : decode cX5_drift 22 = .ok (.aload_n 0, 1) := by decide +kernel
theorem dX5_drift_23 : decode cX5_drift 23 = .ok (.getfield 10, 3) := by decide +kernel
theorem dX5_drift_26 : decode cX5_drift 26 = .ok (.getfield 103, 3) := by decide +kernel
theorem dX5_drift_29 : decode cX5_drift 29 = .ok (.ifCond .ne 6, 3) := by decide +kernel
theorem dX5_drift_32 : decode cX5_drift 32 = .ok (.bipush (-2), 2) := by decide +kernel
theorem dX5_drift_34 : decode cX5_drift 34 = .ok (.ireturn, 1) := by decide +kernel
theorem dX5_drift_35 : decode cX5_drift 35 = .ok (.aload_n 0, 1) := by decide +kernel
theorem dX5_drift_36 : decode cX5_drift 36 = .ok (.getfield 16, 3) := by decide +kernel
theorem dX5_drift_39 : decode cX5_drift 39 = .ok (.aload_n 0, 1) := by decide +kernel
theorem dX5_drift_40 : decode cX5_drift 40 = .ok (.getfield 10, 3) := by decide +kernel
theorem dX5_drift_43 : decode cX5_drift 43 = .ok (.invokevirtual 90, 3) := by decide +kernel
theorem dX5_drift_46 : decode cX5_drift 46 = .ok (.iload_n 1, 1) := by decide +kernel
theorem dX5_drift_47 : decode cX5_drift 47 = .ok (.istore 4, 2) := by decide +kernel
theorem dX5_drift_49 : decode cX5_drift 49 = .ok (.iconst 0, 1) := by decide +kernel
theorem dX5_drift_50 : decode cX5_drift 50 = .ok (.istore 5, 2) := by decide +kernel
theorem dX5_drift_52 : decode cX5_drift 52 = .ok (.iload 5, 2) := by decide +kernel
theorem dX5_drift_54 : decode cX5_drift 54 = .ok (.iload_n 2, 1) := by decide +kernel
theorem dX5_drift_55 : decode cX5_drift 55 = .ok (.if_icmp .ge 48, 3) := by decide +kernel
theorem dX5_drift_58 : decode cX5_drift 58 = .ok (.iload 4, 2) := by decide +kernel
theorem dX5_drift_60 : decode cX5_drift 60 = .ok (.ldc 220, 2) := by decide +kernel
theorem dX5_drift_62 : decode cX5_drift 62 = .ok (.imul, 1) := by decide +kernel
theorem dX5_drift_63 : decode cX5_drift 63 = .ok (.sipush 12345, 3) := by decide +kernel
theorem dX5_drift_66 : decode cX5_drift 66 = .ok (.iadd, 1) := by decide +kernel
theorem dX5_drift_67 : decode cX5_drift 67 = .ok (.istore 4, 2) := by decide +kernel
theorem dX5_drift_69 : decode cX5_drift 69 = .ok (.iload 4, 2) := by decide +kernel
theorem dX5_drift_71 : decode cX5_drift 71 = .ok (.bipush 16, 2) := by decide +kernel
theorem dX5_drift_73 : decode cX5_drift 73 = .ok (.iushr, 1) := by decide +kernel
theorem dX5_drift_74 : decode cX5_drift 74 = .ok (.sipush 32767, 3) := by decide +kernel
theorem dX5_drift_77 : decode cX5_drift 77 = .ok (.iand, 1) := by decide +kernel
theorem dX5_drift_78 : decode cX5_drift 78 = .ok (.istore 6, 2) := by decide +kernel
theorem dX5_drift_80 : decode cX5_drift 80 = .ok (.aload_n 0, 1) := by decide +kernel
theorem dX5_drift_81 : decode cX5_drift 81 = .ok (.getfield 16, 3) := by decide +kernel
theorem dX5_drift_84 : decode cX5_drift 84 = .ok (.iload 6, 2) := by decide +kernel
theorem dX5_drift_86 : decode cX5_drift 86 = .ok (.aload_n 0, 1) := by decide +kernel
theorem dX5_drift_87 : decode cX5_drift 87 = .ok (.getfield 10, 3) := by decide +kernel
theorem dX5_drift_90 : decode cX5_drift 90 = .ok (.getfield 103, 3) := by decide +kernel
theorem dX5_drift_93 : decode cX5_drift 93 = .ok (.irem, 1) := by decide +kernel
theorem dX5_drift_94 : decode cX5_drift 94 = .ok (.invokevirtual 140, 3) := by decide +kernel
theorem dX5_drift_97 : decode cX5_drift 97 = .ok (.iinc 5 1, 3) := by decide +kernel
theorem dX5_drift_100 : decode cX5_drift 100 = .ok (.goto (-48), 3) := by decide +kernel
theorem dX5_drift_103 : decode cX5_drift 103 = .ok (.iload_n 3, 1) := by decide +kernel
theorem dX5_drift_104 : decode cX5_drift 104 = .ok (.ifCond .ne 13, 3) := by decide +kernel
theorem dX5_drift_107 : decode cX5_drift 107 = .ok (.aload_n 0, 1) := by decide +kernel
theorem dX5_drift_108 : decode cX5_drift 108 = .ok (.getfield 16, 3) := by decide +kernel
theorem dX5_drift_111 : decode cX5_drift 111 = .ok (.invokevirtual 107, 3) := by decide +kernel
theorem dX5_drift_114 : decode cX5_drift 114 = .ok (.goto 10, 3) := by decide +kernel
theorem dX5_drift_117 : decode cX5_drift 117 = .ok (.aload_n 0, 1) := by decide +kernel
theorem dX5_drift_118 : decode cX5_drift 118 = .ok (.getfield 16, 3) := by decide +kernel
theorem dX5_drift_121 : decode cX5_drift 121 = .ok (.getfield 163, 3) := by decide +kernel
theorem dX5_drift_124 : decode cX5_drift 124 = .ok (.ireturn, 1) := by decide +kernel
theorem dX5_keep_0 : decode cX5_keep 0 = .ok (.iload_n 1, 1) := by decide +kernel
theorem dX5_keep_1 : decode cX5_keep 1 = .ok (.iconst 0, 1) := by decide +kernel
theorem dX5_keep_2 : decode cX5_keep 2 = .ok (.iconst 1, 1) := by decide +kernel
theorem dX5_keep_3 : decode cX5_keep 3 = .ok (.invokestatic 70, 3) := by decide +kernel
theorem dX5_keep_6 : decode cX5_keep 6 = .ok (.ifCond .ne 5, 3) := by decide +kernel
theorem dX5_keep_9 : decode cX5_keep 9 = .ok (.iconst (-1), 1) := by decide +kernel
theorem dX5_keep_10 : decode cX5_keep 10 = .ok (.ireturn, 1) := by decide +kernel
theorem dX5_keep_11 : decode cX5_keep 11 = .ok (.aload_n 0, 1) := by decide +kernel
theorem dX5_keep_12 : decode cX5_keep 12 = .ok (.getfield 23, 3) := by decide +kernel
theorem dX5_keep_15 : decode cX5_keep 15 = .ok (.iload_n 1, 1) := by decide +kernel
theorem dX5_keep_16 : decode cX5_keep 16 = .ok (.baload, 1) := by decide +kernel
theorem dX5_keep_17 : decode cX5_keep 17 = .ok (.ifCond .eq 7, 3) := by decide +kernel
theorem dX5_keep_20 : decode cX5_keep 20 = .ok (.iconst 1, 1) := by decide +kernel
theorem dX5_keep_21 : decode cX5_keep 21 = .ok (.goto 4, 3) := by decide +kernel
theorem dX5_keep_24 : decode cX5_keep 24 = .ok (.iconst 0, 1) := by decide +kernel
theorem dX5_keep_25 : decode cX5_keep 25 = .ok (.istore_n 2, 1) := by decide +kernel
theorem dX5_keep_26 : decode cX5_keep 26 = .ok (.aload_n 0, 1) := by decide +kernel
theorem dX5_keep_27 : decode cX5_keep 27 = .ok (.getfield 19, 3) := by decide +kernel
theorem dX5_keep_30 : decode cX5_keep 30 = .ok (.iload_n 1, 1) := by decide +kernel
theorem dX5_keep_31 : decode cX5_keep 31 = .ok (.aaload, 1) := by decide +kernel
theorem dX5_keep_32 : decode cX5_keep 32 = .ok (.aload_n 0, 1) := by decide +kernel
theorem dX5_keep_33 : decode cX5_keep 33 = .ok (.getfield 10, 3) := by decide +kernel
theorem dX5_keep_36 : decode cX5_keep 36 = .ok (.invokevirtual 90, 3) := by decide +kernel
theorem dX5_keep_39 : decode cX5_keep 39 = .ok (.aload_n 0, 1) := by decide +kernel
theorem dX5_keep_40 : decode cX5_keep 40 = .ok (.getfield 23, 3) := by decide +kernel
theorem dX5_keep_43 : decode cX5_keep 43 = .ok (.iload_n 1, 1) := by decide +kernel
theorem dX5_keep_44 : decode cX5_keep 44 = .ok (.iconst 1, 1) := by decide +kernel
theorem dX5_keep_45 : decode cX5_keep 45 = .ok (.bastore, 1) := by decide +kernel
theorem dX5_keep_46 : decode cX5_keep 46 = .ok (.iload_n 2, 1) := by decide +kernel
theorem dX5_keep_47 : decode cX5_keep 47 = .ok (.ireturn, 1) := by decide +kernel
theorem dX5_back_0 : decode cX5_back 0 = .ok (.iload_n 1, 1) := by decide +kernel
theorem dX5_back_1 : decode cX5_back 1 = .ok (.iconst 0, 1) := by decide +kernel
theorem dX5_back_2 : decode cX5_back 2 = .ok (.iconst 1, 1) := by decide +kernel
theorem dX5_back_3 : decode cX5_back 3 = .ok (.invokestatic 70, 3) := by decide +kernel
theorem dX5_back_6 : decode cX5_back 6 = .ok (.ifCond .ne 5, 3) := by decide +kernel
theorem dX5_back_9 : decode cX5_back 9 = .ok (.iconst (-1), 1) := by decide +kernel
theorem dX5_back_10 : decode cX5_back 10 = .ok (.ireturn, 1) := by decide +kernel
theorem dX5_back_11 : decode cX5_back 11 = .ok (.aload_n 0, 1) := by decide +kernel
theorem dX5_back_12 : decode cX5_back 12 = .ok (.getfield 23, 3) := by decide +kernel
theorem dX5_back_15 : decode cX5_back 15 = .ok (.iload_n 1, 1) := by decide +kernel
theorem dX5_back_16 : decode cX5_back 16 = .ok (.baload, 1) := by decide +kernel
theorem dX5_back_17 : decode cX5_back 17 = .ok (.ifCond .ne 6, 3) := by decide +kernel
theorem dX5_back_20 : decode cX5_back 20 = .ok (.bipush (-2), 2) := by decide +kernel
theorem dX5_back_22 : decode cX5_back 22 = .ok (.ireturn, 1) := by decide +kernel
theorem dX5_back_23 : decode cX5_back 23 = .ok (.aload_n 0, 1) := by decide +kernel
theorem dX5_back_24 : decode cX5_back 24 = .ok (.getfield 10, 3) := by decide +kernel
theorem dX5_back_27 : decode cX5_back 27 = .ok (.aload_n 0, 1) := by decide +kernel
theorem dX5_back_28 : decode cX5_back 28 = .ok (.getfield 19, 3) := by decide +kernel
theorem dX5_back_31 : decode cX5_back 31 = .ok (.iload_n 1, 1) := by decide +kernel
theorem dX5_back_32 : decode cX5_back 32 = .ok (.aaload, 1) := by decide +kernel
theorem dX5_back_33 : decode cX5_back 33 = .ok (.invokevirtual 90, 3) := by decide +kernel
theorem dX5_back_36 : decode cX5_back 36 = .ok (.aload_n 0, 1) := by decide +kernel
theorem dX5_back_37 : decode cX5_back 37 = .ok (.getfield 10, 3) := by decide +kernel
theorem dX5_back_40 : decode cX5_back 40 = .ok (.getfield 104, 3) := by decide +kernel
theorem dX5_back_43 : decode cX5_back 43 = .ok (.ireturn, 1) := by decide +kernel
theorem dX5_sheet_0 : decode cX5_sheet 0 = .ok (.iload_n 1, 1) := by decide +kernel
theorem dX5_sheet_1 : decode cX5_sheet 1 = .ok (.iconst 0, 1) := by decide +kernel
theorem dX5_sheet_2 : decode cX5_sheet 2 = .ok (.iconst 3, 1) := by decide +kernel
theorem dX5_sheet_3 : decode cX5_sheet 3 = .ok (.invokestatic 70, 3) := by decide +kernel
theorem dX5_sheet_6 : decode cX5_sheet 6 = .ok (.ifCond .eq 18, 3) := by decide +kernel
theorem dX5_sheet_9 : decode cX5_sheet 9 = .ok (.iload_n 2, 1) := by decide +kernel
theorem dX5_sheet_10 : decode cX5_sheet 10 = .ok (.iconst 0, 1) := by decide +kernel
theorem dX5_sheet_11 : decode cX5_sheet 11 = .ok (.iconst 2, 1) := by decide +kernel
theorem dX5_sheet_12 : decode cX5_sheet 12 = .ok (.invokestatic 70, 3) := by decide +kernel
theorem dX5_sheet_15 : decode cX5_sheet 15 = .ok (.ifCond .eq 9, 3) := by decide +kernel
theorem dX5_sheet_18 : decode cX5_sheet 18 = .ok (.iload_n 3, 1) := by decide +kernel
theorem dX5_sheet_19 : decode cX5_sheet 19 = .ok (.bipush 40, 2) := by decide +kernel
theorem dX5_sheet_21 : decode cX5_sheet 21 = .ok (.if_icmp .le 5, 3) := by decide +kernel
theorem dX5_sheet_24 : decode cX5_sheet 24 = .ok (.iconst (-1), 1) := by decide +kernel
theorem dX5_sheet_25 : decode cX5_sheet 25 = .ok (.ireturn, 1) := by decide +kernel
theorem dX5_sheet_26 : decode cX5_sheet 26 = .ok (.iload_n 3, 1) := by decide +kernel
theorem dX5_sheet_27 : decode cX5_sheet 27 = .ok (.ifCond .ge 6, 3) := by decide +kernel
theorem dX5_sheet_30 : decode cX5_sheet 30 = .ok (.bipush (-14), 2) := by decide +kernel
theorem dX5_sheet_32 : decode cX5_sheet 32 = .ok (.ireturn, 1) := by decide +kernel
theorem dX5_sheet_33 : decode cX5_sheet 33 = .ok (.aload_n 0, 1) := by decide +kernel
theorem dX5_sheet_34 : decode cX5_sheet 34 = .ok (.getfield 49, 3) := by decide +kernel
theorem dX5_sheet_37 : decode cX5_sheet 37 = .ok (.iload_n 1, 1) := by decide +kernel
theorem dX5_sheet_38 : decode cX5_sheet 38 = .ok (.aaload, 1) := by decide +kernel
theorem dX5_sheet_39 : decode cX5_sheet 39 = .ok (.iload_n 2, 1) := by decide +kernel
theorem dX5_sheet_40 : decode cX5_sheet 40 = .ok (.iload_n 3, 1) := by decide +kernel
theorem dX5_sheet_41 : decode cX5_sheet 41 = .ok (.invokevirtual 221, 3) := by decide +kernel
theorem dX5_sheet_44 : decode cX5_sheet 44 = .ok (.iconst 1, 1) := by decide +kernel
theorem dX5_sheet_45 : decode cX5_sheet 45 = .ok (.ireturn, 1) := by decide +kernel
theorem dX5_lay_0 : decode cX5_lay 0 = .ok (.iload_n 1, 1) := by decide +kernel
theorem dX5_lay_1 : decode cX5_lay 1 = .ok (.iconst 0, 1) := by decide +kernel
theorem dX5_lay_2 : decode cX5_lay 2 = .ok (.iconst 3, 1) := by decide +kernel
theorem dX5_lay_3 : decode cX5_lay 3 = .ok (.invokestatic 70, 3) := by decide +kernel
theorem dX5_lay_6 : decode cX5_lay 6 = .ok (.ifCond .ne 5, 3) := by decide +kernel
theorem dX5_lay_9 : decode cX5_lay 9 = .ok (.iconst (-1), 1) := by decide +kernel
theorem dX5_lay_10 : decode cX5_lay 10 = .ok (.ireturn, 1) := by decide +kernel
theorem dX5_lay_11 : decode cX5_lay 11 = .ok (.aload_n 0, 1) := by decide +kernel
theorem dX5_lay_12 : decode cX5_lay 12 = .ok (.getfield 49, 3) := by decide +kernel
theorem dX5_lay_15 : decode cX5_lay 15 = .ok (.iload_n 1, 1) := by decide +kernel
theorem dX5_lay_16 : decode cX5_lay 16 = .ok (.aaload, 1) := by decide +kernel
theorem dX5_lay_17 : decode cX5_lay 17 = .ok (.aload_n 0, 1) := by decide +kernel
theorem dX5_lay_18 : decode cX5_lay 18 = .ok (.getfield 49, 3) := by decide +kernel
theorem dX5_lay_21 : decode cX5_lay 21 = .ok (.iload_n 1, 1) := by decide +kernel
theorem dX5_lay_22 : decode cX5_lay 22 = .ok (.aaload, 1) := by decide +kernel
theorem dX5_lay_23 : decode cX5_lay 23 = .ok (.getfield 224, 3) := by decide +kernel
theorem dX5_lay_26 : decode cX5_lay 26 = .ok (.iload_n 2, 1) := by decide +kernel
theorem dX5_lay_27 : decode cX5_lay 27 = .ok (.invokevirtual 227, 3) := by decide +kernel
theorem dX5_lay_30 : decode cX5_lay 30 = .ok (.istore 4, 2) := by decide +kernel
theorem dX5_lay_32 : decode cX5_lay 32 = .ok (.iload 4, 2) := by decide +kernel
theorem dX5_lay_34 : decode cX5_lay 34 = .ok (.ifCond .eq 9, 3) := by decide +kernel
theorem dX5_lay_37 : decode cX5_lay 37 = .ok (.bipush (-10), 2) := by decide +kernel
theorem dX5_lay_39 : decode cX5_lay 39 = .ok (.iload 4, 2) := by decide +kernel
theorem dX5_lay_41 : decode cX5_lay 41 = .ok (.isub, 1) := by decide +kernel
theorem dX5_lay_42 : decode cX5_lay 42 = .ok (.ireturn, 1) := by decide +kernel
theorem dX5_lay_43 : decode cX5_lay 43 = .ok (.aload_n 0, 1) := by decide +kernel
theorem dX5_lay_44 : decode cX5_lay 44 = .ok (.getfield 49, 3) := by decide +kernel
theorem dX5_lay_47 : decode cX5_lay 47 = .ok (.iload_n 1, 1) := by decide +kernel
theorem dX5_lay_48 : decode cX5_lay 48 = .ok (.aaload, 1) := by decide +kernel
theorem dX5_lay_49 : decode cX5_lay 49 = .ok (.iload_n 2, 1) := by decide +kernel
theorem dX5_lay_50 : decode cX5_lay 50 = .ok (.iload_n 3, 1) := by decide +kernel
theorem dX5_lay_51 : decode cX5_lay 51 = .ok (.invokevirtual 230, 3) := by decide +kernel
theorem dX5_lay_54 : decode cX5_lay 54 = .ok (.iconst 1, 1) := by decide +kernel
theorem dX5_lay_55 : decode cX5_lay 55 = .ok (.ireturn, 1) := by decide +kernel
theorem dX5_read_0 : decode cX5_read 0 = .ok (.iload_n 1, 1) := by decide +kernel
theorem dX5_read_1 : decode cX5_read 1 = .ok (.iconst 0, 1) := by decide +kernel
theorem dX5_read_2 : decode cX5_read 2 = .ok (.iconst 3, 1) := by decide +kernel
theorem dX5_read_3 : decode cX5_read 3 = .ok (.invokestatic 70, 3) := by decide +kernel
theorem dX5_read_6 : decode cX5_read 6 = .ok (.ifCond .eq 23, 3) := by decide +kernel
theorem dX5_read_9 : decode cX5_read 9 = .ok (.iload_n 2, 1) := by decide +kernel
theorem dX5_read_10 : decode cX5_read 10 = .ok (.iconst 0, 1) := by decide +kernel
theorem dX5_read_11 : decode cX5_read 11 = .ok (.iconst 2, 1) := by decide +kernel
theorem dX5_read_12 : decode cX5_read 12 = .ok (.invokestatic 70, 3) := by decide +kernel
theorem dX5_read_15 : decode cX5_read 15 = .ok (.ifCond .eq 14, 3) := by decide +kernel
theorem dX5_read_18 : decode cX5_read 18 = .ok (.iload 4, 2) := by decide +kernel
theorem dX5_read_20 : decode cX5_read 20 = .ok (.iconst 0, 1) := by decide +kernel
theorem dX5_read_21 : decode cX5_read 21 = .ok (.bipush 20, 2) := by decide +kernel
theorem dX5_read_23 : decode cX5_read 23 = .ok (.invokestatic 70, 3) := by decide +kernel
theorem dX5_read_26 : decode cX5_read 26 = .ok (.ifCond .ne 5, 3) := by decide +kernel
theorem dX5_read_29 : decode cX5_read 29 = .ok (.iconst (-1), 1) := by decide +kernel
theorem dX5_read_30 : decode cX5_read 30 = .ok (.ireturn, 1) := by decide +kernel
theorem dX5_read_31 : decode cX5_read 31 = .ok (.aload_n 0, 1) := by decide +kernel
theorem dX5_read_32 : decode cX5_read 32 = .ok (.getfield 49, 3) := by decide +kernel
theorem dX5_read_35 : decode cX5_read 35 = .ok (.iload_n 1, 1) := by decide +kernel
theorem dX5_read_36 : decode cX5_read 36 = .ok (.aaload, 1) := by decide +kernel
theorem dX5_read_37 : decode cX5_read 37 = .ok (.astore 5, 2) := by decide +kernel
theorem dX5_read_39 : decode cX5_read 39 = .ok (.aload_n 0, 1) := by decide +kernel
theorem dX5_read_40 : decode cX5_read 40 = .ok (.getfield 16, 3) := by decide +kernel
theorem dX5_read_43 : decode cX5_read 43 = .ok (.aload_n 0, 1) := by decide +kernel
theorem dX5_read_44 : decode cX5_read 44 = .ok (.getfield 10, 3) := by decide +kernel
theorem dX5_read_47 : decode cX5_read 47 = .ok (.invokevirtual 90, 3) := by decide +kernel
theorem dX5_read_50 : decode cX5_read 50 = .ok (.iconst 0, 1) := by decide +kernel
theorem dX5_read_51 : decode cX5_read 51 = .ok (.istore 6, 2) := by decide +kernel
theorem dX5_read_53 : decode cX5_read 53 = .ok (.iconst 0, 1) := by decide +kernel
theorem dX5_read_54 : decode cX5_read 54 = .ok (.istore 7, 2) := by decide +kernel
theorem dX5_read_56 : decode cX5_read 56 = .ok (.iload 7, 2) := by decide +kernel
theorem dX5_read_58 : decode cX5_read 58 = .ok (.iload 4, 2) := by decide +kernel
theorem dX5_read_60 : decode cX5_read 60 = .ok (.if_icmp .ge 69, 3) := by decide +kernel
theorem dX5_read_63 : decode cX5_read 63 = .ok (.iload_n 3, 1) := by decide +kernel
theorem dX5_read_64 : decode cX5_read 64 = .ok (.iconst 2, 1) := by decide +kernel
theorem dX5_read_65 : decode cX5_read 65 = .ok (.iload 7, 2) := by decide +kernel
theorem dX5_read_67 : decode cX5_read 67 = .ok (.imul, 1) := by decide +kernel
theorem dX5_read_68 : decode cX5_read 68 = .ok (.iadd, 1) := by decide +kernel
theorem dX5_read_69 : decode cX5_read 69 = .ok (.istore 8, 2) := by decide +kernel
theorem dX5_read_71 : decode cX5_read 71 = .ok (.aload 5, 2) := by decide +kernel
theorem dX5_read_73 : decode cX5_read 73 = .ok (.iload_n 2, 1) := by decide +kernel
theorem dX5_read_74 : decode cX5_read 74 = .ok (.iload 8, 2) := by decide +kernel
theorem dX5_read_76 : decode cX5_read 76 = .ok (.invokevirtual 233, 3) := by decide +kernel
theorem dX5_read_79 : decode cX5_read 79 = .ok (.istore 6, 2) := by decide +kernel
theorem dX5_read_81 : decode cX5_read 81 = .ok (.iload 6, 2) := by decide +kernel
theorem dX5_read_83 : decode cX5_read 83 = .ok (.ifCond .eq 6, 3) := by decide +kernel
theorem dX5_read_86 : decode cX5_read 86 = .ok (.goto 43, 3) := by decide +kernel
theorem dX5_read_89 : decode cX5_read 89 = .ok (.aload_n 0, 1) := by decide +kernel
theorem dX5_read_90 : decode cX5_read 90 = .ok (.getfield 16, 3) := by decide +kernel
theorem dX5_read_93 : decode cX5_read 93 = .ok (.aload 5, 2) := by decide +kernel
theorem dX5_read_95 : decode cX5_read 95 = .ok (.getfield 236, 3) := by decide +kernel
theorem dX5_read_98 : decode cX5_read 98 = .ok (.iload 8, 2) := by decide +kernel
theorem dX5_read_100 : decode cX5_read 100 = .ok (.iaload, 1) := by decide +kernel
theorem dX5_read_101 : decode cX5_read 101 = .ok (.aload 5, 2) := by decide +kernel
theorem dX5_read_103 : decode cX5_read 103 = .ok (.getfield 236, 3) := by decide +kernel
theorem dX5_read_106 : decode cX5_read 106 = .ok (.iload 8, 2) := by decide +kernel
theorem dX5_read_108 : decode cX5_read 108 = .ok (.iconst 1, 1) := by decide +kernel
theorem dX5_read_109 : decode cX5_read 109 = .ok (.iadd, 1) := by decide +kernel
theorem dX5_read_110 : decode cX5_read 110 = .ok (.iaload, 1) := by decide +kernel
theorem dX5_read_111 : decode cX5_read 111 = .ok (.invokevirtual 239, 3) := by decide +kernel
theorem dX5_read_114 : decode cX5_read 114 = .ok (.ifCond .ne 9, 3) := by decide +kernel
theorem dX5_read_117 : decode cX5_read 117 = .ok (.bipush (-20), 2) := by decide +kernel
theorem dX5_read_119 : decode cX5_read 119 = .ok (.iload 7, 2) := by decide +kernel
theorem dX5_read_121 : decode cX5_read 121 = .ok (.isub, 1) := by decide +kernel
theorem dX5_read_122 : decode cX5_read 122 = .ok (.ireturn, 1) := by decide +kernel
theorem dX5_read_123 : decode cX5_read 123 = .ok (.iinc 7 1, 3) := by decide +kernel
theorem dX5_read_126 : decode cX5_read 126 = .ok (.goto (-70), 3) := by decide +kernel
theorem dX5_read_129 : decode cX5_read 129 = .ok (.aload_n 0, 1) := by decide +kernel
theorem dX5_read_130 : decode cX5_read 130 = .ok (.getfield 10, 3) := by decide +kernel
theorem dX5_read_133 : decode cX5_read 133 = .ok (.aload_n 0, 1) := by decide +kernel
theorem dX5_read_134 : decode cX5_read 134 = .ok (.getfield 16, 3) := by decide +kernel
theorem dX5_read_137 : decode cX5_read 137 = .ok (.invokevirtual 90, 3) := by decide +kernel
theorem dX5_read_140 : decode cX5_read 140 = .ok (.aload_n 0, 1) := by decide +kernel
theorem dX5_read_141 : decode cX5_read 141 = .ok (.iload 6, 2) := by decide +kernel
theorem dX5_read_143 : decode cX5_read 143 = .ok (.putfield 53, 3) := by decide +kernel
theorem dX5_read_146 : decode cX5_read 146 = .ok (.iload 7, 2) := by decide +kernel
theorem dX5_read_148 : decode cX5_read 148 = .ok (.ireturn, 1) := by decide +kernel
theorem dX5_torn_0 : decode cX5_torn 0 = .ok (.aload_n 0, 1) := by decide +kernel
theorem dX5_torn_1 : decode cX5_torn 1 = .ok (.getfield 53, 3) := by decide +kernel
theorem dX5_torn_4 : decode cX5_torn 4 = .ok (.ireturn, 1) := by decide +kernel
theorem dX5_count_0 : decode cX5_count 0 = .ok (.iload_n 1, 1) := by decide +kernel
theorem dX5_count_1 : decode cX5_count 1 = .ok (.tableswitch 128 0 5 #[39, 47, 77, 85, 112, 120], 39) := by decide +kernel
theorem dX5_count_40 : decode cX5_count 40 = .ok (.aload_n 0, 1) := by decide +kernel
theorem dX5_count_41 : decode cX5_count 41 = .ok (.getfield 42, 3) := by decide +kernel
theorem dX5_count_44 : decode cX5_count 44 = .ok (.getfield 94, 3) := by decide +kernel
theorem dX5_count_47 : decode cX5_count 47 = .ok (.ireturn, 1) := by decide +kernel
theorem dX5_count_48 : decode cX5_count 48 = .ok (.aload_n 0, 1) := by decide +kernel
theorem dX5_count_49 : decode cX5_count 49 = .ok (.getfield 23, 3) := by decide +kernel
theorem dX5_count_52 : decode cX5_count 52 = .ok (.iconst 0, 1) := by decide +kernel
theorem dX5_count_53 : decode cX5_count 53 = .ok (.baload, 1) := by decide +kernel
theorem dX5_count_54 : decode cX5_count 54 = .ok (.ifCond .eq 7, 3) := by decide +kernel
theorem dX5_count_57 : decode cX5_count 57 = .ok (.iconst 1, 1) := by decide +kernel
theorem dX5_count_58 : decode cX5_count 58 = .ok (.goto 4, 3) := by decide +kernel
theorem dX5_count_61 : decode cX5_count 61 = .ok (.iconst 0, 1) := by decide +kernel
theorem dX5_count_62 : decode cX5_count 62 = .ok (.aload_n 0, 1) := by decide +kernel
theorem dX5_count_63 : decode cX5_count 63 = .ok (.getfield 23, 3) := by decide +kernel
theorem dX5_count_66 : decode cX5_count 66 = .ok (.iconst 1, 1) := by decide +kernel
theorem dX5_count_67 : decode cX5_count 67 = .ok (.baload, 1) := by decide +kernel
theorem dX5_count_68 : decode cX5_count 68 = .ok (.ifCond .eq 7, 3) := by decide +kernel
theorem dX5_count_71 : decode cX5_count 71 = .ok (.iconst 1, 1) := by decide +kernel
theorem dX5_count_72 : decode cX5_count 72 = .ok (.goto 4, 3) := by decide +kernel
theorem dX5_count_75 : decode cX5_count 75 = .ok (.iconst 0, 1) := by decide +kernel
theorem dX5_count_76 : decode cX5_count 76 = .ok (.iadd, 1) := by decide +kernel
theorem dX5_count_77 : decode cX5_count 77 = .ok (.ireturn, 1) := by decide +kernel
theorem dX5_count_78 : decode cX5_count 78 = .ok (.aload_n 0, 1) := by decide +kernel
theorem dX5_count_79 : decode cX5_count 79 = .ok (.getfield 38, 3) := by decide +kernel
theorem dX5_count_82 : decode cX5_count 82 = .ok (.getfield 74, 3) := by decide +kernel
theorem dX5_count_85 : decode cX5_count 85 = .ok (.ireturn, 1) := by decide +kernel
theorem dX5_count_86 : decode cX5_count 86 = .ok (.aload_n 0, 1) := by decide +kernel
theorem dX5_count_87 : decode cX5_count 87 = .ok (.getfield 49, 3) := by decide +kernel
theorem dX5_count_90 : decode cX5_count 90 = .ok (.iconst 0, 1) := by decide +kernel
theorem dX5_count_91 : decode cX5_count 91 = .ok (.aaload, 1) := by decide +kernel
theorem dX5_count_92 : decode cX5_count 92 = .ok (.getfield 243, 3) := by decide +kernel
theorem dX5_count_95 : decode cX5_count 95 = .ok (.ifCond .eq 15, 3) := by decide +kernel
theorem dX5_count_98 : decode cX5_count 98 = .ok (.aload_n 0, 1) := by decide +kernel
theorem dX5_count_99 : decode cX5_count 99 = .ok (.getfield 49, 3) := by decide +kernel
theorem dX5_count_102 : decode cX5_count 102 = .ok (.iconst 0, 1) := by decide +kernel
theorem dX5_count_103 : decode cX5_count 103 = .ok (.aaload, 1) := by decide +kernel
theorem dX5_count_104 : decode cX5_count 104 = .ok (.getfield 247, 3) := by decide +kernel
theorem dX5_count_107 : decode cX5_count 107 = .ok (.goto 5, 3) := by decide +kernel
theorem dX5_count_110 : decode cX5_count 110 = .ok (.bipush (-4), 2) := by decide +kernel
theorem dX5_count_112 : decode cX5_count 112 = .ok (.ireturn, 1) := by decide +kernel
theorem dX5_count_113 : decode cX5_count 113 = .ok (.aload_n 0, 1) := by decide +kernel
theorem dX5_count_114 : decode cX5_count 114 = .ok (.getfield 10, 3) := by decide +kernel
theorem dX5_count_117 : decode cX5_count 117 = .ok (.invokevirtual 248, 3) := by decide +kernel
theorem dX5_count_120 : decode cX5_count 120 = .ok (.ireturn, 1) := by decide +kernel
theorem dX5_count_121 : decode cX5_count 121 = .ok (.aload_n 0, 1) := by decide +kernel
theorem dX5_count_122 : decode cX5_count 122 = .ok (.getfield 10, 3) := by decide +kernel
theorem dX5_count_125 : decode cX5_count 125 = .ok (.invokevirtual 251, 3) := by decide +kernel
theorem dX5_count_128 : decode cX5_count 128 = .ok (.ireturn, 1) := by decide +kernel
theorem dX5_count_129 : decode cX5_count 129 = .ok (.iconst (-1), 1) := by decide +kernel
theorem dX5_count_130 : decode cX5_count 130 = .ok (.ireturn, 1) := by decide +kernel
theorem dX5_within_0 : decode cX5_within 0 = .ok (.iload_n 0, 1) := by decide +kernel
theorem dX5_within_1 : decode cX5_within 1 = .ok (.iload_n 1, 1) := by decide +kernel
theorem dX5_within_2 : decode cX5_within 2 = .ok (.if_icmp .lt 12, 3) := by decide +kernel
theorem dX5_within_5 : decode cX5_within 5 = .ok (.iload_n 0, 1) := by decide +kernel
theorem dX5_within_6 : decode cX5_within 6 = .ok (.iload_n 2, 1) := by decide +kernel
theorem dX5_within_7 : decode cX5_within 7 = .ok (.if_icmp .gt 7, 3) := by decide +kernel
theorem dX5_within_10 : decode cX5_within 10 = .ok (.iconst 1, 1) := by decide +kernel
theorem dX5_within_11 : decode cX5_within 11 = .ok (.goto 4, 3) := by decide +kernel
theorem dX5_within_14 : decode cX5_within 14 = .ok (.iconst 0, 1) := by decide +kernel
theorem dX5_within_15 : decode cX5_within 15 = .ok (.ireturn, 1) := by decide +kernel
theorem dX5_tryPart_0 : decode cX5_tryPart 0 = .ok (.aload_n 0, 1) := by decide +kernel
theorem dX5_tryPart_1 : decode cX5_tryPart 1 = .ok (.getfield 16, 3) := by decide +kernel
theorem dX5_tryPart_4 : decode cX5_tryPart 4 = .ok (.aload_n 0, 1) := by decide +kernel
theorem dX5_tryPart_5 : decode cX5_tryPart 5 = .ok (.getfield 10, 3) := by decide +kernel
theorem dX5_tryPart_8 : decode cX5_tryPart 8 = .ok (.invokevirtual 90, 3) := by decide +kernel
theorem dX5_tryPart_11 : decode cX5_tryPart 11 = .ok (.aload_n 0, 1) := by decide +kernel
theorem dX5_tryPart_12 : decode cX5_tryPart 12 = .ok (.getfield 16, 3) := by decide +kernel
theorem dX5_tryPart_15 : decode cX5_tryPart 15 = .ok (.iload_n 1, 1) := by decide +kernel
theorem dX5_tryPart_16 : decode cX5_tryPart 16 = .ok (.iload_n 2, 1) := by decide +kernel
theorem dX5_tryPart_17 : decode cX5_tryPart 17 = .ok (.iload_n 3, 1) := by decide +kernel
theorem dX5_tryPart_18 : decode cX5_tryPart 18 = .ok (.invokevirtual 254, 3) := by decide +kernel
theorem dX5_tryPart_21 : decode cX5_tryPart 21 = .ok (.return_, 1) := by decide +kernel
theorem dX5_trialErrorBehind_0 : decode cX5_trialErrorBehind 0 = .ok (.aload_n 0, 1) := by decide +kernel
theorem dX5_trialErrorBehind_1 : decode cX5_trialErrorBehind 1 = .ok (.getfield 16, 3) := by decide +kernel
theorem dX5_trialErrorBehind_4 : decode cX5_trialErrorBehind 4 = .ok (.iload_n 1, 1) := by decide +kernel
theorem dX5_trialErrorBehind_5 : decode cX5_trialErrorBehind 5 = .ok (.invokevirtual 148, 3) := by decide +kernel
theorem dX5_trialErrorBehind_8 : decode cX5_trialErrorBehind 8 = .ok (.aload_n 0, 1) := by decide +kernel
theorem dX5_trialErrorBehind_9 : decode cX5_trialErrorBehind 9 = .ok (.getfield 16, 3) := by decide +kernel
theorem dX5_trialErrorBehind_12 : decode cX5_trialErrorBehind 12 = .ok (.invokevirtual 114, 3) := by decide +kernel
theorem dX5_trialErrorBehind_15 : decode cX5_trialErrorBehind 15 = .ok (.ireturn, 1) := by decide +kernel
theorem dX5_bestPart_0 : decode cX5_bestPart 0 = .ok (.aload_n 0, 1) := by decide +kernel
theorem dX5_bestPart_1 : decode cX5_bestPart 1 = .ok (.getfield 10, 3) := by decide +kernel
theorem dX5_bestPart_4 : decode cX5_bestPart 4 = .ok (.iload_n 1, 1) := by decide +kernel
theorem dX5_bestPart_5 : decode cX5_bestPart 5 = .ok (.invokevirtual 120, 3) := by decide +kernel
theorem dX5_bestPart_8 : decode cX5_bestPart 8 = .ok (.ifCond .eq 24, 3) := by decide +kernel
theorem dX5_bestPart_11 : decode cX5_bestPart 11 = .ok (.iload_n 3, 1) := by decide +kernel
theorem dX5_bestPart_12 : decode cX5_bestPart 12 = .ok (.iconst 0, 1) := by decide +kernel
theorem dX5_bestPart_13 : decode cX5_bestPart 13 = .ok (.sipush 200, 3) := by decide +kernel
theorem dX5_bestPart_16 : decode cX5_bestPart 16 = .ok (.invokestatic 70, 3) := by decide +kernel
theorem dX5_bestPart_19 : decode cX5_bestPart 19 = .ok (.ifCond .eq 13, 3) := by decide +kernel
theorem dX5_bestPart_22 : decode cX5_bestPart 22 = .ok (.iload 4, 2) := by decide +kernel
theorem dX5_bestPart_24 : decode cX5_bestPart 24 = .ok (.iconst 0, 1) := by decide +kernel
theorem dX5_bestPart_25 : decode cX5_bestPart 25 = .ok (.iconst 1, 1) := by decide +kernel
theorem dX5_bestPart_26 : decode cX5_bestPart 26 = .ok (.invokestatic 70, 3) := by decide +kernel
theorem dX5_bestPart_29 : decode cX5_bestPart 29 = .ok (.ifCond .ne 5, 3) := by decide +kernel
theorem dX5_bestPart_32 : decode cX5_bestPart 32 = .ok (.iconst (-1), 1) := by decide +kernel
theorem dX5_bestPart_33 : decode cX5_bestPart 33 = .ok (.ireturn, 1) := by decide +kernel
theorem dX5_bestPart_34 : decode cX5_bestPart 34 = .ok (.iload_n 2, 1) := by decide +kernel
theorem dX5_bestPart_35 : decode cX5_bestPart 35 = .ok (.ifCond .ne 7, 3) := by decide +kernel
theorem dX5_bestPart_38 : decode cX5_bestPart 38 = .ok (.iconst 4, 1) := by decide +kernel
theorem dX5_bestPart_39 : decode cX5_bestPart 39 = .ok (.goto 12, 3) := by decide +kernel
theorem dX5_bestPart_42 : decode cX5_bestPart 42 = .ok (.aload_n 0, 1) := by decide +kernel
theorem dX5_bestPart_43 : decode cX5_bestPart 43 = .ok (.getfield 10, 3) := by decide +kernel
theorem dX5_bestPart_46 : decode cX5_bestPart 46 = .ok (.getfield 204, 3) := by decide +kernel
theorem dX5_bestPart_49 : decode cX5_bestPart 49 = .ok (.iload_n 1, 1) := by decide +kernel
theorem dX5_bestPart_50 : decode cX5_bestPart 50 = .ok (.iaload, 1) := by decide +kernel
theorem dX5_bestPart_51 : decode cX5_bestPart 51 = .ok (.istore 5, 2) := by decide +kernel
theorem dX5_bestPart_53 : decode cX5_bestPart 53 = .ok (.ldc_w 257, 3) := by decide +kernel
theorem dX5_bestPart_56 : decode cX5_bestPart 56 = .ok (.istore 6, 2) := by decide +kernel
theorem dX5_bestPart_58 : decode cX5_bestPart 58 = .ok (.iconst 0, 1) := by decide +kernel
theorem dX5_bestPart_59 : decode cX5_bestPart 59 = .ok (.istore 7, 2) := by decide +kernel
theorem dX5_bestPart_61 : decode cX5_bestPart 61 = .ok (.iconst 0, 1) := by decide +kernel
theorem dX5_bestPart_62 : decode cX5_bestPart 62 = .ok (.istore 8, 2) := by decide +kernel
theorem dX5_bestPart_64 : decode cX5_bestPart 64 = .ok (.iload 8, 2) := by decide +kernel
theorem dX5_bestPart_66 : decode cX5_bestPart 66 = .ok (.iload 5, 2) := by decide +kernel
theorem dX5_bestPart_68 : decode cX5_bestPart 68 = .ok (.if_icmp .ge 64, 3) := by decide +kernel
theorem dX5_bestPart_71 : decode cX5_bestPart 71 = .ok (.aload_n 0, 1) := by decide +kernel
theorem dX5_bestPart_72 : decode cX5_bestPart 72 = .ok (.iload_n 1, 1) := by decide +kernel
theorem dX5_bestPart_73 : decode cX5_bestPart 73 = .ok (.iload_n 2, 1) := by decide +kernel
theorem dX5_bestPart_74 : decode cX5_bestPart 74 = .ok (.iload 8, 2) := by decide +kernel
theorem dX5_bestPart_76 : decode cX5_bestPart 76 = .ok (.invokevirtual 173, 3) := by decide +kernel
theorem dX5_bestPart_79 : decode cX5_bestPart 79 = .ok (.aload_n 0, 1) := by decide +kernel
theorem dX5_bestPart_80 : decode cX5_bestPart 80 = .ok (.getfield 16, 3) := by decide +kernel
theorem dX5_bestPart_83 : decode cX5_bestPart 83 = .ok (.iload_n 3, 1) := by decide +kernel
theorem dX5_bestPart_84 : decode cX5_bestPart 84 = .ok (.invokevirtual 148, 3) := by decide +kernel
theorem dX5_bestPart_87 : decode cX5_bestPart 87 = .ok (.iload_n 2, 1) := by decide +kernel
theorem dX5_bestPart_88 : decode cX5_bestPart 88 = .ok (.iconst 3, 1) := by decide +kernel
theorem dX5_bestPart_89 : decode cX5_bestPart 89 = .ok (.if_icmp .ne 13, 3) := by decide +kernel
theorem dX5_bestPart_92 : decode cX5_bestPart 92 = .ok (.aload_n 0, 1) := by decide +kernel
theorem dX5_bestPart_93 : decode cX5_bestPart 93 = .ok (.getfield 16, 3) := by decide +kernel
theorem dX5_bestPart_96 : decode cX5_bestPart 96 = .ok (.invokevirtual 107, 3) := by decide +kernel
theorem dX5_bestPart_99 : decode cX5_bestPart 99 = .ok (.goto 10, 3) := by decide +kernel
theorem dX5_bestPart_102 : decode cX5_bestPart 102 = .ok (.aload_n 0, 1) := by decide +kernel
theorem dX5_bestPart_103 : decode cX5_bestPart 103 = .ok (.getfield 16, 3) := by decide +kernel
theorem dX5_bestPart_106 : decode cX5_bestPart 106 = .ok (.invokevirtual 114, 3) := by decide +kernel
theorem dX5_bestPart_109 : decode cX5_bestPart 109 = .ok (.istore 9, 2) := by decide +kernel
theorem dX5_bestPart_111 : decode cX5_bestPart 111 = .ok (.iload 9, 2) := by decide +kernel
theorem dX5_bestPart_113 : decode cX5_bestPart 113 = .ok (.iload 6, 2) := by decide +kernel
theorem dX5_bestPart_115 : decode cX5_bestPart 115 = .ok (.if_icmp .ge 11, 3) := by decide +kernel
theorem dX5_bestPart_118 : decode cX5_bestPart 118 = .ok (.iload 9, 2) := by decide +kernel
theorem dX5_bestPart_120 : decode cX5_bestPart 120 = .ok (.istore 6, 2) := by decide +kernel
theorem dX5_bestPart_122 : decode cX5_bestPart 122 = .ok (.iload 8, 2) := by decide +kernel
theorem dX5_bestPart_124 : decode cX5_bestPart 124 = .ok (.istore 7, 2) := by decide +kernel
theorem dX5_bestPart_126 : decode cX5_bestPart 126 = .ok (.iinc 8 1, 3) := by decide +kernel
theorem dX5_bestPart_129 : decode cX5_bestPart 129 = .ok (.goto (-65), 3) := by decide +kernel
theorem dX5_bestPart_132 : decode cX5_bestPart 132 = .ok (.iload 4, 2) := by decide +kernel
theorem dX5_bestPart_134 : decode cX5_bestPart 134 = .ok (.ifCond .ne 8, 3) := by decide +kernel
theorem dX5_bestPart_137 : decode cX5_bestPart 137 = .ok (.iload 7, 2) := by decide +kernel
theorem dX5_bestPart_139 : decode cX5_bestPart 139 = .ok (.goto 5, 3) := by decide +kernel
theorem dX5_bestPart_142 : decode cX5_bestPart 142 = .ok (.iload 6, 2) := by decide +kernel
theorem dX5_bestPart_144 : decode cX5_bestPart 144 = .ok (.ireturn, 1) := by decide +kernel
theorem dX5_fitsWith_0 : decode cX5_fitsWith 0 = .ok (.aload_n 0, 1) := by decide +kernel
theorem dX5_fitsWith_1 : decode cX5_fitsWith 1 = .ok (.iload_n 1, 1) := by decide +kernel
theorem dX5_fitsWith_2 : decode cX5_fitsWith 2 = .ok (.iload_n 2, 1) := by decide +kernel
theorem dX5_fitsWith_3 : decode cX5_fitsWith 3 = .ok (.iload_n 3, 1) := by decide +kernel
theorem dX5_fitsWith_4 : decode cX5_fitsWith 4 = .ok (.invokevirtual 173, 3) := by decide +kernel
theorem dX5_fitsWith_7 : decode cX5_fitsWith 7 = .ok (.aload_n 0, 1) := by decide +kernel
theorem dX5_fitsWith_8 : decode cX5_fitsWith 8 = .ok (.getfield 42, 3) := by decide +kernel
theorem dX5_fitsWith_11 : decode cX5_fitsWith 11 = .ok (.aload_n 0, 1) := by decide +kernel
theorem dX5_fitsWith_12 : decode cX5_fitsWith 12 = .ok (.getfield 16, 3) := by decide +kernel
theorem dX5_fitsWith_15 : decode cX5_fitsWith 15 = .ok (.invokevirtual 258, 3) := by decide +kernel
theorem dX5_fitsWith_18 : decode cX5_fitsWith 18 = .ok (.ireturn, 1) := by decide +kernel
theorem dX5_countWays_0 : decode cX5_countWays 0 = .ok (.lconst 1, 1) := by decide +kernel
theorem dX5_countWays_1 : decode cX5_countWays 1 = .ok (.lstore_n 3, 1) := by decide +kernel
theorem dX5_countWays_2 : decode cX5_countWays 2 = .ok (.aload_n 0, 1) := by decide +kernel
theorem dX5_countWays_3 : decode cX5_countWays 3 = .ok (.getfield 57, 3) := by decide +kernel
theorem dX5_countWays_6 : decode cX5_countWays 6 = .ok (.iconst 0, 1) := by decide +kernel
theorem dX5_countWays_7 : decode cX5_countWays 7 = .ok (.lconst 1, 1) := by decide +kernel
theorem dX5_countWays_8 : decode cX5_countWays 8 = .ok (.lastore, 1) := by decide +kernel
theorem dX5_countWays_9 : decode cX5_countWays 9 = .ok (.iconst 1, 1) := by decide +kernel
theorem dX5_countWays_10 : decode cX5_countWays 10 = .ok (.istore 5, 2) := by decide +kernel
theorem dX5_countWays_12 : decode cX5_countWays 12 = .ok (.iload 5, 2) := by decide +kernel
theorem dX5_countWays_14 : decode cX5_countWays 14 = .ok (.iload_n 2, 1) := by decide +kernel
theorem dX5_countWays_15 : decode cX5_countWays 15 = .ok (.if_icmp .gt 82, 3) := by decide +kernel
theorem dX5_countWays_18 : decode cX5_countWays 18 = .ok (.aload_n 0, 1) := by decide +kernel
theorem dX5_countWays_19 : decode cX5_countWays 19 = .ok (.getfield 57, 3) := by decide +kernel
theorem dX5_countWays_22 : decode cX5_countWays 22 = .ok (.iload 5, 2) := by decide +kernel
theorem dX5_countWays_24 : decode cX5_countWays 24 = .ok (.lconst 0, 1) := by decide +kernel
theorem dX5_countWays_25 : decode cX5_countWays 25 = .ok (.lastore, 1) := by decide +kernel
theorem dX5_countWays_26 : decode cX5_countWays 26 = .ok (.iload 5, 2) := by decide +kernel
theorem dX5_countWays_28 : decode cX5_countWays 28 = .ok (.istore 6, 2) := by decide +kernel
theorem dX5_countWays_30 : decode cX5_countWays 30 = .ok (.iload 6, 2) := by decide +kernel
theorem dX5_countWays_32 : decode cX5_countWays 32 = .ok (.ifCond .le 42, 3) := by decide +kernel
theorem dX5_countWays_35 : decode cX5_countWays 35 = .ok (.aload_n 0, 1) := by decide +kernel
theorem dX5_countWays_36 : decode cX5_countWays 36 = .ok (.getfield 57, 3) := by decide +kernel
theorem dX5_countWays_39 : decode cX5_countWays 39 = .ok (.iload 6, 2) := by decide +kernel
theorem dX5_countWays_41 : decode cX5_countWays 41 = .ok (.aload_n 0, 1) := by decide +kernel
theorem dX5_countWays_42 : decode cX5_countWays 42 = .ok (.getfield 57, 3) := by decide +kernel
theorem dX5_countWays_45 : decode cX5_countWays 45 = .ok (.iload 6, 2) := by decide +kernel
theorem dX5_countWays_47 : decode cX5_countWays 47 = .ok (.laload, 1) := by decide +kernel
theorem dX5_countWays_48 : decode cX5_countWays 48 = .ok (.iload_n 1, 1) := by decide +kernel
theorem dX5_countWays_49 : decode cX5_countWays 49 = .ok (.i2l, 1) := by decide +kernel
theorem dX5_countWays_50 : decode cX5_countWays 50 = .ok (.lmul, 1) := by decide +kernel
theorem dX5_countWays_51 : decode cX5_countWays 51 = .ok (.aload_n 0, 1) := by decide +kernel
theorem dX5_countWays_52 : decode cX5_countWays 52 = .ok (.getfield 57, 3) := by decide +kernel
theorem dX5_countWays_55 : decode cX5_countWays 55 = .ok (.iload 6, 2) := by decide +kernel
theorem dX5_countWays_57 : decode cX5_countWays 57 = .ok (.iconst 1, 1) := by decide +kernel
theorem dX5_countWays_58 : decode cX5_countWays 58 = .ok (.isub, 1) := by decide +kernel
theorem dX5_countWays_59 : decode cX5_countWays 59 = .ok (.laload, 1) := by decide +kernel
theorem dX5_countWays_60 : decode cX5_countWays 60 = .ok (.bipush 10, 2) := by decide +kernel
theorem dX5_countWays_62 : decode cX5_countWays 62 = .ok (.iload_n 1, 1) := by decide +kernel
theorem dX5_countWays_63 : decode cX5_countWays 63 = .ok (.isub, 1) := by decide +kernel
theorem dX5_countWays_64 : decode cX5_countWays 64 = .ok (.i2l, 1) := by decide +kernel
theorem dX5_countWays_65 : decode cX5_countWays 65 = .ok (.lmul, 1) := by decide +kernel
theorem dX5_countWays_66 : decode cX5_countWays 66 = .ok (.ladd, 1) := by decide +kernel
theorem dX5_countWays_67 : decode cX5_countWays 67 = .ok (.lastore, 1) := by decide +kernel
theorem dX5_countWays_68 : decode cX5_countWays 68 = .ok (.iinc 6 (-1), 3) := by decide +kernel
theorem dX5_countWays_71 : decode cX5_countWays 71 = .ok (.goto (-41), 3) := by decide +kernel
theorem dX5_countWays_74 : decode cX5_countWays 74 = .ok (.aload_n 0, 1) := by decide +kernel
theorem dX5_countWays_75 : decode cX5_countWays 75 = .ok (.getfield 57, 3) := by decide +kernel
theorem dX5_countWays_78 : decode cX5_countWays 78 = .ok (.iconst 0, 1) := by decide +kernel
theorem dX5_countWays_79 : decode cX5_countWays 79 = .ok (.dup2, 1) := by decide +kernel
theorem dX5_countWays_80 : decode cX5_countWays 80 = .ok (.laload, 1) := by decide +kernel
theorem dX5_countWays_81 : decode cX5_countWays 81 = .ok (.iload_n 1, 1) := by decide +kernel
theorem dX5_countWays_82 : decode cX5_countWays 82 = .ok (.i2l, 1) := by decide +kernel
theorem dX5_countWays_83 : decode cX5_countWays 83 = .ok (.lmul, 1) := by decide +kernel
theorem dX5_countWays_84 : decode cX5_countWays 84 = .ok (.lastore, 1) := by decide +kernel
theorem dX5_countWays_85 : decode cX5_countWays 85 = .ok (.lload_n 3, 1) := by decide +kernel
theorem dX5_countWays_86 : decode cX5_countWays 86 = .ok (.ldc2_w 261, 3) := by decide +kernel
theorem dX5_countWays_89 : decode cX5_countWays 89 = .ok (.lmul, 1) := by decide +kernel
theorem dX5_countWays_90 : decode cX5_countWays 90 = .ok (.lstore_n 3, 1) := by decide +kernel
theorem dX5_countWays_91 : decode cX5_countWays 91 = .ok (.iinc 5 1, 3) := by decide +kernel
theorem dX5_countWays_94 : decode cX5_countWays 94 = .ok (.goto (-82), 3) := by decide +kernel
theorem dX5_countWays_97 : decode cX5_countWays 97 = .ok (.lload_n 3, 1) := by decide +kernel
theorem dX5_countWays_98 : decode cX5_countWays 98 = .ok (.lreturn, 1) := by decide +kernel
theorem dX5_partOfFraction_0 : decode cX5_partOfFraction 0 = .ok (.lload_n 2, 1) := by decide +kernel
theorem dX5_partOfFraction_1 : decode cX5_partOfFraction 1 = .ok (.lstore 5, 2) := by decide +kernel
theorem dX5_partOfFraction_3 : decode cX5_partOfFraction 3 = .ok (.lload_n 0, 1) := by decide +kernel
theorem dX5_partOfFraction_4 : decode cX5_partOfFraction 4 = .ok (.lstore 7, 2) := by decide +kernel
theorem dX5_partOfFraction_6 : decode cX5_partOfFraction 6 = .ok (.iconst 0, 1) := by decide +kernel
theorem dX5_partOfFraction_7 : decode cX5_partOfFraction 7 = .ok (.istore 9, 2) := by decide +kernel
theorem dX5_partOfFraction_9 : decode cX5_partOfFraction 9 = .ok (.iload 9, 2) := by decide +kernel
theorem dX5_partOfFraction_11 : decode cX5_partOfFraction 11 = .ok (.bipush 100, 2) := by decide +kernel
theorem dX5_partOfFraction_13 : decode cX5_partOfFraction 13 = .ok (.if_icmp .ge 31, 3) := by decide +kernel
theorem dX5_partOfFraction_16 : decode cX5_partOfFraction 16 = .ok (.lload 7, 2) := by decide +kernel
theorem dX5_partOfFraction_18 : decode cX5_partOfFraction 18 = .ok (.lconst 0, 1) := by decide +kernel
theorem dX5_partOfFraction_19 : decode cX5_partOfFraction 19 = .ok (.lcmp, 1) := by decide +kernel
theorem dX5_partOfFraction_20 : decode cX5_partOfFraction 20 = .ok (.ifCond .eq 24, 3) := by decide +kernel
theorem dX5_partOfFraction_23 : decode cX5_partOfFraction 23 = .ok (.lload 5, 2) := by decide +kernel
theorem dX5_partOfFraction_25 : decode cX5_partOfFraction 25 = .ok (.lload 7, 2) := by decide +kernel
theorem dX5_partOfFraction_27 : decode cX5_partOfFraction 27 = .ok (.lrem, 1) := by decide +kernel
theorem dX5_partOfFraction_28 : decode cX5_partOfFraction 28 = .ok (.lstore 10, 2) := by decide +kernel
theorem dX5_partOfFraction_30 : decode cX5_partOfFraction 30 = .ok (.lload 7, 2) := by decide +kernel
theorem dX5_partOfFraction_32 : decode cX5_partOfFraction 32 = .ok (.lstore 5, 2) := by decide +kernel
theorem dX5_partOfFraction_34 : decode cX5_partOfFraction 34 = .ok (.lload 10, 2) := by decide +kernel
theorem dX5_partOfFraction_36 : decode cX5_partOfFraction 36 = .ok (.lstore 7, 2) := by decide +kernel
theorem dX5_partOfFraction_38 : decode cX5_partOfFraction 38 = .ok (.iinc 9 1, 3) := by decide +kernel
theorem dX5_partOfFraction_41 : decode cX5_partOfFraction 41 = .ok (.goto (-32), 3) := by decide +kernel
theorem dX5_partOfFraction_44 : decode cX5_partOfFraction 44 = .ok (.iload 4, 2) := by decide +kernel
theorem dX5_partOfFraction_46 : decode cX5_partOfFraction 46 = .ok (.ifCond .ne 7, 3) := by decide +kernel
theorem dX5_partOfFraction_49 : decode cX5_partOfFraction 49 = .ok (.lload_n 0, 1) := by decide +kernel
theorem dX5_partOfFraction_50 : decode cX5_partOfFraction 50 = .ok (.goto 4, 3) := by decide +kernel
theorem dX5_partOfFraction_53 : decode cX5_partOfFraction 53 = .ok (.lload_n 2, 1) := by decide +kernel
theorem dX5_partOfFraction_54 : decode cX5_partOfFraction 54 = .ok (.lstore 9, 2) := by decide +kernel
theorem dX5_partOfFraction_56 : decode cX5_partOfFraction 56 = .ok (.lload 5, 2) := by decide +kernel
theorem dX5_partOfFraction_58 : decode cX5_partOfFraction 58 = .ok (.lconst 0, 1) := by decide +kernel
theorem dX5_partOfFraction_59 : decode cX5_partOfFraction 59 = .ok (.lcmp, 1) := by decide +kernel
theorem dX5_partOfFraction_60 : decode cX5_partOfFraction 60 = .ok (.ifCond .le 11, 3) := by decide +kernel
theorem dX5_partOfFraction_63 : decode cX5_partOfFraction 63 = .ok (.lload 9, 2) := by decide +kernel
theorem dX5_partOfFraction_65 : decode cX5_partOfFraction 65 = .ok (.lload 5, 2) := by decide +kernel
theorem dX5_partOfFraction_67 : decode cX5_partOfFraction 67 = .ok (.ldiv, 1) := by decide +kernel
theorem dX5_partOfFraction_68 : decode cX5_partOfFraction 68 = .ok (.goto 5, 3) := by decide +kernel
theorem dX5_partOfFraction_71 : decode cX5_partOfFraction 71 = .ok (.lload 9, 2) := by decide +kernel
theorem dX5_partOfFraction_73 : decode cX5_partOfFraction 73 = .ok (.lreturn, 1) := by decide +kernel
theorem dX5_listTeethLeft_0 : decode cX5_listTeethLeft 0 = .ok (.iconst 0, 1) := by decide +kernel
theorem dX5_listTeethLeft_1 : decode cX5_listTeethLeft 1 = .ok (.istore_n 2, 1) := by decide +kernel
theorem dX5_listTeethLeft_2 : decode cX5_listTeethLeft 2 = .ok (.iconst 0, 1) := by decide +kernel
theorem dX5_listTeethLeft_3 : decode cX5_listTeethLeft 3 = .ok (.istore_n 3, 1) := by decide +kernel
theorem dX5_listTeethLeft_4 : decode cX5_listTeethLeft 4 = .ok (.iload_n 3, 1) := by decide +kernel
theorem dX5_listTeethLeft_5 : decode cX5_listTeethLeft 5 = .ok (.bipush 12, 2) := by decide +kernel
theorem dX5_listTeethLeft_7 : decode cX5_listTeethLeft 7 = .ok (.if_icmp .gt 28, 3) := by decide +kernel
theorem dX5_listTeethLeft_10 : decode cX5_listTeethLeft 10 = .ok (.iload_n 1, 1) := by decide +kernel
theorem dX5_listTeethLeft_11 : decode cX5_listTeethLeft 11 = .ok (.iload_n 3, 1) := by decide +kernel
theorem dX5_listTeethLeft_12 : decode cX5_listTeethLeft 12 = .ok (.ishr, 1) := by decide +kernel
theorem dX5_listTeethLeft_13 : decode cX5_listTeethLeft 13 = .ok (.iconst 1, 1) := by decide +kernel
theorem dX5_listTeethLeft_14 : decode cX5_listTeethLeft 14 = .ok (.iand, 1) := by decide +kernel
theorem dX5_listTeethLeft_15 : decode cX5_listTeethLeft 15 = .ok (.iconst 1, 1) := by decide +kernel
theorem dX5_listTeethLeft_16 : decode cX5_listTeethLeft 16 = .ok (.if_icmp .ne 13, 3) := by decide +kernel
theorem dX5_listTeethLeft_19 : decode cX5_listTeethLeft 19 = .ok (.aload_n 0, 1) := by decide +kernel
theorem dX5_listTeethLeft_20 : decode cX5_listTeethLeft 20 = .ok (.getfield 61, 3) := by decide +kernel
theorem dX5_listTeethLeft_23 : decode cX5_listTeethLeft 23 = .ok (.iload_n 2, 1) := by decide +kernel
theorem dX5_listTeethLeft_24 : decode cX5_listTeethLeft 24 = .ok (.iload_n 3, 1) := by decide +kernel
theorem dX5_listTeethLeft_25 : decode cX5_listTeethLeft 25 = .ok (.iastore, 1) := by decide +kernel
theorem dX5_listTeethLeft_26 : decode cX5_listTeethLeft 26 = .ok (.iinc 2 1, 3) := by decide +kernel
theorem dX5_listTeethLeft_29 : decode cX5_listTeethLeft 29 = .ok (.iinc 3 1, 3) := by decide +kernel
theorem dX5_listTeethLeft_32 : decode cX5_listTeethLeft 32 = .ok (.goto (-28), 3) := by decide +kernel
theorem dX5_listTeethLeft_35 : decode cX5_listTeethLeft 35 = .ok (.iload_n 2, 1) := by decide +kernel
theorem dX5_listTeethLeft_36 : decode cX5_listTeethLeft 36 = .ok (.ireturn, 1) := by decide +kernel
theorem dX5_fillReadings_0 : decode cX5_fillReadings 0 = .ok (.aload_n 0, 1) := by decide +kernel
theorem dX5_fillReadings_1 : decode cX5_fillReadings 1 = .ok (.iload_n 1, 1) := by decide +kernel
theorem dX5_fillReadings_2 : decode cX5_fillReadings 2 = .ok (.iconst 3, 1) := by decide +kernel
theorem dX5_fillReadings_3 : decode cX5_fillReadings 3 = .ok (.iload_n 2, 1) := by decide +kernel
theorem dX5_fillReadings_4 : decode cX5_fillReadings 4 = .ok (.invokevirtual 173, 3) := by decide +kernel
theorem dX5_fillReadings_7 : decode cX5_fillReadings 7 = .ok (.iconst 0, 1) := by decide +kernel
theorem dX5_fillReadings_8 : decode cX5_fillReadings 8 = .ok (.istore 4, 2) := by decide +kernel
theorem dX5_fillReadings_10 : decode cX5_fillReadings 10 = .ok (.iload 4, 2) := by decide +kernel
theorem dX5_fillReadings_12 : decode cX5_fillReadings 12 = .ok (.sipush 200, 3) := by decide +kernel
theorem dX5_fillReadings_15 : decode cX5_fillReadings 15 = .ok (.if_icmp .gt 27, 3) := by decide +kernel
theorem dX5_fillReadings_18 : decode cX5_fillReadings 18 = .ok (.aload_n 3, 1) := by decide +kernel
theorem dX5_fillReadings_19 : decode cX5_fillReadings 19 = .ok (.iload 4, 2) := by decide +kernel
theorem dX5_fillReadings_21 : decode cX5_fillReadings 21 = .ok (.aload_n 0, 1) := by decide +kernel
theorem dX5_fillReadings_22 : decode cX5_fillReadings 22 = .ok (.getfield 16, 3) := by decide +kernel
theorem dX5_fillReadings_25 : decode cX5_fillReadings 25 = .ok (.invokevirtual 107, 3) := by decide +kernel
theorem dX5_fillReadings_28 : decode cX5_fillReadings 28 = .ok (.iastore, 1) := by decide +kernel
theorem dX5_fillReadings_29 : decode cX5_fillReadings 29 = .ok (.aload_n 0, 1) := by decide +kernel
theorem dX5_fillReadings_30 : decode cX5_fillReadings 30 = .ok (.getfield 16, 3) := by decide +kernel
theorem dX5_fillReadings_33 : decode cX5_fillReadings 33 = .ok (.invokevirtual 151, 3) := by decide +kernel
theorem dX5_fillReadings_36 : decode cX5_fillReadings 36 = .ok (.iinc 4 1, 3) := by decide +kernel
theorem dX5_fillReadings_39 : decode cX5_fillReadings 39 = .ok (.goto (-29), 3) := by decide +kernel
theorem dX5_fillReadings_42 : decode cX5_fillReadings 42 = .ok (.return_, 1) := by decide +kernel
theorem dX5_mostAlike_0 : decode cX5_mostAlike 0 = .ok (.iconst 0, 1) := by decide +kernel
theorem dX5_mostAlike_1 : decode cX5_mostAlike 1 = .ok (.istore_n 3, 1) := by decide +kernel
theorem dX5_mostAlike_2 : decode cX5_mostAlike 2 = .ok (.iconst 0, 1) := by decide +kernel
theorem dX5_mostAlike_3 : decode cX5_mostAlike 3 = .ok (.istore 4, 2) := by decide +kernel
theorem dX5_mostAlike_5 : decode cX5_mostAlike 5 = .ok (.iload 4, 2) := by decide +kernel
theorem dX5_mostAlike_7 : decode cX5_mostAlike 7 = .ok (.iload_n 3, 1) := by decide +kernel
theorem dX5_mostAlike_8 : decode cX5_mostAlike 8 = .ok (.iadd, 1) := by decide +kernel
theorem dX5_mostAlike_9 : decode cX5_mostAlike 9 = .ok (.iload_n 2, 1) := by decide +kernel
theorem dX5_mostAlike_10 : decode cX5_mostAlike 10 = .ok (.if_icmp .ge 61, 3) := by decide +kernel
theorem dX5_mostAlike_13 : decode cX5_mostAlike 13 = .ok (.iconst 1, 1) := by decide +kernel
theorem dX5_mostAlike_14 : decode cX5_mostAlike 14 = .ok (.istore 5, 2) := by decide +kernel
theorem dX5_mostAlike_16 : decode cX5_mostAlike 16 = .ok (.iload 4, 2) := by decide +kernel
theorem dX5_mostAlike_18 : decode cX5_mostAlike 18 = .ok (.iconst 1, 1) := by decide +kernel
theorem dX5_mostAlike_19 : decode cX5_mostAlike 19 = .ok (.iadd, 1) := by decide +kernel
theorem dX5_mostAlike_20 : decode cX5_mostAlike 20 = .ok (.istore 6, 2) := by decide +kernel
theorem dX5_mostAlike_22 : decode cX5_mostAlike 22 = .ok (.iload 6, 2) := by decide +kernel
theorem dX5_mostAlike_24 : decode cX5_mostAlike 24 = .ok (.iload_n 2, 1) := by decide +kernel
theorem dX5_mostAlike_25 : decode cX5_mostAlike 25 = .ok (.if_icmp .ge 33, 3) := by decide +kernel
theorem dX5_mostAlike_28 : decode cX5_mostAlike 28 = .ok (.aload_n 0, 1) := by decide +kernel
theorem dX5_mostAlike_29 : decode cX5_mostAlike 29 = .ok (.getfield 67, 3) := by decide +kernel
theorem dX5_mostAlike_32 : decode cX5_mostAlike 32 = .ok (.iload 6, 2) := by decide +kernel
theorem dX5_mostAlike_34 : decode cX5_mostAlike 34 = .ok (.aaload, 1) := by decide +kernel
theorem dX5_mostAlike_35 : decode cX5_mostAlike 35 = .ok (.iload_n 1, 1) := by decide +kernel
theorem dX5_mostAlike_36 : decode cX5_mostAlike 36 = .ok (.iaload, 1) := by decide +kernel
theorem dX5_mostAlike_37 : decode cX5_mostAlike 37 = .ok (.aload_n 0, 1) := by decide +kernel
theorem dX5_mostAlike_38 : decode cX5_mostAlike 38 = .ok (.getfield 67, 3) := by decide +kernel
theorem dX5_mostAlike_41 : decode cX5_mostAlike 41 = .ok (.iload 4, 2) := by decide +kernel
theorem dX5_mostAlike_43 : decode cX5_mostAlike 43 = .ok (.aaload, 1) := by decide +kernel
theorem dX5_mostAlike_44 : decode cX5_mostAlike 44 = .ok (.iload_n 1, 1) := by decide +kernel
theorem dX5_mostAlike_45 : decode cX5_mostAlike 45 = .ok (.iaload, 1) := by decide +kernel
theorem dX5_mostAlike_46 : decode cX5_mostAlike 46 = .ok (.if_icmp .ne 6, 3) := by decide +kernel
theorem dX5_mostAlike_49 : decode cX5_mostAlike 49 = .ok (.iinc 5 1, 3) := by decide +kernel
theorem dX5_mostAlike_52 : decode cX5_mostAlike 52 = .ok (.iinc 6 1, 3) := by decide +kernel
theorem dX5_mostAlike_55 : decode cX5_mostAlike 55 = .ok (.goto (-33), 3) := by decide +kernel
theorem dX5_mostAlike_58 : decode cX5_mostAlike 58 = .ok (.iload_n 3, 1) := by decide +kernel
theorem dX5_mostAlike_59 : decode cX5_mostAlike 59 = .ok (.iload 5, 2) := by decide +kernel
theorem dX5_mostAlike_61 : decode cX5_mostAlike 61 = .ok (.invokestatic 154, 3) := by decide +kernel
theorem dX5_mostAlike_64 : decode cX5_mostAlike 64 = .ok (.istore_n 3, 1) := by decide +kernel
theorem dX5_mostAlike_65 : decode cX5_mostAlike 65 = .ok (.iinc 4 1, 3) := by decide +kernel
theorem dX5_mostAlike_68 : decode cX5_mostAlike 68 = .ok (.goto (-63), 3) := by decide +kernel
theorem dX5_mostAlike_71 : decode cX5_mostAlike 71 = .ok (.iload_n 3, 1) := by decide +kernel
theorem dX5_mostAlike_72 : decode cX5_mostAlike 72 = .ok (.ireturn, 1) := by decide +kernel
