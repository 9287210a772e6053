theorem dX0_init_0 : decode cX0_init 0 = .ok (.aload_n 0, 1) := by decide +kernel
theorem dX0_init_1 : decode cX0_init 1 = .ok (.invokespecial 3, 3) := by decide +kernel
theorem dX0_init_4 : decode cX0_init 4 = .ok (.aload_n 0, 1) := by decide +kernel
theorem dX0_init_5 : decode cX0_init 5 = .ok (.iconst 5, 1) := by decide +kernel
theorem dX0_init_6 : decode cX0_init 6 = .ok (.newarray .int, 2) := by decide +kernel
theorem dX0_init_8 : decode cX0_init 8 = .ok (.putfield 9, 3) := by decide +kernel
theorem dX0_init_11 : decode cX0_init 11 = .ok (.aload_n 0, 1) := by decide +kernel
theorem dX0_init_12 : decode cX0_init 12 = .ok (.iconst 5, 1) := by decide +kernel
theorem dX0_init_13 : decode cX0_init 13 = .ok (.newarray .int, 2) := by decide +kernel
theorem dX0_init_15 : decode cX0_init 15 = .ok (.putfield 15, 3) := by decide +kernel
theorem dX0_init_18 : decode cX0_init 18 = .ok (.aload_n 0, 1) := by decide +kernel
theorem dX0_init_19 : decode cX0_init 19 = .ok (.iconst 5, 1) := by decide +kernel
theorem dX0_init_20 : decode cX0_init 20 = .ok (.newarray .int, 2) := by decide +kernel
theorem dX0_init_22 : decode cX0_init 22 = .ok (.putfield 18, 3) := by decide +kernel
theorem dX0_init_25 : decode cX0_init 25 = .ok (.aload_n 0, 1) := by decide +kernel
theorem dX0_init_26 : decode cX0_init 26 = .ok (.iconst 5, 1) := by decide +kernel
theorem dX0_init_27 : decode cX0_init 27 = .ok (.newarray .int, 2) := by decide +kernel
theorem dX0_init_29 : decode cX0_init 29 = .ok (.putfield 21, 3) := by decide +kernel
theorem dX0_init_32 : decode cX0_init 32 = .ok (.return_, 1) := by decide +kernel
theorem dX0_has_0 : decode cX0_has 0 = .ok (.iload_n 1, 1) := by decide +kernel
theorem dX0_has_1 : decode cX0_has 1 = .ok (.iconst 0, 1) := by decide +kernel
theorem dX0_has_2 : decode cX0_has 2 = .ok (.aload_n 0, 1) := by decide +kernel
theorem dX0_has_3 : decode cX0_has 3 = .ok (.getfield 24, 3) := by decide +kernel
theorem dX0_has_6 : decode cX0_has 6 = .ok (.iconst 1, 1) := by decide +kernel
theorem dX0_has_7 : decode cX0_has 7 = .ok (.isub, 1) := by decide +kernel
theorem dX0_has_8 : decode cX0_has 8 = .ok (.invokestatic 28, 3) := by decide +kernel
theorem dX0_has_11 : decode cX0_has 11 = .ok (.ireturn, 1) := by decide +kernel
theorem dX0_part_0 : decode cX0_part 0 = .ok (.iload_n 2, 1) := by decide +kernel
theorem dX0_part_1 : decode cX0_part 1 = .ok (.tableswitch 48 0 2 #[27, 34, 41], 27) := by decide +kernel
theorem dX0_part_28 : decode cX0_part 28 = .ok (.aload_n 0, 1) := by decide +kernel
theorem dX0_part_29 : decode cX0_part 29 = .ok (.getfield 9, 3) := by decide +kernel
theorem dX0_part_32 : decode cX0_part 32 = .ok (.iload_n 1, 1) := by decide +kernel
theorem dX0_part_33 : decode cX0_part 33 = .ok (.iaload, 1) := by decide +kernel
theorem dX0_part_34 : decode cX0_part 34 = .ok (.ireturn, 1) := by decide +kernel
theorem dX0_part_35 : decode cX0_part 35 = .ok (.aload_n 0, 1) := by decide +kernel
theorem dX0_part_36 : decode cX0_part 36 = .ok (.getfield 15, 3) := by decide +kernel
theorem dX0_part_39 : decode cX0_part 39 = .ok (.iload_n 1, 1) := by decide +kernel
theorem dX0_part_40 : decode cX0_part 40 = .ok (.iaload, 1) := by decide +kernel
theorem dX0_part_41 : decode cX0_part 41 = .ok (.ireturn, 1) := by decide +kernel
theorem dX0_part_42 : decode cX0_part 42 = .ok (.aload_n 0, 1) := by decide +kernel
theorem dX0_part_43 : decode cX0_part 43 = .ok (.getfield 18, 3) := by decide +kernel
theorem dX0_part_46 : decode cX0_part 46 = .ok (.iload_n 1, 1) := by decide +kernel
theorem dX0_part_47 : decode cX0_part 47 = .ok (.iaload, 1) := by decide +kernel
theorem dX0_part_48 : decode cX0_part 48 = .ok (.ireturn, 1) := by decide +kernel
theorem dX0_part_49 : decode cX0_part 49 = .ok (.aload_n 0, 1) := by decide +kernel
theorem dX0_part_50 : decode cX0_part 50 = .ok (.getfield 21, 3) := by decide +kernel
theorem dX0_part_53 : decode cX0_part 53 = .ok (.iload_n 1, 1) := by decide +kernel
theorem dX0_part_54 : decode cX0_part 54 = .ok (.iaload, 1) := by decide +kernel
theorem dX0_part_55 : decode cX0_part 55 = .ok (.ireturn, 1) := by decide +kernel
theorem dX0_change_0 : decode cX0_change 0 = .ok (.aload_n 0, 1) := by decide +kernel
theorem dX0_change_1 : decode cX0_change 1 = .ok (.iload_n 1, 1) := by decide +kernel
theorem dX0_change_2 : decode cX0_change 2 = .ok (.invokevirtual 32, 3) := by decide +kernel
theorem dX0_change_5 : decode cX0_change 5 = .ok (.ifCond .eq 20, 3) := by decide +kernel
theorem dX0_change_8 : decode cX0_change 8 = .ok (.iload_n 2, 1) := by decide +kernel
theorem dX0_change_9 : decode cX0_change 9 = .ok (.iconst 0, 1) := by decide +kernel
theorem dX0_change_10 : decode cX0_change 10 = .ok (.iconst 3, 1) := by decide +kernel
theorem dX0_change_11 : decode cX0_change 11 = .ok (.invokestatic 28, 3) := by decide +kernel
theorem dX0_change_14 : decode cX0_change 14 = .ok (.ifCond .eq 11, 3) := by decide +kernel
theorem dX0_change_17 : decode cX0_change 17 = .ok (.iload_n 2, 1) := by decide +kernel
theorem dX0_change_18 : decode cX0_change 18 = .ok (.iload_n 3, 1) := by decide +kernel
theorem dX0_change_19 : decode cX0_change 19 = .ok (.invokestatic 36, 3) := by decide +kernel
theorem dX0_change_22 : decode cX0_change 22 = .ok (.ifCond .ne 5, 3) := by decide +kernel
theorem dX0_change_25 : decode cX0_change 25 = .ok (.iconst (-1), 1) := by decide +kernel
theorem dX0_change_26 : decode cX0_change 26 = .ok (.ireturn, 1) := by decide +kernel
theorem dX0_change_27 : decode cX0_change 27 = .ok (.aload_n 0, 1) := by decide +kernel
theorem dX0_change_28 : decode cX0_change 28 = .ok (.iload_n 1, 1) := by decide +kernel
theorem dX0_change_29 : decode cX0_change 29 = .ok (.iload_n 2, 1) := by decide +kernel
theorem dX0_change_30 : decode cX0_change 30 = .ok (.iload_n 3, 1) := by decide +kernel
theorem dX0_change_31 : decode cX0_change 31 = .ok (.invokevirtual 40, 3) := by decide +kernel
theorem dX0_change_34 : decode cX0_change 34 = .ok (.ifCond .ne 6, 3) := by decide +kernel
theorem dX0_change_37 : decode cX0_change 37 = .ok (.bipush (-2), 2) := by decide +kernel
theorem dX0_change_39 : decode cX0_change 39 = .ok (.ireturn, 1) := by decide +kernel
theorem dX0_change_40 : decode cX0_change 40 = .ok (.aload_n 0, 1) := by decide +kernel
theorem dX0_change_41 : decode cX0_change 41 = .ok (.iload_n 1, 1) := by decide +kernel
theorem dX0_change_42 : decode cX0_change 42 = .ok (.iload_n 2, 1) := by decide +kernel
theorem dX0_change_43 : decode cX0_change 43 = .ok (.invokevirtual 43, 3) := by decide +kernel
theorem dX0_change_46 : decode cX0_change 46 = .ok (.istore 4, 2) := by decide +kernel
theorem dX0_change_48 : decode cX0_change 48 = .ok (.aload_n 0, 1) := by decide +kernel
theorem dX0_change_49 : decode cX0_change 49 = .ok (.iload_n 1, 1) := by decide +kernel
theorem dX0_change_50 : decode cX0_change 50 = .ok (.iload_n 2, 1) := by decide +kernel
theorem dX0_change_51 : decode cX0_change 51 = .ok (.iload_n 3, 1) := by decide +kernel
theorem dX0_change_52 : decode cX0_change 52 = .ok (.invokevirtual 47, 3) := by decide +kernel
theorem dX0_change_55 : decode cX0_change 55 = .ok (.iload 4, 2) := by decide +kernel
theorem dX0_change_57 : decode cX0_change 57 = .ok (.ireturn, 1) := by decide +kernel
theorem dX0_set_0 : decode cX0_set 0 = .ok (.iload_n 2, 1) := by decide +kernel
theorem dX0_set_1 : decode cX0_set 1 = .ok (.tableswitch 57 0 2 #[27, 37, 47], 27) := by decide +kernel
theorem dX0_set_28 : decode cX0_set 28 = .ok (.aload_n 0, 1) := by decide +kernel
theorem dX0_set_29 : decode cX0_set 29 = .ok (.getfield 9, 3) := by decide +kernel
theorem dX0_set_32 : decode cX0_set 32 = .ok (.iload_n 1, 1) := by decide +kernel
theorem dX0_set_33 : decode cX0_set 33 = .ok (.iload_n 3, 1) := by decide +kernel
theorem dX0_set_34 : decode cX0_set 34 = .ok (.iastore, 1) := by decide +kernel
theorem dX0_set_35 : decode cX0_set 35 = .ok (.goto 30, 3) := by decide +kernel
theorem dX0_set_38 : decode cX0_set 38 = .ok (.aload_n 0, 1) := by decide +kernel
theorem dX0_set_39 : decode cX0_set 39 = .ok (.getfield 15, 3) := by decide +kernel
theorem dX0_set_42 : decode cX0_set 42 = .ok (.iload_n 1, 1) := by decide +kernel
theorem dX0_set_43 : decode cX0_set 43 = .ok (.iload_n 3, 1) := by decide +kernel
theorem dX0_set_44 : decode cX0_set 44 = .ok (.iastore, 1) := by decide +kernel
theorem dX0_set_45 : decode cX0_set 45 = .ok (.goto 20, 3) := by decide +kernel
theorem dX0_set_48 : decode cX0_set 48 = .ok (.aload_n 0, 1) := by decide +kernel
theorem dX0_set_49 : decode cX0_set 49 = .ok (.getfield 18, 3) := by decide +kernel
theorem dX0_set_52 : decode cX0_set 52 = .ok (.iload_n 1, 1) := by decide +kernel
theorem dX0_set_53 : decode cX0_set 53 = .ok (.iload_n 3, 1) := by decide +kernel
theorem dX0_set_54 : decode cX0_set 54 = .ok (.iastore, 1) := by decide +kernel
theorem dX0_set_55 : decode cX0_set 55 = .ok (.goto 10, 3) := by decide +kernel
theorem dX0_set_58 : decode cX0_set 58 = .ok (.aload_n 0, 1) := by decide +kernel
theorem dX0_set_59 : decode cX0_set 59 = .ok (.getfield 21, 3) := by decide +kernel
theorem dX0_set_62 : decode cX0_set 62 = .ok (.iload_n 1, 1) := by decide +kernel
theorem dX0_set_63 : decode cX0_set 63 = .ok (.iload_n 3, 1) := by decide +kernel
theorem dX0_set_64 : decode cX0_set 64 = .ok (.iastore, 1) := by decide +kernel
theorem dX0_set_65 : decode cX0_set 65 = .ok (.return_, 1) := by decide +kernel
theorem dX0_mayEverBe_0 : decode cX0_mayEverBe 0 = .ok (.iload_n 0, 1) := by decide +kernel
theorem dX0_mayEverBe_1 : decode cX0_mayEverBe 1 = .ok (.tableswitch 50 0 2 #[27, 34, 42], 27) := by decide +kernel
theorem dX0_mayEverBe_28 : decode cX0_mayEverBe 28 = .ok (.iload_n 1, 1) := by decide +kernel
theorem dX0_mayEverBe_29 : decode cX0_mayEverBe 29 = .ok (.iconst 0, 1) := by decide +kernel
theorem dX0_mayEverBe_30 : decode cX0_mayEverBe 30 = .ok (.iconst 3, 1) := by decide +kernel
theorem dX0_mayEverBe_31 : decode cX0_mayEverBe 31 = .ok (.invokestatic 28, 3) := by decide +kernel
theorem dX0_mayEverBe_34 : decode cX0_mayEverBe 34 = .ok (.ireturn, 1) := by decide +kernel
theorem dX0_mayEverBe_35 : decode cX0_mayEverBe 35 = .ok (.iload_n 1, 1) := by decide +kernel
theorem dX0_mayEverBe_36 : decode cX0_mayEverBe 36 = .ok (.iconst 2, 1) := by decide +kernel
theorem dX0_mayEverBe_37 : decode cX0_mayEverBe 37 = .ok (.bipush 12, 2) := by decide +kernel
theorem dX0_mayEverBe_39 : decode cX0_mayEverBe 39 = .ok (.invokestatic 28, 3) := by decide +kernel
theorem dX0_mayEverBe_42 : decode cX0_mayEverBe 42 = .ok (.ireturn, 1) := by decide +kernel
theorem dX0_mayEverBe_43 : decode cX0_mayEverBe 43 = .ok (.iload_n 1, 1) := by decide +kernel
theorem dX0_mayEverBe_44 : decode cX0_mayEverBe 44 = .ok (.iconst 0, 1) := by decide +kernel
theorem dX0_mayEverBe_45 : decode cX0_mayEverBe 45 = .ok (.bipush 11, 2) := by decide +kernel
theorem dX0_mayEverBe_47 : decode cX0_mayEverBe 47 = .ok (.invokestatic 28, 3) := by decide +kernel
theorem dX0_mayEverBe_50 : decode cX0_mayEverBe 50 = .ok (.ireturn, 1) := by decide +kernel
theorem dX0_mayEverBe_51 : decode cX0_mayEverBe 51 = .ok (.iload_n 1, 1) := by decide +kernel
theorem dX0_mayEverBe_52 : decode cX0_mayEverBe 52 = .ok (.iconst 0, 1) := by decide +kernel
theorem dX0_mayEverBe_53 : decode cX0_mayEverBe 53 = .ok (.bipush 12, 2) := by decide +kernel
theorem dX0_mayEverBe_55 : decode cX0_mayEverBe 55 = .ok (.invokestatic 28, 3) := by decide +kernel
theorem dX0_mayEverBe_58 : decode cX0_mayEverBe 58 = .ok (.ireturn, 1) := by decide +kernel
theorem dX0_mayBe_0 : decode cX0_mayBe 0 = .ok (.iload_n 2, 1) := by decide +kernel
theorem dX0_mayBe_1 : decode cX0_mayBe 1 = .ok (.tableswitch 102 1 3 #[27, 64, 80], 27) := by decide +kernel
theorem dX0_mayBe_28 : decode cX0_mayBe 28 = .ok (.iload_n 3, 1) := by decide +kernel
theorem dX0_mayBe_29 : decode cX0_mayBe 29 = .ok (.aload_n 0, 1) := by decide +kernel
theorem dX0_mayBe_30 : decode cX0_mayBe 30 = .ok (.getfield 18, 3) := by decide +kernel
theorem dX0_mayBe_33 : decode cX0_mayBe 33 = .ok (.iload_n 1, 1) := by decide +kernel
theorem dX0_mayBe_34 : decode cX0_mayBe 34 = .ok (.iaload, 1) := by decide +kernel
theorem dX0_mayBe_35 : decode cX0_mayBe 35 = .ok (.if_icmp .le 28, 3) := by decide +kernel
theorem dX0_mayBe_38 : decode cX0_mayBe 38 = .ok (.aload_n 0, 1) := by decide +kernel
theorem dX0_mayBe_39 : decode cX0_mayBe 39 = .ok (.getfield 21, 3) := by decide +kernel
theorem dX0_mayBe_42 : decode cX0_mayBe 42 = .ok (.iload_n 1, 1) := by decide +kernel
theorem dX0_mayBe_43 : decode cX0_mayBe 43 = .ok (.iaload, 1) := by decide +kernel
theorem dX0_mayBe_44 : decode cX0_mayBe 44 = .ok (.bipush 12, 2) := by decide +kernel
theorem dX0_mayBe_46 : decode cX0_mayBe 46 = .ok (.if_icmp .eq 13, 3) := by decide +kernel
theorem dX0_mayBe_49 : decode cX0_mayBe 49 = .ok (.iload_n 3, 1) := by decide +kernel
theorem dX0_mayBe_50 : decode cX0_mayBe 50 = .ok (.aload_n 0, 1) := by decide +kernel
theorem dX0_mayBe_51 : decode cX0_mayBe 51 = .ok (.getfield 21, 3) := by decide +kernel
theorem dX0_mayBe_54 : decode cX0_mayBe 54 = .ok (.iload_n 1, 1) := by decide +kernel
theorem dX0_mayBe_55 : decode cX0_mayBe 55 = .ok (.iaload, 1) := by decide +kernel
theorem dX0_mayBe_56 : decode cX0_mayBe 56 = .ok (.if_icmp .le 7, 3) := by decide +kernel
theorem dX0_mayBe_59 : decode cX0_mayBe 59 = .ok (.iconst 1, 1) := by decide +kernel
theorem dX0_mayBe_60 : decode cX0_mayBe 60 = .ok (.goto 4, 3) := by decide +kernel
theorem dX0_mayBe_63 : decode cX0_mayBe 63 = .ok (.iconst 0, 1) := by decide +kernel
theorem dX0_mayBe_64 : decode cX0_mayBe 64 = .ok (.ireturn, 1) := by decide +kernel
theorem dX0_mayBe_65 : decode cX0_mayBe 65 = .ok (.iload_n 3, 1) := by decide +kernel
theorem dX0_mayBe_66 : decode cX0_mayBe 66 = .ok (.aload_n 0, 1) := by decide +kernel
theorem dX0_mayBe_67 : decode cX0_mayBe 67 = .ok (.getfield 15, 3) := by decide +kernel
theorem dX0_mayBe_70 : decode cX0_mayBe 70 = .ok (.iload_n 1, 1) := by decide +kernel
theorem dX0_mayBe_71 : decode cX0_mayBe 71 = .ok (.iaload, 1) := by decide +kernel
theorem dX0_mayBe_72 : decode cX0_mayBe 72 = .ok (.if_icmp .ge 7, 3) := by decide +kernel
theorem dX0_mayBe_75 : decode cX0_mayBe 75 = .ok (.iconst 1, 1) := by decide +kernel
theorem dX0_mayBe_76 : decode cX0_mayBe 76 = .ok (.goto 4, 3) := by decide +kernel
theorem dX0_mayBe_79 : decode cX0_mayBe 79 = .ok (.iconst 0, 1) := by decide +kernel
theorem dX0_mayBe_80 : decode cX0_mayBe 80 = .ok (.ireturn, 1) := by decide +kernel
theorem dX0_mayBe_81 : decode cX0_mayBe 81 = .ok (.iload_n 3, 1) := by decide +kernel
theorem dX0_mayBe_82 : decode cX0_mayBe 82 = .ok (.bipush 12, 2) := by decide +kernel
theorem dX0_mayBe_84 : decode cX0_mayBe 84 = .ok (.if_icmp .eq 13, 3) := by decide +kernel
theorem dX0_mayBe_87 : decode cX0_mayBe 87 = .ok (.iload_n 3, 1) := by decide +kernel
theorem dX0_mayBe_88 : decode cX0_mayBe 88 = .ok (.aload_n 0, 1) := by decide +kernel
theorem dX0_mayBe_89 : decode cX0_mayBe 89 = .ok (.getfield 15, 3) := by decide +kernel
theorem dX0_mayBe_92 : decode cX0_mayBe 92 = .ok (.iload_n 1, 1) := by decide +kernel
theorem dX0_mayBe_93 : decode cX0_mayBe 93 = .ok (.iaload, 1) := by decide +kernel
theorem dX0_mayBe_94 : decode cX0_mayBe 94 = .ok (.if_icmp .ge 7, 3) := by decide +kernel
theorem dX0_mayBe_97 : decode cX0_mayBe 97 = .ok (.iconst 1, 1) := by decide +kernel
theorem dX0_mayBe_98 : decode cX0_mayBe 98 = .ok (.goto 4, 3) := by decide +kernel
theorem dX0_mayBe_101 : decode cX0_mayBe 101 = .ok (.iconst 0, 1) := by decide +kernel
theorem dX0_mayBe_102 : decode cX0_mayBe 102 = .ok (.ireturn, 1) := by decide +kernel
theorem dX0_mayBe_103 : decode cX0_mayBe 103 = .ok (.iconst 1, 1) := by decide +kernel
theorem dX0_mayBe_104 : decode cX0_mayBe 104 = .ok (.ireturn, 1) := by decide +kernel
theorem dX0_append_0 : decode cX0_append 0 = .ok (.aload_n 0, 1) := by decide +kernel
theorem dX0_append_1 : decode cX0_append 1 = .ok (.getfield 24, 3) := by decide +kernel
theorem dX0_append_4 : decode cX0_append 4 = .ok (.iconst 5, 1) := by decide +kernel
theorem dX0_append_5 : decode cX0_append 5 = .ok (.if_icmp .lt 4, 3) := by decide +kernel
theorem dX0_append_8 : decode cX0_append 8 = .ok (.return_, 1) := by decide +kernel
theorem dX0_append_9 : decode cX0_append 9 = .ok (.aload_n 0, 1) := by decide +kernel
theorem dX0_append_10 : decode cX0_append 10 = .ok (.getfield 9, 3) := by decide +kernel
theorem dX0_append_13 : decode cX0_append 13 = .ok (.aload_n 0, 1) := by decide +kernel
theorem dX0_append_14 : decode cX0_append 14 = .ok (.getfield 24, 3) := by decide +kernel
theorem dX0_append_17 : decode cX0_append 17 = .ok (.iload_n 1, 1) := by decide +kernel
theorem dX0_append_18 : decode cX0_append 18 = .ok (.iastore, 1) := by decide +kernel
theorem dX0_append_19 : decode cX0_append 19 = .ok (.aload_n 0, 1) := by decide +kernel
theorem dX0_append_20 : decode cX0_append 20 = .ok (.getfield 15, 3) := by decide +kernel
theorem dX0_append_23 : decode cX0_append 23 = .ok (.aload_n 0, 1) := by decide +kernel
theorem dX0_append_24 : decode cX0_append 24 = .ok (.getfield 24, 3) := by decide +kernel
theorem dX0_append_27 : decode cX0_append 27 = .ok (.iload_n 2, 1) := by decide +kernel
theorem dX0_append_28 : decode cX0_append 28 = .ok (.iastore, 1) := by decide +kernel
theorem dX0_append_29 : decode cX0_append 29 = .ok (.aload_n 0, 1) := by decide +kernel
theorem dX0_append_30 : decode cX0_append 30 = .ok (.getfield 18, 3) := by decide +kernel
theorem dX0_append_33 : decode cX0_append 33 = .ok (.aload_n 0, 1) := by decide +kernel
theorem dX0_append_34 : decode cX0_append 34 = .ok (.getfield 24, 3) := by decide +kernel
theorem dX0_append_37 : decode cX0_append 37 = .ok (.iload_n 3, 1) := by decide +kernel
theorem dX0_append_38 : decode cX0_append 38 = .ok (.iastore, 1) := by decide +kernel
theorem dX0_append_39 : decode cX0_append 39 = .ok (.aload_n 0, 1) := by decide +kernel
theorem dX0_append_40 : decode cX0_append 40 = .ok (.getfield 21, 3) := by decide +kernel
theorem dX0_append_43 : decode cX0_append 43 = .ok (.aload_n 0, 1) := by decide +kernel
theorem dX0_append_44 : decode cX0_append 44 = .ok (.getfield 24, 3) := by decide +kernel
theorem dX0_append_47 : decode cX0_append 47 = .ok (.iload 4, 2) := by decide +kernel
theorem dX0_append_49 : decode cX0_append 49 = .ok (.iastore, 1) := by decide +kernel
theorem dX0_append_50 : decode cX0_append 50 = .ok (.aload_n 0, 1) := by decide +kernel
theorem dX0_append_51 : decode cX0_append 51 = .ok (.dup, 1) := by decide +kernel
theorem dX0_append_52 : decode cX0_append 52 = .ok (.getfield 24, 3) := by decide +kernel
theorem dX0_append_55 : decode cX0_append 55 = .ok (.iconst 1, 1) := by decide +kernel
theorem dX0_append_56 : decode cX0_append 56 = .ok (.iadd, 1) := by decide +kernel
theorem dX0_append_57 : decode cX0_append 57 = .ok (.putfield 24, 3) := by decide +kernel
theorem dX0_append_60 : decode cX0_append 60 = .ok (.return_, 1) := by decide +kernel
theorem dX0_copyOf_0 : decode cX0_copyOf 0 = .ok (.aload_n 0, 1) := by decide +kernel
theorem dX0_copyOf_1 : decode cX0_copyOf 1 = .ok (.aload_n 1, 1) := by decide +kernel
theorem dX0_copyOf_2 : decode cX0_copyOf 2 = .ok (.getfield 24, 3) := by decide +kernel
theorem dX0_copyOf_5 : decode cX0_copyOf 5 = .ok (.putfield 24, 3) := by decide +kernel
theorem dX0_copyOf_8 : decode cX0_copyOf 8 = .ok (.aload_n 0, 1) := by decide +kernel
theorem dX0_copyOf_9 : decode cX0_copyOf 9 = .ok (.aload_n 1, 1) := by decide +kernel
theorem dX0_copyOf_10 : decode cX0_copyOf 10 = .ok (.getfield 51, 3) := by decide +kernel
theorem dX0_copyOf_13 : decode cX0_copyOf 13 = .ok (.putfield 51, 3) := by decide +kernel
theorem dX0_copyOf_16 : decode cX0_copyOf 16 = .ok (.aload_n 0, 1) := by decide +kernel
theorem dX0_copyOf_17 : decode cX0_copyOf 17 = .ok (.iconst 0, 1) := by decide +kernel
theorem dX0_copyOf_18 : decode cX0_copyOf 18 = .ok (.putfield 54, 3) := by decide +kernel
theorem dX0_copyOf_21 : decode cX0_copyOf 21 = .ok (.iconst 0, 1) := by decide +kernel
theorem dX0_copyOf_22 : decode cX0_copyOf 22 = .ok (.istore_n 2, 1) := by decide +kernel
theorem dX0_copyOf_23 : decode cX0_copyOf 23 = .ok (.iload_n 2, 1) := by decide +kernel
theorem dX0_copyOf_24 : decode cX0_copyOf 24 = .ok (.aload_n 0, 1) := by decide +kernel
theorem dX0_copyOf_25 : decode cX0_copyOf 25 = .ok (.getfield 24, 3) := by decide +kernel
theorem dX0_copyOf_28 : decode cX0_copyOf 28 = .ok (.if_icmp .ge 57, 3) := by decide +kernel
theorem dX0_copyOf_31 : decode cX0_copyOf 31 = .ok (.aload_n 0, 1) := by decide +kernel
theorem dX0_copyOf_32 : decode cX0_copyOf 32 = .ok (.getfield 9, 3) := by decide +kernel
theorem dX0_copyOf_35 : decode cX0_copyOf 35 = .ok (.iload_n 2, 1) := by decide +kernel
theorem dX0_copyOf_36 : decode cX0_copyOf 36 = .ok (.aload_n 1, 1) := by decide +kernel
theorem dX0_copyOf_37 : decode cX0_copyOf 37 = .ok (.getfield 9, 3) := by decide +kernel
theorem dX0_copyOf_40 : decode cX0_copyOf 40 = .ok (.iload_n 2, 1) := by decide +kernel
theorem dX0_copyOf_41 : decode cX0_copyOf 41 = .ok (.iaload, 1) := by decide +kernel
theorem dX0_copyOf_42 : decode cX0_copyOf 42 = .ok (.iastore, 1) := by decide +kernel
theorem dX0_copyOf_43 : decode cX0_copyOf 43 = .ok (.aload_n 0, 1) := by decide +kernel
theorem dX0_copyOf_44 : decode cX0_copyOf 44 = .ok (.getfield 15, 3) := by decide +kernel
theorem dX0_copyOf_47 : decode cX0_copyOf 47 = .ok (.iload_n 2, 1) := by decide +kernel
theorem dX0_copyOf_48 : decode cX0_copyOf 48 = .ok (.aload_n 1, 1) := by decide +kernel
theorem dX0_copyOf_49 : decode cX0_copyOf 49 = .ok (.getfield 15, 3) := by decide +kernel
theorem dX0_copyOf_52 : decode cX0_copyOf 52 = .ok (.iload_n 2, 1) := by decide +kernel
theorem dX0_copyOf_53 : decode cX0_copyOf 53 = .ok (.iaload, 1) := by decide +kernel
theorem dX0_copyOf_54 : decode cX0_copyOf 54 = .ok (.iastore, 1) := by decide +kernel
theorem dX0_copyOf_55 : decode cX0_copyOf 55 = .ok (.aload_n 0, 1) := by decide +kernel
theorem dX0_copyOf_56 : decode cX0_copyOf 56 = .ok (.getfield 18, 3) := by decide +kernel
theorem dX0_copyOf_59 : decode cX0_copyOf 59 = .ok (.iload_n 2, 1) := by decide +kernel
theorem dX0_copyOf_60 : decode cX0_copyOf 60 = .ok (.aload_n 1, 1) := by decide +kernel
theorem dX0_copyOf_61 : decode cX0_copyOf 61 = .ok (.getfield 18, 3) := by decide +kernel
theorem dX0_copyOf_64 : decode cX0_copyOf 64 = .ok (.iload_n 2, 1) := by decide +kernel
theorem dX0_copyOf_65 : decode cX0_copyOf 65 = .ok (.iaload, 1) := by decide +kernel
theorem dX0_copyOf_66 : decode cX0_copyOf 66 = .ok (.iastore, 1) := by decide +kernel
theorem dX0_copyOf_67 : decode cX0_copyOf 67 = .ok (.aload_n 0, 1) := by decide +kernel
theorem dX0_copyOf_68 : decode cX0_copyOf 68 = .ok (.getfield 21, 3) := by decide +kernel
theorem dX0_copyOf_71 : decode cX0_copyOf 71 = .ok (.iload_n 2, 1) := by decide +kernel
theorem dX0_copyOf_72 : decode cX0_copyOf 72 = .ok (.aload_n 1, 1) := by decide +kernel
theorem dX0_copyOf_73 : decode cX0_copyOf 73 = .ok (.getfield 21, 3) := by decide +kernel
theorem dX0_copyOf_76 : decode cX0_copyOf 76 = .ok (.iload_n 2, 1) := by decide +kernel
theorem dX0_copyOf_77 : decode cX0_copyOf 77 = .ok (.iaload, 1) := by decide +kernel
theorem dX0_copyOf_78 : decode cX0_copyOf 78 = .ok (.iastore, 1) := by decide +kernel
theorem dX0_copyOf_79 : decode cX0_copyOf 79 = .ok (.iinc 2 1, 3) := by decide +kernel
theorem dX0_copyOf_82 : decode cX0_copyOf 82 = .ok (.goto (-59), 3) := by decide +kernel
theorem dX0_copyOf_85 : decode cX0_copyOf 85 = .ok (.return_, 1) := by decide +kernel
theorem dX0_exchange_0 : decode cX0_exchange 0 = .ok (.aload_n 0, 1) := by decide +kernel
theorem dX0_exchange_1 : decode cX0_exchange 1 = .ok (.getfield 9, 3) := by decide +kernel
theorem dX0_exchange_4 : decode cX0_exchange 4 = .ok (.iload_n 1, 1) := by decide +kernel
theorem dX0_exchange_5 : decode cX0_exchange 5 = .ok (.iload_n 2, 1) := by decide +kernel
theorem dX0_exchange_6 : decode cX0_exchange 6 = .ok (.invokestatic 57, 3) := by decide +kernel
theorem dX0_exchange_9 : decode cX0_exchange 9 = .ok (.aload_n 0, 1) := by decide +kernel
theorem dX0_exchange_10 : decode cX0_exchange 10 = .ok (.getfield 15, 3) := by decide +kernel
theorem dX0_exchange_13 : decode cX0_exchange 13 = .ok (.iload_n 1, 1) := by decide +kernel
theorem dX0_exchange_14 : decode cX0_exchange 14 = .ok (.iload_n 2, 1) := by decide +kernel
theorem dX0_exchange_15 : decode cX0_exchange 15 = .ok (.invokestatic 57, 3) := by decide +kernel
theorem dX0_exchange_18 : decode cX0_exchange 18 = .ok (.aload_n 0, 1) := by decide +kernel
theorem dX0_exchange_19 : decode cX0_exchange 19 = .ok (.getfield 18, 3) := by decide +kernel
theorem dX0_exchange_22 : decode cX0_exchange 22 = .ok (.iload_n 1, 1) := by decide +kernel
theorem dX0_exchange_23 : decode cX0_exchange 23 = .ok (.iload_n 2, 1) := by decide +kernel
theorem dX0_exchange_24 : decode cX0_exchange 24 = .ok (.invokestatic 57, 3) := by decide +kernel
theorem dX0_exchange_27 : decode cX0_exchange 27 = .ok (.aload_n 0, 1) := by decide +kernel
theorem dX0_exchange_28 : decode cX0_exchange 28 = .ok (.getfield 21, 3) := by decide +kernel
theorem dX0_exchange_31 : decode cX0_exchange 31 = .ok (.iload_n 1, 1) := by decide +kernel
theorem dX0_exchange_32 : decode cX0_exchange 32 = .ok (.iload_n 2, 1) := by decide +kernel
theorem dX0_exchange_33 : decode cX0_exchange 33 = .ok (.invokestatic 57, 3) := by decide +kernel
theorem dX0_exchange_36 : decode cX0_exchange 36 = .ok (.return_, 1) := by decide +kernel
theorem dX0_exchangeIn_0 : decode cX0_exchangeIn 0 = .ok (.aload_n 0, 1) := by decide +kernel
theorem dX0_exchangeIn_1 : decode cX0_exchangeIn 1 = .ok (.iload_n 1, 1) := by decide +kernel
theorem dX0_exchangeIn_2 : decode cX0_exchangeIn 2 = .ok (.iaload, 1) := by decide +kernel
theorem dX0_exchangeIn_3 : decode cX0_exchangeIn 3 = .ok (.istore_n 3, 1) := by decide +kernel
theorem dX0_exchangeIn_4 : decode cX0_exchangeIn 4 = .ok (.aload_n 0, 1) := by decide +kernel
theorem dX0_exchangeIn_5 : decode cX0_exchangeIn 5 = .ok (.iload_n 1, 1) := by decide +kernel
theorem dX0_exchangeIn_6 : decode cX0_exchangeIn 6 = .ok (.aload_n 0, 1) := by decide +kernel
theorem dX0_exchangeIn_7 : decode cX0_exchangeIn 7 = .ok (.iload_n 2, 1) := by decide +kernel
theorem dX0_exchangeIn_8 : decode cX0_exchangeIn 8 = .ok (.iaload, 1) := by decide +kernel
theorem dX0_exchangeIn_9 : decode cX0_exchangeIn 9 = .ok (.iastore, 1) := by decide +kernel
theorem dX0_exchangeIn_10 : decode cX0_exchangeIn 10 = .ok (.aload_n 0, 1) := by decide +kernel
theorem dX0_exchangeIn_11 : decode cX0_exchangeIn 11 = .ok (.iload_n 2, 1) := by decide +kernel
theorem dX0_exchangeIn_12 : decode cX0_exchangeIn 12 = .ok (.iload_n 3, 1) := by decide +kernel
theorem dX0_exchangeIn_13 : decode cX0_exchangeIn 13 = .ok (.iastore, 1) := by decide +kernel
theorem dX0_exchangeIn_14 : decode cX0_exchangeIn 14 = .ok (.return_, 1) := by decide +kernel
theorem dX0_nextDigit_0 : decode cX0_nextDigit 0 = .ok (.aload_n 0, 1) := by decide +kernel
theorem dX0_nextDigit_1 : decode cX0_nextDigit 1 = .ok (.getfield 18, 3) := by decide +kernel
theorem dX0_nextDigit_4 : decode cX0_nextDigit 4 = .ok (.iload_n 1, 1) := by decide +kernel
theorem dX0_nextDigit_5 : decode cX0_nextDigit 5 = .ok (.iaload, 1) := by decide +kernel
theorem dX0_nextDigit_6 : decode cX0_nextDigit 6 = .ok (.istore_n 2, 1) := by decide +kernel
theorem dX0_nextDigit_7 : decode cX0_nextDigit 7 = .ok (.aload_n 0, 1) := by decide +kernel
theorem dX0_nextDigit_8 : decode cX0_nextDigit 8 = .ok (.getfield 9, 3) := by decide +kernel
theorem dX0_nextDigit_11 : decode cX0_nextDigit 11 = .ok (.iload_n 1, 1) := by decide +kernel
theorem dX0_nextDigit_12 : decode cX0_nextDigit 12 = .ok (.iaload, 1) := by decide +kernel
theorem dX0_nextDigit_13 : decode cX0_nextDigit 13 = .ok (.lookupswitch 76 #[(0, 27), (1, 47)], 27) := by decide +kernel
theorem dX0_nextDigit_40 : decode cX0_nextDigit 40 = .ok (.iload_n 2, 1) := by decide +kernel
theorem dX0_nextDigit_41 : decode cX0_nextDigit 41 = .ok (.iconst 1, 1) := by decide +kernel
theorem dX0_nextDigit_42 : decode cX0_nextDigit 42 = .ok (.iadd, 1) := by decide +kernel
theorem dX0_nextDigit_43 : decode cX0_nextDigit 43 = .ok (.aload_n 0, 1) := by decide +kernel
theorem dX0_nextDigit_44 : decode cX0_nextDigit 44 = .ok (.getfield 15, 3) := by decide +kernel
theorem dX0_nextDigit_47 : decode cX0_nextDigit 47 = .ok (.iload_n 1, 1) := by decide +kernel
theorem dX0_nextDigit_48 : decode cX0_nextDigit 48 = .ok (.iaload, 1) := by decide +kernel
theorem dX0_nextDigit_49 : decode cX0_nextDigit 49 = .ok (.if_icmp .ge 9, 3) := by decide +kernel
theorem dX0_nextDigit_52 : decode cX0_nextDigit 52 = .ok (.iload_n 2, 1) := by decide +kernel
theorem dX0_nextDigit_53 : decode cX0_nextDigit 53 = .ok (.iconst 1, 1) := by decide +kernel
theorem dX0_nextDigit_54 : decode cX0_nextDigit 54 = .ok (.iadd, 1) := by decide +kernel
theorem dX0_nextDigit_55 : decode cX0_nextDigit 55 = .ok (.goto 4, 3) := by decide +kernel
theorem dX0_nextDigit_58 : decode cX0_nextDigit 58 = .ok (.iconst 0, 1) := by decide +kernel
theorem dX0_nextDigit_59 : decode cX0_nextDigit 59 = .ok (.ireturn, 1) := by decide +kernel
theorem dX0_nextDigit_60 : decode cX0_nextDigit 60 = .ok (.iload_n 2, 1) := by decide +kernel
theorem dX0_nextDigit_61 : decode cX0_nextDigit 61 = .ok (.iconst 2, 1) := by decide +kernel
theorem dX0_nextDigit_62 : decode cX0_nextDigit 62 = .ok (.iadd, 1) := by decide +kernel
theorem dX0_nextDigit_63 : decode cX0_nextDigit 63 = .ok (.aload_n 0, 1) := by decide +kernel
theorem dX0_nextDigit_64 : decode cX0_nextDigit 64 = .ok (.getfield 15, 3) := by decide +kernel
theorem dX0_nextDigit_67 : decode cX0_nextDigit 67 = .ok (.iload_n 1, 1) := by decide +kernel
theorem dX0_nextDigit_68 : decode cX0_nextDigit 68 = .ok (.iaload, 1) := by decide +kernel
theorem dX0_nextDigit_69 : decode cX0_nextDigit 69 = .ok (.if_icmp .ge 9, 3) := by decide +kernel
theorem dX0_nextDigit_72 : decode cX0_nextDigit 72 = .ok (.iload_n 2, 1) := by decide +kernel
theorem dX0_nextDigit_73 : decode cX0_nextDigit 73 = .ok (.iconst 2, 1) := by decide +kernel
theorem dX0_nextDigit_74 : decode cX0_nextDigit 74 = .ok (.iadd, 1) := by decide +kernel
theorem dX0_nextDigit_75 : decode cX0_nextDigit 75 = .ok (.goto 13, 3) := by decide +kernel
theorem dX0_nextDigit_78 : decode cX0_nextDigit 78 = .ok (.iload_n 2, 1) := by decide +kernel
theorem dX0_nextDigit_79 : decode cX0_nextDigit 79 = .ok (.iconst 2, 1) := by decide +kernel
theorem dX0_nextDigit_80 : decode cX0_nextDigit 80 = .ok (.iadd, 1) := by decide +kernel
theorem dX0_nextDigit_81 : decode cX0_nextDigit 81 = .ok (.aload_n 0, 1) := by decide +kernel
theorem dX0_nextDigit_82 : decode cX0_nextDigit 82 = .ok (.getfield 15, 3) := by decide +kernel
theorem dX0_nextDigit_85 : decode cX0_nextDigit 85 = .ok (.iload_n 1, 1) := by decide +kernel
theorem dX0_nextDigit_86 : decode cX0_nextDigit 86 = .ok (.iaload, 1) := by decide +kernel
theorem dX0_nextDigit_87 : decode cX0_nextDigit 87 = .ok (.isub, 1) := by decide +kernel
theorem dX0_nextDigit_88 : decode cX0_nextDigit 88 = .ok (.ireturn, 1) := by decide +kernel
theorem dX0_nextDigit_89 : decode cX0_nextDigit 89 = .ok (.iload_n 2, 1) := by decide +kernel
theorem dX0_nextDigit_90 : decode cX0_nextDigit 90 = .ok (.ifCond .le 9, 3) := by decide +kernel
theorem dX0_nextDigit_93 : decode cX0_nextDigit 93 = .ok (.iload_n 2, 1) := by decide +kernel
theorem dX0_nextDigit_94 : decode cX0_nextDigit 94 = .ok (.iconst 1, 1) := by decide +kernel
theorem dX0_nextDigit_95 : decode cX0_nextDigit 95 = .ok (.isub, 1) := by decide +kernel
theorem dX0_nextDigit_96 : decode cX0_nextDigit 96 = .ok (.goto 11, 3) := by decide +kernel
theorem dX0_nextDigit_99 : decode cX0_nextDigit 99 = .ok (.aload_n 0, 1) := by decide +kernel
theorem dX0_nextDigit_100 : decode cX0_nextDigit 100 = .ok (.getfield 15, 3) := by decide +kernel
theorem dX0_nextDigit_103 : decode cX0_nextDigit 103 = .ok (.iload_n 1, 1) := by decide +kernel
theorem dX0_nextDigit_104 : decode cX0_nextDigit 104 = .ok (.iaload, 1) := by decide +kernel
theorem dX0_nextDigit_105 : decode cX0_nextDigit 105 = .ok (.iconst 1, 1) := by decide +kernel
theorem dX0_nextDigit_106 : decode cX0_nextDigit 106 = .ok (.isub, 1) := by decide +kernel
theorem dX0_nextDigit_107 : decode cX0_nextDigit 107 = .ok (.ireturn, 1) := by decide +kernel
theorem dX0_wouldCarry_0 : decode cX0_wouldCarry 0 = .ok (.aload_n 0, 1) := by decide +kernel
theorem dX0_wouldCarry_1 : decode cX0_wouldCarry 1 = .ok (.getfield 18, 3) := by decide +kernel
theorem dX0_wouldCarry_4 : decode cX0_wouldCarry 4 = .ok (.iload_n 1, 1) := by decide +kernel
theorem dX0_wouldCarry_5 : decode cX0_wouldCarry 5 = .ok (.iaload, 1) := by decide +kernel
theorem dX0_wouldCarry_6 : decode cX0_wouldCarry 6 = .ok (.istore_n 2, 1) := by decide +kernel
theorem dX0_wouldCarry_7 : decode cX0_wouldCarry 7 = .ok (.iload_n 2, 1) := by decide +kernel
theorem dX0_wouldCarry_8 : decode cX0_wouldCarry 8 = .ok (.aload_n 0, 1) := by decide +kernel
theorem dX0_wouldCarry_9 : decode cX0_wouldCarry 9 = .ok (.getfield 21, 3) := by decide +kernel
theorem dX0_wouldCarry_12 : decode cX0_wouldCarry 12 = .ok (.iload_n 1, 1) := by decide +kernel
theorem dX0_wouldCarry_13 : decode cX0_wouldCarry 13 = .ok (.iaload, 1) := by decide +kernel
theorem dX0_wouldCarry_14 : decode cX0_wouldCarry 14 = .ok (.if_icmp .ne 5, 3) := by decide +kernel
theorem dX0_wouldCarry_17 : decode cX0_wouldCarry 17 = .ok (.iconst 0, 1) := by decide +kernel
theorem dX0_wouldCarry_18 : decode cX0_wouldCarry 18 = .ok (.ireturn, 1) := by decide +kernel
theorem dX0_wouldCarry_19 : decode cX0_wouldCarry 19 = .ok (.aload_n 0, 1) := by decide +kernel
theorem dX0_wouldCarry_20 : decode cX0_wouldCarry 20 = .ok (.getfield 9, 3) := by decide +kernel
theorem dX0_wouldCarry_23 : decode cX0_wouldCarry 23 = .ok (.iload_n 1, 1) := by decide +kernel
theorem dX0_wouldCarry_24 : decode cX0_wouldCarry 24 = .ok (.iaload, 1) := by decide +kernel
theorem dX0_wouldCarry_25 : decode cX0_wouldCarry 25 = .ok (.lookupswitch 55 #[(1, 27), (2, 45)], 27) := by decide +kernel
theorem dX0_wouldCarry_52 : decode cX0_wouldCarry 52 = .ok (.iload_n 2, 1) := by decide +kernel
theorem dX0_wouldCarry_53 : decode cX0_wouldCarry 53 = .ok (.aload_n 0, 1) := by decide +kernel
theorem dX0_wouldCarry_54 : decode cX0_wouldCarry 54 = .ok (.getfield 15, 3) := by decide +kernel
theorem dX0_wouldCarry_57 : decode cX0_wouldCarry 57 = .ok (.iload_n 1, 1) := by decide +kernel
theorem dX0_wouldCarry_58 : decode cX0_wouldCarry 58 = .ok (.iaload, 1) := by decide +kernel
theorem dX0_wouldCarry_59 : decode cX0_wouldCarry 59 = .ok (.iconst 2, 1) := by decide +kernel
theorem dX0_wouldCarry_60 : decode cX0_wouldCarry 60 = .ok (.isub, 1) := by decide +kernel
theorem dX0_wouldCarry_61 : decode cX0_wouldCarry 61 = .ok (.if_icmp .lt 7, 3) := by decide +kernel
theorem dX0_wouldCarry_64 : decode cX0_wouldCarry 64 = .ok (.iconst 1, 1) := by decide +kernel
theorem dX0_wouldCarry_65 : decode cX0_wouldCarry 65 = .ok (.goto 4, 3) := by decide +kernel
theorem dX0_wouldCarry_68 : decode cX0_wouldCarry 68 = .ok (.iconst 0, 1) := by decide +kernel
theorem dX0_wouldCarry_69 : decode cX0_wouldCarry 69 = .ok (.ireturn, 1) := by decide +kernel
theorem dX0_wouldCarry_70 : decode cX0_wouldCarry 70 = .ok (.iload_n 2, 1) := by decide +kernel
theorem dX0_wouldCarry_71 : decode cX0_wouldCarry 71 = .ok (.ifCond .ne 7, 3) := by decide +kernel
theorem dX0_wouldCarry_74 : decode cX0_wouldCarry 74 = .ok (.iconst 1, 1) := by decide +kernel
theorem dX0_wouldCarry_75 : decode cX0_wouldCarry 75 = .ok (.goto 4, 3) := by decide +kernel
theorem dX0_wouldCarry_78 : decode cX0_wouldCarry 78 = .ok (.iconst 0, 1) := by decide +kernel
theorem dX0_wouldCarry_79 : decode cX0_wouldCarry 79 = .ok (.ireturn, 1) := by decide +kernel
theorem dX0_wouldCarry_80 : decode cX0_wouldCarry 80 = .ok (.iload_n 2, 1) := by decide +kernel
theorem dX0_wouldCarry_81 : decode cX0_wouldCarry 81 = .ok (.aload_n 0, 1) := by decide +kernel
theorem dX0_wouldCarry_82 : decode cX0_wouldCarry 82 = .ok (.getfield 15, 3) := by decide +kernel
theorem dX0_wouldCarry_85 : decode cX0_wouldCarry 85 = .ok (.iload_n 1, 1) := by decide +kernel
theorem dX0_wouldCarry_86 : decode cX0_wouldCarry 86 = .ok (.iaload, 1) := by decide +kernel
theorem dX0_wouldCarry_87 : decode cX0_wouldCarry 87 = .ok (.iconst 1, 1) := by decide +kernel
theorem dX0_wouldCarry_88 : decode cX0_wouldCarry 88 = .ok (.isub, 1) := by decide +kernel
theorem dX0_wouldCarry_89 : decode cX0_wouldCarry 89 = .ok (.if_icmp .ne 7, 3) := by decide +kernel
theorem dX0_wouldCarry_92 : decode cX0_wouldCarry 92 = .ok (.iconst 1, 1) := by decide +kernel
theorem dX0_wouldCarry_93 : decode cX0_wouldCarry 93 = .ok (.goto 4, 3) := by decide +kernel
theorem dX0_wouldCarry_96 : decode cX0_wouldCarry 96 = .ok (.iconst 0, 1) := by decide +kernel
theorem dX0_wouldCarry_97 : decode cX0_wouldCarry 97 = .ok (.ireturn, 1) := by decide +kernel
theorem dX0_turnFrom_0 : decode cX0_turnFrom 0 = .ok (.iconst 1, 1) := by decide +kernel
theorem dX0_turnFrom_1 : decode cX0_turnFrom 1 = .ok (.istore_n 2, 1) := by decide +kernel
theorem dX0_turnFrom_2 : decode cX0_turnFrom 2 = .ok (.iload_n 1, 1) := by decide +kernel
theorem dX0_turnFrom_3 : decode cX0_turnFrom 3 = .ok (.istore_n 3, 1) := by decide +kernel
theorem dX0_turnFrom_4 : decode cX0_turnFrom 4 = .ok (.iload_n 2, 1) := by decide +kernel
theorem dX0_turnFrom_5 : decode cX0_turnFrom 5 = .ok (.ifCond .eq 48, 3) := by decide +kernel
theorem dX0_turnFrom_8 : decode cX0_turnFrom 8 = .ok (.iload_n 3, 1) := by decide +kernel
theorem dX0_turnFrom_9 : decode cX0_turnFrom 9 = .ok (.aload_n 0, 1) := by decide +kernel
theorem dX0_turnFrom_10 : decode cX0_turnFrom 10 = .ok (.getfield 24, 3) := by decide +kernel
theorem dX0_turnFrom_13 : decode cX0_turnFrom 13 = .ok (.if_icmp .ge 40, 3) := by decide +kernel
theorem dX0_turnFrom_16 : decode cX0_turnFrom 16 = .ok (.aload_n 0, 1) := by decide +kernel
theorem dX0_turnFrom_17 : decode cX0_turnFrom 17 = .ok (.iload_n 3, 1) := by decide +kernel
theorem dX0_turnFrom_18 : decode cX0_turnFrom 18 = .ok (.invokevirtual 61, 3) := by decide +kernel
theorem dX0_turnFrom_21 : decode cX0_turnFrom 21 = .ok (.istore_n 2, 1) := by decide +kernel
theorem dX0_turnFrom_22 : decode cX0_turnFrom 22 = .ok (.aload_n 0, 1) := by decide +kernel
theorem dX0_turnFrom_23 : decode cX0_turnFrom 23 = .ok (.getfield 18, 3) := by decide +kernel
theorem dX0_turnFrom_26 : decode cX0_turnFrom 26 = .ok (.iload_n 3, 1) := by decide +kernel
theorem dX0_turnFrom_27 : decode cX0_turnFrom 27 = .ok (.aload_n 0, 1) := by decide +kernel
theorem dX0_turnFrom_28 : decode cX0_turnFrom 28 = .ok (.iload_n 3, 1) := by decide +kernel
theorem dX0_turnFrom_29 : decode cX0_turnFrom 29 = .ok (.invokevirtual 64, 3) := by decide +kernel
theorem dX0_turnFrom_32 : decode cX0_turnFrom 32 = .ok (.iastore, 1) := by decide +kernel
theorem dX0_turnFrom_33 : decode cX0_turnFrom 33 = .ok (.iload_n 2, 1) := by decide +kernel
theorem dX0_turnFrom_34 : decode cX0_turnFrom 34 = .ok (.ifCond .eq 13, 3) := by decide +kernel
theorem dX0_turnFrom_37 : decode cX0_turnFrom 37 = .ok (.aload_n 0, 1) := by decide +kernel
theorem dX0_turnFrom_38 : decode cX0_turnFrom 38 = .ok (.dup, 1) := by decide +kernel
theorem dX0_turnFrom_39 : decode cX0_turnFrom 39 = .ok (.getfield 54, 3) := by decide +kernel
theorem dX0_turnFrom_42 : decode cX0_turnFrom 42 = .ok (.iconst 1, 1) := by decide +kernel
theorem dX0_turnFrom_43 : decode cX0_turnFrom 43 = .ok (.iadd, 1) := by decide +kernel
theorem dX0_turnFrom_44 : decode cX0_turnFrom 44 = .ok (.putfield 54, 3) := by decide +kernel
theorem dX0_turnFrom_47 : decode cX0_turnFrom 47 = .ok (.iinc 3 1, 3) := by decide +kernel
theorem dX0_turnFrom_50 : decode cX0_turnFrom 50 = .ok (.goto (-46), 3) := by decide +kernel
theorem dX0_turnFrom_53 : decode cX0_turnFrom 53 = .ok (.return_, 1) := by decide +kernel
theorem dX0_pushOnce_0 : decode cX0_pushOnce 0 = .ok (.aload_n 0, 1) := by decide +kernel
theorem dX0_pushOnce_1 : decode cX0_pushOnce 1 = .ok (.dup, 1) := by decide +kernel
theorem dX0_pushOnce_2 : decode cX0_pushOnce 2 = .ok (.getfield 51, 3) := by decide +kernel
theorem dX0_pushOnce_5 : decode cX0_pushOnce 5 = .ok (.iconst 1, 1) := by decide +kernel
theorem dX0_pushOnce_6 : decode cX0_pushOnce 6 = .ok (.iadd, 1) := by decide +kernel
theorem dX0_pushOnce_7 : decode cX0_pushOnce 7 = .ok (.putfield 51, 3) := by decide +kernel
theorem dX0_pushOnce_10 : decode cX0_pushOnce 10 = .ok (.aload_n 0, 1) := by decide +kernel
theorem dX0_pushOnce_11 : decode cX0_pushOnce 11 = .ok (.iconst 0, 1) := by decide +kernel
theorem dX0_pushOnce_12 : decode cX0_pushOnce 12 = .ok (.invokevirtual 68, 3) := by decide +kernel
theorem dX0_pushOnce_15 : decode cX0_pushOnce 15 = .ok (.return_, 1) := by decide +kernel
theorem dX0_push_0 : decode cX0_push 0 = .ok (.iconst 0, 1) := by decide +kernel
theorem dX0_push_1 : decode cX0_push 1 = .ok (.istore_n 2, 1) := by decide +kernel
theorem dX0_push_2 : decode cX0_push 2 = .ok (.iload_n 2, 1) := by decide +kernel
theorem dX0_push_3 : decode cX0_push 3 = .ok (.iload_n 1, 1) := by decide +kernel
theorem dX0_push_4 : decode cX0_push 4 = .ok (.if_icmp .ge 13, 3) := by decide +kernel
theorem dX0_push_7 : decode cX0_push 7 = .ok (.aload_n 0, 1) := by decide +kernel
theorem dX0_push_8 : decode cX0_push 8 = .ok (.invokevirtual 72, 3) := by decide +kernel
theorem dX0_push_11 : decode cX0_push 11 = .ok (.iinc 2 1, 3) := by decide +kernel
theorem dX0_push_14 : decode cX0_push 14 = .ok (.goto (-12), 3) := by decide +kernel
theorem dX0_push_17 : decode cX0_push 17 = .ok (.return_, 1) := by decide +kernel
theorem dX0_takeDigitAndPush_0 : decode cX0_takeDigitAndPush 0 = .ok (.aload_n 0, 1) := by decide +kernel
theorem dX0_takeDigitAndPush_1 : decode cX0_takeDigitAndPush 1 = .ok (.iload_n 1, 1) := by decide +kernel
theorem dX0_takeDigitAndPush_2 : decode cX0_takeDigitAndPush 2 = .ok (.iconst 2, 1) := by decide +kernel
theorem dX0_takeDigitAndPush_3 : decode cX0_takeDigitAndPush 3 = .ok (.iload_n 2, 1) := by decide +kernel
theorem dX0_takeDigitAndPush_4 : decode cX0_takeDigitAndPush 4 = .ok (.invokevirtual 75, 3) := by decide +kernel
theorem dX0_takeDigitAndPush_7 : decode cX0_takeDigitAndPush 7 = .ok (.ifCond .lt 12, 3) := by decide +kernel
theorem dX0_takeDigitAndPush_10 : decode cX0_takeDigitAndPush 10 = .ok (.aload_n 0, 1) := by decide +kernel
theorem dX0_takeDigitAndPush_11 : decode cX0_takeDigitAndPush 11 = .ok (.getfield 51, 3) := by decide +kernel
theorem dX0_takeDigitAndPush_14 : decode cX0_takeDigitAndPush 14 = .ok (.ldc 79, 2) := by decide +kernel
theorem dX0_takeDigitAndPush_16 : decode cX0_takeDigitAndPush 16 = .ok (.if_icmp .lt 5, 3) := by decide +kernel
theorem dX0_takeDigitAndPush_19 : decode cX0_takeDigitAndPush 19 = .ok (.iconst 0, 1) := by decide +kernel
theorem dX0_takeDigitAndPush_20 : decode cX0_takeDigitAndPush 20 = .ok (.ireturn, 1) := by decide +kernel
theorem dX0_takeDigitAndPush_21 : decode cX0_takeDigitAndPush 21 = .ok (.aload_n 0, 1) := by decide +kernel
theorem dX0_takeDigitAndPush_22 : decode cX0_takeDigitAndPush 22 = .ok (.invokevirtual 72, 3) := by decide +kernel
theorem dX0_takeDigitAndPush_25 : decode cX0_takeDigitAndPush 25 = .ok (.iconst 1, 1) := by decide +kernel
theorem dX0_takeDigitAndPush_26 : decode cX0_takeDigitAndPush 26 = .ok (.ireturn, 1) := by decide +kernel
theorem dX0_reading_0 : decode cX0_reading 0 = .ok (.iconst 0, 1) := by decide +kernel
theorem dX0_reading_1 : decode cX0_reading 1 = .ok (.istore_n 1, 1) := by decide +kernel
theorem dX0_reading_2 : decode cX0_reading 2 = .ok (.iconst 1, 1) := by decide +kernel
theorem dX0_reading_3 : decode cX0_reading 3 = .ok (.istore_n 2, 1) := by decide +kernel
theorem dX0_reading_4 : decode cX0_reading 4 = .ok (.iconst 0, 1) := by decide +kernel
theorem dX0_reading_5 : decode cX0_reading 5 = .ok (.istore_n 3, 1) := by decide +kernel
theorem dX0_reading_6 : decode cX0_reading 6 = .ok (.iload_n 3, 1) := by decide +kernel
theorem dX0_reading_7 : decode cX0_reading 7 = .ok (.aload_n 0, 1) := by decide +kernel
theorem dX0_reading_8 : decode cX0_reading 8 = .ok (.getfield 24, 3) := by decide +kernel
theorem dX0_reading_11 : decode cX0_reading 11 = .ok (.if_icmp .ge 29, 3) := by decide +kernel
theorem dX0_reading_14 : decode cX0_reading 14 = .ok (.iload_n 1, 1) := by decide +kernel
theorem dX0_reading_15 : decode cX0_reading 15 = .ok (.iload_n 2, 1) := by decide +kernel
theorem dX0_reading_16 : decode cX0_reading 16 = .ok (.aload_n 0, 1) := by decide +kernel
theorem dX0_reading_17 : decode cX0_reading 17 = .ok (.getfield 18, 3) := by decide +kernel
theorem dX0_reading_20 : decode cX0_reading 20 = .ok (.iload_n 3, 1) := by decide +kernel
theorem dX0_reading_21 : decode cX0_reading 21 = .ok (.iaload, 1) := by decide +kernel
theorem dX0_reading_22 : decode cX0_reading 22 = .ok (.imul, 1) := by decide +kernel
theorem dX0_reading_23 : decode cX0_reading 23 = .ok (.iadd, 1) := by decide +kernel
theorem dX0_reading_24 : decode cX0_reading 24 = .ok (.istore_n 1, 1) := by decide +kernel
theorem dX0_reading_25 : decode cX0_reading 25 = .ok (.iload_n 2, 1) := by decide +kernel
theorem dX0_reading_26 : decode cX0_reading 26 = .ok (.aload_n 0, 1) := by decide +kernel
theorem dX0_reading_27 : decode cX0_reading 27 = .ok (.getfield 15, 3) := by decide +kernel
theorem dX0_reading_30 : decode cX0_reading 30 = .ok (.iload_n 3, 1) := by decide +kernel
theorem dX0_reading_31 : decode cX0_reading 31 = .ok (.iaload, 1) := by decide +kernel
theorem dX0_reading_32 : decode cX0_reading 32 = .ok (.imul, 1) := by decide +kernel
theorem dX0_reading_33 : decode cX0_reading 33 = .ok (.istore_n 2, 1) := by decide +kernel
theorem dX0_reading_34 : decode cX0_reading 34 = .ok (.iinc 3 1, 3) := by decide +kernel
theorem dX0_reading_37 : decode cX0_reading 37 = .ok (.goto (-31), 3) := by decide +kernel
theorem dX0_reading_40 : decode cX0_reading 40 = .ok (.iload_n 1, 1) := by decide +kernel
theorem dX0_reading_41 : decode cX0_reading 41 = .ok (.ireturn, 1) := by decide +kernel
theorem dX0_product_0 : decode cX0_product 0 = .ok (.iconst 1, 1) := by decide +kernel
theorem dX0_product_1 : decode cX0_product 1 = .ok (.istore_n 1, 1) := by decide +kernel
theorem dX0_product_2 : decode cX0_product 2 = .ok (.iconst 0, 1) := by decide +kernel
theorem dX0_product_3 : decode cX0_product 3 = .ok (.istore_n 2, 1) := by decide +kernel
theorem dX0_product_4 : decode cX0_product 4 = .ok (.iload_n 2, 1) := by decide +kernel
theorem dX0_product_5 : decode cX0_product 5 = .ok (.aload_n 0, 1) := by decide +kernel
theorem dX0_product_6 : decode cX0_product 6 = .ok (.getfield 24, 3) := by decide +kernel
theorem dX0_product_9 : decode cX0_product 9 = .ok (.if_icmp .ge 18, 3) := by decide +kernel
theorem dX0_product_12 : decode cX0_product 12 = .ok (.iload_n 1, 1) := by decide +kernel
theorem dX0_product_13 : decode cX0_product 13 = .ok (.aload_n 0, 1) := by decide +kernel
theorem dX0_product_14 : decode cX0_product 14 = .ok (.getfield 15, 3) := by decide +kernel
theorem dX0_product_17 : decode cX0_product 17 = .ok (.iload_n 2, 1) := by decide +kernel
theorem dX0_product_18 : decode cX0_product 18 = .ok (.iaload, 1) := by decide +kernel
theorem dX0_product_19 : decode cX0_product 19 = .ok (.imul, 1) := by decide +kernel
theorem dX0_product_20 : decode cX0_product 20 = .ok (.istore_n 1, 1) := by decide +kernel
theorem dX0_product_21 : decode cX0_product 21 = .ok (.iinc 2 1, 3) := by decide +kernel
theorem dX0_product_24 : decode cX0_product 24 = .ok (.goto (-20), 3) := by decide +kernel
theorem dX0_product_27 : decode cX0_product 27 = .ok (.iload_n 1, 1) := by decide +kernel
theorem dX0_product_28 : decode cX0_product 28 = .ok (.ireturn, 1) := by decide +kernel
theorem dX0_error_0 : decode cX0_error 0 = .ok (.aload_n 0, 1) := by decide +kernel
theorem dX0_error_1 : decode cX0_error 1 = .ok (.invokevirtual 80, 3) := by decide +kernel
theorem dX0_error_4 : decode cX0_error 4 = .ok (.istore_n 1, 1) := by decide +kernel
theorem dX0_error_5 : decode cX0_error 5 = .ok (.iload_n 1, 1) := by decide +kernel
theorem dX0_error_6 : decode cX0_error 6 = .ok (.ifCond .le 12, 3) := by decide +kernel
theorem dX0_error_9 : decode cX0_error 9 = .ok (.aload_n 0, 1) := by decide +kernel
theorem dX0_error_10 : decode cX0_error 10 = .ok (.getfield 51, 3) := by decide +kernel
theorem dX0_error_13 : decode cX0_error 13 = .ok (.iload_n 1, 1) := by decide +kernel
theorem dX0_error_14 : decode cX0_error 14 = .ok (.irem, 1) := by decide +kernel
theorem dX0_error_15 : decode cX0_error 15 = .ok (.goto 4, 3) := by decide +kernel
theorem dX0_error_18 : decode cX0_error 18 = .ok (.iconst 0, 1) := by decide +kernel
theorem dX0_error_19 : decode cX0_error 19 = .ok (.istore_n 2, 1) := by decide +kernel
theorem dX0_error_20 : decode cX0_error 20 = .ok (.aload_n 0, 1) := by decide +kernel
theorem dX0_error_21 : decode cX0_error 21 = .ok (.invokevirtual 84, 3) := by decide +kernel
theorem dX0_error_24 : decode cX0_error 24 = .ok (.iload_n 2, 1) := by decide +kernel
theorem dX0_error_25 : decode cX0_error 25 = .ok (.isub, 1) := by decide +kernel
theorem dX0_error_26 : decode cX0_error 26 = .ok (.invokestatic 87, 3) := by decide +kernel
theorem dX0_error_29 : decode cX0_error 29 = .ok (.ireturn, 1) := by decide +kernel
theorem dX0_carrying_0 : decode cX0_carrying 0 = .ok (.iconst 0, 1) := by decide +kernel
theorem dX0_carrying_1 : decode cX0_carrying 1 = .ok (.istore_n 1, 1) := by decide +kernel
theorem dX0_carrying_2 : decode cX0_carrying 2 = .ok (.iconst 0, 1) := by decide +kernel
theorem dX0_carrying_3 : decode cX0_carrying 3 = .ok (.istore_n 2, 1) := by decide +kernel
theorem dX0_carrying_4 : decode cX0_carrying 4 = .ok (.iload_n 2, 1) := by decide +kernel
theorem dX0_carrying_5 : decode cX0_carrying 5 = .ok (.aload_n 0, 1) := by decide +kernel
theorem dX0_carrying_6 : decode cX0_carrying 6 = .ok (.getfield 24, 3) := by decide +kernel
theorem dX0_carrying_9 : decode cX0_carrying 9 = .ok (.if_icmp .ge 23, 3) := by decide +kernel
theorem dX0_carrying_12 : decode cX0_carrying 12 = .ok (.aload_n 0, 1) := by decide +kernel
theorem dX0_carrying_13 : decode cX0_carrying 13 = .ok (.iload_n 2, 1) := by decide +kernel
theorem dX0_carrying_14 : decode cX0_carrying 14 = .ok (.invokevirtual 61, 3) := by decide +kernel
theorem dX0_carrying_17 : decode cX0_carrying 17 = .ok (.ifCond .eq 9, 3) := by decide +kernel
theorem dX0_carrying_20 : decode cX0_carrying 20 = .ok (.iload_n 1, 1) := by decide +kernel
theorem dX0_carrying_21 : decode cX0_carrying 21 = .ok (.iconst 1, 1) := by decide +kernel
theorem dX0_carrying_22 : decode cX0_carrying 22 = .ok (.iload_n 2, 1) := by decide +kernel
theorem dX0_carrying_23 : decode cX0_carrying 23 = .ok (.ishl, 1) := by decide +kernel
theorem dX0_carrying_24 : decode cX0_carrying 24 = .ok (.ior, 1) := by decide +kernel
theorem dX0_carrying_25 : decode cX0_carrying 25 = .ok (.istore_n 1, 1) := by decide +kernel
theorem dX0_carrying_26 : decode cX0_carrying 26 = .ok (.iinc 2 1, 3) := by decide +kernel
theorem dX0_carrying_29 : decode cX0_carrying 29 = .ok (.goto (-25), 3) := by decide +kernel
theorem dX0_carrying_32 : decode cX0_carrying 32 = .ok (.iload_n 1, 1) := by decide +kernel
theorem dX0_carrying_33 : decode cX0_carrying 33 = .ok (.ireturn, 1) := by decide +kernel
theorem dX0_isAllZero_0 : decode cX0_isAllZero 0 = .ok (.iconst 0, 1) := by decide +kernel
theorem dX0_isAllZero_1 : decode cX0_isAllZero 1 = .ok (.istore_n 1, 1) := by decide +kernel
theorem dX0_isAllZero_2 : decode cX0_isAllZero 2 = .ok (.iload_n 1, 1) := by decide +kernel
theorem dX0_isAllZero_3 : decode cX0_isAllZero 3 = .ok (.aload_n 0, 1) := by decide +kernel
theorem dX0_isAllZero_4 : decode cX0_isAllZero 4 = .ok (.getfield 24, 3) := by decide +kernel
theorem dX0_isAllZero_7 : decode cX0_isAllZero 7 = .ok (.if_icmp .ge 20, 3) := by decide +kernel
theorem dX0_isAllZero_10 : decode cX0_isAllZero 10 = .ok (.aload_n 0, 1) := by decide +kernel
theorem dX0_isAllZero_11 : decode cX0_isAllZero 11 = .ok (.getfield 18, 3) := by decide +kernel
theorem dX0_isAllZero_14 : decode cX0_isAllZero 14 = .ok (.iload_n 1, 1) := by decide +kernel
theorem dX0_isAllZero_15 : decode cX0_isAllZero 15 = .ok (.iaload, 1) := by decide +kernel
theorem dX0_isAllZero_16 : decode cX0_isAllZero 16 = .ok (.ifCond .eq 5, 3) := by decide +kernel
theorem dX0_isAllZero_19 : decode cX0_isAllZero 19 = .ok (.iconst 0, 1) := by decide +kernel
theorem dX0_isAllZero_20 : decode cX0_isAllZero 20 = .ok (.ireturn, 1) := by decide +kernel
theorem dX0_isAllZero_21 : decode cX0_isAllZero 21 = .ok (.iinc 1 1, 3) := by decide +kernel
theorem dX0_isAllZero_24 : decode cX0_isAllZero 24 = .ok (.goto (-22), 3) := by decide +kernel
theorem dX0_isAllZero_27 : decode cX0_isAllZero 27 = .ok (.iconst 1, 1) := by decide +kernel
theorem dX0_isAllZero_28 : decode cX0_isAllZero 28 = .ok (.ireturn, 1) := by decide +kernel
theorem dX0_showsAs_0 : decode cX0_showsAs 0 = .ok (.iconst 0, 1) := by decide +kernel
theorem dX0_showsAs_1 : decode cX0_showsAs 1 = .ok (.istore_n 2, 1) := by decide +kernel
theorem dX0_showsAs_2 : decode cX0_showsAs 2 = .ok (.iload_n 2, 1) := by decide +kernel
theorem dX0_showsAs_3 : decode cX0_showsAs 3 = .ok (.aload_n 0, 1) := by decide +kernel
theorem dX0_showsAs_4 : decode cX0_showsAs 4 = .ok (.getfield 24, 3) := by decide +kernel
theorem dX0_showsAs_7 : decode cX0_showsAs 7 = .ok (.if_icmp .ge 26, 3) := by decide +kernel
theorem dX0_showsAs_10 : decode cX0_showsAs 10 = .ok (.aload_n 0, 1) := by decide +kernel
theorem dX0_showsAs_11 : decode cX0_showsAs 11 = .ok (.getfield 18, 3) := by decide +kernel
theorem dX0_showsAs_14 : decode cX0_showsAs 14 = .ok (.iload_n 2, 1) := by decide +kernel
theorem dX0_showsAs_15 : decode cX0_showsAs 15 = .ok (.iaload, 1) := by decide +kernel
theorem dX0_showsAs_16 : decode cX0_showsAs 16 = .ok (.aload_n 1, 1) := by decide +kernel
theorem dX0_showsAs_17 : decode cX0_showsAs 17 = .ok (.getfield 18, 3) := by decide +kernel
theorem dX0_showsAs_20 : decode cX0_showsAs 20 = .ok (.iload_n 2, 1) := by decide +kernel
theorem dX0_showsAs_21 : decode cX0_showsAs 21 = .ok (.iaload, 1) := by decide +kernel
theorem dX0_showsAs_22 : decode cX0_showsAs 22 = .ok (.if_icmp .eq 5, 3) := by decide +kernel
theorem dX0_showsAs_25 : decode cX0_showsAs 25 = .ok (.iconst 0, 1) := by decide +kernel
theorem dX0_showsAs_26 : decode cX0_showsAs 26 = .ok (.ireturn, 1) := by decide +kernel
theorem dX0_showsAs_27 : decode cX0_showsAs 27 = .ok (.iinc 2 1, 3) := by decide +kernel
theorem dX0_showsAs_30 : decode cX0_showsAs 30 = .ok (.goto (-28), 3) := by decide +kernel
theorem dX0_showsAs_33 : decode cX0_showsAs 33 = .ok (.iconst 1, 1) := by decide +kernel
theorem dX0_showsAs_34 : decode cX0_showsAs 34 = .ok (.ireturn, 1) := by decide +kernel
theorem dX0_teethInAll_0 : decode cX0_teethInAll 0 = .ok (.iconst 0, 1) := by decide +kernel
theorem dX0_teethInAll_1 : decode cX0_teethInAll 1 = .ok (.istore_n 1, 1) := by decide +kernel
theorem dX0_teethInAll_2 : decode cX0_teethInAll 2 = .ok (.iconst 0, 1) := by decide +kernel
theorem dX0_teethInAll_3 : decode cX0_teethInAll 3 = .ok (.istore_n 2, 1) := by decide +kernel
theorem dX0_teethInAll_4 : decode cX0_teethInAll 4 = .ok (.iload_n 2, 1) := by decide +kernel
theorem dX0_teethInAll_5 : decode cX0_teethInAll 5 = .ok (.aload_n 0, 1) := by decide +kernel
theorem dX0_teethInAll_6 : decode cX0_teethInAll 6 = .ok (.getfield 24, 3) := by decide +kernel
theorem dX0_teethInAll_9 : decode cX0_teethInAll 9 = .ok (.if_icmp .ge 18, 3) := by decide +kernel
theorem dX0_teethInAll_12 : decode cX0_teethInAll 12 = .ok (.iload_n 1, 1) := by decide +kernel
theorem dX0_teethInAll_13 : decode cX0_teethInAll 13 = .ok (.aload_n 0, 1) := by decide +kernel
theorem dX0_teethInAll_14 : decode cX0_teethInAll 14 = .ok (.getfield 15, 3) := by decide +kernel
theorem dX0_teethInAll_17 : decode cX0_teethInAll 17 = .ok (.iload_n 2, 1) := by decide +kernel
theorem dX0_teethInAll_18 : decode cX0_teethInAll 18 = .ok (.iaload, 1) := by decide +kernel
theorem dX0_teethInAll_19 : decode cX0_teethInAll 19 = .ok (.iadd, 1) := by decide +kernel
theorem dX0_teethInAll_20 : decode cX0_teethInAll 20 = .ok (.istore_n 1, 1) := by decide +kernel
theorem dX0_teethInAll_21 : decode cX0_teethInAll 21 = .ok (.iinc 2 1, 3) := by decide +kernel
theorem dX0_teethInAll_24 : decode cX0_teethInAll 24 = .ok (.goto (-20), 3) := by decide +kernel
theorem dX0_teethInAll_27 : decode cX0_teethInAll 27 = .ok (.iload_n 1, 1) := by decide +kernel
theorem dX0_teethInAll_28 : decode cX0_teethInAll 28 = .ok (.ireturn, 1) := by decide +kernel
theorem dX0_brokenInAll_0 : decode cX0_brokenInAll 0 = .ok (.iconst 0, 1) := by decide +kernel
theorem dX0_brokenInAll_1 : decode cX0_brokenInAll 1 = .ok (.istore_n 1, 1) := by decide +kernel
theorem dX0_brokenInAll_2 : decode cX0_brokenInAll 2 = .ok (.iconst 0, 1) := by decide +kernel
theorem dX0_brokenInAll_3 : decode cX0_brokenInAll 3 = .ok (.istore_n 2, 1) := by decide +kernel
theorem dX0_brokenInAll_4 : decode cX0_brokenInAll 4 = .ok (.iload_n 2, 1) := by decide +kernel
theorem dX0_brokenInAll_5 : decode cX0_brokenInAll 5 = .ok (.aload_n 0, 1) := by decide +kernel
theorem dX0_brokenInAll_6 : decode cX0_brokenInAll 6 = .ok (.getfield 24, 3) := by decide +kernel
theorem dX0_brokenInAll_9 : decode cX0_brokenInAll 9 = .ok (.if_icmp .ge 23, 3) := by decide +kernel
theorem dX0_brokenInAll_12 : decode cX0_brokenInAll 12 = .ok (.aload_n 0, 1) := by decide +kernel
theorem dX0_brokenInAll_13 : decode cX0_brokenInAll 13 = .ok (.getfield 21, 3) := by decide +kernel
theorem dX0_brokenInAll_16 : decode cX0_brokenInAll 16 = .ok (.iload_n 2, 1) := by decide +kernel
theorem dX0_brokenInAll_17 : decode cX0_brokenInAll 17 = .ok (.iaload, 1) := by decide +kernel
theorem dX0_brokenInAll_18 : decode cX0_brokenInAll 18 = .ok (.bipush 12, 2) := by decide +kernel
theorem dX0_brokenInAll_20 : decode cX0_brokenInAll 20 = .ok (.if_icmp .eq 6, 3) := by decide +kernel
theorem dX0_brokenInAll_23 : decode cX0_brokenInAll 23 = .ok (.iinc 1 1, 3) := by decide +kernel
theorem dX0_brokenInAll_26 : decode cX0_brokenInAll 26 = .ok (.iinc 2 1, 3) := by decide +kernel
theorem dX0_brokenInAll_29 : decode cX0_brokenInAll 29 = .ok (.goto (-25), 3) := by decide +kernel
theorem dX0_brokenInAll_32 : decode cX0_brokenInAll 32 = .ok (.iload_n 1, 1) := by decide +kernel
theorem dX0_brokenInAll_33 : decode cX0_brokenInAll 33 = .ok (.ireturn, 1) := by decide +kernel
theorem dX1_init_0 : decode cX1_init 0 = .ok (.aload_n 0, 1) := by decide +kernel
theorem dX1_init_1 : decode cX1_init 1 = .ok (.invokespecial 3, 3) := by decide +kernel
theorem dX1_init_4 : decode cX1_init 4 = .ok (.aload_n 0, 1) := by decide +kernel
theorem dX1_init_5 : decode cX1_init 5 = .ok (.bipush 6, 2) := by decide +kernel
theorem dX1_init_7 : decode cX1_init 7 = .ok (.newarray .int, 2) := by decide +kernel
theorem dX1_init_9 : decode cX1_init 9 = .ok (.putfield 9, 3) := by decide +kernel
theorem dX1_init_12 : decode cX1_init 12 = .ok (.aload_n 0, 1) := by decide +kernel
theorem dX1_init_13 : decode cX1_init 13 = .ok (.bipush 6, 2) := by decide +kernel
theorem dX1_init_15 : decode cX1_init 15 = .ok (.newarray .int, 2) := by decide +kernel
theorem dX1_init_17 : decode cX1_init 17 = .ok (.putfield 15, 3) := by decide +kernel
theorem dX1_init_20 : decode cX1_init 20 = .ok (.return_, 1) := by decide +kernel
theorem dX1_fits_0 : decode cX1_fits 0 = .ok (.iconst 0, 1) := by decide +kernel
theorem dX1_fits_1 : decode cX1_fits 1 = .ok (.istore_n 2, 1) := by decide +kernel
theorem dX1_fits_2 : decode cX1_fits 2 = .ok (.iconst 0, 1) := by decide +kernel
theorem dX1_fits_3 : decode cX1_fits 3 = .ok (.istore_n 3, 1) := by decide +kernel
theorem dX1_fits_4 : decode cX1_fits 4 = .ok (.iload_n 3, 1) := by decide +kernel
theorem dX1_fits_5 : decode cX1_fits 5 = .ok (.aload_n 0, 1) := by decide +kernel
theorem dX1_fits_6 : decode cX1_fits 6 = .ok (.getfield 18, 3) := by decide +kernel
theorem dX1_fits_9 : decode cX1_fits 9 = .ok (.if_icmp .ge 20, 3) := by decide +kernel
theorem dX1_fits_12 : decode cX1_fits 12 = .ok (.iload_n 2, 1) := by decide +kernel
theorem dX1_fits_13 : decode cX1_fits 13 = .ok (.aload_n 0, 1) := by decide +kernel
theorem dX1_fits_14 : decode cX1_fits 14 = .ok (.getfield 9, 3) := by decide +kernel
theorem dX1_fits_17 : decode cX1_fits 17 = .ok (.iload_n 3, 1) := by decide +kernel
theorem dX1_fits_18 : decode cX1_fits 18 = .ok (.iaload, 1) := by decide +kernel
theorem dX1_fits_19 : decode cX1_fits 19 = .ok (.invokestatic 22, 3) := by decide +kernel
theorem dX1_fits_22 : decode cX1_fits 22 = .ok (.istore_n 2, 1) := by decide +kernel
theorem dX1_fits_23 : decode cX1_fits 23 = .ok (.iinc 3 1, 3) := by decide +kernel
theorem dX1_fits_26 : decode cX1_fits 26 = .ok (.goto (-22), 3) := by decide +kernel
theorem dX1_fits_29 : decode cX1_fits 29 = .ok (.iconst 0, 1) := by decide +kernel
theorem dX1_fits_30 : decode cX1_fits 30 = .ok (.istore_n 3, 1) := by decide +kernel
theorem dX1_fits_31 : decode cX1_fits 31 = .ok (.iload_n 3, 1) := by decide +kernel
theorem dX1_fits_32 : decode cX1_fits 32 = .ok (.iload_n 2, 1) := by decide +kernel
theorem dX1_fits_33 : decode cX1_fits 33 = .ok (.if_icmp .gt 24, 3) := by decide +kernel
theorem dX1_fits_36 : decode cX1_fits 36 = .ok (.aload_n 0, 1) := by decide +kernel
theorem dX1_fits_37 : decode cX1_fits 37 = .ok (.iload_n 3, 1) := by decide +kernel
theorem dX1_fits_38 : decode cX1_fits 38 = .ok (.aload_n 1, 1) := by decide +kernel
theorem dX1_fits_39 : decode cX1_fits 39 = .ok (.invokevirtual 28, 3) := by decide +kernel
theorem dX1_fits_42 : decode cX1_fits 42 = .ok (.ifCond .eq 5, 3) := by decide +kernel
theorem dX1_fits_45 : decode cX1_fits 45 = .ok (.iconst 0, 1) := by decide +kernel
theorem dX1_fits_46 : decode cX1_fits 46 = .ok (.ireturn, 1) := by decide +kernel
theorem dX1_fits_47 : decode cX1_fits 47 = .ok (.aload_n 1, 1) := by decide +kernel
theorem dX1_fits_48 : decode cX1_fits 48 = .ok (.invokevirtual 32, 3) := by decide +kernel
theorem dX1_fits_51 : decode cX1_fits 51 = .ok (.iinc 3 1, 3) := by decide +kernel
theorem dX1_fits_54 : decode cX1_fits 54 = .ok (.goto (-23), 3) := by decide +kernel
theorem dX1_fits_57 : decode cX1_fits 57 = .ok (.iconst 1, 1) := by decide +kernel
theorem dX1_fits_58 : decode cX1_fits 58 = .ok (.ireturn, 1) := by decide +kernel
theorem dX1_isAgainst_0 : decode cX1_isAgainst 0 = .ok (.iconst 0, 1) := by decide +kernel
theorem dX1_isAgainst_1 : decode cX1_isAgainst 1 = .ok (.istore_n 3, 1) := by decide +kernel
theorem dX1_isAgainst_2 : decode cX1_isAgainst 2 = .ok (.iload_n 3, 1) := by decide +kernel
theorem dX1_isAgainst_3 : decode cX1_isAgainst 3 = .ok (.aload_n 0, 1) := by decide +kernel
theorem dX1_isAgainst_4 : decode cX1_isAgainst 4 = .ok (.getfield 18, 3) := by decide +kernel
theorem dX1_isAgainst_7 : decode cX1_isAgainst 7 = .ok (.if_icmp .ge 34, 3) := by decide +kernel
theorem dX1_isAgainst_10 : decode cX1_isAgainst 10 = .ok (.aload_n 0, 1) := by decide +kernel
theorem dX1_isAgainst_11 : decode cX1_isAgainst 11 = .ok (.getfield 9, 3) := by decide +kernel
theorem dX1_isAgainst_14 : decode cX1_isAgainst 14 = .ok (.iload_n 3, 1) := by decide +kernel
theorem dX1_isAgainst_15 : decode cX1_isAgainst 15 = .ok (.iaload, 1) := by decide +kernel
theorem dX1_isAgainst_16 : decode cX1_isAgainst 16 = .ok (.iload_n 1, 1) := by decide +kernel
theorem dX1_isAgainst_17 : decode cX1_isAgainst 17 = .ok (.if_icmp .ne 18, 3) := by decide +kernel
theorem dX1_isAgainst_20 : decode cX1_isAgainst 20 = .ok (.aload_n 0, 1) := by decide +kernel
theorem dX1_isAgainst_21 : decode cX1_isAgainst 21 = .ok (.getfield 15, 3) := by decide +kernel
theorem dX1_isAgainst_24 : decode cX1_isAgainst 24 = .ok (.iload_n 3, 1) := by decide +kernel
theorem dX1_isAgainst_25 : decode cX1_isAgainst 25 = .ok (.iaload, 1) := by decide +kernel
theorem dX1_isAgainst_26 : decode cX1_isAgainst 26 = .ok (.aload_n 2, 1) := by decide +kernel
theorem dX1_isAgainst_27 : decode cX1_isAgainst 27 = .ok (.invokevirtual 37, 3) := by decide +kernel
theorem dX1_isAgainst_30 : decode cX1_isAgainst 30 = .ok (.if_icmp .eq 5, 3) := by decide +kernel
theorem dX1_isAgainst_33 : decode cX1_isAgainst 33 = .ok (.iconst 1, 1) := by decide +kernel
theorem dX1_isAgainst_34 : decode cX1_isAgainst 34 = .ok (.ireturn, 1) := by decide +kernel
theorem dX1_isAgainst_35 : decode cX1_isAgainst 35 = .ok (.iinc 3 1, 3) := by decide +kernel
theorem dX1_isAgainst_38 : decode cX1_isAgainst 38 = .ok (.goto (-36), 3) := by decide +kernel
theorem dX1_isAgainst_41 : decode cX1_isAgainst 41 = .ok (.iconst 0, 1) := by decide +kernel
theorem dX1_isAgainst_42 : decode cX1_isAgainst 42 = .ok (.ireturn, 1) := by decide +kernel
theorem dX2_init_0 : decode cX2_init 0 = .ok (.aload_n 0, 1) := by decide +kernel
theorem dX2_init_1 : decode cX2_init 1 = .ok (.invokespecial 1, 3) := by decide +kernel
theorem dX2_init_4 : decode cX2_init 4 = .ok (.aload_n 0, 1) := by decide +kernel
theorem dX2_init_5 : decode cX2_init 5 = .ok (.bipush 40, 2) := by decide +kernel
theorem dX2_init_7 : decode cX2_init 7 = .ok (.newarray .int, 2) := by decide +kernel
theorem dX2_init_9 : decode cX2_init 9 = .ok (.putfield 9, 3) := by decide +kernel
theorem dX2_init_12 : decode cX2_init 12 = .ok (.return_, 1) := by decide +kernel
theorem dX2_renew_0 : decode cX2_renew 0 = .ok (.aload_n 0, 1) := by decide +kernel
theorem dX2_renew_1 : decode cX2_renew 1 = .ok (.iconst 1, 1) := by decide +kernel
theorem dX2_renew_2 : decode cX2_renew 2 = .ok (.putfield 13, 3) := by decide +kernel
theorem dX2_renew_5 : decode cX2_renew 5 = .ok (.aload_n 0, 1) := by decide +kernel
theorem dX2_renew_6 : decode cX2_renew 6 = .ok (.iload_n 1, 1) := by decide +kernel
theorem dX2_renew_7 : decode cX2_renew 7 = .ok (.putfield 17, 3) := by decide +kernel
theorem dX2_renew_10 : decode cX2_renew 10 = .ok (.aload_n 0, 1) := by decide +kernel
theorem dX2_renew_11 : decode cX2_renew 11 = .ok (.iload_n 2, 1) := by decide +kernel
theorem dX2_renew_12 : decode cX2_renew 12 = .ok (.putfield 21, 3) := by decide +kernel
theorem dX2_renew_15 : decode cX2_renew 15 = .ok (.iconst 0, 1) := by decide +kernel
theorem dX2_renew_16 : decode cX2_renew 16 = .ok (.istore_n 3, 1) := by decide +kernel
theorem dX2_renew_17 : decode cX2_renew 17 = .ok (.iload_n 3, 1) := by decide +kernel
theorem dX2_renew_18 : decode cX2_renew 18 = .ok (.bipush 40, 2) := by decide +kernel
theorem dX2_renew_20 : decode cX2_renew 20 = .ok (.if_icmp .ge 16, 3) := by decide +kernel
theorem dX2_renew_23 : decode cX2_renew 23 = .ok (.aload_n 0, 1) := by decide +kernel
theorem dX2_renew_24 : decode cX2_renew 24 = .ok (.getfield 9, 3) := by decide +kernel
theorem dX2_renew_27 : decode cX2_renew 27 = .ok (.iload_n 3, 1) := by decide +kernel
theorem dX2_renew_28 : decode cX2_renew 28 = .ok (.iconst 0, 1) := by decide +kernel
theorem dX2_renew_29 : decode cX2_renew 29 = .ok (.iastore, 1) := by decide +kernel
theorem dX2_renew_30 : decode cX2_renew 30 = .ok (.iinc 3 1, 3) := by decide +kernel
theorem dX2_renew_33 : decode cX2_renew 33 = .ok (.goto (-16), 3) := by decide +kernel
theorem dX2_renew_36 : decode cX2_renew 36 = .ok (.return_, 1) := by decide +kernel
theorem dX2_faultAt_0 : decode cX2_faultAt 0 = .ok (.aload_n 0, 1) := by decide +kernel
theorem dX2_faultAt_1 : decode cX2_faultAt 1 = .ok (.getfield 13, 3) := by decide +kernel
theorem dX2_faultAt_4 : decode cX2_faultAt 4 = .ok (.ifCond .ne 5, 3) := by decide +kernel
theorem dX2_faultAt_7 : decode cX2_faultAt 7 = .ok (.iconst 1, 1) := by decide +kernel
theorem dX2_faultAt_8 : decode cX2_faultAt 8 = .ok (.ireturn, 1) := by decide +kernel
theorem dX2_faultAt_9 : decode cX2_faultAt 9 = .ok (.iload_n 1, 1) := by decide +kernel
theorem dX2_faultAt_10 : decode cX2_faultAt 10 = .ok (.aload_n 0, 1) := by decide +kernel
theorem dX2_faultAt_11 : decode cX2_faultAt 11 = .ok (.getfield 17, 3) := by decide +kernel
theorem dX2_faultAt_14 : decode cX2_faultAt 14 = .ok (.if_icmp .eq 5, 3) := by decide +kernel
theorem dX2_faultAt_17 : decode cX2_faultAt 17 = .ok (.iconst 3, 1) := by decide +kernel
theorem dX2_faultAt_18 : decode cX2_faultAt 18 = .ok (.ireturn, 1) := by decide +kernel
theorem dX2_faultAt_19 : decode cX2_faultAt 19 = .ok (.iload_n 2, 1) := by decide +kernel
theorem dX2_faultAt_20 : decode cX2_faultAt 20 = .ok (.iconst 0, 1) := by decide +kernel
theorem dX2_faultAt_21 : decode cX2_faultAt 21 = .ok (.aload_n 0, 1) := by decide +kernel
theorem dX2_faultAt_22 : decode cX2_faultAt 22 = .ok (.getfield 21, 3) := by decide +kernel
theorem dX2_faultAt_25 : decode cX2_faultAt 25 = .ok (.iconst 1, 1) := by decide +kernel
theorem dX2_faultAt_26 : decode cX2_faultAt 26 = .ok (.isub, 1) := by decide +kernel
theorem dX2_faultAt_27 : decode cX2_faultAt 27 = .ok (.invokestatic 24, 3) := by decide +kernel
theorem dX2_faultAt_30 : decode cX2_faultAt 30 = .ok (.ifCond .eq 7, 3) := by decide +kernel
theorem dX2_faultAt_33 : decode cX2_faultAt 33 = .ok (.iconst 0, 1) := by decide +kernel
theorem dX2_faultAt_34 : decode cX2_faultAt 34 = .ok (.goto 4, 3) := by decide +kernel
theorem dX2_faultAt_37 : decode cX2_faultAt 37 = .ok (.iconst 2, 1) := by decide +kernel
theorem dX2_faultAt_38 : decode cX2_faultAt 38 = .ok (.ireturn, 1) := by decide +kernel
theorem dX2_faultAtPair_0 : decode cX2_faultAtPair 0 = .ok (.aload_n 0, 1) := by decide +kernel
theorem dX2_faultAtPair_1 : decode cX2_faultAtPair 1 = .ok (.iload_n 1, 1) := by decide +kernel
theorem dX2_faultAtPair_2 : decode cX2_faultAtPair 2 = .ok (.iload_n 2, 1) := by decide +kernel
theorem dX2_faultAtPair_3 : decode cX2_faultAtPair 3 = .ok (.invokevirtual 30, 3) := by decide +kernel
theorem dX2_faultAtPair_6 : decode cX2_faultAtPair 6 = .ok (.istore_n 3, 1) := by decide +kernel
theorem dX2_faultAtPair_7 : decode cX2_faultAtPair 7 = .ok (.iload_n 3, 1) := by decide +kernel
theorem dX2_faultAtPair_8 : decode cX2_faultAtPair 8 = .ok (.ifCond .ne 14, 3) := by decide +kernel
theorem dX2_faultAtPair_11 : decode cX2_faultAtPair 11 = .ok (.aload_n 0, 1) := by decide +kernel
theorem dX2_faultAtPair_12 : decode cX2_faultAtPair 12 = .ok (.iload_n 1, 1) := by decide +kernel
theorem dX2_faultAtPair_13 : decode cX2_faultAtPair 13 = .ok (.iload_n 2, 1) := by decide +kernel
theorem dX2_faultAtPair_14 : decode cX2_faultAtPair 14 = .ok (.iconst 1, 1) := by decide +kernel
theorem dX2_faultAtPair_15 : decode cX2_faultAtPair 15 = .ok (.iadd, 1) := by decide +kernel
theorem dX2_faultAtPair_16 : decode cX2_faultAtPair 16 = .ok (.invokevirtual 30, 3) := by decide +kernel
theorem dX2_faultAtPair_19 : decode cX2_faultAtPair 19 = .ok (.goto 4, 3) := by decide +kernel
theorem dX2_faultAtPair_22 : decode cX2_faultAtPair 22 = .ok (.iload_n 3, 1) := by decide +kernel
theorem dX2_faultAtPair_23 : decode cX2_faultAtPair 23 = .ok (.ireturn, 1) := by decide +kernel
theorem dX2_put_0 : decode cX2_put 0 = .ok (.aload_n 0, 1) := by decide +kernel
theorem dX2_put_1 : decode cX2_put 1 = .ok (.getfield 17, 3) := by decide +kernel
theorem dX2_put_4 : decode cX2_put 4 = .ok (.lookupswitch 50 #[(0, 28), (1, 39)], 28) := by decide +kernel
theorem dX2_put_32 : decode cX2_put 32 = .ok (.aload_n 0, 1) := by decide +kernel
theorem dX2_put_33 : decode cX2_put 33 = .ok (.getfield 9, 3) := by decide +kernel
theorem dX2_put_36 : decode cX2_put 36 = .ok (.iload_n 1, 1) := by decide +kernel
theorem dX2_put_37 : decode cX2_put 37 = .ok (.iload_n 2, 1) := by decide +kernel
theorem dX2_put_38 : decode cX2_put 38 = .ok (.i2b, 1) := by decide +kernel
theorem dX2_put_39 : decode cX2_put 39 = .ok (.iastore, 1) := by decide +kernel
theorem dX2_put_40 : decode cX2_put 40 = .ok (.goto 21, 3) := by decide +kernel
theorem dX2_put_43 : decode cX2_put 43 = .ok (.aload_n 0, 1) := by decide +kernel
theorem dX2_put_44 : decode cX2_put 44 = .ok (.getfield 9, 3) := by decide +kernel
theorem dX2_put_47 : decode cX2_put 47 = .ok (.iload_n 1, 1) := by decide +kernel
theorem dX2_put_48 : decode cX2_put 48 = .ok (.iload_n 2, 1) := by decide +kernel
theorem dX2_put_49 : decode cX2_put 49 = .ok (.i2s, 1) := by decide +kernel
theorem dX2_put_50 : decode cX2_put 50 = .ok (.iastore, 1) := by decide +kernel
theorem dX2_put_51 : decode cX2_put 51 = .ok (.goto 10, 3) := by decide +kernel
theorem dX2_put_54 : decode cX2_put 54 = .ok (.aload_n 0, 1) := by decide +kernel
theorem dX2_put_55 : decode cX2_put 55 = .ok (.getfield 9, 3) := by decide +kernel
theorem dX2_put_58 : decode cX2_put 58 = .ok (.iload_n 1, 1) := by decide +kernel
theorem dX2_put_59 : decode cX2_put 59 = .ok (.iload_n 2, 1) := by decide +kernel
theorem dX2_put_60 : decode cX2_put 60 = .ok (.iastore, 1) := by decide +kernel
theorem dX2_put_61 : decode cX2_put 61 = .ok (.return_, 1) := by decide +kernel
theorem dX3_init_0 : decode cX3_init 0 = .ok (.aload_n 0, 1) := by decide +kernel
theorem dX3_init_1 : decode cX3_init 1 = .ok (.invokespecial 1, 3) := by decide +kernel
theorem dX3_init_4 : decode cX3_init 4 = .ok (.aload_n 0, 1) := by decide +kernel
theorem dX3_init_5 : decode cX3_init 5 = .ok (.sipush 160, 3) := by decide +kernel
theorem dX3_init_8 : decode cX3_init 8 = .ok (.newarray .byte, 2) := by decide +kernel
theorem dX3_init_10 : decode cX3_init 10 = .ok (.putfield 9, 3) := by decide +kernel
theorem dX3_init_13 : decode cX3_init 13 = .ok (.return_, 1) := by decide +kernel
theorem dX4_init_0 : decode cX4_init 0 = .ok (.aload_n 0, 1) := by decide +kernel
theorem dX4_init_1 : decode cX4_init 1 = .ok (.invokespecial 3, 3) := by decide +kernel
theorem dX4_init_4 : decode cX4_init 4 = .ok (.aload_n 0, 1) := by decide +kernel
theorem dX4_init_5 : decode cX4_init 5 = .ok (.new 9, 3) := by decide +kernel
theorem dX4_init_8 : decode cX4_init 8 = .ok (.dup, 1) := by decide +kernel
theorem dX4_init_9 : decode cX4_init 9 = .ok (.invokespecial 11, 3) := by decide +kernel
theorem dX4_init_12 : decode cX4_init 12 = .ok (.putfield 12, 3) := by decide +kernel
theorem dX4_init_15 : decode cX4_init 15 = .ok (.aload_n 0, 1) := by decide +kernel
theorem dX4_init_16 : decode cX4_init 16 = .ok (.iconst 0, 1) := by decide +kernel
theorem dX4_init_17 : decode cX4_init 17 = .ok (.putfield 18, 3) := by decide +kernel
theorem dX4_init_20 : decode cX4_init 20 = .ok (.return_, 1) := by decide +kernel
theorem dX4_tell_0 : decode cX4_tell 0 = .ok (.aload_n 1, 1) := by decide +kernel
theorem dX4_tell_1 : decode cX4_tell 1 = .ok (.iconst 0, 1) := by decide +kernel
theorem dX4_tell_2 : decode cX4_tell 2 = .ok (.putfield 22, 3) := by decide +kernel
theorem dX4_tell_5 : decode cX4_tell 5 = .ok (.aload_n 1, 1) := by decide +kernel
theorem dX4_tell_6 : decode cX4_tell 6 = .ok (.iconst 0, 1) := by decide +kernel
theorem dX4_tell_7 : decode cX4_tell 7 = .ok (.putfield 27, 3) := by decide +kernel
theorem dX4_tell_10 : decode cX4_tell 10 = .ok (.aload_n 0, 1) := by decide +kernel
theorem dX4_tell_11 : decode cX4_tell 11 = .ok (.iconst 0, 1) := by decide +kernel
theorem dX4_tell_12 : decode cX4_tell 12 = .ok (.putfield 18, 3) := by decide +kernel
theorem dX4_tell_15 : decode cX4_tell 15 = .ok (.aload_n 0, 1) := by decide +kernel
theorem dX4_tell_16 : decode cX4_tell 16 = .ok (.iconst 0, 1) := by decide +kernel
theorem dX4_tell_17 : decode cX4_tell 17 = .ok (.putfield 30, 3) := by decide +kernel
theorem dX4_tell_20 : decode cX4_tell 20 = .ok (.aload_n 0, 1) := by decide +kernel
theorem dX4_tell_21 : decode cX4_tell 21 = .ok (.iconst 0, 1) := by decide +kernel
theorem dX4_tell_22 : decode cX4_tell 22 = .ok (.putfield 33, 3) := by decide +kernel
theorem dX4_tell_25 : decode cX4_tell 25 = .ok (.aload_n 0, 1) := by decide +kernel
theorem dX4_tell_26 : decode cX4_tell 26 = .ok (.iconst 0, 1) := by decide +kernel
theorem dX4_tell_27 : decode cX4_tell 27 = .ok (.putfield 37, 3) := by decide +kernel
theorem dX4_tell_30 : decode cX4_tell 30 = .ok (.iconst 0, 1) := by decide +kernel
theorem dX4_tell_31 : decode cX4_tell 31 = .ok (.istore_n 2, 1) := by decide +kernel
theorem dX4_tell_32 : decode cX4_tell 32 = .ok (.iload_n 2, 1) := by decide +kernel
theorem dX4_tell_33 : decode cX4_tell 33 = .ok (.aload_n 0, 1) := by decide +kernel
theorem dX4_tell_34 : decode cX4_tell 34 = .ok (.getfield 12, 3) := by decide +kernel
theorem dX4_tell_37 : decode cX4_tell 37 = .ok (.getfield 40, 3) := by decide +kernel
theorem dX4_tell_40 : decode cX4_tell 40 = .ok (.if_icmp .gt 47, 3) := by decide +kernel
theorem dX4_tell_43 : decode cX4_tell 43 = .ok (.aload_n 0, 1) := by decide +kernel
theorem dX4_tell_44 : decode cX4_tell 44 = .ok (.invokevirtual 43, 3) := by decide +kernel
theorem dX4_tell_47 : decode cX4_tell 47 = .ok (.ifCond .ne 5, 3) := by decide +kernel
theorem dX4_tell_50 : decode cX4_tell 50 = .ok (.iconst 0, 1) := by decide +kernel
theorem dX4_tell_51 : decode cX4_tell 51 = .ok (.ireturn, 1) := by decide +kernel
theorem dX4_tell_52 : decode cX4_tell 52 = .ok (.aload_n 0, 1) := by decide +kernel
theorem dX4_tell_53 : decode cX4_tell 53 = .ok (.getfield 47, 3) := by decide +kernel
theorem dX4_tell_56 : decode cX4_tell 56 = .ok (.ifCond .ne 5, 3) := by decide +kernel
theorem dX4_tell_59 : decode cX4_tell 59 = .ok (.iconst 1, 1) := by decide +kernel
theorem dX4_tell_60 : decode cX4_tell 60 = .ok (.ireturn, 1) := by decide +kernel
theorem dX4_tell_61 : decode cX4_tell 61 = .ok (.aload_n 0, 1) := by decide +kernel
theorem dX4_tell_62 : decode cX4_tell 62 = .ok (.aload_n 1, 1) := by decide +kernel
theorem dX4_tell_63 : decode cX4_tell 63 = .ok (.invokevirtual 50, 3) := by decide +kernel
theorem dX4_tell_66 : decode cX4_tell 66 = .ok (.ifCond .ne 5, 3) := by decide +kernel
theorem dX4_tell_69 : decode cX4_tell 69 = .ok (.iconst 0, 1) := by decide +kernel
theorem dX4_tell_70 : decode cX4_tell 70 = .ok (.ireturn, 1) := by decide +kernel
theorem dX4_tell_71 : decode cX4_tell 71 = .ok (.aload_n 0, 1) := by decide +kernel
theorem dX4_tell_72 : decode cX4_tell 72 = .ok (.dup, 1) := by decide +kernel
theorem dX4_tell_73 : decode cX4_tell 73 = .ok (.getfield 30, 3) := by decide +kernel
theorem dX4_tell_76 : decode cX4_tell 76 = .ok (.iconst 1, 1) := by decide +kernel
theorem dX4_tell_77 : decode cX4_tell 77 = .ok (.iadd, 1) := by decide +kernel
theorem dX4_tell_78 : decode cX4_tell 78 = .ok (.putfield 30, 3) := by decide +kernel
theorem dX4_tell_81 : decode cX4_tell 81 = .ok (.iinc 2 1, 3) := by decide +kernel
theorem dX4_tell_84 : decode cX4_tell 84 = .ok (.goto (-52), 3) := by decide +kernel
theorem dX4_tell_87 : decode cX4_tell 87 = .ok (.iconst 1, 1) := by decide +kernel
theorem dX4_tell_88 : decode cX4_tell 88 = .ok (.ireturn, 1) := by decide +kernel
theorem dX4_tellLine_0 : decode cX4_tellLine 0 = .ok (.aload_n 0, 1) := by decide +kernel
theorem dX4_tellLine_1 : decode cX4_tellLine 1 = .ok (.getfield 47, 3) := by decide +kernel
theorem dX4_tellLine_4 : decode cX4_tellLine 4 = .ok (.iconst 1, 1) := by decide +kernel
theorem dX4_tellLine_5 : decode cX4_tellLine 5 = .ok (.if_icmp .eq 9, 3) := by decide +kernel
theorem dX4_tellLine_8 : decode cX4_tellLine 8 = .ok (.aload_n 0, 1) := by decide +kernel
theorem dX4_tellLine_9 : decode cX4_tellLine 9 = .ok (.iconst 2, 1) := by decide +kernel
theorem dX4_tellLine_10 : decode cX4_tellLine 10 = .ok (.invokevirtual 54, 3) := by decide +kernel
theorem dX4_tellLine_13 : decode cX4_tellLine 13 = .ok (.ireturn, 1) := by decide +kernel
theorem dX4_tellLine_14 : decode cX4_tellLine 14 = .ok (.aload_n 0, 1) := by decide +kernel
theorem dX4_tellLine_15 : decode cX4_tellLine 15 = .ok (.ldc 58, 2) := by decide +kernel
theorem dX4_tellLine_17 : decode cX4_tellLine 17 = .ok (.invokevirtual 60, 3) := by decide +kernel
theorem dX4_tellLine_20 : decode cX4_tellLine 20 = .ok (.ifCond .eq 9, 3) := by decide +kernel
theorem dX4_tellLine_23 : decode cX4_tellLine 23 = .ok (.aload_n 0, 1) := by decide +kernel
theorem dX4_tellLine_24 : decode cX4_tellLine 24 = .ok (.aload_n 1, 1) := by decide +kernel
theorem dX4_tellLine_25 : decode cX4_tellLine 25 = .ok (.invokevirtual 64, 3) := by decide +kernel
theorem dX4_tellLine_28 : decode cX4_tellLine 28 = .ok (.ireturn, 1) := by decide +kernel
theorem dX4_tellLine_29 : decode cX4_tellLine 29 = .ok (.aload_n 0, 1) := by decide +kernel
theorem dX4_tellLine_30 : decode cX4_tellLine 30 = .ok (.invokevirtual 67, 3) := by decide +kernel
theorem dX4_tellLine_33 : decode cX4_tellLine 33 = .ok (.istore_n 2, 1) := by decide +kernel
theorem dX4_tellLine_34 : decode cX4_tellLine 34 = .ok (.iload_n 2, 1) := by decide +kernel
theorem dX4_tellLine_35 : decode cX4_tellLine 35 = .ok (.bipush (-4), 2) := by decide +kernel
theorem dX4_tellLine_37 : decode cX4_tellLine 37 = .ok (.if_icmp .ne 11, 3) := by decide +kernel
theorem dX4_tellLine_40 : decode cX4_tellLine 40 = .ok (.aload_n 0, 1) := by decide +kernel
theorem dX4_tellLine_41 : decode cX4_tellLine 41 = .ok (.iconst 2, 1) := by decide +kernel
theorem dX4_tellLine_42 : decode cX4_tellLine 42 = .ok (.invokevirtual 54, 3) := by decide +kernel
theorem dX4_tellLine_45 : decode cX4_tellLine 45 = .ok (.goto 9, 3) := by decide +kernel
theorem dX4_tellLine_48 : decode cX4_tellLine 48 = .ok (.aload_n 0, 1) := by decide +kernel
theorem dX4_tellLine_49 : decode cX4_tellLine 49 = .ok (.aload_n 1, 1) := by decide +kernel
theorem dX4_tellLine_50 : decode cX4_tellLine 50 = .ok (.iload_n 2, 1) := by decide +kernel
theorem dX4_tellLine_51 : decode cX4_tellLine 51 = .ok (.invokevirtual 71, 3) := by decide +kernel
theorem dX4_tellLine_54 : decode cX4_tellLine 54 = .ok (.ireturn, 1) := by decide +kernel
theorem dX4_tellCount_0 : decode cX4_tellCount 0 = .ok (.aload_n 0, 1) := by decide +kernel
theorem dX4_tellCount_1 : decode cX4_tellCount 1 = .ok (.getfield 33, 3) := by decide +kernel
theorem dX4_tellCount_4 : decode cX4_tellCount 4 = .ok (.ifCond .eq 9, 3) := by decide +kernel
theorem dX4_tellCount_7 : decode cX4_tellCount 7 = .ok (.aload_n 0, 1) := by decide +kernel
theorem dX4_tellCount_8 : decode cX4_tellCount 8 = .ok (.iconst 4, 1) := by decide +kernel
theorem dX4_tellCount_9 : decode cX4_tellCount 9 = .ok (.invokevirtual 54, 3) := by decide +kernel
theorem dX4_tellCount_12 : decode cX4_tellCount 12 = .ok (.ireturn, 1) := by decide +kernel
theorem dX4_tellCount_13 : decode cX4_tellCount 13 = .ok (.aload_n 0, 1) := by decide +kernel
theorem dX4_tellCount_14 : decode cX4_tellCount 14 = .ok (.iconst 1, 1) := by decide +kernel
theorem dX4_tellCount_15 : decode cX4_tellCount 15 = .ok (.putfield 33, 3) := by decide +kernel
theorem dX4_tellCount_18 : decode cX4_tellCount 18 = .ok (.aload_n 0, 1) := by decide +kernel
theorem dX4_tellCount_19 : decode cX4_tellCount 19 = .ok (.iconst 0, 1) := by decide +kernel
theorem dX4_tellCount_20 : decode cX4_tellCount 20 = .ok (.bipush 99, 2) := by decide +kernel
theorem dX4_tellCount_22 : decode cX4_tellCount 22 = .ok (.invokevirtual 75, 3) := by decide +kernel
theorem dX4_tellCount_25 : decode cX4_tellCount 25 = .ok (.ifCond .ne 5, 3) := by decide +kernel
theorem dX4_tellCount_28 : decode cX4_tellCount 28 = .ok (.iconst 0, 1) := by decide +kernel
theorem dX4_tellCount_29 : decode cX4_tellCount 29 = .ok (.ireturn, 1) := by decide +kernel
theorem dX4_tellCount_30 : decode cX4_tellCount 30 = .ok (.aload_n 1, 1) := by decide +kernel
theorem dX4_tellCount_31 : decode cX4_tellCount 31 = .ok (.aload_n 0, 1) := by decide +kernel
theorem dX4_tellCount_32 : decode cX4_tellCount 32 = .ok (.getfield 79, 3) := by decide +kernel
theorem dX4_tellCount_35 : decode cX4_tellCount 35 = .ok (.putfield 27, 3) := by decide +kernel
theorem dX4_tellCount_38 : decode cX4_tellCount 38 = .ok (.aload_n 0, 1) := by decide +kernel
theorem dX4_tellCount_39 : decode cX4_tellCount 39 = .ok (.invokevirtual 43, 3) := by decide +kernel
theorem dX4_tellCount_42 : decode cX4_tellCount 42 = .ok (.ifCond .eq 14, 3) := by decide +kernel
theorem dX4_tellCount_45 : decode cX4_tellCount 45 = .ok (.aload_n 0, 1) := by decide +kernel
theorem dX4_tellCount_46 : decode cX4_tellCount 46 = .ok (.invokevirtual 82, 3) := by decide +kernel
theorem dX4_tellCount_49 : decode cX4_tellCount 49 = .ok (.ifCond .eq 7, 3) := by decide +kernel
theorem dX4_tellCount_52 : decode cX4_tellCount 52 = .ok (.iconst 1, 1) := by decide +kernel
theorem dX4_tellCount_53 : decode cX4_tellCount 53 = .ok (.goto 4, 3) := by decide +kernel
theorem dX4_tellCount_56 : decode cX4_tellCount 56 = .ok (.iconst 0, 1) := by decide +kernel
theorem dX4_tellCount_57 : decode cX4_tellCount 57 = .ok (.ireturn, 1) := by decide +kernel
theorem dX4_tellWheel_0 : decode cX4_tellWheel 0 = .ok (.aload_n 1, 1) := by decide +kernel
theorem dX4_tellWheel_1 : decode cX4_tellWheel 1 = .ok (.getfield 22, 3) := by decide +kernel
theorem dX4_tellWheel_4 : decode cX4_tellWheel 4 = .ok (.iconst 5, 1) := by decide +kernel
theorem dX4_tellWheel_5 : decode cX4_tellWheel 5 = .ok (.if_icmp .lt 9, 3) := by decide +kernel
theorem dX4_tellWheel_8 : decode cX4_tellWheel 8 = .ok (.aload_n 0, 1) := by decide +kernel
theorem dX4_tellWheel_9 : decode cX4_tellWheel 9 = .ok (.iconst 5, 1) := by decide +kernel
theorem dX4_tellWheel_10 : decode cX4_tellWheel 10 = .ok (.invokevirtual 54, 3) := by decide +kernel
theorem dX4_tellWheel_13 : decode cX4_tellWheel 13 = .ok (.ireturn, 1) := by decide +kernel
theorem dX4_tellWheel_14 : decode cX4_tellWheel 14 = .ok (.aload_n 0, 1) := by decide +kernel
theorem dX4_tellWheel_15 : decode cX4_tellWheel 15 = .ok (.iconst 2, 1) := by decide +kernel
theorem dX4_tellWheel_16 : decode cX4_tellWheel 16 = .ok (.bipush 12, 2) := by decide +kernel
theorem dX4_tellWheel_18 : decode cX4_tellWheel 18 = .ok (.invokevirtual 75, 3) := by decide +kernel
theorem dX4_tellWheel_21 : decode cX4_tellWheel 21 = .ok (.ifCond .ne 5, 3) := by decide +kernel
theorem dX4_tellWheel_24 : decode cX4_tellWheel 24 = .ok (.iconst 0, 1) := by decide +kernel
theorem dX4_tellWheel_25 : decode cX4_tellWheel 25 = .ok (.ireturn, 1) := by decide +kernel
theorem dX4_tellWheel_26 : decode cX4_tellWheel 26 = .ok (.aload_n 0, 1) := by decide +kernel
theorem dX4_tellWheel_27 : decode cX4_tellWheel 27 = .ok (.getfield 79, 3) := by decide +kernel
theorem dX4_tellWheel_30 : decode cX4_tellWheel 30 = .ok (.istore_n 3, 1) := by decide +kernel
theorem dX4_tellWheel_31 : decode cX4_tellWheel 31 = .ok (.aload_n 0, 1) := by decide +kernel
theorem dX4_tellWheel_32 : decode cX4_tellWheel 32 = .ok (.iconst 0, 1) := by decide +kernel
theorem dX4_tellWheel_33 : decode cX4_tellWheel 33 = .ok (.iload_n 3, 1) := by decide +kernel
theorem dX4_tellWheel_34 : decode cX4_tellWheel 34 = .ok (.iconst 1, 1) := by decide +kernel
theorem dX4_tellWheel_35 : decode cX4_tellWheel 35 = .ok (.isub, 1) := by decide +kernel
theorem dX4_tellWheel_36 : decode cX4_tellWheel 36 = .ok (.invokevirtual 75, 3) := by decide +kernel
theorem dX4_tellWheel_39 : decode cX4_tellWheel 39 = .ok (.ifCond .ne 5, 3) := by decide +kernel
theorem dX4_tellWheel_42 : decode cX4_tellWheel 42 = .ok (.iconst 0, 1) := by decide +kernel
theorem dX4_tellWheel_43 : decode cX4_tellWheel 43 = .ok (.ireturn, 1) := by decide +kernel
theorem dX4_tellWheel_44 : decode cX4_tellWheel 44 = .ok (.aload_n 0, 1) := by decide +kernel
theorem dX4_tellWheel_45 : decode cX4_tellWheel 45 = .ok (.getfield 79, 3) := by decide +kernel
theorem dX4_tellWheel_48 : decode cX4_tellWheel 48 = .ok (.istore 4, 2) := by decide +kernel
theorem dX4_tellWheel_50 : decode cX4_tellWheel 50 = .ok (.bipush 12, 2) := by decide +kernel
theorem dX4_tellWheel_52 : decode cX4_tellWheel 52 = .ok (.istore 5, 2) := by decide +kernel
theorem dX4_tellWheel_54 : decode cX4_tellWheel 54 = .ok (.aload_n 0, 1) := by decide +kernel
theorem dX4_tellWheel_55 : decode cX4_tellWheel 55 = .ok (.invokevirtual 43, 3) := by decide +kernel
theorem dX4_tellWheel_58 : decode cX4_tellWheel 58 = .ok (.ifCond .ne 5, 3) := by decide +kernel
theorem dX4_tellWheel_61 : decode cX4_tellWheel 61 = .ok (.iconst 0, 1) := by decide +kernel
theorem dX4_tellWheel_62 : decode cX4_tellWheel 62 = .ok (.ireturn, 1) := by decide +kernel
theorem dX4_tellWheel_63 : decode cX4_tellWheel 63 = .ok (.aload_n 0, 1) := by decide +kernel
theorem dX4_tellWheel_64 : decode cX4_tellWheel 64 = .ok (.getfield 47, 3) := by decide +kernel
theorem dX4_tellWheel_67 : decode cX4_tellWheel 67 = .ok (.iconst 2, 1) := by decide +kernel
theorem dX4_tellWheel_68 : decode cX4_tellWheel 68 = .ok (.if_icmp .ne 32, 3) := by decide +kernel
theorem dX4_tellWheel_71 : decode cX4_tellWheel 71 = .ok (.aload_n 0, 1) := by decide +kernel
theorem dX4_tellWheel_72 : decode cX4_tellWheel 72 = .ok (.getfield 79, 3) := by decide +kernel
theorem dX4_tellWheel_75 : decode cX4_tellWheel 75 = .ok (.iload_n 3, 1) := by decide +kernel
theorem dX4_tellWheel_76 : decode cX4_tellWheel 76 = .ok (.if_icmp .lt 9, 3) := by decide +kernel
theorem dX4_tellWheel_79 : decode cX4_tellWheel 79 = .ok (.aload_n 0, 1) := by decide +kernel
theorem dX4_tellWheel_80 : decode cX4_tellWheel 80 = .ok (.iconst 3, 1) := by decide +kernel
theorem dX4_tellWheel_81 : decode cX4_tellWheel 81 = .ok (.invokevirtual 54, 3) := by decide +kernel
theorem dX4_tellWheel_84 : decode cX4_tellWheel 84 = .ok (.ireturn, 1) := by decide +kernel
theorem dX4_tellWheel_85 : decode cX4_tellWheel 85 = .ok (.aload_n 0, 1) := by decide +kernel
theorem dX4_tellWheel_86 : decode cX4_tellWheel 86 = .ok (.getfield 79, 3) := by decide +kernel
theorem dX4_tellWheel_89 : decode cX4_tellWheel 89 = .ok (.istore 5, 2) := by decide +kernel
theorem dX4_tellWheel_91 : decode cX4_tellWheel 91 = .ok (.aload_n 0, 1) := by decide +kernel
theorem dX4_tellWheel_92 : decode cX4_tellWheel 92 = .ok (.invokevirtual 43, 3) := by decide +kernel
theorem dX4_tellWheel_95 : decode cX4_tellWheel 95 = .ok (.ifCond .ne 5, 3) := by decide +kernel
theorem dX4_tellWheel_98 : decode cX4_tellWheel 98 = .ok (.iconst 0, 1) := by decide +kernel
theorem dX4_tellWheel_99 : decode cX4_tellWheel 99 = .ok (.ireturn, 1) := by decide +kernel
theorem dX4_tellWheel_100 : decode cX4_tellWheel 100 = .ok (.aload_n 1, 1) := by decide +kernel
theorem dX4_tellWheel_101 : decode cX4_tellWheel 101 = .ok (.iload_n 2, 1) := by decide +kernel
theorem dX4_tellWheel_102 : decode cX4_tellWheel 102 = .ok (.iload_n 3, 1) := by decide +kernel
theorem dX4_tellWheel_103 : decode cX4_tellWheel 103 = .ok (.iload 4, 2) := by decide +kernel
theorem dX4_tellWheel_105 : decode cX4_tellWheel 105 = .ok (.iload 5, 2) := by decide +kernel
theorem dX4_tellWheel_107 : decode cX4_tellWheel 107 = .ok (.invokevirtual 85, 3) := by decide +kernel
theorem dX4_tellWheel_110 : decode cX4_tellWheel 110 = .ok (.aload_n 0, 1) := by decide +kernel
theorem dX4_tellWheel_111 : decode cX4_tellWheel 111 = .ok (.invokevirtual 82, 3) := by decide +kernel
theorem dX4_tellWheel_114 : decode cX4_tellWheel 114 = .ok (.ireturn, 1) := by decide +kernel
theorem dX4_nextNumber_0 : decode cX4_nextNumber 0 = .ok (.aload_n 0, 1) := by decide +kernel
theorem dX4_nextNumber_1 : decode cX4_nextNumber 1 = .ok (.invokevirtual 43, 3) := by decide +kernel
theorem dX4_nextNumber_4 : decode cX4_nextNumber 4 = .ok (.ifCond .ne 5, 3) := by decide +kernel
theorem dX4_nextNumber_7 : decode cX4_nextNumber 7 = .ok (.iconst 0, 1) := by decide +kernel
theorem dX4_nextNumber_8 : decode cX4_nextNumber 8 = .ok (.ireturn, 1) := by decide +kernel
theorem dX4_nextNumber_9 : decode cX4_nextNumber 9 = .ok (.aload_n 0, 1) := by decide +kernel
theorem dX4_nextNumber_10 : decode cX4_nextNumber 10 = .ok (.getfield 47, 3) := by decide +kernel
theorem dX4_nextNumber_13 : decode cX4_nextNumber 13 = .ok (.iconst 2, 1) := by decide +kernel
theorem dX4_nextNumber_14 : decode cX4_nextNumber 14 = .ok (.if_icmp .eq 9, 3) := by decide +kernel
theorem dX4_nextNumber_17 : decode cX4_nextNumber 17 = .ok (.aload_n 0, 1) := by decide +kernel
theorem dX4_nextNumber_18 : decode cX4_nextNumber 18 = .ok (.iconst 2, 1) := by decide +kernel
theorem dX4_nextNumber_19 : decode cX4_nextNumber 19 = .ok (.invokevirtual 54, 3) := by decide +kernel
theorem dX4_nextNumber_22 : decode cX4_nextNumber 22 = .ok (.ireturn, 1) := by decide +kernel
theorem dX4_nextNumber_23 : decode cX4_nextNumber 23 = .ok (.aload_n 0, 1) := by decide +kernel
theorem dX4_nextNumber_24 : decode cX4_nextNumber 24 = .ok (.getfield 79, 3) := by decide +kernel
theorem dX4_nextNumber_27 : decode cX4_nextNumber 27 = .ok (.iload_n 1, 1) := by decide +kernel
theorem dX4_nextNumber_28 : decode cX4_nextNumber 28 = .ok (.iload_n 2, 1) := by decide +kernel
theorem dX4_nextNumber_29 : decode cX4_nextNumber 29 = .ok (.invokestatic 89, 3) := by decide +kernel
theorem dX4_nextNumber_32 : decode cX4_nextNumber 32 = .ok (.ifCond .ne 11, 3) := by decide +kernel
theorem dX4_nextNumber_35 : decode cX4_nextNumber 35 = .ok (.aload_n 0, 1) := by decide +kernel
theorem dX4_nextNumber_36 : decode cX4_nextNumber 36 = .ok (.iconst 3, 1) := by decide +kernel
theorem dX4_nextNumber_37 : decode cX4_nextNumber 37 = .ok (.invokevirtual 54, 3) := by decide +kernel
theorem dX4_nextNumber_40 : decode cX4_nextNumber 40 = .ok (.ifCond .eq 7, 3) := by decide +kernel
theorem dX4_nextNumber_43 : decode cX4_nextNumber 43 = .ok (.iconst 1, 1) := by decide +kernel
theorem dX4_nextNumber_44 : decode cX4_nextNumber 44 = .ok (.goto 4, 3) := by decide +kernel
theorem dX4_nextNumber_47 : decode cX4_nextNumber 47 = .ok (.iconst 0, 1) := by decide +kernel
theorem dX4_nextNumber_48 : decode cX4_nextNumber 48 = .ok (.ireturn, 1) := by decide +kernel
theorem dX4_lineEnds_0 : decode cX4_lineEnds 0 = .ok (.aload_n 0, 1) := by decide +kernel
theorem dX4_lineEnds_1 : decode cX4_lineEnds 1 = .ok (.getfield 47, 3) := by decide +kernel
theorem dX4_lineEnds_4 : decode cX4_lineEnds 4 = .ok (.iconst 3, 1) := by decide +kernel
theorem dX4_lineEnds_5 : decode cX4_lineEnds 5 = .ok (.if_icmp .eq 11, 3) := by decide +kernel
theorem dX4_lineEnds_8 : decode cX4_lineEnds 8 = .ok (.aload_n 0, 1) := by decide +kernel
theorem dX4_lineEnds_9 : decode cX4_lineEnds 9 = .ok (.iconst 2, 1) := by decide +kernel
theorem dX4_lineEnds_10 : decode cX4_lineEnds 10 = .ok (.invokevirtual 54, 3) := by decide +kernel
theorem dX4_lineEnds_13 : decode cX4_lineEnds 13 = .ok (.ifCond .eq 7, 3) := by decide +kernel
theorem dX4_lineEnds_16 : decode cX4_lineEnds 16 = .ok (.iconst 1, 1) := by decide +kernel
theorem dX4_lineEnds_17 : decode cX4_lineEnds 17 = .ok (.goto 4, 3) := by decide +kernel
theorem dX4_lineEnds_20 : decode cX4_lineEnds 20 = .ok (.iconst 0, 1) := by decide +kernel
theorem dX4_lineEnds_21 : decode cX4_lineEnds 21 = .ok (.ireturn, 1) := by decide +kernel
theorem dX4_nextToken_0 : decode cX4_nextToken 0 = .ok (.aload_n 0, 1) := by decide +kernel
theorem dX4_nextToken_1 : decode cX4_nextToken 1 = .ok (.aload_n 0, 1) := by decide +kernel
theorem dX4_nextToken_2 : decode cX4_nextToken 2 = .ok (.getfield 37, 3) := by decide +kernel
theorem dX4_nextToken_5 : decode cX4_nextToken 5 = .ok (.putfield 93, 3) := by decide +kernel
theorem dX4_nextToken_8 : decode cX4_nextToken 8 = .ok (.aload_n 0, 1) := by decide +kernel
theorem dX4_nextToken_9 : decode cX4_nextToken 9 = .ok (.getfield 93, 3) := by decide +kernel
theorem dX4_nextToken_12 : decode cX4_nextToken 12 = .ok (.aload_n 0, 1) := by decide +kernel
theorem dX4_nextToken_13 : decode cX4_nextToken 13 = .ok (.getfield 12, 3) := by decide +kernel
theorem dX4_nextToken_16 : decode cX4_nextToken 16 = .ok (.getfield 40, 3) := by decide +kernel
theorem dX4_nextToken_19 : decode cX4_nextToken 19 = .ok (.if_icmp .ge 33, 3) := by decide +kernel
theorem dX4_nextToken_22 : decode cX4_nextToken 22 = .ok (.aload_n 0, 1) := by decide +kernel
theorem dX4_nextToken_23 : decode cX4_nextToken 23 = .ok (.getfield 12, 3) := by decide +kernel
theorem dX4_nextToken_26 : decode cX4_nextToken 26 = .ok (.getfield 96, 3) := by decide +kernel
theorem dX4_nextToken_29 : decode cX4_nextToken 29 = .ok (.aload_n 0, 1) := by decide +kernel
theorem dX4_nextToken_30 : decode cX4_nextToken 30 = .ok (.getfield 93, 3) := by decide +kernel
theorem dX4_nextToken_33 : decode cX4_nextToken 33 = .ok (.baload, 1) := by decide +kernel
theorem dX4_nextToken_34 : decode cX4_nextToken 34 = .ok (.bipush 32, 2) := by decide +kernel
theorem dX4_nextToken_36 : decode cX4_nextToken 36 = .ok (.if_icmp .ne 16, 3) := by decide +kernel
theorem dX4_nextToken_39 : decode cX4_nextToken 39 = .ok (.aload_n 0, 1) := by decide +kernel
theorem dX4_nextToken_40 : decode cX4_nextToken 40 = .ok (.dup, 1) := by decide +kernel
theorem dX4_nextToken_41 : decode cX4_nextToken 41 = .ok (.getfield 93, 3) := by decide +kernel
theorem dX4_nextToken_44 : decode cX4_nextToken 44 = .ok (.iconst 1, 1) := by decide +kernel
theorem dX4_nextToken_45 : decode cX4_nextToken 45 = .ok (.iadd, 1) := by decide +kernel
theorem dX4_nextToken_46 : decode cX4_nextToken 46 = .ok (.putfield 93, 3) := by decide +kernel
theorem dX4_nextToken_49 : decode cX4_nextToken 49 = .ok (.goto (-41), 3) := by decide +kernel
theorem dX4_nextToken_52 : decode cX4_nextToken 52 = .ok (.aload_n 0, 1) := by decide +kernel
theorem dX4_nextToken_53 : decode cX4_nextToken 53 = .ok (.getfield 93, 3) := by decide +kernel
theorem dX4_nextToken_56 : decode cX4_nextToken 56 = .ok (.aload_n 0, 1) := by decide +kernel
theorem dX4_nextToken_57 : decode cX4_nextToken 57 = .ok (.getfield 12, 3) := by decide +kernel
theorem dX4_nextToken_60 : decode cX4_nextToken 60 = .ok (.getfield 40, 3) := by decide +kernel
theorem dX4_nextToken_63 : decode cX4_nextToken 63 = .ok (.if_icmp .lt 10, 3) := by decide +kernel
theorem dX4_nextToken_66 : decode cX4_nextToken 66 = .ok (.aload_n 0, 1) := by decide +kernel
theorem dX4_nextToken_67 : decode cX4_nextToken 67 = .ok (.iconst 0, 1) := by decide +kernel
theorem dX4_nextToken_68 : decode cX4_nextToken 68 = .ok (.putfield 47, 3) := by decide +kernel
theorem dX4_nextToken_71 : decode cX4_nextToken 71 = .ok (.iconst 1, 1) := by decide +kernel
theorem dX4_nextToken_72 : decode cX4_nextToken 72 = .ok (.ireturn, 1) := by decide +kernel
theorem dX4_nextToken_73 : decode cX4_nextToken 73 = .ok (.aload_n 0, 1) := by decide +kernel
theorem dX4_nextToken_74 : decode cX4_nextToken 74 = .ok (.getfield 12, 3) := by decide +kernel
theorem dX4_nextToken_77 : decode cX4_nextToken 77 = .ok (.getfield 96, 3) := by decide +kernel
theorem dX4_nextToken_80 : decode cX4_nextToken 80 = .ok (.aload_n 0, 1) := by decide +kernel
theorem dX4_nextToken_81 : decode cX4_nextToken 81 = .ok (.getfield 93, 3) := by decide +kernel
theorem dX4_nextToken_84 : decode cX4_nextToken 84 = .ok (.baload, 1) := by decide +kernel
theorem dX4_nextToken_85 : decode cX4_nextToken 85 = .ok (.istore_n 1, 1) := by decide +kernel
theorem dX4_nextToken_86 : decode cX4_nextToken 86 = .ok (.iload_n 1, 1) := by decide +kernel
theorem dX4_nextToken_87 : decode cX4_nextToken 87 = .ok (.bipush 59, 2) := by decide +kernel
theorem dX4_nextToken_89 : decode cX4_nextToken 89 = .ok (.if_icmp .ne 20, 3) := by decide +kernel
theorem dX4_nextToken_92 : decode cX4_nextToken 92 = .ok (.aload_n 0, 1) := by decide +kernel
theorem dX4_nextToken_93 : decode cX4_nextToken 93 = .ok (.iconst 3, 1) := by decide +kernel
theorem dX4_nextToken_94 : decode cX4_nextToken 94 = .ok (.putfield 47, 3) := by decide +kernel
theorem dX4_nextToken_97 : decode cX4_nextToken 97 = .ok (.aload_n 0, 1) := by decide +kernel
theorem dX4_nextToken_98 : decode cX4_nextToken 98 = .ok (.aload_n 0, 1) := by decide +kernel
theorem dX4_nextToken_99 : decode cX4_nextToken 99 = .ok (.getfield 93, 3) := by decide +kernel
theorem dX4_nextToken_102 : decode cX4_nextToken 102 = .ok (.iconst 1, 1) := by decide +kernel
theorem dX4_nextToken_103 : decode cX4_nextToken 103 = .ok (.iadd, 1) := by decide +kernel
theorem dX4_nextToken_104 : decode cX4_nextToken 104 = .ok (.putfield 37, 3) := by decide +kernel
theorem dX4_nextToken_107 : decode cX4_nextToken 107 = .ok (.iconst 1, 1) := by decide +kernel
theorem dX4_nextToken_108 : decode cX4_nextToken 108 = .ok (.ireturn, 1) := by decide +kernel
theorem dX4_nextToken_109 : decode cX4_nextToken 109 = .ok (.iload_n 1, 1) := by decide +kernel
theorem dX4_nextToken_110 : decode cX4_nextToken 110 = .ok (.bipush 97, 2) := by decide +kernel
theorem dX4_nextToken_112 : decode cX4_nextToken 112 = .ok (.bipush 122, 2) := by decide +kernel
theorem dX4_nextToken_114 : decode cX4_nextToken 114 = .ok (.invokestatic 89, 3) := by decide +kernel
theorem dX4_nextToken_117 : decode cX4_nextToken 117 = .ok (.ifCond .eq 22, 3) := by decide +kernel
theorem dX4_nextToken_120 : decode cX4_nextToken 120 = .ok (.aload_n 0, 1) := by decide +kernel
theorem dX4_nextToken_121 : decode cX4_nextToken 121 = .ok (.iconst 1, 1) := by decide +kernel
theorem dX4_nextToken_122 : decode cX4_nextToken 122 = .ok (.putfield 47, 3) := by decide +kernel
theorem dX4_nextToken_125 : decode cX4_nextToken 125 = .ok (.aload_n 0, 1) := by decide +kernel
theorem dX4_nextToken_126 : decode cX4_nextToken 126 = .ok (.aload_n 0, 1) := by decide +kernel
theorem dX4_nextToken_127 : decode cX4_nextToken 127 = .ok (.bipush 97, 2) := by decide +kernel
theorem dX4_nextToken_129 : decode cX4_nextToken 129 = .ok (.bipush 122, 2) := by decide +kernel
theorem dX4_nextToken_131 : decode cX4_nextToken 131 = .ok (.invokevirtual 100, 3) := by decide +kernel
theorem dX4_nextToken_134 : decode cX4_nextToken 134 = .ok (.putfield 37, 3) := by decide +kernel
theorem dX4_nextToken_137 : decode cX4_nextToken 137 = .ok (.iconst 1, 1) := by decide +kernel
theorem dX4_nextToken_138 : decode cX4_nextToken 138 = .ok (.ireturn, 1) := by decide +kernel
theorem dX4_nextToken_139 : decode cX4_nextToken 139 = .ok (.iload_n 1, 1) := by decide +kernel
theorem dX4_nextToken_140 : decode cX4_nextToken 140 = .ok (.bipush 48, 2) := by decide +kernel
theorem dX4_nextToken_142 : decode cX4_nextToken 142 = .ok (.bipush 57, 2) := by decide +kernel
theorem dX4_nextToken_144 : decode cX4_nextToken 144 = .ok (.invokestatic 89, 3) := by decide +kernel
theorem dX4_nextToken_147 : decode cX4_nextToken 147 = .ok (.ifCond .ne 9, 3) := by decide +kernel
theorem dX4_nextToken_150 : decode cX4_nextToken 150 = .ok (.aload_n 0, 1) := by decide +kernel
theorem dX4_nextToken_151 : decode cX4_nextToken 151 = .ok (.iconst 1, 1) := by decide +kernel
theorem dX4_nextToken_152 : decode cX4_nextToken 152 = .ok (.invokevirtual 54, 3) := by decide +kernel
theorem dX4_nextToken_155 : decode cX4_nextToken 155 = .ok (.ireturn, 1) := by decide +kernel
theorem dX4_nextToken_156 : decode cX4_nextToken 156 = .ok (.aload_n 0, 1) := by decide +kernel
theorem dX4_nextToken_157 : decode cX4_nextToken 157 = .ok (.iconst 2, 1) := by decide +kernel
theorem dX4_nextToken_158 : decode cX4_nextToken 158 = .ok (.putfield 47, 3) := by decide +kernel
theorem dX4_nextToken_161 : decode cX4_nextToken 161 = .ok (.aload_n 0, 1) := by decide +kernel
theorem dX4_nextToken_162 : decode cX4_nextToken 162 = .ok (.aload_n 0, 1) := by decide +kernel
theorem dX4_nextToken_163 : decode cX4_nextToken 163 = .ok (.bipush 48, 2) := by decide +kernel
theorem dX4_nextToken_165 : decode cX4_nextToken 165 = .ok (.bipush 57, 2) := by decide +kernel
theorem dX4_nextToken_167 : decode cX4_nextToken 167 = .ok (.invokevirtual 100, 3) := by decide +kernel
theorem dX4_nextToken_170 : decode cX4_nextToken 170 = .ok (.putfield 37, 3) := by decide +kernel
theorem dX4_nextToken_173 : decode cX4_nextToken 173 = .ok (.aload_n 0, 1) := by decide +kernel
theorem dX4_nextToken_174 : decode cX4_nextToken 174 = .ok (.aload_n 0, 1) := by decide +kernel
theorem dX4_nextToken_175 : decode cX4_nextToken 175 = .ok (.invokevirtual 104, 3) := by decide +kernel
theorem dX4_nextToken_178 : decode cX4_nextToken 178 = .ok (.putfield 79, 3) := by decide +kernel
theorem dX4_nextToken_181 : decode cX4_nextToken 181 = .ok (.aload_n 0, 1) := by decide +kernel
theorem dX4_nextToken_182 : decode cX4_nextToken 182 = .ok (.getfield 37, 3) := by decide +kernel
theorem dX4_nextToken_185 : decode cX4_nextToken 185 = .ok (.aload_n 0, 1) := by decide +kernel
theorem dX4_nextToken_186 : decode cX4_nextToken 186 = .ok (.getfield 93, 3) := by decide +kernel
theorem dX4_nextToken_189 : decode cX4_nextToken 189 = .ok (.isub, 1) := by decide +kernel
theorem dX4_nextToken_190 : decode cX4_nextToken 190 = .ok (.iconst 2, 1) := by decide +kernel
theorem dX4_nextToken_191 : decode cX4_nextToken 191 = .ok (.if_icmp .le 11, 3) := by decide +kernel
theorem dX4_nextToken_194 : decode cX4_nextToken 194 = .ok (.aload_n 0, 1) := by decide +kernel
theorem dX4_nextToken_195 : decode cX4_nextToken 195 = .ok (.iconst 1, 1) := by decide +kernel
theorem dX4_nextToken_196 : decode cX4_nextToken 196 = .ok (.invokevirtual 54, 3) := by decide +kernel
theorem dX4_nextToken_199 : decode cX4_nextToken 199 = .ok (.ifCond .eq 7, 3) := by decide +kernel
theorem dX4_nextToken_202 : decode cX4_nextToken 202 = .ok (.iconst 1, 1) := by decide +kernel
theorem dX4_nextToken_203 : decode cX4_nextToken 203 = .ok (.goto 4, 3) := by decide +kernel
theorem dX4_nextToken_206 : decode cX4_nextToken 206 = .ok (.iconst 0, 1) := by decide +kernel
theorem dX4_nextToken_207 : decode cX4_nextToken 207 = .ok (.ireturn, 1) := by decide +kernel
theorem dX4_valueOfFigures_0 : decode cX4_valueOfFigures 0 = .ok (.iconst 0, 1) := by decide +kernel
theorem dX4_valueOfFigures_1 : decode cX4_valueOfFigures 1 = .ok (.istore_n 1, 1) := by decide +kernel
theorem dX4_valueOfFigures_2 : decode cX4_valueOfFigures 2 = .ok (.aload_n 0, 1) := by decide +kernel
theorem dX4_valueOfFigures_3 : decode cX4_valueOfFigures 3 = .ok (.getfield 93, 3) := by decide +kernel
theorem dX4_valueOfFigures_6 : decode cX4_valueOfFigures 6 = .ok (.istore_n 2, 1) := by decide +kernel
theorem dX4_valueOfFigures_7 : decode cX4_valueOfFigures 7 = .ok (.iload_n 2, 1) := by decide +kernel
theorem dX4_valueOfFigures_8 : decode cX4_valueOfFigures 8 = .ok (.aload_n 0, 1) := by decide +kernel
theorem dX4_valueOfFigures_9 : decode cX4_valueOfFigures 9 = .ok (.getfield 37, 3) := by decide +kernel
theorem dX4_valueOfFigures_12 : decode cX4_valueOfFigures 12 = .ok (.if_icmp .ge 27, 3) := by decide +kernel
theorem dX4_valueOfFigures_15 : decode cX4_valueOfFigures 15 = .ok (.bipush 10, 2) := by decide +kernel
theorem dX4_valueOfFigures_17 : decode cX4_valueOfFigures 17 = .ok (.iload_n 1, 1) := by decide +kernel
theorem dX4_valueOfFigures_18 : decode cX4_valueOfFigures 18 = .ok (.imul, 1) := by decide +kernel
theorem dX4_valueOfFigures_19 : decode cX4_valueOfFigures 19 = .ok (.aload_n 0, 1) := by decide +kernel
theorem dX4_valueOfFigures_20 : decode cX4_valueOfFigures 20 = .ok (.getfield 12, 3) := by decide +kernel
theorem dX4_valueOfFigures_23 : decode cX4_valueOfFigures 23 = .ok (.getfield 96, 3) := by decide +kernel
theorem dX4_valueOfFigures_26 : decode cX4_valueOfFigures 26 = .ok (.iload_n 2, 1) := by decide +kernel
theorem dX4_valueOfFigures_27 : decode cX4_valueOfFigures 27 = .ok (.baload, 1) := by decide +kernel
theorem dX4_valueOfFigures_28 : decode cX4_valueOfFigures 28 = .ok (.iadd, 1) := by decide +kernel
theorem dX4_valueOfFigures_29 : decode cX4_valueOfFigures 29 = .ok (.bipush 48, 2) := by decide +kernel
theorem dX4_valueOfFigures_31 : decode cX4_valueOfFigures 31 = .ok (.isub, 1) := by decide +kernel
theorem dX4_valueOfFigures_32 : decode cX4_valueOfFigures 32 = .ok (.istore_n 1, 1) := by decide +kernel
theorem dX4_valueOfFigures_33 : decode cX4_valueOfFigures 33 = .ok (.iinc 2 1, 3) := by decide +kernel
theorem dX4_valueOfFigures_36 : decode cX4_valueOfFigures 36 = .ok (.goto (-29), 3) := by decide +kernel
theorem dX4_valueOfFigures_39 : decode cX4_valueOfFigures 39 = .ok (.iload_n 1, 1) := by decide +kernel
theorem dX4_valueOfFigures_40 : decode cX4_valueOfFigures 40 = .ok (.ireturn, 1) := by decide +kernel
theorem dX4_endOfRun_0 : decode cX4_endOfRun 0 = .ok (.aload_n 0, 1) := by decide +kernel
theorem dX4_endOfRun_1 : decode cX4_endOfRun 1 = .ok (.getfield 93, 3) := by decide +kernel
theorem dX4_endOfRun_4 : decode cX4_endOfRun 4 = .ok (.istore_n 3, 1) := by decide +kernel
theorem dX4_endOfRun_5 : decode cX4_endOfRun 5 = .ok (.iload_n 3, 1) := by decide +kernel
theorem dX4_endOfRun_6 : decode cX4_endOfRun 6 = .ok (.aload_n 0, 1) := by decide +kernel
theorem dX4_endOfRun_7 : decode cX4_endOfRun 7 = .ok (.getfield 12, 3) := by decide +kernel
theorem dX4_endOfRun_10 : decode cX4_endOfRun 10 = .ok (.getfield 40, 3) := by decide +kernel
theorem dX4_endOfRun_13 : decode cX4_endOfRun 13 = .ok (.if_icmp .ge 26, 3) := by decide +kernel
theorem dX4_endOfRun_16 : decode cX4_endOfRun 16 = .ok (.aload_n 0, 1) := by decide +kernel
theorem dX4_endOfRun_17 : decode cX4_endOfRun 17 = .ok (.getfield 12, 3) := by decide +kernel
theorem dX4_endOfRun_20 : decode cX4_endOfRun 20 = .ok (.getfield 96, 3) := by decide +kernel
theorem dX4_endOfRun_23 : decode cX4_endOfRun 23 = .ok (.iload_n 3, 1) := by decide +kernel
theorem dX4_endOfRun_24 : decode cX4_endOfRun 24 = .ok (.baload, 1) := by decide +kernel
theorem dX4_endOfRun_25 : decode cX4_endOfRun 25 = .ok (.iload_n 1, 1) := by decide +kernel
theorem dX4_endOfRun_26 : decode cX4_endOfRun 26 = .ok (.iload_n 2, 1) := by decide +kernel
theorem dX4_endOfRun_27 : decode cX4_endOfRun 27 = .ok (.invokestatic 89, 3) := by decide +kernel
theorem dX4_endOfRun_30 : decode cX4_endOfRun 30 = .ok (.ifCond .eq 9, 3) := by decide +kernel
theorem dX4_endOfRun_33 : decode cX4_endOfRun 33 = .ok (.iinc 3 1, 3) := by decide +kernel
theorem dX4_endOfRun_36 : decode cX4_endOfRun 36 = .ok (.goto (-31), 3) := by decide +kernel
theorem dX4_endOfRun_39 : decode cX4_endOfRun 39 = .ok (.iload_n 3, 1) := by decide +kernel
theorem dX4_endOfRun_40 : decode cX4_endOfRun 40 = .ok (.ireturn, 1) := by decide +kernel
theorem dX4_kindNamed_0 : decode cX4_kindNamed 0 = .ok (.aload_n 0, 1) := by decide +kernel
theorem dX4_kindNamed_1 : decode cX4_kindNamed 1 = .ok (.ldc 107, 2) := by decide +kernel
theorem dX4_kindNamed_3 : decode cX4_kindNamed 3 = .ok (.invokevirtual 60, 3) := by decide +kernel
theorem dX4_kindNamed_6 : decode cX4_kindNamed 6 = .ok (.ifCond .eq 5, 3) := by decide +kernel
theorem dX4_kindNamed_9 : decode cX4_kindNamed 9 = .ok (.iconst 0, 1) := by decide +kernel
theorem dX4_kindNamed_10 : decode cX4_kindNamed 10 = .ok (.ireturn, 1) := by decide +kernel
theorem dX4_kindNamed_11 : decode cX4_kindNamed 11 = .ok (.aload_n 0, 1) := by decide +kernel
theorem dX4_kindNamed_12 : decode cX4_kindNamed 12 = .ok (.ldc 109, 2) := by decide +kernel
theorem dX4_kindNamed_14 : decode cX4_kindNamed 14 = .ok (.invokevirtual 60, 3) := by decide +kernel
theorem dX4_kindNamed_17 : decode cX4_kindNamed 17 = .ok (.ifCond .eq 5, 3) := by decide +kernel
theorem dX4_kindNamed_20 : decode cX4_kindNamed 20 = .ok (.iconst 1, 1) := by decide +kernel
theorem dX4_kindNamed_21 : decode cX4_kindNamed 21 = .ok (.ireturn, 1) := by decide +kernel
theorem dX4_kindNamed_22 : decode cX4_kindNamed 22 = .ok (.aload_n 0, 1) := by decide +kernel
theorem dX4_kindNamed_23 : decode cX4_kindNamed 23 = .ok (.ldc 111, 2) := by decide +kernel
theorem dX4_kindNamed_25 : decode cX4_kindNamed 25 = .ok (.invokevirtual 60, 3) := by decide +kernel
theorem dX4_kindNamed_28 : decode cX4_kindNamed 28 = .ok (.ifCond .eq 5, 3) := by decide +kernel
theorem dX4_kindNamed_31 : decode cX4_kindNamed 31 = .ok (.iconst 2, 1) := by decide +kernel
theorem dX4_kindNamed_32 : decode cX4_kindNamed 32 = .ok (.ireturn, 1) := by decide +kernel
theorem dX4_kindNamed_33 : decode cX4_kindNamed 33 = .ok (.aload_n 0, 1) := by decide +kernel
theorem dX4_kindNamed_34 : decode cX4_kindNamed 34 = .ok (.ldc 113, 2) := by decide +kernel
theorem dX4_kindNamed_36 : decode cX4_kindNamed 36 = .ok (.invokevirtual 60, 3) := by decide +kernel
theorem dX4_kindNamed_39 : decode cX4_kindNamed 39 = .ok (.ifCond .eq 7, 3) := by decide +kernel
theorem dX4_kindNamed_42 : decode cX4_kindNamed 42 = .ok (.iconst 3, 1) := by decide +kernel
theorem dX4_kindNamed_43 : decode cX4_kindNamed 43 = .ok (.goto 5, 3) := by decide +kernel
theorem dX4_kindNamed_46 : decode cX4_kindNamed 46 = .ok (.bipush (-4), 2) := by decide +kernel
theorem dX4_kindNamed_48 : decode cX4_kindNamed 48 = .ok (.ireturn, 1) := by decide +kernel
theorem dX4_isName_0 : decode cX4_isName 0 = .ok (.aload_n 0, 1) := by decide +kernel
theorem dX4_isName_1 : decode cX4_isName 1 = .ok (.getfield 37, 3) := by decide +kernel
theorem dX4_isName_4 : decode cX4_isName 4 = .ok (.aload_n 0, 1) := by decide +kernel
theorem dX4_isName_5 : decode cX4_isName 5 = .ok (.getfield 93, 3) := by decide +kernel
theorem dX4_isName_8 : decode cX4_isName 8 = .ok (.isub, 1) := by decide +kernel
theorem dX4_isName_9 : decode cX4_isName 9 = .ok (.aload_n 1, 1) := by decide +kernel
theorem dX4_isName_10 : decode cX4_isName 10 = .ok (.invokevirtual 115, 3) := by decide +kernel
theorem dX4_isName_13 : decode cX4_isName 13 = .ok (.if_icmp .eq 5, 3) := by decide +kernel
theorem dX4_isName_16 : decode cX4_isName 16 = .ok (.iconst 0, 1) := by decide +kernel
theorem dX4_isName_17 : decode cX4_isName 17 = .ok (.ireturn, 1) := by decide +kernel
theorem dX4_isName_18 : decode cX4_isName 18 = .ok (.iconst 0, 1) := by decide +kernel
theorem dX4_isName_19 : decode cX4_isName 19 = .ok (.istore_n 2, 1) := by decide +kernel
theorem dX4_isName_20 : decode cX4_isName 20 = .ok (.iload_n 2, 1) := by decide +kernel
theorem dX4_isName_21 : decode cX4_isName 21 = .ok (.aload_n 1, 1) := by decide +kernel
theorem dX4_isName_22 : decode cX4_isName 22 = .ok (.invokevirtual 115, 3) := by decide +kernel
theorem dX4_isName_25 : decode cX4_isName 25 = .ok (.if_icmp .ge 33, 3) := by decide +kernel
theorem dX4_isName_28 : decode cX4_isName 28 = .ok (.aload_n 0, 1) := by decide +kernel
theorem dX4_isName_29 : decode cX4_isName 29 = .ok (.getfield 12, 3) := by decide +kernel
theorem dX4_isName_32 : decode cX4_isName 32 = .ok (.getfield 96, 3) := by decide +kernel
theorem dX4_isName_35 : decode cX4_isName 35 = .ok (.aload_n 0, 1) := by decide +kernel
theorem dX4_isName_36 : decode cX4_isName 36 = .ok (.getfield 93, 3) := by decide +kernel
theorem dX4_isName_39 : decode cX4_isName 39 = .ok (.iload_n 2, 1) := by decide +kernel
theorem dX4_isName_40 : decode cX4_isName 40 = .ok (.iadd, 1) := by decide +kernel
theorem dX4_isName_41 : decode cX4_isName 41 = .ok (.baload, 1) := by decide +kernel
theorem dX4_isName_42 : decode cX4_isName 42 = .ok (.aload_n 1, 1) := by decide +kernel
theorem dX4_isName_43 : decode cX4_isName 43 = .ok (.iload_n 2, 1) := by decide +kernel
theorem dX4_isName_44 : decode cX4_isName 44 = .ok (.invokevirtual 119, 3) := by decide +kernel
theorem dX4_isName_47 : decode cX4_isName 47 = .ok (.if_icmp .eq 5, 3) := by decide +kernel
theorem dX4_isName_50 : decode cX4_isName 50 = .ok (.iconst 0, 1) := by decide +kernel
theorem dX4_isName_51 : decode cX4_isName 51 = .ok (.ireturn, 1) := by decide +kernel
theorem dX4_isName_52 : decode cX4_isName 52 = .ok (.iinc 2 1, 3) := by decide +kernel
theorem dX4_isName_55 : decode cX4_isName 55 = .ok (.goto (-35), 3) := by decide +kernel
theorem dX4_isName_58 : decode cX4_isName 58 = .ok (.iconst 1, 1) := by decide +kernel
theorem dX4_isName_59 : decode cX4_isName 59 = .ok (.ireturn, 1) := by decide +kernel
theorem dX4_fail_0 : decode cX4_fail 0 = .ok (.aload_n 0, 1) := by decide +kernel
theorem dX4_fail_1 : decode cX4_fail 1 = .ok (.iload_n 1, 1) := by decide +kernel
theorem dX4_fail_2 : decode cX4_fail 2 = .ok (.putfield 18, 3) := by decide +kernel
theorem dX4_fail_5 : decode cX4_fail 5 = .ok (.aload_n 0, 1) := by decide +kernel
theorem dX4_fail_6 : decode cX4_fail 6 = .ok (.aload_n 0, 1) := by decide +kernel
theorem dX4_fail_7 : decode cX4_fail 7 = .ok (.getfield 93, 3) := by decide +kernel
theorem dX4_fail_10 : decode cX4_fail 10 = .ok (.putfield 123, 3) := by decide +kernel
theorem dX4_fail_13 : decode cX4_fail 13 = .ok (.iconst 0, 1) := by decide +kernel
theorem dX4_fail_14 : decode cX4_fail 14 = .ok (.ireturn, 1) := by decide +kernel
