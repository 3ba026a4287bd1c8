theorem dX8_init_0 : decode cX8_init 0 = .ok (.aload_n 0, 1) := by decide +kernel
theorem dX8_init_1 : decode cX8_init 1 = .ok (.invokespecial 1, 3) := by decide +kernel
theorem dX8_init_4 : decode cX8_init 4 = .ok (.aload_n 0, 1) := by decide +kernel
theorem dX8_init_5 : decode cX8_init 5 = .ok (.new 7, 3) := by decide +kernel
theorem dX8_init_8 : decode cX8_init 8 = .ok (.dup, 1) := by decide +kernel
theorem dX8_init_9 : decode cX8_init 9 = .ok (.invokespecial 9, 3) := by decide +kernel
theorem dX8_init_12 : decode cX8_init 12 = .ok (.putfield 10, 3) := by decide +kernel
theorem dX8_init_15 : decode cX8_init 15 = .ok (.aload_n 0, 1) := by decide +kernel
theorem dX8_init_16 : decode cX8_init 16 = .ok (.new 16, 3) := by decide +kernel
theorem dX8_init_19 : decode cX8_init 19 = .ok (.dup, 1) := by decide +kernel
theorem dX8_init_20 : decode cX8_init 20 = .ok (.invokespecial 18, 3) := by decide +kernel
theorem dX8_init_23 : decode cX8_init 23 = .ok (.putfield 19, 3) := by decide +kernel
theorem dX8_init_26 : decode cX8_init 26 = .ok (.aload_n 0, 1) := by decide +kernel
theorem dX8_init_27 : decode cX8_init 27 = .ok (.new 23, 3) := by decide +kernel
theorem dX8_init_30 : decode cX8_init 30 = .ok (.dup, 1) := by decide +kernel
theorem dX8_init_31 : decode cX8_init 31 = .ok (.invokespecial 25, 3) := by decide +kernel
theorem dX8_init_34 : decode cX8_init 34 = .ok (.putfield 26, 3) := by decide +kernel
theorem dX8_init_37 : decode cX8_init 37 = .ok (.aload_n 0, 1) := by decide +kernel
theorem dX8_init_38 : decode cX8_init 38 = .ok (.new 30, 3) := by decide +kernel
theorem dX8_init_41 : decode cX8_init 41 = .ok (.dup, 1) := by decide +kernel
theorem dX8_init_42 : decode cX8_init 42 = .ok (.invokespecial 32, 3) := by decide +kernel
theorem dX8_init_45 : decode cX8_init 45 = .ok (.putfield 33, 3) := by decide +kernel
theorem dX8_init_48 : decode cX8_init 48 = .ok (.aload_n 0, 1) := by decide +kernel
theorem dX8_init_49 : decode cX8_init 49 = .ok (.new 37, 3) := by decide +kernel
theorem dX8_init_52 : decode cX8_init 52 = .ok (.dup, 1) := by decide +kernel
theorem dX8_init_53 : decode cX8_init 53 = .ok (.invokespecial 39, 3) := by decide +kernel
theorem dX8_init_56 : decode cX8_init 56 = .ok (.putfield 40, 3) := by decide +kernel
theorem dX8_init_59 : decode cX8_init 59 = .ok (.aload_n 0, 1) := by decide +kernel
theorem dX8_init_60 : decode cX8_init 60 = .ok (.new 44, 3) := by decide +kernel
theorem dX8_init_63 : decode cX8_init 63 = .ok (.dup, 1) := by decide +kernel
theorem dX8_init_64 : decode cX8_init 64 = .ok (.invokespecial 46, 3) := by decide +kernel
theorem dX8_init_67 : decode cX8_init 67 = .ok (.putfield 47, 3) := by decide +kernel
theorem dX8_init_70 : decode cX8_init 70 = .ok (.aload_n 0, 1) := by decide +kernel
theorem dX8_init_71 : decode cX8_init 71 = .ok (.new 51, 3) := by decide +kernel
theorem dX8_init_74 : decode cX8_init 74 = .ok (.dup, 1) := by decide +kernel
theorem dX8_init_75 : decode cX8_init 75 = .ok (.invokespecial 53, 3) := by decide +kernel
theorem dX8_init_78 : decode cX8_init 78 = .ok (.putfield 54, 3) := by decide +kernel
theorem dX8_init_81 : decode cX8_init 81 = .ok (.aload_n 0, 1) := by decide +kernel
theorem dX8_init_82 : decode cX8_init 82 = .ok (.new 58, 3) := by decide +kernel
theorem dX8_init_85 : decode cX8_init 85 = .ok (.dup, 1) := by decide +kernel
theorem dX8_init_86 : decode cX8_init 86 = .ok (.invokespecial 60, 3) := by decide +kernel
theorem dX8_init_89 : decode cX8_init 89 = .ok (.putfield 61, 3) := by decide +kernel
theorem dX8_init_92 : decode cX8_init 92 = .ok (.aload_n 0, 1) := by decide +kernel
theorem dX8_init_93 : decode cX8_init 93 = .ok (.iconst 1, 1) := by decide +kernel
theorem dX8_init_94 : decode cX8_init 94 = .ok (.putfield 65, 3) := by decide +kernel
theorem dX8_init_97 : decode cX8_init 97 = .ok (.aload_n 0, 1) := by decide +kernel
theorem dX8_init_98 : decode cX8_init 98 = .ok (.iconst 0, 1) := by decide +kernel
theorem dX8_init_99 : decode cX8_init 99 = .ok (.putfield 69, 3) := by decide +kernel
theorem dX8_init_102 : decode cX8_init 102 = .ok (.return_, 1) := by decide +kernel
theorem dX8_feed_0 : decode cX8_feed 0 = .ok (.aload_n 0, 1) := by decide +kernel
theorem dX8_feed_1 : decode cX8_feed 1 = .ok (.getfield 10, 3) := by decide +kernel
theorem dX8_feed_4 : decode cX8_feed 4 = .ok (.getfield 72, 3) := by decide +kernel
theorem dX8_feed_7 : decode cX8_feed 7 = .ok (.bipush 20, 2) := by decide +kernel
theorem dX8_feed_9 : decode cX8_feed 9 = .ok (.iadd, 1) := by decide +kernel
theorem dX8_feed_10 : decode cX8_feed 10 = .ok (.bipush 40, 2) := by decide +kernel
theorem dX8_feed_12 : decode cX8_feed 12 = .ok (.if_icmp .le 5, 3) := by decide +kernel
theorem dX8_feed_15 : decode cX8_feed 15 = .ok (.iconst (-1), 1) := by decide +kernel
theorem dX8_feed_16 : decode cX8_feed 16 = .ok (.ireturn, 1) := by decide +kernel
theorem dX8_feed_17 : decode cX8_feed 17 = .ok (.aload_n 0, 1) := by decide +kernel
theorem dX8_feed_18 : decode cX8_feed 18 = .ok (.getfield 10, 3) := by decide +kernel
theorem dX8_feed_21 : decode cX8_feed 21 = .ok (.iload_n 1, 1) := by decide +kernel
theorem dX8_feed_22 : decode cX8_feed 22 = .ok (.invokevirtual 75, 3) := by decide +kernel
theorem dX8_feed_25 : decode cX8_feed 25 = .ok (.aload_n 0, 1) := by decide +kernel
theorem dX8_feed_26 : decode cX8_feed 26 = .ok (.getfield 10, 3) := by decide +kernel
theorem dX8_feed_29 : decode cX8_feed 29 = .ok (.iload_n 2, 1) := by decide +kernel
theorem dX8_feed_30 : decode cX8_feed 30 = .ok (.invokevirtual 75, 3) := by decide +kernel
theorem dX8_feed_33 : decode cX8_feed 33 = .ok (.aload_n 0, 1) := by decide +kernel
theorem dX8_feed_34 : decode cX8_feed 34 = .ok (.getfield 10, 3) := by decide +kernel
theorem dX8_feed_37 : decode cX8_feed 37 = .ok (.iload_n 3, 1) := by decide +kernel
theorem dX8_feed_38 : decode cX8_feed 38 = .ok (.invokevirtual 75, 3) := by decide +kernel
theorem dX8_feed_41 : decode cX8_feed 41 = .ok (.aload_n 0, 1) := by decide +kernel
theorem dX8_feed_42 : decode cX8_feed 42 = .ok (.getfield 10, 3) := by decide +kernel
theorem dX8_feed_45 : decode cX8_feed 45 = .ok (.iload 4, 2) := by decide +kernel
theorem dX8_feed_47 : decode cX8_feed 47 = .ok (.invokevirtual 75, 3) := by decide +kernel
theorem dX8_feed_50 : decode cX8_feed 50 = .ok (.aload_n 0, 1) := by decide +kernel
theorem dX8_feed_51 : decode cX8_feed 51 = .ok (.getfield 10, 3) := by decide +kernel
theorem dX8_feed_54 : decode cX8_feed 54 = .ok (.iload 5, 2) := by decide +kernel
theorem dX8_feed_56 : decode cX8_feed 56 = .ok (.invokevirtual 75, 3) := by decide +kernel
theorem dX8_feed_59 : decode cX8_feed 59 = .ok (.aload_n 0, 1) := by decide +kernel
theorem dX8_feed_60 : decode cX8_feed 60 = .ok (.getfield 10, 3) := by decide +kernel
theorem dX8_feed_63 : decode cX8_feed 63 = .ok (.getfield 72, 3) := by decide +kernel
theorem dX8_feed_66 : decode cX8_feed 66 = .ok (.ireturn, 1) := by decide +kernel
theorem dX8_rules_0 : decode cX8_rules 0 = .ok (.iload_n 1, 1) := by decide +kernel
theorem dX8_rules_1 : decode cX8_rules 1 = .ok (.iconst 0, 1) := by decide +kernel
theorem dX8_rules_2 : decode cX8_rules 2 = .ok (.aload_n 0, 1) := by decide +kernel
theorem dX8_rules_3 : decode cX8_rules 3 = .ok (.getfield 10, 3) := by decide +kernel
theorem dX8_rules_6 : decode cX8_rules 6 = .ok (.getfield 72, 3) := by decide +kernel
theorem dX8_rules_9 : decode cX8_rules 9 = .ok (.invokestatic 79, 3) := by decide +kernel
theorem dX8_rules_12 : decode cX8_rules 12 = .ok (.ifCond .ne 5, 3) := by decide +kernel
theorem dX8_rules_15 : decode cX8_rules 15 = .ok (.iconst (-1), 1) := by decide +kernel
theorem dX8_rules_16 : decode cX8_rules 16 = .ok (.ireturn, 1) := by decide +kernel
theorem dX8_rules_17 : decode cX8_rules 17 = .ok (.aload_n 0, 1) := by decide +kernel
theorem dX8_rules_18 : decode cX8_rules 18 = .ok (.getfield 19, 3) := by decide +kernel
theorem dX8_rules_21 : decode cX8_rules 21 = .ok (.aload_n 0, 1) := by decide +kernel
theorem dX8_rules_22 : decode cX8_rules 22 = .ok (.getfield 10, 3) := by decide +kernel
theorem dX8_rules_25 : decode cX8_rules 25 = .ok (.iload_n 1, 1) := by decide +kernel
theorem dX8_rules_26 : decode cX8_rules 26 = .ok (.invokevirtual 83, 3) := by decide +kernel
theorem dX8_rules_29 : decode cX8_rules 29 = .ok (.istore_n 2, 1) := by decide +kernel
theorem dX8_rules_30 : decode cX8_rules 30 = .ok (.aload_n 0, 1) := by decide +kernel
theorem dX8_rules_31 : decode cX8_rules 31 = .ok (.getfield 10, 3) := by decide +kernel
theorem dX8_rules_34 : decode cX8_rules 34 = .ok (.iconst 0, 1) := by decide +kernel
theorem dX8_rules_35 : decode cX8_rules 35 = .ok (.putfield 72, 3) := by decide +kernel
theorem dX8_rules_38 : decode cX8_rules 38 = .ok (.iload_n 2, 1) := by decide +kernel
theorem dX8_rules_39 : decode cX8_rules 39 = .ok (.ireturn, 1) := by decide +kernel
theorem dX8_alp_0 : decode cX8_alp 0 = .ok (.aload_n 0, 1) := by decide +kernel
theorem dX8_alp_1 : decode cX8_alp 1 = .ok (.getfield 65, 3) := by decide +kernel
theorem dX8_alp_4 : decode cX8_alp 4 = .ok (.iconst 1, 1) := by decide +kernel
theorem dX8_alp_5 : decode cX8_alp 5 = .ok (.if_icmp .ne 35, 3) := by decide +kernel
theorem dX8_alp_8 : decode cX8_alp 8 = .ok (.aload_n 0, 1) := by decide +kernel
theorem dX8_alp_9 : decode cX8_alp 9 = .ok (.getfield 69, 3) := by decide +kernel
theorem dX8_alp_12 : decode cX8_alp 12 = .ok (.ifCond .ne 28, 3) := by decide +kernel
theorem dX8_alp_15 : decode cX8_alp 15 = .ok (.aload_n 0, 1) := by decide +kernel
theorem dX8_alp_16 : decode cX8_alp 16 = .ok (.getfield 26, 3) := by decide +kernel
theorem dX8_alp_19 : decode cX8_alp 19 = .ok (.getfield 87, 3) := by decide +kernel
theorem dX8_alp_22 : decode cX8_alp 22 = .ok (.iconst (-1), 1) := by decide +kernel
theorem dX8_alp_23 : decode cX8_alp 23 = .ok (.if_icmp .ne 17, 3) := by decide +kernel
theorem dX8_alp_26 : decode cX8_alp 26 = .ok (.aload_n 0, 1) := by decide +kernel
theorem dX8_alp_27 : decode cX8_alp 27 = .ok (.getfield 40, 3) := by decide +kernel
theorem dX8_alp_30 : decode cX8_alp 30 = .ok (.getfield 90, 3) := by decide +kernel
theorem dX8_alp_33 : decode cX8_alp 33 = .ok (.ifCond .ne 7, 3) := by decide +kernel
theorem dX8_alp_36 : decode cX8_alp 36 = .ok (.iconst 1, 1) := by decide +kernel
theorem dX8_alp_37 : decode cX8_alp 37 = .ok (.goto 4, 3) := by decide +kernel
theorem dX8_alp_40 : decode cX8_alp 40 = .ok (.iconst 0, 1) := by decide +kernel
theorem dX8_alp_41 : decode cX8_alp 41 = .ok (.istore_n 2, 1) := by decide +kernel
theorem dX8_alp_42 : decode cX8_alp 42 = .ok (.iload_n 2, 1) := by decide +kernel
theorem dX8_alp_43 : decode cX8_alp 43 = .ok (.ifCond .eq 13, 3) := by decide +kernel
theorem dX8_alp_46 : decode cX8_alp 46 = .ok (.iload_n 1, 1) := by decide +kernel
theorem dX8_alp_47 : decode cX8_alp 47 = .ok (.iconst 1, 1) := by decide +kernel
theorem dX8_alp_48 : decode cX8_alp 48 = .ok (.bipush 6, 2) := by decide +kernel
theorem dX8_alp_50 : decode cX8_alp 50 = .ok (.invokestatic 79, 3) := by decide +kernel
theorem dX8_alp_53 : decode cX8_alp 53 = .ok (.ifCond .ne 5, 3) := by decide +kernel
theorem dX8_alp_56 : decode cX8_alp 56 = .ok (.iconst 0, 1) := by decide +kernel
theorem dX8_alp_57 : decode cX8_alp 57 = .ok (.ireturn, 1) := by decide +kernel
theorem dX8_alp_58 : decode cX8_alp 58 = .ok (.aload_n 0, 1) := by decide +kernel
theorem dX8_alp_59 : decode cX8_alp 59 = .ok (.getfield 26, 3) := by decide +kernel
theorem dX8_alp_62 : decode cX8_alp 62 = .ok (.iload_n 1, 1) := by decide +kernel
theorem dX8_alp_63 : decode cX8_alp 63 = .ok (.invokevirtual 93, 3) := by decide +kernel
theorem dX8_alp_66 : decode cX8_alp 66 = .ok (.iconst 1, 1) := by decide +kernel
theorem dX8_alp_67 : decode cX8_alp 67 = .ok (.ireturn, 1) := by decide +kernel
theorem dX8_height_0 : decode cX8_height 0 = .ok (.aload_n 0, 1) := by decide +kernel
theorem dX8_height_1 : decode cX8_height 1 = .ok (.getfield 26, 3) := by decide +kernel
theorem dX8_height_4 : decode cX8_height 4 = .ok (.iload_n 1, 1) := by decide +kernel
theorem dX8_height_5 : decode cX8_height 5 = .ok (.invokevirtual 96, 3) := by decide +kernel
theorem dX8_height_8 : decode cX8_height 8 = .ok (.ifCond .eq 34, 3) := by decide +kernel
theorem dX8_height_11 : decode cX8_height 11 = .ok (.iload_n 2, 1) := by decide +kernel
theorem dX8_height_12 : decode cX8_height 12 = .ok (.iconst 0, 1) := by decide +kernel
theorem dX8_height_13 : decode cX8_height 13 = .ok (.ldc 100, 2) := by decide +kernel
theorem dX8_height_15 : decode cX8_height 15 = .ok (.invokestatic 79, 3) := by decide +kernel
theorem dX8_height_18 : decode cX8_height 18 = .ok (.ifCond .eq 24, 3) := by decide +kernel
theorem dX8_height_21 : decode cX8_height 21 = .ok (.iload_n 3, 1) := by decide +kernel
theorem dX8_height_22 : decode cX8_height 22 = .ok (.iconst 1, 1) := by decide +kernel
theorem dX8_height_23 : decode cX8_height 23 = .ok (.ldc 100, 2) := by decide +kernel
theorem dX8_height_25 : decode cX8_height 25 = .ok (.invokestatic 79, 3) := by decide +kernel
theorem dX8_height_28 : decode cX8_height 28 = .ok (.ifCond .eq 14, 3) := by decide +kernel
theorem dX8_height_31 : decode cX8_height 31 = .ok (.iload 4, 2) := by decide +kernel
theorem dX8_height_33 : decode cX8_height 33 = .ok (.iconst 0, 1) := by decide +kernel
theorem dX8_height_34 : decode cX8_height 34 = .ok (.bipush 100, 2) := by decide +kernel
theorem dX8_height_36 : decode cX8_height 36 = .ok (.invokestatic 79, 3) := by decide +kernel
theorem dX8_height_39 : decode cX8_height 39 = .ok (.ifCond .ne 5, 3) := by decide +kernel
theorem dX8_height_42 : decode cX8_height 42 = .ok (.iconst 0, 1) := by decide +kernel
theorem dX8_height_43 : decode cX8_height 43 = .ok (.ireturn, 1) := by decide +kernel
theorem dX8_height_44 : decode cX8_height 44 = .ok (.aload_n 0, 1) := by decide +kernel
theorem dX8_height_45 : decode cX8_height 45 = .ok (.getfield 26, 3) := by decide +kernel
theorem dX8_height_48 : decode cX8_height 48 = .ok (.getfield 101, 3) := by decide +kernel
theorem dX8_height_51 : decode cX8_height 51 = .ok (.iload_n 1, 1) := by decide +kernel
theorem dX8_height_52 : decode cX8_height 52 = .ok (.iload_n 2, 1) := by decide +kernel
theorem dX8_height_53 : decode cX8_height 53 = .ok (.iastore, 1) := by decide +kernel
theorem dX8_height_54 : decode cX8_height 54 = .ok (.aload_n 0, 1) := by decide +kernel
theorem dX8_height_55 : decode cX8_height 55 = .ok (.getfield 26, 3) := by decide +kernel
theorem dX8_height_58 : decode cX8_height 58 = .ok (.getfield 105, 3) := by decide +kernel
theorem dX8_height_61 : decode cX8_height 61 = .ok (.iload_n 1, 1) := by decide +kernel
theorem dX8_height_62 : decode cX8_height 62 = .ok (.iload_n 3, 1) := by decide +kernel
theorem dX8_height_63 : decode cX8_height 63 = .ok (.iastore, 1) := by decide +kernel
theorem dX8_height_64 : decode cX8_height 64 = .ok (.aload_n 0, 1) := by decide +kernel
theorem dX8_height_65 : decode cX8_height 65 = .ok (.getfield 26, 3) := by decide +kernel
theorem dX8_height_68 : decode cX8_height 68 = .ok (.getfield 108, 3) := by decide +kernel
theorem dX8_height_71 : decode cX8_height 71 = .ok (.iload_n 1, 1) := by decide +kernel
theorem dX8_height_72 : decode cX8_height 72 = .ok (.iload 4, 2) := by decide +kernel
theorem dX8_height_74 : decode cX8_height 74 = .ok (.iastore, 1) := by decide +kernel
theorem dX8_height_75 : decode cX8_height 75 = .ok (.iconst 1, 1) := by decide +kernel
theorem dX8_height_76 : decode cX8_height 76 = .ok (.ireturn, 1) := by decide +kernel
theorem dX8_sheep_0 : decode cX8_sheep 0 = .ok (.iload_n 1, 1) := by decide +kernel
theorem dX8_sheep_1 : decode cX8_sheep 1 = .ok (.invokestatic 111, 3) := by decide +kernel
theorem dX8_sheep_4 : decode cX8_sheep 4 = .ok (.ifCond .eq 25, 3) := by decide +kernel
theorem dX8_sheep_7 : decode cX8_sheep 7 = .ok (.aload_n 0, 1) := by decide +kernel
theorem dX8_sheep_8 : decode cX8_sheep 8 = .ok (.getfield 40, 3) := by decide +kernel
theorem dX8_sheep_11 : decode cX8_sheep 11 = .ok (.getfield 114, 3) := by decide +kernel
theorem dX8_sheep_14 : decode cX8_sheep 14 = .ok (.bipush 80, 2) := by decide +kernel
theorem dX8_sheep_16 : decode cX8_sheep 16 = .ok (.if_icmp .ge 13, 3) := by decide +kernel
theorem dX8_sheep_19 : decode cX8_sheep 19 = .ok (.aload_n 0, 1) := by decide +kernel
theorem dX8_sheep_20 : decode cX8_sheep 20 = .ok (.getfield 40, 3) := by decide +kernel
theorem dX8_sheep_23 : decode cX8_sheep 23 = .ok (.getfield 90, 3) := by decide +kernel
theorem dX8_sheep_26 : decode cX8_sheep 26 = .ok (.ifCond .le 5, 3) := by decide +kernel
theorem dX8_sheep_29 : decode cX8_sheep 29 = .ok (.iconst (-1), 1) := by decide +kernel
theorem dX8_sheep_30 : decode cX8_sheep 30 = .ok (.ireturn, 1) := by decide +kernel
theorem dX8_sheep_31 : decode cX8_sheep 31 = .ok (.aload_n 0, 1) := by decide +kernel
theorem dX8_sheep_32 : decode cX8_sheep 32 = .ok (.getfield 40, 3) := by decide +kernel
theorem dX8_sheep_35 : decode cX8_sheep 35 = .ok (.iload_n 1, 1) := by decide +kernel
theorem dX8_sheep_36 : decode cX8_sheep 36 = .ok (.invokevirtual 115, 3) := by decide +kernel
theorem dX8_sheep_39 : decode cX8_sheep 39 = .ok (.ireturn, 1) := by decide +kernel
theorem dX8_move_0 : decode cX8_move 0 = .ok (.aload_n 0, 1) := by decide +kernel
theorem dX8_move_1 : decode cX8_move 1 = .ok (.getfield 26, 3) := by decide +kernel
theorem dX8_move_4 : decode cX8_move 4 = .ok (.iload_n 1, 1) := by decide +kernel
theorem dX8_move_5 : decode cX8_move 5 = .ok (.invokevirtual 119, 3) := by decide +kernel
theorem dX8_move_8 : decode cX8_move 8 = .ok (.ifCond .ne 5, 3) := by decide +kernel
theorem dX8_move_11 : decode cX8_move 11 = .ok (.iconst 0, 1) := by decide +kernel
theorem dX8_move_12 : decode cX8_move 12 = .ok (.ireturn, 1) := by decide +kernel
theorem dX8_move_13 : decode cX8_move 13 = .ok (.aload_n 0, 1) := by decide +kernel
theorem dX8_move_14 : decode cX8_move 14 = .ok (.getfield 26, 3) := by decide +kernel
theorem dX8_move_17 : decode cX8_move 17 = .ok (.iload_n 1, 1) := by decide +kernel
theorem dX8_move_18 : decode cX8_move 18 = .ok (.putfield 87, 3) := by decide +kernel
theorem dX8_move_21 : decode cX8_move 21 = .ok (.iconst 1, 1) := by decide +kernel
theorem dX8_move_22 : decode cX8_move 22 = .ok (.ireturn, 1) := by decide +kernel
theorem dX8_day_0 : decode cX8_day 0 = .ok (.iload_n 1, 1) := by decide +kernel
theorem dX8_day_1 : decode cX8_day 1 = .ok (.invokestatic 122, 3) := by decide +kernel
theorem dX8_day_4 : decode cX8_day 4 = .ok (.ifCond .eq 24, 3) := by decide +kernel
theorem dX8_day_7 : decode cX8_day 7 = .ok (.iload_n 2, 1) := by decide +kernel
theorem dX8_day_8 : decode cX8_day 8 = .ok (.iconst 0, 1) := by decide +kernel
theorem dX8_day_9 : decode cX8_day 9 = .ok (.sipush 300, 3) := by decide +kernel
theorem dX8_day_12 : decode cX8_day 12 = .ok (.invokestatic 79, 3) := by decide +kernel
theorem dX8_day_15 : decode cX8_day 15 = .ok (.ifCond .eq 13, 3) := by decide +kernel
theorem dX8_day_18 : decode cX8_day 18 = .ok (.aload_n 0, 1) := by decide +kernel
theorem dX8_day_19 : decode cX8_day 19 = .ok (.getfield 69, 3) := by decide +kernel
theorem dX8_day_22 : decode cX8_day 22 = .ok (.sipush 150, 3) := by decide +kernel
theorem dX8_day_25 : decode cX8_day 25 = .ok (.if_icmp .lt 5, 3) := by decide +kernel
theorem dX8_day_28 : decode cX8_day 28 = .ok (.iconst (-1), 1) := by decide +kernel
theorem dX8_day_29 : decode cX8_day 29 = .ok (.ireturn, 1) := by decide +kernel
theorem dX8_day_30 : decode cX8_day 30 = .ok (.aload_n 0, 1) := by decide +kernel
theorem dX8_day_31 : decode cX8_day 31 = .ok (.dup, 1) := by decide +kernel
theorem dX8_day_32 : decode cX8_day 32 = .ok (.getfield 69, 3) := by decide +kernel
theorem dX8_day_35 : decode cX8_day 35 = .ok (.iconst 1, 1) := by decide +kernel
theorem dX8_day_36 : decode cX8_day 36 = .ok (.iadd, 1) := by decide +kernel
theorem dX8_day_37 : decode cX8_day 37 = .ok (.putfield 69, 3) := by decide +kernel
theorem dX8_day_40 : decode cX8_day 40 = .ok (.aload_n 0, 1) := by decide +kernel
theorem dX8_day_41 : decode cX8_day 41 = .ok (.getfield 26, 3) := by decide +kernel
theorem dX8_day_44 : decode cX8_day 44 = .ok (.iload_n 1, 1) := by decide +kernel
theorem dX8_day_45 : decode cX8_day 45 = .ok (.iload_n 2, 1) := by decide +kernel
theorem dX8_day_46 : decode cX8_day 46 = .ok (.aload_n 0, 1) := by decide +kernel
theorem dX8_day_47 : decode cX8_day 47 = .ok (.getfield 40, 3) := by decide +kernel
theorem dX8_day_50 : decode cX8_day 50 = .ok (.aload_n 0, 1) := by decide +kernel
theorem dX8_day_51 : decode cX8_day 51 = .ok (.getfield 69, 3) := by decide +kernel
theorem dX8_day_54 : decode cX8_day 54 = .ok (.invokevirtual 125, 3) := by decide +kernel
theorem dX8_day_57 : decode cX8_day 57 = .ok (.invokevirtual 128, 3) := by decide +kernel
theorem dX8_day_60 : decode cX8_day 60 = .ok (.aload_n 0, 1) := by decide +kernel
theorem dX8_day_61 : decode cX8_day 61 = .ok (.getfield 69, 3) := by decide +kernel
theorem dX8_day_64 : decode cX8_day 64 = .ok (.ireturn, 1) := by decide +kernel
theorem dX8_act_0 : decode cX8_act 0 = .ok (.iload_n 1, 1) := by decide +kernel
theorem dX8_act_1 : decode cX8_act 1 = .ok (.iconst 0, 1) := by decide +kernel
theorem dX8_act_2 : decode cX8_act 2 = .ok (.iconst 3, 1) := by decide +kernel
theorem dX8_act_3 : decode cX8_act 3 = .ok (.invokestatic 79, 3) := by decide +kernel
theorem dX8_act_6 : decode cX8_act 6 = .ok (.ifCond .eq 25, 3) := by decide +kernel
theorem dX8_act_9 : decode cX8_act 9 = .ok (.aload_n 0, 1) := by decide +kernel
theorem dX8_act_10 : decode cX8_act 10 = .ok (.getfield 40, 3) := by decide +kernel
theorem dX8_act_13 : decode cX8_act 13 = .ok (.iload_n 2, 1) := by decide +kernel
theorem dX8_act_14 : decode cX8_act 14 = .ok (.invokevirtual 132, 3) := by decide +kernel
theorem dX8_act_17 : decode cX8_act 17 = .ok (.ifCond .eq 14, 3) := by decide +kernel
theorem dX8_act_20 : decode cX8_act 20 = .ok (.iload_n 3, 1) := by decide +kernel
theorem dX8_act_21 : decode cX8_act 21 = .ok (.iconst 1, 1) := by decide +kernel
theorem dX8_act_22 : decode cX8_act 22 = .ok (.sipush 150, 3) := by decide +kernel
theorem dX8_act_25 : decode cX8_act 25 = .ok (.invokestatic 79, 3) := by decide +kernel
theorem dX8_act_28 : decode cX8_act 28 = .ok (.ifCond .ne 5, 3) := by decide +kernel
theorem dX8_act_31 : decode cX8_act 31 = .ok (.iconst (-1), 1) := by decide +kernel
theorem dX8_act_32 : decode cX8_act 32 = .ok (.ireturn, 1) := by decide +kernel
theorem dX8_act_33 : decode cX8_act 33 = .ok (.iload_n 1, 1) := by decide +kernel
theorem dX8_act_34 : decode cX8_act 34 = .ok (.iconst 3, 1) := by decide +kernel
theorem dX8_act_35 : decode cX8_act 35 = .ok (.if_icmp .ne 13, 3) := by decide +kernel
theorem dX8_act_38 : decode cX8_act 38 = .ok (.iload 4, 2) := by decide +kernel
theorem dX8_act_40 : decode cX8_act 40 = .ok (.invokestatic 111, 3) := by decide +kernel
theorem dX8_act_43 : decode cX8_act 43 = .ok (.ifCond .ne 5, 3) := by decide +kernel
theorem dX8_act_46 : decode cX8_act 46 = .ok (.iconst (-1), 1) := by decide +kernel
theorem dX8_act_47 : decode cX8_act 47 = .ok (.ireturn, 1) := by decide +kernel
theorem dX8_act_48 : decode cX8_act 48 = .ok (.aload_n 0, 1) := by decide +kernel
theorem dX8_act_49 : decode cX8_act 49 = .ok (.getfield 40, 3) := by decide +kernel
theorem dX8_act_52 : decode cX8_act 52 = .ok (.getfield 90, 3) := by decide +kernel
theorem dX8_act_55 : decode cX8_act 55 = .ok (.bipush 100, 2) := by decide +kernel
theorem dX8_act_57 : decode cX8_act 57 = .ok (.if_icmp .lt 5, 3) := by decide +kernel
theorem dX8_act_60 : decode cX8_act 60 = .ok (.iconst (-1), 1) := by decide +kernel
theorem dX8_act_61 : decode cX8_act 61 = .ok (.ireturn, 1) := by decide +kernel
theorem dX8_act_62 : decode cX8_act 62 = .ok (.aload_n 0, 1) := by decide +kernel
theorem dX8_act_63 : decode cX8_act 63 = .ok (.getfield 40, 3) := by decide +kernel
theorem dX8_act_66 : decode cX8_act 66 = .ok (.iload_n 1, 1) := by decide +kernel
theorem dX8_act_67 : decode cX8_act 67 = .ok (.iload_n 2, 1) := by decide +kernel
theorem dX8_act_68 : decode cX8_act 68 = .ok (.iload_n 3, 1) := by decide +kernel
theorem dX8_act_69 : decode cX8_act 69 = .ok (.iload_n 1, 1) := by decide +kernel
theorem dX8_act_70 : decode cX8_act 70 = .ok (.iconst 3, 1) := by decide +kernel
theorem dX8_act_71 : decode cX8_act 71 = .ok (.if_icmp .ne 8, 3) := by decide +kernel
theorem dX8_act_74 : decode cX8_act 74 = .ok (.iload 4, 2) := by decide +kernel
theorem dX8_act_76 : decode cX8_act 76 = .ok (.goto 4, 3) := by decide +kernel
theorem dX8_act_79 : decode cX8_act 79 = .ok (.iconst (-1), 1) := by decide +kernel
theorem dX8_act_80 : decode cX8_act 80 = .ok (.aload_n 0, 1) := by decide +kernel
theorem dX8_act_81 : decode cX8_act 81 = .ok (.getfield 47, 3) := by decide +kernel
theorem dX8_act_84 : decode cX8_act 84 = .ok (.invokevirtual 133, 3) := by decide +kernel
theorem dX8_act_87 : decode cX8_act 87 = .ok (.ireturn, 1) := by decide +kernel
theorem dX8_milking_0 : decode cX8_milking 0 = .ok (.iload_n 1, 1) := by decide +kernel
theorem dX8_milking_1 : decode cX8_milking 1 = .ok (.iconst 1, 1) := by decide +kernel
theorem dX8_milking_2 : decode cX8_milking 2 = .ok (.sipush 150, 3) := by decide +kernel
theorem dX8_milking_5 : decode cX8_milking 5 = .ok (.invokestatic 79, 3) := by decide +kernel
theorem dX8_milking_8 : decode cX8_milking 8 = .ok (.ifCond .eq 14, 3) := by decide +kernel
theorem dX8_milking_11 : decode cX8_milking 11 = .ok (.aload_n 0, 1) := by decide +kernel
theorem dX8_milking_12 : decode cX8_milking 12 = .ok (.getfield 54, 3) := by decide +kernel
theorem dX8_milking_15 : decode cX8_milking 15 = .ok (.getfield 137, 3) := by decide +kernel
theorem dX8_milking_18 : decode cX8_milking 18 = .ok (.iconst (-1), 1) := by decide +kernel
theorem dX8_milking_19 : decode cX8_milking 19 = .ok (.if_icmp .eq 5, 3) := by decide +kernel
theorem dX8_milking_22 : decode cX8_milking 22 = .ok (.iconst 0, 1) := by decide +kernel
theorem dX8_milking_23 : decode cX8_milking 23 = .ok (.ireturn, 1) := by decide +kernel
theorem dX8_milking_24 : decode cX8_milking 24 = .ok (.aload_n 0, 1) := by decide +kernel
theorem dX8_milking_25 : decode cX8_milking 25 = .ok (.getfield 54, 3) := by decide +kernel
theorem dX8_milking_28 : decode cX8_milking 28 = .ok (.iload_n 1, 1) := by decide +kernel
theorem dX8_milking_29 : decode cX8_milking 29 = .ok (.putfield 137, 3) := by decide +kernel
theorem dX8_milking_32 : decode cX8_milking 32 = .ok (.iconst 1, 1) := by decide +kernel
theorem dX8_milking_33 : decode cX8_milking 33 = .ok (.ireturn, 1) := by decide +kernel
theorem dX8_milk_0 : decode cX8_milk 0 = .ok (.aload_n 0, 1) := by decide +kernel
theorem dX8_milk_1 : decode cX8_milk 1 = .ok (.getfield 40, 3) := by decide +kernel
theorem dX8_milk_4 : decode cX8_milk 4 = .ok (.iload_n 1, 1) := by decide +kernel
theorem dX8_milk_5 : decode cX8_milk 5 = .ok (.invokevirtual 132, 3) := by decide +kernel
theorem dX8_milk_8 : decode cX8_milk 8 = .ok (.ifCond .eq 25, 3) := by decide +kernel
theorem dX8_milk_11 : decode cX8_milk 11 = .ok (.iload_n 2, 1) := by decide +kernel
theorem dX8_milk_12 : decode cX8_milk 12 = .ok (.iconst 0, 1) := by decide +kernel
theorem dX8_milk_13 : decode cX8_milk 13 = .ok (.sipush 5000, 3) := by decide +kernel
theorem dX8_milk_16 : decode cX8_milk 16 = .ok (.invokestatic 79, 3) := by decide +kernel
theorem dX8_milk_19 : decode cX8_milk 19 = .ok (.ifCond .eq 14, 3) := by decide +kernel
theorem dX8_milk_22 : decode cX8_milk 22 = .ok (.aload_n 0, 1) := by decide +kernel
theorem dX8_milk_23 : decode cX8_milk 23 = .ok (.getfield 54, 3) := by decide +kernel
theorem dX8_milk_26 : decode cX8_milk 26 = .ok (.getfield 137, 3) := by decide +kernel
theorem dX8_milk_29 : decode cX8_milk 29 = .ok (.iconst (-1), 1) := by decide +kernel
theorem dX8_milk_30 : decode cX8_milk 30 = .ok (.if_icmp .ne 5, 3) := by decide +kernel
theorem dX8_milk_33 : decode cX8_milk 33 = .ok (.iconst 0, 1) := by decide +kernel
theorem dX8_milk_34 : decode cX8_milk 34 = .ok (.ireturn, 1) := by decide +kernel
theorem dX8_milk_35 : decode cX8_milk 35 = .ok (.aload_n 0, 1) := by decide +kernel
theorem dX8_milk_36 : decode cX8_milk 36 = .ok (.getfield 54, 3) := by decide +kernel
theorem dX8_milk_39 : decode cX8_milk 39 = .ok (.getfield 140, 3) := by decide +kernel
theorem dX8_milk_42 : decode cX8_milk 42 = .ok (.iload_n 1, 1) := by decide +kernel
theorem dX8_milk_43 : decode cX8_milk 43 = .ok (.iload_n 2, 1) := by decide +kernel
theorem dX8_milk_44 : decode cX8_milk 44 = .ok (.iastore, 1) := by decide +kernel
theorem dX8_milk_45 : decode cX8_milk 45 = .ok (.iconst 1, 1) := by decide +kernel
theorem dX8_milk_46 : decode cX8_milk 46 = .ok (.ireturn, 1) := by decide +kernel
theorem dX8_close_0 : decode cX8_close 0 = .ok (.aload_n 0, 1) := by decide +kernel
theorem dX8_close_1 : decode cX8_close 1 = .ok (.getfield 54, 3) := by decide +kernel
theorem dX8_close_4 : decode cX8_close 4 = .ok (.getfield 137, 3) := by decide +kernel
theorem dX8_close_7 : decode cX8_close 7 = .ok (.iconst (-1), 1) := by decide +kernel
theorem dX8_close_8 : decode cX8_close 8 = .ok (.if_icmp .eq 21, 3) := by decide +kernel
theorem dX8_close_11 : decode cX8_close 11 = .ok (.aload_n 0, 1) := by decide +kernel
theorem dX8_close_12 : decode cX8_close 12 = .ok (.getfield 54, 3) := by decide +kernel
theorem dX8_close_15 : decode cX8_close 15 = .ok (.getfield 137, 3) := by decide +kernel
theorem dX8_close_18 : decode cX8_close 18 = .ok (.aload_n 0, 1) := by decide +kernel
theorem dX8_close_19 : decode cX8_close 19 = .ok (.getfield 69, 3) := by decide +kernel
theorem dX8_close_22 : decode cX8_close 22 = .ok (.if_icmp .gt 7, 3) := by decide +kernel
theorem dX8_close_25 : decode cX8_close 25 = .ok (.iconst 1, 1) := by decide +kernel
theorem dX8_close_26 : decode cX8_close 26 = .ok (.goto 4, 3) := by decide +kernel
theorem dX8_close_29 : decode cX8_close 29 = .ok (.iconst 0, 1) := by decide +kernel
theorem dX8_close_30 : decode cX8_close 30 = .ok (.istore_n 2, 1) := by decide +kernel
theorem dX8_close_31 : decode cX8_close 31 = .ok (.iload_n 1, 1) := by decide +kernel
theorem dX8_close_32 : decode cX8_close 32 = .ok (.iconst 0, 1) := by decide +kernel
theorem dX8_close_33 : decode cX8_close 33 = .ok (.sipush 1000, 3) := by decide +kernel
theorem dX8_close_36 : decode cX8_close 36 = .ok (.invokestatic 79, 3) := by decide +kernel
theorem dX8_close_39 : decode cX8_close 39 = .ok (.ifCond .eq 18, 3) := by decide +kernel
theorem dX8_close_42 : decode cX8_close 42 = .ok (.aload_n 0, 1) := by decide +kernel
theorem dX8_close_43 : decode cX8_close 43 = .ok (.getfield 26, 3) := by decide +kernel
theorem dX8_close_46 : decode cX8_close 46 = .ok (.getfield 87, 3) := by decide +kernel
theorem dX8_close_49 : decode cX8_close 49 = .ok (.iconst (-1), 1) := by decide +kernel
theorem dX8_close_50 : decode cX8_close 50 = .ok (.if_icmp .ne 7, 3) := by decide +kernel
theorem dX8_close_53 : decode cX8_close 53 = .ok (.iload_n 2, 1) := by decide +kernel
theorem dX8_close_54 : decode cX8_close 54 = .ok (.ifCond .ne 5, 3) := by decide +kernel
theorem dX8_close_57 : decode cX8_close 57 = .ok (.iconst (-1), 1) := by decide +kernel
theorem dX8_close_58 : decode cX8_close 58 = .ok (.ireturn, 1) := by decide +kernel
theorem dX8_close_59 : decode cX8_close 59 = .ok (.aload_n 0, 1) := by decide +kernel
theorem dX8_close_60 : decode cX8_close 60 = .ok (.getfield 54, 3) := by decide +kernel
theorem dX8_close_63 : decode cX8_close 63 = .ok (.aload_n 0, 1) := by decide +kernel
theorem dX8_close_64 : decode cX8_close 64 = .ok (.getfield 40, 3) := by decide +kernel
theorem dX8_close_67 : decode cX8_close 67 = .ok (.aload_n 0, 1) := by decide +kernel
theorem dX8_close_68 : decode cX8_close 68 = .ok (.getfield 19, 3) := by decide +kernel
theorem dX8_close_71 : decode cX8_close 71 = .ok (.aload_n 0, 1) := by decide +kernel
theorem dX8_close_72 : decode cX8_close 72 = .ok (.getfield 47, 3) := by decide +kernel
theorem dX8_close_75 : decode cX8_close 75 = .ok (.aload_n 0, 1) := by decide +kernel
theorem dX8_close_76 : decode cX8_close 76 = .ok (.getfield 40, 3) := by decide +kernel
theorem dX8_close_79 : decode cX8_close 79 = .ok (.getfield 90, 3) := by decide +kernel
theorem dX8_close_82 : decode cX8_close 82 = .ok (.aload_n 0, 1) := by decide +kernel
theorem dX8_close_83 : decode cX8_close 83 = .ok (.getfield 69, 3) := by decide +kernel
theorem dX8_close_86 : decode cX8_close 86 = .ok (.invokevirtual 143, 3) := by decide +kernel
theorem dX8_close_89 : decode cX8_close 89 = .ok (.aload_n 0, 1) := by decide +kernel
theorem dX8_close_90 : decode cX8_close 90 = .ok (.getfield 61, 3) := by decide +kernel
theorem dX8_close_93 : decode cX8_close 93 = .ok (.aload_n 0, 1) := by decide +kernel
theorem dX8_close_94 : decode cX8_close 94 = .ok (.getfield 54, 3) := by decide +kernel
theorem dX8_close_97 : decode cX8_close 97 = .ok (.getfield 147, 3) := by decide +kernel
theorem dX8_close_100 : decode cX8_close 100 = .ok (.iload_n 1, 1) := by decide +kernel
theorem dX8_close_101 : decode cX8_close 101 = .ok (.invokevirtual 150, 3) := by decide +kernel
theorem dX8_close_104 : decode cX8_close 104 = .ok (.istore_n 3, 1) := by decide +kernel
theorem dX8_close_105 : decode cX8_close 105 = .ok (.aload_n 0, 1) := by decide +kernel
theorem dX8_close_106 : decode cX8_close 106 = .ok (.getfield 61, 3) := by decide +kernel
theorem dX8_close_109 : decode cX8_close 109 = .ok (.aload_n 0, 1) := by decide +kernel
theorem dX8_close_110 : decode cX8_close 110 = .ok (.getfield 54, 3) := by decide +kernel
theorem dX8_close_113 : decode cX8_close 113 = .ok (.getfield 147, 3) := by decide +kernel
theorem dX8_close_116 : decode cX8_close 116 = .ok (.aload_n 0, 1) := by decide +kernel
theorem dX8_close_117 : decode cX8_close 117 = .ok (.getfield 19, 3) := by decide +kernel
theorem dX8_close_120 : decode cX8_close 120 = .ok (.getfield 154, 3) := by decide +kernel
theorem dX8_close_123 : decode cX8_close 123 = .ok (.iconst 2, 1) := by decide +kernel
theorem dX8_close_124 : decode cX8_close 124 = .ok (.iaload, 1) := by decide +kernel
theorem dX8_close_125 : decode cX8_close 125 = .ok (.invokevirtual 157, 3) := by decide +kernel
theorem dX8_close_128 : decode cX8_close 128 = .ok (.aload_n 0, 1) := by decide +kernel
theorem dX8_close_129 : decode cX8_close 129 = .ok (.getfield 61, 3) := by decide +kernel
theorem dX8_close_132 : decode cX8_close 132 = .ok (.aload_n 0, 1) := by decide +kernel
theorem dX8_close_133 : decode cX8_close 133 = .ok (.getfield 40, 3) := by decide +kernel
theorem dX8_close_136 : decode cX8_close 136 = .ok (.aload_n 0, 1) := by decide +kernel
theorem dX8_close_137 : decode cX8_close 137 = .ok (.getfield 47, 3) := by decide +kernel
theorem dX8_close_140 : decode cX8_close 140 = .ok (.aload_n 0, 1) := by decide +kernel
theorem dX8_close_141 : decode cX8_close 141 = .ok (.getfield 69, 3) := by decide +kernel
theorem dX8_close_144 : decode cX8_close 144 = .ok (.aload_n 0, 1) := by decide +kernel
theorem dX8_close_145 : decode cX8_close 145 = .ok (.getfield 19, 3) := by decide +kernel
theorem dX8_close_148 : decode cX8_close 148 = .ok (.getfield 154, 3) := by decide +kernel
theorem dX8_close_151 : decode cX8_close 151 = .ok (.iconst 3, 1) := by decide +kernel
theorem dX8_close_152 : decode cX8_close 152 = .ok (.iaload, 1) := by decide +kernel
theorem dX8_close_153 : decode cX8_close 153 = .ok (.invokevirtual 161, 3) := by decide +kernel
theorem dX8_close_156 : decode cX8_close 156 = .ok (.aload_n 0, 1) := by decide +kernel
theorem dX8_close_157 : decode cX8_close 157 = .ok (.getfield 61, 3) := by decide +kernel
theorem dX8_close_160 : decode cX8_close 160 = .ok (.aload_n 0, 1) := by decide +kernel
theorem dX8_close_161 : decode cX8_close 161 = .ok (.getfield 54, 3) := by decide +kernel
theorem dX8_close_164 : decode cX8_close 164 = .ok (.getfield 147, 3) := by decide +kernel
theorem dX8_close_167 : decode cX8_close 167 = .ok (.invokevirtual 165, 3) := by decide +kernel
theorem dX8_close_170 : decode cX8_close 170 = .ok (.aload_n 0, 1) := by decide +kernel
theorem dX8_close_171 : decode cX8_close 171 = .ok (.invokevirtual 169, 3) := by decide +kernel
theorem dX8_close_174 : decode cX8_close 174 = .ok (.iload_n 3, 1) := by decide +kernel
theorem dX8_close_175 : decode cX8_close 175 = .ok (.ireturn, 1) := by decide +kernel
theorem dX8_work_0 : decode cX8_work 0 = .ok (.iload_n 1, 1) := by decide +kernel
theorem dX8_work_1 : decode cX8_work 1 = .ok (.invokestatic 111, 3) := by decide +kernel
theorem dX8_work_4 : decode cX8_work 4 = .ok (.ifCond .eq 14, 3) := by decide +kernel
theorem dX8_work_7 : decode cX8_work 7 = .ok (.iload_n 2, 1) := by decide +kernel
theorem dX8_work_8 : decode cX8_work 8 = .ok (.iconst 1, 1) := by decide +kernel
theorem dX8_work_9 : decode cX8_work 9 = .ok (.sipush 1000, 3) := by decide +kernel
theorem dX8_work_12 : decode cX8_work 12 = .ok (.invokestatic 79, 3) := by decide +kernel
theorem dX8_work_15 : decode cX8_work 15 = .ok (.ifCond .ne 5, 3) := by decide +kernel
theorem dX8_work_18 : decode cX8_work 18 = .ok (.iconst 0, 1) := by decide +kernel
theorem dX8_work_19 : decode cX8_work 19 = .ok (.ireturn, 1) := by decide +kernel
theorem dX8_work_20 : decode cX8_work 20 = .ok (.aload_n 0, 1) := by decide +kernel
theorem dX8_work_21 : decode cX8_work 21 = .ok (.getfield 61, 3) := by decide +kernel
theorem dX8_work_24 : decode cX8_work 24 = .ok (.getfield 172, 3) := by decide +kernel
theorem dX8_work_27 : decode cX8_work 27 = .ok (.iload_n 1, 1) := by decide +kernel
theorem dX8_work_28 : decode cX8_work 28 = .ok (.dup2, 1) := by decide +kernel
theorem dX8_work_29 : decode cX8_work 29 = .ok (.laload, 1) := by decide +kernel
theorem dX8_work_30 : decode cX8_work 30 = .ok (.iload_n 2, 1) := by decide +kernel
theorem dX8_work_31 : decode cX8_work 31 = .ok (.i2l, 1) := by decide +kernel
theorem dX8_work_32 : decode cX8_work 32 = .ok (.lsub, 1) := by decide +kernel
theorem dX8_work_33 : decode cX8_work 33 = .ok (.lastore, 1) := by decide +kernel
theorem dX8_work_34 : decode cX8_work 34 = .ok (.iconst 1, 1) := by decide +kernel
theorem dX8_work_35 : decode cX8_work 35 = .ok (.ireturn, 1) := by decide +kernel
theorem dX8_look_0 : decode cX8_look 0 = .ok (.aload_n 0, 1) := by decide +kernel
theorem dX8_look_1 : decode cX8_look 1 = .ok (.getfield 40, 3) := by decide +kernel
theorem dX8_look_4 : decode cX8_look 4 = .ok (.iload_n 1, 1) := by decide +kernel
theorem dX8_look_5 : decode cX8_look 5 = .ok (.invokevirtual 176, 3) := by decide +kernel
theorem dX8_look_8 : decode cX8_look 8 = .ok (.ifCond .eq 25, 3) := by decide +kernel
theorem dX8_look_11 : decode cX8_look 11 = .ok (.iload_n 2, 1) := by decide +kernel
theorem dX8_look_12 : decode cX8_look 12 = .ok (.iconst 0, 1) := by decide +kernel
theorem dX8_look_13 : decode cX8_look 13 = .ok (.sipush 150, 3) := by decide +kernel
theorem dX8_look_16 : decode cX8_look 16 = .ok (.invokestatic 79, 3) := by decide +kernel
theorem dX8_look_19 : decode cX8_look 19 = .ok (.ifCond .eq 14, 3) := by decide +kernel
theorem dX8_look_22 : decode cX8_look 22 = .ok (.aload_n 0, 1) := by decide +kernel
theorem dX8_look_23 : decode cX8_look 23 = .ok (.getfield 40, 3) := by decide +kernel
theorem dX8_look_26 : decode cX8_look 26 = .ok (.iload_n 3, 1) := by decide +kernel
theorem dX8_look_27 : decode cX8_look 27 = .ok (.invokevirtual 132, 3) := by decide +kernel
theorem dX8_look_30 : decode cX8_look 30 = .ok (.ifCond .ne 5, 3) := by decide +kernel
theorem dX8_look_33 : decode cX8_look 33 = .ok (.iconst (-1), 1) := by decide +kernel
theorem dX8_look_34 : decode cX8_look 34 = .ok (.ireturn, 1) := by decide +kernel
theorem dX8_look_35 : decode cX8_look 35 = .ok (.aload_n 0, 1) := by decide +kernel
theorem dX8_look_36 : decode cX8_look 36 = .ok (.getfield 47, 3) := by decide +kernel
theorem dX8_look_39 : decode cX8_look 39 = .ok (.aload_n 0, 1) := by decide +kernel
theorem dX8_look_40 : decode cX8_look 40 = .ok (.getfield 40, 3) := by decide +kernel
theorem dX8_look_43 : decode cX8_look 43 = .ok (.iload_n 3, 1) := by decide +kernel
theorem dX8_look_44 : decode cX8_look 44 = .ok (.iload_n 1, 1) := by decide +kernel
theorem dX8_look_45 : decode cX8_look 45 = .ok (.iload_n 2, 1) := by decide +kernel
theorem dX8_look_46 : decode cX8_look 46 = .ok (.invokevirtual 179, 3) := by decide +kernel
theorem dX8_look_49 : decode cX8_look 49 = .ok (.pop, 1) := by decide +kernel
theorem dX8_look_50 : decode cX8_look 50 = .ok (.iload 4, 2) := by decide +kernel
theorem dX8_look_52 : decode cX8_look 52 = .ok (.lookupswitch 66 #[(0, 28), (1, 58)], 28) := by decide +kernel
theorem dX8_look_80 : decode cX8_look 80 = .ok (.aload_n 0, 1) := by decide +kernel
theorem dX8_look_81 : decode cX8_look 81 = .ok (.getfield 47, 3) := by decide +kernel
theorem dX8_look_84 : decode cX8_look 84 = .ok (.getfield 183, 3) := by decide +kernel
theorem dX8_look_87 : decode cX8_look 87 = .ok (.ifCond .eq 7, 3) := by decide +kernel
theorem dX8_look_90 : decode cX8_look 90 = .ok (.iconst 2, 1) := by decide +kernel
theorem dX8_look_91 : decode cX8_look 91 = .ok (.goto 18, 3) := by decide +kernel
theorem dX8_look_94 : decode cX8_look 94 = .ok (.aload_n 0, 1) := by decide +kernel
theorem dX8_look_95 : decode cX8_look 95 = .ok (.getfield 47, 3) := by decide +kernel
theorem dX8_look_98 : decode cX8_look 98 = .ok (.getfield 187, 3) := by decide +kernel
theorem dX8_look_101 : decode cX8_look 101 = .ok (.ifCond .eq 7, 3) := by decide +kernel
theorem dX8_look_104 : decode cX8_look 104 = .ok (.iconst 1, 1) := by decide +kernel
theorem dX8_look_105 : decode cX8_look 105 = .ok (.goto 4, 3) := by decide +kernel
theorem dX8_look_108 : decode cX8_look 108 = .ok (.iconst 0, 1) := by decide +kernel
theorem dX8_look_109 : decode cX8_look 109 = .ok (.ireturn, 1) := by decide +kernel
theorem dX8_look_110 : decode cX8_look 110 = .ok (.aload_n 0, 1) := by decide +kernel
theorem dX8_look_111 : decode cX8_look 111 = .ok (.getfield 47, 3) := by decide +kernel
theorem dX8_look_114 : decode cX8_look 114 = .ok (.getfield 190, 3) := by decide +kernel
theorem dX8_look_117 : decode cX8_look 117 = .ok (.ireturn, 1) := by decide +kernel
theorem dX8_look_118 : decode cX8_look 118 = .ok (.iconst (-1), 1) := by decide +kernel
theorem dX8_look_119 : decode cX8_look 119 = .ok (.ireturn, 1) := by decide +kernel
theorem dX8_credit_0 : decode cX8_credit 0 = .ok (.aload_n 0, 1) := by decide +kernel
theorem dX8_credit_1 : decode cX8_credit 1 = .ok (.getfield 40, 3) := by decide +kernel
theorem dX8_credit_4 : decode cX8_credit 4 = .ok (.iload_n 1, 1) := by decide +kernel
theorem dX8_credit_5 : decode cX8_credit 5 = .ok (.invokevirtual 176, 3) := by decide +kernel
theorem dX8_credit_8 : decode cX8_credit 8 = .ok (.ifCond .eq 14, 3) := by decide +kernel
theorem dX8_credit_11 : decode cX8_credit 11 = .ok (.aload_n 0, 1) := by decide +kernel
theorem dX8_credit_12 : decode cX8_credit 12 = .ok (.getfield 40, 3) := by decide +kernel
theorem dX8_credit_15 : decode cX8_credit 15 = .ok (.iload_n 2, 1) := by decide +kernel
theorem dX8_credit_16 : decode cX8_credit 16 = .ok (.invokevirtual 132, 3) := by decide +kernel
theorem dX8_credit_19 : decode cX8_credit 19 = .ok (.ifCond .ne 5, 3) := by decide +kernel
theorem dX8_credit_22 : decode cX8_credit 22 = .ok (.iconst (-1), 1) := by decide +kernel
theorem dX8_credit_23 : decode cX8_credit 23 = .ok (.ireturn, 1) := by decide +kernel
theorem dX8_credit_24 : decode cX8_credit 24 = .ok (.aload_n 0, 1) := by decide +kernel
theorem dX8_credit_25 : decode cX8_credit 25 = .ok (.getfield 54, 3) := by decide +kernel
theorem dX8_credit_28 : decode cX8_credit 28 = .ok (.aload_n 0, 1) := by decide +kernel
theorem dX8_credit_29 : decode cX8_credit 29 = .ok (.getfield 40, 3) := by decide +kernel
theorem dX8_credit_32 : decode cX8_credit 32 = .ok (.aload_n 0, 1) := by decide +kernel
theorem dX8_credit_33 : decode cX8_credit 33 = .ok (.getfield 19, 3) := by decide +kernel
theorem dX8_credit_36 : decode cX8_credit 36 = .ok (.aload_n 0, 1) := by decide +kernel
theorem dX8_credit_37 : decode cX8_credit 37 = .ok (.getfield 47, 3) := by decide +kernel
theorem dX8_credit_40 : decode cX8_credit 40 = .ok (.iload_n 1, 1) := by decide +kernel
theorem dX8_credit_41 : decode cX8_credit 41 = .ok (.iload_n 2, 1) := by decide +kernel
theorem dX8_credit_42 : decode cX8_credit 42 = .ok (.aload_n 0, 1) := by decide +kernel
theorem dX8_credit_43 : decode cX8_credit 43 = .ok (.getfield 69, 3) := by decide +kernel
theorem dX8_credit_46 : decode cX8_credit 46 = .ok (.invokevirtual 193, 3) := by decide +kernel
theorem dX8_credit_49 : decode cX8_credit 49 = .ok (.ireturn, 1) := by decide +kernel
theorem dX8_part_0 : decode cX8_part 0 = .ok (.aload_n 0, 1) := by decide +kernel
theorem dX8_part_1 : decode cX8_part 1 = .ok (.getfield 40, 3) := by decide +kernel
theorem dX8_part_4 : decode cX8_part 4 = .ok (.iload_n 1, 1) := by decide +kernel
theorem dX8_part_5 : decode cX8_part 5 = .ok (.invokevirtual 176, 3) := by decide +kernel
theorem dX8_part_8 : decode cX8_part 8 = .ok (.ifCond .eq 10, 3) := by decide +kernel
theorem dX8_part_11 : decode cX8_part 11 = .ok (.iload_n 2, 1) := by decide +kernel
theorem dX8_part_12 : decode cX8_part 12 = .ok (.invokestatic 111, 3) := by decide +kernel
theorem dX8_part_15 : decode cX8_part 15 = .ok (.ifCond .ne 5, 3) := by decide +kernel
theorem dX8_part_18 : decode cX8_part 18 = .ok (.iconst (-1), 1) := by decide +kernel
theorem dX8_part_19 : decode cX8_part 19 = .ok (.ireturn, 1) := by decide +kernel
theorem dX8_part_20 : decode cX8_part 20 = .ok (.aload_n 0, 1) := by decide +kernel
theorem dX8_part_21 : decode cX8_part 21 = .ok (.getfield 54, 3) := by decide +kernel
theorem dX8_part_24 : decode cX8_part 24 = .ok (.aload_n 0, 1) := by decide +kernel
theorem dX8_part_25 : decode cX8_part 25 = .ok (.getfield 40, 3) := by decide +kernel
theorem dX8_part_28 : decode cX8_part 28 = .ok (.aload_n 0, 1) := by decide +kernel
theorem dX8_part_29 : decode cX8_part 29 = .ok (.getfield 19, 3) := by decide +kernel
theorem dX8_part_32 : decode cX8_part 32 = .ok (.aload_n 0, 1) := by decide +kernel
theorem dX8_part_33 : decode cX8_part 33 = .ok (.getfield 47, 3) := by decide +kernel
theorem dX8_part_36 : decode cX8_part 36 = .ok (.iload_n 1, 1) := by decide +kernel
theorem dX8_part_37 : decode cX8_part 37 = .ok (.aload_n 0, 1) := by decide +kernel
theorem dX8_part_38 : decode cX8_part 38 = .ok (.getfield 69, 3) := by decide +kernel
theorem dX8_part_41 : decode cX8_part 41 = .ok (.invokevirtual 143, 3) := by decide +kernel
theorem dX8_part_44 : decode cX8_part 44 = .ok (.aload_n 0, 1) := by decide +kernel
theorem dX8_part_45 : decode cX8_part 45 = .ok (.getfield 54, 3) := by decide +kernel
theorem dX8_part_48 : decode cX8_part 48 = .ok (.getfield 147, 3) := by decide +kernel
theorem dX8_part_51 : decode cX8_part 51 = .ok (.iload_n 2, 1) := by decide +kernel
theorem dX8_part_52 : decode cX8_part 52 = .ok (.iaload, 1) := by decide +kernel
theorem dX8_part_53 : decode cX8_part 53 = .ok (.ireturn, 1) := by decide +kernel
theorem dX8_way_0 : decode cX8_way 0 = .ok (.iload_n 1, 1) := by decide +kernel
theorem dX8_way_1 : decode cX8_way 1 = .ok (.iconst 1, 1) := by decide +kernel
theorem dX8_way_2 : decode cX8_way 2 = .ok (.bipush 8, 2) := by decide +kernel
theorem dX8_way_4 : decode cX8_way 4 = .ok (.invokestatic 79, 3) := by decide +kernel
theorem dX8_way_7 : decode cX8_way 7 = .ok (.ifCond .eq 10, 3) := by decide +kernel
theorem dX8_way_10 : decode cX8_way 10 = .ok (.iload_n 2, 1) := by decide +kernel
theorem dX8_way_11 : decode cX8_way 11 = .ok (.invokestatic 122, 3) := by decide +kernel
theorem dX8_way_14 : decode cX8_way 14 = .ok (.ifCond .ne 5, 3) := by decide +kernel
theorem dX8_way_17 : decode cX8_way 17 = .ok (.iconst (-1), 1) := by decide +kernel
theorem dX8_way_18 : decode cX8_way 18 = .ok (.ireturn, 1) := by decide +kernel
theorem dX8_way_19 : decode cX8_way 19 = .ok (.aload_n 0, 1) := by decide +kernel
theorem dX8_way_20 : decode cX8_way 20 = .ok (.getfield 33, 3) := by decide +kernel
theorem dX8_way_23 : decode cX8_way 23 = .ok (.aload_n 0, 1) := by decide +kernel
theorem dX8_way_24 : decode cX8_way 24 = .ok (.getfield 26, 3) := by decide +kernel
theorem dX8_way_27 : decode cX8_way 27 = .ok (.aload_n 0, 1) := by decide +kernel
theorem dX8_way_28 : decode cX8_way 28 = .ok (.getfield 40, 3) := by decide +kernel
theorem dX8_way_31 : decode cX8_way 31 = .ok (.aload_n 0, 1) := by decide +kernel
theorem dX8_way_32 : decode cX8_way 32 = .ok (.getfield 69, 3) := by decide +kernel
theorem dX8_way_35 : decode cX8_way 35 = .ok (.invokevirtual 125, 3) := by decide +kernel
theorem dX8_way_38 : decode cX8_way 38 = .ok (.iload_n 1, 1) := by decide +kernel
theorem dX8_way_39 : decode cX8_way 39 = .ok (.iload_n 2, 1) := by decide +kernel
theorem dX8_way_40 : decode cX8_way 40 = .ok (.invokevirtual 197, 3) := by decide +kernel
theorem dX8_way_43 : decode cX8_way 43 = .ok (.ireturn, 1) := by decide +kernel
theorem dX8_step_0 : decode cX8_step 0 = .ok (.iload_n 1, 1) := by decide +kernel
theorem dX8_step_1 : decode cX8_step 1 = .ok (.iconst 0, 1) := by decide +kernel
theorem dX8_step_2 : decode cX8_step 2 = .ok (.aload_n 0, 1) := by decide +kernel
theorem dX8_step_3 : decode cX8_step 3 = .ok (.getfield 33, 3) := by decide +kernel
theorem dX8_step_6 : decode cX8_step 6 = .ok (.getfield 201, 3) := by decide +kernel
theorem dX8_step_9 : decode cX8_step 9 = .ok (.iconst 1, 1) := by decide +kernel
theorem dX8_step_10 : decode cX8_step 10 = .ok (.isub, 1) := by decide +kernel
theorem dX8_step_11 : decode cX8_step 11 = .ok (.invokestatic 79, 3) := by decide +kernel
theorem dX8_step_14 : decode cX8_step 14 = .ok (.ifCond .eq 15, 3) := by decide +kernel
theorem dX8_step_17 : decode cX8_step 17 = .ok (.aload_n 0, 1) := by decide +kernel
theorem dX8_step_18 : decode cX8_step 18 = .ok (.getfield 33, 3) := by decide +kernel
theorem dX8_step_21 : decode cX8_step 21 = .ok (.getfield 204, 3) := by decide +kernel
theorem dX8_step_24 : decode cX8_step 24 = .ok (.iload_n 1, 1) := by decide +kernel
theorem dX8_step_25 : decode cX8_step 25 = .ok (.iaload, 1) := by decide +kernel
theorem dX8_step_26 : decode cX8_step 26 = .ok (.goto 4, 3) := by decide +kernel
theorem dX8_step_29 : decode cX8_step 29 = .ok (.iconst (-1), 1) := by decide +kernel
theorem dX8_step_30 : decode cX8_step 30 = .ok (.ireturn, 1) := by decide +kernel
theorem dX8_grass_0 : decode cX8_grass 0 = .ok (.aload_n 0, 1) := by decide +kernel
theorem dX8_grass_1 : decode cX8_grass 1 = .ok (.getfield 26, 3) := by decide +kernel
theorem dX8_grass_4 : decode cX8_grass 4 = .ok (.iload_n 1, 1) := by decide +kernel
theorem dX8_grass_5 : decode cX8_grass 5 = .ok (.invokevirtual 96, 3) := by decide +kernel
theorem dX8_grass_8 : decode cX8_grass 8 = .ok (.ifCond .ne 5, 3) := by decide +kernel
theorem dX8_grass_11 : decode cX8_grass 11 = .ok (.iconst (-1), 1) := by decide +kernel
theorem dX8_grass_12 : decode cX8_grass 12 = .ok (.ireturn, 1) := by decide +kernel
theorem dX8_grass_13 : decode cX8_grass 13 = .ok (.iload_n 2, 1) := by decide +kernel
theorem dX8_grass_14 : decode cX8_grass 14 = .ok (.tableswitch 56 0 2 #[26, 36, 46], 26) := by decide +kernel
theorem dX8_grass_40 : decode cX8_grass 40 = .ok (.aload_n 0, 1) := by decide +kernel
theorem dX8_grass_41 : decode cX8_grass 41 = .ok (.getfield 26, 3) := by decide +kernel
theorem dX8_grass_44 : decode cX8_grass 44 = .ok (.getfield 101, 3) := by decide +kernel
theorem dX8_grass_47 : decode cX8_grass 47 = .ok (.iload_n 1, 1) := by decide +kernel
theorem dX8_grass_48 : decode cX8_grass 48 = .ok (.iaload, 1) := by decide +kernel
theorem dX8_grass_49 : decode cX8_grass 49 = .ok (.ireturn, 1) := by decide +kernel
theorem dX8_grass_50 : decode cX8_grass 50 = .ok (.aload_n 0, 1) := by decide +kernel
theorem dX8_grass_51 : decode cX8_grass 51 = .ok (.getfield 26, 3) := by decide +kernel
theorem dX8_grass_54 : decode cX8_grass 54 = .ok (.getfield 105, 3) := by decide +kernel
theorem dX8_grass_57 : decode cX8_grass 57 = .ok (.iload_n 1, 1) := by decide +kernel
theorem dX8_grass_58 : decode cX8_grass 58 = .ok (.iaload, 1) := by decide +kernel
theorem dX8_grass_59 : decode cX8_grass 59 = .ok (.ireturn, 1) := by decide +kernel
theorem dX8_grass_60 : decode cX8_grass 60 = .ok (.aload_n 0, 1) := by decide +kernel
theorem dX8_grass_61 : decode cX8_grass 61 = .ok (.getfield 26, 3) := by decide +kernel
theorem dX8_grass_64 : decode cX8_grass 64 = .ok (.getfield 108, 3) := by decide +kernel
theorem dX8_grass_67 : decode cX8_grass 67 = .ok (.iload_n 1, 1) := by decide +kernel
theorem dX8_grass_68 : decode cX8_grass 68 = .ok (.iaload, 1) := by decide +kernel
theorem dX8_grass_69 : decode cX8_grass 69 = .ok (.ireturn, 1) := by decide +kernel
theorem dX8_grass_70 : decode cX8_grass 70 = .ok (.iconst (-1), 1) := by decide +kernel
theorem dX8_grass_71 : decode cX8_grass 71 = .ok (.ireturn, 1) := by decide +kernel
theorem dX8_told_0 : decode cX8_told 0 = .ok (.iload_n 1, 1) := by decide +kernel
theorem dX8_told_1 : decode cX8_told 1 = .ok (.invokestatic 111, 3) := by decide +kernel
theorem dX8_told_4 : decode cX8_told 4 = .ok (.ifCond .ne 7, 3) := by decide +kernel
theorem dX8_told_7 : decode cX8_told 7 = .ok (.ldc2_w 207, 3) := by decide +kernel
theorem dX8_told_10 : decode cX8_told 10 = .ok (.lreturn, 1) := by decide +kernel
theorem dX8_told_11 : decode cX8_told 11 = .ok (.iload_n 2, 1) := by decide +kernel
theorem dX8_told_12 : decode cX8_told 12 = .ok (.tableswitch 109 0 5 #[40, 58, 68, 79, 89, 99], 40) := by decide +kernel
theorem dX8_told_52 : decode cX8_told 52 = .ok (.aload_n 0, 1) := by decide +kernel
theorem dX8_told_53 : decode cX8_told 53 = .ok (.getfield 40, 3) := by decide +kernel
theorem dX8_told_56 : decode cX8_told 56 = .ok (.iload_n 1, 1) := by decide +kernel
theorem dX8_told_57 : decode cX8_told 57 = .ok (.aload_n 0, 1) := by decide +kernel
theorem dX8_told_58 : decode cX8_told 58 = .ok (.getfield 69, 3) := by decide +kernel
theorem dX8_told_61 : decode cX8_told 61 = .ok (.aload_n 0, 1) := by decide +kernel
theorem dX8_told_62 : decode cX8_told 62 = .ok (.getfield 47, 3) := by decide +kernel
theorem dX8_told_65 : decode cX8_told 65 = .ok (.invokevirtual 209, 3) := by decide +kernel
theorem dX8_told_68 : decode cX8_told 68 = .ok (.i2l, 1) := by decide +kernel
theorem dX8_told_69 : decode cX8_told 69 = .ok (.lreturn, 1) := by decide +kernel
theorem dX8_told_70 : decode cX8_told 70 = .ok (.aload_n 0, 1) := by decide +kernel
theorem dX8_told_71 : decode cX8_told 71 = .ok (.getfield 61, 3) := by decide +kernel
theorem dX8_told_74 : decode cX8_told 74 = .ok (.getfield 213, 3) := by decide +kernel
theorem dX8_told_77 : decode cX8_told 77 = .ok (.iload_n 1, 1) := by decide +kernel
theorem dX8_told_78 : decode cX8_told 78 = .ok (.laload, 1) := by decide +kernel
theorem dX8_told_79 : decode cX8_told 79 = .ok (.lreturn, 1) := by decide +kernel
theorem dX8_told_80 : decode cX8_told 80 = .ok (.aload_n 0, 1) := by decide +kernel
theorem dX8_told_81 : decode cX8_told 81 = .ok (.getfield 61, 3) := by decide +kernel
theorem dX8_told_84 : decode cX8_told 84 = .ok (.getfield 216, 3) := by decide +kernel
theorem dX8_told_87 : decode cX8_told 87 = .ok (.iload_n 1, 1) := by decide +kernel
theorem dX8_told_88 : decode cX8_told 88 = .ok (.iaload, 1) := by decide +kernel
theorem dX8_told_89 : decode cX8_told 89 = .ok (.i2l, 1) := by decide +kernel
theorem dX8_told_90 : decode cX8_told 90 = .ok (.lreturn, 1) := by decide +kernel
theorem dX8_told_91 : decode cX8_told 91 = .ok (.aload_n 0, 1) := by decide +kernel
theorem dX8_told_92 : decode cX8_told 92 = .ok (.getfield 61, 3) := by decide +kernel
theorem dX8_told_95 : decode cX8_told 95 = .ok (.getfield 172, 3) := by decide +kernel
theorem dX8_told_98 : decode cX8_told 98 = .ok (.iload_n 1, 1) := by decide +kernel
theorem dX8_told_99 : decode cX8_told 99 = .ok (.laload, 1) := by decide +kernel
theorem dX8_told_100 : decode cX8_told 100 = .ok (.lreturn, 1) := by decide +kernel
theorem dX8_told_101 : decode cX8_told 101 = .ok (.aload_n 0, 1) := by decide +kernel
theorem dX8_told_102 : decode cX8_told 102 = .ok (.getfield 61, 3) := by decide +kernel
theorem dX8_told_105 : decode cX8_told 105 = .ok (.getfield 219, 3) := by decide +kernel
theorem dX8_told_108 : decode cX8_told 108 = .ok (.iload_n 1, 1) := by decide +kernel
theorem dX8_told_109 : decode cX8_told 109 = .ok (.laload, 1) := by decide +kernel
theorem dX8_told_110 : decode cX8_told 110 = .ok (.lreturn, 1) := by decide +kernel
theorem dX8_told_111 : decode cX8_told 111 = .ok (.aload_n 0, 1) := by decide +kernel
theorem dX8_told_112 : decode cX8_told 112 = .ok (.getfield 61, 3) := by decide +kernel
theorem dX8_told_115 : decode cX8_told 115 = .ok (.iload_n 1, 1) := by decide +kernel
theorem dX8_told_116 : decode cX8_told 116 = .ok (.invokevirtual 222, 3) := by decide +kernel
theorem dX8_told_119 : decode cX8_told 119 = .ok (.i2l, 1) := by decide +kernel
theorem dX8_told_120 : decode cX8_told 120 = .ok (.lreturn, 1) := by decide +kernel
theorem dX8_told_121 : decode cX8_told 121 = .ok (.ldc2_w 207, 3) := by decide +kernel
theorem dX8_told_124 : decode cX8_told 124 = .ok (.lreturn, 1) := by decide +kernel
theorem dX8_entry_0 : decode cX8_entry 0 = .ok (.iload_n 1, 1) := by decide +kernel
theorem dX8_entry_1 : decode cX8_entry 1 = .ok (.iconst 0, 1) := by decide +kernel
theorem dX8_entry_2 : decode cX8_entry 2 = .ok (.aload_n 0, 1) := by decide +kernel
theorem dX8_entry_3 : decode cX8_entry 3 = .ok (.getfield 40, 3) := by decide +kernel
theorem dX8_entry_6 : decode cX8_entry 6 = .ok (.getfield 90, 3) := by decide +kernel
theorem dX8_entry_9 : decode cX8_entry 9 = .ok (.iconst 1, 1) := by decide +kernel
theorem dX8_entry_10 : decode cX8_entry 10 = .ok (.isub, 1) := by decide +kernel
theorem dX8_entry_11 : decode cX8_entry 11 = .ok (.invokestatic 79, 3) := by decide +kernel
theorem dX8_entry_14 : decode cX8_entry 14 = .ok (.ifCond .ne 5, 3) := by decide +kernel
theorem dX8_entry_17 : decode cX8_entry 17 = .ok (.iconst (-1), 1) := by decide +kernel
theorem dX8_entry_18 : decode cX8_entry 18 = .ok (.ireturn, 1) := by decide +kernel
theorem dX8_entry_19 : decode cX8_entry 19 = .ok (.iload_n 2, 1) := by decide +kernel
theorem dX8_entry_20 : decode cX8_entry 20 = .ok (.tableswitch 72 0 3 #[32, 42, 52, 62], 32) := by decide +kernel
theorem dX8_entry_52 : decode cX8_entry 52 = .ok (.aload_n 0, 1) := by decide +kernel
theorem dX8_entry_53 : decode cX8_entry 53 = .ok (.getfield 40, 3) := by decide +kernel
theorem dX8_entry_56 : decode cX8_entry 56 = .ok (.getfield 225, 3) := by decide +kernel
theorem dX8_entry_59 : decode cX8_entry 59 = .ok (.iload_n 1, 1) := by decide +kernel
theorem dX8_entry_60 : decode cX8_entry 60 = .ok (.iaload, 1) := by decide +kernel
theorem dX8_entry_61 : decode cX8_entry 61 = .ok (.ireturn, 1) := by decide +kernel
theorem dX8_entry_62 : decode cX8_entry 62 = .ok (.aload_n 0, 1) := by decide +kernel
theorem dX8_entry_63 : decode cX8_entry 63 = .ok (.getfield 40, 3) := by decide +kernel
theorem dX8_entry_66 : decode cX8_entry 66 = .ok (.getfield 228, 3) := by decide +kernel
theorem dX8_entry_69 : decode cX8_entry 69 = .ok (.iload_n 1, 1) := by decide +kernel
theorem dX8_entry_70 : decode cX8_entry 70 = .ok (.iaload, 1) := by decide +kernel
theorem dX8_entry_71 : decode cX8_entry 71 = .ok (.ireturn, 1) := by decide +kernel
theorem dX8_entry_72 : decode cX8_entry 72 = .ok (.aload_n 0, 1) := by decide +kernel
theorem dX8_entry_73 : decode cX8_entry 73 = .ok (.getfield 40, 3) := by decide +kernel
theorem dX8_entry_76 : decode cX8_entry 76 = .ok (.getfield 231, 3) := by decide +kernel
theorem dX8_entry_79 : decode cX8_entry 79 = .ok (.iload_n 1, 1) := by decide +kernel
theorem dX8_entry_80 : decode cX8_entry 80 = .ok (.iaload, 1) := by decide +kernel
theorem dX8_entry_81 : decode cX8_entry 81 = .ok (.ireturn, 1) := by decide +kernel
theorem dX8_entry_82 : decode cX8_entry 82 = .ok (.aload_n 0, 1) := by decide +kernel
theorem dX8_entry_83 : decode cX8_entry 83 = .ok (.getfield 40, 3) := by decide +kernel
theorem dX8_entry_86 : decode cX8_entry 86 = .ok (.getfield 234, 3) := by decide +kernel
theorem dX8_entry_89 : decode cX8_entry 89 = .ok (.iload_n 1, 1) := by decide +kernel
