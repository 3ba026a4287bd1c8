theorem dX4_init_0 : decode cX4_init 0 = .ok (.aload_n 0, 1) := by decide +kernel
theorem dX4_init_1 : decode cX4_init 1 = .ok (.invokespecial 3, 3) := by decide +kernel
theorem dX4_init_4 : decode cX4_init 4 = .ok (.aload_n 0, 1) := by decide +kernel
theorem dX4_init_5 : decode cX4_init 5 = .ok (.bipush 80, 2) := by decide +kernel
theorem dX4_init_7 : decode cX4_init 7 = .ok (.newarray .int, 2) := by decide +kernel
theorem dX4_init_9 : decode cX4_init 9 = .ok (.putfield 9, 3) := by decide +kernel
theorem dX4_init_12 : decode cX4_init 12 = .ok (.aload_n 0, 1) := by decide +kernel
theorem dX4_init_13 : decode cX4_init 13 = .ok (.bipush 80, 2) := by decide +kernel
theorem dX4_init_15 : decode cX4_init 15 = .ok (.newarray .boolean, 2) := by decide +kernel
theorem dX4_init_17 : decode cX4_init 17 = .ok (.putfield 15, 3) := by decide +kernel
theorem dX4_init_20 : decode cX4_init 20 = .ok (.aload_n 0, 1) := by decide +kernel
theorem dX4_init_21 : decode cX4_init 21 = .ok (.iconst 0, 1) := by decide +kernel
theorem dX4_init_22 : decode cX4_init 22 = .ok (.putfield 19, 3) := by decide +kernel
theorem dX4_init_25 : decode cX4_init 25 = .ok (.aload_n 0, 1) := by decide +kernel
theorem dX4_init_26 : decode cX4_init 26 = .ok (.bipush 100, 2) := by decide +kernel
theorem dX4_init_28 : decode cX4_init 28 = .ok (.newarray .int, 2) := by decide +kernel
theorem dX4_init_30 : decode cX4_init 30 = .ok (.putfield 23, 3) := by decide +kernel
theorem dX4_init_33 : decode cX4_init 33 = .ok (.aload_n 0, 1) := by decide +kernel
theorem dX4_init_34 : decode cX4_init 34 = .ok (.bipush 100, 2) := by decide +kernel
theorem dX4_init_36 : decode cX4_init 36 = .ok (.newarray .int, 2) := by decide +kernel
theorem dX4_init_38 : decode cX4_init 38 = .ok (.putfield 26, 3) := by decide +kernel
theorem dX4_init_41 : decode cX4_init 41 = .ok (.aload_n 0, 1) := by decide +kernel
theorem dX4_init_42 : decode cX4_init 42 = .ok (.bipush 100, 2) := by decide +kernel
theorem dX4_init_44 : decode cX4_init 44 = .ok (.newarray .int, 2) := by decide +kernel
theorem dX4_init_46 : decode cX4_init 46 = .ok (.putfield 29, 3) := by decide +kernel
theorem dX4_init_49 : decode cX4_init 49 = .ok (.aload_n 0, 1) := by decide +kernel
theorem dX4_init_50 : decode cX4_init 50 = .ok (.bipush 100, 2) := by decide +kernel
theorem dX4_init_52 : decode cX4_init 52 = .ok (.newarray .int, 2) := by decide +kernel
theorem dX4_init_54 : decode cX4_init 54 = .ok (.putfield 32, 3) := by decide +kernel
theorem dX4_init_57 : decode cX4_init 57 = .ok (.aload_n 0, 1) := by decide +kernel
theorem dX4_init_58 : decode cX4_init 58 = .ok (.bipush 100, 2) := by decide +kernel
theorem dX4_init_60 : decode cX4_init 60 = .ok (.newarray .int, 2) := by decide +kernel
theorem dX4_init_62 : decode cX4_init 62 = .ok (.putfield 35, 3) := by decide +kernel
theorem dX4_init_65 : decode cX4_init 65 = .ok (.aload_n 0, 1) := by decide +kernel
theorem dX4_init_66 : decode cX4_init 66 = .ok (.iconst 0, 1) := by decide +kernel
theorem dX4_init_67 : decode cX4_init 67 = .ok (.putfield 38, 3) := by decide +kernel
theorem dX4_init_70 : decode cX4_init 70 = .ok (.return_, 1) := by decide +kernel
theorem dX4_has_0 : decode cX4_has 0 = .ok (.iload_n 1, 1) := by decide +kernel
theorem dX4_has_1 : decode cX4_has 1 = .ok (.iconst 0, 1) := by decide +kernel
theorem dX4_has_2 : decode cX4_has 2 = .ok (.aload_n 0, 1) := by decide +kernel
theorem dX4_has_3 : decode cX4_has 3 = .ok (.getfield 19, 3) := by decide +kernel
theorem dX4_has_6 : decode cX4_has 6 = .ok (.iconst 1, 1) := by decide +kernel
theorem dX4_has_7 : decode cX4_has 7 = .ok (.isub, 1) := by decide +kernel
theorem dX4_has_8 : decode cX4_has 8 = .ok (.invokestatic 41, 3) := by decide +kernel
theorem dX4_has_11 : decode cX4_has 11 = .ok (.ireturn, 1) := by decide +kernel
theorem dX4_isKnowing_0 : decode cX4_isKnowing 0 = .ok (.iload_n 1, 1) := by decide +kernel
theorem dX4_isKnowing_1 : decode cX4_isKnowing 1 = .ok (.iconst 0, 1) := by decide +kernel
theorem dX4_isKnowing_2 : decode cX4_isKnowing 2 = .ok (.aload_n 0, 1) := by decide +kernel
theorem dX4_isKnowing_3 : decode cX4_isKnowing 3 = .ok (.getfield 38, 3) := by decide +kernel
theorem dX4_isKnowing_6 : decode cX4_isKnowing 6 = .ok (.invokestatic 41, 3) := by decide +kernel
theorem dX4_isKnowing_9 : decode cX4_isKnowing 9 = .ok (.ireturn, 1) := by decide +kernel
theorem dX4_add_0 : decode cX4_add 0 = .ok (.aload_n 0, 1) := by decide +kernel
theorem dX4_add_1 : decode cX4_add 1 = .ok (.getfield 9, 3) := by decide +kernel
theorem dX4_add_4 : decode cX4_add 4 = .ok (.aload_n 0, 1) := by decide +kernel
theorem dX4_add_5 : decode cX4_add 5 = .ok (.getfield 19, 3) := by decide +kernel
theorem dX4_add_8 : decode cX4_add 8 = .ok (.iload_n 1, 1) := by decide +kernel
theorem dX4_add_9 : decode cX4_add 9 = .ok (.iastore, 1) := by decide +kernel
theorem dX4_add_10 : decode cX4_add 10 = .ok (.aload_n 0, 1) := by decide +kernel
theorem dX4_add_11 : decode cX4_add 11 = .ok (.dup, 1) := by decide +kernel
theorem dX4_add_12 : decode cX4_add 12 = .ok (.getfield 19, 3) := by decide +kernel
theorem dX4_add_15 : decode cX4_add 15 = .ok (.iconst 1, 1) := by decide +kernel
theorem dX4_add_16 : decode cX4_add 16 = .ok (.iadd, 1) := by decide +kernel
theorem dX4_add_17 : decode cX4_add 17 = .ok (.putfield 19, 3) := by decide +kernel
theorem dX4_add_20 : decode cX4_add 20 = .ok (.aload_n 0, 1) := by decide +kernel
theorem dX4_add_21 : decode cX4_add 21 = .ok (.getfield 19, 3) := by decide +kernel
theorem dX4_add_24 : decode cX4_add 24 = .ok (.iconst 1, 1) := by decide +kernel
theorem dX4_add_25 : decode cX4_add 25 = .ok (.isub, 1) := by decide +kernel
theorem dX4_add_26 : decode cX4_add 26 = .ok (.ireturn, 1) := by decide +kernel
theorem dX4_enter_0 : decode cX4_enter 0 = .ok (.aload_n 0, 1) := by decide +kernel
theorem dX4_enter_1 : decode cX4_enter 1 = .ok (.getfield 38, 3) := by decide +kernel
theorem dX4_enter_4 : decode cX4_enter 4 = .ok (.istore 6, 2) := by decide +kernel
theorem dX4_enter_6 : decode cX4_enter 6 = .ok (.aload_n 0, 1) := by decide +kernel
theorem dX4_enter_7 : decode cX4_enter 7 = .ok (.getfield 23, 3) := by decide +kernel
theorem dX4_enter_10 : decode cX4_enter 10 = .ok (.iload 6, 2) := by decide +kernel
theorem dX4_enter_12 : decode cX4_enter 12 = .ok (.iload_n 1, 1) := by decide +kernel
theorem dX4_enter_13 : decode cX4_enter 13 = .ok (.iastore, 1) := by decide +kernel
theorem dX4_enter_14 : decode cX4_enter 14 = .ok (.aload_n 0, 1) := by decide +kernel
theorem dX4_enter_15 : decode cX4_enter 15 = .ok (.getfield 26, 3) := by decide +kernel
theorem dX4_enter_18 : decode cX4_enter 18 = .ok (.iload 6, 2) := by decide +kernel
theorem dX4_enter_20 : decode cX4_enter 20 = .ok (.iload_n 2, 1) := by decide +kernel
theorem dX4_enter_21 : decode cX4_enter 21 = .ok (.iastore, 1) := by decide +kernel
theorem dX4_enter_22 : decode cX4_enter 22 = .ok (.aload_n 0, 1) := by decide +kernel
theorem dX4_enter_23 : decode cX4_enter 23 = .ok (.getfield 29, 3) := by decide +kernel
theorem dX4_enter_26 : decode cX4_enter 26 = .ok (.iload 6, 2) := by decide +kernel
theorem dX4_enter_28 : decode cX4_enter 28 = .ok (.iload_n 3, 1) := by decide +kernel
theorem dX4_enter_29 : decode cX4_enter 29 = .ok (.iastore, 1) := by decide +kernel
theorem dX4_enter_30 : decode cX4_enter 30 = .ok (.aload_n 0, 1) := by decide +kernel
theorem dX4_enter_31 : decode cX4_enter 31 = .ok (.getfield 32, 3) := by decide +kernel
theorem dX4_enter_34 : decode cX4_enter 34 = .ok (.iload 6, 2) := by decide +kernel
theorem dX4_enter_36 : decode cX4_enter 36 = .ok (.iload 4, 2) := by decide +kernel
theorem dX4_enter_38 : decode cX4_enter 38 = .ok (.iastore, 1) := by decide +kernel
theorem dX4_enter_39 : decode cX4_enter 39 = .ok (.aload_n 0, 1) := by decide +kernel
theorem dX4_enter_40 : decode cX4_enter 40 = .ok (.iload 6, 2) := by decide +kernel
theorem dX4_enter_42 : decode cX4_enter 42 = .ok (.invokevirtual 45, 3) := by decide +kernel
theorem dX4_enter_45 : decode cX4_enter 45 = .ok (.istore 7, 2) := by decide +kernel
theorem dX4_enter_47 : decode cX4_enter 47 = .ok (.aload_n 0, 1) := by decide +kernel
theorem dX4_enter_48 : decode cX4_enter 48 = .ok (.dup, 1) := by decide +kernel
theorem dX4_enter_49 : decode cX4_enter 49 = .ok (.getfield 38, 3) := by decide +kernel
theorem dX4_enter_52 : decode cX4_enter 52 = .ok (.iconst 1, 1) := by decide +kernel
theorem dX4_enter_53 : decode cX4_enter 53 = .ok (.iadd, 1) := by decide +kernel
theorem dX4_enter_54 : decode cX4_enter 54 = .ok (.putfield 38, 3) := by decide +kernel
theorem dX4_enter_57 : decode cX4_enter 57 = .ok (.aload 5, 2) := by decide +kernel
theorem dX4_enter_59 : decode cX4_enter 59 = .ok (.aload_n 0, 1) := by decide +kernel
theorem dX4_enter_60 : decode cX4_enter 60 = .ok (.iload_n 2, 1) := by decide +kernel
theorem dX4_enter_61 : decode cX4_enter 61 = .ok (.aload_n 0, 1) := by decide +kernel
theorem dX4_enter_62 : decode cX4_enter 62 = .ok (.getfield 38, 3) := by decide +kernel
theorem dX4_enter_65 : decode cX4_enter 65 = .ok (.sipush 150, 3) := by decide +kernel
theorem dX4_enter_68 : decode cX4_enter 68 = .ok (.invokevirtual 49, 3) := by decide +kernel
theorem dX4_enter_71 : decode cX4_enter 71 = .ok (.ifCond .ne 11, 3) := by decide +kernel
theorem dX4_enter_74 : decode cX4_enter 74 = .ok (.aload_n 0, 1) := by decide +kernel
theorem dX4_enter_75 : decode cX4_enter 75 = .ok (.iload 7, 2) := by decide +kernel
theorem dX4_enter_77 : decode cX4_enter 77 = .ok (.invokevirtual 55, 3) := by decide +kernel
theorem dX4_enter_80 : decode cX4_enter 80 = .ok (.iconst (-1), 1) := by decide +kernel
theorem dX4_enter_81 : decode cX4_enter 81 = .ok (.ireturn, 1) := by decide +kernel
theorem dX4_enter_82 : decode cX4_enter 82 = .ok (.iload 6, 2) := by decide +kernel
theorem dX4_enter_84 : decode cX4_enter 84 = .ok (.ireturn, 1) := by decide +kernel
theorem dX4_putInOrder_0 : decode cX4_putInOrder 0 = .ok (.aload_n 0, 1) := by decide +kernel
theorem dX4_putInOrder_1 : decode cX4_putInOrder 1 = .ok (.getfield 38, 3) := by decide +kernel
theorem dX4_putInOrder_4 : decode cX4_putInOrder 4 = .ok (.istore_n 2, 1) := by decide +kernel
theorem dX4_putInOrder_5 : decode cX4_putInOrder 5 = .ok (.iload_n 2, 1) := by decide +kernel
theorem dX4_putInOrder_6 : decode cX4_putInOrder 6 = .ok (.ifCond .le 45, 3) := by decide +kernel
theorem dX4_putInOrder_9 : decode cX4_putInOrder 9 = .ok (.aload_n 0, 1) := by decide +kernel
theorem dX4_putInOrder_10 : decode cX4_putInOrder 10 = .ok (.getfield 29, 3) := by decide +kernel
theorem dX4_putInOrder_13 : decode cX4_putInOrder 13 = .ok (.aload_n 0, 1) := by decide +kernel
theorem dX4_putInOrder_14 : decode cX4_putInOrder 14 = .ok (.getfield 35, 3) := by decide +kernel
theorem dX4_putInOrder_17 : decode cX4_putInOrder 17 = .ok (.iload_n 2, 1) := by decide +kernel
theorem dX4_putInOrder_18 : decode cX4_putInOrder 18 = .ok (.iconst 1, 1) := by decide +kernel
theorem dX4_putInOrder_19 : decode cX4_putInOrder 19 = .ok (.isub, 1) := by decide +kernel
theorem dX4_putInOrder_20 : decode cX4_putInOrder 20 = .ok (.iaload, 1) := by decide +kernel
theorem dX4_putInOrder_21 : decode cX4_putInOrder 21 = .ok (.iaload, 1) := by decide +kernel
theorem dX4_putInOrder_22 : decode cX4_putInOrder 22 = .ok (.aload_n 0, 1) := by decide +kernel
theorem dX4_putInOrder_23 : decode cX4_putInOrder 23 = .ok (.getfield 29, 3) := by decide +kernel
theorem dX4_putInOrder_26 : decode cX4_putInOrder 26 = .ok (.iload_n 1, 1) := by decide +kernel
theorem dX4_putInOrder_27 : decode cX4_putInOrder 27 = .ok (.iaload, 1) := by decide +kernel
theorem dX4_putInOrder_28 : decode cX4_putInOrder 28 = .ok (.if_icmp .le 23, 3) := by decide +kernel
theorem dX4_putInOrder_31 : decode cX4_putInOrder 31 = .ok (.aload_n 0, 1) := by decide +kernel
theorem dX4_putInOrder_32 : decode cX4_putInOrder 32 = .ok (.getfield 35, 3) := by decide +kernel
theorem dX4_putInOrder_35 : decode cX4_putInOrder 35 = .ok (.iload_n 2, 1) := by decide +kernel
theorem dX4_putInOrder_36 : decode cX4_putInOrder 36 = .ok (.aload_n 0, 1) := by decide +kernel
theorem dX4_putInOrder_37 : decode cX4_putInOrder 37 = .ok (.getfield 35, 3) := by decide +kernel
theorem dX4_putInOrder_40 : decode cX4_putInOrder 40 = .ok (.iload_n 2, 1) := by decide +kernel
theorem dX4_putInOrder_41 : decode cX4_putInOrder 41 = .ok (.iconst 1, 1) := by decide +kernel
theorem dX4_putInOrder_42 : decode cX4_putInOrder 42 = .ok (.isub, 1) := by decide +kernel
theorem dX4_putInOrder_43 : decode cX4_putInOrder 43 = .ok (.iaload, 1) := by decide +kernel
theorem dX4_putInOrder_44 : decode cX4_putInOrder 44 = .ok (.iastore, 1) := by decide +kernel
theorem dX4_putInOrder_45 : decode cX4_putInOrder 45 = .ok (.iinc 2 (-1), 3) := by decide +kernel
theorem dX4_putInOrder_48 : decode cX4_putInOrder 48 = .ok (.goto (-43), 3) := by decide +kernel
theorem dX4_putInOrder_51 : decode cX4_putInOrder 51 = .ok (.aload_n 0, 1) := by decide +kernel
theorem dX4_putInOrder_52 : decode cX4_putInOrder 52 = .ok (.getfield 35, 3) := by decide +kernel
theorem dX4_putInOrder_55 : decode cX4_putInOrder 55 = .ok (.iload_n 2, 1) := by decide +kernel
theorem dX4_putInOrder_56 : decode cX4_putInOrder 56 = .ok (.iload_n 1, 1) := by decide +kernel
theorem dX4_putInOrder_57 : decode cX4_putInOrder 57 = .ok (.iastore, 1) := by decide +kernel
theorem dX4_putInOrder_58 : decode cX4_putInOrder 58 = .ok (.iload_n 2, 1) := by decide +kernel
theorem dX4_putInOrder_59 : decode cX4_putInOrder 59 = .ok (.ireturn, 1) := by decide +kernel
theorem dX4_takeBack_0 : decode cX4_takeBack 0 = .ok (.aload_n 0, 1) := by decide +kernel
theorem dX4_takeBack_1 : decode cX4_takeBack 1 = .ok (.dup, 1) := by decide +kernel
theorem dX4_takeBack_2 : decode cX4_takeBack 2 = .ok (.getfield 38, 3) := by decide +kernel
theorem dX4_takeBack_5 : decode cX4_takeBack 5 = .ok (.iconst 1, 1) := by decide +kernel
theorem dX4_takeBack_6 : decode cX4_takeBack 6 = .ok (.isub, 1) := by decide +kernel
theorem dX4_takeBack_7 : decode cX4_takeBack 7 = .ok (.putfield 38, 3) := by decide +kernel
theorem dX4_takeBack_10 : decode cX4_takeBack 10 = .ok (.iload_n 1, 1) := by decide +kernel
theorem dX4_takeBack_11 : decode cX4_takeBack 11 = .ok (.istore_n 2, 1) := by decide +kernel
theorem dX4_takeBack_12 : decode cX4_takeBack 12 = .ok (.iload_n 2, 1) := by decide +kernel
theorem dX4_takeBack_13 : decode cX4_takeBack 13 = .ok (.aload_n 0, 1) := by decide +kernel
theorem dX4_takeBack_14 : decode cX4_takeBack 14 = .ok (.getfield 38, 3) := by decide +kernel
theorem dX4_takeBack_17 : decode cX4_takeBack 17 = .ok (.if_icmp .ge 23, 3) := by decide +kernel
theorem dX4_takeBack_20 : decode cX4_takeBack 20 = .ok (.aload_n 0, 1) := by decide +kernel
theorem dX4_takeBack_21 : decode cX4_takeBack 21 = .ok (.getfield 35, 3) := by decide +kernel
theorem dX4_takeBack_24 : decode cX4_takeBack 24 = .ok (.iload_n 2, 1) := by decide +kernel
theorem dX4_takeBack_25 : decode cX4_takeBack 25 = .ok (.aload_n 0, 1) := by decide +kernel
theorem dX4_takeBack_26 : decode cX4_takeBack 26 = .ok (.getfield 35, 3) := by decide +kernel
theorem dX4_takeBack_29 : decode cX4_takeBack 29 = .ok (.iload_n 2, 1) := by decide +kernel
theorem dX4_takeBack_30 : decode cX4_takeBack 30 = .ok (.iconst 1, 1) := by decide +kernel
theorem dX4_takeBack_31 : decode cX4_takeBack 31 = .ok (.iadd, 1) := by decide +kernel
theorem dX4_takeBack_32 : decode cX4_takeBack 32 = .ok (.iaload, 1) := by decide +kernel
theorem dX4_takeBack_33 : decode cX4_takeBack 33 = .ok (.iastore, 1) := by decide +kernel
theorem dX4_takeBack_34 : decode cX4_takeBack 34 = .ok (.iinc 2 1, 3) := by decide +kernel
theorem dX4_takeBack_37 : decode cX4_takeBack 37 = .ok (.goto (-25), 3) := by decide +kernel
theorem dX4_takeBack_40 : decode cX4_takeBack 40 = .ok (.return_, 1) := by decide +kernel
theorem dX4_upOn_0 : decode cX4_upOn 0 = .ok (.iconst 0, 1) := by decide +kernel
theorem dX4_upOn_1 : decode cX4_upOn 1 = .ok (.istore_n 2, 1) := by decide +kernel
theorem dX4_upOn_2 : decode cX4_upOn 2 = .ok (.iconst 0, 1) := by decide +kernel
theorem dX4_upOn_3 : decode cX4_upOn 3 = .ok (.istore_n 3, 1) := by decide +kernel
theorem dX4_upOn_4 : decode cX4_upOn 4 = .ok (.iload_n 3, 1) := by decide +kernel
theorem dX4_upOn_5 : decode cX4_upOn 5 = .ok (.aload_n 0, 1) := by decide +kernel
theorem dX4_upOn_6 : decode cX4_upOn 6 = .ok (.getfield 38, 3) := by decide +kernel
theorem dX4_upOn_9 : decode cX4_upOn 9 = .ok (.if_icmp .ge 61, 3) := by decide +kernel
theorem dX4_upOn_12 : decode cX4_upOn 12 = .ok (.aload_n 0, 1) := by decide +kernel
theorem dX4_upOn_13 : decode cX4_upOn 13 = .ok (.getfield 35, 3) := by decide +kernel
theorem dX4_upOn_16 : decode cX4_upOn 16 = .ok (.iload_n 3, 1) := by decide +kernel
theorem dX4_upOn_17 : decode cX4_upOn 17 = .ok (.iaload, 1) := by decide +kernel
theorem dX4_upOn_18 : decode cX4_upOn 18 = .ok (.istore 4, 2) := by decide +kernel
theorem dX4_upOn_20 : decode cX4_upOn 20 = .ok (.aload_n 0, 1) := by decide +kernel
theorem dX4_upOn_21 : decode cX4_upOn 21 = .ok (.getfield 29, 3) := by decide +kernel
theorem dX4_upOn_24 : decode cX4_upOn 24 = .ok (.iload 4, 2) := by decide +kernel
theorem dX4_upOn_26 : decode cX4_upOn 26 = .ok (.iaload, 1) := by decide +kernel
theorem dX4_upOn_27 : decode cX4_upOn 27 = .ok (.iload_n 1, 1) := by decide +kernel
theorem dX4_upOn_28 : decode cX4_upOn 28 = .ok (.if_icmp .le 6, 3) := by decide +kernel
theorem dX4_upOn_31 : decode cX4_upOn 31 = .ok (.goto 39, 3) := by decide +kernel
theorem dX4_upOn_34 : decode cX4_upOn 34 = .ok (.aload_n 0, 1) := by decide +kernel
theorem dX4_upOn_35 : decode cX4_upOn 35 = .ok (.getfield 23, 3) := by decide +kernel
theorem dX4_upOn_38 : decode cX4_upOn 38 = .ok (.iload 4, 2) := by decide +kernel
theorem dX4_upOn_40 : decode cX4_upOn 40 = .ok (.iaload, 1) := by decide +kernel
theorem dX4_upOn_41 : decode cX4_upOn 41 = .ok (.ifCond .ne 9, 3) := by decide +kernel
theorem dX4_upOn_44 : decode cX4_upOn 44 = .ok (.iinc 2 1, 3) := by decide +kernel
theorem dX4_upOn_47 : decode cX4_upOn 47 = .ok (.goto 17, 3) := by decide +kernel
theorem dX4_upOn_50 : decode cX4_upOn 50 = .ok (.aload_n 0, 1) := by decide +kernel
theorem dX4_upOn_51 : decode cX4_upOn 51 = .ok (.getfield 23, 3) := by decide +kernel
theorem dX4_upOn_54 : decode cX4_upOn 54 = .ok (.iload 4, 2) := by decide +kernel
theorem dX4_upOn_56 : decode cX4_upOn 56 = .ok (.iaload, 1) := by decide +kernel
theorem dX4_upOn_57 : decode cX4_upOn 57 = .ok (.iconst 3, 1) := by decide +kernel
theorem dX4_upOn_58 : decode cX4_upOn 58 = .ok (.if_icmp .eq 6, 3) := by decide +kernel
theorem dX4_upOn_61 : decode cX4_upOn 61 = .ok (.iinc 2 (-1), 3) := by decide +kernel
theorem dX4_upOn_64 : decode cX4_upOn 64 = .ok (.iinc 3 1, 3) := by decide +kernel
theorem dX4_upOn_67 : decode cX4_upOn 67 = .ok (.goto (-63), 3) := by decide +kernel
theorem dX4_upOn_70 : decode cX4_upOn 70 = .ok (.iload_n 2, 1) := by decide +kernel
theorem dX4_upOn_71 : decode cX4_upOn 71 = .ok (.ireturn, 1) := by decide +kernel
theorem dX4_livingOf_0 : decode cX4_livingOf 0 = .ok (.iconst 0, 1) := by decide +kernel
theorem dX4_livingOf_1 : decode cX4_livingOf 1 = .ok (.istore 4, 2) := by decide +kernel
theorem dX4_livingOf_3 : decode cX4_livingOf 3 = .ok (.iconst 0, 1) := by decide +kernel
theorem dX4_livingOf_4 : decode cX4_livingOf 4 = .ok (.istore 5, 2) := by decide +kernel
theorem dX4_livingOf_6 : decode cX4_livingOf 6 = .ok (.iload 5, 2) := by decide +kernel
theorem dX4_livingOf_8 : decode cX4_livingOf 8 = .ok (.aload_n 0, 1) := by decide +kernel
theorem dX4_livingOf_9 : decode cX4_livingOf 9 = .ok (.getfield 19, 3) := by decide +kernel
theorem dX4_livingOf_12 : decode cX4_livingOf 12 = .ok (.if_icmp .ge 40, 3) := by decide +kernel
theorem dX4_livingOf_15 : decode cX4_livingOf 15 = .ok (.aload_n 3, 1) := by decide +kernel
theorem dX4_livingOf_16 : decode cX4_livingOf 16 = .ok (.aload_n 0, 1) := by decide +kernel
theorem dX4_livingOf_17 : decode cX4_livingOf 17 = .ok (.iload 5, 2) := by decide +kernel
theorem dX4_livingOf_19 : decode cX4_livingOf 19 = .ok (.aload_n 0, 1) := by decide +kernel
theorem dX4_livingOf_20 : decode cX4_livingOf 20 = .ok (.getfield 38, 3) := by decide +kernel
theorem dX4_livingOf_23 : decode cX4_livingOf 23 = .ok (.iload_n 2, 1) := by decide +kernel
theorem dX4_livingOf_24 : decode cX4_livingOf 24 = .ok (.invokevirtual 49, 3) := by decide +kernel
theorem dX4_livingOf_27 : decode cX4_livingOf 27 = .ok (.pop, 1) := by decide +kernel
theorem dX4_livingOf_28 : decode cX4_livingOf 28 = .ok (.aload_n 3, 1) := by decide +kernel
theorem dX4_livingOf_29 : decode cX4_livingOf 29 = .ok (.getfield 59, 3) := by decide +kernel
theorem dX4_livingOf_32 : decode cX4_livingOf 32 = .ok (.ifCond .ne 14, 3) := by decide +kernel
theorem dX4_livingOf_35 : decode cX4_livingOf 35 = .ok (.aload_n 3, 1) := by decide +kernel
theorem dX4_livingOf_36 : decode cX4_livingOf 36 = .ok (.getfield 63, 3) := by decide +kernel
theorem dX4_livingOf_39 : decode cX4_livingOf 39 = .ok (.iload_n 1, 1) := by decide +kernel
theorem dX4_livingOf_40 : decode cX4_livingOf 40 = .ok (.if_icmp .ne 6, 3) := by decide +kernel
theorem dX4_livingOf_43 : decode cX4_livingOf 43 = .ok (.iinc 4 1, 3) := by decide +kernel
theorem dX4_livingOf_46 : decode cX4_livingOf 46 = .ok (.iinc 5 1, 3) := by decide +kernel
theorem dX4_livingOf_49 : decode cX4_livingOf 49 = .ok (.goto (-43), 3) := by decide +kernel
theorem dX4_livingOf_52 : decode cX4_livingOf 52 = .ok (.iload 4, 2) := by decide +kernel
theorem dX4_livingOf_54 : decode cX4_livingOf 54 = .ok (.ireturn, 1) := by decide +kernel
theorem dX4_beginYear_0 : decode cX4_beginYear 0 = .ok (.iconst 0, 1) := by decide +kernel
theorem dX4_beginYear_1 : decode cX4_beginYear 1 = .ok (.istore_n 3, 1) := by decide +kernel
theorem dX4_beginYear_2 : decode cX4_beginYear 2 = .ok (.iload_n 3, 1) := by decide +kernel
theorem dX4_beginYear_3 : decode cX4_beginYear 3 = .ok (.aload_n 0, 1) := by decide +kernel
theorem dX4_beginYear_4 : decode cX4_beginYear 4 = .ok (.getfield 19, 3) := by decide +kernel
theorem dX4_beginYear_7 : decode cX4_beginYear 7 = .ok (.if_icmp .ge 41, 3) := by decide +kernel
theorem dX4_beginYear_10 : decode cX4_beginYear 10 = .ok (.aload_n 2, 1) := by decide +kernel
theorem dX4_beginYear_11 : decode cX4_beginYear 11 = .ok (.aload_n 0, 1) := by decide +kernel
theorem dX4_beginYear_12 : decode cX4_beginYear 12 = .ok (.iload_n 3, 1) := by decide +kernel
theorem dX4_beginYear_13 : decode cX4_beginYear 13 = .ok (.aload_n 0, 1) := by decide +kernel
theorem dX4_beginYear_14 : decode cX4_beginYear 14 = .ok (.getfield 38, 3) := by decide +kernel
theorem dX4_beginYear_17 : decode cX4_beginYear 17 = .ok (.iload_n 1, 1) := by decide +kernel
theorem dX4_beginYear_18 : decode cX4_beginYear 18 = .ok (.invokevirtual 49, 3) := by decide +kernel
theorem dX4_beginYear_21 : decode cX4_beginYear 21 = .ok (.pop, 1) := by decide +kernel
theorem dX4_beginYear_22 : decode cX4_beginYear 22 = .ok (.aload_n 0, 1) := by decide +kernel
theorem dX4_beginYear_23 : decode cX4_beginYear 23 = .ok (.getfield 9, 3) := by decide +kernel
theorem dX4_beginYear_26 : decode cX4_beginYear 26 = .ok (.iload_n 3, 1) := by decide +kernel
theorem dX4_beginYear_27 : decode cX4_beginYear 27 = .ok (.aload_n 2, 1) := by decide +kernel
theorem dX4_beginYear_28 : decode cX4_beginYear 28 = .ok (.getfield 63, 3) := by decide +kernel
theorem dX4_beginYear_31 : decode cX4_beginYear 31 = .ok (.iastore, 1) := by decide +kernel
theorem dX4_beginYear_32 : decode cX4_beginYear 32 = .ok (.aload_n 0, 1) := by decide +kernel
theorem dX4_beginYear_33 : decode cX4_beginYear 33 = .ok (.getfield 15, 3) := by decide +kernel
theorem dX4_beginYear_36 : decode cX4_beginYear 36 = .ok (.iload_n 3, 1) := by decide +kernel
theorem dX4_beginYear_37 : decode cX4_beginYear 37 = .ok (.aload_n 2, 1) := by decide +kernel
theorem dX4_beginYear_38 : decode cX4_beginYear 38 = .ok (.getfield 59, 3) := by decide +kernel
theorem dX4_beginYear_41 : decode cX4_beginYear 41 = .ok (.bastore, 1) := by decide +kernel
theorem dX4_beginYear_42 : decode cX4_beginYear 42 = .ok (.iinc 3 1, 3) := by decide +kernel
theorem dX4_beginYear_45 : decode cX4_beginYear 45 = .ok (.goto (-43), 3) := by decide +kernel
theorem dX4_beginYear_48 : decode cX4_beginYear 48 = .ok (.aload_n 0, 1) := by decide +kernel
theorem dX4_beginYear_49 : decode cX4_beginYear 49 = .ok (.iconst 0, 1) := by decide +kernel
theorem dX4_beginYear_50 : decode cX4_beginYear 50 = .ok (.putfield 38, 3) := by decide +kernel
theorem dX4_beginYear_53 : decode cX4_beginYear 53 = .ok (.return_, 1) := by decide +kernel
