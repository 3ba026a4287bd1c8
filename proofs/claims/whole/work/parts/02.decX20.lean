theorem dX2_init_0 : decode cX2_init 0 = .ok (.aload_n 0, 1) := by decide +kernel
theorem dX2_init_1 : decode cX2_init 1 = .ok (.invokespecial 3, 3) := by decide +kernel
theorem dX2_init_4 : decode cX2_init 4 = .ok (.aload_n 0, 1) := by decide +kernel
theorem dX2_init_5 : decode cX2_init 5 = .ok (.bipush 6, 2) := by decide +kernel
theorem dX2_init_7 : decode cX2_init 7 = .ok (.newarray .int, 2) := by decide +kernel
theorem dX2_init_9 : decode cX2_init 9 = .ok (.putfield 9, 3) := by decide +kernel
theorem dX2_init_12 : decode cX2_init 12 = .ok (.aload_n 0, 1) := by decide +kernel
theorem dX2_init_13 : decode cX2_init 13 = .ok (.bipush 6, 2) := by decide +kernel
theorem dX2_init_15 : decode cX2_init 15 = .ok (.newarray .int, 2) := by decide +kernel
theorem dX2_init_17 : decode cX2_init 17 = .ok (.putfield 15, 3) := by decide +kernel
theorem dX2_init_20 : decode cX2_init 20 = .ok (.aload_n 0, 1) := by decide +kernel
theorem dX2_init_21 : decode cX2_init 21 = .ok (.bipush 6, 2) := by decide +kernel
theorem dX2_init_23 : decode cX2_init 23 = .ok (.newarray .int, 2) := by decide +kernel
theorem dX2_init_25 : decode cX2_init 25 = .ok (.putfield 18, 3) := by decide +kernel
theorem dX2_init_28 : decode cX2_init 28 = .ok (.aload_n 0, 1) := by decide +kernel
theorem dX2_init_29 : decode cX2_init 29 = .ok (.iconst 0, 1) := by decide +kernel
theorem dX2_init_30 : decode cX2_init 30 = .ok (.putfield 21, 3) := by decide +kernel
theorem dX2_init_33 : decode cX2_init 33 = .ok (.aload_n 0, 1) := by decide +kernel
theorem dX2_init_34 : decode cX2_init 34 = .ok (.iconst (-1), 1) := by decide +kernel
theorem dX2_init_35 : decode cX2_init 35 = .ok (.putfield 25, 3) := by decide +kernel
theorem dX2_init_38 : decode cX2_init 38 = .ok (.aload_n 0, 1) := by decide +kernel
theorem dX2_init_39 : decode cX2_init 39 = .ok (.iconst 0, 1) := by decide +kernel
theorem dX2_init_40 : decode cX2_init 40 = .ok (.putfield 28, 3) := by decide +kernel
theorem dX2_init_43 : decode cX2_init 43 = .ok (.aload_n 0, 1) := by decide +kernel
theorem dX2_init_44 : decode cX2_init 44 = .ok (.lconst 0, 1) := by decide +kernel
theorem dX2_init_45 : decode cX2_init 45 = .ok (.putfield 31, 3) := by decide +kernel
theorem dX2_init_48 : decode cX2_init 48 = .ok (.aload_n 0, 1) := by decide +kernel
theorem dX2_init_49 : decode cX2_init 49 = .ok (.iconst 1, 1) := by decide +kernel
theorem dX2_init_50 : decode cX2_init 50 = .ok (.invokevirtual 35, 3) := by decide +kernel
theorem dX2_init_53 : decode cX2_init 53 = .ok (.return_, 1) := by decide +kernel
theorem dX2_makeHeights_0 : decode cX2_makeHeights 0 = .ok (.aload_n 0, 1) := by decide +kernel
theorem dX2_makeHeights_1 : decode cX2_makeHeights 1 = .ok (.iload_n 1, 1) := by decide +kernel
theorem dX2_makeHeights_2 : decode cX2_makeHeights 2 = .ok (.putfield 39, 3) := by decide +kernel
theorem dX2_makeHeights_5 : decode cX2_makeHeights 5 = .ok (.aload_n 0, 1) := by decide +kernel
theorem dX2_makeHeights_6 : decode cX2_makeHeights 6 = .ok (.getfield 9, 3) := by decide +kernel
theorem dX2_makeHeights_9 : decode cX2_makeHeights 9 = .ok (.iconst 0, 1) := by decide +kernel
theorem dX2_makeHeights_10 : decode cX2_makeHeights 10 = .ok (.invokestatic 42, 3) := by decide +kernel
theorem dX2_makeHeights_13 : decode cX2_makeHeights 13 = .ok (.aload_n 0, 1) := by decide +kernel
theorem dX2_makeHeights_14 : decode cX2_makeHeights 14 = .ok (.getfield 15, 3) := by decide +kernel
theorem dX2_makeHeights_17 : decode cX2_makeHeights 17 = .ok (.iconst 1, 1) := by decide +kernel
theorem dX2_makeHeights_18 : decode cX2_makeHeights 18 = .ok (.invokestatic 42, 3) := by decide +kernel
theorem dX2_makeHeights_21 : decode cX2_makeHeights 21 = .ok (.aload_n 0, 1) := by decide +kernel
theorem dX2_makeHeights_22 : decode cX2_makeHeights 22 = .ok (.getfield 18, 3) := by decide +kernel
theorem dX2_makeHeights_25 : decode cX2_makeHeights 25 = .ok (.iconst 0, 1) := by decide +kernel
theorem dX2_makeHeights_26 : decode cX2_makeHeights 26 = .ok (.invokestatic 42, 3) := by decide +kernel
theorem dX2_makeHeights_29 : decode cX2_makeHeights 29 = .ok (.return_, 1) := by decide +kernel
theorem dX2_has_0 : decode cX2_has 0 = .ok (.iload_n 1, 1) := by decide +kernel
theorem dX2_has_1 : decode cX2_has 1 = .ok (.iconst 0, 1) := by decide +kernel
theorem dX2_has_2 : decode cX2_has 2 = .ok (.aload_n 0, 1) := by decide +kernel
theorem dX2_has_3 : decode cX2_has 3 = .ok (.getfield 39, 3) := by decide +kernel
theorem dX2_has_6 : decode cX2_has 6 = .ok (.iconst 1, 1) := by decide +kernel
theorem dX2_has_7 : decode cX2_has 7 = .ok (.isub, 1) := by decide +kernel
theorem dX2_has_8 : decode cX2_has 8 = .ok (.invokestatic 48, 3) := by decide +kernel
theorem dX2_has_11 : decode cX2_has 11 = .ok (.ireturn, 1) := by decide +kernel
theorem dX2_isOpen_0 : decode cX2_isOpen 0 = .ok (.aload_n 0, 1) := by decide +kernel
theorem dX2_isOpen_1 : decode cX2_isOpen 1 = .ok (.getfield 21, 3) := by decide +kernel
theorem dX2_isOpen_4 : decode cX2_isOpen 4 = .ok (.bipush 20, 2) := by decide +kernel
theorem dX2_isOpen_6 : decode cX2_isOpen 6 = .ok (.if_icmp .gt 7, 3) := by decide +kernel
theorem dX2_isOpen_9 : decode cX2_isOpen 9 = .ok (.iconst 1, 1) := by decide +kernel
theorem dX2_isOpen_10 : decode cX2_isOpen 10 = .ok (.goto 4, 3) := by decide +kernel
theorem dX2_isOpen_13 : decode cX2_isOpen 13 = .ok (.iconst 0, 1) := by decide +kernel
theorem dX2_isOpen_14 : decode cX2_isOpen 14 = .ok (.ireturn, 1) := by decide +kernel
theorem dX2_canReach_0 : decode cX2_canReach 0 = .ok (.iload_n 1, 1) := by decide +kernel
theorem dX2_canReach_1 : decode cX2_canReach 1 = .ok (.iconst (-1), 1) := by decide +kernel
theorem dX2_canReach_2 : decode cX2_canReach 2 = .ok (.if_icmp .eq 13, 3) := by decide +kernel
theorem dX2_canReach_5 : decode cX2_canReach 5 = .ok (.aload_n 0, 1) := by decide +kernel
theorem dX2_canReach_6 : decode cX2_canReach 6 = .ok (.iload_n 1, 1) := by decide +kernel
theorem dX2_canReach_7 : decode cX2_canReach 7 = .ok (.invokevirtual 52, 3) := by decide +kernel
theorem dX2_canReach_10 : decode cX2_canReach 10 = .ok (.ifCond .ne 5, 3) := by decide +kernel
theorem dX2_canReach_13 : decode cX2_canReach 13 = .ok (.iconst 0, 1) := by decide +kernel
theorem dX2_canReach_14 : decode cX2_canReach 14 = .ok (.ireturn, 1) := by decide +kernel
theorem dX2_canReach_15 : decode cX2_canReach 15 = .ok (.iload_n 1, 1) := by decide +kernel
theorem dX2_canReach_16 : decode cX2_canReach 16 = .ok (.aload_n 0, 1) := by decide +kernel
theorem dX2_canReach_17 : decode cX2_canReach 17 = .ok (.getfield 25, 3) := by decide +kernel
theorem dX2_canReach_20 : decode cX2_canReach 20 = .ok (.isub, 1) := by decide +kernel
theorem dX2_canReach_21 : decode cX2_canReach 21 = .ok (.invokestatic 56, 3) := by decide +kernel
theorem dX2_canReach_24 : decode cX2_canReach 24 = .ok (.iconst 1, 1) := by decide +kernel
theorem dX2_canReach_25 : decode cX2_canReach 25 = .ok (.if_icmp .ne 7, 3) := by decide +kernel
theorem dX2_canReach_28 : decode cX2_canReach 28 = .ok (.iconst 1, 1) := by decide +kernel
theorem dX2_canReach_29 : decode cX2_canReach 29 = .ok (.goto 4, 3) := by decide +kernel
theorem dX2_canReach_32 : decode cX2_canReach 32 = .ok (.iconst 0, 1) := by decide +kernel
theorem dX2_canReach_33 : decode cX2_canReach 33 = .ok (.istore_n 2, 1) := by decide +kernel
theorem dX2_canReach_34 : decode cX2_canReach 34 = .ok (.iload_n 1, 1) := by decide +kernel
theorem dX2_canReach_35 : decode cX2_canReach 35 = .ok (.iconst (-1), 1) := by decide +kernel
theorem dX2_canReach_36 : decode cX2_canReach 36 = .ok (.if_icmp .eq 11, 3) := by decide +kernel
theorem dX2_canReach_39 : decode cX2_canReach 39 = .ok (.aload_n 0, 1) := by decide +kernel
theorem dX2_canReach_40 : decode cX2_canReach 40 = .ok (.getfield 25, 3) := by decide +kernel
theorem dX2_canReach_43 : decode cX2_canReach 43 = .ok (.iconst (-1), 1) := by decide +kernel
theorem dX2_canReach_44 : decode cX2_canReach 44 = .ok (.if_icmp .ne 7, 3) := by decide +kernel
theorem dX2_canReach_47 : decode cX2_canReach 47 = .ok (.iconst 1, 1) := by decide +kernel
theorem dX2_canReach_48 : decode cX2_canReach 48 = .ok (.goto 4, 3) := by decide +kernel
theorem dX2_canReach_51 : decode cX2_canReach 51 = .ok (.iconst 0, 1) := by decide +kernel
theorem dX2_canReach_52 : decode cX2_canReach 52 = .ok (.istore_n 3, 1) := by decide +kernel
theorem dX2_canReach_53 : decode cX2_canReach 53 = .ok (.iload_n 2, 1) := by decide +kernel
theorem dX2_canReach_54 : decode cX2_canReach 54 = .ok (.ifCond .eq 18, 3) := by decide +kernel
theorem dX2_canReach_57 : decode cX2_canReach 57 = .ok (.iload_n 3, 1) := by decide +kernel
theorem dX2_canReach_58 : decode cX2_canReach 58 = .ok (.ifCond .eq 10, 3) := by decide +kernel
theorem dX2_canReach_61 : decode cX2_canReach 61 = .ok (.aload_n 0, 1) := by decide +kernel
theorem dX2_canReach_62 : decode cX2_canReach 62 = .ok (.invokevirtual 62, 3) := by decide +kernel
theorem dX2_canReach_65 : decode cX2_canReach 65 = .ok (.ifCond .eq 7, 3) := by decide +kernel
theorem dX2_canReach_68 : decode cX2_canReach 68 = .ok (.iconst 1, 1) := by decide +kernel
theorem dX2_canReach_69 : decode cX2_canReach 69 = .ok (.goto 4, 3) := by decide +kernel
theorem dX2_canReach_72 : decode cX2_canReach 72 = .ok (.iconst 0, 1) := by decide +kernel
theorem dX2_canReach_73 : decode cX2_canReach 73 = .ok (.ireturn, 1) := by decide +kernel
theorem dX2_passDay_0 : decode cX2_passDay 0 = .ok (.aload_n 0, 1) := by decide +kernel
theorem dX2_passDay_1 : decode cX2_passDay 1 = .ok (.dup, 1) := by decide +kernel
theorem dX2_passDay_2 : decode cX2_passDay 2 = .ok (.getfield 21, 3) := by decide +kernel
theorem dX2_passDay_5 : decode cX2_passDay 5 = .ok (.iload_n 2, 1) := by decide +kernel
theorem dX2_passDay_6 : decode cX2_passDay 6 = .ok (.iadd, 1) := by decide +kernel
theorem dX2_passDay_7 : decode cX2_passDay 7 = .ok (.putfield 21, 3) := by decide +kernel
theorem dX2_passDay_10 : decode cX2_passDay 10 = .ok (.iload_n 1, 1) := by decide +kernel
theorem dX2_passDay_11 : decode cX2_passDay 11 = .ok (.ifCond .le 19, 3) := by decide +kernel
theorem dX2_passDay_14 : decode cX2_passDay 14 = .ok (.aload_n 0, 1) := by decide +kernel
theorem dX2_passDay_15 : decode cX2_passDay 15 = .ok (.iconst 0, 1) := by decide +kernel
theorem dX2_passDay_16 : decode cX2_passDay 16 = .ok (.aload_n 0, 1) := by decide +kernel
theorem dX2_passDay_17 : decode cX2_passDay 17 = .ok (.getfield 21, 3) := by decide +kernel
theorem dX2_passDay_20 : decode cX2_passDay 20 = .ok (.iconst 4, 1) := by decide +kernel
theorem dX2_passDay_21 : decode cX2_passDay 21 = .ok (.iload_n 1, 1) := by decide +kernel
theorem dX2_passDay_22 : decode cX2_passDay 22 = .ok (.imul, 1) := by decide +kernel
theorem dX2_passDay_23 : decode cX2_passDay 23 = .ok (.isub, 1) := by decide +kernel
theorem dX2_passDay_24 : decode cX2_passDay 24 = .ok (.invokestatic 66, 3) := by decide +kernel
theorem dX2_passDay_27 : decode cX2_passDay 27 = .ok (.putfield 21, 3) := by decide +kernel
theorem dX2_passDay_30 : decode cX2_passDay 30 = .ok (.iconst 0, 1) := by decide +kernel
theorem dX2_passDay_31 : decode cX2_passDay 31 = .ok (.istore 4, 2) := by decide +kernel
theorem dX2_passDay_33 : decode cX2_passDay 33 = .ok (.iload 4, 2) := by decide +kernel
theorem dX2_passDay_35 : decode cX2_passDay 35 = .ok (.aload_n 0, 1) := by decide +kernel
theorem dX2_passDay_36 : decode cX2_passDay 36 = .ok (.getfield 39, 3) := by decide +kernel
theorem dX2_passDay_39 : decode cX2_passDay 39 = .ok (.if_icmp .ge 40, 3) := by decide +kernel
theorem dX2_passDay_42 : decode cX2_passDay 42 = .ok (.aload_n 0, 1) := by decide +kernel
theorem dX2_passDay_43 : decode cX2_passDay 43 = .ok (.getfield 9, 3) := by decide +kernel
theorem dX2_passDay_46 : decode cX2_passDay 46 = .ok (.iload 4, 2) := by decide +kernel
theorem dX2_passDay_48 : decode cX2_passDay 48 = .ok (.aload_n 0, 1) := by decide +kernel
theorem dX2_passDay_49 : decode cX2_passDay 49 = .ok (.getfield 9, 3) := by decide +kernel
theorem dX2_passDay_52 : decode cX2_passDay 52 = .ok (.iload 4, 2) := by decide +kernel
theorem dX2_passDay_54 : decode cX2_passDay 54 = .ok (.iaload, 1) := by decide +kernel
theorem dX2_passDay_55 : decode cX2_passDay 55 = .ok (.aload_n 0, 1) := by decide +kernel
theorem dX2_passDay_56 : decode cX2_passDay 56 = .ok (.getfield 15, 3) := by decide +kernel
theorem dX2_passDay_59 : decode cX2_passDay 59 = .ok (.iload 4, 2) := by decide +kernel
theorem dX2_passDay_61 : decode cX2_passDay 61 = .ok (.iaload, 1) := by decide +kernel
theorem dX2_passDay_62 : decode cX2_passDay 62 = .ok (.aload_n 0, 1) := by decide +kernel
theorem dX2_passDay_63 : decode cX2_passDay 63 = .ok (.iload 4, 2) := by decide +kernel
theorem dX2_passDay_65 : decode cX2_passDay 65 = .ok (.iload_n 1, 1) := by decide +kernel
theorem dX2_passDay_66 : decode cX2_passDay 66 = .ok (.invokevirtual 70, 3) := by decide +kernel
theorem dX2_passDay_69 : decode cX2_passDay 69 = .ok (.invokestatic 73, 3) := by decide +kernel
theorem dX2_passDay_72 : decode cX2_passDay 72 = .ok (.iastore, 1) := by decide +kernel
theorem dX2_passDay_73 : decode cX2_passDay 73 = .ok (.iinc 4 1, 3) := by decide +kernel
theorem dX2_passDay_76 : decode cX2_passDay 76 = .ok (.goto (-43), 3) := by decide +kernel
theorem dX2_passDay_79 : decode cX2_passDay 79 = .ok (.aload_n 0, 1) := by decide +kernel
theorem dX2_passDay_80 : decode cX2_passDay 80 = .ok (.getfield 25, 3) := by decide +kernel
theorem dX2_passDay_83 : decode cX2_passDay 83 = .ok (.iconst (-1), 1) := by decide +kernel
theorem dX2_passDay_84 : decode cX2_passDay 84 = .ok (.if_icmp .eq 11, 3) := by decide +kernel
theorem dX2_passDay_87 : decode cX2_passDay 87 = .ok (.aload_n 0, 1) := by decide +kernel
theorem dX2_passDay_88 : decode cX2_passDay 88 = .ok (.bipush 10, 2) := by decide +kernel
theorem dX2_passDay_90 : decode cX2_passDay 90 = .ok (.iload_n 3, 1) := by decide +kernel
theorem dX2_passDay_91 : decode cX2_passDay 91 = .ok (.imul, 1) := by decide +kernel
theorem dX2_passDay_92 : decode cX2_passDay 92 = .ok (.invokevirtual 77, 3) := by decide +kernel
theorem dX2_passDay_95 : decode cX2_passDay 95 = .ok (.return_, 1) := by decide +kernel
theorem dX2_graze_0 : decode cX2_graze 0 = .ok (.iload_n 1, 1) := by decide +kernel
theorem dX2_graze_1 : decode cX2_graze 1 = .ok (.aload_n 0, 1) := by decide +kernel
theorem dX2_graze_2 : decode cX2_graze 2 = .ok (.getfield 9, 3) := by decide +kernel
theorem dX2_graze_5 : decode cX2_graze 5 = .ok (.aload_n 0, 1) := by decide +kernel
theorem dX2_graze_6 : decode cX2_graze 6 = .ok (.getfield 25, 3) := by decide +kernel
theorem dX2_graze_9 : decode cX2_graze 9 = .ok (.iaload, 1) := by decide +kernel
theorem dX2_graze_10 : decode cX2_graze 10 = .ok (.invokestatic 80, 3) := by decide +kernel
theorem dX2_graze_13 : decode cX2_graze 13 = .ok (.istore_n 2, 1) := by decide +kernel
theorem dX2_graze_14 : decode cX2_graze 14 = .ok (.aload_n 0, 1) := by decide +kernel
theorem dX2_graze_15 : decode cX2_graze 15 = .ok (.getfield 9, 3) := by decide +kernel
theorem dX2_graze_18 : decode cX2_graze 18 = .ok (.aload_n 0, 1) := by decide +kernel
theorem dX2_graze_19 : decode cX2_graze 19 = .ok (.getfield 25, 3) := by decide +kernel
theorem dX2_graze_22 : decode cX2_graze 22 = .ok (.dup2, 1) := by decide +kernel
theorem dX2_graze_23 : decode cX2_graze 23 = .ok (.iaload, 1) := by decide +kernel
theorem dX2_graze_24 : decode cX2_graze 24 = .ok (.iload_n 2, 1) := by decide +kernel
theorem dX2_graze_25 : decode cX2_graze 25 = .ok (.isub, 1) := by decide +kernel
theorem dX2_graze_26 : decode cX2_graze 26 = .ok (.iastore, 1) := by decide +kernel
theorem dX2_graze_27 : decode cX2_graze 27 = .ok (.aload_n 0, 1) := by decide +kernel
theorem dX2_graze_28 : decode cX2_graze 28 = .ok (.dup, 1) := by decide +kernel
theorem dX2_graze_29 : decode cX2_graze 29 = .ok (.getfield 31, 3) := by decide +kernel
theorem dX2_graze_32 : decode cX2_graze 32 = .ok (.iload_n 2, 1) := by decide +kernel
theorem dX2_graze_33 : decode cX2_graze 33 = .ok (.i2l, 1) := by decide +kernel
theorem dX2_graze_34 : decode cX2_graze 34 = .ok (.ladd, 1) := by decide +kernel
theorem dX2_graze_35 : decode cX2_graze 35 = .ok (.putfield 31, 3) := by decide +kernel
theorem dX2_graze_38 : decode cX2_graze 38 = .ok (.aload_n 0, 1) := by decide +kernel
theorem dX2_graze_39 : decode cX2_graze 39 = .ok (.dup, 1) := by decide +kernel
theorem dX2_graze_40 : decode cX2_graze 40 = .ok (.getfield 28, 3) := by decide +kernel
theorem dX2_graze_43 : decode cX2_graze 43 = .ok (.iload_n 1, 1) := by decide +kernel
theorem dX2_graze_44 : decode cX2_graze 44 = .ok (.iload_n 2, 1) := by decide +kernel
theorem dX2_graze_45 : decode cX2_graze 45 = .ok (.isub, 1) := by decide +kernel
theorem dX2_graze_46 : decode cX2_graze 46 = .ok (.iadd, 1) := by decide +kernel
theorem dX2_graze_47 : decode cX2_graze 47 = .ok (.putfield 28, 3) := by decide +kernel
theorem dX2_graze_50 : decode cX2_graze 50 = .ok (.return_, 1) := by decide +kernel
theorem dX2_gainOn_0 : decode cX2_gainOn 0 = .ok (.aload_n 0, 1) := by decide +kernel
theorem dX2_gainOn_1 : decode cX2_gainOn 1 = .ok (.getfield 18, 3) := by decide +kernel
theorem dX2_gainOn_4 : decode cX2_gainOn 4 = .ok (.iload_n 1, 1) := by decide +kernel
theorem dX2_gainOn_5 : decode cX2_gainOn 5 = .ok (.iaload, 1) := by decide +kernel
theorem dX2_gainOn_6 : decode cX2_gainOn 6 = .ok (.iload_n 2, 1) := by decide +kernel
theorem dX2_gainOn_7 : decode cX2_gainOn 7 = .ok (.iconst 3, 1) := by decide +kernel
theorem dX2_gainOn_8 : decode cX2_gainOn 8 = .ok (.iload_n 1, 1) := by decide +kernel
theorem dX2_gainOn_9 : decode cX2_gainOn 9 = .ok (.imul, 1) := by decide +kernel
theorem dX2_gainOn_10 : decode cX2_gainOn 10 = .ok (.isub, 1) := by decide +kernel
theorem dX2_gainOn_11 : decode cX2_gainOn 11 = .ok (.imul, 1) := by decide +kernel
theorem dX2_gainOn_12 : decode cX2_gainOn 12 = .ok (.ireturn, 1) := by decide +kernel
theorem dX2_grown_0 : decode cX2_grown 0 = .ok (.iload_n 2, 1) := by decide +kernel
theorem dX2_grown_1 : decode cX2_grown 1 = .ok (.ifCond .le 8, 3) := by decide +kernel
theorem dX2_grown_4 : decode cX2_grown 4 = .ok (.iload_n 0, 1) := by decide +kernel
theorem dX2_grown_5 : decode cX2_grown 5 = .ok (.iload_n 1, 1) := by decide +kernel
theorem dX2_grown_6 : decode cX2_grown 6 = .ok (.if_icmp .lt 5, 3) := by decide +kernel
theorem dX2_grown_9 : decode cX2_grown 9 = .ok (.iload_n 0, 1) := by decide +kernel
theorem dX2_grown_10 : decode cX2_grown 10 = .ok (.ireturn, 1) := by decide +kernel
theorem dX2_grown_11 : decode cX2_grown 11 = .ok (.iload_n 0, 1) := by decide +kernel
theorem dX2_grown_12 : decode cX2_grown 12 = .ok (.iload_n 2, 1) := by decide +kernel
theorem dX2_grown_13 : decode cX2_grown 13 = .ok (.iadd, 1) := by decide +kernel
theorem dX2_grown_14 : decode cX2_grown 14 = .ok (.iload_n 1, 1) := by decide +kernel
theorem dX2_grown_15 : decode cX2_grown 15 = .ok (.invokestatic 80, 3) := by decide +kernel
theorem dX2_grown_18 : decode cX2_grown 18 = .ok (.ireturn, 1) := by decide +kernel
