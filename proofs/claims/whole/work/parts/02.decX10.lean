theorem dX1_init_0 : decode cX1_init 0 = .ok (.aload_n 0, 1) := by decide +kernel
theorem dX1_init_1 : decode cX1_init 1 = .ok (.invokespecial 3, 3) := by decide +kernel
theorem dX1_init_4 : decode cX1_init 4 = .ok (.aload_n 0, 1) := by decide +kernel
theorem dX1_init_5 : decode cX1_init 5 = .ok (.bipush 12, 2) := by decide +kernel
theorem dX1_init_7 : decode cX1_init 7 = .ok (.newarray .long, 2) := by decide +kernel
theorem dX1_init_9 : decode cX1_init 9 = .ok (.putfield 9, 3) := by decide +kernel
theorem dX1_init_12 : decode cX1_init 12 = .ok (.aload_n 0, 1) := by decide +kernel
theorem dX1_init_13 : decode cX1_init 13 = .ok (.bipush 12, 2) := by decide +kernel
theorem dX1_init_15 : decode cX1_init 15 = .ok (.newarray .int, 2) := by decide +kernel
theorem dX1_init_17 : decode cX1_init 17 = .ok (.putfield 15, 3) := by decide +kernel
theorem dX1_init_20 : decode cX1_init 20 = .ok (.aload_n 0, 1) := by decide +kernel
theorem dX1_init_21 : decode cX1_init 21 = .ok (.bipush 12, 2) := by decide +kernel
theorem dX1_init_23 : decode cX1_init 23 = .ok (.newarray .long, 2) := by decide +kernel
theorem dX1_init_25 : decode cX1_init 25 = .ok (.putfield 19, 3) := by decide +kernel
theorem dX1_init_28 : decode cX1_init 28 = .ok (.aload_n 0, 1) := by decide +kernel
theorem dX1_init_29 : decode cX1_init 29 = .ok (.bipush 12, 2) := by decide +kernel
theorem dX1_init_31 : decode cX1_init 31 = .ok (.newarray .long, 2) := by decide +kernel
theorem dX1_init_33 : decode cX1_init 33 = .ok (.putfield 22, 3) := by decide +kernel
theorem dX1_init_36 : decode cX1_init 36 = .ok (.aload_n 0, 1) := by decide +kernel
theorem dX1_init_37 : decode cX1_init 37 = .ok (.lconst 0, 1) := by decide +kernel
theorem dX1_init_38 : decode cX1_init 38 = .ok (.putfield 25, 3) := by decide +kernel
theorem dX1_init_41 : decode cX1_init 41 = .ok (.aload_n 0, 1) := by decide +kernel
theorem dX1_init_42 : decode cX1_init 42 = .ok (.bipush 12, 2) := by decide +kernel
theorem dX1_init_44 : decode cX1_init 44 = .ok (.newarray .int, 2) := by decide +kernel
theorem dX1_init_46 : decode cX1_init 46 = .ok (.putfield 29, 3) := by decide +kernel
theorem dX1_init_49 : decode cX1_init 49 = .ok (.aload_n 0, 1) := by decide +kernel
theorem dX1_init_50 : decode cX1_init 50 = .ok (.lconst 0, 1) := by decide +kernel
theorem dX1_init_51 : decode cX1_init 51 = .ok (.putfield 32, 3) := by decide +kernel
theorem dX1_init_54 : decode cX1_init 54 = .ok (.iconst 0, 1) := by decide +kernel
theorem dX1_init_55 : decode cX1_init 55 = .ok (.istore_n 1, 1) := by decide +kernel
theorem dX1_init_56 : decode cX1_init 56 = .ok (.iload_n 1, 1) := by decide +kernel
theorem dX1_init_57 : decode cX1_init 57 = .ok (.bipush 12, 2) := by decide +kernel
theorem dX1_init_59 : decode cX1_init 59 = .ok (.if_icmp .ge 16, 3) := by decide +kernel
theorem dX1_init_62 : decode cX1_init 62 = .ok (.aload_n 0, 1) := by decide +kernel
theorem dX1_init_63 : decode cX1_init 63 = .ok (.getfield 29, 3) := by decide +kernel
theorem dX1_init_66 : decode cX1_init 66 = .ok (.iload_n 1, 1) := by decide +kernel
theorem dX1_init_67 : decode cX1_init 67 = .ok (.iload_n 1, 1) := by decide +kernel
theorem dX1_init_68 : decode cX1_init 68 = .ok (.iastore, 1) := by decide +kernel
theorem dX1_init_69 : decode cX1_init 69 = .ok (.iinc 1 1, 3) := by decide +kernel
theorem dX1_init_72 : decode cX1_init 72 = .ok (.goto (-16), 3) := by decide +kernel
theorem dX1_init_75 : decode cX1_init 75 = .ok (.return_, 1) := by decide +kernel
theorem dX1_placeOf_0 : decode cX1_placeOf 0 = .ok (.iconst 0, 1) := by decide +kernel
theorem dX1_placeOf_1 : decode cX1_placeOf 1 = .ok (.istore_n 2, 1) := by decide +kernel
theorem dX1_placeOf_2 : decode cX1_placeOf 2 = .ok (.iload_n 2, 1) := by decide +kernel
theorem dX1_placeOf_3 : decode cX1_placeOf 3 = .ok (.bipush 12, 2) := by decide +kernel
theorem dX1_placeOf_5 : decode cX1_placeOf 5 = .ok (.if_icmp .ge 21, 3) := by decide +kernel
theorem dX1_placeOf_8 : decode cX1_placeOf 8 = .ok (.aload_n 0, 1) := by decide +kernel
theorem dX1_placeOf_9 : decode cX1_placeOf 9 = .ok (.getfield 29, 3) := by decide +kernel
theorem dX1_placeOf_12 : decode cX1_placeOf 12 = .ok (.iload_n 2, 1) := by decide +kernel
theorem dX1_placeOf_13 : decode cX1_placeOf 13 = .ok (.iaload, 1) := by decide +kernel
theorem dX1_placeOf_14 : decode cX1_placeOf 14 = .ok (.iload_n 1, 1) := by decide +kernel
theorem dX1_placeOf_15 : decode cX1_placeOf 15 = .ok (.if_icmp .ne 5, 3) := by decide +kernel
theorem dX1_placeOf_18 : decode cX1_placeOf 18 = .ok (.iload_n 2, 1) := by decide +kernel
theorem dX1_placeOf_19 : decode cX1_placeOf 19 = .ok (.ireturn, 1) := by decide +kernel
theorem dX1_placeOf_20 : decode cX1_placeOf 20 = .ok (.iinc 2 1, 3) := by decide +kernel
theorem dX1_placeOf_23 : decode cX1_placeOf 23 = .ok (.goto (-21), 3) := by decide +kernel
theorem dX1_placeOf_26 : decode cX1_placeOf 26 = .ok (.iconst (-1), 1) := by decide +kernel
theorem dX1_placeOf_27 : decode cX1_placeOf 27 = .ok (.ireturn, 1) := by decide +kernel
theorem dX1_partCheeses_0 : decode cX1_partCheeses 0 = .ok (.iload_n 2, 1) := by decide +kernel
theorem dX1_partCheeses_1 : decode cX1_partCheeses 1 = .ok (.istore_n 3, 1) := by decide +kernel
theorem dX1_partCheeses_2 : decode cX1_partCheeses 2 = .ok (.iconst 0, 1) := by decide +kernel
theorem dX1_partCheeses_3 : decode cX1_partCheeses 3 = .ok (.istore 4, 2) := by decide +kernel
theorem dX1_partCheeses_5 : decode cX1_partCheeses 5 = .ok (.iload 4, 2) := by decide +kernel
theorem dX1_partCheeses_7 : decode cX1_partCheeses 7 = .ok (.bipush 12, 2) := by decide +kernel
theorem dX1_partCheeses_9 : decode cX1_partCheeses 9 = .ok (.if_icmp .ge 35, 3) := by decide +kernel
theorem dX1_partCheeses_12 : decode cX1_partCheeses 12 = .ok (.aload_n 0, 1) := by decide +kernel
theorem dX1_partCheeses_13 : decode cX1_partCheeses 13 = .ok (.getfield 15, 3) := by decide +kernel
theorem dX1_partCheeses_16 : decode cX1_partCheeses 16 = .ok (.iload 4, 2) := by decide +kernel
theorem dX1_partCheeses_18 : decode cX1_partCheeses 18 = .ok (.iload_n 2, 1) := by decide +kernel
theorem dX1_partCheeses_19 : decode cX1_partCheeses 19 = .ok (.i2l, 1) := by decide +kernel
theorem dX1_partCheeses_20 : decode cX1_partCheeses 20 = .ok (.iload 4, 2) := by decide +kernel
theorem dX1_partCheeses_22 : decode cX1_partCheeses 22 = .ok (.aload_n 1, 1) := by decide +kernel
theorem dX1_partCheeses_23 : decode cX1_partCheeses 23 = .ok (.invokestatic 35, 3) := by decide +kernel
theorem dX1_partCheeses_26 : decode cX1_partCheeses 26 = .ok (.l2i, 1) := by decide +kernel
theorem dX1_partCheeses_27 : decode cX1_partCheeses 27 = .ok (.iastore, 1) := by decide +kernel
theorem dX1_partCheeses_28 : decode cX1_partCheeses 28 = .ok (.iload_n 3, 1) := by decide +kernel
theorem dX1_partCheeses_29 : decode cX1_partCheeses 29 = .ok (.aload_n 0, 1) := by decide +kernel
theorem dX1_partCheeses_30 : decode cX1_partCheeses 30 = .ok (.getfield 15, 3) := by decide +kernel
theorem dX1_partCheeses_33 : decode cX1_partCheeses 33 = .ok (.iload 4, 2) := by decide +kernel
theorem dX1_partCheeses_35 : decode cX1_partCheeses 35 = .ok (.iaload, 1) := by decide +kernel
theorem dX1_partCheeses_36 : decode cX1_partCheeses 36 = .ok (.isub, 1) := by decide +kernel
theorem dX1_partCheeses_37 : decode cX1_partCheeses 37 = .ok (.istore_n 3, 1) := by decide +kernel
theorem dX1_partCheeses_38 : decode cX1_partCheeses 38 = .ok (.iinc 4 1, 3) := by decide +kernel
theorem dX1_partCheeses_41 : decode cX1_partCheeses 41 = .ok (.goto (-36), 3) := by decide +kernel
theorem dX1_partCheeses_44 : decode cX1_partCheeses 44 = .ok (.iconst 0, 1) := by decide +kernel
theorem dX1_partCheeses_45 : decode cX1_partCheeses 45 = .ok (.istore 4, 2) := by decide +kernel
theorem dX1_partCheeses_47 : decode cX1_partCheeses 47 = .ok (.iload 4, 2) := by decide +kernel
theorem dX1_partCheeses_49 : decode cX1_partCheeses 49 = .ok (.bipush 12, 2) := by decide +kernel
theorem dX1_partCheeses_51 : decode cX1_partCheeses 51 = .ok (.if_icmp .ge 43, 3) := by decide +kernel
theorem dX1_partCheeses_54 : decode cX1_partCheeses 54 = .ok (.iload_n 3, 1) := by decide +kernel
theorem dX1_partCheeses_55 : decode cX1_partCheeses 55 = .ok (.ifCond .le 39, 3) := by decide +kernel
theorem dX1_partCheeses_58 : decode cX1_partCheeses 58 = .ok (.aload_n 0, 1) := by decide +kernel
theorem dX1_partCheeses_59 : decode cX1_partCheeses 59 = .ok (.aload_n 1, 1) := by decide +kernel
theorem dX1_partCheeses_60 : decode cX1_partCheeses 60 = .ok (.invokevirtual 39, 3) := by decide +kernel
theorem dX1_partCheeses_63 : decode cX1_partCheeses 63 = .ok (.istore 5, 2) := by decide +kernel
theorem dX1_partCheeses_65 : decode cX1_partCheeses 65 = .ok (.iload 5, 2) := by decide +kernel
theorem dX1_partCheeses_67 : decode cX1_partCheeses 67 = .ok (.iconst (-1), 1) := by decide +kernel
theorem dX1_partCheeses_68 : decode cX1_partCheeses 68 = .ok (.if_icmp .ne 6, 3) := by decide +kernel
theorem dX1_partCheeses_71 : decode cX1_partCheeses 71 = .ok (.goto 23, 3) := by decide +kernel
theorem dX1_partCheeses_74 : decode cX1_partCheeses 74 = .ok (.aload_n 0, 1) := by decide +kernel
theorem dX1_partCheeses_75 : decode cX1_partCheeses 75 = .ok (.getfield 15, 3) := by decide +kernel
theorem dX1_partCheeses_78 : decode cX1_partCheeses 78 = .ok (.iload 5, 2) := by decide +kernel
theorem dX1_partCheeses_80 : decode cX1_partCheeses 80 = .ok (.dup2, 1) := by decide +kernel
theorem dX1_partCheeses_81 : decode cX1_partCheeses 81 = .ok (.iaload, 1) := by decide +kernel
theorem dX1_partCheeses_82 : decode cX1_partCheeses 82 = .ok (.iconst 1, 1) := by decide +kernel
theorem dX1_partCheeses_83 : decode cX1_partCheeses 83 = .ok (.iadd, 1) := by decide +kernel
theorem dX1_partCheeses_84 : decode cX1_partCheeses 84 = .ok (.iastore, 1) := by decide +kernel
theorem dX1_partCheeses_85 : decode cX1_partCheeses 85 = .ok (.iinc 3 (-1), 3) := by decide +kernel
theorem dX1_partCheeses_88 : decode cX1_partCheeses 88 = .ok (.iinc 4 1, 3) := by decide +kernel
theorem dX1_partCheeses_91 : decode cX1_partCheeses 91 = .ok (.goto (-44), 3) := by decide +kernel
theorem dX1_partCheeses_94 : decode cX1_partCheeses 94 = .ok (.iconst 0, 1) := by decide +kernel
theorem dX1_partCheeses_95 : decode cX1_partCheeses 95 = .ok (.istore 4, 2) := by decide +kernel
theorem dX1_partCheeses_97 : decode cX1_partCheeses 97 = .ok (.iload 4, 2) := by decide +kernel
theorem dX1_partCheeses_99 : decode cX1_partCheeses 99 = .ok (.bipush 12, 2) := by decide +kernel
theorem dX1_partCheeses_101 : decode cX1_partCheeses 101 = .ok (.if_icmp .ge 27, 3) := by decide +kernel
theorem dX1_partCheeses_104 : decode cX1_partCheeses 104 = .ok (.aload_n 0, 1) := by decide +kernel
theorem dX1_partCheeses_105 : decode cX1_partCheeses 105 = .ok (.getfield 9, 3) := by decide +kernel
theorem dX1_partCheeses_108 : decode cX1_partCheeses 108 = .ok (.iload 4, 2) := by decide +kernel
theorem dX1_partCheeses_110 : decode cX1_partCheeses 110 = .ok (.dup2, 1) := by decide +kernel
theorem dX1_partCheeses_111 : decode cX1_partCheeses 111 = .ok (.laload, 1) := by decide +kernel
theorem dX1_partCheeses_112 : decode cX1_partCheeses 112 = .ok (.aload_n 0, 1) := by decide +kernel
theorem dX1_partCheeses_113 : decode cX1_partCheeses 113 = .ok (.getfield 15, 3) := by decide +kernel
theorem dX1_partCheeses_116 : decode cX1_partCheeses 116 = .ok (.iload 4, 2) := by decide +kernel
theorem dX1_partCheeses_118 : decode cX1_partCheeses 118 = .ok (.iaload, 1) := by decide +kernel
theorem dX1_partCheeses_119 : decode cX1_partCheeses 119 = .ok (.i2l, 1) := by decide +kernel
theorem dX1_partCheeses_120 : decode cX1_partCheeses 120 = .ok (.ladd, 1) := by decide +kernel
theorem dX1_partCheeses_121 : decode cX1_partCheeses 121 = .ok (.lastore, 1) := by decide +kernel
theorem dX1_partCheeses_122 : decode cX1_partCheeses 122 = .ok (.iinc 4 1, 3) := by decide +kernel
theorem dX1_partCheeses_125 : decode cX1_partCheeses 125 = .ok (.goto (-28), 3) := by decide +kernel
theorem dX1_partCheeses_128 : decode cX1_partCheeses 128 = .ok (.iload_n 3, 1) := by decide +kernel
theorem dX1_partCheeses_129 : decode cX1_partCheeses 129 = .ok (.ireturn, 1) := by decide +kernel
theorem dX1_takeTurn_0 : decode cX1_takeTurn 0 = .ok (.iconst 0, 1) := by decide +kernel
theorem dX1_takeTurn_1 : decode cX1_takeTurn 1 = .ok (.istore_n 2, 1) := by decide +kernel
theorem dX1_takeTurn_2 : decode cX1_takeTurn 2 = .ok (.iload_n 2, 1) := by decide +kernel
theorem dX1_takeTurn_3 : decode cX1_takeTurn 3 = .ok (.bipush 12, 2) := by decide +kernel
theorem dX1_takeTurn_5 : decode cX1_takeTurn 5 = .ok (.if_icmp .ge 20, 3) := by decide +kernel
theorem dX1_takeTurn_8 : decode cX1_takeTurn 8 = .ok (.aload_n 1, 1) := by decide +kernel
theorem dX1_takeTurn_9 : decode cX1_takeTurn 9 = .ok (.aload_n 0, 1) := by decide +kernel
theorem dX1_takeTurn_10 : decode cX1_takeTurn 10 = .ok (.getfield 29, 3) := by decide +kernel
theorem dX1_takeTurn_13 : decode cX1_takeTurn 13 = .ok (.iload_n 2, 1) := by decide +kernel
theorem dX1_takeTurn_14 : decode cX1_takeTurn 14 = .ok (.iaload, 1) := by decide +kernel
theorem dX1_takeTurn_15 : decode cX1_takeTurn 15 = .ok (.iaload, 1) := by decide +kernel
theorem dX1_takeTurn_16 : decode cX1_takeTurn 16 = .ok (.ifCond .ne 9, 3) := by decide +kernel
theorem dX1_takeTurn_19 : decode cX1_takeTurn 19 = .ok (.iinc 2 1, 3) := by decide +kernel
theorem dX1_takeTurn_22 : decode cX1_takeTurn 22 = .ok (.goto (-20), 3) := by decide +kernel
theorem dX1_takeTurn_25 : decode cX1_takeTurn 25 = .ok (.iload_n 2, 1) := by decide +kernel
theorem dX1_takeTurn_26 : decode cX1_takeTurn 26 = .ok (.bipush 12, 2) := by decide +kernel
theorem dX1_takeTurn_28 : decode cX1_takeTurn 28 = .ok (.if_icmp .lt 5, 3) := by decide +kernel
theorem dX1_takeTurn_31 : decode cX1_takeTurn 31 = .ok (.iconst (-1), 1) := by decide +kernel
theorem dX1_takeTurn_32 : decode cX1_takeTurn 32 = .ok (.ireturn, 1) := by decide +kernel
theorem dX1_takeTurn_33 : decode cX1_takeTurn 33 = .ok (.aload_n 0, 1) := by decide +kernel
theorem dX1_takeTurn_34 : decode cX1_takeTurn 34 = .ok (.getfield 29, 3) := by decide +kernel
theorem dX1_takeTurn_37 : decode cX1_takeTurn 37 = .ok (.iload_n 2, 1) := by decide +kernel
theorem dX1_takeTurn_38 : decode cX1_takeTurn 38 = .ok (.iaload, 1) := by decide +kernel
theorem dX1_takeTurn_39 : decode cX1_takeTurn 39 = .ok (.istore_n 3, 1) := by decide +kernel
theorem dX1_takeTurn_40 : decode cX1_takeTurn 40 = .ok (.iload_n 2, 1) := by decide +kernel
theorem dX1_takeTurn_41 : decode cX1_takeTurn 41 = .ok (.istore 4, 2) := by decide +kernel
theorem dX1_takeTurn_43 : decode cX1_takeTurn 43 = .ok (.iload 4, 2) := by decide +kernel
theorem dX1_takeTurn_45 : decode cX1_takeTurn 45 = .ok (.bipush 11, 2) := by decide +kernel
theorem dX1_takeTurn_47 : decode cX1_takeTurn 47 = .ok (.if_icmp .ge 25, 3) := by decide +kernel
theorem dX1_takeTurn_50 : decode cX1_takeTurn 50 = .ok (.aload_n 0, 1) := by decide +kernel
theorem dX1_takeTurn_51 : decode cX1_takeTurn 51 = .ok (.getfield 29, 3) := by decide +kernel
theorem dX1_takeTurn_54 : decode cX1_takeTurn 54 = .ok (.iload 4, 2) := by decide +kernel
theorem dX1_takeTurn_56 : decode cX1_takeTurn 56 = .ok (.aload_n 0, 1) := by decide +kernel
theorem dX1_takeTurn_57 : decode cX1_takeTurn 57 = .ok (.getfield 29, 3) := by decide +kernel
theorem dX1_takeTurn_60 : decode cX1_takeTurn 60 = .ok (.iload 4, 2) := by decide +kernel
theorem dX1_takeTurn_62 : decode cX1_takeTurn 62 = .ok (.iconst 1, 1) := by decide +kernel
theorem dX1_takeTurn_63 : decode cX1_takeTurn 63 = .ok (.iadd, 1) := by decide +kernel
theorem dX1_takeTurn_64 : decode cX1_takeTurn 64 = .ok (.iaload, 1) := by decide +kernel
theorem dX1_takeTurn_65 : decode cX1_takeTurn 65 = .ok (.iastore, 1) := by decide +kernel
theorem dX1_takeTurn_66 : decode cX1_takeTurn 66 = .ok (.iinc 4 1, 3) := by decide +kernel
theorem dX1_takeTurn_69 : decode cX1_takeTurn 69 = .ok (.goto (-26), 3) := by decide +kernel
theorem dX1_takeTurn_72 : decode cX1_takeTurn 72 = .ok (.aload_n 0, 1) := by decide +kernel
theorem dX1_takeTurn_73 : decode cX1_takeTurn 73 = .ok (.getfield 29, 3) := by decide +kernel
theorem dX1_takeTurn_76 : decode cX1_takeTurn 76 = .ok (.bipush 11, 2) := by decide +kernel
theorem dX1_takeTurn_78 : decode cX1_takeTurn 78 = .ok (.iload_n 3, 1) := by decide +kernel
theorem dX1_takeTurn_79 : decode cX1_takeTurn 79 = .ok (.iastore, 1) := by decide +kernel
theorem dX1_takeTurn_80 : decode cX1_takeTurn 80 = .ok (.iload_n 3, 1) := by decide +kernel
theorem dX1_takeTurn_81 : decode cX1_takeTurn 81 = .ok (.ireturn, 1) := by decide +kernel
theorem dX1_oweWork_0 : decode cX1_oweWork 0 = .ok (.iconst 0, 1) := by decide +kernel
theorem dX1_oweWork_1 : decode cX1_oweWork 1 = .ok (.istore_n 3, 1) := by decide +kernel
theorem dX1_oweWork_2 : decode cX1_oweWork 2 = .ok (.iload_n 3, 1) := by decide +kernel
theorem dX1_oweWork_3 : decode cX1_oweWork 3 = .ok (.bipush 12, 2) := by decide +kernel
theorem dX1_oweWork_5 : decode cX1_oweWork 5 = .ok (.if_icmp .ge 33, 3) := by decide +kernel
theorem dX1_oweWork_8 : decode cX1_oweWork 8 = .ok (.aload_n 0, 1) := by decide +kernel
theorem dX1_oweWork_9 : decode cX1_oweWork 9 = .ok (.getfield 19, 3) := by decide +kernel
theorem dX1_oweWork_12 : decode cX1_oweWork 12 = .ok (.iload_n 3, 1) := by decide +kernel
theorem dX1_oweWork_13 : decode cX1_oweWork 13 = .ok (.dup2, 1) := by decide +kernel
theorem dX1_oweWork_14 : decode cX1_oweWork 14 = .ok (.laload, 1) := by decide +kernel
theorem dX1_oweWork_15 : decode cX1_oweWork 15 = .ok (.iload_n 2, 1) := by decide +kernel
theorem dX1_oweWork_16 : decode cX1_oweWork 16 = .ok (.i2l, 1) := by decide +kernel
theorem dX1_oweWork_17 : decode cX1_oweWork 17 = .ok (.aload_n 1, 1) := by decide +kernel
theorem dX1_oweWork_18 : decode cX1_oweWork 18 = .ok (.iload_n 3, 1) := by decide +kernel
theorem dX1_oweWork_19 : decode cX1_oweWork 19 = .ok (.iaload, 1) := by decide +kernel
theorem dX1_oweWork_20 : decode cX1_oweWork 20 = .ok (.i2l, 1) := by decide +kernel
theorem dX1_oweWork_21 : decode cX1_oweWork 21 = .ok (.lmul, 1) := by decide +kernel
theorem dX1_oweWork_22 : decode cX1_oweWork 22 = .ok (.ldc2_w 43, 3) := by decide +kernel
theorem dX1_oweWork_25 : decode cX1_oweWork 25 = .ok (.ladd, 1) := by decide +kernel
theorem dX1_oweWork_26 : decode cX1_oweWork 26 = .ok (.ldc2_w 45, 3) := by decide +kernel
theorem dX1_oweWork_29 : decode cX1_oweWork 29 = .ok (.ldiv, 1) := by decide +kernel
theorem dX1_oweWork_30 : decode cX1_oweWork 30 = .ok (.ladd, 1) := by decide +kernel
theorem dX1_oweWork_31 : decode cX1_oweWork 31 = .ok (.lastore, 1) := by decide +kernel
theorem dX1_oweWork_32 : decode cX1_oweWork 32 = .ok (.iinc 3 1, 3) := by decide +kernel
theorem dX1_oweWork_35 : decode cX1_oweWork 35 = .ok (.goto (-33), 3) := by decide +kernel
theorem dX1_oweWork_38 : decode cX1_oweWork 38 = .ok (.return_, 1) := by decide +kernel
theorem dX1_payLosses_0 : decode cX1_payLosses 0 = .ok (.aload_n 0, 1) := by decide +kernel
theorem dX1_payLosses_1 : decode cX1_payLosses 1 = .ok (.lconst 0, 1) := by decide +kernel
theorem dX1_payLosses_2 : decode cX1_payLosses 2 = .ok (.putfield 32, 3) := by decide +kernel
theorem dX1_payLosses_5 : decode cX1_payLosses 5 = .ok (.iconst 0, 1) := by decide +kernel
theorem dX1_payLosses_6 : decode cX1_payLosses 6 = .ok (.istore 5, 2) := by decide +kernel
theorem dX1_payLosses_8 : decode cX1_payLosses 8 = .ok (.iload 5, 2) := by decide +kernel
theorem dX1_payLosses_10 : decode cX1_payLosses 10 = .ok (.aload_n 1, 1) := by decide +kernel
theorem dX1_payLosses_11 : decode cX1_payLosses 11 = .ok (.getfield 47, 3) := by decide +kernel
theorem dX1_payLosses_14 : decode cX1_payLosses 14 = .ok (.if_icmp .ge 95, 3) := by decide +kernel
theorem dX1_payLosses_17 : decode cX1_payLosses 17 = .ok (.aload_n 1, 1) := by decide +kernel
theorem dX1_payLosses_18 : decode cX1_payLosses 18 = .ok (.getfield 53, 3) := by decide +kernel
theorem dX1_payLosses_21 : decode cX1_payLosses 21 = .ok (.iload 5, 2) := by decide +kernel
theorem dX1_payLosses_23 : decode cX1_payLosses 23 = .ok (.baload, 1) := by decide +kernel
theorem dX1_payLosses_24 : decode cX1_payLosses 24 = .ok (.ifCond .eq 6, 3) := by decide +kernel
theorem dX1_payLosses_27 : decode cX1_payLosses 27 = .ok (.goto 76, 3) := by decide +kernel
theorem dX1_payLosses_30 : decode cX1_payLosses 30 = .ok (.aload_n 2, 1) := by decide +kernel
theorem dX1_payLosses_31 : decode cX1_payLosses 31 = .ok (.aload_n 1, 1) := by decide +kernel
theorem dX1_payLosses_32 : decode cX1_payLosses 32 = .ok (.iload 5, 2) := by decide +kernel
theorem dX1_payLosses_34 : decode cX1_payLosses 34 = .ok (.aload_n 1, 1) := by decide +kernel
theorem dX1_payLosses_35 : decode cX1_payLosses 35 = .ok (.getfield 57, 3) := by decide +kernel
theorem dX1_payLosses_38 : decode cX1_payLosses 38 = .ok (.iload_n 3, 1) := by decide +kernel
theorem dX1_payLosses_39 : decode cX1_payLosses 39 = .ok (.invokevirtual 60, 3) := by decide +kernel
theorem dX1_payLosses_42 : decode cX1_payLosses 42 = .ok (.pop, 1) := by decide +kernel
theorem dX1_payLosses_43 : decode cX1_payLosses 43 = .ok (.aload_n 2, 1) := by decide +kernel
theorem dX1_payLosses_44 : decode cX1_payLosses 44 = .ok (.getfield 66, 3) := by decide +kernel
theorem dX1_payLosses_47 : decode cX1_payLosses 47 = .ok (.ifCond .le 14, 3) := by decide +kernel
theorem dX1_payLosses_50 : decode cX1_payLosses 50 = .ok (.aload_n 2, 1) := by decide +kernel
theorem dX1_payLosses_51 : decode cX1_payLosses 51 = .ok (.getfield 69, 3) := by decide +kernel
theorem dX1_payLosses_54 : decode cX1_payLosses 54 = .ok (.ifCond .ne 7, 3) := by decide +kernel
theorem dX1_payLosses_57 : decode cX1_payLosses 57 = .ok (.iconst 1, 1) := by decide +kernel
theorem dX1_payLosses_58 : decode cX1_payLosses 58 = .ok (.goto 4, 3) := by decide +kernel
theorem dX1_payLosses_61 : decode cX1_payLosses 61 = .ok (.iconst 0, 1) := by decide +kernel
theorem dX1_payLosses_62 : decode cX1_payLosses 62 = .ok (.istore 6, 2) := by decide +kernel
theorem dX1_payLosses_64 : decode cX1_payLosses 64 = .ok (.aload_n 2, 1) := by decide +kernel
theorem dX1_payLosses_65 : decode cX1_payLosses 65 = .ok (.getfield 73, 3) := by decide +kernel
theorem dX1_payLosses_68 : decode cX1_payLosses 68 = .ok (.ifCond .ne 8, 3) := by decide +kernel
theorem dX1_payLosses_71 : decode cX1_payLosses 71 = .ok (.iload 6, 2) := by decide +kernel
theorem dX1_payLosses_73 : decode cX1_payLosses 73 = .ok (.ifCond .eq 30, 3) := by decide +kernel
theorem dX1_payLosses_76 : decode cX1_payLosses 76 = .ok (.aload_n 0, 1) := by decide +kernel
theorem dX1_payLosses_77 : decode cX1_payLosses 77 = .ok (.getfield 22, 3) := by decide +kernel
theorem dX1_payLosses_80 : decode cX1_payLosses 80 = .ok (.aload_n 2, 1) := by decide +kernel
theorem dX1_payLosses_81 : decode cX1_payLosses 81 = .ok (.getfield 76, 3) := by decide +kernel
theorem dX1_payLosses_84 : decode cX1_payLosses 84 = .ok (.dup2, 1) := by decide +kernel
theorem dX1_payLosses_85 : decode cX1_payLosses 85 = .ok (.laload, 1) := by decide +kernel
theorem dX1_payLosses_86 : decode cX1_payLosses 86 = .ok (.iload 4, 2) := by decide +kernel
theorem dX1_payLosses_88 : decode cX1_payLosses 88 = .ok (.i2l, 1) := by decide +kernel
theorem dX1_payLosses_89 : decode cX1_payLosses 89 = .ok (.ladd, 1) := by decide +kernel
theorem dX1_payLosses_90 : decode cX1_payLosses 90 = .ok (.lastore, 1) := by decide +kernel
theorem dX1_payLosses_91 : decode cX1_payLosses 91 = .ok (.aload_n 0, 1) := by decide +kernel
theorem dX1_payLosses_92 : decode cX1_payLosses 92 = .ok (.dup, 1) := by decide +kernel
theorem dX1_payLosses_93 : decode cX1_payLosses 93 = .ok (.getfield 32, 3) := by decide +kernel
theorem dX1_payLosses_96 : decode cX1_payLosses 96 = .ok (.iload 4, 2) := by decide +kernel
theorem dX1_payLosses_98 : decode cX1_payLosses 98 = .ok (.i2l, 1) := by decide +kernel
theorem dX1_payLosses_99 : decode cX1_payLosses 99 = .ok (.ladd, 1) := by decide +kernel
theorem dX1_payLosses_100 : decode cX1_payLosses 100 = .ok (.putfield 32, 3) := by decide +kernel
theorem dX1_payLosses_103 : decode cX1_payLosses 103 = .ok (.iinc 5 1, 3) := by decide +kernel
theorem dX1_payLosses_106 : decode cX1_payLosses 106 = .ok (.goto (-98), 3) := by decide +kernel
theorem dX1_payLosses_109 : decode cX1_payLosses 109 = .ok (.return_, 1) := by decide +kernel
theorem dX1_payIn_0 : decode cX1_payIn 0 = .ok (.aload_n 0, 1) := by decide +kernel
theorem dX1_payIn_1 : decode cX1_payIn 1 = .ok (.getfield 32, 3) := by decide +kernel
theorem dX1_payIn_4 : decode cX1_payIn 4 = .ok (.lstore_n 2, 1) := by decide +kernel
theorem dX1_payIn_5 : decode cX1_payIn 5 = .ok (.iconst 0, 1) := by decide +kernel
theorem dX1_payIn_6 : decode cX1_payIn 6 = .ok (.istore 4, 2) := by decide +kernel
theorem dX1_payIn_8 : decode cX1_payIn 8 = .ok (.iload 4, 2) := by decide +kernel
theorem dX1_payIn_10 : decode cX1_payIn 10 = .ok (.bipush 12, 2) := by decide +kernel
theorem dX1_payIn_12 : decode cX1_payIn 12 = .ok (.if_icmp .ge 38, 3) := by decide +kernel
theorem dX1_payIn_15 : decode cX1_payIn 15 = .ok (.aload_n 0, 1) := by decide +kernel
theorem dX1_payIn_16 : decode cX1_payIn 16 = .ok (.getfield 32, 3) := by decide +kernel
theorem dX1_payIn_19 : decode cX1_payIn 19 = .ok (.iload 4, 2) := by decide +kernel
theorem dX1_payIn_21 : decode cX1_payIn 21 = .ok (.aload_n 1, 1) := by decide +kernel
theorem dX1_payIn_22 : decode cX1_payIn 22 = .ok (.invokestatic 35, 3) := by decide +kernel
theorem dX1_payIn_25 : decode cX1_payIn 25 = .ok (.lstore 5, 2) := by decide +kernel
theorem dX1_payIn_27 : decode cX1_payIn 27 = .ok (.aload_n 0, 1) := by decide +kernel
theorem dX1_payIn_28 : decode cX1_payIn 28 = .ok (.getfield 22, 3) := by decide +kernel
theorem dX1_payIn_31 : decode cX1_payIn 31 = .ok (.iload 4, 2) := by decide +kernel
theorem dX1_payIn_33 : decode cX1_payIn 33 = .ok (.dup2, 1) := by decide +kernel
theorem dX1_payIn_34 : decode cX1_payIn 34 = .ok (.laload, 1) := by decide +kernel
theorem dX1_payIn_35 : decode cX1_payIn 35 = .ok (.lload 5, 2) := by decide +kernel
theorem dX1_payIn_37 : decode cX1_payIn 37 = .ok (.lsub, 1) := by decide +kernel
theorem dX1_payIn_38 : decode cX1_payIn 38 = .ok (.lastore, 1) := by decide +kernel
theorem dX1_payIn_39 : decode cX1_payIn 39 = .ok (.lload_n 2, 1) := by decide +kernel
theorem dX1_payIn_40 : decode cX1_payIn 40 = .ok (.lload 5, 2) := by decide +kernel
theorem dX1_payIn_42 : decode cX1_payIn 42 = .ok (.lsub, 1) := by decide +kernel
theorem dX1_payIn_43 : decode cX1_payIn 43 = .ok (.lstore_n 2, 1) := by decide +kernel
theorem dX1_payIn_44 : decode cX1_payIn 44 = .ok (.iinc 4 1, 3) := by decide +kernel
theorem dX1_payIn_47 : decode cX1_payIn 47 = .ok (.goto (-39), 3) := by decide +kernel
theorem dX1_payIn_50 : decode cX1_payIn 50 = .ok (.aload_n 0, 1) := by decide +kernel
theorem dX1_payIn_51 : decode cX1_payIn 51 = .ok (.dup, 1) := by decide +kernel
theorem dX1_payIn_52 : decode cX1_payIn 52 = .ok (.getfield 25, 3) := by decide +kernel
theorem dX1_payIn_55 : decode cX1_payIn 55 = .ok (.lload_n 2, 1) := by decide +kernel
theorem dX1_payIn_56 : decode cX1_payIn 56 = .ok (.ladd, 1) := by decide +kernel
theorem dX1_payIn_57 : decode cX1_payIn 57 = .ok (.putfield 25, 3) := by decide +kernel
theorem dX1_payIn_60 : decode cX1_payIn 60 = .ok (.return_, 1) := by decide +kernel
theorem dX1_shareOf_0 : decode cX1_shareOf 0 = .ok (.lconst 0, 1) := by decide +kernel
theorem dX1_shareOf_1 : decode cX1_shareOf 1 = .ok (.lstore 4, 2) := by decide +kernel
theorem dX1_shareOf_3 : decode cX1_shareOf 3 = .ok (.iconst 0, 1) := by decide +kernel
theorem dX1_shareOf_4 : decode cX1_shareOf 4 = .ok (.istore 6, 2) := by decide +kernel
theorem dX1_shareOf_6 : decode cX1_shareOf 6 = .ok (.iload 6, 2) := by decide +kernel
theorem dX1_shareOf_8 : decode cX1_shareOf 8 = .ok (.bipush 12, 2) := by decide +kernel
theorem dX1_shareOf_10 : decode cX1_shareOf 10 = .ok (.if_icmp .ge 19, 3) := by decide +kernel
theorem dX1_shareOf_13 : decode cX1_shareOf 13 = .ok (.lload 4, 2) := by decide +kernel
theorem dX1_shareOf_15 : decode cX1_shareOf 15 = .ok (.aload_n 3, 1) := by decide +kernel
theorem dX1_shareOf_16 : decode cX1_shareOf 16 = .ok (.iload 6, 2) := by decide +kernel
theorem dX1_shareOf_18 : decode cX1_shareOf 18 = .ok (.iaload, 1) := by decide +kernel
theorem dX1_shareOf_19 : decode cX1_shareOf 19 = .ok (.i2l, 1) := by decide +kernel
theorem dX1_shareOf_20 : decode cX1_shareOf 20 = .ok (.ladd, 1) := by decide +kernel
theorem dX1_shareOf_21 : decode cX1_shareOf 21 = .ok (.lstore 4, 2) := by decide +kernel
theorem dX1_shareOf_23 : decode cX1_shareOf 23 = .ok (.iinc 6 1, 3) := by decide +kernel
theorem dX1_shareOf_26 : decode cX1_shareOf 26 = .ok (.goto (-20), 3) := by decide +kernel
theorem dX1_shareOf_29 : decode cX1_shareOf 29 = .ok (.lload 4, 2) := by decide +kernel
theorem dX1_shareOf_31 : decode cX1_shareOf 31 = .ok (.lconst 0, 1) := by decide +kernel
theorem dX1_shareOf_32 : decode cX1_shareOf 32 = .ok (.lcmp, 1) := by decide +kernel
theorem dX1_shareOf_33 : decode cX1_shareOf 33 = .ok (.ifCond .le 15, 3) := by decide +kernel
theorem dX1_shareOf_36 : decode cX1_shareOf 36 = .ok (.lload_n 0, 1) := by decide +kernel
theorem dX1_shareOf_37 : decode cX1_shareOf 37 = .ok (.aload_n 3, 1) := by decide +kernel
theorem dX1_shareOf_38 : decode cX1_shareOf 38 = .ok (.iload_n 2, 1) := by decide +kernel
theorem dX1_shareOf_39 : decode cX1_shareOf 39 = .ok (.iaload, 1) := by decide +kernel
theorem dX1_shareOf_40 : decode cX1_shareOf 40 = .ok (.i2l, 1) := by decide +kernel
theorem dX1_shareOf_41 : decode cX1_shareOf 41 = .ok (.lmul, 1) := by decide +kernel
theorem dX1_shareOf_42 : decode cX1_shareOf 42 = .ok (.lload 4, 2) := by decide +kernel
theorem dX1_shareOf_44 : decode cX1_shareOf 44 = .ok (.ldiv, 1) := by decide +kernel
theorem dX1_shareOf_45 : decode cX1_shareOf 45 = .ok (.goto 4, 3) := by decide +kernel
theorem dX1_shareOf_48 : decode cX1_shareOf 48 = .ok (.lconst 0, 1) := by decide +kernel
theorem dX1_shareOf_49 : decode cX1_shareOf 49 = .ok (.lreturn, 1) := by decide +kernel
