theorem dX0_init_0 : decode cX0_init 0 = .ok (.aload_n 0, 1) := by decide +kernel
theorem dX0_init_1 : decode cX0_init 1 = .ok (.invokespecial 3, 3) := by decide +kernel
theorem dX0_init_4 : decode cX0_init 4 = .ok (.aload_n 0, 1) := by decide +kernel
theorem dX0_init_5 : decode cX0_init 5 = .ok (.bipush 80, 2) := by decide +kernel
theorem dX0_init_7 : decode cX0_init 7 = .ok (.newarray .int, 2) := by decide +kernel
theorem dX0_init_9 : decode cX0_init 9 = .ok (.putfield 9, 3) := by decide +kernel
theorem dX0_init_12 : decode cX0_init 12 = .ok (.aload_n 0, 1) := by decide +kernel
theorem dX0_init_13 : decode cX0_init 13 = .ok (.bipush 12, 2) := by decide +kernel
theorem dX0_init_15 : decode cX0_init 15 = .ok (.newarray .int, 2) := by decide +kernel
theorem dX0_init_17 : decode cX0_init 17 = .ok (.putfield 15, 3) := by decide +kernel
theorem dX0_init_20 : decode cX0_init 20 = .ok (.aload_n 0, 1) := by decide +kernel
theorem dX0_init_21 : decode cX0_init 21 = .ok (.iconst (-1), 1) := by decide +kernel
theorem dX0_init_22 : decode cX0_init 22 = .ok (.putfield 18, 3) := by decide +kernel
theorem dX0_init_25 : decode cX0_init 25 = .ok (.return_, 1) := by decide +kernel
theorem dX0_beginYear_0 : decode cX0_beginYear 0 = .ok (.aload_n 0, 1) := by decide +kernel
theorem dX0_beginYear_1 : decode cX0_beginYear 1 = .ok (.getfield 9, 3) := by decide +kernel
theorem dX0_beginYear_4 : decode cX0_beginYear 4 = .ok (.iconst 0, 1) := by decide +kernel
theorem dX0_beginYear_5 : decode cX0_beginYear 5 = .ok (.invokestatic 22, 3) := by decide +kernel
theorem dX0_beginYear_8 : decode cX0_beginYear 8 = .ok (.aload_n 0, 1) := by decide +kernel
theorem dX0_beginYear_9 : decode cX0_beginYear 9 = .ok (.iconst (-1), 1) := by decide +kernel
theorem dX0_beginYear_10 : decode cX0_beginYear 10 = .ok (.putfield 18, 3) := by decide +kernel
theorem dX0_beginYear_13 : decode cX0_beginYear 13 = .ok (.return_, 1) := by decide +kernel
theorem dX0_creditOf_0 : decode cX0_creditOf 0 = .ok (.iload 6, 2) := by decide +kernel
theorem dX0_creditOf_2 : decode cX0_creditOf 2 = .ok (.iconst 1, 1) := by decide +kernel
theorem dX0_creditOf_3 : decode cX0_creditOf 3 = .ok (.if_icmp .lt 21, 3) := by decide +kernel
theorem dX0_creditOf_6 : decode cX0_creditOf 6 = .ok (.aload_n 0, 1) := by decide +kernel
theorem dX0_creditOf_7 : decode cX0_creditOf 7 = .ok (.getfield 18, 3) := by decide +kernel
theorem dX0_creditOf_10 : decode cX0_creditOf 10 = .ok (.iconst (-1), 1) := by decide +kernel
theorem dX0_creditOf_11 : decode cX0_creditOf 11 = .ok (.if_icmp .eq 13, 3) := by decide +kernel
theorem dX0_creditOf_14 : decode cX0_creditOf 14 = .ok (.aload_n 0, 1) := by decide +kernel
theorem dX0_creditOf_15 : decode cX0_creditOf 15 = .ok (.getfield 9, 3) := by decide +kernel
theorem dX0_creditOf_18 : decode cX0_creditOf 18 = .ok (.iload 5, 2) := by decide +kernel
theorem dX0_creditOf_20 : decode cX0_creditOf 20 = .ok (.iaload, 1) := by decide +kernel
theorem dX0_creditOf_21 : decode cX0_creditOf 21 = .ok (.ifCond .ne 5, 3) := by decide +kernel
theorem dX0_creditOf_24 : decode cX0_creditOf 24 = .ok (.iconst 0, 1) := by decide +kernel
theorem dX0_creditOf_25 : decode cX0_creditOf 25 = .ok (.ireturn, 1) := by decide +kernel
theorem dX0_creditOf_26 : decode cX0_creditOf 26 = .ok (.aload_n 3, 1) := by decide +kernel
theorem dX0_creditOf_27 : decode cX0_creditOf 27 = .ok (.aload_n 1, 1) := by decide +kernel
theorem dX0_creditOf_28 : decode cX0_creditOf 28 = .ok (.iload 5, 2) := by decide +kernel
theorem dX0_creditOf_30 : decode cX0_creditOf 30 = .ok (.iload 4, 2) := by decide +kernel
theorem dX0_creditOf_32 : decode cX0_creditOf 32 = .ok (.aload_n 0, 1) := by decide +kernel
theorem dX0_creditOf_33 : decode cX0_creditOf 33 = .ok (.getfield 18, 3) := by decide +kernel
theorem dX0_creditOf_36 : decode cX0_creditOf 36 = .ok (.invokevirtual 28, 3) := by decide +kernel
theorem dX0_creditOf_39 : decode cX0_creditOf 39 = .ok (.pop, 1) := by decide +kernel
theorem dX0_creditOf_40 : decode cX0_creditOf 40 = .ok (.aload_n 3, 1) := by decide +kernel
theorem dX0_creditOf_41 : decode cX0_creditOf 41 = .ok (.getfield 34, 3) := by decide +kernel
theorem dX0_creditOf_44 : decode cX0_creditOf 44 = .ok (.ifCond .ne 5, 3) := by decide +kernel
theorem dX0_creditOf_47 : decode cX0_creditOf 47 = .ok (.iconst 0, 1) := by decide +kernel
theorem dX0_creditOf_48 : decode cX0_creditOf 48 = .ok (.ireturn, 1) := by decide +kernel
theorem dX0_creditOf_49 : decode cX0_creditOf 49 = .ok (.aload_n 3, 1) := by decide +kernel
theorem dX0_creditOf_50 : decode cX0_creditOf 50 = .ok (.aload_n 1, 1) := by decide +kernel
theorem dX0_creditOf_51 : decode cX0_creditOf 51 = .ok (.iload 5, 2) := by decide +kernel
theorem dX0_creditOf_53 : decode cX0_creditOf 53 = .ok (.iload 4, 2) := by decide +kernel
theorem dX0_creditOf_55 : decode cX0_creditOf 55 = .ok (.iload 6, 2) := by decide +kernel
theorem dX0_creditOf_57 : decode cX0_creditOf 57 = .ok (.invokevirtual 28, 3) := by decide +kernel
theorem dX0_creditOf_60 : decode cX0_creditOf 60 = .ok (.pop, 1) := by decide +kernel
theorem dX0_creditOf_61 : decode cX0_creditOf 61 = .ok (.aload_n 2, 1) := by decide +kernel
theorem dX0_creditOf_62 : decode cX0_creditOf 62 = .ok (.getfield 38, 3) := by decide +kernel
theorem dX0_creditOf_65 : decode cX0_creditOf 65 = .ok (.iconst 0, 1) := by decide +kernel
theorem dX0_creditOf_66 : decode cX0_creditOf 66 = .ok (.iaload, 1) := by decide +kernel
theorem dX0_creditOf_67 : decode cX0_creditOf 67 = .ok (.iload 6, 2) := by decide +kernel
theorem dX0_creditOf_69 : decode cX0_creditOf 69 = .ok (.aload_n 3, 1) := by decide +kernel
theorem dX0_creditOf_70 : decode cX0_creditOf 70 = .ok (.getfield 43, 3) := by decide +kernel
theorem dX0_creditOf_73 : decode cX0_creditOf 73 = .ok (.isub, 1) := by decide +kernel
theorem dX0_creditOf_74 : decode cX0_creditOf 74 = .ok (.imul, 1) := by decide +kernel
theorem dX0_creditOf_75 : decode cX0_creditOf 75 = .ok (.istore 7, 2) := by decide +kernel
theorem dX0_creditOf_77 : decode cX0_creditOf 77 = .ok (.aload_n 2, 1) := by decide +kernel
theorem dX0_creditOf_78 : decode cX0_creditOf 78 = .ok (.getfield 38, 3) := by decide +kernel
theorem dX0_creditOf_81 : decode cX0_creditOf 81 = .ok (.iconst 1, 1) := by decide +kernel
theorem dX0_creditOf_82 : decode cX0_creditOf 82 = .ok (.iaload, 1) := by decide +kernel
theorem dX0_creditOf_83 : decode cX0_creditOf 83 = .ok (.sipush 1000, 3) := by decide +kernel
theorem dX0_creditOf_86 : decode cX0_creditOf 86 = .ok (.invokestatic 46, 3) := by decide +kernel
theorem dX0_creditOf_89 : decode cX0_creditOf 89 = .ok (.istore 8, 2) := by decide +kernel
theorem dX0_creditOf_91 : decode cX0_creditOf 91 = .ok (.aload_n 0, 1) := by decide +kernel
theorem dX0_creditOf_92 : decode cX0_creditOf 92 = .ok (.getfield 9, 3) := by decide +kernel
theorem dX0_creditOf_95 : decode cX0_creditOf 95 = .ok (.iload 5, 2) := by decide +kernel
theorem dX0_creditOf_97 : decode cX0_creditOf 97 = .ok (.iaload, 1) := by decide +kernel
theorem dX0_creditOf_98 : decode cX0_creditOf 98 = .ok (.sipush 1000, 3) := by decide +kernel
theorem dX0_creditOf_101 : decode cX0_creditOf 101 = .ok (.iload 7, 2) := by decide +kernel
theorem dX0_creditOf_103 : decode cX0_creditOf 103 = .ok (.isub, 1) := by decide +kernel
theorem dX0_creditOf_104 : decode cX0_creditOf 104 = .ok (.iload 8, 2) := by decide +kernel
theorem dX0_creditOf_106 : decode cX0_creditOf 106 = .ok (.invokestatic 52, 3) := by decide +kernel
theorem dX0_creditOf_109 : decode cX0_creditOf 109 = .ok (.imul, 1) := by decide +kernel
theorem dX0_creditOf_110 : decode cX0_creditOf 110 = .ok (.sipush 1000, 3) := by decide +kernel
theorem dX0_creditOf_113 : decode cX0_creditOf 113 = .ok (.idiv, 1) := by decide +kernel
theorem dX0_creditOf_114 : decode cX0_creditOf 114 = .ok (.ireturn, 1) := by decide +kernel
theorem dX0_shareOut_0 : decode cX0_shareOut 0 = .ok (.aload_n 0, 1) := by decide +kernel
theorem dX0_shareOut_1 : decode cX0_shareOut 1 = .ok (.getfield 15, 3) := by decide +kernel
theorem dX0_shareOut_4 : decode cX0_shareOut 4 = .ok (.iconst 0, 1) := by decide +kernel
theorem dX0_shareOut_5 : decode cX0_shareOut 5 = .ok (.invokestatic 22, 3) := by decide +kernel
theorem dX0_shareOut_8 : decode cX0_shareOut 8 = .ok (.iconst 0, 1) := by decide +kernel
theorem dX0_shareOut_9 : decode cX0_shareOut 9 = .ok (.istore 6, 2) := by decide +kernel
theorem dX0_shareOut_11 : decode cX0_shareOut 11 = .ok (.iload 6, 2) := by decide +kernel
theorem dX0_shareOut_13 : decode cX0_shareOut 13 = .ok (.aload_n 1, 1) := by decide +kernel
theorem dX0_shareOut_14 : decode cX0_shareOut 14 = .ok (.getfield 55, 3) := by decide +kernel
theorem dX0_shareOut_17 : decode cX0_shareOut 17 = .ok (.if_icmp .ge 50, 3) := by decide +kernel
theorem dX0_shareOut_20 : decode cX0_shareOut 20 = .ok (.aload_n 0, 1) := by decide +kernel
theorem dX0_shareOut_21 : decode cX0_shareOut 21 = .ok (.aload_n 1, 1) := by decide +kernel
theorem dX0_shareOut_22 : decode cX0_shareOut 22 = .ok (.aload_n 2, 1) := by decide +kernel
theorem dX0_shareOut_23 : decode cX0_shareOut 23 = .ok (.aload_n 3, 1) := by decide +kernel
theorem dX0_shareOut_24 : decode cX0_shareOut 24 = .ok (.iload 4, 2) := by decide +kernel
theorem dX0_shareOut_26 : decode cX0_shareOut 26 = .ok (.iload 6, 2) := by decide +kernel
theorem dX0_shareOut_28 : decode cX0_shareOut 28 = .ok (.iload 5, 2) := by decide +kernel
theorem dX0_shareOut_30 : decode cX0_shareOut 30 = .ok (.invokevirtual 60, 3) := by decide +kernel
theorem dX0_shareOut_33 : decode cX0_shareOut 33 = .ok (.istore 7, 2) := by decide +kernel
theorem dX0_shareOut_35 : decode cX0_shareOut 35 = .ok (.iload 7, 2) := by decide +kernel
theorem dX0_shareOut_37 : decode cX0_shareOut 37 = .ok (.ifCond .le 24, 3) := by decide +kernel
theorem dX0_shareOut_40 : decode cX0_shareOut 40 = .ok (.aload_n 3, 1) := by decide +kernel
theorem dX0_shareOut_41 : decode cX0_shareOut 41 = .ok (.aload_n 1, 1) := by decide +kernel
theorem dX0_shareOut_42 : decode cX0_shareOut 42 = .ok (.iload 6, 2) := by decide +kernel
theorem dX0_shareOut_44 : decode cX0_shareOut 44 = .ok (.iload 4, 2) := by decide +kernel
theorem dX0_shareOut_46 : decode cX0_shareOut 46 = .ok (.iload 5, 2) := by decide +kernel
theorem dX0_shareOut_48 : decode cX0_shareOut 48 = .ok (.invokevirtual 28, 3) := by decide +kernel
theorem dX0_shareOut_51 : decode cX0_shareOut 51 = .ok (.pop, 1) := by decide +kernel
theorem dX0_shareOut_52 : decode cX0_shareOut 52 = .ok (.aload_n 0, 1) := by decide +kernel
theorem dX0_shareOut_53 : decode cX0_shareOut 53 = .ok (.iload 7, 2) := by decide +kernel
theorem dX0_shareOut_55 : decode cX0_shareOut 55 = .ok (.aload_n 3, 1) := by decide +kernel
theorem dX0_shareOut_56 : decode cX0_shareOut 56 = .ok (.iload 5, 2) := by decide +kernel
theorem dX0_shareOut_58 : decode cX0_shareOut 58 = .ok (.invokevirtual 64, 3) := by decide +kernel
theorem dX0_shareOut_61 : decode cX0_shareOut 61 = .ok (.iinc 6 1, 3) := by decide +kernel
theorem dX0_shareOut_64 : decode cX0_shareOut 64 = .ok (.goto (-53), 3) := by decide +kernel
theorem dX0_shareOut_67 : decode cX0_shareOut 67 = .ok (.return_, 1) := by decide +kernel
theorem dX0_divide_0 : decode cX0_divide 0 = .ok (.iload_n 3, 1) := by decide +kernel
theorem dX0_divide_1 : decode cX0_divide 1 = .ok (.iconst 1, 1) := by decide +kernel
theorem dX0_divide_2 : decode cX0_divide 2 = .ok (.if_icmp .ge 4, 3) := by decide +kernel
theorem dX0_divide_5 : decode cX0_divide 5 = .ok (.return_, 1) := by decide +kernel
theorem dX0_divide_6 : decode cX0_divide 6 = .ok (.iload_n 1, 1) := by decide +kernel
theorem dX0_divide_7 : decode cX0_divide 7 = .ok (.istore 4, 2) := by decide +kernel
theorem dX0_divide_9 : decode cX0_divide 9 = .ok (.iconst 0, 1) := by decide +kernel
theorem dX0_divide_10 : decode cX0_divide 10 = .ok (.istore 5, 2) := by decide +kernel
theorem dX0_divide_12 : decode cX0_divide 12 = .ok (.iload 5, 2) := by decide +kernel
theorem dX0_divide_14 : decode cX0_divide 14 = .ok (.bipush 12, 2) := by decide +kernel
theorem dX0_divide_16 : decode cX0_divide 16 = .ok (.if_icmp .ge 41, 3) := by decide +kernel
theorem dX0_divide_19 : decode cX0_divide 19 = .ok (.iload_n 1, 1) := by decide +kernel
theorem dX0_divide_20 : decode cX0_divide 20 = .ok (.aload_n 2, 1) := by decide +kernel
theorem dX0_divide_21 : decode cX0_divide 21 = .ok (.getfield 68, 3) := by decide +kernel
theorem dX0_divide_24 : decode cX0_divide 24 = .ok (.iload 5, 2) := by decide +kernel
theorem dX0_divide_26 : decode cX0_divide 26 = .ok (.iaload, 1) := by decide +kernel
theorem dX0_divide_27 : decode cX0_divide 27 = .ok (.imul, 1) := by decide +kernel
theorem dX0_divide_28 : decode cX0_divide 28 = .ok (.iload_n 3, 1) := by decide +kernel
theorem dX0_divide_29 : decode cX0_divide 29 = .ok (.idiv, 1) := by decide +kernel
theorem dX0_divide_30 : decode cX0_divide 30 = .ok (.istore 6, 2) := by decide +kernel
theorem dX0_divide_32 : decode cX0_divide 32 = .ok (.aload_n 0, 1) := by decide +kernel
theorem dX0_divide_33 : decode cX0_divide 33 = .ok (.getfield 15, 3) := by decide +kernel
theorem dX0_divide_36 : decode cX0_divide 36 = .ok (.iload 5, 2) := by decide +kernel
theorem dX0_divide_38 : decode cX0_divide 38 = .ok (.dup2, 1) := by decide +kernel
theorem dX0_divide_39 : decode cX0_divide 39 = .ok (.iaload, 1) := by decide +kernel
theorem dX0_divide_40 : decode cX0_divide 40 = .ok (.iload 6, 2) := by decide +kernel
theorem dX0_divide_42 : decode cX0_divide 42 = .ok (.iadd, 1) := by decide +kernel
theorem dX0_divide_43 : decode cX0_divide 43 = .ok (.iastore, 1) := by decide +kernel
theorem dX0_divide_44 : decode cX0_divide 44 = .ok (.iload 4, 2) := by decide +kernel
theorem dX0_divide_46 : decode cX0_divide 46 = .ok (.iload 6, 2) := by decide +kernel
theorem dX0_divide_48 : decode cX0_divide 48 = .ok (.isub, 1) := by decide +kernel
theorem dX0_divide_49 : decode cX0_divide 49 = .ok (.istore 4, 2) := by decide +kernel
theorem dX0_divide_51 : decode cX0_divide 51 = .ok (.iinc 5 1, 3) := by decide +kernel
theorem dX0_divide_54 : decode cX0_divide 54 = .ok (.goto (-42), 3) := by decide +kernel
theorem dX0_divide_57 : decode cX0_divide 57 = .ok (.aload_n 0, 1) := by decide +kernel
theorem dX0_divide_58 : decode cX0_divide 58 = .ok (.getfield 15, 3) := by decide +kernel
theorem dX0_divide_61 : decode cX0_divide 61 = .ok (.aload_n 2, 1) := by decide +kernel
theorem dX0_divide_62 : decode cX0_divide 62 = .ok (.getfield 71, 3) := by decide +kernel
theorem dX0_divide_65 : decode cX0_divide 65 = .ok (.dup2, 1) := by decide +kernel
theorem dX0_divide_66 : decode cX0_divide 66 = .ok (.iaload, 1) := by decide +kernel
theorem dX0_divide_67 : decode cX0_divide 67 = .ok (.iload 4, 2) := by decide +kernel
theorem dX0_divide_69 : decode cX0_divide 69 = .ok (.iadd, 1) := by decide +kernel
theorem dX0_divide_70 : decode cX0_divide 70 = .ok (.iastore, 1) := by decide +kernel
theorem dX0_divide_71 : decode cX0_divide 71 = .ok (.return_, 1) := by decide +kernel
