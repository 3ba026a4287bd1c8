theorem dX9_day_30 : decode cX9_day 30 = .ok (.if_icmp .ne 5, 3) := by decide +kernel
theorem dX9_day_33 : decode cX9_day 33 = .ok (.iconst (-1), 1) := by decide +kernel
theorem dX9_day_34 : decode cX9_day 34 = .ok (.ireturn, 1) := by decide +kernel
theorem dX9_day_35 : decode cX9_day 35 = .ok (.aload_n 0, 1) := by decide +kernel
theorem dX9_day_36 : decode cX9_day 36 = .ok (.aload_n 0, 1) := by decide +kernel
theorem dX9_day_37 : decode cX9_day 37 = .ok (.getfield 125, 3) := by decide +kernel
theorem dX9_day_40 : decode cX9_day 40 = .ok (.iconst 1, 1) := by decide +kernel
theorem dX9_day_41 : decode cX9_day 41 = .ok (.iadd, 1) := by decide +kernel
theorem dX9_day_42 : decode cX9_day 42 = .ok (.putfield 125, 3) := by decide +kernel
theorem dX9_day_45 : decode cX9_day 45 = .ok (.aload_n 0, 1) := by decide +kernel
theorem dX9_day_46 : decode cX9_day 46 = .ok (.aload_n 0, 1) := by decide +kernel
theorem dX9_day_47 : decode cX9_day 47 = .ok (.getfield 136, 3) := by decide +kernel
theorem dX9_day_50 : decode cX9_day 50 = .ok (.iload_n 2, 1) := by decide +kernel
theorem dX9_day_51 : decode cX9_day 51 = .ok (.iadd, 1) := by decide +kernel
theorem dX9_day_52 : decode cX9_day 52 = .ok (.iload_n 1, 1) := by decide +kernel
theorem dX9_day_53 : decode cX9_day 53 = .ok (.ifCond .le 9, 3) := by decide +kernel
theorem dX9_day_56 : decode cX9_day 56 = .ok (.iconst 4, 1) := by decide +kernel
theorem dX9_day_57 : decode cX9_day 57 = .ok (.iload_n 1, 1) := by decide +kernel
theorem dX9_day_58 : decode cX9_day 58 = .ok (.imul, 1) := by decide +kernel
theorem dX9_day_59 : decode cX9_day 59 = .ok (.goto 4, 3) := by decide +kernel
theorem dX9_day_62 : decode cX9_day 62 = .ok (.iconst 0, 1) := by decide +kernel
theorem dX9_day_63 : decode cX9_day 63 = .ok (.isub, 1) := by decide +kernel
theorem dX9_day_64 : decode cX9_day 64 = .ok (.putfield 136, 3) := by decide +kernel
theorem dX9_day_67 : decode cX9_day 67 = .ok (.aload_n 0, 1) := by decide +kernel
theorem dX9_day_68 : decode cX9_day 68 = .ok (.getfield 136, 3) := by decide +kernel
theorem dX9_day_71 : decode cX9_day 71 = .ok (.ifCond .ge 8, 3) := by decide +kernel
theorem dX9_day_74 : decode cX9_day 74 = .ok (.aload_n 0, 1) := by decide +kernel
theorem dX9_day_75 : decode cX9_day 75 = .ok (.iconst 0, 1) := by decide +kernel
theorem dX9_day_76 : decode cX9_day 76 = .ok (.putfield 136, 3) := by decide +kernel
theorem dX9_day_79 : decode cX9_day 79 = .ok (.aload_n 0, 1) := by decide +kernel
theorem dX9_day_80 : decode cX9_day 80 = .ok (.iload_n 1, 1) := by decide +kernel
theorem dX9_day_81 : decode cX9_day 81 = .ok (.invokevirtual 139, 3) := by decide +kernel
theorem dX9_day_84 : decode cX9_day 84 = .ok (.aload_n 0, 1) := by decide +kernel
theorem dX9_day_85 : decode cX9_day 85 = .ok (.getfield 33, 3) := by decide +kernel
theorem dX9_day_88 : decode cX9_day 88 = .ok (.iconst (-1), 1) := by decide +kernel
theorem dX9_day_89 : decode cX9_day 89 = .ok (.if_icmp .eq 52, 3) := by decide +kernel
theorem dX9_day_92 : decode cX9_day 92 = .ok (.aload_n 0, 1) := by decide +kernel
theorem dX9_day_93 : decode cX9_day 93 = .ok (.aload_n 0, 1) := by decide +kernel
theorem dX9_day_94 : decode cX9_day 94 = .ok (.getfield 125, 3) := by decide +kernel
theorem dX9_day_97 : decode cX9_day 97 = .ok (.invokevirtual 142, 3) := by decide +kernel
theorem dX9_day_100 : decode cX9_day 100 = .ok (.istore_n 3, 1) := by decide +kernel
theorem dX9_day_101 : decode cX9_day 101 = .ok (.aload_n 0, 1) := by decide +kernel
theorem dX9_day_102 : decode cX9_day 102 = .ok (.aload_n 0, 1) := by decide +kernel
theorem dX9_day_103 : decode cX9_day 103 = .ok (.getfield 33, 3) := by decide +kernel
theorem dX9_day_106 : decode cX9_day 106 = .ok (.iload_n 3, 1) := by decide +kernel
theorem dX9_day_107 : decode cX9_day 107 = .ok (.invokevirtual 145, 3) := by decide +kernel
theorem dX9_day_110 : decode cX9_day 110 = .ok (.istore 4, 2) := by decide +kernel
theorem dX9_day_112 : decode cX9_day 112 = .ok (.aload_n 0, 1) := by decide +kernel
theorem dX9_day_113 : decode cX9_day 113 = .ok (.aload_n 0, 1) := by decide +kernel
theorem dX9_day_114 : decode cX9_day 114 = .ok (.getfield 149, 3) := by decide +kernel
theorem dX9_day_117 : decode cX9_day 117 = .ok (.iload 4, 2) := by decide +kernel
theorem dX9_day_119 : decode cX9_day 119 = .ok (.iadd, 1) := by decide +kernel
theorem dX9_day_120 : decode cX9_day 120 = .ok (.putfield 149, 3) := by decide +kernel
theorem dX9_day_123 : decode cX9_day 123 = .ok (.aload_n 0, 1) := by decide +kernel
theorem dX9_day_124 : decode cX9_day 124 = .ok (.aload_n 0, 1) := by decide +kernel
theorem dX9_day_125 : decode cX9_day 125 = .ok (.getfield 152, 3) := by decide +kernel
theorem dX9_day_128 : decode cX9_day 128 = .ok (.bipush 10, 2) := by decide +kernel
theorem dX9_day_130 : decode cX9_day 130 = .ok (.iload_n 3, 1) := by decide +kernel
theorem dX9_day_131 : decode cX9_day 131 = .ok (.imul, 1) := by decide +kernel
theorem dX9_day_132 : decode cX9_day 132 = .ok (.i2l, 1) := by decide +kernel
theorem dX9_day_133 : decode cX9_day 133 = .ok (.ladd, 1) := by decide +kernel
theorem dX9_day_134 : decode cX9_day 134 = .ok (.iload 4, 2) := by decide +kernel
theorem dX9_day_136 : decode cX9_day 136 = .ok (.i2l, 1) := by decide +kernel
theorem dX9_day_137 : decode cX9_day 137 = .ok (.lsub, 1) := by decide +kernel
theorem dX9_day_138 : decode cX9_day 138 = .ok (.putfield 152, 3) := by decide +kernel
theorem dX9_day_141 : decode cX9_day 141 = .ok (.aload_n 0, 1) := by decide +kernel
theorem dX9_day_142 : decode cX9_day 142 = .ok (.getfield 125, 3) := by decide +kernel
theorem dX9_day_145 : decode cX9_day 145 = .ok (.ireturn, 1) := by decide +kernel
theorem dX9_lays_0 : decode cX9_lays 0 = .ok (.iload_n 1, 1) := by decide +kernel
theorem dX9_lays_1 : decode cX9_lays 1 = .ok (.istore_n 3, 1) := by decide +kernel
theorem dX9_lays_2 : decode cX9_lays 2 = .ok (.aload_n 0, 1) := by decide +kernel
theorem dX9_lays_3 : decode cX9_lays 3 = .ok (.getfield 33, 3) := by decide +kernel
theorem dX9_lays_6 : decode cX9_lays 6 = .ok (.istore 4, 2) := by decide +kernel
theorem dX9_lays_8 : decode cX9_lays 8 = .ok (.iconst 0, 1) := by decide +kernel
theorem dX9_lays_9 : decode cX9_lays 9 = .ok (.istore 5, 2) := by decide +kernel
theorem dX9_lays_11 : decode cX9_lays 11 = .ok (.iload 5, 2) := by decide +kernel
theorem dX9_lays_13 : decode cX9_lays 13 = .ok (.iload_n 2, 1) := by decide +kernel
theorem dX9_lays_14 : decode cX9_lays 14 = .ok (.if_icmp .ge 89, 3) := by decide +kernel
theorem dX9_lays_17 : decode cX9_lays 17 = .ok (.iload 5, 2) := by decide +kernel
theorem dX9_lays_19 : decode cX9_lays 19 = .ok (.ifCond .ne 17, 3) := by decide +kernel
theorem dX9_lays_22 : decode cX9_lays 22 = .ok (.aload_n 0, 1) := by decide +kernel
theorem dX9_lays_23 : decode cX9_lays 23 = .ok (.getfield 33, 3) := by decide +kernel
theorem dX9_lays_26 : decode cX9_lays 26 = .ok (.iconst (-1), 1) := by decide +kernel
theorem dX9_lays_27 : decode cX9_lays 27 = .ok (.if_icmp .ne 9, 3) := by decide +kernel
theorem dX9_lays_30 : decode cX9_lays 30 = .ok (.iconst 0, 1) := by decide +kernel
theorem dX9_lays_31 : decode cX9_lays 31 = .ok (.istore 4, 2) := by decide +kernel
theorem dX9_lays_33 : decode cX9_lays 33 = .ok (.goto 13, 3) := by decide +kernel
theorem dX9_lays_36 : decode cX9_lays 36 = .ok (.iload 4, 2) := by decide +kernel
theorem dX9_lays_38 : decode cX9_lays 38 = .ok (.iload_n 3, 1) := by decide +kernel
theorem dX9_lays_39 : decode cX9_lays 39 = .ok (.iconst 3, 1) := by decide +kernel
theorem dX9_lays_40 : decode cX9_lays 40 = .ok (.irem, 1) := by decide +kernel
theorem dX9_lays_41 : decode cX9_lays 41 = .ok (.iadd, 1) := by decide +kernel
theorem dX9_lays_42 : decode cX9_lays 42 = .ok (.iconst 1, 1) := by decide +kernel
theorem dX9_lays_43 : decode cX9_lays 43 = .ok (.isub, 1) := by decide +kernel
theorem dX9_lays_44 : decode cX9_lays 44 = .ok (.istore 4, 2) := by decide +kernel
theorem dX9_lays_46 : decode cX9_lays 46 = .ok (.iload 5, 2) := by decide +kernel
theorem dX9_lays_48 : decode cX9_lays 48 = .ok (.ifCond .ne 20, 3) := by decide +kernel
theorem dX9_lays_51 : decode cX9_lays 51 = .ok (.aload_n 0, 1) := by decide +kernel
theorem dX9_lays_52 : decode cX9_lays 52 = .ok (.getfield 33, 3) := by decide +kernel
theorem dX9_lays_55 : decode cX9_lays 55 = .ok (.iconst (-1), 1) := by decide +kernel
theorem dX9_lays_56 : decode cX9_lays 56 = .ok (.if_icmp .ne 12, 3) := by decide +kernel
theorem dX9_lays_59 : decode cX9_lays 59 = .ok (.iload_n 3, 1) := by decide +kernel
theorem dX9_lays_60 : decode cX9_lays 60 = .ok (.iconst 3, 1) := by decide +kernel
theorem dX9_lays_61 : decode cX9_lays 61 = .ok (.irem, 1) := by decide +kernel
theorem dX9_lays_62 : decode cX9_lays 62 = .ok (.iconst 1, 1) := by decide +kernel
theorem dX9_lays_63 : decode cX9_lays 63 = .ok (.if_icmp .eq 5, 3) := by decide +kernel
theorem dX9_lays_66 : decode cX9_lays 66 = .ok (.iconst 0, 1) := by decide +kernel
theorem dX9_lays_67 : decode cX9_lays 67 = .ok (.ireturn, 1) := by decide +kernel
theorem dX9_lays_68 : decode cX9_lays 68 = .ok (.iload 4, 2) := by decide +kernel
theorem dX9_lays_70 : decode cX9_lays 70 = .ok (.ifCond .lt 12, 3) := by decide +kernel
theorem dX9_lays_73 : decode cX9_lays 73 = .ok (.iload 4, 2) := by decide +kernel
theorem dX9_lays_75 : decode cX9_lays 75 = .ok (.aload_n 0, 1) := by decide +kernel
theorem dX9_lays_76 : decode cX9_lays 76 = .ok (.getfield 30, 3) := by decide +kernel
theorem dX9_lays_79 : decode cX9_lays 79 = .ok (.if_icmp .lt 5, 3) := by decide +kernel
theorem dX9_lays_82 : decode cX9_lays 82 = .ok (.iconst 0, 1) := by decide +kernel
theorem dX9_lays_83 : decode cX9_lays 83 = .ok (.ireturn, 1) := by decide +kernel
theorem dX9_lays_84 : decode cX9_lays 84 = .ok (.aload_n 0, 1) := by decide +kernel
theorem dX9_lays_85 : decode cX9_lays 85 = .ok (.getfield 51, 3) := by decide +kernel
theorem dX9_lays_88 : decode cX9_lays 88 = .ok (.iload 5, 2) := by decide +kernel
theorem dX9_lays_90 : decode cX9_lays 90 = .ok (.iload 4, 2) := by decide +kernel
theorem dX9_lays_92 : decode cX9_lays 92 = .ok (.iastore, 1) := by decide +kernel
theorem dX9_lays_93 : decode cX9_lays 93 = .ok (.iload_n 3, 1) := by decide +kernel
theorem dX9_lays_94 : decode cX9_lays 94 = .ok (.iconst 3, 1) := by decide +kernel
theorem dX9_lays_95 : decode cX9_lays 95 = .ok (.idiv, 1) := by decide +kernel
theorem dX9_lays_96 : decode cX9_lays 96 = .ok (.istore_n 3, 1) := by decide +kernel
theorem dX9_lays_97 : decode cX9_lays 97 = .ok (.iinc 5 1, 3) := by decide +kernel
theorem dX9_lays_100 : decode cX9_lays 100 = .ok (.goto (-89), 3) := by decide +kernel
theorem dX9_lays_103 : decode cX9_lays 103 = .ok (.iconst 1, 1) := by decide +kernel
theorem dX9_lays_104 : decode cX9_lays 104 = .ok (.ireturn, 1) := by decide +kernel
theorem dX9_isLess_0 : decode cX9_isLess 0 = .ok (.iconst 0, 1) := by decide +kernel
theorem dX9_isLess_1 : decode cX9_isLess 1 = .ok (.istore_n 2, 1) := by decide +kernel
theorem dX9_isLess_2 : decode cX9_isLess 2 = .ok (.iload_n 2, 1) := by decide +kernel
theorem dX9_isLess_3 : decode cX9_isLess 3 = .ok (.iload_n 1, 1) := by decide +kernel
theorem dX9_isLess_4 : decode cX9_isLess 4 = .ok (.if_icmp .ge 45, 3) := by decide +kernel
theorem dX9_isLess_7 : decode cX9_isLess 7 = .ok (.aload_n 0, 1) := by decide +kernel
theorem dX9_isLess_8 : decode cX9_isLess 8 = .ok (.getfield 51, 3) := by decide +kernel
theorem dX9_isLess_11 : decode cX9_isLess 11 = .ok (.iload_n 2, 1) := by decide +kernel
theorem dX9_isLess_12 : decode cX9_isLess 12 = .ok (.iaload, 1) := by decide +kernel
theorem dX9_isLess_13 : decode cX9_isLess 13 = .ok (.aload_n 0, 1) := by decide +kernel
theorem dX9_isLess_14 : decode cX9_isLess 14 = .ok (.getfield 54, 3) := by decide +kernel
theorem dX9_isLess_17 : decode cX9_isLess 17 = .ok (.iload_n 2, 1) := by decide +kernel
theorem dX9_isLess_18 : decode cX9_isLess 18 = .ok (.iaload, 1) := by decide +kernel
theorem dX9_isLess_19 : decode cX9_isLess 19 = .ok (.if_icmp .eq 24, 3) := by decide +kernel
theorem dX9_isLess_22 : decode cX9_isLess 22 = .ok (.aload_n 0, 1) := by decide +kernel
theorem dX9_isLess_23 : decode cX9_isLess 23 = .ok (.getfield 51, 3) := by decide +kernel
theorem dX9_isLess_26 : decode cX9_isLess 26 = .ok (.iload_n 2, 1) := by decide +kernel
theorem dX9_isLess_27 : decode cX9_isLess 27 = .ok (.iaload, 1) := by decide +kernel
theorem dX9_isLess_28 : decode cX9_isLess 28 = .ok (.aload_n 0, 1) := by decide +kernel
theorem dX9_isLess_29 : decode cX9_isLess 29 = .ok (.getfield 54, 3) := by decide +kernel
theorem dX9_isLess_32 : decode cX9_isLess 32 = .ok (.iload_n 2, 1) := by decide +kernel
theorem dX9_isLess_33 : decode cX9_isLess 33 = .ok (.iaload, 1) := by decide +kernel
theorem dX9_isLess_34 : decode cX9_isLess 34 = .ok (.if_icmp .ge 7, 3) := by decide +kernel
theorem dX9_isLess_37 : decode cX9_isLess 37 = .ok (.iconst 1, 1) := by decide +kernel
theorem dX9_isLess_38 : decode cX9_isLess 38 = .ok (.goto 4, 3) := by decide +kernel
theorem dX9_isLess_41 : decode cX9_isLess 41 = .ok (.iconst 0, 1) := by decide +kernel
theorem dX9_isLess_42 : decode cX9_isLess 42 = .ok (.ireturn, 1) := by decide +kernel
theorem dX9_isLess_43 : decode cX9_isLess 43 = .ok (.iinc 2 1, 3) := by decide +kernel
theorem dX9_isLess_46 : decode cX9_isLess 46 = .ok (.goto (-44), 3) := by decide +kernel
theorem dX9_isLess_49 : decode cX9_isLess 49 = .ok (.iconst 0, 1) := by decide +kernel
theorem dX9_isLess_50 : decode cX9_isLess 50 = .ok (.ireturn, 1) := by decide +kernel
theorem dX9_way_0 : decode cX9_way 0 = .ok (.iload_n 1, 1) := by decide +kernel
theorem dX9_way_1 : decode cX9_way 1 = .ok (.iconst 1, 1) := by decide +kernel
theorem dX9_way_2 : decode cX9_way 2 = .ok (.if_icmp .lt 21, 3) := by decide +kernel
theorem dX9_way_5 : decode cX9_way 5 = .ok (.iload_n 1, 1) := by decide +kernel
theorem dX9_way_6 : decode cX9_way 6 = .ok (.bipush 8, 2) := by decide +kernel
theorem dX9_way_8 : decode cX9_way 8 = .ok (.if_icmp .gt 15, 3) := by decide +kernel
theorem dX9_way_11 : decode cX9_way 11 = .ok (.iload_n 2, 1) := by decide +kernel
theorem dX9_way_12 : decode cX9_way 12 = .ok (.bipush (-30), 2) := by decide +kernel
theorem dX9_way_14 : decode cX9_way 14 = .ok (.if_icmp .lt 9, 3) := by decide +kernel
theorem dX9_way_17 : decode cX9_way 17 = .ok (.iload_n 2, 1) := by decide +kernel
theorem dX9_way_18 : decode cX9_way 18 = .ok (.bipush 40, 2) := by decide +kernel
theorem dX9_way_20 : decode cX9_way 20 = .ok (.if_icmp .le 5, 3) := by decide +kernel
theorem dX9_way_23 : decode cX9_way 23 = .ok (.iconst (-1), 1) := by decide +kernel
theorem dX9_way_24 : decode cX9_way 24 = .ok (.ireturn, 1) := by decide +kernel
theorem dX9_way_25 : decode cX9_way 25 = .ok (.aload_n 0, 1) := by decide +kernel
theorem dX9_way_26 : decode cX9_way 26 = .ok (.aload_n 0, 1) := by decide +kernel
theorem dX9_way_27 : decode cX9_way 27 = .ok (.getfield 125, 3) := by decide +kernel
theorem dX9_way_30 : decode cX9_way 30 = .ok (.invokevirtual 142, 3) := by decide +kernel
theorem dX9_way_33 : decode cX9_way 33 = .ok (.istore_n 3, 1) := by decide +kernel
theorem dX9_way_34 : decode cX9_way 34 = .ok (.iconst 0, 1) := by decide +kernel
theorem dX9_way_35 : decode cX9_way 35 = .ok (.istore 4, 2) := by decide +kernel
theorem dX9_way_37 : decode cX9_way 37 = .ok (.iload 4, 2) := by decide +kernel
theorem dX9_way_39 : decode cX9_way 39 = .ok (.bipush 6, 2) := by decide +kernel
theorem dX9_way_41 : decode cX9_way 41 = .ok (.if_icmp .ge 23, 3) := by decide +kernel
theorem dX9_way_44 : decode cX9_way 44 = .ok (.aload_n 0, 1) := by decide +kernel
theorem dX9_way_45 : decode cX9_way 45 = .ok (.getfield 48, 3) := by decide +kernel
theorem dX9_way_48 : decode cX9_way 48 = .ok (.iload 4, 2) := by decide +kernel
theorem dX9_way_50 : decode cX9_way 50 = .ok (.aload_n 0, 1) := by decide +kernel
theorem dX9_way_51 : decode cX9_way 51 = .ok (.getfield 39, 3) := by decide +kernel
theorem dX9_way_54 : decode cX9_way 54 = .ok (.iload 4, 2) := by decide +kernel
theorem dX9_way_56 : decode cX9_way 56 = .ok (.iaload, 1) := by decide +kernel
theorem dX9_way_57 : decode cX9_way 57 = .ok (.iastore, 1) := by decide +kernel
theorem dX9_way_58 : decode cX9_way 58 = .ok (.iinc 4 1, 3) := by decide +kernel
theorem dX9_way_61 : decode cX9_way 61 = .ok (.goto (-24), 3) := by decide +kernel
theorem dX9_way_64 : decode cX9_way 64 = .ok (.iconst 1, 1) := by decide +kernel
theorem dX9_way_65 : decode cX9_way 65 = .ok (.istore 4, 2) := by decide +kernel
theorem dX9_way_67 : decode cX9_way 67 = .ok (.iconst 0, 1) := by decide +kernel
theorem dX9_way_68 : decode cX9_way 68 = .ok (.istore 5, 2) := by decide +kernel
theorem dX9_way_70 : decode cX9_way 70 = .ok (.iload 5, 2) := by decide +kernel
theorem dX9_way_72 : decode cX9_way 72 = .ok (.iload_n 1, 1) := by decide +kernel
theorem dX9_way_73 : decode cX9_way 73 = .ok (.if_icmp .ge 15, 3) := by decide +kernel
theorem dX9_way_76 : decode cX9_way 76 = .ok (.iconst 3, 1) := by decide +kernel
theorem dX9_way_77 : decode cX9_way 77 = .ok (.iload 4, 2) := by decide +kernel
theorem dX9_way_79 : decode cX9_way 79 = .ok (.imul, 1) := by decide +kernel
theorem dX9_way_80 : decode cX9_way 80 = .ok (.istore 4, 2) := by decide +kernel
theorem dX9_way_82 : decode cX9_way 82 = .ok (.iinc 5 1, 3) := by decide +kernel
theorem dX9_way_85 : decode cX9_way 85 = .ok (.goto (-15), 3) := by decide +kernel
theorem dX9_way_88 : decode cX9_way 88 = .ok (.aload_n 0, 1) := by decide +kernel
theorem dX9_way_89 : decode cX9_way 89 = .ok (.iconst (-1), 1) := by decide +kernel
theorem dX9_way_90 : decode cX9_way 90 = .ok (.putfield 156, 3) := by decide +kernel
theorem dX9_way_93 : decode cX9_way 93 = .ok (.iconst 0, 1) := by decide +kernel
theorem dX9_way_94 : decode cX9_way 94 = .ok (.istore 5, 2) := by decide +kernel
theorem dX9_way_96 : decode cX9_way 96 = .ok (.iload 5, 2) := by decide +kernel
theorem dX9_way_98 : decode cX9_way 98 = .ok (.iload 4, 2) := by decide +kernel
theorem dX9_way_100 : decode cX9_way 100 = .ok (.if_icmp .ge 217, 3) := by decide +kernel
theorem dX9_way_103 : decode cX9_way 103 = .ok (.aload_n 0, 1) := by decide +kernel
theorem dX9_way_104 : decode cX9_way 104 = .ok (.iload 5, 2) := by decide +kernel
theorem dX9_way_106 : decode cX9_way 106 = .ok (.iload_n 1, 1) := by decide +kernel
theorem dX9_way_107 : decode cX9_way 107 = .ok (.invokevirtual 159, 3) := by decide +kernel
theorem dX9_way_110 : decode cX9_way 110 = .ok (.ifCond .ne 6, 3) := by decide +kernel
theorem dX9_way_113 : decode cX9_way 113 = .ok (.goto 198, 3) := by decide +kernel
theorem dX9_way_116 : decode cX9_way 116 = .ok (.iconst 0, 1) := by decide +kernel
theorem dX9_way_117 : decode cX9_way 117 = .ok (.istore 6, 2) := by decide +kernel
theorem dX9_way_119 : decode cX9_way 119 = .ok (.iconst 0, 1) := by decide +kernel
theorem dX9_way_120 : decode cX9_way 120 = .ok (.istore 7, 2) := by decide +kernel
theorem dX9_way_122 : decode cX9_way 122 = .ok (.iload 7, 2) := by decide +kernel
theorem dX9_way_124 : decode cX9_way 124 = .ok (.iload_n 1, 1) := by decide +kernel
theorem dX9_way_125 : decode cX9_way 125 = .ok (.if_icmp .ge 31, 3) := by decide +kernel
theorem dX9_way_128 : decode cX9_way 128 = .ok (.aload_n 0, 1) := by decide +kernel
theorem dX9_way_129 : decode cX9_way 129 = .ok (.iload_n 2, 1) := by decide +kernel
theorem dX9_way_130 : decode cX9_way 130 = .ok (.invokevirtual 139, 3) := by decide +kernel
theorem dX9_way_133 : decode cX9_way 133 = .ok (.iload 6, 2) := by decide +kernel
theorem dX9_way_135 : decode cX9_way 135 = .ok (.aload_n 0, 1) := by decide +kernel
theorem dX9_way_136 : decode cX9_way 136 = .ok (.aload_n 0, 1) := by decide +kernel
theorem dX9_way_137 : decode cX9_way 137 = .ok (.getfield 51, 3) := by decide +kernel
theorem dX9_way_140 : decode cX9_way 140 = .ok (.iload 7, 2) := by decide +kernel
theorem dX9_way_142 : decode cX9_way 142 = .ok (.iaload, 1) := by decide +kernel
theorem dX9_way_143 : decode cX9_way 143 = .ok (.iload_n 3, 1) := by decide +kernel
theorem dX9_way_144 : decode cX9_way 144 = .ok (.invokevirtual 145, 3) := by decide +kernel
theorem dX9_way_147 : decode cX9_way 147 = .ok (.iadd, 1) := by decide +kernel
theorem dX9_way_148 : decode cX9_way 148 = .ok (.istore 6, 2) := by decide +kernel
theorem dX9_way_150 : decode cX9_way 150 = .ok (.iinc 7 1, 3) := by decide +kernel
theorem dX9_way_153 : decode cX9_way 153 = .ok (.goto (-31), 3) := by decide +kernel
theorem dX9_way_156 : decode cX9_way 156 = .ok (.iconst 0, 1) := by decide +kernel
theorem dX9_way_157 : decode cX9_way 157 = .ok (.istore 7, 2) := by decide +kernel
theorem dX9_way_159 : decode cX9_way 159 = .ok (.iconst 0, 1) := by decide +kernel
theorem dX9_way_160 : decode cX9_way 160 = .ok (.istore 8, 2) := by decide +kernel
theorem dX9_way_162 : decode cX9_way 162 = .ok (.iload 8, 2) := by decide +kernel
theorem dX9_way_164 : decode cX9_way 164 = .ok (.aload_n 0, 1) := by decide +kernel
theorem dX9_way_165 : decode cX9_way 165 = .ok (.getfield 30, 3) := by decide +kernel
theorem dX9_way_168 : decode cX9_way 168 = .ok (.if_icmp .ge 35, 3) := by decide +kernel
theorem dX9_way_171 : decode cX9_way 171 = .ok (.iload 7, 2) := by decide +kernel
theorem dX9_way_173 : decode cX9_way 173 = .ok (.aload_n 0, 1) := by decide +kernel
theorem dX9_way_174 : decode cX9_way 174 = .ok (.getfield 39, 3) := by decide +kernel
theorem dX9_way_177 : decode cX9_way 177 = .ok (.iload 8, 2) := by decide +kernel
theorem dX9_way_179 : decode cX9_way 179 = .ok (.iaload, 1) := by decide +kernel
theorem dX9_way_180 : decode cX9_way 180 = .ok (.iadd, 1) := by decide +kernel
theorem dX9_way_181 : decode cX9_way 181 = .ok (.istore 7, 2) := by decide +kernel
theorem dX9_way_183 : decode cX9_way 183 = .ok (.aload_n 0, 1) := by decide +kernel
theorem dX9_way_184 : decode cX9_way 184 = .ok (.getfield 39, 3) := by decide +kernel
theorem dX9_way_187 : decode cX9_way 187 = .ok (.iload 8, 2) := by decide +kernel
theorem dX9_way_189 : decode cX9_way 189 = .ok (.aload_n 0, 1) := by decide +kernel
theorem dX9_way_190 : decode cX9_way 190 = .ok (.getfield 48, 3) := by decide +kernel
theorem dX9_way_193 : decode cX9_way 193 = .ok (.iload 8, 2) := by decide +kernel
theorem dX9_way_195 : decode cX9_way 195 = .ok (.iaload, 1) := by decide +kernel
theorem dX9_way_196 : decode cX9_way 196 = .ok (.iastore, 1) := by decide +kernel
theorem dX9_way_197 : decode cX9_way 197 = .ok (.iinc 8 1, 3) := by decide +kernel
theorem dX9_way_200 : decode cX9_way 200 = .ok (.goto (-38), 3) := by decide +kernel
theorem dX9_way_203 : decode cX9_way 203 = .ok (.aload_n 0, 1) := by decide +kernel
theorem dX9_way_204 : decode cX9_way 204 = .ok (.getfield 156, 3) := by decide +kernel
theorem dX9_way_207 : decode cX9_way 207 = .ok (.iconst (-1), 1) := by decide +kernel
theorem dX9_way_208 : decode cX9_way 208 = .ok (.if_icmp .eq 47, 3) := by decide +kernel
theorem dX9_way_211 : decode cX9_way 211 = .ok (.iload 6, 2) := by decide +kernel
theorem dX9_way_213 : decode cX9_way 213 = .ok (.aload_n 0, 1) := by decide +kernel
theorem dX9_way_214 : decode cX9_way 214 = .ok (.getfield 156, 3) := by decide +kernel
theorem dX9_way_217 : decode cX9_way 217 = .ok (.if_icmp .lt 38, 3) := by decide +kernel
theorem dX9_way_220 : decode cX9_way 220 = .ok (.iload 6, 2) := by decide +kernel
theorem dX9_way_222 : decode cX9_way 222 = .ok (.aload_n 0, 1) := by decide +kernel
theorem dX9_way_223 : decode cX9_way 223 = .ok (.getfield 156, 3) := by decide +kernel
theorem dX9_way_226 : decode cX9_way 226 = .ok (.if_icmp .ne 33, 3) := by decide +kernel
theorem dX9_way_229 : decode cX9_way 229 = .ok (.iload 7, 2) := by decide +kernel
theorem dX9_way_231 : decode cX9_way 231 = .ok (.aload_n 0, 1) := by decide +kernel
theorem dX9_way_232 : decode cX9_way 232 = .ok (.getfield 162, 3) := by decide +kernel
theorem dX9_way_235 : decode cX9_way 235 = .ok (.if_icmp .gt 20, 3) := by decide +kernel
theorem dX9_way_238 : decode cX9_way 238 = .ok (.iload 7, 2) := by decide +kernel
theorem dX9_way_240 : decode cX9_way 240 = .ok (.aload_n 0, 1) := by decide +kernel
theorem dX9_way_241 : decode cX9_way 241 = .ok (.getfield 162, 3) := by decide +kernel
theorem dX9_way_244 : decode cX9_way 244 = .ok (.if_icmp .ne 15, 3) := by decide +kernel
theorem dX9_way_247 : decode cX9_way 247 = .ok (.aload_n 0, 1) := by decide +kernel
theorem dX9_way_248 : decode cX9_way 248 = .ok (.iload_n 1, 1) := by decide +kernel
theorem dX9_way_249 : decode cX9_way 249 = .ok (.invokevirtual 165, 3) := by decide +kernel
theorem dX9_way_252 : decode cX9_way 252 = .ok (.ifCond .eq 7, 3) := by decide +kernel
theorem dX9_way_255 : decode cX9_way 255 = .ok (.iconst 1, 1) := by decide +kernel
theorem dX9_way_256 : decode cX9_way 256 = .ok (.goto 4, 3) := by decide +kernel
theorem dX9_way_259 : decode cX9_way 259 = .ok (.iconst 0, 1) := by decide +kernel
theorem dX9_way_260 : decode cX9_way 260 = .ok (.istore 8, 2) := by decide +kernel
theorem dX9_way_262 : decode cX9_way 262 = .ok (.iload 8, 2) := by decide +kernel
theorem dX9_way_264 : decode cX9_way 264 = .ok (.ifCond .ne 6, 3) := by decide +kernel
theorem dX9_way_267 : decode cX9_way 267 = .ok (.goto 44, 3) := by decide +kernel
theorem dX9_way_270 : decode cX9_way 270 = .ok (.aload_n 0, 1) := by decide +kernel
theorem dX9_way_271 : decode cX9_way 271 = .ok (.iload 6, 2) := by decide +kernel
theorem dX9_way_273 : decode cX9_way 273 = .ok (.putfield 156, 3) := by decide +kernel
theorem dX9_way_276 : decode cX9_way 276 = .ok (.aload_n 0, 1) := by decide +kernel
theorem dX9_way_277 : decode cX9_way 277 = .ok (.iload 7, 2) := by decide +kernel
theorem dX9_way_279 : decode cX9_way 279 = .ok (.putfield 162, 3) := by decide +kernel
theorem dX9_way_282 : decode cX9_way 282 = .ok (.iconst 0, 1) := by decide +kernel
theorem dX9_way_283 : decode cX9_way 283 = .ok (.istore 9, 2) := by decide +kernel
theorem dX9_way_285 : decode cX9_way 285 = .ok (.iload 9, 2) := by decide +kernel
theorem dX9_way_287 : decode cX9_way 287 = .ok (.iload_n 1, 1) := by decide +kernel
theorem dX9_way_288 : decode cX9_way 288 = .ok (.if_icmp .ge 23, 3) := by decide +kernel
theorem dX9_way_291 : decode cX9_way 291 = .ok (.aload_n 0, 1) := by decide +kernel
theorem dX9_way_292 : decode cX9_way 292 = .ok (.getfield 54, 3) := by decide +kernel
theorem dX9_way_295 : decode cX9_way 295 = .ok (.iload 9, 2) := by decide +kernel
theorem dX9_way_297 : decode cX9_way 297 = .ok (.aload_n 0, 1) := by decide +kernel
theorem dX9_way_298 : decode cX9_way 298 = .ok (.getfield 51, 3) := by decide +kernel
theorem dX9_way_301 : decode cX9_way 301 = .ok (.iload 9, 2) := by decide +kernel
theorem dX9_way_303 : decode cX9_way 303 = .ok (.iaload, 1) := by decide +kernel
theorem dX9_way_304 : decode cX9_way 304 = .ok (.iastore, 1) := by decide +kernel
theorem dX9_way_305 : decode cX9_way 305 = .ok (.iinc 9 1, 3) := by decide +kernel
theorem dX9_way_308 : decode cX9_way 308 = .ok (.goto (-23), 3) := by decide +kernel
theorem dX9_way_311 : decode cX9_way 311 = .ok (.iinc 5 1, 3) := by decide +kernel
theorem dX9_way_314 : decode cX9_way 314 = .ok (.goto (-218), 3) := by decide +kernel
theorem dX9_way_317 : decode cX9_way 317 = .ok (.aload_n 0, 1) := by decide +kernel
theorem dX9_way_318 : decode cX9_way 318 = .ok (.iload_n 1, 1) := by decide +kernel
theorem dX9_way_319 : decode cX9_way 319 = .ok (.putfield 168, 3) := by decide +kernel
theorem dX9_way_322 : decode cX9_way 322 = .ok (.aload_n 0, 1) := by decide +kernel
theorem dX9_way_323 : decode cX9_way 323 = .ok (.getfield 156, 3) := by decide +kernel
theorem dX9_way_326 : decode cX9_way 326 = .ok (.ireturn, 1) := by decide +kernel
theorem dX9_step_0 : decode cX9_step 0 = .ok (.iload_n 1, 1) := by decide +kernel
theorem dX9_step_1 : decode cX9_step 1 = .ok (.ifCond .lt 20, 3) := by decide +kernel
theorem dX9_step_4 : decode cX9_step 4 = .ok (.iload_n 1, 1) := by decide +kernel
theorem dX9_step_5 : decode cX9_step 5 = .ok (.aload_n 0, 1) := by decide +kernel
theorem dX9_step_6 : decode cX9_step 6 = .ok (.getfield 168, 3) := by decide +kernel
theorem dX9_step_9 : decode cX9_step 9 = .ok (.if_icmp .ge 12, 3) := by decide +kernel
theorem dX9_step_12 : decode cX9_step 12 = .ok (.aload_n 0, 1) := by decide +kernel
theorem dX9_step_13 : decode cX9_step 13 = .ok (.getfield 54, 3) := by decide +kernel
theorem dX9_step_16 : decode cX9_step 16 = .ok (.iload_n 1, 1) := by decide +kernel
theorem dX9_step_17 : decode cX9_step 17 = .ok (.iaload, 1) := by decide +kernel
theorem dX9_step_18 : decode cX9_step 18 = .ok (.goto 4, 3) := by decide +kernel
theorem dX9_step_21 : decode cX9_step 21 = .ok (.iconst (-1), 1) := by decide +kernel
theorem dX9_step_22 : decode cX9_step 22 = .ok (.ireturn, 1) := by decide +kernel
theorem dX9_sheep_0 : decode cX9_sheep 0 = .ok (.iload_n 1, 1) := by decide +kernel
theorem dX9_sheep_1 : decode cX9_sheep 1 = .ok (.ifCond .lt 25, 3) := by decide +kernel
theorem dX9_sheep_4 : decode cX9_sheep 4 = .ok (.iload_n 1, 1) := by decide +kernel
theorem dX9_sheep_5 : decode cX9_sheep 5 = .ok (.bipush 12, 2) := by decide +kernel
theorem dX9_sheep_7 : decode cX9_sheep 7 = .ok (.if_icmp .ge 19, 3) := by decide +kernel
theorem dX9_sheep_10 : decode cX9_sheep 10 = .ok (.aload_n 0, 1) := by decide +kernel
theorem dX9_sheep_11 : decode cX9_sheep 11 = .ok (.getfield 171, 3) := by decide +kernel
theorem dX9_sheep_14 : decode cX9_sheep 14 = .ok (.bipush 80, 2) := by decide +kernel
theorem dX9_sheep_16 : decode cX9_sheep 16 = .ok (.if_icmp .eq 10, 3) := by decide +kernel
theorem dX9_sheep_19 : decode cX9_sheep 19 = .ok (.aload_n 0, 1) := by decide +kernel
theorem dX9_sheep_20 : decode cX9_sheep 20 = .ok (.getfield 128, 3) := by decide +kernel
theorem dX9_sheep_23 : decode cX9_sheep 23 = .ok (.ifCond .le 5, 3) := by decide +kernel
theorem dX9_sheep_26 : decode cX9_sheep 26 = .ok (.iconst (-1), 1) := by decide +kernel
theorem dX9_sheep_27 : decode cX9_sheep 27 = .ok (.ireturn, 1) := by decide +kernel
theorem dX9_sheep_28 : decode cX9_sheep 28 = .ok (.aload_n 0, 1) := by decide +kernel
theorem dX9_sheep_29 : decode cX9_sheep 29 = .ok (.getfield 60, 3) := by decide +kernel
theorem dX9_sheep_32 : decode cX9_sheep 32 = .ok (.aload_n 0, 1) := by decide +kernel
theorem dX9_sheep_33 : decode cX9_sheep 33 = .ok (.getfield 171, 3) := by decide +kernel
theorem dX9_sheep_36 : decode cX9_sheep 36 = .ok (.iload_n 1, 1) := by decide +kernel
theorem dX9_sheep_37 : decode cX9_sheep 37 = .ok (.iastore, 1) := by decide +kernel
theorem dX9_sheep_38 : decode cX9_sheep 38 = .ok (.aload_n 0, 1) := by decide +kernel
theorem dX9_sheep_39 : decode cX9_sheep 39 = .ok (.getfield 63, 3) := by decide +kernel
theorem dX9_sheep_42 : decode cX9_sheep 42 = .ok (.aload_n 0, 1) := by decide +kernel
theorem dX9_sheep_43 : decode cX9_sheep 43 = .ok (.getfield 171, 3) := by decide +kernel
theorem dX9_sheep_46 : decode cX9_sheep 46 = .ok (.iconst 0, 1) := by decide +kernel
theorem dX9_sheep_47 : decode cX9_sheep 47 = .ok (.iastore, 1) := by decide +kernel
theorem dX9_sheep_48 : decode cX9_sheep 48 = .ok (.aload_n 0, 1) := by decide +kernel
theorem dX9_sheep_49 : decode cX9_sheep 49 = .ok (.getfield 66, 3) := by decide +kernel
theorem dX9_sheep_52 : decode cX9_sheep 52 = .ok (.aload_n 0, 1) := by decide +kernel
theorem dX9_sheep_53 : decode cX9_sheep 53 = .ok (.getfield 171, 3) := by decide +kernel
theorem dX9_sheep_56 : decode cX9_sheep 56 = .ok (.iconst 0, 1) := by decide +kernel
theorem dX9_sheep_57 : decode cX9_sheep 57 = .ok (.bastore, 1) := by decide +kernel
theorem dX9_sheep_58 : decode cX9_sheep 58 = .ok (.aload_n 0, 1) := by decide +kernel
theorem dX9_sheep_59 : decode cX9_sheep 59 = .ok (.aload_n 0, 1) := by decide +kernel
theorem dX9_sheep_60 : decode cX9_sheep 60 = .ok (.getfield 171, 3) := by decide +kernel
theorem dX9_sheep_63 : decode cX9_sheep 63 = .ok (.iconst 1, 1) := by decide +kernel
theorem dX9_sheep_64 : decode cX9_sheep 64 = .ok (.iadd, 1) := by decide +kernel
theorem dX9_sheep_65 : decode cX9_sheep 65 = .ok (.putfield 171, 3) := by decide +kernel
theorem dX9_sheep_68 : decode cX9_sheep 68 = .ok (.aload_n 0, 1) := by decide +kernel
theorem dX9_sheep_69 : decode cX9_sheep 69 = .ok (.getfield 171, 3) := by decide +kernel
theorem dX9_sheep_72 : decode cX9_sheep 72 = .ok (.iconst 1, 1) := by decide +kernel
theorem dX9_sheep_73 : decode cX9_sheep 73 = .ok (.isub, 1) := by decide +kernel
theorem dX9_sheep_74 : decode cX9_sheep 74 = .ok (.ireturn, 1) := by decide +kernel
theorem dX9_isSheep_0 : decode cX9_isSheep 0 = .ok (.iload_n 1, 1) := by decide +kernel
theorem dX9_isSheep_1 : decode cX9_isSheep 1 = .ok (.ifCond .lt 15, 3) := by decide +kernel
theorem dX9_isSheep_4 : decode cX9_isSheep 4 = .ok (.iload_n 1, 1) := by decide +kernel
theorem dX9_isSheep_5 : decode cX9_isSheep 5 = .ok (.aload_n 0, 1) := by decide +kernel
theorem dX9_isSheep_6 : decode cX9_isSheep 6 = .ok (.getfield 171, 3) := by decide +kernel
theorem dX9_isSheep_9 : decode cX9_isSheep 9 = .ok (.if_icmp .ge 7, 3) := by decide +kernel
theorem dX9_isSheep_12 : decode cX9_isSheep 12 = .ok (.iconst 1, 1) := by decide +kernel
theorem dX9_isSheep_13 : decode cX9_isSheep 13 = .ok (.goto 4, 3) := by decide +kernel
theorem dX9_isSheep_16 : decode cX9_isSheep 16 = .ok (.iconst 0, 1) := by decide +kernel
theorem dX9_isSheep_17 : decode cX9_isSheep 17 = .ok (.ireturn, 1) := by decide +kernel
theorem dX9_fitsAct_0 : decode cX9_fitsAct 0 = .ok (.aload_n 0, 1) := by decide +kernel
theorem dX9_fitsAct_1 : decode cX9_fitsAct 1 = .ok (.getfield 70, 3) := by decide +kernel
theorem dX9_fitsAct_4 : decode cX9_fitsAct 4 = .ok (.iload_n 1, 1) := by decide +kernel
theorem dX9_fitsAct_5 : decode cX9_fitsAct 5 = .ok (.iaload, 1) := by decide +kernel
theorem dX9_fitsAct_6 : decode cX9_fitsAct 6 = .ok (.tableswitch 51 0 2 #[26, 46, 46], 26) := by decide +kernel
theorem dX9_fitsAct_32 : decode cX9_fitsAct 32 = .ok (.aload_n 0, 1) := by decide +kernel
theorem dX9_fitsAct_33 : decode cX9_fitsAct 33 = .ok (.getfield 174, 3) := by decide +kernel
theorem dX9_fitsAct_36 : decode cX9_fitsAct 36 = .ok (.ifCond .ne 14, 3) := by decide +kernel
theorem dX9_fitsAct_39 : decode cX9_fitsAct 39 = .ok (.aload_n 0, 1) := by decide +kernel
theorem dX9_fitsAct_40 : decode cX9_fitsAct 40 = .ok (.getfield 178, 3) := by decide +kernel
theorem dX9_fitsAct_43 : decode cX9_fitsAct 43 = .ok (.ifCond .ne 7, 3) := by decide +kernel
theorem dX9_fitsAct_46 : decode cX9_fitsAct 46 = .ok (.iconst 1, 1) := by decide +kernel
theorem dX9_fitsAct_47 : decode cX9_fitsAct 47 = .ok (.goto 4, 3) := by decide +kernel
theorem dX9_fitsAct_50 : decode cX9_fitsAct 50 = .ok (.iconst 0, 1) := by decide +kernel
theorem dX9_fitsAct_51 : decode cX9_fitsAct 51 = .ok (.ireturn, 1) := by decide +kernel
theorem dX9_fitsAct_52 : decode cX9_fitsAct 52 = .ok (.aload_n 0, 1) := by decide +kernel
theorem dX9_fitsAct_53 : decode cX9_fitsAct 53 = .ok (.getfield 174, 3) := by decide +kernel
theorem dX9_fitsAct_56 : decode cX9_fitsAct 56 = .ok (.ireturn, 1) := by decide +kernel
theorem dX9_fitsAct_57 : decode cX9_fitsAct 57 = .ok (.aload_n 0, 1) := by decide +kernel
theorem dX9_fitsAct_58 : decode cX9_fitsAct 58 = .ok (.getfield 178, 3) := by decide +kernel
theorem dX9_fitsAct_61 : decode cX9_fitsAct 61 = .ok (.ifCond .ne 20, 3) := by decide +kernel
theorem dX9_fitsAct_64 : decode cX9_fitsAct 64 = .ok (.aload_n 0, 1) := by decide +kernel
theorem dX9_fitsAct_65 : decode cX9_fitsAct 65 = .ok (.getfield 79, 3) := by decide +kernel
theorem dX9_fitsAct_68 : decode cX9_fitsAct 68 = .ok (.iload_n 1, 1) := by decide +kernel
theorem dX9_fitsAct_69 : decode cX9_fitsAct 69 = .ok (.iaload, 1) := by decide +kernel
theorem dX9_fitsAct_70 : decode cX9_fitsAct 70 = .ok (.aload_n 0, 1) := by decide +kernel
theorem dX9_fitsAct_71 : decode cX9_fitsAct 71 = .ok (.getfield 181, 3) := by decide +kernel
theorem dX9_fitsAct_74 : decode cX9_fitsAct 74 = .ok (.if_icmp .eq 7, 3) := by decide +kernel
theorem dX9_fitsAct_77 : decode cX9_fitsAct 77 = .ok (.iconst 1, 1) := by decide +kernel
theorem dX9_fitsAct_78 : decode cX9_fitsAct 78 = .ok (.goto 4, 3) := by decide +kernel
theorem dX9_fitsAct_81 : decode cX9_fitsAct 81 = .ok (.iconst 0, 1) := by decide +kernel
theorem dX9_fitsAct_82 : decode cX9_fitsAct 82 = .ok (.ireturn, 1) := by decide +kernel
theorem dX9_does_0 : decode cX9_does 0 = .ok (.aload_n 0, 1) := by decide +kernel
theorem dX9_does_1 : decode cX9_does 1 = .ok (.getfield 70, 3) := by decide +kernel
theorem dX9_does_4 : decode cX9_does 4 = .ok (.iload_n 1, 1) := by decide +kernel
theorem dX9_does_5 : decode cX9_does 5 = .ok (.iaload, 1) := by decide +kernel
theorem dX9_does_6 : decode cX9_does 6 = .ok (.iconst 3, 1) := by decide +kernel
theorem dX9_does_7 : decode cX9_does 7 = .ok (.if_icmp .ne 16, 3) := by decide +kernel
theorem dX9_does_10 : decode cX9_does 10 = .ok (.aload_n 0, 1) := by decide +kernel
theorem dX9_does_11 : decode cX9_does 11 = .ok (.aload_n 0, 1) := by decide +kernel
theorem dX9_does_12 : decode cX9_does 12 = .ok (.getfield 79, 3) := by decide +kernel
theorem dX9_does_15 : decode cX9_does 15 = .ok (.iload_n 1, 1) := by decide +kernel
theorem dX9_does_16 : decode cX9_does 16 = .ok (.iaload, 1) := by decide +kernel
theorem dX9_does_17 : decode cX9_does 17 = .ok (.putfield 181, 3) := by decide +kernel
theorem dX9_does_20 : decode cX9_does 20 = .ok (.goto 21, 3) := by decide +kernel
theorem dX9_does_23 : decode cX9_does 23 = .ok (.aload_n 0, 1) := by decide +kernel
theorem dX9_does_24 : decode cX9_does 24 = .ok (.aload_n 0, 1) := by decide +kernel
theorem dX9_does_25 : decode cX9_does 25 = .ok (.getfield 70, 3) := by decide +kernel
theorem dX9_does_28 : decode cX9_does 28 = .ok (.iload_n 1, 1) := by decide +kernel
theorem dX9_does_29 : decode cX9_does 29 = .ok (.iaload, 1) := by decide +kernel
theorem dX9_does_30 : decode cX9_does 30 = .ok (.ifCond .ne 7, 3) := by decide +kernel
theorem dX9_does_33 : decode cX9_does 33 = .ok (.iconst 1, 1) := by decide +kernel
theorem dX9_does_34 : decode cX9_does 34 = .ok (.goto 4, 3) := by decide +kernel
theorem dX9_does_37 : decode cX9_does 37 = .ok (.iconst 0, 1) := by decide +kernel
theorem dX9_does_38 : decode cX9_does 38 = .ok (.putfield 174, 3) := by decide +kernel
theorem dX9_does_41 : decode cX9_does 41 = .ok (.aload_n 0, 1) := by decide +kernel
theorem dX9_does_42 : decode cX9_does 42 = .ok (.getfield 70, 3) := by decide +kernel
theorem dX9_does_45 : decode cX9_does 45 = .ok (.iload_n 1, 1) := by decide +kernel
theorem dX9_does_46 : decode cX9_does 46 = .ok (.iaload, 1) := by decide +kernel
theorem dX9_does_47 : decode cX9_does 47 = .ok (.iconst 2, 1) := by decide +kernel
theorem dX9_does_48 : decode cX9_does 48 = .ok (.if_icmp .ne 8, 3) := by decide +kernel
theorem dX9_does_51 : decode cX9_does 51 = .ok (.aload_n 0, 1) := by decide +kernel
theorem dX9_does_52 : decode cX9_does 52 = .ok (.iconst 1, 1) := by decide +kernel
theorem dX9_does_53 : decode cX9_does 53 = .ok (.putfield 178, 3) := by decide +kernel
theorem dX9_does_56 : decode cX9_does 56 = .ok (.return_, 1) := by decide +kernel
theorem dX9_asks_0 : decode cX9_asks 0 = .ok (.aload_n 0, 1) := by decide +kernel
theorem dX9_asks_1 : decode cX9_asks 1 = .ok (.iconst 0, 1) := by decide +kernel
theorem dX9_asks_2 : decode cX9_asks 2 = .ok (.putfield 174, 3) := by decide +kernel
theorem dX9_asks_5 : decode cX9_asks 5 = .ok (.aload_n 0, 1) := by decide +kernel
theorem dX9_asks_6 : decode cX9_asks 6 = .ok (.aload_n 0, 1) := by decide +kernel
theorem dX9_asks_7 : decode cX9_asks 7 = .ok (.getfield 66, 3) := by decide +kernel
theorem dX9_asks_10 : decode cX9_asks 10 = .ok (.iload_n 2, 1) := by decide +kernel
theorem dX9_asks_11 : decode cX9_asks 11 = .ok (.baload, 1) := by decide +kernel
theorem dX9_asks_12 : decode cX9_asks 12 = .ok (.putfield 178, 3) := by decide +kernel
theorem dX9_asks_15 : decode cX9_asks 15 = .ok (.aload_n 0, 1) := by decide +kernel
theorem dX9_asks_16 : decode cX9_asks 16 = .ok (.aload_n 0, 1) := by decide +kernel
theorem dX9_asks_17 : decode cX9_asks 17 = .ok (.getfield 60, 3) := by decide +kernel
theorem dX9_asks_20 : decode cX9_asks 20 = .ok (.iload_n 2, 1) := by decide +kernel
theorem dX9_asks_21 : decode cX9_asks 21 = .ok (.iaload, 1) := by decide +kernel
theorem dX9_asks_22 : decode cX9_asks 22 = .ok (.putfield 181, 3) := by decide +kernel
theorem dX9_asks_25 : decode cX9_asks 25 = .ok (.iconst 1, 1) := by decide +kernel
theorem dX9_asks_26 : decode cX9_asks 26 = .ok (.istore 4, 2) := by decide +kernel
theorem dX9_asks_28 : decode cX9_asks 28 = .ok (.iconst 1, 1) := by decide +kernel
theorem dX9_asks_29 : decode cX9_asks 29 = .ok (.istore 5, 2) := by decide +kernel
theorem dX9_asks_31 : decode cX9_asks 31 = .ok (.iload 5, 2) := by decide +kernel
theorem dX9_asks_33 : decode cX9_asks 33 = .ok (.iload_n 3, 1) := by decide +kernel
theorem dX9_asks_34 : decode cX9_asks 34 = .ok (.if_icmp .gt 77, 3) := by decide +kernel
theorem dX9_asks_37 : decode cX9_asks 37 = .ok (.iconst 0, 1) := by decide +kernel
theorem dX9_asks_38 : decode cX9_asks 38 = .ok (.istore 6, 2) := by decide +kernel
theorem dX9_asks_40 : decode cX9_asks 40 = .ok (.iload 6, 2) := by decide +kernel
theorem dX9_asks_42 : decode cX9_asks 42 = .ok (.iload_n 1, 1) := by decide +kernel
theorem dX9_asks_43 : decode cX9_asks 43 = .ok (.if_icmp .ge 62, 3) := by decide +kernel
theorem dX9_asks_46 : decode cX9_asks 46 = .ok (.aload_n 0, 1) := by decide +kernel
theorem dX9_asks_47 : decode cX9_asks 47 = .ok (.getfield 73, 3) := by decide +kernel
theorem dX9_asks_50 : decode cX9_asks 50 = .ok (.iload 6, 2) := by decide +kernel
theorem dX9_asks_52 : decode cX9_asks 52 = .ok (.iaload, 1) := by decide +kernel
theorem dX9_asks_53 : decode cX9_asks 53 = .ok (.iload_n 2, 1) := by decide +kernel
theorem dX9_asks_54 : decode cX9_asks 54 = .ok (.if_icmp .ne 45, 3) := by decide +kernel
theorem dX9_asks_57 : decode cX9_asks 57 = .ok (.aload_n 0, 1) := by decide +kernel
theorem dX9_asks_58 : decode cX9_asks 58 = .ok (.getfield 76, 3) := by decide +kernel
theorem dX9_asks_61 : decode cX9_asks 61 = .ok (.iload 6, 2) := by decide +kernel
theorem dX9_asks_63 : decode cX9_asks 63 = .ok (.iaload, 1) := by decide +kernel
theorem dX9_asks_64 : decode cX9_asks 64 = .ok (.iload 5, 2) := by decide +kernel
theorem dX9_asks_66 : decode cX9_asks 66 = .ok (.if_icmp .eq 6, 3) := by decide +kernel
theorem dX9_asks_69 : decode cX9_asks 69 = .ok (.goto 30, 3) := by decide +kernel
theorem dX9_asks_72 : decode cX9_asks 72 = .ok (.iload 4, 2) := by decide +kernel
theorem dX9_asks_74 : decode cX9_asks 74 = .ok (.ifCond .eq 16, 3) := by decide +kernel
theorem dX9_asks_77 : decode cX9_asks 77 = .ok (.aload_n 0, 1) := by decide +kernel
theorem dX9_asks_78 : decode cX9_asks 78 = .ok (.iload 6, 2) := by decide +kernel
theorem dX9_asks_80 : decode cX9_asks 80 = .ok (.invokevirtual 184, 3) := by decide +kernel
theorem dX9_asks_83 : decode cX9_asks 83 = .ok (.ifCond .eq 7, 3) := by decide +kernel
theorem dX9_asks_86 : decode cX9_asks 86 = .ok (.iconst 1, 1) := by decide +kernel
theorem dX9_asks_87 : decode cX9_asks 87 = .ok (.goto 4, 3) := by decide +kernel
theorem dX9_asks_90 : decode cX9_asks 90 = .ok (.iconst 0, 1) := by decide +kernel
theorem dX9_asks_91 : decode cX9_asks 91 = .ok (.istore 4, 2) := by decide +kernel
theorem dX9_asks_93 : decode cX9_asks 93 = .ok (.aload_n 0, 1) := by decide +kernel
theorem dX9_asks_94 : decode cX9_asks 94 = .ok (.iload 6, 2) := by decide +kernel
theorem dX9_asks_96 : decode cX9_asks 96 = .ok (.invokevirtual 187, 3) := by decide +kernel
theorem dX9_asks_99 : decode cX9_asks 99 = .ok (.iinc 6 1, 3) := by decide +kernel
theorem dX9_asks_102 : decode cX9_asks 102 = .ok (.goto (-62), 3) := by decide +kernel
theorem dX9_asks_105 : decode cX9_asks 105 = .ok (.iinc 5 1, 3) := by decide +kernel
theorem dX9_asks_108 : decode cX9_asks 108 = .ok (.goto (-77), 3) := by decide +kernel
theorem dX9_asks_111 : decode cX9_asks 111 = .ok (.iload 4, 2) := by decide +kernel
theorem dX9_asks_113 : decode cX9_asks 113 = .ok (.ireturn, 1) := by decide +kernel
theorem dX9_ups_0 : decode cX9_ups 0 = .ok (.iconst 0, 1) := by decide +kernel
theorem dX9_ups_1 : decode cX9_ups 1 = .ok (.istore_n 2, 1) := by decide +kernel
theorem dX9_ups_2 : decode cX9_ups 2 = .ok (.iconst 0, 1) := by decide +kernel
theorem dX9_ups_3 : decode cX9_ups 3 = .ok (.istore_n 3, 1) := by decide +kernel
theorem dX9_ups_4 : decode cX9_ups 4 = .ok (.iload_n 3, 1) := by decide +kernel
theorem dX9_ups_5 : decode cX9_ups 5 = .ok (.aload_n 0, 1) := by decide +kernel
theorem dX9_ups_6 : decode cX9_ups 6 = .ok (.getfield 171, 3) := by decide +kernel
theorem dX9_ups_9 : decode cX9_ups 9 = .ok (.if_icmp .ge 35, 3) := by decide +kernel
theorem dX9_ups_12 : decode cX9_ups 12 = .ok (.aload_n 0, 1) := by decide +kernel
theorem dX9_ups_13 : decode cX9_ups 13 = .ok (.aload_n 0, 1) := by decide +kernel
theorem dX9_ups_14 : decode cX9_ups 14 = .ok (.getfield 128, 3) := by decide +kernel
theorem dX9_ups_17 : decode cX9_ups 17 = .ok (.iload_n 3, 1) := by decide +kernel
theorem dX9_ups_18 : decode cX9_ups 18 = .ok (.iload_n 1, 1) := by decide +kernel
theorem dX9_ups_19 : decode cX9_ups 19 = .ok (.invokevirtual 190, 3) := by decide +kernel
theorem dX9_ups_22 : decode cX9_ups 22 = .ok (.pop, 1) := by decide +kernel
theorem dX9_ups_23 : decode cX9_ups 23 = .ok (.iload_n 2, 1) := by decide +kernel
theorem dX9_ups_24 : decode cX9_ups 24 = .ok (.aload_n 0, 1) := by decide +kernel
theorem dX9_ups_25 : decode cX9_ups 25 = .ok (.getfield 174, 3) := by decide +kernel
theorem dX9_ups_28 : decode cX9_ups 28 = .ok (.ifCond .eq 7, 3) := by decide +kernel
theorem dX9_ups_31 : decode cX9_ups 31 = .ok (.iconst 1, 1) := by decide +kernel
theorem dX9_ups_32 : decode cX9_ups 32 = .ok (.goto 4, 3) := by decide +kernel
theorem dX9_ups_35 : decode cX9_ups 35 = .ok (.iconst 0, 1) := by decide +kernel
theorem dX9_ups_36 : decode cX9_ups 36 = .ok (.iadd, 1) := by decide +kernel
theorem dX9_ups_37 : decode cX9_ups 37 = .ok (.istore_n 2, 1) := by decide +kernel
theorem dX9_ups_38 : decode cX9_ups 38 = .ok (.iinc 3 1, 3) := by decide +kernel
theorem dX9_ups_41 : decode cX9_ups 41 = .ok (.goto (-37), 3) := by decide +kernel
theorem dX9_ups_44 : decode cX9_ups 44 = .ok (.iload_n 2, 1) := by decide +kernel
theorem dX9_ups_45 : decode cX9_ups 45 = .ok (.ireturn, 1) := by decide +kernel
theorem dX9_act_0 : decode cX9_act 0 = .ok (.iload_n 1, 1) := by decide +kernel
theorem dX9_act_1 : decode cX9_act 1 = .ok (.ifCond .lt 54, 3) := by decide +kernel
theorem dX9_act_4 : decode cX9_act 4 = .ok (.iload_n 1, 1) := by decide +kernel
theorem dX9_act_5 : decode cX9_act 5 = .ok (.iconst 3, 1) := by decide +kernel
theorem dX9_act_6 : decode cX9_act 6 = .ok (.if_icmp .gt 49, 3) := by decide +kernel
theorem dX9_act_9 : decode cX9_act 9 = .ok (.aload_n 0, 1) := by decide +kernel
theorem dX9_act_10 : decode cX9_act 10 = .ok (.iload_n 2, 1) := by decide +kernel
theorem dX9_act_11 : decode cX9_act 11 = .ok (.invokevirtual 194, 3) := by decide +kernel
theorem dX9_act_14 : decode cX9_act 14 = .ok (.ifCond .eq 41, 3) := by decide +kernel
theorem dX9_act_17 : decode cX9_act 17 = .ok (.iload_n 3, 1) := by decide +kernel
theorem dX9_act_18 : decode cX9_act 18 = .ok (.iconst 1, 1) := by decide +kernel
theorem dX9_act_19 : decode cX9_act 19 = .ok (.if_icmp .lt 36, 3) := by decide +kernel
theorem dX9_act_22 : decode cX9_act 22 = .ok (.iload_n 3, 1) := by decide +kernel
theorem dX9_act_23 : decode cX9_act 23 = .ok (.sipush 150, 3) := by decide +kernel
theorem dX9_act_26 : decode cX9_act 26 = .ok (.if_icmp .gt 29, 3) := by decide +kernel
theorem dX9_act_29 : decode cX9_act 29 = .ok (.iload_n 1, 1) := by decide +kernel
theorem dX9_act_30 : decode cX9_act 30 = .ok (.iconst 3, 1) := by decide +kernel
theorem dX9_act_31 : decode cX9_act 31 = .ok (.if_icmp .ne 15, 3) := by decide +kernel
theorem dX9_act_34 : decode cX9_act 34 = .ok (.iload 4, 2) := by decide +kernel
theorem dX9_act_36 : decode cX9_act 36 = .ok (.ifCond .lt 19, 3) := by decide +kernel
theorem dX9_act_39 : decode cX9_act 39 = .ok (.iload 4, 2) := by decide +kernel
theorem dX9_act_41 : decode cX9_act 41 = .ok (.bipush 12, 2) := by decide +kernel
theorem dX9_act_43 : decode cX9_act 43 = .ok (.if_icmp .ge 12, 3) := by decide +kernel
theorem dX9_act_46 : decode cX9_act 46 = .ok (.aload_n 0, 1) := by decide +kernel
theorem dX9_act_47 : decode cX9_act 47 = .ok (.getfield 128, 3) := by decide +kernel
theorem dX9_act_50 : decode cX9_act 50 = .ok (.bipush 100, 2) := by decide +kernel
theorem dX9_act_52 : decode cX9_act 52 = .ok (.if_icmp .ne 5, 3) := by decide +kernel
theorem dX9_act_55 : decode cX9_act 55 = .ok (.iconst (-1), 1) := by decide +kernel
theorem dX9_act_56 : decode cX9_act 56 = .ok (.ireturn, 1) := by decide +kernel
theorem dX9_act_57 : decode cX9_act 57 = .ok (.aload_n 0, 1) := by decide +kernel
theorem dX9_act_58 : decode cX9_act 58 = .ok (.getfield 70, 3) := by decide +kernel
theorem dX9_act_61 : decode cX9_act 61 = .ok (.aload_n 0, 1) := by decide +kernel
theorem dX9_act_62 : decode cX9_act 62 = .ok (.getfield 128, 3) := by decide +kernel
theorem dX9_act_65 : decode cX9_act 65 = .ok (.iload_n 1, 1) := by decide +kernel
theorem dX9_act_66 : decode cX9_act 66 = .ok (.iastore, 1) := by decide +kernel
theorem dX9_act_67 : decode cX9_act 67 = .ok (.aload_n 0, 1) := by decide +kernel
theorem dX9_act_68 : decode cX9_act 68 = .ok (.getfield 73, 3) := by decide +kernel
theorem dX9_act_71 : decode cX9_act 71 = .ok (.aload_n 0, 1) := by decide +kernel
theorem dX9_act_72 : decode cX9_act 72 = .ok (.getfield 128, 3) := by decide +kernel
theorem dX9_act_75 : decode cX9_act 75 = .ok (.iload_n 2, 1) := by decide +kernel
theorem dX9_act_76 : decode cX9_act 76 = .ok (.iastore, 1) := by decide +kernel
theorem dX9_act_77 : decode cX9_act 77 = .ok (.aload_n 0, 1) := by decide +kernel
theorem dX9_act_78 : decode cX9_act 78 = .ok (.getfield 76, 3) := by decide +kernel
theorem dX9_act_81 : decode cX9_act 81 = .ok (.aload_n 0, 1) := by decide +kernel
theorem dX9_act_82 : decode cX9_act 82 = .ok (.getfield 128, 3) := by decide +kernel
theorem dX9_act_85 : decode cX9_act 85 = .ok (.iload_n 3, 1) := by decide +kernel
theorem dX9_act_86 : decode cX9_act 86 = .ok (.iastore, 1) := by decide +kernel
theorem dX9_act_87 : decode cX9_act 87 = .ok (.aload_n 0, 1) := by decide +kernel
theorem dX9_act_88 : decode cX9_act 88 = .ok (.getfield 79, 3) := by decide +kernel
theorem dX9_act_91 : decode cX9_act 91 = .ok (.aload_n 0, 1) := by decide +kernel
theorem dX9_act_92 : decode cX9_act 92 = .ok (.getfield 128, 3) := by decide +kernel
theorem dX9_act_95 : decode cX9_act 95 = .ok (.iload_n 1, 1) := by decide +kernel
theorem dX9_act_96 : decode cX9_act 96 = .ok (.iconst 3, 1) := by decide +kernel
theorem dX9_act_97 : decode cX9_act 97 = .ok (.if_icmp .ne 8, 3) := by decide +kernel
theorem dX9_act_100 : decode cX9_act 100 = .ok (.iload 4, 2) := by decide +kernel
theorem dX9_act_102 : decode cX9_act 102 = .ok (.goto 4, 3) := by decide +kernel
theorem dX9_act_105 : decode cX9_act 105 = .ok (.iconst (-1), 1) := by decide +kernel
theorem dX9_act_106 : decode cX9_act 106 = .ok (.iastore, 1) := by decide +kernel
theorem dX9_act_107 : decode cX9_act 107 = .ok (.aload_n 0, 1) := by decide +kernel
theorem dX9_act_108 : decode cX9_act 108 = .ok (.aload_n 0, 1) := by decide +kernel
theorem dX9_act_109 : decode cX9_act 109 = .ok (.getfield 128, 3) := by decide +kernel
theorem dX9_act_112 : decode cX9_act 112 = .ok (.iconst 1, 1) := by decide +kernel
theorem dX9_act_113 : decode cX9_act 113 = .ok (.iadd, 1) := by decide +kernel
theorem dX9_act_114 : decode cX9_act 114 = .ok (.iload_n 2, 1) := by decide +kernel
theorem dX9_act_115 : decode cX9_act 115 = .ok (.sipush 150, 3) := by decide +kernel
theorem dX9_act_118 : decode cX9_act 118 = .ok (.invokevirtual 190, 3) := by decide +kernel
theorem dX9_act_121 : decode cX9_act 121 = .ok (.ifCond .ne 5, 3) := by decide +kernel
theorem dX9_act_124 : decode cX9_act 124 = .ok (.iconst (-1), 1) := by decide +kernel
theorem dX9_act_125 : decode cX9_act 125 = .ok (.ireturn, 1) := by decide +kernel
theorem dX9_act_126 : decode cX9_act 126 = .ok (.aload_n 0, 1) := by decide +kernel
theorem dX9_act_127 : decode cX9_act 127 = .ok (.aload_n 0, 1) := by decide +kernel
theorem dX9_act_128 : decode cX9_act 128 = .ok (.getfield 128, 3) := by decide +kernel
theorem dX9_act_131 : decode cX9_act 131 = .ok (.iconst 1, 1) := by decide +kernel
theorem dX9_act_132 : decode cX9_act 132 = .ok (.iadd, 1) := by decide +kernel
theorem dX9_act_133 : decode cX9_act 133 = .ok (.putfield 128, 3) := by decide +kernel
theorem dX9_act_136 : decode cX9_act 136 = .ok (.aload_n 0, 1) := by decide +kernel
theorem dX9_act_137 : decode cX9_act 137 = .ok (.getfield 128, 3) := by decide +kernel
theorem dX9_act_140 : decode cX9_act 140 = .ok (.iconst 1, 1) := by decide +kernel
theorem dX9_act_141 : decode cX9_act 141 = .ok (.isub, 1) := by decide +kernel
theorem dX9_act_142 : decode cX9_act 142 = .ok (.ireturn, 1) := by decide +kernel
theorem dX9_entry_0 : decode cX9_entry 0 = .ok (.iload_n 1, 1) := by decide +kernel
theorem dX9_entry_1 : decode cX9_entry 1 = .ok (.ifCond .lt 11, 3) := by decide +kernel
theorem dX9_entry_4 : decode cX9_entry 4 = .ok (.iload_n 1, 1) := by decide +kernel
theorem dX9_entry_5 : decode cX9_entry 5 = .ok (.aload_n 0, 1) := by decide +kernel
theorem dX9_entry_6 : decode cX9_entry 6 = .ok (.getfield 128, 3) := by decide +kernel
theorem dX9_entry_9 : decode cX9_entry 9 = .ok (.if_icmp .lt 5, 3) := by decide +kernel
theorem dX9_entry_12 : decode cX9_entry 12 = .ok (.iconst (-1), 1) := by decide +kernel
theorem dX9_entry_13 : decode cX9_entry 13 = .ok (.ireturn, 1) := by decide +kernel
theorem dX9_entry_14 : decode cX9_entry 14 = .ok (.iload_n 2, 1) := by decide +kernel
theorem dX9_entry_15 : decode cX9_entry 15 = .ok (.tableswitch 57 0 3 #[29, 36, 43, 50], 29) := by decide +kernel
theorem dX9_entry_44 : decode cX9_entry 44 = .ok (.aload_n 0, 1) := by decide +kernel
theorem dX9_entry_45 : decode cX9_entry 45 = .ok (.getfield 70, 3) := by decide +kernel
theorem dX9_entry_48 : decode cX9_entry 48 = .ok (.iload_n 1, 1) := by decide +kernel
theorem dX9_entry_49 : decode cX9_entry 49 = .ok (.iaload, 1) := by decide +kernel
theorem dX9_entry_50 : decode cX9_entry 50 = .ok (.ireturn, 1) := by decide +kernel
theorem dX9_entry_51 : decode cX9_entry 51 = .ok (.aload_n 0, 1) := by decide +kernel
theorem dX9_entry_52 : decode cX9_entry 52 = .ok (.getfield 73, 3) := by decide +kernel
theorem dX9_entry_55 : decode cX9_entry 55 = .ok (.iload_n 1, 1) := by decide +kernel
theorem dX9_entry_56 : decode cX9_entry 56 = .ok (.iaload, 1) := by decide +kernel
theorem dX9_entry_57 : decode cX9_entry 57 = .ok (.ireturn, 1) := by decide +kernel
theorem dX9_entry_58 : decode cX9_entry 58 = .ok (.aload_n 0, 1) := by decide +kernel
theorem dX9_entry_59 : decode cX9_entry 59 = .ok (.getfield 76, 3) := by decide +kernel
theorem dX9_entry_62 : decode cX9_entry 62 = .ok (.iload_n 1, 1) := by decide +kernel
theorem dX9_entry_63 : decode cX9_entry 63 = .ok (.iaload, 1) := by decide +kernel
theorem dX9_entry_64 : decode cX9_entry 64 = .ok (.ireturn, 1) := by decide +kernel
theorem dX9_entry_65 : decode cX9_entry 65 = .ok (.aload_n 0, 1) := by decide +kernel
theorem dX9_entry_66 : decode cX9_entry 66 = .ok (.getfield 79, 3) := by decide +kernel
theorem dX9_entry_69 : decode cX9_entry 69 = .ok (.iload_n 1, 1) := by decide +kernel
theorem dX9_entry_70 : decode cX9_entry 70 = .ok (.iaload, 1) := by decide +kernel
theorem dX9_entry_71 : decode cX9_entry 71 = .ok (.ireturn, 1) := by decide +kernel
theorem dX9_entry_72 : decode cX9_entry 72 = .ok (.iconst (-1), 1) := by decide +kernel
theorem dX9_entry_73 : decode cX9_entry 73 = .ok (.ireturn, 1) := by decide +kernel
theorem dX9_isKnowing_0 : decode cX9_isKnowing 0 = .ok (.iload_n 1, 1) := by decide +kernel
theorem dX9_isKnowing_1 : decode cX9_isKnowing 1 = .ok (.ifCond .lt 15, 3) := by decide +kernel
theorem dX9_isKnowing_4 : decode cX9_isKnowing 4 = .ok (.iload_n 1, 1) := by decide +kernel
theorem dX9_isKnowing_5 : decode cX9_isKnowing 5 = .ok (.aload_n 0, 1) := by decide +kernel
theorem dX9_isKnowing_6 : decode cX9_isKnowing 6 = .ok (.getfield 128, 3) := by decide +kernel
theorem dX9_isKnowing_9 : decode cX9_isKnowing 9 = .ok (.if_icmp .gt 7, 3) := by decide +kernel
theorem dX9_isKnowing_12 : decode cX9_isKnowing 12 = .ok (.iconst 1, 1) := by decide +kernel
theorem dX9_isKnowing_13 : decode cX9_isKnowing 13 = .ok (.goto 4, 3) := by decide +kernel
theorem dX9_isKnowing_16 : decode cX9_isKnowing 16 = .ok (.iconst 0, 1) := by decide +kernel
theorem dX9_isKnowing_17 : decode cX9_isKnowing 17 = .ok (.ireturn, 1) := by decide +kernel
theorem dX9_look_0 : decode cX9_look 0 = .ok (.aload_n 0, 1) := by decide +kernel
theorem dX9_look_1 : decode cX9_look 1 = .ok (.iload_n 1, 1) := by decide +kernel
theorem dX9_look_2 : decode cX9_look 2 = .ok (.invokevirtual 197, 3) := by decide +kernel
theorem dX9_look_5 : decode cX9_look 5 = .ok (.ifCond .eq 33, 3) := by decide +kernel
theorem dX9_look_8 : decode cX9_look 8 = .ok (.iload_n 2, 1) := by decide +kernel
theorem dX9_look_9 : decode cX9_look 9 = .ok (.ifCond .lt 29, 3) := by decide +kernel
theorem dX9_look_12 : decode cX9_look 12 = .ok (.iload_n 2, 1) := by decide +kernel
theorem dX9_look_13 : decode cX9_look 13 = .ok (.sipush 150, 3) := by decide +kernel
theorem dX9_look_16 : decode cX9_look 16 = .ok (.if_icmp .gt 22, 3) := by decide +kernel
theorem dX9_look_19 : decode cX9_look 19 = .ok (.aload_n 0, 1) := by decide +kernel
theorem dX9_look_20 : decode cX9_look 20 = .ok (.iload_n 3, 1) := by decide +kernel
theorem dX9_look_21 : decode cX9_look 21 = .ok (.invokevirtual 194, 3) := by decide +kernel
theorem dX9_look_24 : decode cX9_look 24 = .ok (.ifCond .eq 14, 3) := by decide +kernel
theorem dX9_look_27 : decode cX9_look 27 = .ok (.iload 4, 2) := by decide +kernel
theorem dX9_look_29 : decode cX9_look 29 = .ok (.ifCond .lt 9, 3) := by decide +kernel
theorem dX9_look_32 : decode cX9_look 32 = .ok (.iload 4, 2) := by decide +kernel
theorem dX9_look_34 : decode cX9_look 34 = .ok (.iconst 1, 1) := by decide +kernel
theorem dX9_look_35 : decode cX9_look 35 = .ok (.if_icmp .le 5, 3) := by decide +kernel
theorem dX9_look_38 : decode cX9_look 38 = .ok (.iconst (-1), 1) := by decide +kernel
theorem dX9_look_39 : decode cX9_look 39 = .ok (.ireturn, 1) := by decide +kernel
theorem dX9_look_40 : decode cX9_look 40 = .ok (.aload_n 0, 1) := by decide +kernel
theorem dX9_look_41 : decode cX9_look 41 = .ok (.iload_n 1, 1) := by decide +kernel
theorem dX9_look_42 : decode cX9_look 42 = .ok (.iload_n 3, 1) := by decide +kernel
theorem dX9_look_43 : decode cX9_look 43 = .ok (.iload_n 2, 1) := by decide +kernel
theorem dX9_look_44 : decode cX9_look 44 = .ok (.invokevirtual 190, 3) := by decide +kernel
theorem dX9_look_47 : decode cX9_look 47 = .ok (.pop, 1) := by decide +kernel
theorem dX9_look_48 : decode cX9_look 48 = .ok (.iload 4, 2) := by decide +kernel
theorem dX9_look_50 : decode cX9_look 50 = .ok (.iconst 1, 1) := by decide +kernel
theorem dX9_look_51 : decode cX9_look 51 = .ok (.if_icmp .ne 8, 3) := by decide +kernel
theorem dX9_look_54 : decode cX9_look 54 = .ok (.aload_n 0, 1) := by decide +kernel
theorem dX9_look_55 : decode cX9_look 55 = .ok (.getfield 181, 3) := by decide +kernel
theorem dX9_look_58 : decode cX9_look 58 = .ok (.ireturn, 1) := by decide +kernel
