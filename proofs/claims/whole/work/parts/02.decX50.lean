theorem dX5_init_0 : decode cX5_init 0 = .ok (.aload_n 0, 1) := by decide +kernel
theorem dX5_init_1 : decode cX5_init 1 = .ok (.invokespecial 3, 3) := by decide +kernel
theorem dX5_init_4 : decode cX5_init 4 = .ok (.aload_n 0, 1) := by decide +kernel
theorem dX5_init_5 : decode cX5_init 5 = .ok (.iconst 4, 1) := by decide +kernel
theorem dX5_init_6 : decode cX5_init 6 = .ok (.newarray .int, 2) := by decide +kernel
theorem dX5_init_8 : decode cX5_init 8 = .ok (.putfield 9, 3) := by decide +kernel
theorem dX5_init_11 : decode cX5_init 11 = .ok (.aload_n 0, 1) := by decide +kernel
theorem dX5_init_12 : decode cX5_init 12 = .ok (.iconst 4, 1) := by decide +kernel
theorem dX5_init_13 : decode cX5_init 13 = .ok (.newarray .int, 2) := by decide +kernel
theorem dX5_init_15 : decode cX5_init 15 = .ok (.putfield 15, 3) := by decide +kernel
theorem dX5_init_18 : decode cX5_init 18 = .ok (.aload_n 0, 1) := by decide +kernel
theorem dX5_init_19 : decode cX5_init 19 = .ok (.getfield 9, 3) := by decide +kernel
theorem dX5_init_22 : decode cX5_init 22 = .ok (.invokestatic 18, 3) := by decide +kernel
theorem dX5_init_25 : decode cX5_init 25 = .ok (.return_, 1) := by decide +kernel
theorem dX5_read_0 : decode cX5_read 0 = .ok (.aload_n 0, 1) := by decide +kernel
theorem dX5_read_1 : decode cX5_read 1 = .ok (.getfield 15, 3) := by decide +kernel
theorem dX5_read_4 : decode cX5_read 4 = .ok (.invokestatic 18, 3) := by decide +kernel
theorem dX5_read_7 : decode cX5_read 7 = .ok (.iconst 0, 1) := by decide +kernel
theorem dX5_read_8 : decode cX5_read 8 = .ok (.istore_n 3, 1) := by decide +kernel
theorem dX5_read_9 : decode cX5_read 9 = .ok (.iload_n 3, 1) := by decide +kernel
theorem dX5_read_10 : decode cX5_read 10 = .ok (.iload_n 2, 1) := by decide +kernel
theorem dX5_read_11 : decode cX5_read 11 = .ok (.if_icmp .ge 136, 3) := by decide +kernel
theorem dX5_read_14 : decode cX5_read 14 = .ok (.aload_n 1, 1) := by decide +kernel
theorem dX5_read_15 : decode cX5_read 15 = .ok (.getfield 22, 3) := by decide +kernel
theorem dX5_read_18 : decode cX5_read 18 = .ok (.iload_n 3, 1) := by decide +kernel
theorem dX5_read_19 : decode cX5_read 19 = .ok (.iaload, 1) := by decide +kernel
theorem dX5_read_20 : decode cX5_read 20 = .ok (.invokestatic 27, 3) := by decide +kernel
theorem dX5_read_23 : decode cX5_read 23 = .ok (.istore 4, 2) := by decide +kernel
theorem dX5_read_25 : decode cX5_read 25 = .ok (.iload 4, 2) := by decide +kernel
theorem dX5_read_27 : decode cX5_read 27 = .ok (.iconst (-1), 1) := by decide +kernel
theorem dX5_read_28 : decode cX5_read 28 = .ok (.if_icmp .ne 9, 3) := by decide +kernel
theorem dX5_read_31 : decode cX5_read 31 = .ok (.iconst 1, 1) := by decide +kernel
theorem dX5_read_32 : decode cX5_read 32 = .ok (.iload_n 3, 1) := by decide +kernel
theorem dX5_read_33 : decode cX5_read 33 = .ok (.invokestatic 31, 3) := by decide +kernel
theorem dX5_read_36 : decode cX5_read 36 = .ok (.ireturn, 1) := by decide +kernel
theorem dX5_read_37 : decode cX5_read 37 = .ok (.aload_n 1, 1) := by decide +kernel
theorem dX5_read_38 : decode cX5_read 38 = .ok (.iload_n 2, 1) := by decide +kernel
theorem dX5_read_39 : decode cX5_read 39 = .ok (.iload_n 3, 1) := by decide +kernel
theorem dX5_read_40 : decode cX5_read 40 = .ok (.iconst 1, 1) := by decide +kernel
theorem dX5_read_41 : decode cX5_read 41 = .ok (.iadd, 1) := by decide +kernel
theorem dX5_read_42 : decode cX5_read 42 = .ok (.invokestatic 35, 3) := by decide +kernel
theorem dX5_read_45 : decode cX5_read 45 = .ok (.istore 5, 2) := by decide +kernel
theorem dX5_read_47 : decode cX5_read 47 = .ok (.iload 5, 2) := by decide +kernel
theorem dX5_read_49 : decode cX5_read 49 = .ok (.iload_n 3, 1) := by decide +kernel
theorem dX5_read_50 : decode cX5_read 50 = .ok (.iconst 1, 1) := by decide +kernel
theorem dX5_read_51 : decode cX5_read 51 = .ok (.iadd, 1) := by decide +kernel
theorem dX5_read_52 : decode cX5_read 52 = .ok (.if_icmp .ne 10, 3) := by decide +kernel
theorem dX5_read_55 : decode cX5_read 55 = .ok (.iconst 2, 1) := by decide +kernel
theorem dX5_read_56 : decode cX5_read 56 = .ok (.iload 5, 2) := by decide +kernel
theorem dX5_read_58 : decode cX5_read 58 = .ok (.invokestatic 31, 3) := by decide +kernel
theorem dX5_read_61 : decode cX5_read 61 = .ok (.ireturn, 1) := by decide +kernel
theorem dX5_read_62 : decode cX5_read 62 = .ok (.aload_n 0, 1) := by decide +kernel
theorem dX5_read_63 : decode cX5_read 63 = .ok (.getfield 15, 3) := by decide +kernel
theorem dX5_read_66 : decode cX5_read 66 = .ok (.iload 4, 2) := by decide +kernel
theorem dX5_read_68 : decode cX5_read 68 = .ok (.aload_n 1, 1) := by decide +kernel
theorem dX5_read_69 : decode cX5_read 69 = .ok (.iload_n 3, 1) := by decide +kernel
theorem dX5_read_70 : decode cX5_read 70 = .ok (.iconst 1, 1) := by decide +kernel
theorem dX5_read_71 : decode cX5_read 71 = .ok (.iadd, 1) := by decide +kernel
theorem dX5_read_72 : decode cX5_read 72 = .ok (.iload 5, 2) := by decide +kernel
theorem dX5_read_74 : decode cX5_read 74 = .ok (.invokestatic 39, 3) := by decide +kernel
theorem dX5_read_77 : decode cX5_read 77 = .ok (.iastore, 1) := by decide +kernel
theorem dX5_read_78 : decode cX5_read 78 = .ok (.iload 5, 2) := by decide +kernel
theorem dX5_read_80 : decode cX5_read 80 = .ok (.iload_n 2, 1) := by decide +kernel
theorem dX5_read_81 : decode cX5_read 81 = .ok (.if_icmp .lt 19, 3) := by decide +kernel
theorem dX5_read_84 : decode cX5_read 84 = .ok (.aload_n 0, 1) := by decide +kernel
theorem dX5_read_85 : decode cX5_read 85 = .ok (.getfield 15, 3) := by decide +kernel
theorem dX5_read_88 : decode cX5_read 88 = .ok (.iconst 0, 1) := by decide +kernel
theorem dX5_read_89 : decode cX5_read 89 = .ok (.aload_n 0, 1) := by decide +kernel
theorem dX5_read_90 : decode cX5_read 90 = .ok (.getfield 9, 3) := by decide +kernel
theorem dX5_read_93 : decode cX5_read 93 = .ok (.iconst 0, 1) := by decide +kernel
theorem dX5_read_94 : decode cX5_read 94 = .ok (.iconst 4, 1) := by decide +kernel
theorem dX5_read_95 : decode cX5_read 95 = .ok (.invokestatic 42, 3) := by decide +kernel
theorem dX5_read_98 : decode cX5_read 98 = .ok (.iconst 0, 1) := by decide +kernel
theorem dX5_read_99 : decode cX5_read 99 = .ok (.ireturn, 1) := by decide +kernel
theorem dX5_read_100 : decode cX5_read 100 = .ok (.aload_n 1, 1) := by decide +kernel
theorem dX5_read_101 : decode cX5_read 101 = .ok (.getfield 22, 3) := by decide +kernel
theorem dX5_read_104 : decode cX5_read 104 = .ok (.iload 5, 2) := by decide +kernel
theorem dX5_read_106 : decode cX5_read 106 = .ok (.iaload, 1) := by decide +kernel
theorem dX5_read_107 : decode cX5_read 107 = .ok (.invokestatic 48, 3) := by decide +kernel
theorem dX5_read_110 : decode cX5_read 110 = .ok (.ifCond .eq 10, 3) := by decide +kernel
theorem dX5_read_113 : decode cX5_read 113 = .ok (.iconst 3, 1) := by decide +kernel
theorem dX5_read_114 : decode cX5_read 114 = .ok (.iload 5, 2) := by decide +kernel
theorem dX5_read_116 : decode cX5_read 116 = .ok (.invokestatic 31, 3) := by decide +kernel
theorem dX5_read_119 : decode cX5_read 119 = .ok (.ireturn, 1) := by decide +kernel
theorem dX5_read_120 : decode cX5_read 120 = .ok (.aload_n 1, 1) := by decide +kernel
theorem dX5_read_121 : decode cX5_read 121 = .ok (.getfield 22, 3) := by decide +kernel
theorem dX5_read_124 : decode cX5_read 124 = .ok (.iload 5, 2) := by decide +kernel
theorem dX5_read_126 : decode cX5_read 126 = .ok (.iaload, 1) := by decide +kernel
theorem dX5_read_127 : decode cX5_read 127 = .ok (.bipush 59, 2) := by decide +kernel
theorem dX5_read_129 : decode cX5_read 129 = .ok (.if_icmp .eq 10, 3) := by decide +kernel
theorem dX5_read_132 : decode cX5_read 132 = .ok (.iconst 4, 1) := by decide +kernel
theorem dX5_read_133 : decode cX5_read 133 = .ok (.iload 5, 2) := by decide +kernel
theorem dX5_read_135 : decode cX5_read 135 = .ok (.invokestatic 31, 3) := by decide +kernel
theorem dX5_read_138 : decode cX5_read 138 = .ok (.ireturn, 1) := by decide +kernel
theorem dX5_read_139 : decode cX5_read 139 = .ok (.iload 5, 2) := by decide +kernel
theorem dX5_read_141 : decode cX5_read 141 = .ok (.iconst 1, 1) := by decide +kernel
theorem dX5_read_142 : decode cX5_read 142 = .ok (.iadd, 1) := by decide +kernel
theorem dX5_read_143 : decode cX5_read 143 = .ok (.istore_n 3, 1) := by decide +kernel
theorem dX5_read_144 : decode cX5_read 144 = .ok (.goto (-135), 3) := by decide +kernel
theorem dX5_read_147 : decode cX5_read 147 = .ok (.iconst 1, 1) := by decide +kernel
theorem dX5_read_148 : decode cX5_read 148 = .ok (.iload_n 3, 1) := by decide +kernel
theorem dX5_read_149 : decode cX5_read 149 = .ok (.invokestatic 31, 3) := by decide +kernel
theorem dX5_read_152 : decode cX5_read 152 = .ok (.ireturn, 1) := by decide +kernel
theorem dX5_setFirst_0 : decode cX5_setFirst 0 = .ok (.aload_n 0, 1) := by decide +kernel
theorem dX5_setFirst_1 : decode cX5_setFirst 1 = .ok (.iconst 0, 1) := by decide +kernel
theorem dX5_setFirst_2 : decode cX5_setFirst 2 = .ok (.iconst 5, 1) := by decide +kernel
theorem dX5_setFirst_3 : decode cX5_setFirst 3 = .ok (.iastore, 1) := by decide +kernel
theorem dX5_setFirst_4 : decode cX5_setFirst 4 = .ok (.aload_n 0, 1) := by decide +kernel
theorem dX5_setFirst_5 : decode cX5_setFirst 5 = .ok (.iconst 1, 1) := by decide +kernel
theorem dX5_setFirst_6 : decode cX5_setFirst 6 = .ok (.sipush 500, 3) := by decide +kernel
theorem dX5_setFirst_9 : decode cX5_setFirst 9 = .ok (.iastore, 1) := by decide +kernel
theorem dX5_setFirst_10 : decode cX5_setFirst 10 = .ok (.aload_n 0, 1) := by decide +kernel
theorem dX5_setFirst_11 : decode cX5_setFirst 11 = .ok (.iconst 2, 1) := by decide +kernel
theorem dX5_setFirst_12 : decode cX5_setFirst 12 = .ok (.bipush 40, 2) := by decide +kernel
theorem dX5_setFirst_14 : decode cX5_setFirst 14 = .ok (.iastore, 1) := by decide +kernel
theorem dX5_setFirst_15 : decode cX5_setFirst 15 = .ok (.aload_n 0, 1) := by decide +kernel
theorem dX5_setFirst_16 : decode cX5_setFirst 16 = .ok (.iconst 3, 1) := by decide +kernel
theorem dX5_setFirst_17 : decode cX5_setFirst 17 = .ok (.bipush 90, 2) := by decide +kernel
theorem dX5_setFirst_19 : decode cX5_setFirst 19 = .ok (.iastore, 1) := by decide +kernel
theorem dX5_setFirst_20 : decode cX5_setFirst 20 = .ok (.return_, 1) := by decide +kernel
theorem dX5_fault_0 : decode cX5_fault 0 = .ok (.bipush 100, 2) := by decide +kernel
theorem dX5_fault_2 : decode cX5_fault 2 = .ok (.iload_n 0, 1) := by decide +kernel
theorem dX5_fault_3 : decode cX5_fault 3 = .ok (.imul, 1) := by decide +kernel
theorem dX5_fault_4 : decode cX5_fault 4 = .ok (.iload_n 1, 1) := by decide +kernel
theorem dX5_fault_5 : decode cX5_fault 5 = .ok (.iadd, 1) := by decide +kernel
theorem dX5_fault_6 : decode cX5_fault 6 = .ok (.ireturn, 1) := by decide +kernel
theorem dX5_letterOf_0 : decode cX5_letterOf 0 = .ok (.iload_n 0, 1) := by decide +kernel
theorem dX5_letterOf_1 : decode cX5_letterOf 1 = .ok (.lookupswitch 51 #[(108, 43), (109, 45), (118, 49), (119, 47)], 43) := by decide +kernel
theorem dX5_letterOf_44 : decode cX5_letterOf 44 = .ok (.iconst 0, 1) := by decide +kernel
theorem dX5_letterOf_45 : decode cX5_letterOf 45 = .ok (.ireturn, 1) := by decide +kernel
theorem dX5_letterOf_46 : decode cX5_letterOf 46 = .ok (.iconst 1, 1) := by decide +kernel
theorem dX5_letterOf_47 : decode cX5_letterOf 47 = .ok (.ireturn, 1) := by decide +kernel
theorem dX5_letterOf_48 : decode cX5_letterOf 48 = .ok (.iconst 2, 1) := by decide +kernel
theorem dX5_letterOf_49 : decode cX5_letterOf 49 = .ok (.ireturn, 1) := by decide +kernel
theorem dX5_letterOf_50 : decode cX5_letterOf 50 = .ok (.iconst 3, 1) := by decide +kernel
theorem dX5_letterOf_51 : decode cX5_letterOf 51 = .ok (.ireturn, 1) := by decide +kernel
theorem dX5_letterOf_52 : decode cX5_letterOf 52 = .ok (.iconst (-1), 1) := by decide +kernel
theorem dX5_letterOf_53 : decode cX5_letterOf 53 = .ok (.ireturn, 1) := by decide +kernel
theorem dX5_isDigit_0 : decode cX5_isDigit 0 = .ok (.iload_n 0, 1) := by decide +kernel
theorem dX5_isDigit_1 : decode cX5_isDigit 1 = .ok (.bipush 48, 2) := by decide +kernel
theorem dX5_isDigit_3 : decode cX5_isDigit 3 = .ok (.bipush 57, 2) := by decide +kernel
theorem dX5_isDigit_5 : decode cX5_isDigit 5 = .ok (.invokestatic 52, 3) := by decide +kernel
theorem dX5_isDigit_8 : decode cX5_isDigit 8 = .ok (.ireturn, 1) := by decide +kernel
theorem dX5_digitsEnd_0 : decode cX5_digitsEnd 0 = .ok (.iload_n 1, 1) := by decide +kernel
theorem dX5_digitsEnd_1 : decode cX5_digitsEnd 1 = .ok (.iload_n 2, 1) := by decide +kernel
theorem dX5_digitsEnd_2 : decode cX5_digitsEnd 2 = .ok (.iconst 4, 1) := by decide +kernel
theorem dX5_digitsEnd_3 : decode cX5_digitsEnd 3 = .ok (.iadd, 1) := by decide +kernel
theorem dX5_digitsEnd_4 : decode cX5_digitsEnd 4 = .ok (.invokestatic 56, 3) := by decide +kernel
theorem dX5_digitsEnd_7 : decode cX5_digitsEnd 7 = .ok (.istore_n 3, 1) := by decide +kernel
theorem dX5_digitsEnd_8 : decode cX5_digitsEnd 8 = .ok (.iload_n 2, 1) := by decide +kernel
theorem dX5_digitsEnd_9 : decode cX5_digitsEnd 9 = .ok (.istore 4, 2) := by decide +kernel
theorem dX5_digitsEnd_11 : decode cX5_digitsEnd 11 = .ok (.iload 4, 2) := by decide +kernel
theorem dX5_digitsEnd_13 : decode cX5_digitsEnd 13 = .ok (.iload_n 3, 1) := by decide +kernel
theorem dX5_digitsEnd_14 : decode cX5_digitsEnd 14 = .ok (.if_icmp .ge 22, 3) := by decide +kernel
theorem dX5_digitsEnd_17 : decode cX5_digitsEnd 17 = .ok (.aload_n 0, 1) := by decide +kernel
theorem dX5_digitsEnd_18 : decode cX5_digitsEnd 18 = .ok (.getfield 22, 3) := by decide +kernel
theorem dX5_digitsEnd_21 : decode cX5_digitsEnd 21 = .ok (.iload 4, 2) := by decide +kernel
theorem dX5_digitsEnd_23 : decode cX5_digitsEnd 23 = .ok (.iaload, 1) := by decide +kernel
theorem dX5_digitsEnd_24 : decode cX5_digitsEnd 24 = .ok (.invokestatic 48, 3) := by decide +kernel
theorem dX5_digitsEnd_27 : decode cX5_digitsEnd 27 = .ok (.ifCond .eq 9, 3) := by decide +kernel
theorem dX5_digitsEnd_30 : decode cX5_digitsEnd 30 = .ok (.iinc 4 1, 3) := by decide +kernel
theorem dX5_digitsEnd_33 : decode cX5_digitsEnd 33 = .ok (.goto (-22), 3) := by decide +kernel
theorem dX5_digitsEnd_36 : decode cX5_digitsEnd 36 = .ok (.iload 4, 2) := by decide +kernel
theorem dX5_digitsEnd_38 : decode cX5_digitsEnd 38 = .ok (.ireturn, 1) := by decide +kernel
theorem dX5_numberAt_0 : decode cX5_numberAt 0 = .ok (.iconst 0, 1) := by decide +kernel
theorem dX5_numberAt_1 : decode cX5_numberAt 1 = .ok (.istore_n 3, 1) := by decide +kernel
theorem dX5_numberAt_2 : decode cX5_numberAt 2 = .ok (.iload_n 1, 1) := by decide +kernel
theorem dX5_numberAt_3 : decode cX5_numberAt 3 = .ok (.istore 4, 2) := by decide +kernel
theorem dX5_numberAt_5 : decode cX5_numberAt 5 = .ok (.iload 4, 2) := by decide +kernel
theorem dX5_numberAt_7 : decode cX5_numberAt 7 = .ok (.iload_n 2, 1) := by decide +kernel
theorem dX5_numberAt_8 : decode cX5_numberAt 8 = .ok (.if_icmp .ge 25, 3) := by decide +kernel
theorem dX5_numberAt_11 : decode cX5_numberAt 11 = .ok (.bipush 10, 2) := by decide +kernel
theorem dX5_numberAt_13 : decode cX5_numberAt 13 = .ok (.iload_n 3, 1) := by decide +kernel
theorem dX5_numberAt_14 : decode cX5_numberAt 14 = .ok (.imul, 1) := by decide +kernel
theorem dX5_numberAt_15 : decode cX5_numberAt 15 = .ok (.aload_n 0, 1) := by decide +kernel
theorem dX5_numberAt_16 : decode cX5_numberAt 16 = .ok (.getfield 22, 3) := by decide +kernel
theorem dX5_numberAt_19 : decode cX5_numberAt 19 = .ok (.iload 4, 2) := by decide +kernel
theorem dX5_numberAt_21 : decode cX5_numberAt 21 = .ok (.iaload, 1) := by decide +kernel
theorem dX5_numberAt_22 : decode cX5_numberAt 22 = .ok (.iadd, 1) := by decide +kernel
theorem dX5_numberAt_23 : decode cX5_numberAt 23 = .ok (.bipush 48, 2) := by decide +kernel
theorem dX5_numberAt_25 : decode cX5_numberAt 25 = .ok (.isub, 1) := by decide +kernel
theorem dX5_numberAt_26 : decode cX5_numberAt 26 = .ok (.istore_n 3, 1) := by decide +kernel
theorem dX5_numberAt_27 : decode cX5_numberAt 27 = .ok (.iinc 4 1, 3) := by decide +kernel
theorem dX5_numberAt_30 : decode cX5_numberAt 30 = .ok (.goto (-25), 3) := by decide +kernel
theorem dX5_numberAt_33 : decode cX5_numberAt 33 = .ok (.iload_n 3, 1) := by decide +kernel
theorem dX5_numberAt_34 : decode cX5_numberAt 34 = .ok (.ireturn, 1) := by decide +kernel
