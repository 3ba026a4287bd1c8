theorem dX9_herd_26 : decode cX9_herd 26 = .ok (.iload_n 2, 1) := by decide +kernel
theorem dX9_herd_27 : decode cX9_herd 27 = .ok (.aload_n 0, 1) := by decide +kernel
theorem dX9_herd_28 : decode cX9_herd 28 = .ok (.getfield 181, 3) := by decide +kernel
theorem dX9_herd_31 : decode cX9_herd 31 = .ok (.iload_n 1, 1) := by decide +kernel
theorem dX9_herd_32 : decode cX9_herd 32 = .ok (.if_icmp .ne 14, 3) := by decide +kernel
theorem dX9_herd_35 : decode cX9_herd 35 = .ok (.aload_n 0, 1) := by decide +kernel
theorem dX9_herd_36 : decode cX9_herd 36 = .ok (.getfield 178, 3) := by decide +kernel
theorem dX9_herd_39 : decode cX9_herd 39 = .ok (.ifCond .ne 7, 3) := by decide +kernel
theorem dX9_herd_42 : decode cX9_herd 42 = .ok (.iconst 1, 1) := by decide +kernel
theorem dX9_herd_43 : decode cX9_herd 43 = .ok (.goto 4, 3) := by decide +kernel
theorem dX9_herd_46 : decode cX9_herd 46 = .ok (.iconst 0, 1) := by decide +kernel
theorem dX9_herd_47 : decode cX9_herd 47 = .ok (.iadd, 1) := by decide +kernel
theorem dX9_herd_48 : decode cX9_herd 48 = .ok (.istore_n 2, 1) := by decide +kernel
theorem dX9_herd_49 : decode cX9_herd 49 = .ok (.iinc 3 1, 3) := by decide +kernel
theorem dX9_herd_52 : decode cX9_herd 52 = .ok (.goto (-48), 3) := by decide +kernel
theorem dX9_herd_55 : decode cX9_herd 55 = .ok (.iload_n 2, 1) := by decide +kernel
theorem dX9_herd_56 : decode cX9_herd 56 = .ok (.ireturn, 1) := by decide +kernel
theorem dX9_told_0 : decode cX9_told 0 = .ok (.iload_n 1, 1) := by decide +kernel
theorem dX9_told_1 : decode cX9_told 1 = .ok (.ifCond .lt 9, 3) := by decide +kernel
theorem dX9_told_4 : decode cX9_told 4 = .ok (.iload_n 1, 1) := by decide +kernel
theorem dX9_told_5 : decode cX9_told 5 = .ok (.bipush 12, 2) := by decide +kernel
theorem dX9_told_7 : decode cX9_told 7 = .ok (.if_icmp .lt 7, 3) := by decide +kernel
theorem dX9_told_10 : decode cX9_told 10 = .ok (.ldc2_w 234, 3) := by decide +kernel
theorem dX9_told_13 : decode cX9_told 13 = .ok (.lreturn, 1) := by decide +kernel
theorem dX9_told_14 : decode cX9_told 14 = .ok (.iload_n 2, 1) := by decide +kernel
theorem dX9_told_15 : decode cX9_told 15 = .ok (.tableswitch 96 0 5 #[37, 44, 52, 60, 67, 74], 37) := by decide +kernel
theorem dX9_told_52 : decode cX9_told 52 = .ok (.aload_n 0, 1) := by decide +kernel
theorem dX9_told_53 : decode cX9_told 53 = .ok (.iload_n 1, 1) := by decide +kernel
theorem dX9_told_54 : decode cX9_told 54 = .ok (.invokevirtual 236, 3) := by decide +kernel
theorem dX9_told_57 : decode cX9_told 57 = .ok (.i2l, 1) := by decide +kernel
theorem dX9_told_58 : decode cX9_told 58 = .ok (.lreturn, 1) := by decide +kernel
theorem dX9_told_59 : decode cX9_told 59 = .ok (.aload_n 0, 1) := by decide +kernel
theorem dX9_told_60 : decode cX9_told 60 = .ok (.getfield 91, 3) := by decide +kernel
theorem dX9_told_63 : decode cX9_told 63 = .ok (.iload_n 1, 1) := by decide +kernel
theorem dX9_told_64 : decode cX9_told 64 = .ok (.iaload, 1) := by decide +kernel
theorem dX9_told_65 : decode cX9_told 65 = .ok (.i2l, 1) := by decide +kernel
theorem dX9_told_66 : decode cX9_told 66 = .ok (.lreturn, 1) := by decide +kernel
theorem dX9_told_67 : decode cX9_told 67 = .ok (.aload_n 0, 1) := by decide +kernel
theorem dX9_told_68 : decode cX9_told 68 = .ok (.getfield 94, 3) := by decide +kernel
theorem dX9_told_71 : decode cX9_told 71 = .ok (.iload_n 1, 1) := by decide +kernel
theorem dX9_told_72 : decode cX9_told 72 = .ok (.iaload, 1) := by decide +kernel
theorem dX9_told_73 : decode cX9_told 73 = .ok (.i2l, 1) := by decide +kernel
theorem dX9_told_74 : decode cX9_told 74 = .ok (.lreturn, 1) := by decide +kernel
theorem dX9_told_75 : decode cX9_told 75 = .ok (.aload_n 0, 1) := by decide +kernel
theorem dX9_told_76 : decode cX9_told 76 = .ok (.getfield 97, 3) := by decide +kernel
theorem dX9_told_79 : decode cX9_told 79 = .ok (.iload_n 1, 1) := by decide +kernel
theorem dX9_told_80 : decode cX9_told 80 = .ok (.laload, 1) := by decide +kernel
theorem dX9_told_81 : decode cX9_told 81 = .ok (.lreturn, 1) := by decide +kernel
theorem dX9_told_82 : decode cX9_told 82 = .ok (.aload_n 0, 1) := by decide +kernel
theorem dX9_told_83 : decode cX9_told 83 = .ok (.getfield 101, 3) := by decide +kernel
theorem dX9_told_86 : decode cX9_told 86 = .ok (.iload_n 1, 1) := by decide +kernel
theorem dX9_told_87 : decode cX9_told 87 = .ok (.laload, 1) := by decide +kernel
theorem dX9_told_88 : decode cX9_told 88 = .ok (.lreturn, 1) := by decide +kernel
theorem dX9_told_89 : decode cX9_told 89 = .ok (.iconst 0, 1) := by decide +kernel
theorem dX9_told_90 : decode cX9_told 90 = .ok (.istore_n 3, 1) := by decide +kernel
theorem dX9_told_91 : decode cX9_told 91 = .ok (.aload_n 0, 1) := by decide +kernel
theorem dX9_told_92 : decode cX9_told 92 = .ok (.getfield 88, 3) := by decide +kernel
theorem dX9_told_95 : decode cX9_told 95 = .ok (.iload_n 3, 1) := by decide +kernel
theorem dX9_told_96 : decode cX9_told 96 = .ok (.iaload, 1) := by decide +kernel
theorem dX9_told_97 : decode cX9_told 97 = .ok (.iload_n 1, 1) := by decide +kernel
theorem dX9_told_98 : decode cX9_told 98 = .ok (.if_icmp .eq 10, 3) := by decide +kernel
theorem dX9_told_101 : decode cX9_told 101 = .ok (.iload_n 3, 1) := by decide +kernel
theorem dX9_told_102 : decode cX9_told 102 = .ok (.iconst 1, 1) := by decide +kernel
theorem dX9_told_103 : decode cX9_told 103 = .ok (.iadd, 1) := by decide +kernel
theorem dX9_told_104 : decode cX9_told 104 = .ok (.istore_n 3, 1) := by decide +kernel
theorem dX9_told_105 : decode cX9_told 105 = .ok (.goto (-14), 3) := by decide +kernel
theorem dX9_told_108 : decode cX9_told 108 = .ok (.iload_n 3, 1) := by decide +kernel
theorem dX9_told_109 : decode cX9_told 109 = .ok (.i2l, 1) := by decide +kernel
theorem dX9_told_110 : decode cX9_told 110 = .ok (.lreturn, 1) := by decide +kernel
theorem dX9_told_111 : decode cX9_told 111 = .ok (.ldc2_w 234, 3) := by decide +kernel
theorem dX9_told_114 : decode cX9_told 114 = .ok (.lreturn, 1) := by decide +kernel
theorem dX9_count_0 : decode cX9_count 0 = .ok (.iload_n 1, 1) := by decide +kernel
theorem dX9_count_1 : decode cX9_count 1 = .ok (.tableswitch 166 0 13 #[71, 77, 83, 89, 95, 101, 107, 113, 123, 129, 144, 150, 155, 161], 71) := by decide +kernel
theorem dX9_count_72 : decode cX9_count 72 = .ok (.aload_n 0, 1) := by decide +kernel
theorem dX9_count_73 : decode cX9_count 73 = .ok (.getfield 36, 3) := by decide +kernel
theorem dX9_count_76 : decode cX9_count 76 = .ok (.i2l, 1) := by decide +kernel
theorem dX9_count_77 : decode cX9_count 77 = .ok (.lreturn, 1) := by decide +kernel
theorem dX9_count_78 : decode cX9_count 78 = .ok (.aload_n 0, 1) := by decide +kernel
theorem dX9_count_79 : decode cX9_count 79 = .ok (.getfield 125, 3) := by decide +kernel
theorem dX9_count_82 : decode cX9_count 82 = .ok (.i2l, 1) := by decide +kernel
theorem dX9_count_83 : decode cX9_count 83 = .ok (.lreturn, 1) := by decide +kernel
theorem dX9_count_84 : decode cX9_count 84 = .ok (.aload_n 0, 1) := by decide +kernel
theorem dX9_count_85 : decode cX9_count 85 = .ok (.getfield 30, 3) := by decide +kernel
theorem dX9_count_88 : decode cX9_count 88 = .ok (.i2l, 1) := by decide +kernel
theorem dX9_count_89 : decode cX9_count 89 = .ok (.lreturn, 1) := by decide +kernel
theorem dX9_count_90 : decode cX9_count 90 = .ok (.aload_n 0, 1) := by decide +kernel
theorem dX9_count_91 : decode cX9_count 91 = .ok (.getfield 33, 3) := by decide +kernel
theorem dX9_count_94 : decode cX9_count 94 = .ok (.i2l, 1) := by decide +kernel
theorem dX9_count_95 : decode cX9_count 95 = .ok (.lreturn, 1) := by decide +kernel
theorem dX9_count_96 : decode cX9_count 96 = .ok (.aload_n 0, 1) := by decide +kernel
theorem dX9_count_97 : decode cX9_count 97 = .ok (.getfield 136, 3) := by decide +kernel
theorem dX9_count_100 : decode cX9_count 100 = .ok (.i2l, 1) := by decide +kernel
theorem dX9_count_101 : decode cX9_count 101 = .ok (.lreturn, 1) := by decide +kernel
theorem dX9_count_102 : decode cX9_count 102 = .ok (.aload_n 0, 1) := by decide +kernel
theorem dX9_count_103 : decode cX9_count 103 = .ok (.getfield 149, 3) := by decide +kernel
theorem dX9_count_106 : decode cX9_count 106 = .ok (.i2l, 1) := by decide +kernel
theorem dX9_count_107 : decode cX9_count 107 = .ok (.lreturn, 1) := by decide +kernel
theorem dX9_count_108 : decode cX9_count 108 = .ok (.aload_n 0, 1) := by decide +kernel
theorem dX9_count_109 : decode cX9_count 109 = .ok (.getfield 171, 3) := by decide +kernel
theorem dX9_count_112 : decode cX9_count 112 = .ok (.i2l, 1) := by decide +kernel
theorem dX9_count_113 : decode cX9_count 113 = .ok (.lreturn, 1) := by decide +kernel
theorem dX9_count_114 : decode cX9_count 114 = .ok (.aload_n 0, 1) := by decide +kernel
theorem dX9_count_115 : decode cX9_count 115 = .ok (.aload_n 0, 1) := by decide +kernel
theorem dX9_count_116 : decode cX9_count 116 = .ok (.getfield 125, 3) := by decide +kernel
theorem dX9_count_119 : decode cX9_count 119 = .ok (.invokevirtual 142, 3) := by decide +kernel
theorem dX9_count_122 : decode cX9_count 122 = .ok (.i2l, 1) := by decide +kernel
theorem dX9_count_123 : decode cX9_count 123 = .ok (.lreturn, 1) := by decide +kernel
theorem dX9_count_124 : decode cX9_count 124 = .ok (.aload_n 0, 1) := by decide +kernel
theorem dX9_count_125 : decode cX9_count 125 = .ok (.getfield 128, 3) := by decide +kernel
theorem dX9_count_128 : decode cX9_count 128 = .ok (.i2l, 1) := by decide +kernel
theorem dX9_count_129 : decode cX9_count 129 = .ok (.lreturn, 1) := by decide +kernel
theorem dX9_count_130 : decode cX9_count 130 = .ok (.aload_n 0, 1) := by decide +kernel
theorem dX9_count_131 : decode cX9_count 131 = .ok (.getfield 136, 3) := by decide +kernel
theorem dX9_count_134 : decode cX9_count 134 = .ok (.bipush 20, 2) := by decide +kernel
theorem dX9_count_136 : decode cX9_count 136 = .ok (.if_icmp .gt 7, 3) := by decide +kernel
theorem dX9_count_139 : decode cX9_count 139 = .ok (.lconst 1, 1) := by decide +kernel
theorem dX9_count_140 : decode cX9_count 140 = .ok (.goto 4, 3) := by decide +kernel
theorem dX9_count_143 : decode cX9_count 143 = .ok (.lconst 0, 1) := by decide +kernel
theorem dX9_count_144 : decode cX9_count 144 = .ok (.lreturn, 1) := by decide +kernel
theorem dX9_count_145 : decode cX9_count 145 = .ok (.aload_n 0, 1) := by decide +kernel
theorem dX9_count_146 : decode cX9_count 146 = .ok (.getfield 57, 3) := by decide +kernel
theorem dX9_count_149 : decode cX9_count 149 = .ok (.i2l, 1) := by decide +kernel
theorem dX9_count_150 : decode cX9_count 150 = .ok (.lreturn, 1) := by decide +kernel
theorem dX9_count_151 : decode cX9_count 151 = .ok (.aload_n 0, 1) := by decide +kernel
theorem dX9_count_152 : decode cX9_count 152 = .ok (.getfield 231, 3) := by decide +kernel
theorem dX9_count_155 : decode cX9_count 155 = .ok (.lreturn, 1) := by decide +kernel
theorem dX9_count_156 : decode cX9_count 156 = .ok (.aload_n 0, 1) := by decide +kernel
theorem dX9_count_157 : decode cX9_count 157 = .ok (.getfield 104, 3) := by decide +kernel
theorem dX9_count_160 : decode cX9_count 160 = .ok (.i2l, 1) := by decide +kernel
theorem dX9_count_161 : decode cX9_count 161 = .ok (.lreturn, 1) := by decide +kernel
theorem dX9_count_162 : decode cX9_count 162 = .ok (.aload_n 0, 1) := by decide +kernel
theorem dX9_count_163 : decode cX9_count 163 = .ok (.getfield 152, 3) := by decide +kernel
theorem dX9_count_166 : decode cX9_count 166 = .ok (.lreturn, 1) := by decide +kernel
theorem dX9_count_167 : decode cX9_count 167 = .ok (.ldc2_w 234, 3) := by decide +kernel
theorem dX9_count_170 : decode cX9_count 170 = .ok (.lreturn, 1) := by decide +kernel
