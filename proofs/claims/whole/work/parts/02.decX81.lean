theorem dX8_entry_90 : decode cX8_entry 90 = .ok (.iaload, 1) := by decide +kernel
theorem dX8_entry_91 : decode cX8_entry 91 = .ok (.ireturn, 1) := by decide +kernel
theorem dX8_entry_92 : decode cX8_entry 92 = .ok (.iconst (-1), 1) := by decide +kernel
theorem dX8_entry_93 : decode cX8_entry 93 = .ok (.ireturn, 1) := by decide +kernel
theorem dX8_rule_0 : decode cX8_rule 0 = .ok (.iload_n 1, 1) := by decide +kernel
theorem dX8_rule_1 : decode cX8_rule 1 = .ok (.iconst 0, 1) := by decide +kernel
theorem dX8_rule_2 : decode cX8_rule 2 = .ok (.iconst 3, 1) := by decide +kernel
theorem dX8_rule_3 : decode cX8_rule 3 = .ok (.invokestatic 79, 3) := by decide +kernel
theorem dX8_rule_6 : decode cX8_rule 6 = .ok (.ifCond .eq 15, 3) := by decide +kernel
theorem dX8_rule_9 : decode cX8_rule 9 = .ok (.aload_n 0, 1) := by decide +kernel
theorem dX8_rule_10 : decode cX8_rule 10 = .ok (.getfield 19, 3) := by decide +kernel
theorem dX8_rule_13 : decode cX8_rule 13 = .ok (.getfield 154, 3) := by decide +kernel
theorem dX8_rule_16 : decode cX8_rule 16 = .ok (.iload_n 1, 1) := by decide +kernel
theorem dX8_rule_17 : decode cX8_rule 17 = .ok (.iaload, 1) := by decide +kernel
theorem dX8_rule_18 : decode cX8_rule 18 = .ok (.goto 4, 3) := by decide +kernel
theorem dX8_rule_21 : decode cX8_rule 21 = .ok (.iconst (-1), 1) := by decide +kernel
theorem dX8_rule_22 : decode cX8_rule 22 = .ok (.ireturn, 1) := by decide +kernel
theorem dX8_count_0 : decode cX8_count 0 = .ok (.iload_n 1, 1) := by decide +kernel
theorem dX8_count_1 : decode cX8_count 1 = .ok (.tableswitch 200 0 13 #[71, 77, 83, 92, 101, 110, 119, 128, 141, 150, 166, 175, 183, 192], 71) := by decide +kernel
theorem dX8_count_72 : decode cX8_count 72 = .ok (.aload_n 0, 1) := by decide +kernel
theorem dX8_count_73 : decode cX8_count 73 = .ok (.getfield 65, 3) := by decide +kernel
theorem dX8_count_76 : decode cX8_count 76 = .ok (.i2l, 1) := by decide +kernel
theorem dX8_count_77 : decode cX8_count 77 = .ok (.lreturn, 1) := by decide +kernel
theorem dX8_count_78 : decode cX8_count 78 = .ok (.aload_n 0, 1) := by decide +kernel
theorem dX8_count_79 : decode cX8_count 79 = .ok (.getfield 69, 3) := by decide +kernel
theorem dX8_count_82 : decode cX8_count 82 = .ok (.i2l, 1) := by decide +kernel
theorem dX8_count_83 : decode cX8_count 83 = .ok (.lreturn, 1) := by decide +kernel
theorem dX8_count_84 : decode cX8_count 84 = .ok (.aload_n 0, 1) := by decide +kernel
theorem dX8_count_85 : decode cX8_count 85 = .ok (.getfield 26, 3) := by decide +kernel
theorem dX8_count_88 : decode cX8_count 88 = .ok (.getfield 237, 3) := by decide +kernel
theorem dX8_count_91 : decode cX8_count 91 = .ok (.i2l, 1) := by decide +kernel
theorem dX8_count_92 : decode cX8_count 92 = .ok (.lreturn, 1) := by decide +kernel
theorem dX8_count_93 : decode cX8_count 93 = .ok (.aload_n 0, 1) := by decide +kernel
theorem dX8_count_94 : decode cX8_count 94 = .ok (.getfield 26, 3) := by decide +kernel
theorem dX8_count_97 : decode cX8_count 97 = .ok (.getfield 87, 3) := by decide +kernel
theorem dX8_count_100 : decode cX8_count 100 = .ok (.i2l, 1) := by decide +kernel
theorem dX8_count_101 : decode cX8_count 101 = .ok (.lreturn, 1) := by decide +kernel
theorem dX8_count_102 : decode cX8_count 102 = .ok (.aload_n 0, 1) := by decide +kernel
theorem dX8_count_103 : decode cX8_count 103 = .ok (.getfield 26, 3) := by decide +kernel
theorem dX8_count_106 : decode cX8_count 106 = .ok (.getfield 240, 3) := by decide +kernel
theorem dX8_count_109 : decode cX8_count 109 = .ok (.i2l, 1) := by decide +kernel
theorem dX8_count_110 : decode cX8_count 110 = .ok (.lreturn, 1) := by decide +kernel
theorem dX8_count_111 : decode cX8_count 111 = .ok (.aload_n 0, 1) := by decide +kernel
theorem dX8_count_112 : decode cX8_count 112 = .ok (.getfield 26, 3) := by decide +kernel
theorem dX8_count_115 : decode cX8_count 115 = .ok (.getfield 243, 3) := by decide +kernel
theorem dX8_count_118 : decode cX8_count 118 = .ok (.i2l, 1) := by decide +kernel
theorem dX8_count_119 : decode cX8_count 119 = .ok (.lreturn, 1) := by decide +kernel
theorem dX8_count_120 : decode cX8_count 120 = .ok (.aload_n 0, 1) := by decide +kernel
theorem dX8_count_121 : decode cX8_count 121 = .ok (.getfield 40, 3) := by decide +kernel
theorem dX8_count_124 : decode cX8_count 124 = .ok (.getfield 114, 3) := by decide +kernel
theorem dX8_count_127 : decode cX8_count 127 = .ok (.i2l, 1) := by decide +kernel
theorem dX8_count_128 : decode cX8_count 128 = .ok (.lreturn, 1) := by decide +kernel
theorem dX8_count_129 : decode cX8_count 129 = .ok (.aload_n 0, 1) := by decide +kernel
theorem dX8_count_130 : decode cX8_count 130 = .ok (.getfield 40, 3) := by decide +kernel
theorem dX8_count_133 : decode cX8_count 133 = .ok (.aload_n 0, 1) := by decide +kernel
theorem dX8_count_134 : decode cX8_count 134 = .ok (.getfield 69, 3) := by decide +kernel
theorem dX8_count_137 : decode cX8_count 137 = .ok (.invokevirtual 125, 3) := by decide +kernel
theorem dX8_count_140 : decode cX8_count 140 = .ok (.i2l, 1) := by decide +kernel
theorem dX8_count_141 : decode cX8_count 141 = .ok (.lreturn, 1) := by decide +kernel
theorem dX8_count_142 : decode cX8_count 142 = .ok (.aload_n 0, 1) := by decide +kernel
theorem dX8_count_143 : decode cX8_count 143 = .ok (.getfield 40, 3) := by decide +kernel
theorem dX8_count_146 : decode cX8_count 146 = .ok (.getfield 90, 3) := by decide +kernel
theorem dX8_count_149 : decode cX8_count 149 = .ok (.i2l, 1) := by decide +kernel
theorem dX8_count_150 : decode cX8_count 150 = .ok (.lreturn, 1) := by decide +kernel
theorem dX8_count_151 : decode cX8_count 151 = .ok (.aload_n 0, 1) := by decide +kernel
theorem dX8_count_152 : decode cX8_count 152 = .ok (.getfield 26, 3) := by decide +kernel
theorem dX8_count_155 : decode cX8_count 155 = .ok (.invokevirtual 246, 3) := by decide +kernel
theorem dX8_count_158 : decode cX8_count 158 = .ok (.ifCond .eq 7, 3) := by decide +kernel
theorem dX8_count_161 : decode cX8_count 161 = .ok (.lconst 1, 1) := by decide +kernel
theorem dX8_count_162 : decode cX8_count 162 = .ok (.goto 4, 3) := by decide +kernel
theorem dX8_count_165 : decode cX8_count 165 = .ok (.lconst 0, 1) := by decide +kernel
theorem dX8_count_166 : decode cX8_count 166 = .ok (.lreturn, 1) := by decide +kernel
theorem dX8_count_167 : decode cX8_count 167 = .ok (.aload_n 0, 1) := by decide +kernel
theorem dX8_count_168 : decode cX8_count 168 = .ok (.getfield 54, 3) := by decide +kernel
theorem dX8_count_171 : decode cX8_count 171 = .ok (.getfield 137, 3) := by decide +kernel
theorem dX8_count_174 : decode cX8_count 174 = .ok (.i2l, 1) := by decide +kernel
theorem dX8_count_175 : decode cX8_count 175 = .ok (.lreturn, 1) := by decide +kernel
theorem dX8_count_176 : decode cX8_count 176 = .ok (.aload_n 0, 1) := by decide +kernel
theorem dX8_count_177 : decode cX8_count 177 = .ok (.getfield 61, 3) := by decide +kernel
theorem dX8_count_180 : decode cX8_count 180 = .ok (.getfield 250, 3) := by decide +kernel
theorem dX8_count_183 : decode cX8_count 183 = .ok (.lreturn, 1) := by decide +kernel
theorem dX8_count_184 : decode cX8_count 184 = .ok (.aload_n 0, 1) := by decide +kernel
theorem dX8_count_185 : decode cX8_count 185 = .ok (.getfield 10, 3) := by decide +kernel
theorem dX8_count_188 : decode cX8_count 188 = .ok (.getfield 72, 3) := by decide +kernel
theorem dX8_count_191 : decode cX8_count 191 = .ok (.i2l, 1) := by decide +kernel
theorem dX8_count_192 : decode cX8_count 192 = .ok (.lreturn, 1) := by decide +kernel
theorem dX8_count_193 : decode cX8_count 193 = .ok (.aload_n 0, 1) := by decide +kernel
theorem dX8_count_194 : decode cX8_count 194 = .ok (.getfield 26, 3) := by decide +kernel
theorem dX8_count_197 : decode cX8_count 197 = .ok (.getfield 254, 3) := by decide +kernel
theorem dX8_count_200 : decode cX8_count 200 = .ok (.lreturn, 1) := by decide +kernel
theorem dX8_count_201 : decode cX8_count 201 = .ok (.ldc2_w 207, 3) := by decide +kernel
theorem dX8_count_204 : decode cX8_count 204 = .ok (.lreturn, 1) := by decide +kernel
theorem dX8_beginNextYear_0 : decode cX8_beginNextYear 0 = .ok (.aload_n 0, 1) := by decide +kernel
theorem dX8_beginNextYear_1 : decode cX8_beginNextYear 1 = .ok (.getfield 40, 3) := by decide +kernel
theorem dX8_beginNextYear_4 : decode cX8_beginNextYear 4 = .ok (.aload_n 0, 1) := by decide +kernel
theorem dX8_beginNextYear_5 : decode cX8_beginNextYear 5 = .ok (.getfield 69, 3) := by decide +kernel
theorem dX8_beginNextYear_8 : decode cX8_beginNextYear 8 = .ok (.aload_n 0, 1) := by decide +kernel
theorem dX8_beginNextYear_9 : decode cX8_beginNextYear 9 = .ok (.getfield 47, 3) := by decide +kernel
theorem dX8_beginNextYear_12 : decode cX8_beginNextYear 12 = .ok (.invokevirtual 257, 3) := by decide +kernel
theorem dX8_beginNextYear_15 : decode cX8_beginNextYear 15 = .ok (.aload_n 0, 1) := by decide +kernel
theorem dX8_beginNextYear_16 : decode cX8_beginNextYear 16 = .ok (.getfield 54, 3) := by decide +kernel
theorem dX8_beginNextYear_19 : decode cX8_beginNextYear 19 = .ok (.invokevirtual 261, 3) := by decide +kernel
theorem dX8_beginNextYear_22 : decode cX8_beginNextYear 22 = .ok (.aload_n 0, 1) := by decide +kernel
theorem dX8_beginNextYear_23 : decode cX8_beginNextYear 23 = .ok (.getfield 26, 3) := by decide +kernel
theorem dX8_beginNextYear_26 : decode cX8_beginNextYear 26 = .ok (.iconst 0, 1) := by decide +kernel
theorem dX8_beginNextYear_27 : decode cX8_beginNextYear 27 = .ok (.putfield 243, 3) := by decide +kernel
theorem dX8_beginNextYear_30 : decode cX8_beginNextYear 30 = .ok (.aload_n 0, 1) := by decide +kernel
theorem dX8_beginNextYear_31 : decode cX8_beginNextYear 31 = .ok (.iconst 0, 1) := by decide +kernel
theorem dX8_beginNextYear_32 : decode cX8_beginNextYear 32 = .ok (.putfield 69, 3) := by decide +kernel
theorem dX8_beginNextYear_35 : decode cX8_beginNextYear 35 = .ok (.aload_n 0, 1) := by decide +kernel
theorem dX8_beginNextYear_36 : decode cX8_beginNextYear 36 = .ok (.dup, 1) := by decide +kernel
theorem dX8_beginNextYear_37 : decode cX8_beginNextYear 37 = .ok (.getfield 65, 3) := by decide +kernel
theorem dX8_beginNextYear_40 : decode cX8_beginNextYear 40 = .ok (.iconst 1, 1) := by decide +kernel
theorem dX8_beginNextYear_41 : decode cX8_beginNextYear 41 = .ok (.iadd, 1) := by decide +kernel
theorem dX8_beginNextYear_42 : decode cX8_beginNextYear 42 = .ok (.putfield 65, 3) := by decide +kernel
theorem dX8_beginNextYear_45 : decode cX8_beginNextYear 45 = .ok (.return_, 1) := by decide +kernel
theorem dX8_within_0 : decode cX8_within 0 = .ok (.iload_n 0, 1) := by decide +kernel
theorem dX8_within_1 : decode cX8_within 1 = .ok (.iload_n 1, 1) := by decide +kernel
theorem dX8_within_2 : decode cX8_within 2 = .ok (.if_icmp .lt 12, 3) := by decide +kernel
theorem dX8_within_5 : decode cX8_within 5 = .ok (.iload_n 0, 1) := by decide +kernel
theorem dX8_within_6 : decode cX8_within 6 = .ok (.iload_n 2, 1) := by decide +kernel
theorem dX8_within_7 : decode cX8_within 7 = .ok (.if_icmp .gt 7, 3) := by decide +kernel
theorem dX8_within_10 : decode cX8_within 10 = .ok (.iconst 1, 1) := by decide +kernel
theorem dX8_within_11 : decode cX8_within 11 = .ok (.goto 4, 3) := by decide +kernel
theorem dX8_within_14 : decode cX8_within 14 = .ok (.iconst 0, 1) := by decide +kernel
theorem dX8_within_15 : decode cX8_within 15 = .ok (.ireturn, 1) := by decide +kernel
theorem dX8_isOwner_0 : decode cX8_isOwner 0 = .ok (.iload_n 0, 1) := by decide +kernel
theorem dX8_isOwner_1 : decode cX8_isOwner 1 = .ok (.iconst 0, 1) := by decide +kernel
theorem dX8_isOwner_2 : decode cX8_isOwner 2 = .ok (.bipush 11, 2) := by decide +kernel
theorem dX8_isOwner_4 : decode cX8_isOwner 4 = .ok (.invokestatic 79, 3) := by decide +kernel
theorem dX8_isOwner_7 : decode cX8_isOwner 7 = .ok (.ireturn, 1) := by decide +kernel
theorem dX8_isWarmth_0 : decode cX8_isWarmth 0 = .ok (.iload_n 0, 1) := by decide +kernel
theorem dX8_isWarmth_1 : decode cX8_isWarmth 1 = .ok (.bipush (-30), 2) := by decide +kernel
theorem dX8_isWarmth_3 : decode cX8_isWarmth 3 = .ok (.bipush 40, 2) := by decide +kernel
theorem dX8_isWarmth_5 : decode cX8_isWarmth 5 = .ok (.invokestatic 79, 3) := by decide +kernel
theorem dX8_isWarmth_8 : decode cX8_isWarmth 8 = .ok (.ireturn, 1) := by decide +kernel
