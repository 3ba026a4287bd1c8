theorem dX9_init_0 : decode cX9_init 0 = .ok (.aload_n 0, 1) := by decide +kernel
theorem dX9_init_1 : decode cX9_init 1 = .ok (.invokespecial 1, 3) := by decide +kernel
theorem dX9_init_4 : decode cX9_init 4 = .ok (.aload_n 0, 1) := by decide +kernel
theorem dX9_init_5 : decode cX9_init 5 = .ok (.bipush 40, 2) := by decide +kernel
theorem dX9_init_7 : decode cX9_init 7 = .ok (.newarray .byte, 2) := by decide +kernel
theorem dX9_init_9 : decode cX9_init 9 = .ok (.putfield 7, 3) := by decide +kernel
theorem dX9_init_12 : decode cX9_init 12 = .ok (.aload_n 0, 1) := by decide +kernel
theorem dX9_init_13 : decode cX9_init 13 = .ok (.iconst 5, 1) := by decide +kernel
theorem dX9_init_14 : decode cX9_init 14 = .ok (.putfield 13, 3) := by decide +kernel
theorem dX9_init_17 : decode cX9_init 17 = .ok (.aload_n 0, 1) := by decide +kernel
theorem dX9_init_18 : decode cX9_init 18 = .ok (.sipush 500, 3) := by decide +kernel
theorem dX9_init_21 : decode cX9_init 21 = .ok (.putfield 17, 3) := by decide +kernel
theorem dX9_init_24 : decode cX9_init 24 = .ok (.aload_n 0, 1) := by decide +kernel
theorem dX9_init_25 : decode cX9_init 25 = .ok (.bipush 40, 2) := by decide +kernel
theorem dX9_init_27 : decode cX9_init 27 = .ok (.putfield 20, 3) := by decide +kernel
theorem dX9_init_30 : decode cX9_init 30 = .ok (.aload_n 0, 1) := by decide +kernel
theorem dX9_init_31 : decode cX9_init 31 = .ok (.bipush 90, 2) := by decide +kernel
theorem dX9_init_33 : decode cX9_init 33 = .ok (.putfield 23, 3) := by decide +kernel
theorem dX9_init_36 : decode cX9_init 36 = .ok (.aload_n 0, 1) := by decide +kernel
theorem dX9_init_37 : decode cX9_init 37 = .ok (.iconst 4, 1) := by decide +kernel
theorem dX9_init_38 : decode cX9_init 38 = .ok (.newarray .int, 2) := by decide +kernel
theorem dX9_init_40 : decode cX9_init 40 = .ok (.putfield 26, 3) := by decide +kernel
theorem dX9_init_43 : decode cX9_init 43 = .ok (.aload_n 0, 1) := by decide +kernel
theorem dX9_init_44 : decode cX9_init 44 = .ok (.iconst 1, 1) := by decide +kernel
theorem dX9_init_45 : decode cX9_init 45 = .ok (.putfield 30, 3) := by decide +kernel
theorem dX9_init_48 : decode cX9_init 48 = .ok (.aload_n 0, 1) := by decide +kernel
theorem dX9_init_49 : decode cX9_init 49 = .ok (.iconst (-1), 1) := by decide +kernel
theorem dX9_init_50 : decode cX9_init 50 = .ok (.putfield 33, 3) := by decide +kernel
theorem dX9_init_53 : decode cX9_init 53 = .ok (.aload_n 0, 1) := by decide +kernel
theorem dX9_init_54 : decode cX9_init 54 = .ok (.iconst 1, 1) := by decide +kernel
theorem dX9_init_55 : decode cX9_init 55 = .ok (.putfield 36, 3) := by decide +kernel
theorem dX9_init_58 : decode cX9_init 58 = .ok (.aload_n 0, 1) := by decide +kernel
theorem dX9_init_59 : decode cX9_init 59 = .ok (.bipush 6, 2) := by decide +kernel
theorem dX9_init_61 : decode cX9_init 61 = .ok (.newarray .int, 2) := by decide +kernel
theorem dX9_init_63 : decode cX9_init 63 = .ok (.putfield 39, 3) := by decide +kernel
theorem dX9_init_66 : decode cX9_init 66 = .ok (.aload_n 0, 1) := by decide +kernel
theorem dX9_init_67 : decode cX9_init 67 = .ok (.bipush 6, 2) := by decide +kernel
theorem dX9_init_69 : decode cX9_init 69 = .ok (.newarray .int, 2) := by decide +kernel
theorem dX9_init_71 : decode cX9_init 71 = .ok (.putfield 42, 3) := by decide +kernel
theorem dX9_init_74 : decode cX9_init 74 = .ok (.aload_n 0, 1) := by decide +kernel
theorem dX9_init_75 : decode cX9_init 75 = .ok (.bipush 6, 2) := by decide +kernel
theorem dX9_init_77 : decode cX9_init 77 = .ok (.newarray .int, 2) := by decide +kernel
theorem dX9_init_79 : decode cX9_init 79 = .ok (.putfield 45, 3) := by decide +kernel
theorem dX9_init_82 : decode cX9_init 82 = .ok (.aload_n 0, 1) := by decide +kernel
theorem dX9_init_83 : decode cX9_init 83 = .ok (.bipush 6, 2) := by decide +kernel
theorem dX9_init_85 : decode cX9_init 85 = .ok (.newarray .int, 2) := by decide +kernel
theorem dX9_init_87 : decode cX9_init 87 = .ok (.putfield 48, 3) := by decide +kernel
theorem dX9_init_90 : decode cX9_init 90 = .ok (.aload_n 0, 1) := by decide +kernel
theorem dX9_init_91 : decode cX9_init 91 = .ok (.bipush 8, 2) := by decide +kernel
theorem dX9_init_93 : decode cX9_init 93 = .ok (.newarray .int, 2) := by decide +kernel
theorem dX9_init_95 : decode cX9_init 95 = .ok (.putfield 51, 3) := by decide +kernel
theorem dX9_init_98 : decode cX9_init 98 = .ok (.aload_n 0, 1) := by decide +kernel
theorem dX9_init_99 : decode cX9_init 99 = .ok (.bipush 8, 2) := by decide +kernel
theorem dX9_init_101 : decode cX9_init 101 = .ok (.newarray .int, 2) := by decide +kernel
theorem dX9_init_103 : decode cX9_init 103 = .ok (.putfield 54, 3) := by decide +kernel
theorem dX9_init_106 : decode cX9_init 106 = .ok (.aload_n 0, 1) := by decide +kernel
theorem dX9_init_107 : decode cX9_init 107 = .ok (.iconst (-1), 1) := by decide +kernel
theorem dX9_init_108 : decode cX9_init 108 = .ok (.putfield 57, 3) := by decide +kernel
theorem dX9_init_111 : decode cX9_init 111 = .ok (.aload_n 0, 1) := by decide +kernel
theorem dX9_init_112 : decode cX9_init 112 = .ok (.bipush 80, 2) := by decide +kernel
theorem dX9_init_114 : decode cX9_init 114 = .ok (.newarray .int, 2) := by decide +kernel
theorem dX9_init_116 : decode cX9_init 116 = .ok (.putfield 60, 3) := by decide +kernel
theorem dX9_init_119 : decode cX9_init 119 = .ok (.aload_n 0, 1) := by decide +kernel
theorem dX9_init_120 : decode cX9_init 120 = .ok (.bipush 80, 2) := by decide +kernel
theorem dX9_init_122 : decode cX9_init 122 = .ok (.newarray .int, 2) := by decide +kernel
theorem dX9_init_124 : decode cX9_init 124 = .ok (.putfield 63, 3) := by decide +kernel
theorem dX9_init_127 : decode cX9_init 127 = .ok (.aload_n 0, 1) := by decide +kernel
theorem dX9_init_128 : decode cX9_init 128 = .ok (.bipush 80, 2) := by decide +kernel
theorem dX9_init_130 : decode cX9_init 130 = .ok (.newarray .boolean, 2) := by decide +kernel
theorem dX9_init_132 : decode cX9_init 132 = .ok (.putfield 66, 3) := by decide +kernel
theorem dX9_init_135 : decode cX9_init 135 = .ok (.aload_n 0, 1) := by decide +kernel
theorem dX9_init_136 : decode cX9_init 136 = .ok (.bipush 100, 2) := by decide +kernel
theorem dX9_init_138 : decode cX9_init 138 = .ok (.newarray .int, 2) := by decide +kernel
theorem dX9_init_140 : decode cX9_init 140 = .ok (.putfield 70, 3) := by decide +kernel
theorem dX9_init_143 : decode cX9_init 143 = .ok (.aload_n 0, 1) := by decide +kernel
theorem dX9_init_144 : decode cX9_init 144 = .ok (.bipush 100, 2) := by decide +kernel
theorem dX9_init_146 : decode cX9_init 146 = .ok (.newarray .int, 2) := by decide +kernel
theorem dX9_init_148 : decode cX9_init 148 = .ok (.putfield 73, 3) := by decide +kernel
theorem dX9_init_151 : decode cX9_init 151 = .ok (.aload_n 0, 1) := by decide +kernel
theorem dX9_init_152 : decode cX9_init 152 = .ok (.bipush 100, 2) := by decide +kernel
theorem dX9_init_154 : decode cX9_init 154 = .ok (.newarray .int, 2) := by decide +kernel
theorem dX9_init_156 : decode cX9_init 156 = .ok (.putfield 76, 3) := by decide +kernel
theorem dX9_init_159 : decode cX9_init 159 = .ok (.aload_n 0, 1) := by decide +kernel
theorem dX9_init_160 : decode cX9_init 160 = .ok (.bipush 100, 2) := by decide +kernel
theorem dX9_init_162 : decode cX9_init 162 = .ok (.newarray .int, 2) := by decide +kernel
theorem dX9_init_164 : decode cX9_init 164 = .ok (.putfield 79, 3) := by decide +kernel
theorem dX9_init_167 : decode cX9_init 167 = .ok (.aload_n 0, 1) := by decide +kernel
theorem dX9_init_168 : decode cX9_init 168 = .ok (.bipush 12, 2) := by decide +kernel
theorem dX9_init_170 : decode cX9_init 170 = .ok (.newarray .int, 2) := by decide +kernel
theorem dX9_init_172 : decode cX9_init 172 = .ok (.putfield 82, 3) := by decide +kernel
theorem dX9_init_175 : decode cX9_init 175 = .ok (.aload_n 0, 1) := by decide +kernel
theorem dX9_init_176 : decode cX9_init 176 = .ok (.bipush 12, 2) := by decide +kernel
theorem dX9_init_178 : decode cX9_init 178 = .ok (.newarray .int, 2) := by decide +kernel
theorem dX9_init_180 : decode cX9_init 180 = .ok (.putfield 85, 3) := by decide +kernel
theorem dX9_init_183 : decode cX9_init 183 = .ok (.aload_n 0, 1) := by decide +kernel
theorem dX9_init_184 : decode cX9_init 184 = .ok (.bipush 12, 2) := by decide +kernel
theorem dX9_init_186 : decode cX9_init 186 = .ok (.newarray .int, 2) := by decide +kernel
theorem dX9_init_188 : decode cX9_init 188 = .ok (.putfield 88, 3) := by decide +kernel
theorem dX9_init_191 : decode cX9_init 191 = .ok (.aload_n 0, 1) := by decide +kernel
theorem dX9_init_192 : decode cX9_init 192 = .ok (.bipush 12, 2) := by decide +kernel
theorem dX9_init_194 : decode cX9_init 194 = .ok (.newarray .int, 2) := by decide +kernel
theorem dX9_init_196 : decode cX9_init 196 = .ok (.putfield 91, 3) := by decide +kernel
theorem dX9_init_199 : decode cX9_init 199 = .ok (.aload_n 0, 1) := by decide +kernel
theorem dX9_init_200 : decode cX9_init 200 = .ok (.bipush 12, 2) := by decide +kernel
theorem dX9_init_202 : decode cX9_init 202 = .ok (.newarray .int, 2) := by decide +kernel
theorem dX9_init_204 : decode cX9_init 204 = .ok (.putfield 94, 3) := by decide +kernel
theorem dX9_init_207 : decode cX9_init 207 = .ok (.aload_n 0, 1) := by decide +kernel
theorem dX9_init_208 : decode cX9_init 208 = .ok (.bipush 12, 2) := by decide +kernel
theorem dX9_init_210 : decode cX9_init 210 = .ok (.newarray .long, 2) := by decide +kernel
theorem dX9_init_212 : decode cX9_init 212 = .ok (.putfield 97, 3) := by decide +kernel
theorem dX9_init_215 : decode cX9_init 215 = .ok (.aload_n 0, 1) := by decide +kernel
theorem dX9_init_216 : decode cX9_init 216 = .ok (.bipush 12, 2) := by decide +kernel
theorem dX9_init_218 : decode cX9_init 218 = .ok (.newarray .long, 2) := by decide +kernel
theorem dX9_init_220 : decode cX9_init 220 = .ok (.putfield 101, 3) := by decide +kernel
theorem dX9_init_223 : decode cX9_init 223 = .ok (.iconst 0, 1) := by decide +kernel
theorem dX9_init_224 : decode cX9_init 224 = .ok (.istore_n 1, 1) := by decide +kernel
theorem dX9_init_225 : decode cX9_init 225 = .ok (.iload_n 1, 1) := by decide +kernel
theorem dX9_init_226 : decode cX9_init 226 = .ok (.bipush 12, 2) := by decide +kernel
theorem dX9_init_228 : decode cX9_init 228 = .ok (.if_icmp .ge 16, 3) := by decide +kernel
theorem dX9_init_231 : decode cX9_init 231 = .ok (.aload_n 0, 1) := by decide +kernel
theorem dX9_init_232 : decode cX9_init 232 = .ok (.getfield 88, 3) := by decide +kernel
theorem dX9_init_235 : decode cX9_init 235 = .ok (.iload_n 1, 1) := by decide +kernel
theorem dX9_init_236 : decode cX9_init 236 = .ok (.iload_n 1, 1) := by decide +kernel
theorem dX9_init_237 : decode cX9_init 237 = .ok (.iastore, 1) := by decide +kernel
theorem dX9_init_238 : decode cX9_init 238 = .ok (.iinc 1 1, 3) := by decide +kernel
theorem dX9_init_241 : decode cX9_init 241 = .ok (.goto (-16), 3) := by decide +kernel
theorem dX9_init_244 : decode cX9_init 244 = .ok (.aload_n 0, 1) := by decide +kernel
theorem dX9_init_245 : decode cX9_init 245 = .ok (.getfield 42, 3) := by decide +kernel
theorem dX9_init_248 : decode cX9_init 248 = .ok (.iconst 0, 1) := by decide +kernel
theorem dX9_init_249 : decode cX9_init 249 = .ok (.iconst 1, 1) := by decide +kernel
theorem dX9_init_250 : decode cX9_init 250 = .ok (.iastore, 1) := by decide +kernel
theorem dX9_init_251 : decode cX9_init 251 = .ok (.return_, 1) := by decide +kernel
theorem dX9_types_0 : decode cX9_types 0 = .ok (.iconst 3, 1) := by decide +kernel
theorem dX9_types_1 : decode cX9_types 1 = .ok (.istore_n 2, 1) := by decide +kernel
theorem dX9_types_2 : decode cX9_types 2 = .ok (.iload_n 2, 1) := by decide +kernel
theorem dX9_types_3 : decode cX9_types 3 = .ok (.ifCond .lt 35, 3) := by decide +kernel
theorem dX9_types_6 : decode cX9_types 6 = .ok (.aload_n 0, 1) := by decide +kernel
theorem dX9_types_7 : decode cX9_types 7 = .ok (.getfield 7, 3) := by decide +kernel
theorem dX9_types_10 : decode cX9_types 10 = .ok (.aload_n 0, 1) := by decide +kernel
theorem dX9_types_11 : decode cX9_types 11 = .ok (.getfield 104, 3) := by decide +kernel
theorem dX9_types_14 : decode cX9_types 14 = .ok (.iload_n 1, 1) := by decide +kernel
theorem dX9_types_15 : decode cX9_types 15 = .ok (.bipush 8, 2) := by decide +kernel
theorem dX9_types_17 : decode cX9_types 17 = .ok (.iload_n 2, 1) := by decide +kernel
theorem dX9_types_18 : decode cX9_types 18 = .ok (.imul, 1) := by decide +kernel
theorem dX9_types_19 : decode cX9_types 19 = .ok (.ishr, 1) := by decide +kernel
theorem dX9_types_20 : decode cX9_types 20 = .ok (.i2b, 1) := by decide +kernel
theorem dX9_types_21 : decode cX9_types 21 = .ok (.bastore, 1) := by decide +kernel
theorem dX9_types_22 : decode cX9_types 22 = .ok (.aload_n 0, 1) := by decide +kernel
theorem dX9_types_23 : decode cX9_types 23 = .ok (.aload_n 0, 1) := by decide +kernel
theorem dX9_types_24 : decode cX9_types 24 = .ok (.getfield 104, 3) := by decide +kernel
theorem dX9_types_27 : decode cX9_types 27 = .ok (.iconst 1, 1) := by decide +kernel
theorem dX9_types_28 : decode cX9_types 28 = .ok (.iadd, 1) := by decide +kernel
theorem dX9_types_29 : decode cX9_types 29 = .ok (.putfield 104, 3) := by decide +kernel
theorem dX9_types_32 : decode cX9_types 32 = .ok (.iinc 2 (-1), 3) := by decide +kernel
theorem dX9_types_35 : decode cX9_types 35 = .ok (.goto (-33), 3) := by decide +kernel
theorem dX9_types_38 : decode cX9_types 38 = .ok (.return_, 1) := by decide +kernel
theorem dX9_feed_0 : decode cX9_feed 0 = .ok (.aload_n 0, 1) := by decide +kernel
theorem dX9_feed_1 : decode cX9_feed 1 = .ok (.getfield 104, 3) := by decide +kernel
theorem dX9_feed_4 : decode cX9_feed 4 = .ok (.bipush 20, 2) := by decide +kernel
theorem dX9_feed_6 : decode cX9_feed 6 = .ok (.iadd, 1) := by decide +kernel
theorem dX9_feed_7 : decode cX9_feed 7 = .ok (.bipush 40, 2) := by decide +kernel
theorem dX9_feed_9 : decode cX9_feed 9 = .ok (.if_icmp .le 5, 3) := by decide +kernel
theorem dX9_feed_12 : decode cX9_feed 12 = .ok (.iconst (-1), 1) := by decide +kernel
theorem dX9_feed_13 : decode cX9_feed 13 = .ok (.ireturn, 1) := by decide +kernel
theorem dX9_feed_14 : decode cX9_feed 14 = .ok (.aload_n 0, 1) := by decide +kernel
theorem dX9_feed_15 : decode cX9_feed 15 = .ok (.iload_n 1, 1) := by decide +kernel
theorem dX9_feed_16 : decode cX9_feed 16 = .ok (.invokevirtual 107, 3) := by decide +kernel
theorem dX9_feed_19 : decode cX9_feed 19 = .ok (.aload_n 0, 1) := by decide +kernel
theorem dX9_feed_20 : decode cX9_feed 20 = .ok (.iload_n 2, 1) := by decide +kernel
theorem dX9_feed_21 : decode cX9_feed 21 = .ok (.invokevirtual 107, 3) := by decide +kernel
theorem dX9_feed_24 : decode cX9_feed 24 = .ok (.aload_n 0, 1) := by decide +kernel
theorem dX9_feed_25 : decode cX9_feed 25 = .ok (.iload_n 3, 1) := by decide +kernel
theorem dX9_feed_26 : decode cX9_feed 26 = .ok (.invokevirtual 107, 3) := by decide +kernel
theorem dX9_feed_29 : decode cX9_feed 29 = .ok (.aload_n 0, 1) := by decide +kernel
theorem dX9_feed_30 : decode cX9_feed 30 = .ok (.iload 4, 2) := by decide +kernel
theorem dX9_feed_32 : decode cX9_feed 32 = .ok (.invokevirtual 107, 3) := by decide +kernel
theorem dX9_feed_35 : decode cX9_feed 35 = .ok (.aload_n 0, 1) := by decide +kernel
theorem dX9_feed_36 : decode cX9_feed 36 = .ok (.iload 5, 2) := by decide +kernel
theorem dX9_feed_38 : decode cX9_feed 38 = .ok (.invokevirtual 107, 3) := by decide +kernel
theorem dX9_feed_41 : decode cX9_feed 41 = .ok (.aload_n 0, 1) := by decide +kernel
theorem dX9_feed_42 : decode cX9_feed 42 = .ok (.getfield 104, 3) := by decide +kernel
theorem dX9_feed_45 : decode cX9_feed 45 = .ok (.ireturn, 1) := by decide +kernel
theorem dX9_letterOf_0 : decode cX9_letterOf 0 = .ok (.iload_n 0, 1) := by decide +kernel
theorem dX9_letterOf_1 : decode cX9_letterOf 1 = .ok (.bipush 108, 2) := by decide +kernel
theorem dX9_letterOf_3 : decode cX9_letterOf 3 = .ok (.if_icmp .ne 7, 3) := by decide +kernel
theorem dX9_letterOf_6 : decode cX9_letterOf 6 = .ok (.iconst 0, 1) := by decide +kernel
theorem dX9_letterOf_7 : decode cX9_letterOf 7 = .ok (.goto 34, 3) := by decide +kernel
theorem dX9_letterOf_10 : decode cX9_letterOf 10 = .ok (.iload_n 0, 1) := by decide +kernel
theorem dX9_letterOf_11 : decode cX9_letterOf 11 = .ok (.bipush 109, 2) := by decide +kernel
theorem dX9_letterOf_13 : decode cX9_letterOf 13 = .ok (.if_icmp .ne 7, 3) := by decide +kernel
theorem dX9_letterOf_16 : decode cX9_letterOf 16 = .ok (.iconst 1, 1) := by decide +kernel
theorem dX9_letterOf_17 : decode cX9_letterOf 17 = .ok (.goto 24, 3) := by decide +kernel
theorem dX9_letterOf_20 : decode cX9_letterOf 20 = .ok (.iload_n 0, 1) := by decide +kernel
theorem dX9_letterOf_21 : decode cX9_letterOf 21 = .ok (.bipush 119, 2) := by decide +kernel
theorem dX9_letterOf_23 : decode cX9_letterOf 23 = .ok (.if_icmp .ne 7, 3) := by decide +kernel
theorem dX9_letterOf_26 : decode cX9_letterOf 26 = .ok (.iconst 2, 1) := by decide +kernel
theorem dX9_letterOf_27 : decode cX9_letterOf 27 = .ok (.goto 14, 3) := by decide +kernel
theorem dX9_letterOf_30 : decode cX9_letterOf 30 = .ok (.iload_n 0, 1) := by decide +kernel
theorem dX9_letterOf_31 : decode cX9_letterOf 31 = .ok (.bipush 118, 2) := by decide +kernel
theorem dX9_letterOf_33 : decode cX9_letterOf 33 = .ok (.if_icmp .ne 7, 3) := by decide +kernel
theorem dX9_letterOf_36 : decode cX9_letterOf 36 = .ok (.iconst 3, 1) := by decide +kernel
theorem dX9_letterOf_37 : decode cX9_letterOf 37 = .ok (.goto 4, 3) := by decide +kernel
theorem dX9_letterOf_40 : decode cX9_letterOf 40 = .ok (.iconst (-1), 1) := by decide +kernel
theorem dX9_letterOf_41 : decode cX9_letterOf 41 = .ok (.ireturn, 1) := by decide +kernel
theorem dX9_isDigit_0 : decode cX9_isDigit 0 = .ok (.iload_n 1, 1) := by decide +kernel
theorem dX9_isDigit_1 : decode cX9_isDigit 1 = .ok (.iload_n 2, 1) := by decide +kernel
theorem dX9_isDigit_2 : decode cX9_isDigit 2 = .ok (.if_icmp .ge 29, 3) := by decide +kernel
theorem dX9_isDigit_5 : decode cX9_isDigit 5 = .ok (.aload_n 0, 1) := by decide +kernel
theorem dX9_isDigit_6 : decode cX9_isDigit 6 = .ok (.getfield 7, 3) := by decide +kernel
theorem dX9_isDigit_9 : decode cX9_isDigit 9 = .ok (.iload_n 1, 1) := by decide +kernel
theorem dX9_isDigit_10 : decode cX9_isDigit 10 = .ok (.baload, 1) := by decide +kernel
theorem dX9_isDigit_11 : decode cX9_isDigit 11 = .ok (.bipush 48, 2) := by decide +kernel
theorem dX9_isDigit_13 : decode cX9_isDigit 13 = .ok (.if_icmp .lt 18, 3) := by decide +kernel
theorem dX9_isDigit_16 : decode cX9_isDigit 16 = .ok (.aload_n 0, 1) := by decide +kernel
theorem dX9_isDigit_17 : decode cX9_isDigit 17 = .ok (.getfield 7, 3) := by decide +kernel
theorem dX9_isDigit_20 : decode cX9_isDigit 20 = .ok (.iload_n 1, 1) := by decide +kernel
theorem dX9_isDigit_21 : decode cX9_isDigit 21 = .ok (.baload, 1) := by decide +kernel
theorem dX9_isDigit_22 : decode cX9_isDigit 22 = .ok (.bipush 57, 2) := by decide +kernel
theorem dX9_isDigit_24 : decode cX9_isDigit 24 = .ok (.if_icmp .gt 7, 3) := by decide +kernel
theorem dX9_isDigit_27 : decode cX9_isDigit 27 = .ok (.iconst 1, 1) := by decide +kernel
theorem dX9_isDigit_28 : decode cX9_isDigit 28 = .ok (.goto 4, 3) := by decide +kernel
theorem dX9_isDigit_31 : decode cX9_isDigit 31 = .ok (.iconst 0, 1) := by decide +kernel
theorem dX9_isDigit_32 : decode cX9_isDigit 32 = .ok (.ireturn, 1) := by decide +kernel
theorem dX9_parse_0 : decode cX9_parse 0 = .ok (.iconst 0, 1) := by decide +kernel
theorem dX9_parse_1 : decode cX9_parse 1 = .ok (.istore_n 2, 1) := by decide +kernel
theorem dX9_parse_2 : decode cX9_parse 2 = .ok (.iload_n 2, 1) := by decide +kernel
theorem dX9_parse_3 : decode cX9_parse 3 = .ok (.iload_n 1, 1) := by decide +kernel
theorem dX9_parse_4 : decode cX9_parse 4 = .ok (.if_icmp .ge 15, 3) := by decide +kernel
theorem dX9_parse_7 : decode cX9_parse 7 = .ok (.aload_n 0, 1) := by decide +kernel
theorem dX9_parse_8 : decode cX9_parse 8 = .ok (.getfield 7, 3) := by decide +kernel
theorem dX9_parse_11 : decode cX9_parse 11 = .ok (.iload_n 2, 1) := by decide +kernel
theorem dX9_parse_12 : decode cX9_parse 12 = .ok (.baload, 1) := by decide +kernel
theorem dX9_parse_13 : decode cX9_parse 13 = .ok (.invokestatic 111, 3) := by decide +kernel
theorem dX9_parse_16 : decode cX9_parse 16 = .ok (.goto 4, 3) := by decide +kernel
theorem dX9_parse_19 : decode cX9_parse 19 = .ok (.iconst (-1), 1) := by decide +kernel
theorem dX9_parse_20 : decode cX9_parse 20 = .ok (.istore_n 3, 1) := by decide +kernel
theorem dX9_parse_21 : decode cX9_parse 21 = .ok (.iload_n 3, 1) := by decide +kernel
theorem dX9_parse_22 : decode cX9_parse 22 = .ok (.iconst (-1), 1) := by decide +kernel
theorem dX9_parse_23 : decode cX9_parse 23 = .ok (.if_icmp .ne 8, 3) := by decide +kernel
theorem dX9_parse_26 : decode cX9_parse 26 = .ok (.bipush 100, 2) := by decide +kernel
theorem dX9_parse_28 : decode cX9_parse 28 = .ok (.iload_n 2, 1) := by decide +kernel
theorem dX9_parse_29 : decode cX9_parse 29 = .ok (.iadd, 1) := by decide +kernel
theorem dX9_parse_30 : decode cX9_parse 30 = .ok (.ireturn, 1) := by decide +kernel
theorem dX9_parse_31 : decode cX9_parse 31 = .ok (.iload_n 2, 1) := by decide +kernel
theorem dX9_parse_32 : decode cX9_parse 32 = .ok (.iconst 1, 1) := by decide +kernel
theorem dX9_parse_33 : decode cX9_parse 33 = .ok (.iadd, 1) := by decide +kernel
theorem dX9_parse_34 : decode cX9_parse 34 = .ok (.istore_n 2, 1) := by decide +kernel
theorem dX9_parse_35 : decode cX9_parse 35 = .ok (.aload_n 0, 1) := by decide +kernel
theorem dX9_parse_36 : decode cX9_parse 36 = .ok (.iload_n 2, 1) := by decide +kernel
theorem dX9_parse_37 : decode cX9_parse 37 = .ok (.iload_n 1, 1) := by decide +kernel
theorem dX9_parse_38 : decode cX9_parse 38 = .ok (.invokevirtual 115, 3) := by decide +kernel
theorem dX9_parse_41 : decode cX9_parse 41 = .ok (.ifCond .ne 9, 3) := by decide +kernel
theorem dX9_parse_44 : decode cX9_parse 44 = .ok (.sipush 200, 3) := by decide +kernel
theorem dX9_parse_47 : decode cX9_parse 47 = .ok (.iload_n 2, 1) := by decide +kernel
theorem dX9_parse_48 : decode cX9_parse 48 = .ok (.iadd, 1) := by decide +kernel
theorem dX9_parse_49 : decode cX9_parse 49 = .ok (.ireturn, 1) := by decide +kernel
theorem dX9_parse_50 : decode cX9_parse 50 = .ok (.iconst 0, 1) := by decide +kernel
theorem dX9_parse_51 : decode cX9_parse 51 = .ok (.istore 4, 2) := by decide +kernel
theorem dX9_parse_53 : decode cX9_parse 53 = .ok (.iconst 0, 1) := by decide +kernel
theorem dX9_parse_54 : decode cX9_parse 54 = .ok (.istore 5, 2) := by decide +kernel
theorem dX9_parse_56 : decode cX9_parse 56 = .ok (.aload_n 0, 1) := by decide +kernel
theorem dX9_parse_57 : decode cX9_parse 57 = .ok (.iload_n 2, 1) := by decide +kernel
theorem dX9_parse_58 : decode cX9_parse 58 = .ok (.iload_n 1, 1) := by decide +kernel
theorem dX9_parse_59 : decode cX9_parse 59 = .ok (.invokevirtual 115, 3) := by decide +kernel
theorem dX9_parse_62 : decode cX9_parse 62 = .ok (.ifCond .eq 45, 3) := by decide +kernel
theorem dX9_parse_65 : decode cX9_parse 65 = .ok (.iload 5, 2) := by decide +kernel
theorem dX9_parse_67 : decode cX9_parse 67 = .ok (.iconst 4, 1) := by decide +kernel
theorem dX9_parse_68 : decode cX9_parse 68 = .ok (.if_icmp .ne 9, 3) := by decide +kernel
theorem dX9_parse_71 : decode cX9_parse 71 = .ok (.sipush 300, 3) := by decide +kernel
theorem dX9_parse_74 : decode cX9_parse 74 = .ok (.iload_n 2, 1) := by decide +kernel
theorem dX9_parse_75 : decode cX9_parse 75 = .ok (.iadd, 1) := by decide +kernel
theorem dX9_parse_76 : decode cX9_parse 76 = .ok (.ireturn, 1) := by decide +kernel
theorem dX9_parse_77 : decode cX9_parse 77 = .ok (.bipush 10, 2) := by decide +kernel
theorem dX9_parse_79 : decode cX9_parse 79 = .ok (.iload 4, 2) := by decide +kernel
theorem dX9_parse_81 : decode cX9_parse 81 = .ok (.imul, 1) := by decide +kernel
theorem dX9_parse_82 : decode cX9_parse 82 = .ok (.aload_n 0, 1) := by decide +kernel
theorem dX9_parse_83 : decode cX9_parse 83 = .ok (.getfield 7, 3) := by decide +kernel
theorem dX9_parse_86 : decode cX9_parse 86 = .ok (.iload_n 2, 1) := by decide +kernel
theorem dX9_parse_87 : decode cX9_parse 87 = .ok (.baload, 1) := by decide +kernel
theorem dX9_parse_88 : decode cX9_parse 88 = .ok (.iadd, 1) := by decide +kernel
theorem dX9_parse_89 : decode cX9_parse 89 = .ok (.bipush 48, 2) := by decide +kernel
theorem dX9_parse_91 : decode cX9_parse 91 = .ok (.isub, 1) := by decide +kernel
theorem dX9_parse_92 : decode cX9_parse 92 = .ok (.istore 4, 2) := by decide +kernel
theorem dX9_parse_94 : decode cX9_parse 94 = .ok (.iload 5, 2) := by decide +kernel
theorem dX9_parse_96 : decode cX9_parse 96 = .ok (.iconst 1, 1) := by decide +kernel
theorem dX9_parse_97 : decode cX9_parse 97 = .ok (.iadd, 1) := by decide +kernel
theorem dX9_parse_98 : decode cX9_parse 98 = .ok (.istore 5, 2) := by decide +kernel
theorem dX9_parse_100 : decode cX9_parse 100 = .ok (.iload_n 2, 1) := by decide +kernel
theorem dX9_parse_101 : decode cX9_parse 101 = .ok (.iconst 1, 1) := by decide +kernel
theorem dX9_parse_102 : decode cX9_parse 102 = .ok (.iadd, 1) := by decide +kernel
theorem dX9_parse_103 : decode cX9_parse 103 = .ok (.istore_n 2, 1) := by decide +kernel
theorem dX9_parse_104 : decode cX9_parse 104 = .ok (.goto (-48), 3) := by decide +kernel
theorem dX9_parse_107 : decode cX9_parse 107 = .ok (.aload_n 0, 1) := by decide +kernel
theorem dX9_parse_108 : decode cX9_parse 108 = .ok (.getfield 26, 3) := by decide +kernel
theorem dX9_parse_111 : decode cX9_parse 111 = .ok (.iload_n 3, 1) := by decide +kernel
theorem dX9_parse_112 : decode cX9_parse 112 = .ok (.iload 4, 2) := by decide +kernel
theorem dX9_parse_114 : decode cX9_parse 114 = .ok (.iastore, 1) := by decide +kernel
theorem dX9_parse_115 : decode cX9_parse 115 = .ok (.iload_n 2, 1) := by decide +kernel
theorem dX9_parse_116 : decode cX9_parse 116 = .ok (.iload_n 1, 1) := by decide +kernel
theorem dX9_parse_117 : decode cX9_parse 117 = .ok (.if_icmp .ne 5, 3) := by decide +kernel
theorem dX9_parse_120 : decode cX9_parse 120 = .ok (.iconst 0, 1) := by decide +kernel
theorem dX9_parse_121 : decode cX9_parse 121 = .ok (.ireturn, 1) := by decide +kernel
theorem dX9_parse_122 : decode cX9_parse 122 = .ok (.aload_n 0, 1) := by decide +kernel
theorem dX9_parse_123 : decode cX9_parse 123 = .ok (.getfield 7, 3) := by decide +kernel
theorem dX9_parse_126 : decode cX9_parse 126 = .ok (.iload_n 2, 1) := by decide +kernel
theorem dX9_parse_127 : decode cX9_parse 127 = .ok (.baload, 1) := by decide +kernel
theorem dX9_parse_128 : decode cX9_parse 128 = .ok (.bipush 59, 2) := by decide +kernel
theorem dX9_parse_130 : decode cX9_parse 130 = .ok (.if_icmp .eq 9, 3) := by decide +kernel
theorem dX9_parse_133 : decode cX9_parse 133 = .ok (.sipush 400, 3) := by decide +kernel
theorem dX9_parse_136 : decode cX9_parse 136 = .ok (.iload_n 2, 1) := by decide +kernel
theorem dX9_parse_137 : decode cX9_parse 137 = .ok (.iadd, 1) := by decide +kernel
theorem dX9_parse_138 : decode cX9_parse 138 = .ok (.ireturn, 1) := by decide +kernel
theorem dX9_parse_139 : decode cX9_parse 139 = .ok (.iload_n 2, 1) := by decide +kernel
theorem dX9_parse_140 : decode cX9_parse 140 = .ok (.iconst 1, 1) := by decide +kernel
theorem dX9_parse_141 : decode cX9_parse 141 = .ok (.iadd, 1) := by decide +kernel
theorem dX9_parse_142 : decode cX9_parse 142 = .ok (.istore_n 2, 1) := by decide +kernel
theorem dX9_parse_143 : decode cX9_parse 143 = .ok (.goto (-141), 3) := by decide +kernel
theorem dX9_rules_0 : decode cX9_rules 0 = .ok (.iload_n 1, 1) := by decide +kernel
theorem dX9_rules_1 : decode cX9_rules 1 = .ok (.ifCond .lt 11, 3) := by decide +kernel
theorem dX9_rules_4 : decode cX9_rules 4 = .ok (.iload_n 1, 1) := by decide +kernel
theorem dX9_rules_5 : decode cX9_rules 5 = .ok (.aload_n 0, 1) := by decide +kernel
theorem dX9_rules_6 : decode cX9_rules 6 = .ok (.getfield 104, 3) := by decide +kernel
theorem dX9_rules_9 : decode cX9_rules 9 = .ok (.if_icmp .le 5, 3) := by decide +kernel
theorem dX9_rules_12 : decode cX9_rules 12 = .ok (.iconst (-1), 1) := by decide +kernel
theorem dX9_rules_13 : decode cX9_rules 13 = .ok (.ireturn, 1) := by decide +kernel
theorem dX9_rules_14 : decode cX9_rules 14 = .ok (.aload_n 0, 1) := by decide +kernel
theorem dX9_rules_15 : decode cX9_rules 15 = .ok (.getfield 26, 3) := by decide +kernel
theorem dX9_rules_18 : decode cX9_rules 18 = .ok (.iconst 0, 1) := by decide +kernel
theorem dX9_rules_19 : decode cX9_rules 19 = .ok (.iconst 5, 1) := by decide +kernel
theorem dX9_rules_20 : decode cX9_rules 20 = .ok (.iastore, 1) := by decide +kernel
theorem dX9_rules_21 : decode cX9_rules 21 = .ok (.aload_n 0, 1) := by decide +kernel
theorem dX9_rules_22 : decode cX9_rules 22 = .ok (.getfield 26, 3) := by decide +kernel
theorem dX9_rules_25 : decode cX9_rules 25 = .ok (.iconst 1, 1) := by decide +kernel
theorem dX9_rules_26 : decode cX9_rules 26 = .ok (.sipush 500, 3) := by decide +kernel
theorem dX9_rules_29 : decode cX9_rules 29 = .ok (.iastore, 1) := by decide +kernel
theorem dX9_rules_30 : decode cX9_rules 30 = .ok (.aload_n 0, 1) := by decide +kernel
theorem dX9_rules_31 : decode cX9_rules 31 = .ok (.getfield 26, 3) := by decide +kernel
theorem dX9_rules_34 : decode cX9_rules 34 = .ok (.iconst 2, 1) := by decide +kernel
theorem dX9_rules_35 : decode cX9_rules 35 = .ok (.bipush 40, 2) := by decide +kernel
theorem dX9_rules_37 : decode cX9_rules 37 = .ok (.iastore, 1) := by decide +kernel
theorem dX9_rules_38 : decode cX9_rules 38 = .ok (.aload_n 0, 1) := by decide +kernel
theorem dX9_rules_39 : decode cX9_rules 39 = .ok (.getfield 26, 3) := by decide +kernel
theorem dX9_rules_42 : decode cX9_rules 42 = .ok (.iconst 3, 1) := by decide +kernel
theorem dX9_rules_43 : decode cX9_rules 43 = .ok (.bipush 90, 2) := by decide +kernel
theorem dX9_rules_45 : decode cX9_rules 45 = .ok (.iastore, 1) := by decide +kernel
theorem dX9_rules_46 : decode cX9_rules 46 = .ok (.aload_n 0, 1) := by decide +kernel
theorem dX9_rules_47 : decode cX9_rules 47 = .ok (.aload_n 0, 1) := by decide +kernel
theorem dX9_rules_48 : decode cX9_rules 48 = .ok (.iload_n 1, 1) := by decide +kernel
theorem dX9_rules_49 : decode cX9_rules 49 = .ok (.invokevirtual 119, 3) := by decide +kernel
theorem dX9_rules_52 : decode cX9_rules 52 = .ok (.putfield 122, 3) := by decide +kernel
theorem dX9_rules_55 : decode cX9_rules 55 = .ok (.aload_n 0, 1) := by decide +kernel
theorem dX9_rules_56 : decode cX9_rules 56 = .ok (.iconst 0, 1) := by decide +kernel
theorem dX9_rules_57 : decode cX9_rules 57 = .ok (.putfield 104, 3) := by decide +kernel
theorem dX9_rules_60 : decode cX9_rules 60 = .ok (.aload_n 0, 1) := by decide +kernel
theorem dX9_rules_61 : decode cX9_rules 61 = .ok (.getfield 122, 3) := by decide +kernel
theorem dX9_rules_64 : decode cX9_rules 64 = .ok (.ifCond .eq 8, 3) := by decide +kernel
theorem dX9_rules_67 : decode cX9_rules 67 = .ok (.aload_n 0, 1) := by decide +kernel
theorem dX9_rules_68 : decode cX9_rules 68 = .ok (.getfield 122, 3) := by decide +kernel
theorem dX9_rules_71 : decode cX9_rules 71 = .ok (.ireturn, 1) := by decide +kernel
theorem dX9_rules_72 : decode cX9_rules 72 = .ok (.aload_n 0, 1) := by decide +kernel
theorem dX9_rules_73 : decode cX9_rules 73 = .ok (.aload_n 0, 1) := by decide +kernel
theorem dX9_rules_74 : decode cX9_rules 74 = .ok (.getfield 26, 3) := by decide +kernel
theorem dX9_rules_77 : decode cX9_rules 77 = .ok (.iconst 0, 1) := by decide +kernel
theorem dX9_rules_78 : decode cX9_rules 78 = .ok (.iaload, 1) := by decide +kernel
theorem dX9_rules_79 : decode cX9_rules 79 = .ok (.putfield 13, 3) := by decide +kernel
theorem dX9_rules_82 : decode cX9_rules 82 = .ok (.aload_n 0, 1) := by decide +kernel
theorem dX9_rules_83 : decode cX9_rules 83 = .ok (.aload_n 0, 1) := by decide +kernel
theorem dX9_rules_84 : decode cX9_rules 84 = .ok (.getfield 26, 3) := by decide +kernel
theorem dX9_rules_87 : decode cX9_rules 87 = .ok (.iconst 1, 1) := by decide +kernel
theorem dX9_rules_88 : decode cX9_rules 88 = .ok (.iaload, 1) := by decide +kernel
theorem dX9_rules_89 : decode cX9_rules 89 = .ok (.putfield 17, 3) := by decide +kernel
theorem dX9_rules_92 : decode cX9_rules 92 = .ok (.aload_n 0, 1) := by decide +kernel
theorem dX9_rules_93 : decode cX9_rules 93 = .ok (.aload_n 0, 1) := by decide +kernel
theorem dX9_rules_94 : decode cX9_rules 94 = .ok (.getfield 26, 3) := by decide +kernel
theorem dX9_rules_97 : decode cX9_rules 97 = .ok (.iconst 2, 1) := by decide +kernel
theorem dX9_rules_98 : decode cX9_rules 98 = .ok (.iaload, 1) := by decide +kernel
theorem dX9_rules_99 : decode cX9_rules 99 = .ok (.putfield 20, 3) := by decide +kernel
theorem dX9_rules_102 : decode cX9_rules 102 = .ok (.aload_n 0, 1) := by decide +kernel
theorem dX9_rules_103 : decode cX9_rules 103 = .ok (.aload_n 0, 1) := by decide +kernel
theorem dX9_rules_104 : decode cX9_rules 104 = .ok (.getfield 26, 3) := by decide +kernel
theorem dX9_rules_107 : decode cX9_rules 107 = .ok (.iconst 3, 1) := by decide +kernel
theorem dX9_rules_108 : decode cX9_rules 108 = .ok (.iaload, 1) := by decide +kernel
theorem dX9_rules_109 : decode cX9_rules 109 = .ok (.putfield 23, 3) := by decide +kernel
theorem dX9_rules_112 : decode cX9_rules 112 = .ok (.iconst 0, 1) := by decide +kernel
theorem dX9_rules_113 : decode cX9_rules 113 = .ok (.ireturn, 1) := by decide +kernel
theorem dX9_rule_0 : decode cX9_rule 0 = .ok (.iload_n 1, 1) := by decide +kernel
theorem dX9_rule_1 : decode cX9_rule 1 = .ok (.tableswitch 51 0 3 #[31, 36, 41, 46], 31) := by decide +kernel
theorem dX9_rule_32 : decode cX9_rule 32 = .ok (.aload_n 0, 1) := by decide +kernel
theorem dX9_rule_33 : decode cX9_rule 33 = .ok (.getfield 13, 3) := by decide +kernel
theorem dX9_rule_36 : decode cX9_rule 36 = .ok (.ireturn, 1) := by decide +kernel
theorem dX9_rule_37 : decode cX9_rule 37 = .ok (.aload_n 0, 1) := by decide +kernel
theorem dX9_rule_38 : decode cX9_rule 38 = .ok (.getfield 17, 3) := by decide +kernel
theorem dX9_rule_41 : decode cX9_rule 41 = .ok (.ireturn, 1) := by decide +kernel
theorem dX9_rule_42 : decode cX9_rule 42 = .ok (.aload_n 0, 1) := by decide +kernel
theorem dX9_rule_43 : decode cX9_rule 43 = .ok (.getfield 20, 3) := by decide +kernel
theorem dX9_rule_46 : decode cX9_rule 46 = .ok (.ireturn, 1) := by decide +kernel
theorem dX9_rule_47 : decode cX9_rule 47 = .ok (.aload_n 0, 1) := by decide +kernel
theorem dX9_rule_48 : decode cX9_rule 48 = .ok (.getfield 23, 3) := by decide +kernel
theorem dX9_rule_51 : decode cX9_rule 51 = .ok (.ireturn, 1) := by decide +kernel
theorem dX9_rule_52 : decode cX9_rule 52 = .ok (.iconst (-1), 1) := by decide +kernel
theorem dX9_rule_53 : decode cX9_rule 53 = .ok (.ireturn, 1) := by decide +kernel
theorem dX9_alp_0 : decode cX9_alp 0 = .ok (.iload_n 1, 1) := by decide +kernel
theorem dX9_alp_1 : decode cX9_alp 1 = .ok (.iconst 1, 1) := by decide +kernel
theorem dX9_alp_2 : decode cX9_alp 2 = .ok (.if_icmp .lt 39, 3) := by decide +kernel
theorem dX9_alp_5 : decode cX9_alp 5 = .ok (.iload_n 1, 1) := by decide +kernel
theorem dX9_alp_6 : decode cX9_alp 6 = .ok (.bipush 6, 2) := by decide +kernel
theorem dX9_alp_8 : decode cX9_alp 8 = .ok (.if_icmp .gt 33, 3) := by decide +kernel
theorem dX9_alp_11 : decode cX9_alp 11 = .ok (.aload_n 0, 1) := by decide +kernel
theorem dX9_alp_12 : decode cX9_alp 12 = .ok (.getfield 125, 3) := by decide +kernel
theorem dX9_alp_15 : decode cX9_alp 15 = .ok (.ifCond .gt 26, 3) := by decide +kernel
theorem dX9_alp_18 : decode cX9_alp 18 = .ok (.aload_n 0, 1) := by decide +kernel
theorem dX9_alp_19 : decode cX9_alp 19 = .ok (.getfield 36, 3) := by decide +kernel
theorem dX9_alp_22 : decode cX9_alp 22 = .ok (.iconst 1, 1) := by decide +kernel
theorem dX9_alp_23 : decode cX9_alp 23 = .ok (.if_icmp .gt 18, 3) := by decide +kernel
theorem dX9_alp_26 : decode cX9_alp 26 = .ok (.aload_n 0, 1) := by decide +kernel
theorem dX9_alp_27 : decode cX9_alp 27 = .ok (.getfield 33, 3) := by decide +kernel
theorem dX9_alp_30 : decode cX9_alp 30 = .ok (.iconst (-1), 1) := by decide +kernel
theorem dX9_alp_31 : decode cX9_alp 31 = .ok (.if_icmp .ne 10, 3) := by decide +kernel
theorem dX9_alp_34 : decode cX9_alp 34 = .ok (.aload_n 0, 1) := by decide +kernel
theorem dX9_alp_35 : decode cX9_alp 35 = .ok (.getfield 128, 3) := by decide +kernel
theorem dX9_alp_38 : decode cX9_alp 38 = .ok (.ifCond .le 5, 3) := by decide +kernel
theorem dX9_alp_41 : decode cX9_alp 41 = .ok (.iconst 0, 1) := by decide +kernel
theorem dX9_alp_42 : decode cX9_alp 42 = .ok (.ireturn, 1) := by decide +kernel
theorem dX9_alp_43 : decode cX9_alp 43 = .ok (.aload_n 0, 1) := by decide +kernel
theorem dX9_alp_44 : decode cX9_alp 44 = .ok (.iload_n 1, 1) := by decide +kernel
theorem dX9_alp_45 : decode cX9_alp 45 = .ok (.putfield 30, 3) := by decide +kernel
theorem dX9_alp_48 : decode cX9_alp 48 = .ok (.iconst 0, 1) := by decide +kernel
theorem dX9_alp_49 : decode cX9_alp 49 = .ok (.istore_n 2, 1) := by decide +kernel
theorem dX9_alp_50 : decode cX9_alp 50 = .ok (.iload_n 2, 1) := by decide +kernel
theorem dX9_alp_51 : decode cX9_alp 51 = .ok (.bipush 6, 2) := by decide +kernel
theorem dX9_alp_53 : decode cX9_alp 53 = .ok (.if_icmp .ge 30, 3) := by decide +kernel
theorem dX9_alp_56 : decode cX9_alp 56 = .ok (.aload_n 0, 1) := by decide +kernel
theorem dX9_alp_57 : decode cX9_alp 57 = .ok (.getfield 39, 3) := by decide +kernel
theorem dX9_alp_60 : decode cX9_alp 60 = .ok (.iload_n 2, 1) := by decide +kernel
theorem dX9_alp_61 : decode cX9_alp 61 = .ok (.iconst 0, 1) := by decide +kernel
theorem dX9_alp_62 : decode cX9_alp 62 = .ok (.iastore, 1) := by decide +kernel
theorem dX9_alp_63 : decode cX9_alp 63 = .ok (.aload_n 0, 1) := by decide +kernel
theorem dX9_alp_64 : decode cX9_alp 64 = .ok (.getfield 42, 3) := by decide +kernel
theorem dX9_alp_67 : decode cX9_alp 67 = .ok (.iload_n 2, 1) := by decide +kernel
theorem dX9_alp_68 : decode cX9_alp 68 = .ok (.iconst 1, 1) := by decide +kernel
theorem dX9_alp_69 : decode cX9_alp 69 = .ok (.iastore, 1) := by decide +kernel
theorem dX9_alp_70 : decode cX9_alp 70 = .ok (.aload_n 0, 1) := by decide +kernel
theorem dX9_alp_71 : decode cX9_alp 71 = .ok (.getfield 45, 3) := by decide +kernel
theorem dX9_alp_74 : decode cX9_alp 74 = .ok (.iload_n 2, 1) := by decide +kernel
theorem dX9_alp_75 : decode cX9_alp 75 = .ok (.iconst 0, 1) := by decide +kernel
theorem dX9_alp_76 : decode cX9_alp 76 = .ok (.iastore, 1) := by decide +kernel
theorem dX9_alp_77 : decode cX9_alp 77 = .ok (.iinc 2 1, 3) := by decide +kernel
theorem dX9_alp_80 : decode cX9_alp 80 = .ok (.goto (-30), 3) := by decide +kernel
theorem dX9_alp_83 : decode cX9_alp 83 = .ok (.iconst 1, 1) := by decide +kernel
theorem dX9_alp_84 : decode cX9_alp 84 = .ok (.ireturn, 1) := by decide +kernel
theorem dX9_isHeight_0 : decode cX9_isHeight 0 = .ok (.iload_n 1, 1) := by decide +kernel
theorem dX9_isHeight_1 : decode cX9_isHeight 1 = .ok (.ifCond .lt 15, 3) := by decide +kernel
theorem dX9_isHeight_4 : decode cX9_isHeight 4 = .ok (.iload_n 1, 1) := by decide +kernel
theorem dX9_isHeight_5 : decode cX9_isHeight 5 = .ok (.aload_n 0, 1) := by decide +kernel
theorem dX9_isHeight_6 : decode cX9_isHeight 6 = .ok (.getfield 30, 3) := by decide +kernel
theorem dX9_isHeight_9 : decode cX9_isHeight 9 = .ok (.if_icmp .ge 7, 3) := by decide +kernel
theorem dX9_isHeight_12 : decode cX9_isHeight 12 = .ok (.iconst 1, 1) := by decide +kernel
theorem dX9_isHeight_13 : decode cX9_isHeight 13 = .ok (.goto 4, 3) := by decide +kernel
theorem dX9_isHeight_16 : decode cX9_isHeight 16 = .ok (.iconst 0, 1) := by decide +kernel
theorem dX9_isHeight_17 : decode cX9_isHeight 17 = .ok (.ireturn, 1) := by decide +kernel
theorem dX9_height_0 : decode cX9_height 0 = .ok (.aload_n 0, 1) := by decide +kernel
theorem dX9_height_1 : decode cX9_height 1 = .ok (.iload_n 1, 1) := by decide +kernel
theorem dX9_height_2 : decode cX9_height 2 = .ok (.invokevirtual 131, 3) := by decide +kernel
theorem dX9_height_5 : decode cX9_height 5 = .ok (.ifCond .eq 36, 3) := by decide +kernel
theorem dX9_height_8 : decode cX9_height 8 = .ok (.iload_n 2, 1) := by decide +kernel
theorem dX9_height_9 : decode cX9_height 9 = .ok (.ifCond .lt 32, 3) := by decide +kernel
theorem dX9_height_12 : decode cX9_height 12 = .ok (.iload_n 2, 1) := by decide +kernel
theorem dX9_height_13 : decode cX9_height 13 = .ok (.ldc 135, 2) := by decide +kernel
theorem dX9_height_15 : decode cX9_height 15 = .ok (.if_icmp .gt 26, 3) := by decide +kernel
theorem dX9_height_18 : decode cX9_height 18 = .ok (.iload_n 3, 1) := by decide +kernel
theorem dX9_height_19 : decode cX9_height 19 = .ok (.iconst 1, 1) := by decide +kernel
theorem dX9_height_20 : decode cX9_height 20 = .ok (.if_icmp .lt 21, 3) := by decide +kernel
theorem dX9_height_23 : decode cX9_height 23 = .ok (.iload_n 3, 1) := by decide +kernel
theorem dX9_height_24 : decode cX9_height 24 = .ok (.ldc 135, 2) := by decide +kernel
theorem dX9_height_26 : decode cX9_height 26 = .ok (.if_icmp .gt 15, 3) := by decide +kernel
theorem dX9_height_29 : decode cX9_height 29 = .ok (.iload 4, 2) := by decide +kernel
theorem dX9_height_31 : decode cX9_height 31 = .ok (.ifCond .lt 10, 3) := by decide +kernel
theorem dX9_height_34 : decode cX9_height 34 = .ok (.iload 4, 2) := by decide +kernel
theorem dX9_height_36 : decode cX9_height 36 = .ok (.bipush 100, 2) := by decide +kernel
theorem dX9_height_38 : decode cX9_height 38 = .ok (.if_icmp .le 5, 3) := by decide +kernel
theorem dX9_height_41 : decode cX9_height 41 = .ok (.iconst 0, 1) := by decide +kernel
theorem dX9_height_42 : decode cX9_height 42 = .ok (.ireturn, 1) := by decide +kernel
theorem dX9_height_43 : decode cX9_height 43 = .ok (.aload_n 0, 1) := by decide +kernel
theorem dX9_height_44 : decode cX9_height 44 = .ok (.getfield 39, 3) := by decide +kernel
theorem dX9_height_47 : decode cX9_height 47 = .ok (.iload_n 1, 1) := by decide +kernel
theorem dX9_height_48 : decode cX9_height 48 = .ok (.iload_n 2, 1) := by decide +kernel
theorem dX9_height_49 : decode cX9_height 49 = .ok (.iastore, 1) := by decide +kernel
theorem dX9_height_50 : decode cX9_height 50 = .ok (.aload_n 0, 1) := by decide +kernel
theorem dX9_height_51 : decode cX9_height 51 = .ok (.getfield 42, 3) := by decide +kernel
theorem dX9_height_54 : decode cX9_height 54 = .ok (.iload_n 1, 1) := by decide +kernel
theorem dX9_height_55 : decode cX9_height 55 = .ok (.iload_n 3, 1) := by decide +kernel
theorem dX9_height_56 : decode cX9_height 56 = .ok (.iastore, 1) := by decide +kernel
theorem dX9_height_57 : decode cX9_height 57 = .ok (.aload_n 0, 1) := by decide +kernel
theorem dX9_height_58 : decode cX9_height 58 = .ok (.getfield 45, 3) := by decide +kernel
theorem dX9_height_61 : decode cX9_height 61 = .ok (.iload_n 1, 1) := by decide +kernel
theorem dX9_height_62 : decode cX9_height 62 = .ok (.iload 4, 2) := by decide +kernel
theorem dX9_height_64 : decode cX9_height 64 = .ok (.iastore, 1) := by decide +kernel
theorem dX9_height_65 : decode cX9_height 65 = .ok (.iconst 1, 1) := by decide +kernel
theorem dX9_height_66 : decode cX9_height 66 = .ok (.ireturn, 1) := by decide +kernel
theorem dX9_grass_0 : decode cX9_grass 0 = .ok (.aload_n 0, 1) := by decide +kernel
theorem dX9_grass_1 : decode cX9_grass 1 = .ok (.iload_n 1, 1) := by decide +kernel
theorem dX9_grass_2 : decode cX9_grass 2 = .ok (.invokevirtual 131, 3) := by decide +kernel
theorem dX9_grass_5 : decode cX9_grass 5 = .ok (.ifCond .ne 5, 3) := by decide +kernel
theorem dX9_grass_8 : decode cX9_grass 8 = .ok (.iconst (-1), 1) := by decide +kernel
theorem dX9_grass_9 : decode cX9_grass 9 = .ok (.ireturn, 1) := by decide +kernel
theorem dX9_grass_10 : decode cX9_grass 10 = .ok (.iload_n 2, 1) := by decide +kernel
theorem dX9_grass_11 : decode cX9_grass 11 = .ok (.ifCond .ne 12, 3) := by decide +kernel
theorem dX9_grass_14 : decode cX9_grass 14 = .ok (.aload_n 0, 1) := by decide +kernel
theorem dX9_grass_15 : decode cX9_grass 15 = .ok (.getfield 39, 3) := by decide +kernel
theorem dX9_grass_18 : decode cX9_grass 18 = .ok (.iload_n 1, 1) := by decide +kernel
theorem dX9_grass_19 : decode cX9_grass 19 = .ok (.iaload, 1) := by decide +kernel
theorem dX9_grass_20 : decode cX9_grass 20 = .ok (.goto 32, 3) := by decide +kernel
theorem dX9_grass_23 : decode cX9_grass 23 = .ok (.iload_n 2, 1) := by decide +kernel
theorem dX9_grass_24 : decode cX9_grass 24 = .ok (.iconst 1, 1) := by decide +kernel
theorem dX9_grass_25 : decode cX9_grass 25 = .ok (.if_icmp .ne 12, 3) := by decide +kernel
theorem dX9_grass_28 : decode cX9_grass 28 = .ok (.aload_n 0, 1) := by decide +kernel
theorem dX9_grass_29 : decode cX9_grass 29 = .ok (.getfield 42, 3) := by decide +kernel
theorem dX9_grass_32 : decode cX9_grass 32 = .ok (.iload_n 1, 1) := by decide +kernel
theorem dX9_grass_33 : decode cX9_grass 33 = .ok (.iaload, 1) := by decide +kernel
theorem dX9_grass_34 : decode cX9_grass 34 = .ok (.goto 18, 3) := by decide +kernel
theorem dX9_grass_37 : decode cX9_grass 37 = .ok (.iload_n 2, 1) := by decide +kernel
theorem dX9_grass_38 : decode cX9_grass 38 = .ok (.iconst 2, 1) := by decide +kernel
theorem dX9_grass_39 : decode cX9_grass 39 = .ok (.if_icmp .ne 12, 3) := by decide +kernel
theorem dX9_grass_42 : decode cX9_grass 42 = .ok (.aload_n 0, 1) := by decide +kernel
theorem dX9_grass_43 : decode cX9_grass 43 = .ok (.getfield 45, 3) := by decide +kernel
theorem dX9_grass_46 : decode cX9_grass 46 = .ok (.iload_n 1, 1) := by decide +kernel
theorem dX9_grass_47 : decode cX9_grass 47 = .ok (.iaload, 1) := by decide +kernel
theorem dX9_grass_48 : decode cX9_grass 48 = .ok (.goto 4, 3) := by decide +kernel
theorem dX9_grass_51 : decode cX9_grass 51 = .ok (.iconst (-1), 1) := by decide +kernel
theorem dX9_grass_52 : decode cX9_grass 52 = .ok (.ireturn, 1) := by decide +kernel
theorem dX9_move_0 : decode cX9_move 0 = .ok (.iload_n 1, 1) := by decide +kernel
theorem dX9_move_1 : decode cX9_move 1 = .ok (.iconst (-1), 1) := by decide +kernel
theorem dX9_move_2 : decode cX9_move 2 = .ok (.if_icmp .eq 13, 3) := by decide +kernel
theorem dX9_move_5 : decode cX9_move 5 = .ok (.aload_n 0, 1) := by decide +kernel
theorem dX9_move_6 : decode cX9_move 6 = .ok (.iload_n 1, 1) := by decide +kernel
theorem dX9_move_7 : decode cX9_move 7 = .ok (.invokevirtual 131, 3) := by decide +kernel
theorem dX9_move_10 : decode cX9_move 10 = .ok (.ifCond .ne 5, 3) := by decide +kernel
theorem dX9_move_13 : decode cX9_move 13 = .ok (.iconst 0, 1) := by decide +kernel
theorem dX9_move_14 : decode cX9_move 14 = .ok (.ireturn, 1) := by decide +kernel
theorem dX9_move_15 : decode cX9_move 15 = .ok (.aload_n 0, 1) := by decide +kernel
theorem dX9_move_16 : decode cX9_move 16 = .ok (.getfield 33, 3) := by decide +kernel
theorem dX9_move_19 : decode cX9_move 19 = .ok (.iconst (-1), 1) := by decide +kernel
theorem dX9_move_20 : decode cX9_move 20 = .ok (.if_icmp .ne 7, 3) := by decide +kernel
theorem dX9_move_23 : decode cX9_move 23 = .ok (.iload_n 1, 1) := by decide +kernel
theorem dX9_move_24 : decode cX9_move 24 = .ok (.ifCond .eq 15, 3) := by decide +kernel
theorem dX9_move_27 : decode cX9_move 27 = .ok (.aload_n 0, 1) := by decide +kernel
theorem dX9_move_28 : decode cX9_move 28 = .ok (.getfield 33, 3) := by decide +kernel
theorem dX9_move_31 : decode cX9_move 31 = .ok (.ifCond .ne 12, 3) := by decide +kernel
theorem dX9_move_34 : decode cX9_move 34 = .ok (.iload_n 1, 1) := by decide +kernel
theorem dX9_move_35 : decode cX9_move 35 = .ok (.iconst (-1), 1) := by decide +kernel
theorem dX9_move_36 : decode cX9_move 36 = .ok (.if_icmp .ne 7, 3) := by decide +kernel
theorem dX9_move_39 : decode cX9_move 39 = .ok (.iconst 1, 1) := by decide +kernel
theorem dX9_move_40 : decode cX9_move 40 = .ok (.goto 4, 3) := by decide +kernel
theorem dX9_move_43 : decode cX9_move 43 = .ok (.iconst 0, 1) := by decide +kernel
theorem dX9_move_44 : decode cX9_move 44 = .ok (.istore_n 2, 1) := by decide +kernel
theorem dX9_move_45 : decode cX9_move 45 = .ok (.aload_n 0, 1) := by decide +kernel
theorem dX9_move_46 : decode cX9_move 46 = .ok (.getfield 33, 3) := by decide +kernel
theorem dX9_move_49 : decode cX9_move 49 = .ok (.iconst (-1), 1) := by decide +kernel
theorem dX9_move_50 : decode cX9_move 50 = .ok (.if_icmp .eq 32, 3) := by decide +kernel
theorem dX9_move_53 : decode cX9_move 53 = .ok (.iload_n 1, 1) := by decide +kernel
theorem dX9_move_54 : decode cX9_move 54 = .ok (.iconst (-1), 1) := by decide +kernel
theorem dX9_move_55 : decode cX9_move 55 = .ok (.if_icmp .eq 27, 3) := by decide +kernel
theorem dX9_move_58 : decode cX9_move 58 = .ok (.iload_n 1, 1) := by decide +kernel
theorem dX9_move_59 : decode cX9_move 59 = .ok (.aload_n 0, 1) := by decide +kernel
theorem dX9_move_60 : decode cX9_move 60 = .ok (.getfield 33, 3) := by decide +kernel
theorem dX9_move_63 : decode cX9_move 63 = .ok (.iconst 1, 1) := by decide +kernel
theorem dX9_move_64 : decode cX9_move 64 = .ok (.iadd, 1) := by decide +kernel
theorem dX9_move_65 : decode cX9_move 65 = .ok (.if_icmp .eq 13, 3) := by decide +kernel
theorem dX9_move_68 : decode cX9_move 68 = .ok (.iload_n 1, 1) := by decide +kernel
theorem dX9_move_69 : decode cX9_move 69 = .ok (.aload_n 0, 1) := by decide +kernel
theorem dX9_move_70 : decode cX9_move 70 = .ok (.getfield 33, 3) := by decide +kernel
theorem dX9_move_73 : decode cX9_move 73 = .ok (.iconst 1, 1) := by decide +kernel
theorem dX9_move_74 : decode cX9_move 74 = .ok (.isub, 1) := by decide +kernel
theorem dX9_move_75 : decode cX9_move 75 = .ok (.if_icmp .ne 7, 3) := by decide +kernel
theorem dX9_move_78 : decode cX9_move 78 = .ok (.iconst 1, 1) := by decide +kernel
theorem dX9_move_79 : decode cX9_move 79 = .ok (.goto 4, 3) := by decide +kernel
theorem dX9_move_82 : decode cX9_move 82 = .ok (.iconst 0, 1) := by decide +kernel
theorem dX9_move_83 : decode cX9_move 83 = .ok (.istore_n 3, 1) := by decide +kernel
theorem dX9_move_84 : decode cX9_move 84 = .ok (.iload_n 2, 1) := by decide +kernel
theorem dX9_move_85 : decode cX9_move 85 = .ok (.ifCond .eq 12, 3) := by decide +kernel
theorem dX9_move_88 : decode cX9_move 88 = .ok (.aload_n 0, 1) := by decide +kernel
theorem dX9_move_89 : decode cX9_move 89 = .ok (.getfield 136, 3) := by decide +kernel
theorem dX9_move_92 : decode cX9_move 92 = .ok (.bipush 20, 2) := by decide +kernel
theorem dX9_move_94 : decode cX9_move 94 = .ok (.if_icmp .le 9, 3) := by decide +kernel
theorem dX9_move_97 : decode cX9_move 97 = .ok (.iload_n 3, 1) := by decide +kernel
theorem dX9_move_98 : decode cX9_move 98 = .ok (.ifCond .ne 5, 3) := by decide +kernel
theorem dX9_move_101 : decode cX9_move 101 = .ok (.iconst 0, 1) := by decide +kernel
theorem dX9_move_102 : decode cX9_move 102 = .ok (.ireturn, 1) := by decide +kernel
theorem dX9_move_103 : decode cX9_move 103 = .ok (.aload_n 0, 1) := by decide +kernel
theorem dX9_move_104 : decode cX9_move 104 = .ok (.iload_n 1, 1) := by decide +kernel
theorem dX9_move_105 : decode cX9_move 105 = .ok (.putfield 33, 3) := by decide +kernel
theorem dX9_move_108 : decode cX9_move 108 = .ok (.iconst 1, 1) := by decide +kernel
theorem dX9_move_109 : decode cX9_move 109 = .ok (.ireturn, 1) := by decide +kernel
theorem dX9_grows_0 : decode cX9_grows 0 = .ok (.iconst 0, 1) := by decide +kernel
theorem dX9_grows_1 : decode cX9_grows 1 = .ok (.istore_n 2, 1) := by decide +kernel
theorem dX9_grows_2 : decode cX9_grows 2 = .ok (.iload_n 2, 1) := by decide +kernel
theorem dX9_grows_3 : decode cX9_grows 3 = .ok (.aload_n 0, 1) := by decide +kernel
theorem dX9_grows_4 : decode cX9_grows 4 = .ok (.getfield 30, 3) := by decide +kernel
theorem dX9_grows_7 : decode cX9_grows 7 = .ok (.if_icmp .ge 93, 3) := by decide +kernel
theorem dX9_grows_10 : decode cX9_grows 10 = .ok (.aload_n 0, 1) := by decide +kernel
theorem dX9_grows_11 : decode cX9_grows 11 = .ok (.getfield 45, 3) := by decide +kernel
theorem dX9_grows_14 : decode cX9_grows 14 = .ok (.iload_n 2, 1) := by decide +kernel
theorem dX9_grows_15 : decode cX9_grows 15 = .ok (.iaload, 1) := by decide +kernel
theorem dX9_grows_16 : decode cX9_grows 16 = .ok (.iload_n 1, 1) := by decide +kernel
theorem dX9_grows_17 : decode cX9_grows 17 = .ok (.iconst 3, 1) := by decide +kernel
theorem dX9_grows_18 : decode cX9_grows 18 = .ok (.iload_n 2, 1) := by decide +kernel
theorem dX9_grows_19 : decode cX9_grows 19 = .ok (.imul, 1) := by decide +kernel
theorem dX9_grows_20 : decode cX9_grows 20 = .ok (.isub, 1) := by decide +kernel
theorem dX9_grows_21 : decode cX9_grows 21 = .ok (.imul, 1) := by decide +kernel
theorem dX9_grows_22 : decode cX9_grows 22 = .ok (.istore_n 3, 1) := by decide +kernel
theorem dX9_grows_23 : decode cX9_grows 23 = .ok (.iload_n 3, 1) := by decide +kernel
theorem dX9_grows_24 : decode cX9_grows 24 = .ok (.ifCond .gt 6, 3) := by decide +kernel
theorem dX9_grows_27 : decode cX9_grows 27 = .ok (.goto 67, 3) := by decide +kernel
theorem dX9_grows_30 : decode cX9_grows 30 = .ok (.aload_n 0, 1) := by decide +kernel
theorem dX9_grows_31 : decode cX9_grows 31 = .ok (.getfield 39, 3) := by decide +kernel
theorem dX9_grows_34 : decode cX9_grows 34 = .ok (.iload_n 2, 1) := by decide +kernel
theorem dX9_grows_35 : decode cX9_grows 35 = .ok (.iaload, 1) := by decide +kernel
theorem dX9_grows_36 : decode cX9_grows 36 = .ok (.aload_n 0, 1) := by decide +kernel
theorem dX9_grows_37 : decode cX9_grows 37 = .ok (.getfield 42, 3) := by decide +kernel
theorem dX9_grows_40 : decode cX9_grows 40 = .ok (.iload_n 2, 1) := by decide +kernel
theorem dX9_grows_41 : decode cX9_grows 41 = .ok (.iaload, 1) := by decide +kernel
theorem dX9_grows_42 : decode cX9_grows 42 = .ok (.if_icmp .le 12, 3) := by decide +kernel
theorem dX9_grows_45 : decode cX9_grows 45 = .ok (.aload_n 0, 1) := by decide +kernel
theorem dX9_grows_46 : decode cX9_grows 46 = .ok (.getfield 39, 3) := by decide +kernel
theorem dX9_grows_49 : decode cX9_grows 49 = .ok (.iload_n 2, 1) := by decide +kernel
theorem dX9_grows_50 : decode cX9_grows 50 = .ok (.iaload, 1) := by decide +kernel
theorem dX9_grows_51 : decode cX9_grows 51 = .ok (.goto 9, 3) := by decide +kernel
theorem dX9_grows_54 : decode cX9_grows 54 = .ok (.aload_n 0, 1) := by decide +kernel
theorem dX9_grows_55 : decode cX9_grows 55 = .ok (.getfield 42, 3) := by decide +kernel
theorem dX9_grows_58 : decode cX9_grows 58 = .ok (.iload_n 2, 1) := by decide +kernel
theorem dX9_grows_59 : decode cX9_grows 59 = .ok (.iaload, 1) := by decide +kernel
theorem dX9_grows_60 : decode cX9_grows 60 = .ok (.istore 4, 2) := by decide +kernel
theorem dX9_grows_62 : decode cX9_grows 62 = .ok (.aload_n 0, 1) := by decide +kernel
theorem dX9_grows_63 : decode cX9_grows 63 = .ok (.getfield 39, 3) := by decide +kernel
theorem dX9_grows_66 : decode cX9_grows 66 = .ok (.iload_n 2, 1) := by decide +kernel
theorem dX9_grows_67 : decode cX9_grows 67 = .ok (.aload_n 0, 1) := by decide +kernel
theorem dX9_grows_68 : decode cX9_grows 68 = .ok (.getfield 39, 3) := by decide +kernel
theorem dX9_grows_71 : decode cX9_grows 71 = .ok (.iload_n 2, 1) := by decide +kernel
theorem dX9_grows_72 : decode cX9_grows 72 = .ok (.iaload, 1) := by decide +kernel
theorem dX9_grows_73 : decode cX9_grows 73 = .ok (.iload_n 3, 1) := by decide +kernel
theorem dX9_grows_74 : decode cX9_grows 74 = .ok (.iadd, 1) := by decide +kernel
theorem dX9_grows_75 : decode cX9_grows 75 = .ok (.iload 4, 2) := by decide +kernel
theorem dX9_grows_77 : decode cX9_grows 77 = .ok (.if_icmp .le 8, 3) := by decide +kernel
theorem dX9_grows_80 : decode cX9_grows 80 = .ok (.iload 4, 2) := by decide +kernel
theorem dX9_grows_82 : decode cX9_grows 82 = .ok (.goto 11, 3) := by decide +kernel
theorem dX9_grows_85 : decode cX9_grows 85 = .ok (.aload_n 0, 1) := by decide +kernel
theorem dX9_grows_86 : decode cX9_grows 86 = .ok (.getfield 39, 3) := by decide +kernel
theorem dX9_grows_89 : decode cX9_grows 89 = .ok (.iload_n 2, 1) := by decide +kernel
theorem dX9_grows_90 : decode cX9_grows 90 = .ok (.iaload, 1) := by decide +kernel
theorem dX9_grows_91 : decode cX9_grows 91 = .ok (.iload_n 3, 1) := by decide +kernel
theorem dX9_grows_92 : decode cX9_grows 92 = .ok (.iadd, 1) := by decide +kernel
theorem dX9_grows_93 : decode cX9_grows 93 = .ok (.iastore, 1) := by decide +kernel
theorem dX9_grows_94 : decode cX9_grows 94 = .ok (.iinc 2 1, 3) := by decide +kernel
theorem dX9_grows_97 : decode cX9_grows 97 = .ok (.goto (-95), 3) := by decide +kernel
theorem dX9_grows_100 : decode cX9_grows 100 = .ok (.return_, 1) := by decide +kernel
theorem dX9_eats_0 : decode cX9_eats 0 = .ok (.bipush 10, 2) := by decide +kernel
theorem dX9_eats_2 : decode cX9_eats 2 = .ok (.iload_n 2, 1) := by decide +kernel
theorem dX9_eats_3 : decode cX9_eats 3 = .ok (.imul, 1) := by decide +kernel
theorem dX9_eats_4 : decode cX9_eats 4 = .ok (.istore_n 3, 1) := by decide +kernel
theorem dX9_eats_5 : decode cX9_eats 5 = .ok (.iload_n 3, 1) := by decide +kernel
theorem dX9_eats_6 : decode cX9_eats 6 = .ok (.aload_n 0, 1) := by decide +kernel
theorem dX9_eats_7 : decode cX9_eats 7 = .ok (.getfield 39, 3) := by decide +kernel
theorem dX9_eats_10 : decode cX9_eats 10 = .ok (.iload_n 1, 1) := by decide +kernel
theorem dX9_eats_11 : decode cX9_eats 11 = .ok (.iaload, 1) := by decide +kernel
theorem dX9_eats_12 : decode cX9_eats 12 = .ok (.if_icmp .ge 7, 3) := by decide +kernel
theorem dX9_eats_15 : decode cX9_eats 15 = .ok (.iload_n 3, 1) := by decide +kernel
theorem dX9_eats_16 : decode cX9_eats 16 = .ok (.goto 9, 3) := by decide +kernel
theorem dX9_eats_19 : decode cX9_eats 19 = .ok (.aload_n 0, 1) := by decide +kernel
theorem dX9_eats_20 : decode cX9_eats 20 = .ok (.getfield 39, 3) := by decide +kernel
theorem dX9_eats_23 : decode cX9_eats 23 = .ok (.iload_n 1, 1) := by decide +kernel
theorem dX9_eats_24 : decode cX9_eats 24 = .ok (.iaload, 1) := by decide +kernel
theorem dX9_eats_25 : decode cX9_eats 25 = .ok (.istore 4, 2) := by decide +kernel
theorem dX9_eats_27 : decode cX9_eats 27 = .ok (.aload_n 0, 1) := by decide +kernel
theorem dX9_eats_28 : decode cX9_eats 28 = .ok (.getfield 39, 3) := by decide +kernel
theorem dX9_eats_31 : decode cX9_eats 31 = .ok (.iload_n 1, 1) := by decide +kernel
theorem dX9_eats_32 : decode cX9_eats 32 = .ok (.aload_n 0, 1) := by decide +kernel
theorem dX9_eats_33 : decode cX9_eats 33 = .ok (.getfield 39, 3) := by decide +kernel
theorem dX9_eats_36 : decode cX9_eats 36 = .ok (.iload_n 1, 1) := by decide +kernel
theorem dX9_eats_37 : decode cX9_eats 37 = .ok (.iaload, 1) := by decide +kernel
theorem dX9_eats_38 : decode cX9_eats 38 = .ok (.iload 4, 2) := by decide +kernel
theorem dX9_eats_40 : decode cX9_eats 40 = .ok (.isub, 1) := by decide +kernel
theorem dX9_eats_41 : decode cX9_eats 41 = .ok (.iastore, 1) := by decide +kernel
theorem dX9_eats_42 : decode cX9_eats 42 = .ok (.iload_n 3, 1) := by decide +kernel
theorem dX9_eats_43 : decode cX9_eats 43 = .ok (.iload 4, 2) := by decide +kernel
theorem dX9_eats_45 : decode cX9_eats 45 = .ok (.isub, 1) := by decide +kernel
theorem dX9_eats_46 : decode cX9_eats 46 = .ok (.ireturn, 1) := by decide +kernel
theorem dX9_day_0 : decode cX9_day 0 = .ok (.iload_n 1, 1) := by decide +kernel
theorem dX9_day_1 : decode cX9_day 1 = .ok (.bipush (-30), 2) := by decide +kernel
theorem dX9_day_3 : decode cX9_day 3 = .ok (.if_icmp .lt 30, 3) := by decide +kernel
theorem dX9_day_6 : decode cX9_day 6 = .ok (.iload_n 1, 1) := by decide +kernel
theorem dX9_day_7 : decode cX9_day 7 = .ok (.bipush 40, 2) := by decide +kernel
theorem dX9_day_9 : decode cX9_day 9 = .ok (.if_icmp .gt 24, 3) := by decide +kernel
theorem dX9_day_12 : decode cX9_day 12 = .ok (.iload_n 2, 1) := by decide +kernel
theorem dX9_day_13 : decode cX9_day 13 = .ok (.ifCond .lt 20, 3) := by decide +kernel
theorem dX9_day_16 : decode cX9_day 16 = .ok (.iload_n 2, 1) := by decide +kernel
theorem dX9_day_17 : decode cX9_day 17 = .ok (.sipush 300, 3) := by decide +kernel
theorem dX9_day_20 : decode cX9_day 20 = .ok (.if_icmp .gt 13, 3) := by decide +kernel
theorem dX9_day_23 : decode cX9_day 23 = .ok (.aload_n 0, 1) := by decide +kernel
theorem dX9_day_24 : decode cX9_day 24 = .ok (.getfield 125, 3) := by decide +kernel
theorem dX9_day_27 : decode cX9_day 27 = .ok (.sipush 150, 3) := by decide +kernel
