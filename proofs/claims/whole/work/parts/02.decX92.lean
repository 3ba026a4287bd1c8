theorem dX9_look_59 : decode cX9_look 59 = .ok (.aload_n 0, 1) := by decide +kernel
theorem dX9_look_60 : decode cX9_look 60 = .ok (.getfield 178, 3) := by decide +kernel
theorem dX9_look_63 : decode cX9_look 63 = .ok (.ifCond .eq 7, 3) := by decide +kernel
theorem dX9_look_66 : decode cX9_look 66 = .ok (.iconst 2, 1) := by decide +kernel
theorem dX9_look_67 : decode cX9_look 67 = .ok (.goto 15, 3) := by decide +kernel
theorem dX9_look_70 : decode cX9_look 70 = .ok (.aload_n 0, 1) := by decide +kernel
theorem dX9_look_71 : decode cX9_look 71 = .ok (.getfield 174, 3) := by decide +kernel
theorem dX9_look_74 : decode cX9_look 74 = .ok (.ifCond .eq 7, 3) := by decide +kernel
theorem dX9_look_77 : decode cX9_look 77 = .ok (.iconst 1, 1) := by decide +kernel
theorem dX9_look_78 : decode cX9_look 78 = .ok (.goto 4, 3) := by decide +kernel
theorem dX9_look_81 : decode cX9_look 81 = .ok (.iconst 0, 1) := by decide +kernel
theorem dX9_look_82 : decode cX9_look 82 = .ok (.ireturn, 1) := by decide +kernel
theorem dX9_milking_0 : decode cX9_milking 0 = .ok (.iload_n 1, 1) := by decide +kernel
theorem dX9_milking_1 : decode cX9_milking 1 = .ok (.iconst 1, 1) := by decide +kernel
theorem dX9_milking_2 : decode cX9_milking 2 = .ok (.if_icmp .lt 18, 3) := by decide +kernel
theorem dX9_milking_5 : decode cX9_milking 5 = .ok (.iload_n 1, 1) := by decide +kernel
theorem dX9_milking_6 : decode cX9_milking 6 = .ok (.sipush 150, 3) := by decide +kernel
theorem dX9_milking_9 : decode cX9_milking 9 = .ok (.if_icmp .gt 11, 3) := by decide +kernel
theorem dX9_milking_12 : decode cX9_milking 12 = .ok (.aload_n 0, 1) := by decide +kernel
theorem dX9_milking_13 : decode cX9_milking 13 = .ok (.getfield 57, 3) := by decide +kernel
theorem dX9_milking_16 : decode cX9_milking 16 = .ok (.iconst (-1), 1) := by decide +kernel
theorem dX9_milking_17 : decode cX9_milking 17 = .ok (.if_icmp .eq 5, 3) := by decide +kernel
theorem dX9_milking_20 : decode cX9_milking 20 = .ok (.iconst 0, 1) := by decide +kernel
theorem dX9_milking_21 : decode cX9_milking 21 = .ok (.ireturn, 1) := by decide +kernel
theorem dX9_milking_22 : decode cX9_milking 22 = .ok (.aload_n 0, 1) := by decide +kernel
theorem dX9_milking_23 : decode cX9_milking 23 = .ok (.iload_n 1, 1) := by decide +kernel
theorem dX9_milking_24 : decode cX9_milking 24 = .ok (.putfield 57, 3) := by decide +kernel
theorem dX9_milking_27 : decode cX9_milking 27 = .ok (.iconst 1, 1) := by decide +kernel
theorem dX9_milking_28 : decode cX9_milking 28 = .ok (.ireturn, 1) := by decide +kernel
theorem dX9_milk_0 : decode cX9_milk 0 = .ok (.aload_n 0, 1) := by decide +kernel
theorem dX9_milk_1 : decode cX9_milk 1 = .ok (.iload_n 1, 1) := by decide +kernel
theorem dX9_milk_2 : decode cX9_milk 2 = .ok (.invokevirtual 194, 3) := by decide +kernel
theorem dX9_milk_5 : decode cX9_milk 5 = .ok (.ifCond .eq 22, 3) := by decide +kernel
theorem dX9_milk_8 : decode cX9_milk 8 = .ok (.iload_n 2, 1) := by decide +kernel
theorem dX9_milk_9 : decode cX9_milk 9 = .ok (.ifCond .lt 18, 3) := by decide +kernel
theorem dX9_milk_12 : decode cX9_milk 12 = .ok (.iload_n 2, 1) := by decide +kernel
theorem dX9_milk_13 : decode cX9_milk 13 = .ok (.sipush 5000, 3) := by decide +kernel
theorem dX9_milk_16 : decode cX9_milk 16 = .ok (.if_icmp .gt 11, 3) := by decide +kernel
theorem dX9_milk_19 : decode cX9_milk 19 = .ok (.aload_n 0, 1) := by decide +kernel
theorem dX9_milk_20 : decode cX9_milk 20 = .ok (.getfield 57, 3) := by decide +kernel
theorem dX9_milk_23 : decode cX9_milk 23 = .ok (.iconst (-1), 1) := by decide +kernel
theorem dX9_milk_24 : decode cX9_milk 24 = .ok (.if_icmp .ne 5, 3) := by decide +kernel
theorem dX9_milk_27 : decode cX9_milk 27 = .ok (.iconst 0, 1) := by decide +kernel
theorem dX9_milk_28 : decode cX9_milk 28 = .ok (.ireturn, 1) := by decide +kernel
theorem dX9_milk_29 : decode cX9_milk 29 = .ok (.aload_n 0, 1) := by decide +kernel
theorem dX9_milk_30 : decode cX9_milk 30 = .ok (.getfield 63, 3) := by decide +kernel
theorem dX9_milk_33 : decode cX9_milk 33 = .ok (.iload_n 1, 1) := by decide +kernel
theorem dX9_milk_34 : decode cX9_milk 34 = .ok (.iload_n 2, 1) := by decide +kernel
theorem dX9_milk_35 : decode cX9_milk 35 = .ok (.iastore, 1) := by decide +kernel
theorem dX9_milk_36 : decode cX9_milk 36 = .ok (.iconst 1, 1) := by decide +kernel
theorem dX9_milk_37 : decode cX9_milk 37 = .ok (.ireturn, 1) := by decide +kernel
theorem dX9_creditOf_0 : decode cX9_creditOf 0 = .ok (.aload_n 0, 1) := by decide +kernel
theorem dX9_creditOf_1 : decode cX9_creditOf 1 = .ok (.getfield 125, 3) := by decide +kernel
theorem dX9_creditOf_4 : decode cX9_creditOf 4 = .ok (.ifCond .eq 11, 3) := by decide +kernel
theorem dX9_creditOf_7 : decode cX9_creditOf 7 = .ok (.aload_n 0, 1) := by decide +kernel
theorem dX9_creditOf_8 : decode cX9_creditOf 8 = .ok (.getfield 57, 3) := by decide +kernel
theorem dX9_creditOf_11 : decode cX9_creditOf 11 = .ok (.iconst (-1), 1) := by decide +kernel
theorem dX9_creditOf_12 : decode cX9_creditOf 12 = .ok (.if_icmp .ne 5, 3) := by decide +kernel
theorem dX9_creditOf_15 : decode cX9_creditOf 15 = .ok (.iconst 0, 1) := by decide +kernel
theorem dX9_creditOf_16 : decode cX9_creditOf 16 = .ok (.ireturn, 1) := by decide +kernel
theorem dX9_creditOf_17 : decode cX9_creditOf 17 = .ok (.aload_n 0, 1) := by decide +kernel
theorem dX9_creditOf_18 : decode cX9_creditOf 18 = .ok (.iload_n 1, 1) := by decide +kernel
theorem dX9_creditOf_19 : decode cX9_creditOf 19 = .ok (.iload_n 2, 1) := by decide +kernel
theorem dX9_creditOf_20 : decode cX9_creditOf 20 = .ok (.aload_n 0, 1) := by decide +kernel
theorem dX9_creditOf_21 : decode cX9_creditOf 21 = .ok (.getfield 57, 3) := by decide +kernel
theorem dX9_creditOf_24 : decode cX9_creditOf 24 = .ok (.invokevirtual 190, 3) := by decide +kernel
theorem dX9_creditOf_27 : decode cX9_creditOf 27 = .ok (.pop, 1) := by decide +kernel
theorem dX9_creditOf_28 : decode cX9_creditOf 28 = .ok (.aload_n 0, 1) := by decide +kernel
theorem dX9_creditOf_29 : decode cX9_creditOf 29 = .ok (.getfield 174, 3) := by decide +kernel
theorem dX9_creditOf_32 : decode cX9_creditOf 32 = .ok (.ifCond .ne 5, 3) := by decide +kernel
theorem dX9_creditOf_35 : decode cX9_creditOf 35 = .ok (.iconst 0, 1) := by decide +kernel
theorem dX9_creditOf_36 : decode cX9_creditOf 36 = .ok (.ireturn, 1) := by decide +kernel
theorem dX9_creditOf_37 : decode cX9_creditOf 37 = .ok (.iconst 0, 1) := by decide +kernel
theorem dX9_creditOf_38 : decode cX9_creditOf 38 = .ok (.istore_n 3, 1) := by decide +kernel
theorem dX9_creditOf_39 : decode cX9_creditOf 39 = .ok (.iconst 1, 1) := by decide +kernel
theorem dX9_creditOf_40 : decode cX9_creditOf 40 = .ok (.istore 4, 2) := by decide +kernel
theorem dX9_creditOf_42 : decode cX9_creditOf 42 = .ok (.iload 4, 2) := by decide +kernel
theorem dX9_creditOf_44 : decode cX9_creditOf 44 = .ok (.aload_n 0, 1) := by decide +kernel
theorem dX9_creditOf_45 : decode cX9_creditOf 45 = .ok (.getfield 125, 3) := by decide +kernel
theorem dX9_creditOf_48 : decode cX9_creditOf 48 = .ok (.if_icmp .gt 33, 3) := by decide +kernel
theorem dX9_creditOf_51 : decode cX9_creditOf 51 = .ok (.aload_n 0, 1) := by decide +kernel
theorem dX9_creditOf_52 : decode cX9_creditOf 52 = .ok (.iload_n 1, 1) := by decide +kernel
theorem dX9_creditOf_53 : decode cX9_creditOf 53 = .ok (.iload_n 2, 1) := by decide +kernel
theorem dX9_creditOf_54 : decode cX9_creditOf 54 = .ok (.iload 4, 2) := by decide +kernel
theorem dX9_creditOf_56 : decode cX9_creditOf 56 = .ok (.invokevirtual 190, 3) := by decide +kernel
theorem dX9_creditOf_59 : decode cX9_creditOf 59 = .ok (.pop, 1) := by decide +kernel
theorem dX9_creditOf_60 : decode cX9_creditOf 60 = .ok (.iload_n 3, 1) := by decide +kernel
theorem dX9_creditOf_61 : decode cX9_creditOf 61 = .ok (.aload_n 0, 1) := by decide +kernel
theorem dX9_creditOf_62 : decode cX9_creditOf 62 = .ok (.getfield 174, 3) := by decide +kernel
theorem dX9_creditOf_65 : decode cX9_creditOf 65 = .ok (.ifCond .eq 7, 3) := by decide +kernel
theorem dX9_creditOf_68 : decode cX9_creditOf 68 = .ok (.iconst 0, 1) := by decide +kernel
theorem dX9_creditOf_69 : decode cX9_creditOf 69 = .ok (.goto 4, 3) := by decide +kernel
theorem dX9_creditOf_72 : decode cX9_creditOf 72 = .ok (.iconst 1, 1) := by decide +kernel
theorem dX9_creditOf_73 : decode cX9_creditOf 73 = .ok (.iadd, 1) := by decide +kernel
theorem dX9_creditOf_74 : decode cX9_creditOf 74 = .ok (.istore_n 3, 1) := by decide +kernel
theorem dX9_creditOf_75 : decode cX9_creditOf 75 = .ok (.iinc 4 1, 3) := by decide +kernel
theorem dX9_creditOf_78 : decode cX9_creditOf 78 = .ok (.goto (-36), 3) := by decide +kernel
theorem dX9_creditOf_81 : decode cX9_creditOf 81 = .ok (.aload_n 0, 1) := by decide +kernel
theorem dX9_creditOf_82 : decode cX9_creditOf 82 = .ok (.getfield 17, 3) := by decide +kernel
theorem dX9_creditOf_85 : decode cX9_creditOf 85 = .ok (.sipush 1000, 3) := by decide +kernel
theorem dX9_creditOf_88 : decode cX9_creditOf 88 = .ok (.if_icmp .le 9, 3) := by decide +kernel
theorem dX9_creditOf_91 : decode cX9_creditOf 91 = .ok (.sipush 1000, 3) := by decide +kernel
theorem dX9_creditOf_94 : decode cX9_creditOf 94 = .ok (.goto 7, 3) := by decide +kernel
theorem dX9_creditOf_97 : decode cX9_creditOf 97 = .ok (.aload_n 0, 1) := by decide +kernel
theorem dX9_creditOf_98 : decode cX9_creditOf 98 = .ok (.getfield 17, 3) := by decide +kernel
theorem dX9_creditOf_101 : decode cX9_creditOf 101 = .ok (.istore 4, 2) := by decide +kernel
theorem dX9_creditOf_103 : decode cX9_creditOf 103 = .ok (.sipush 1000, 3) := by decide +kernel
theorem dX9_creditOf_106 : decode cX9_creditOf 106 = .ok (.aload_n 0, 1) := by decide +kernel
theorem dX9_creditOf_107 : decode cX9_creditOf 107 = .ok (.getfield 13, 3) := by decide +kernel
theorem dX9_creditOf_110 : decode cX9_creditOf 110 = .ok (.iload_n 3, 1) := by decide +kernel
theorem dX9_creditOf_111 : decode cX9_creditOf 111 = .ok (.imul, 1) := by decide +kernel
theorem dX9_creditOf_112 : decode cX9_creditOf 112 = .ok (.isub, 1) := by decide +kernel
theorem dX9_creditOf_113 : decode cX9_creditOf 113 = .ok (.istore 5, 2) := by decide +kernel
theorem dX9_creditOf_115 : decode cX9_creditOf 115 = .ok (.iload 5, 2) := by decide +kernel
theorem dX9_creditOf_117 : decode cX9_creditOf 117 = .ok (.iload 4, 2) := by decide +kernel
theorem dX9_creditOf_119 : decode cX9_creditOf 119 = .ok (.if_icmp .ge 7, 3) := by decide +kernel
theorem dX9_creditOf_122 : decode cX9_creditOf 122 = .ok (.iload 4, 2) := by decide +kernel
theorem dX9_creditOf_124 : decode cX9_creditOf 124 = .ok (.istore 5, 2) := by decide +kernel
theorem dX9_creditOf_126 : decode cX9_creditOf 126 = .ok (.aload_n 0, 1) := by decide +kernel
theorem dX9_creditOf_127 : decode cX9_creditOf 127 = .ok (.getfield 63, 3) := by decide +kernel
theorem dX9_creditOf_130 : decode cX9_creditOf 130 = .ok (.iload_n 2, 1) := by decide +kernel
theorem dX9_creditOf_131 : decode cX9_creditOf 131 = .ok (.iaload, 1) := by decide +kernel
theorem dX9_creditOf_132 : decode cX9_creditOf 132 = .ok (.iload 5, 2) := by decide +kernel
theorem dX9_creditOf_134 : decode cX9_creditOf 134 = .ok (.imul, 1) := by decide +kernel
theorem dX9_creditOf_135 : decode cX9_creditOf 135 = .ok (.sipush 1000, 3) := by decide +kernel
theorem dX9_creditOf_138 : decode cX9_creditOf 138 = .ok (.idiv, 1) := by decide +kernel
theorem dX9_creditOf_139 : decode cX9_creditOf 139 = .ok (.ireturn, 1) := by decide +kernel
theorem dX9_credit_0 : decode cX9_credit 0 = .ok (.aload_n 0, 1) := by decide +kernel
theorem dX9_credit_1 : decode cX9_credit 1 = .ok (.iload_n 1, 1) := by decide +kernel
theorem dX9_credit_2 : decode cX9_credit 2 = .ok (.invokevirtual 197, 3) := by decide +kernel
theorem dX9_credit_5 : decode cX9_credit 5 = .ok (.ifCond .eq 20, 3) := by decide +kernel
theorem dX9_credit_8 : decode cX9_credit 8 = .ok (.aload_n 0, 1) := by decide +kernel
theorem dX9_credit_9 : decode cX9_credit 9 = .ok (.iload_n 2, 1) := by decide +kernel
theorem dX9_credit_10 : decode cX9_credit 10 = .ok (.invokevirtual 194, 3) := by decide +kernel
theorem dX9_credit_13 : decode cX9_credit 13 = .ok (.ifCond .eq 12, 3) := by decide +kernel
theorem dX9_credit_16 : decode cX9_credit 16 = .ok (.aload_n 0, 1) := by decide +kernel
theorem dX9_credit_17 : decode cX9_credit 17 = .ok (.iload_n 1, 1) := by decide +kernel
theorem dX9_credit_18 : decode cX9_credit 18 = .ok (.iload_n 2, 1) := by decide +kernel
theorem dX9_credit_19 : decode cX9_credit 19 = .ok (.invokevirtual 200, 3) := by decide +kernel
theorem dX9_credit_22 : decode cX9_credit 22 = .ok (.goto 4, 3) := by decide +kernel
theorem dX9_credit_25 : decode cX9_credit 25 = .ok (.iconst (-1), 1) := by decide +kernel
theorem dX9_credit_26 : decode cX9_credit 26 = .ok (.ireturn, 1) := by decide +kernel
theorem dX9_reckons_0 : decode cX9_reckons 0 = .ok (.iconst 0, 1) := by decide +kernel
theorem dX9_reckons_1 : decode cX9_reckons 1 = .ok (.istore_n 2, 1) := by decide +kernel
theorem dX9_reckons_2 : decode cX9_reckons 2 = .ok (.iload_n 2, 1) := by decide +kernel
theorem dX9_reckons_3 : decode cX9_reckons 3 = .ok (.bipush 12, 2) := by decide +kernel
theorem dX9_reckons_5 : decode cX9_reckons 5 = .ok (.if_icmp .ge 16, 3) := by decide +kernel
theorem dX9_reckons_8 : decode cX9_reckons 8 = .ok (.aload_n 0, 1) := by decide +kernel
theorem dX9_reckons_9 : decode cX9_reckons 9 = .ok (.getfield 85, 3) := by decide +kernel
theorem dX9_reckons_12 : decode cX9_reckons 12 = .ok (.iload_n 2, 1) := by decide +kernel
theorem dX9_reckons_13 : decode cX9_reckons 13 = .ok (.iconst 0, 1) := by decide +kernel
theorem dX9_reckons_14 : decode cX9_reckons 14 = .ok (.iastore, 1) := by decide +kernel
theorem dX9_reckons_15 : decode cX9_reckons 15 = .ok (.iinc 2 1, 3) := by decide +kernel
theorem dX9_reckons_18 : decode cX9_reckons 18 = .ok (.goto (-16), 3) := by decide +kernel
theorem dX9_reckons_21 : decode cX9_reckons 21 = .ok (.iconst 0, 1) := by decide +kernel
theorem dX9_reckons_22 : decode cX9_reckons 22 = .ok (.istore_n 2, 1) := by decide +kernel
theorem dX9_reckons_23 : decode cX9_reckons 23 = .ok (.iload_n 2, 1) := by decide +kernel
theorem dX9_reckons_24 : decode cX9_reckons 24 = .ok (.aload_n 0, 1) := by decide +kernel
theorem dX9_reckons_25 : decode cX9_reckons 25 = .ok (.getfield 171, 3) := by decide +kernel
theorem dX9_reckons_28 : decode cX9_reckons 28 = .ok (.if_icmp .ge 174, 3) := by decide +kernel
theorem dX9_reckons_31 : decode cX9_reckons 31 = .ok (.aload_n 0, 1) := by decide +kernel
theorem dX9_reckons_32 : decode cX9_reckons 32 = .ok (.iload_n 1, 1) := by decide +kernel
theorem dX9_reckons_33 : decode cX9_reckons 33 = .ok (.iload_n 2, 1) := by decide +kernel
theorem dX9_reckons_34 : decode cX9_reckons 34 = .ok (.invokevirtual 200, 3) := by decide +kernel
theorem dX9_reckons_37 : decode cX9_reckons 37 = .ok (.istore_n 3, 1) := by decide +kernel
theorem dX9_reckons_38 : decode cX9_reckons 38 = .ok (.iload_n 3, 1) := by decide +kernel
theorem dX9_reckons_39 : decode cX9_reckons 39 = .ok (.ifCond .ne 6, 3) := by decide +kernel
theorem dX9_reckons_42 : decode cX9_reckons 42 = .ok (.goto 154, 3) := by decide +kernel
theorem dX9_reckons_45 : decode cX9_reckons 45 = .ok (.iconst 0, 1) := by decide +kernel
theorem dX9_reckons_46 : decode cX9_reckons 46 = .ok (.istore 4, 2) := by decide +kernel
theorem dX9_reckons_48 : decode cX9_reckons 48 = .ok (.iload 4, 2) := by decide +kernel
theorem dX9_reckons_50 : decode cX9_reckons 50 = .ok (.bipush 12, 2) := by decide +kernel
theorem dX9_reckons_52 : decode cX9_reckons 52 = .ok (.if_icmp .ge 17, 3) := by decide +kernel
theorem dX9_reckons_55 : decode cX9_reckons 55 = .ok (.aload_n 0, 1) := by decide +kernel
theorem dX9_reckons_56 : decode cX9_reckons 56 = .ok (.getfield 82, 3) := by decide +kernel
theorem dX9_reckons_59 : decode cX9_reckons 59 = .ok (.iload 4, 2) := by decide +kernel
theorem dX9_reckons_61 : decode cX9_reckons 61 = .ok (.iconst 0, 1) := by decide +kernel
theorem dX9_reckons_62 : decode cX9_reckons 62 = .ok (.iastore, 1) := by decide +kernel
theorem dX9_reckons_63 : decode cX9_reckons 63 = .ok (.iinc 4 1, 3) := by decide +kernel
theorem dX9_reckons_66 : decode cX9_reckons 66 = .ok (.goto (-18), 3) := by decide +kernel
theorem dX9_reckons_69 : decode cX9_reckons 69 = .ok (.iconst 1, 1) := by decide +kernel
theorem dX9_reckons_70 : decode cX9_reckons 70 = .ok (.istore 4, 2) := by decide +kernel
theorem dX9_reckons_72 : decode cX9_reckons 72 = .ok (.iload 4, 2) := by decide +kernel
theorem dX9_reckons_74 : decode cX9_reckons 74 = .ok (.aload_n 0, 1) := by decide +kernel
theorem dX9_reckons_75 : decode cX9_reckons 75 = .ok (.getfield 125, 3) := by decide +kernel
theorem dX9_reckons_78 : decode cX9_reckons 78 = .ok (.if_icmp .gt 38, 3) := by decide +kernel
theorem dX9_reckons_81 : decode cX9_reckons 81 = .ok (.aload_n 0, 1) := by decide +kernel
theorem dX9_reckons_82 : decode cX9_reckons 82 = .ok (.iload_n 1, 1) := by decide +kernel
theorem dX9_reckons_83 : decode cX9_reckons 83 = .ok (.iload_n 2, 1) := by decide +kernel
theorem dX9_reckons_84 : decode cX9_reckons 84 = .ok (.iload 4, 2) := by decide +kernel
theorem dX9_reckons_86 : decode cX9_reckons 86 = .ok (.invokevirtual 190, 3) := by decide +kernel
theorem dX9_reckons_89 : decode cX9_reckons 89 = .ok (.pop, 1) := by decide +kernel
theorem dX9_reckons_90 : decode cX9_reckons 90 = .ok (.aload_n 0, 1) := by decide +kernel
theorem dX9_reckons_91 : decode cX9_reckons 91 = .ok (.getfield 82, 3) := by decide +kernel
theorem dX9_reckons_94 : decode cX9_reckons 94 = .ok (.aload_n 0, 1) := by decide +kernel
theorem dX9_reckons_95 : decode cX9_reckons 95 = .ok (.getfield 181, 3) := by decide +kernel
theorem dX9_reckons_98 : decode cX9_reckons 98 = .ok (.aload_n 0, 1) := by decide +kernel
theorem dX9_reckons_99 : decode cX9_reckons 99 = .ok (.getfield 82, 3) := by decide +kernel
theorem dX9_reckons_102 : decode cX9_reckons 102 = .ok (.aload_n 0, 1) := by decide +kernel
theorem dX9_reckons_103 : decode cX9_reckons 103 = .ok (.getfield 181, 3) := by decide +kernel
theorem dX9_reckons_106 : decode cX9_reckons 106 = .ok (.iaload, 1) := by decide +kernel
theorem dX9_reckons_107 : decode cX9_reckons 107 = .ok (.iconst 1, 1) := by decide +kernel
theorem dX9_reckons_108 : decode cX9_reckons 108 = .ok (.iadd, 1) := by decide +kernel
theorem dX9_reckons_109 : decode cX9_reckons 109 = .ok (.iastore, 1) := by decide +kernel
theorem dX9_reckons_110 : decode cX9_reckons 110 = .ok (.iinc 4 1, 3) := by decide +kernel
theorem dX9_reckons_113 : decode cX9_reckons 113 = .ok (.goto (-41), 3) := by decide +kernel
theorem dX9_reckons_116 : decode cX9_reckons 116 = .ok (.iload_n 3, 1) := by decide +kernel
theorem dX9_reckons_117 : decode cX9_reckons 117 = .ok (.istore 4, 2) := by decide +kernel
theorem dX9_reckons_119 : decode cX9_reckons 119 = .ok (.iconst 0, 1) := by decide +kernel
theorem dX9_reckons_120 : decode cX9_reckons 120 = .ok (.istore 5, 2) := by decide +kernel
theorem dX9_reckons_122 : decode cX9_reckons 122 = .ok (.iload 5, 2) := by decide +kernel
theorem dX9_reckons_124 : decode cX9_reckons 124 = .ok (.bipush 12, 2) := by decide +kernel
theorem dX9_reckons_126 : decode cX9_reckons 126 = .ok (.if_icmp .ge 49, 3) := by decide +kernel
theorem dX9_reckons_129 : decode cX9_reckons 129 = .ok (.iload_n 3, 1) := by decide +kernel
theorem dX9_reckons_130 : decode cX9_reckons 130 = .ok (.aload_n 0, 1) := by decide +kernel
theorem dX9_reckons_131 : decode cX9_reckons 131 = .ok (.getfield 82, 3) := by decide +kernel
theorem dX9_reckons_134 : decode cX9_reckons 134 = .ok (.iload 5, 2) := by decide +kernel
theorem dX9_reckons_136 : decode cX9_reckons 136 = .ok (.iaload, 1) := by decide +kernel
theorem dX9_reckons_137 : decode cX9_reckons 137 = .ok (.imul, 1) := by decide +kernel
theorem dX9_reckons_138 : decode cX9_reckons 138 = .ok (.aload_n 0, 1) := by decide +kernel
theorem dX9_reckons_139 : decode cX9_reckons 139 = .ok (.getfield 125, 3) := by decide +kernel
theorem dX9_reckons_142 : decode cX9_reckons 142 = .ok (.idiv, 1) := by decide +kernel
theorem dX9_reckons_143 : decode cX9_reckons 143 = .ok (.istore 6, 2) := by decide +kernel
theorem dX9_reckons_145 : decode cX9_reckons 145 = .ok (.aload_n 0, 1) := by decide +kernel
theorem dX9_reckons_146 : decode cX9_reckons 146 = .ok (.getfield 85, 3) := by decide +kernel
theorem dX9_reckons_149 : decode cX9_reckons 149 = .ok (.iload 5, 2) := by decide +kernel
theorem dX9_reckons_151 : decode cX9_reckons 151 = .ok (.aload_n 0, 1) := by decide +kernel
theorem dX9_reckons_152 : decode cX9_reckons 152 = .ok (.getfield 85, 3) := by decide +kernel
theorem dX9_reckons_155 : decode cX9_reckons 155 = .ok (.iload 5, 2) := by decide +kernel
theorem dX9_reckons_157 : decode cX9_reckons 157 = .ok (.iaload, 1) := by decide +kernel
theorem dX9_reckons_158 : decode cX9_reckons 158 = .ok (.iload 6, 2) := by decide +kernel
theorem dX9_reckons_160 : decode cX9_reckons 160 = .ok (.iadd, 1) := by decide +kernel
theorem dX9_reckons_161 : decode cX9_reckons 161 = .ok (.iastore, 1) := by decide +kernel
theorem dX9_reckons_162 : decode cX9_reckons 162 = .ok (.iload 4, 2) := by decide +kernel
theorem dX9_reckons_164 : decode cX9_reckons 164 = .ok (.iload 6, 2) := by decide +kernel
theorem dX9_reckons_166 : decode cX9_reckons 166 = .ok (.isub, 1) := by decide +kernel
theorem dX9_reckons_167 : decode cX9_reckons 167 = .ok (.istore 4, 2) := by decide +kernel
theorem dX9_reckons_169 : decode cX9_reckons 169 = .ok (.iinc 5 1, 3) := by decide +kernel
theorem dX9_reckons_172 : decode cX9_reckons 172 = .ok (.goto (-50), 3) := by decide +kernel
theorem dX9_reckons_175 : decode cX9_reckons 175 = .ok (.aload_n 0, 1) := by decide +kernel
theorem dX9_reckons_176 : decode cX9_reckons 176 = .ok (.getfield 85, 3) := by decide +kernel
theorem dX9_reckons_179 : decode cX9_reckons 179 = .ok (.aload_n 0, 1) := by decide +kernel
theorem dX9_reckons_180 : decode cX9_reckons 180 = .ok (.getfield 181, 3) := by decide +kernel
theorem dX9_reckons_183 : decode cX9_reckons 183 = .ok (.aload_n 0, 1) := by decide +kernel
theorem dX9_reckons_184 : decode cX9_reckons 184 = .ok (.getfield 85, 3) := by decide +kernel
theorem dX9_reckons_187 : decode cX9_reckons 187 = .ok (.aload_n 0, 1) := by decide +kernel
theorem dX9_reckons_188 : decode cX9_reckons 188 = .ok (.getfield 181, 3) := by decide +kernel
theorem dX9_reckons_191 : decode cX9_reckons 191 = .ok (.iaload, 1) := by decide +kernel
theorem dX9_reckons_192 : decode cX9_reckons 192 = .ok (.iload 4, 2) := by decide +kernel
theorem dX9_reckons_194 : decode cX9_reckons 194 = .ok (.iadd, 1) := by decide +kernel
theorem dX9_reckons_195 : decode cX9_reckons 195 = .ok (.iastore, 1) := by decide +kernel
theorem dX9_reckons_196 : decode cX9_reckons 196 = .ok (.iinc 2 1, 3) := by decide +kernel
theorem dX9_reckons_199 : decode cX9_reckons 199 = .ok (.goto (-176), 3) := by decide +kernel
theorem dX9_reckons_202 : decode cX9_reckons 202 = .ok (.return_, 1) := by decide +kernel
theorem dX9_part_0 : decode cX9_part 0 = .ok (.aload_n 0, 1) := by decide +kernel
theorem dX9_part_1 : decode cX9_part 1 = .ok (.iload_n 1, 1) := by decide +kernel
theorem dX9_part_2 : decode cX9_part 2 = .ok (.invokevirtual 197, 3) := by decide +kernel
theorem dX9_part_5 : decode cX9_part 5 = .ok (.ifCond .eq 13, 3) := by decide +kernel
theorem dX9_part_8 : decode cX9_part 8 = .ok (.iload_n 2, 1) := by decide +kernel
theorem dX9_part_9 : decode cX9_part 9 = .ok (.ifCond .lt 9, 3) := by decide +kernel
theorem dX9_part_12 : decode cX9_part 12 = .ok (.iload_n 2, 1) := by decide +kernel
theorem dX9_part_13 : decode cX9_part 13 = .ok (.bipush 12, 2) := by decide +kernel
theorem dX9_part_15 : decode cX9_part 15 = .ok (.if_icmp .lt 5, 3) := by decide +kernel
theorem dX9_part_18 : decode cX9_part 18 = .ok (.iconst (-1), 1) := by decide +kernel
theorem dX9_part_19 : decode cX9_part 19 = .ok (.ireturn, 1) := by decide +kernel
theorem dX9_part_20 : decode cX9_part 20 = .ok (.aload_n 0, 1) := by decide +kernel
theorem dX9_part_21 : decode cX9_part 21 = .ok (.iload_n 1, 1) := by decide +kernel
theorem dX9_part_22 : decode cX9_part 22 = .ok (.invokevirtual 203, 3) := by decide +kernel
theorem dX9_part_25 : decode cX9_part 25 = .ok (.aload_n 0, 1) := by decide +kernel
theorem dX9_part_26 : decode cX9_part 26 = .ok (.getfield 85, 3) := by decide +kernel
theorem dX9_part_29 : decode cX9_part 29 = .ok (.iload_n 2, 1) := by decide +kernel
theorem dX9_part_30 : decode cX9_part 30 = .ok (.iaload, 1) := by decide +kernel
theorem dX9_part_31 : decode cX9_part 31 = .ok (.ireturn, 1) := by decide +kernel
theorem dX9_all_0 : decode cX9_all 0 = .ok (.lconst 0, 1) := by decide +kernel
theorem dX9_all_1 : decode cX9_all 1 = .ok (.lstore_n 1, 1) := by decide +kernel
theorem dX9_all_2 : decode cX9_all 2 = .ok (.iconst 0, 1) := by decide +kernel
theorem dX9_all_3 : decode cX9_all 3 = .ok (.istore_n 3, 1) := by decide +kernel
theorem dX9_all_4 : decode cX9_all 4 = .ok (.iload_n 3, 1) := by decide +kernel
theorem dX9_all_5 : decode cX9_all 5 = .ok (.bipush 12, 2) := by decide +kernel
theorem dX9_all_7 : decode cX9_all 7 = .ok (.if_icmp .ge 19, 3) := by decide +kernel
theorem dX9_all_10 : decode cX9_all 10 = .ok (.lload_n 1, 1) := by decide +kernel
theorem dX9_all_11 : decode cX9_all 11 = .ok (.aload_n 0, 1) := by decide +kernel
theorem dX9_all_12 : decode cX9_all 12 = .ok (.getfield 85, 3) := by decide +kernel
theorem dX9_all_15 : decode cX9_all 15 = .ok (.iload_n 3, 1) := by decide +kernel
theorem dX9_all_16 : decode cX9_all 16 = .ok (.iaload, 1) := by decide +kernel
theorem dX9_all_17 : decode cX9_all 17 = .ok (.i2l, 1) := by decide +kernel
theorem dX9_all_18 : decode cX9_all 18 = .ok (.ladd, 1) := by decide +kernel
theorem dX9_all_19 : decode cX9_all 19 = .ok (.lstore_n 1, 1) := by decide +kernel
theorem dX9_all_20 : decode cX9_all 20 = .ok (.iinc 3 1, 3) := by decide +kernel
theorem dX9_all_23 : decode cX9_all 23 = .ok (.goto (-19), 3) := by decide +kernel
theorem dX9_all_26 : decode cX9_all 26 = .ok (.lload_n 1, 1) := by decide +kernel
theorem dX9_all_27 : decode cX9_all 27 = .ok (.lreturn, 1) := by decide +kernel
theorem dX9_gives_0 : decode cX9_gives 0 = .ok (.aload_n 0, 1) := by decide +kernel
theorem dX9_gives_1 : decode cX9_gives 1 = .ok (.getfield 91, 3) := by decide +kernel
theorem dX9_gives_4 : decode cX9_gives 4 = .ok (.iload_n 1, 1) := by decide +kernel
theorem dX9_gives_5 : decode cX9_gives 5 = .ok (.aload_n 0, 1) := by decide +kernel
theorem dX9_gives_6 : decode cX9_gives 6 = .ok (.getfield 91, 3) := by decide +kernel
theorem dX9_gives_9 : decode cX9_gives 9 = .ok (.iload_n 1, 1) := by decide +kernel
theorem dX9_gives_10 : decode cX9_gives 10 = .ok (.iaload, 1) := by decide +kernel
theorem dX9_gives_11 : decode cX9_gives 11 = .ok (.iload_n 2, 1) := by decide +kernel
theorem dX9_gives_12 : decode cX9_gives 12 = .ok (.iadd, 1) := by decide +kernel
theorem dX9_gives_13 : decode cX9_gives 13 = .ok (.iastore, 1) := by decide +kernel
theorem dX9_gives_14 : decode cX9_gives 14 = .ok (.aload_n 0, 1) := by decide +kernel
theorem dX9_gives_15 : decode cX9_gives 15 = .ok (.getfield 94, 3) := by decide +kernel
theorem dX9_gives_18 : decode cX9_gives 18 = .ok (.iload_n 1, 1) := by decide +kernel
theorem dX9_gives_19 : decode cX9_gives 19 = .ok (.aload_n 0, 1) := by decide +kernel
theorem dX9_gives_20 : decode cX9_gives 20 = .ok (.getfield 94, 3) := by decide +kernel
theorem dX9_gives_23 : decode cX9_gives 23 = .ok (.iload_n 1, 1) := by decide +kernel
theorem dX9_gives_24 : decode cX9_gives 24 = .ok (.iaload, 1) := by decide +kernel
theorem dX9_gives_25 : decode cX9_gives 25 = .ok (.iload_n 2, 1) := by decide +kernel
theorem dX9_gives_26 : decode cX9_gives 26 = .ok (.iadd, 1) := by decide +kernel
theorem dX9_gives_27 : decode cX9_gives 27 = .ok (.iastore, 1) := by decide +kernel
theorem dX9_gives_28 : decode cX9_gives 28 = .ok (.return_, 1) := by decide +kernel
theorem dX9_endsTurn_0 : decode cX9_endsTurn 0 = .ok (.aload_n 0, 1) := by decide +kernel
theorem dX9_endsTurn_1 : decode cX9_endsTurn 1 = .ok (.getfield 88, 3) := by decide +kernel
theorem dX9_endsTurn_4 : decode cX9_endsTurn 4 = .ok (.iload_n 1, 1) := by decide +kernel
theorem dX9_endsTurn_5 : decode cX9_endsTurn 5 = .ok (.iaload, 1) := by decide +kernel
theorem dX9_endsTurn_6 : decode cX9_endsTurn 6 = .ok (.istore_n 2, 1) := by decide +kernel
theorem dX9_endsTurn_7 : decode cX9_endsTurn 7 = .ok (.iload_n 1, 1) := by decide +kernel
theorem dX9_endsTurn_8 : decode cX9_endsTurn 8 = .ok (.istore_n 3, 1) := by decide +kernel
theorem dX9_endsTurn_9 : decode cX9_endsTurn 9 = .ok (.iload_n 3, 1) := by decide +kernel
theorem dX9_endsTurn_10 : decode cX9_endsTurn 10 = .ok (.bipush 11, 2) := by decide +kernel
theorem dX9_endsTurn_12 : decode cX9_endsTurn 12 = .ok (.if_icmp .ge 23, 3) := by decide +kernel
theorem dX9_endsTurn_15 : decode cX9_endsTurn 15 = .ok (.aload_n 0, 1) := by decide +kernel
theorem dX9_endsTurn_16 : decode cX9_endsTurn 16 = .ok (.getfield 88, 3) := by decide +kernel
theorem dX9_endsTurn_19 : decode cX9_endsTurn 19 = .ok (.iload_n 3, 1) := by decide +kernel
theorem dX9_endsTurn_20 : decode cX9_endsTurn 20 = .ok (.aload_n 0, 1) := by decide +kernel
theorem dX9_endsTurn_21 : decode cX9_endsTurn 21 = .ok (.getfield 88, 3) := by decide +kernel
theorem dX9_endsTurn_24 : decode cX9_endsTurn 24 = .ok (.iload_n 3, 1) := by decide +kernel
theorem dX9_endsTurn_25 : decode cX9_endsTurn 25 = .ok (.iconst 1, 1) := by decide +kernel
theorem dX9_endsTurn_26 : decode cX9_endsTurn 26 = .ok (.iadd, 1) := by decide +kernel
theorem dX9_endsTurn_27 : decode cX9_endsTurn 27 = .ok (.iaload, 1) := by decide +kernel
theorem dX9_endsTurn_28 : decode cX9_endsTurn 28 = .ok (.iastore, 1) := by decide +kernel
theorem dX9_endsTurn_29 : decode cX9_endsTurn 29 = .ok (.iinc 3 1, 3) := by decide +kernel
theorem dX9_endsTurn_32 : decode cX9_endsTurn 32 = .ok (.goto (-23), 3) := by decide +kernel
theorem dX9_endsTurn_35 : decode cX9_endsTurn 35 = .ok (.aload_n 0, 1) := by decide +kernel
theorem dX9_endsTurn_36 : decode cX9_endsTurn 36 = .ok (.getfield 88, 3) := by decide +kernel
theorem dX9_endsTurn_39 : decode cX9_endsTurn 39 = .ok (.bipush 11, 2) := by decide +kernel
theorem dX9_endsTurn_41 : decode cX9_endsTurn 41 = .ok (.iload_n 2, 1) := by decide +kernel
theorem dX9_endsTurn_42 : decode cX9_endsTurn 42 = .ok (.iastore, 1) := by decide +kernel
theorem dX9_endsTurn_43 : decode cX9_endsTurn 43 = .ok (.return_, 1) := by decide +kernel
theorem dX9_wasUp_0 : decode cX9_wasUp 0 = .ok (.iconst 0, 1) := by decide +kernel
theorem dX9_wasUp_1 : decode cX9_wasUp 1 = .ok (.istore_n 2, 1) := by decide +kernel
theorem dX9_wasUp_2 : decode cX9_wasUp 2 = .ok (.iconst 1, 1) := by decide +kernel
theorem dX9_wasUp_3 : decode cX9_wasUp 3 = .ok (.istore_n 3, 1) := by decide +kernel
theorem dX9_wasUp_4 : decode cX9_wasUp 4 = .ok (.iload_n 3, 1) := by decide +kernel
theorem dX9_wasUp_5 : decode cX9_wasUp 5 = .ok (.aload_n 0, 1) := by decide +kernel
theorem dX9_wasUp_6 : decode cX9_wasUp 6 = .ok (.getfield 125, 3) := by decide +kernel
theorem dX9_wasUp_9 : decode cX9_wasUp 9 = .ok (.if_icmp .gt 37, 3) := by decide +kernel
theorem dX9_wasUp_12 : decode cX9_wasUp 12 = .ok (.aload_n 0, 1) := by decide +kernel
theorem dX9_wasUp_13 : decode cX9_wasUp 13 = .ok (.aload_n 0, 1) := by decide +kernel
theorem dX9_wasUp_14 : decode cX9_wasUp 14 = .ok (.getfield 128, 3) := by decide +kernel
theorem dX9_wasUp_17 : decode cX9_wasUp 17 = .ok (.iload_n 1, 1) := by decide +kernel
theorem dX9_wasUp_18 : decode cX9_wasUp 18 = .ok (.iload_n 3, 1) := by decide +kernel
theorem dX9_wasUp_19 : decode cX9_wasUp 19 = .ok (.invokevirtual 190, 3) := by decide +kernel
theorem dX9_wasUp_22 : decode cX9_wasUp 22 = .ok (.pop, 1) := by decide +kernel
theorem dX9_wasUp_23 : decode cX9_wasUp 23 = .ok (.iload_n 2, 1) := by decide +kernel
theorem dX9_wasUp_24 : decode cX9_wasUp 24 = .ok (.ifCond .ne 10, 3) := by decide +kernel
theorem dX9_wasUp_27 : decode cX9_wasUp 27 = .ok (.aload_n 0, 1) := by decide +kernel
theorem dX9_wasUp_28 : decode cX9_wasUp 28 = .ok (.getfield 174, 3) := by decide +kernel
theorem dX9_wasUp_31 : decode cX9_wasUp 31 = .ok (.ifCond .eq 7, 3) := by decide +kernel
theorem dX9_wasUp_34 : decode cX9_wasUp 34 = .ok (.iconst 1, 1) := by decide +kernel
theorem dX9_wasUp_35 : decode cX9_wasUp 35 = .ok (.goto 4, 3) := by decide +kernel
theorem dX9_wasUp_38 : decode cX9_wasUp 38 = .ok (.iconst 0, 1) := by decide +kernel
theorem dX9_wasUp_39 : decode cX9_wasUp 39 = .ok (.istore_n 2, 1) := by decide +kernel
theorem dX9_wasUp_40 : decode cX9_wasUp 40 = .ok (.iinc 3 1, 3) := by decide +kernel
theorem dX9_wasUp_43 : decode cX9_wasUp 43 = .ok (.goto (-39), 3) := by decide +kernel
theorem dX9_wasUp_46 : decode cX9_wasUp 46 = .ok (.iload_n 2, 1) := by decide +kernel
theorem dX9_wasUp_47 : decode cX9_wasUp 47 = .ok (.ireturn, 1) := by decide +kernel
theorem dX9_close_0 : decode cX9_close 0 = .ok (.iload_n 1, 1) := by decide +kernel
theorem dX9_close_1 : decode cX9_close 1 = .ok (.ifCond .lt 44, 3) := by decide +kernel
theorem dX9_close_4 : decode cX9_close 4 = .ok (.iload_n 1, 1) := by decide +kernel
theorem dX9_close_5 : decode cX9_close 5 = .ok (.sipush 1000, 3) := by decide +kernel
theorem dX9_close_8 : decode cX9_close 8 = .ok (.if_icmp .gt 37, 3) := by decide +kernel
theorem dX9_close_11 : decode cX9_close 11 = .ok (.aload_n 0, 1) := by decide +kernel
theorem dX9_close_12 : decode cX9_close 12 = .ok (.getfield 33, 3) := by decide +kernel
theorem dX9_close_15 : decode cX9_close 15 = .ok (.iconst (-1), 1) := by decide +kernel
theorem dX9_close_16 : decode cX9_close 16 = .ok (.if_icmp .ne 29, 3) := by decide +kernel
theorem dX9_close_19 : decode cX9_close 19 = .ok (.aload_n 0, 1) := by decide +kernel
theorem dX9_close_20 : decode cX9_close 20 = .ok (.getfield 57, 3) := by decide +kernel
theorem dX9_close_23 : decode cX9_close 23 = .ok (.iconst (-1), 1) := by decide +kernel
theorem dX9_close_24 : decode cX9_close 24 = .ok (.if_icmp .eq 21, 3) := by decide +kernel
theorem dX9_close_27 : decode cX9_close 27 = .ok (.aload_n 0, 1) := by decide +kernel
theorem dX9_close_28 : decode cX9_close 28 = .ok (.getfield 57, 3) := by decide +kernel
theorem dX9_close_31 : decode cX9_close 31 = .ok (.aload_n 0, 1) := by decide +kernel
theorem dX9_close_32 : decode cX9_close 32 = .ok (.getfield 125, 3) := by decide +kernel
theorem dX9_close_35 : decode cX9_close 35 = .ok (.if_icmp .gt 10, 3) := by decide +kernel
theorem dX9_close_38 : decode cX9_close 38 = .ok (.aload_n 0, 1) := by decide +kernel
theorem dX9_close_39 : decode cX9_close 39 = .ok (.getfield 125, 3) := by decide +kernel
theorem dX9_close_42 : decode cX9_close 42 = .ok (.ifCond .ne 5, 3) := by decide +kernel
theorem dX9_close_45 : decode cX9_close 45 = .ok (.iconst (-1), 1) := by decide +kernel
theorem dX9_close_46 : decode cX9_close 46 = .ok (.ireturn, 1) := by decide +kernel
theorem dX9_close_47 : decode cX9_close 47 = .ok (.aload_n 0, 1) := by decide +kernel
theorem dX9_close_48 : decode cX9_close 48 = .ok (.aload_n 0, 1) := by decide +kernel
theorem dX9_close_49 : decode cX9_close 49 = .ok (.getfield 128, 3) := by decide +kernel
theorem dX9_close_52 : decode cX9_close 52 = .ok (.invokevirtual 203, 3) := by decide +kernel
theorem dX9_close_55 : decode cX9_close 55 = .ok (.aload_n 0, 1) := by decide +kernel
theorem dX9_close_56 : decode cX9_close 56 = .ok (.invokevirtual 206, 3) := by decide +kernel
theorem dX9_close_59 : decode cX9_close 59 = .ok (.lstore_n 2, 1) := by decide +kernel
theorem dX9_close_60 : decode cX9_close 60 = .ok (.iload_n 1, 1) := by decide +kernel
theorem dX9_close_61 : decode cX9_close 61 = .ok (.istore 4, 2) := by decide +kernel
theorem dX9_close_63 : decode cX9_close 63 = .ok (.iconst 0, 1) := by decide +kernel
theorem dX9_close_64 : decode cX9_close 64 = .ok (.istore 5, 2) := by decide +kernel
theorem dX9_close_66 : decode cX9_close 66 = .ok (.iload 5, 2) := by decide +kernel
theorem dX9_close_68 : decode cX9_close 68 = .ok (.bipush 12, 2) := by decide +kernel
theorem dX9_close_70 : decode cX9_close 70 = .ok (.if_icmp .ge 94, 3) := by decide +kernel
theorem dX9_close_73 : decode cX9_close 73 = .ok (.aload_n 0, 1) := by decide +kernel
theorem dX9_close_74 : decode cX9_close 74 = .ok (.getfield 94, 3) := by decide +kernel
theorem dX9_close_77 : decode cX9_close 77 = .ok (.iload 5, 2) := by decide +kernel
theorem dX9_close_79 : decode cX9_close 79 = .ok (.iconst 0, 1) := by decide +kernel
theorem dX9_close_80 : decode cX9_close 80 = .ok (.iastore, 1) := by decide +kernel
theorem dX9_close_81 : decode cX9_close 81 = .ok (.lload_n 2, 1) := by decide +kernel
theorem dX9_close_82 : decode cX9_close 82 = .ok (.lconst 0, 1) := by decide +kernel
theorem dX9_close_83 : decode cX9_close 83 = .ok (.lcmp, 1) := by decide +kernel
theorem dX9_close_84 : decode cX9_close 84 = .ok (.ifCond .ne 6, 3) := by decide +kernel
theorem dX9_close_87 : decode cX9_close 87 = .ok (.goto 71, 3) := by decide +kernel
theorem dX9_close_90 : decode cX9_close 90 = .ok (.iload_n 1, 1) := by decide +kernel
theorem dX9_close_91 : decode cX9_close 91 = .ok (.i2l, 1) := by decide +kernel
theorem dX9_close_92 : decode cX9_close 92 = .ok (.aload_n 0, 1) := by decide +kernel
theorem dX9_close_93 : decode cX9_close 93 = .ok (.getfield 85, 3) := by decide +kernel
theorem dX9_close_96 : decode cX9_close 96 = .ok (.iload 5, 2) := by decide +kernel
theorem dX9_close_98 : decode cX9_close 98 = .ok (.iaload, 1) := by decide +kernel
theorem dX9_close_99 : decode cX9_close 99 = .ok (.i2l, 1) := by decide +kernel
theorem dX9_close_100 : decode cX9_close 100 = .ok (.lmul, 1) := by decide +kernel
theorem dX9_close_101 : decode cX9_close 101 = .ok (.lload_n 2, 1) := by decide +kernel
theorem dX9_close_102 : decode cX9_close 102 = .ok (.ldiv, 1) := by decide +kernel
theorem dX9_close_103 : decode cX9_close 103 = .ok (.l2i, 1) := by decide +kernel
theorem dX9_close_104 : decode cX9_close 104 = .ok (.istore 6, 2) := by decide +kernel
theorem dX9_close_106 : decode cX9_close 106 = .ok (.aload_n 0, 1) := by decide +kernel
theorem dX9_close_107 : decode cX9_close 107 = .ok (.iload 5, 2) := by decide +kernel
theorem dX9_close_109 : decode cX9_close 109 = .ok (.iload 6, 2) := by decide +kernel
theorem dX9_close_111 : decode cX9_close 111 = .ok (.invokevirtual 210, 3) := by decide +kernel
theorem dX9_close_114 : decode cX9_close 114 = .ok (.iload 4, 2) := by decide +kernel
theorem dX9_close_116 : decode cX9_close 116 = .ok (.iload 6, 2) := by decide +kernel
theorem dX9_close_118 : decode cX9_close 118 = .ok (.isub, 1) := by decide +kernel
theorem dX9_close_119 : decode cX9_close 119 = .ok (.istore 4, 2) := by decide +kernel
theorem dX9_close_121 : decode cX9_close 121 = .ok (.aload_n 0, 1) := by decide +kernel
theorem dX9_close_122 : decode cX9_close 122 = .ok (.getfield 97, 3) := by decide +kernel
theorem dX9_close_125 : decode cX9_close 125 = .ok (.iload 5, 2) := by decide +kernel
theorem dX9_close_127 : decode cX9_close 127 = .ok (.aload_n 0, 1) := by decide +kernel
theorem dX9_close_128 : decode cX9_close 128 = .ok (.getfield 97, 3) := by decide +kernel
theorem dX9_close_131 : decode cX9_close 131 = .ok (.iload 5, 2) := by decide +kernel
theorem dX9_close_133 : decode cX9_close 133 = .ok (.laload, 1) := by decide +kernel
theorem dX9_close_134 : decode cX9_close 134 = .ok (.aload_n 0, 1) := by decide +kernel
theorem dX9_close_135 : decode cX9_close 135 = .ok (.getfield 20, 3) := by decide +kernel
theorem dX9_close_138 : decode cX9_close 138 = .ok (.i2l, 1) := by decide +kernel
theorem dX9_close_139 : decode cX9_close 139 = .ok (.aload_n 0, 1) := by decide +kernel
theorem dX9_close_140 : decode cX9_close 140 = .ok (.getfield 85, 3) := by decide +kernel
theorem dX9_close_143 : decode cX9_close 143 = .ok (.iload 5, 2) := by decide +kernel
theorem dX9_close_145 : decode cX9_close 145 = .ok (.iaload, 1) := by decide +kernel
theorem dX9_close_146 : decode cX9_close 146 = .ok (.i2l, 1) := by decide +kernel
theorem dX9_close_147 : decode cX9_close 147 = .ok (.lmul, 1) := by decide +kernel
theorem dX9_close_148 : decode cX9_close 148 = .ok (.ldc2_w 214, 3) := by decide +kernel
theorem dX9_close_151 : decode cX9_close 151 = .ok (.ladd, 1) := by decide +kernel
theorem dX9_close_152 : decode cX9_close 152 = .ok (.ldc2_w 216, 3) := by decide +kernel
theorem dX9_close_155 : decode cX9_close 155 = .ok (.ldiv, 1) := by decide +kernel
theorem dX9_close_156 : decode cX9_close 156 = .ok (.ladd, 1) := by decide +kernel
theorem dX9_close_157 : decode cX9_close 157 = .ok (.lastore, 1) := by decide +kernel
theorem dX9_close_158 : decode cX9_close 158 = .ok (.iinc 5 1, 3) := by decide +kernel
theorem dX9_close_161 : decode cX9_close 161 = .ok (.goto (-95), 3) := by decide +kernel
theorem dX9_close_164 : decode cX9_close 164 = .ok (.iload 4, 2) := by decide +kernel
theorem dX9_close_166 : decode cX9_close 166 = .ok (.ifCond .le 63, 3) := by decide +kernel
theorem dX9_close_169 : decode cX9_close 169 = .ok (.lload_n 2, 1) := by decide +kernel
theorem dX9_close_170 : decode cX9_close 170 = .ok (.lconst 0, 1) := by decide +kernel
theorem dX9_close_171 : decode cX9_close 171 = .ok (.lcmp, 1) := by decide +kernel
theorem dX9_close_172 : decode cX9_close 172 = .ok (.ifCond .le 57, 3) := by decide +kernel
theorem dX9_close_175 : decode cX9_close 175 = .ok (.iconst 0, 1) := by decide +kernel
theorem dX9_close_176 : decode cX9_close 176 = .ok (.istore 5, 2) := by decide +kernel
theorem dX9_close_178 : decode cX9_close 178 = .ok (.aload_n 0, 1) := by decide +kernel
theorem dX9_close_179 : decode cX9_close 179 = .ok (.getfield 85, 3) := by decide +kernel
theorem dX9_close_182 : decode cX9_close 182 = .ok (.aload_n 0, 1) := by decide +kernel
theorem dX9_close_183 : decode cX9_close 183 = .ok (.getfield 88, 3) := by decide +kernel
theorem dX9_close_186 : decode cX9_close 186 = .ok (.iload 5, 2) := by decide +kernel
theorem dX9_close_188 : decode cX9_close 188 = .ok (.iaload, 1) := by decide +kernel
theorem dX9_close_189 : decode cX9_close 189 = .ok (.iaload, 1) := by decide +kernel
theorem dX9_close_190 : decode cX9_close 190 = .ok (.ifCond .ne 12, 3) := by decide +kernel
theorem dX9_close_193 : decode cX9_close 193 = .ok (.iload 5, 2) := by decide +kernel
theorem dX9_close_195 : decode cX9_close 195 = .ok (.iconst 1, 1) := by decide +kernel
theorem dX9_close_196 : decode cX9_close 196 = .ok (.iadd, 1) := by decide +kernel
theorem dX9_close_197 : decode cX9_close 197 = .ok (.istore 5, 2) := by decide +kernel
theorem dX9_close_199 : decode cX9_close 199 = .ok (.goto (-21), 3) := by decide +kernel
theorem dX9_close_202 : decode cX9_close 202 = .ok (.aload_n 0, 1) := by decide +kernel
theorem dX9_close_203 : decode cX9_close 203 = .ok (.aload_n 0, 1) := by decide +kernel
theorem dX9_close_204 : decode cX9_close 204 = .ok (.getfield 88, 3) := by decide +kernel
theorem dX9_close_207 : decode cX9_close 207 = .ok (.iload 5, 2) := by decide +kernel
theorem dX9_close_209 : decode cX9_close 209 = .ok (.iaload, 1) := by decide +kernel
theorem dX9_close_210 : decode cX9_close 210 = .ok (.iconst 1, 1) := by decide +kernel
theorem dX9_close_211 : decode cX9_close 211 = .ok (.invokevirtual 210, 3) := by decide +kernel
theorem dX9_close_214 : decode cX9_close 214 = .ok (.aload_n 0, 1) := by decide +kernel
theorem dX9_close_215 : decode cX9_close 215 = .ok (.iload 5, 2) := by decide +kernel
theorem dX9_close_217 : decode cX9_close 217 = .ok (.invokevirtual 218, 3) := by decide +kernel
theorem dX9_close_220 : decode cX9_close 220 = .ok (.iload 4, 2) := by decide +kernel
theorem dX9_close_222 : decode cX9_close 222 = .ok (.iconst 1, 1) := by decide +kernel
theorem dX9_close_223 : decode cX9_close 223 = .ok (.isub, 1) := by decide +kernel
theorem dX9_close_224 : decode cX9_close 224 = .ok (.istore 4, 2) := by decide +kernel
theorem dX9_close_226 : decode cX9_close 226 = .ok (.goto (-62), 3) := by decide +kernel
theorem dX9_close_229 : decode cX9_close 229 = .ok (.aload_n 0, 1) := by decide +kernel
theorem dX9_close_230 : decode cX9_close 230 = .ok (.lload_n 2, 1) := by decide +kernel
theorem dX9_close_231 : decode cX9_close 231 = .ok (.invokevirtual 221, 3) := by decide +kernel
theorem dX9_close_234 : decode cX9_close 234 = .ok (.aload_n 0, 1) := by decide +kernel
theorem dX9_close_235 : decode cX9_close 235 = .ok (.invokevirtual 225, 3) := by decide +kernel
theorem dX9_close_238 : decode cX9_close 238 = .ok (.iload 4, 2) := by decide +kernel
theorem dX9_close_240 : decode cX9_close 240 = .ok (.ireturn, 1) := by decide +kernel
theorem dX9_pays_0 : decode cX9_pays 0 = .ok (.lconst 0, 1) := by decide +kernel
theorem dX9_pays_1 : decode cX9_pays 1 = .ok (.lstore_n 3, 1) := by decide +kernel
theorem dX9_pays_2 : decode cX9_pays 2 = .ok (.iconst 0, 1) := by decide +kernel
theorem dX9_pays_3 : decode cX9_pays 3 = .ok (.istore 5, 2) := by decide +kernel
theorem dX9_pays_5 : decode cX9_pays 5 = .ok (.iload 5, 2) := by decide +kernel
theorem dX9_pays_7 : decode cX9_pays 7 = .ok (.aload_n 0, 1) := by decide +kernel
theorem dX9_pays_8 : decode cX9_pays 8 = .ok (.getfield 171, 3) := by decide +kernel
theorem dX9_pays_11 : decode cX9_pays 11 = .ok (.if_icmp .ge 99, 3) := by decide +kernel
theorem dX9_pays_14 : decode cX9_pays 14 = .ok (.aload_n 0, 1) := by decide +kernel
theorem dX9_pays_15 : decode cX9_pays 15 = .ok (.getfield 66, 3) := by decide +kernel
theorem dX9_pays_18 : decode cX9_pays 18 = .ok (.iload 5, 2) := by decide +kernel
theorem dX9_pays_20 : decode cX9_pays 20 = .ok (.baload, 1) := by decide +kernel
theorem dX9_pays_21 : decode cX9_pays 21 = .ok (.ifCond .eq 6, 3) := by decide +kernel
theorem dX9_pays_24 : decode cX9_pays 24 = .ok (.goto 80, 3) := by decide +kernel
theorem dX9_pays_27 : decode cX9_pays 27 = .ok (.aload_n 0, 1) := by decide +kernel
theorem dX9_pays_28 : decode cX9_pays 28 = .ok (.iload 5, 2) := by decide +kernel
theorem dX9_pays_30 : decode cX9_pays 30 = .ok (.invokevirtual 228, 3) := by decide +kernel
theorem dX9_pays_33 : decode cX9_pays 33 = .ok (.istore 6, 2) := by decide +kernel
theorem dX9_pays_35 : decode cX9_pays 35 = .ok (.aload_n 0, 1) := by decide +kernel
theorem dX9_pays_36 : decode cX9_pays 36 = .ok (.aload_n 0, 1) := by decide +kernel
theorem dX9_pays_37 : decode cX9_pays 37 = .ok (.getfield 128, 3) := by decide +kernel
theorem dX9_pays_40 : decode cX9_pays 40 = .ok (.iload 5, 2) := by decide +kernel
theorem dX9_pays_42 : decode cX9_pays 42 = .ok (.aload_n 0, 1) := by decide +kernel
theorem dX9_pays_43 : decode cX9_pays 43 = .ok (.getfield 125, 3) := by decide +kernel
theorem dX9_pays_46 : decode cX9_pays 46 = .ok (.invokevirtual 190, 3) := by decide +kernel
theorem dX9_pays_49 : decode cX9_pays 49 = .ok (.pop, 1) := by decide +kernel
theorem dX9_pays_50 : decode cX9_pays 50 = .ok (.aload_n 0, 1) := by decide +kernel
theorem dX9_pays_51 : decode cX9_pays 51 = .ok (.getfield 178, 3) := by decide +kernel
theorem dX9_pays_54 : decode cX9_pays 54 = .ok (.ifCond .ne 18, 3) := by decide +kernel
theorem dX9_pays_57 : decode cX9_pays 57 = .ok (.iload 6, 2) := by decide +kernel
theorem dX9_pays_59 : decode cX9_pays 59 = .ok (.ifCond .eq 45, 3) := by decide +kernel
theorem dX9_pays_62 : decode cX9_pays 62 = .ok (.aload_n 0, 1) := by decide +kernel
theorem dX9_pays_63 : decode cX9_pays 63 = .ok (.getfield 174, 3) := by decide +kernel
theorem dX9_pays_66 : decode cX9_pays 66 = .ok (.ifCond .eq 6, 3) := by decide +kernel
theorem dX9_pays_69 : decode cX9_pays 69 = .ok (.goto 35, 3) := by decide +kernel
theorem dX9_pays_72 : decode cX9_pays 72 = .ok (.aload_n 0, 1) := by decide +kernel
theorem dX9_pays_73 : decode cX9_pays 73 = .ok (.getfield 101, 3) := by decide +kernel
theorem dX9_pays_76 : decode cX9_pays 76 = .ok (.aload_n 0, 1) := by decide +kernel
theorem dX9_pays_77 : decode cX9_pays 77 = .ok (.getfield 181, 3) := by decide +kernel
theorem dX9_pays_80 : decode cX9_pays 80 = .ok (.aload_n 0, 1) := by decide +kernel
theorem dX9_pays_81 : decode cX9_pays 81 = .ok (.getfield 101, 3) := by decide +kernel
theorem dX9_pays_84 : decode cX9_pays 84 = .ok (.aload_n 0, 1) := by decide +kernel
theorem dX9_pays_85 : decode cX9_pays 85 = .ok (.getfield 181, 3) := by decide +kernel
theorem dX9_pays_88 : decode cX9_pays 88 = .ok (.laload, 1) := by decide +kernel
theorem dX9_pays_89 : decode cX9_pays 89 = .ok (.aload_n 0, 1) := by decide +kernel
theorem dX9_pays_90 : decode cX9_pays 90 = .ok (.getfield 23, 3) := by decide +kernel
theorem dX9_pays_93 : decode cX9_pays 93 = .ok (.i2l, 1) := by decide +kernel
theorem dX9_pays_94 : decode cX9_pays 94 = .ok (.ladd, 1) := by decide +kernel
theorem dX9_pays_95 : decode cX9_pays 95 = .ok (.lastore, 1) := by decide +kernel
theorem dX9_pays_96 : decode cX9_pays 96 = .ok (.lload_n 3, 1) := by decide +kernel
theorem dX9_pays_97 : decode cX9_pays 97 = .ok (.aload_n 0, 1) := by decide +kernel
theorem dX9_pays_98 : decode cX9_pays 98 = .ok (.getfield 23, 3) := by decide +kernel
theorem dX9_pays_101 : decode cX9_pays 101 = .ok (.i2l, 1) := by decide +kernel
theorem dX9_pays_102 : decode cX9_pays 102 = .ok (.ladd, 1) := by decide +kernel
theorem dX9_pays_103 : decode cX9_pays 103 = .ok (.lstore_n 3, 1) := by decide +kernel
theorem dX9_pays_104 : decode cX9_pays 104 = .ok (.iinc 5 1, 3) := by decide +kernel
theorem dX9_pays_107 : decode cX9_pays 107 = .ok (.goto (-102), 3) := by decide +kernel
theorem dX9_pays_110 : decode cX9_pays 110 = .ok (.lconst 0, 1) := by decide +kernel
theorem dX9_pays_111 : decode cX9_pays 111 = .ok (.lstore 5, 2) := by decide +kernel
theorem dX9_pays_113 : decode cX9_pays 113 = .ok (.iconst 0, 1) := by decide +kernel
theorem dX9_pays_114 : decode cX9_pays 114 = .ok (.istore 7, 2) := by decide +kernel
theorem dX9_pays_116 : decode cX9_pays 116 = .ok (.iload 7, 2) := by decide +kernel
theorem dX9_pays_118 : decode cX9_pays 118 = .ok (.bipush 12, 2) := by decide +kernel
theorem dX9_pays_120 : decode cX9_pays 120 = .ok (.if_icmp .ge 53, 3) := by decide +kernel
theorem dX9_pays_123 : decode cX9_pays 123 = .ok (.lload_n 1, 1) := by decide +kernel
theorem dX9_pays_124 : decode cX9_pays 124 = .ok (.lconst 0, 1) := by decide +kernel
theorem dX9_pays_125 : decode cX9_pays 125 = .ok (.lcmp, 1) := by decide +kernel
theorem dX9_pays_126 : decode cX9_pays 126 = .ok (.ifCond .le 47, 3) := by decide +kernel
theorem dX9_pays_129 : decode cX9_pays 129 = .ok (.lload_n 3, 1) := by decide +kernel
theorem dX9_pays_130 : decode cX9_pays 130 = .ok (.aload_n 0, 1) := by decide +kernel
theorem dX9_pays_131 : decode cX9_pays 131 = .ok (.getfield 85, 3) := by decide +kernel
theorem dX9_pays_134 : decode cX9_pays 134 = .ok (.iload 7, 2) := by decide +kernel
theorem dX9_pays_136 : decode cX9_pays 136 = .ok (.iaload, 1) := by decide +kernel
theorem dX9_pays_137 : decode cX9_pays 137 = .ok (.i2l, 1) := by decide +kernel
theorem dX9_pays_138 : decode cX9_pays 138 = .ok (.lmul, 1) := by decide +kernel
theorem dX9_pays_139 : decode cX9_pays 139 = .ok (.lload_n 1, 1) := by decide +kernel
theorem dX9_pays_140 : decode cX9_pays 140 = .ok (.ldiv, 1) := by decide +kernel
theorem dX9_pays_141 : decode cX9_pays 141 = .ok (.lstore 8, 2) := by decide +kernel
theorem dX9_pays_143 : decode cX9_pays 143 = .ok (.aload_n 0, 1) := by decide +kernel
theorem dX9_pays_144 : decode cX9_pays 144 = .ok (.getfield 101, 3) := by decide +kernel
theorem dX9_pays_147 : decode cX9_pays 147 = .ok (.iload 7, 2) := by decide +kernel
theorem dX9_pays_149 : decode cX9_pays 149 = .ok (.aload_n 0, 1) := by decide +kernel
theorem dX9_pays_150 : decode cX9_pays 150 = .ok (.getfield 101, 3) := by decide +kernel
theorem dX9_pays_153 : decode cX9_pays 153 = .ok (.iload 7, 2) := by decide +kernel
theorem dX9_pays_155 : decode cX9_pays 155 = .ok (.laload, 1) := by decide +kernel
theorem dX9_pays_156 : decode cX9_pays 156 = .ok (.lload 8, 2) := by decide +kernel
theorem dX9_pays_158 : decode cX9_pays 158 = .ok (.lsub, 1) := by decide +kernel
theorem dX9_pays_159 : decode cX9_pays 159 = .ok (.lastore, 1) := by decide +kernel
theorem dX9_pays_160 : decode cX9_pays 160 = .ok (.lload 5, 2) := by decide +kernel
theorem dX9_pays_162 : decode cX9_pays 162 = .ok (.lload 8, 2) := by decide +kernel
theorem dX9_pays_164 : decode cX9_pays 164 = .ok (.ladd, 1) := by decide +kernel
theorem dX9_pays_165 : decode cX9_pays 165 = .ok (.lstore 5, 2) := by decide +kernel
theorem dX9_pays_167 : decode cX9_pays 167 = .ok (.iinc 7 1, 3) := by decide +kernel
theorem dX9_pays_170 : decode cX9_pays 170 = .ok (.goto (-54), 3) := by decide +kernel
theorem dX9_pays_173 : decode cX9_pays 173 = .ok (.aload_n 0, 1) := by decide +kernel
theorem dX9_pays_174 : decode cX9_pays 174 = .ok (.aload_n 0, 1) := by decide +kernel
theorem dX9_pays_175 : decode cX9_pays 175 = .ok (.getfield 231, 3) := by decide +kernel
theorem dX9_pays_178 : decode cX9_pays 178 = .ok (.lload_n 3, 1) := by decide +kernel
theorem dX9_pays_179 : decode cX9_pays 179 = .ok (.ladd, 1) := by decide +kernel
theorem dX9_pays_180 : decode cX9_pays 180 = .ok (.lload 5, 2) := by decide +kernel
theorem dX9_pays_182 : decode cX9_pays 182 = .ok (.lsub, 1) := by decide +kernel
theorem dX9_pays_183 : decode cX9_pays 183 = .ok (.putfield 231, 3) := by decide +kernel
theorem dX9_pays_186 : decode cX9_pays 186 = .ok (.return_, 1) := by decide +kernel
theorem dX9_begins_0 : decode cX9_begins 0 = .ok (.iconst 0, 1) := by decide +kernel
theorem dX9_begins_1 : decode cX9_begins 1 = .ok (.istore_n 1, 1) := by decide +kernel
theorem dX9_begins_2 : decode cX9_begins 2 = .ok (.iload_n 1, 1) := by decide +kernel
theorem dX9_begins_3 : decode cX9_begins 3 = .ok (.aload_n 0, 1) := by decide +kernel
theorem dX9_begins_4 : decode cX9_begins 4 = .ok (.getfield 171, 3) := by decide +kernel
theorem dX9_begins_7 : decode cX9_begins 7 = .ok (.if_icmp .ge 50, 3) := by decide +kernel
theorem dX9_begins_10 : decode cX9_begins 10 = .ok (.aload_n 0, 1) := by decide +kernel
theorem dX9_begins_11 : decode cX9_begins 11 = .ok (.aload_n 0, 1) := by decide +kernel
theorem dX9_begins_12 : decode cX9_begins 12 = .ok (.getfield 128, 3) := by decide +kernel
theorem dX9_begins_15 : decode cX9_begins 15 = .ok (.iload_n 1, 1) := by decide +kernel
theorem dX9_begins_16 : decode cX9_begins 16 = .ok (.aload_n 0, 1) := by decide +kernel
theorem dX9_begins_17 : decode cX9_begins 17 = .ok (.getfield 125, 3) := by decide +kernel
theorem dX9_begins_20 : decode cX9_begins 20 = .ok (.invokevirtual 190, 3) := by decide +kernel
theorem dX9_begins_23 : decode cX9_begins 23 = .ok (.pop, 1) := by decide +kernel
theorem dX9_begins_24 : decode cX9_begins 24 = .ok (.aload_n 0, 1) := by decide +kernel
theorem dX9_begins_25 : decode cX9_begins 25 = .ok (.getfield 60, 3) := by decide +kernel
theorem dX9_begins_28 : decode cX9_begins 28 = .ok (.iload_n 1, 1) := by decide +kernel
theorem dX9_begins_29 : decode cX9_begins 29 = .ok (.aload_n 0, 1) := by decide +kernel
theorem dX9_begins_30 : decode cX9_begins 30 = .ok (.getfield 181, 3) := by decide +kernel
theorem dX9_begins_33 : decode cX9_begins 33 = .ok (.iastore, 1) := by decide +kernel
theorem dX9_begins_34 : decode cX9_begins 34 = .ok (.aload_n 0, 1) := by decide +kernel
theorem dX9_begins_35 : decode cX9_begins 35 = .ok (.getfield 66, 3) := by decide +kernel
theorem dX9_begins_38 : decode cX9_begins 38 = .ok (.iload_n 1, 1) := by decide +kernel
theorem dX9_begins_39 : decode cX9_begins 39 = .ok (.aload_n 0, 1) := by decide +kernel
theorem dX9_begins_40 : decode cX9_begins 40 = .ok (.getfield 178, 3) := by decide +kernel
theorem dX9_begins_43 : decode cX9_begins 43 = .ok (.bastore, 1) := by decide +kernel
theorem dX9_begins_44 : decode cX9_begins 44 = .ok (.aload_n 0, 1) := by decide +kernel
theorem dX9_begins_45 : decode cX9_begins 45 = .ok (.getfield 63, 3) := by decide +kernel
theorem dX9_begins_48 : decode cX9_begins 48 = .ok (.iload_n 1, 1) := by decide +kernel
theorem dX9_begins_49 : decode cX9_begins 49 = .ok (.iconst 0, 1) := by decide +kernel
theorem dX9_begins_50 : decode cX9_begins 50 = .ok (.iastore, 1) := by decide +kernel
theorem dX9_begins_51 : decode cX9_begins 51 = .ok (.iinc 1 1, 3) := by decide +kernel
theorem dX9_begins_54 : decode cX9_begins 54 = .ok (.goto (-52), 3) := by decide +kernel
theorem dX9_begins_57 : decode cX9_begins 57 = .ok (.aload_n 0, 1) := by decide +kernel
theorem dX9_begins_58 : decode cX9_begins 58 = .ok (.aload_n 0, 1) := by decide +kernel
theorem dX9_begins_59 : decode cX9_begins 59 = .ok (.getfield 36, 3) := by decide +kernel
theorem dX9_begins_62 : decode cX9_begins 62 = .ok (.iconst 1, 1) := by decide +kernel
theorem dX9_begins_63 : decode cX9_begins 63 = .ok (.iadd, 1) := by decide +kernel
theorem dX9_begins_64 : decode cX9_begins 64 = .ok (.putfield 36, 3) := by decide +kernel
theorem dX9_begins_67 : decode cX9_begins 67 = .ok (.aload_n 0, 1) := by decide +kernel
theorem dX9_begins_68 : decode cX9_begins 68 = .ok (.iconst 0, 1) := by decide +kernel
theorem dX9_begins_69 : decode cX9_begins 69 = .ok (.putfield 125, 3) := by decide +kernel
theorem dX9_begins_72 : decode cX9_begins 72 = .ok (.aload_n 0, 1) := by decide +kernel
theorem dX9_begins_73 : decode cX9_begins 73 = .ok (.iconst 0, 1) := by decide +kernel
theorem dX9_begins_74 : decode cX9_begins 74 = .ok (.putfield 128, 3) := by decide +kernel
theorem dX9_begins_77 : decode cX9_begins 77 = .ok (.aload_n 0, 1) := by decide +kernel
theorem dX9_begins_78 : decode cX9_begins 78 = .ok (.iconst (-1), 1) := by decide +kernel
theorem dX9_begins_79 : decode cX9_begins 79 = .ok (.putfield 57, 3) := by decide +kernel
theorem dX9_begins_82 : decode cX9_begins 82 = .ok (.aload_n 0, 1) := by decide +kernel
theorem dX9_begins_83 : decode cX9_begins 83 = .ok (.iconst 0, 1) := by decide +kernel
theorem dX9_begins_84 : decode cX9_begins 84 = .ok (.putfield 149, 3) := by decide +kernel
theorem dX9_begins_87 : decode cX9_begins 87 = .ok (.return_, 1) := by decide +kernel
theorem dX9_work_0 : decode cX9_work 0 = .ok (.iload_n 1, 1) := by decide +kernel
theorem dX9_work_1 : decode cX9_work 1 = .ok (.ifCond .lt 21, 3) := by decide +kernel
theorem dX9_work_4 : decode cX9_work 4 = .ok (.iload_n 1, 1) := by decide +kernel
theorem dX9_work_5 : decode cX9_work 5 = .ok (.bipush 12, 2) := by decide +kernel
theorem dX9_work_7 : decode cX9_work 7 = .ok (.if_icmp .ge 15, 3) := by decide +kernel
theorem dX9_work_10 : decode cX9_work 10 = .ok (.iload_n 2, 1) := by decide +kernel
theorem dX9_work_11 : decode cX9_work 11 = .ok (.iconst 1, 1) := by decide +kernel
theorem dX9_work_12 : decode cX9_work 12 = .ok (.if_icmp .lt 10, 3) := by decide +kernel
theorem dX9_work_15 : decode cX9_work 15 = .ok (.iload_n 2, 1) := by decide +kernel
theorem dX9_work_16 : decode cX9_work 16 = .ok (.sipush 1000, 3) := by decide +kernel
theorem dX9_work_19 : decode cX9_work 19 = .ok (.if_icmp .le 5, 3) := by decide +kernel
theorem dX9_work_22 : decode cX9_work 22 = .ok (.iconst 0, 1) := by decide +kernel
theorem dX9_work_23 : decode cX9_work 23 = .ok (.ireturn, 1) := by decide +kernel
theorem dX9_work_24 : decode cX9_work 24 = .ok (.aload_n 0, 1) := by decide +kernel
theorem dX9_work_25 : decode cX9_work 25 = .ok (.getfield 97, 3) := by decide +kernel
theorem dX9_work_28 : decode cX9_work 28 = .ok (.iload_n 1, 1) := by decide +kernel
theorem dX9_work_29 : decode cX9_work 29 = .ok (.aload_n 0, 1) := by decide +kernel
theorem dX9_work_30 : decode cX9_work 30 = .ok (.getfield 97, 3) := by decide +kernel
theorem dX9_work_33 : decode cX9_work 33 = .ok (.iload_n 1, 1) := by decide +kernel
theorem dX9_work_34 : decode cX9_work 34 = .ok (.laload, 1) := by decide +kernel
theorem dX9_work_35 : decode cX9_work 35 = .ok (.iload_n 2, 1) := by decide +kernel
theorem dX9_work_36 : decode cX9_work 36 = .ok (.i2l, 1) := by decide +kernel
theorem dX9_work_37 : decode cX9_work 37 = .ok (.lsub, 1) := by decide +kernel
theorem dX9_work_38 : decode cX9_work 38 = .ok (.lastore, 1) := by decide +kernel
theorem dX9_work_39 : decode cX9_work 39 = .ok (.iconst 1, 1) := by decide +kernel
theorem dX9_work_40 : decode cX9_work 40 = .ok (.ireturn, 1) := by decide +kernel
theorem dX9_herd_0 : decode cX9_herd 0 = .ok (.iconst 0, 1) := by decide +kernel
theorem dX9_herd_1 : decode cX9_herd 1 = .ok (.istore_n 2, 1) := by decide +kernel
theorem dX9_herd_2 : decode cX9_herd 2 = .ok (.iconst 0, 1) := by decide +kernel
theorem dX9_herd_3 : decode cX9_herd 3 = .ok (.istore_n 3, 1) := by decide +kernel
theorem dX9_herd_4 : decode cX9_herd 4 = .ok (.iload_n 3, 1) := by decide +kernel
theorem dX9_herd_5 : decode cX9_herd 5 = .ok (.aload_n 0, 1) := by decide +kernel
theorem dX9_herd_6 : decode cX9_herd 6 = .ok (.getfield 171, 3) := by decide +kernel
theorem dX9_herd_9 : decode cX9_herd 9 = .ok (.if_icmp .ge 46, 3) := by decide +kernel
theorem dX9_herd_12 : decode cX9_herd 12 = .ok (.aload_n 0, 1) := by decide +kernel
theorem dX9_herd_13 : decode cX9_herd 13 = .ok (.aload_n 0, 1) := by decide +kernel
theorem dX9_herd_14 : decode cX9_herd 14 = .ok (.getfield 128, 3) := by decide +kernel
theorem dX9_herd_17 : decode cX9_herd 17 = .ok (.iload_n 3, 1) := by decide +kernel
theorem dX9_herd_18 : decode cX9_herd 18 = .ok (.aload_n 0, 1) := by decide +kernel
theorem dX9_herd_19 : decode cX9_herd 19 = .ok (.getfield 125, 3) := by decide +kernel
theorem dX9_herd_22 : decode cX9_herd 22 = .ok (.invokevirtual 190, 3) := by decide +kernel
theorem dX9_herd_25 : decode cX9_herd 25 = .ok (.pop, 1) := by decide +kernel
