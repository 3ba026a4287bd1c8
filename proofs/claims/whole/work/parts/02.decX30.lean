theorem dX3_init_0 : decode cX3_init 0 = .ok (.aload_n 0, 1) := by decide +kernel
theorem dX3_init_1 : decode cX3_init 1 = .ok (.invokespecial 3, 3) := by decide +kernel
theorem dX3_init_4 : decode cX3_init 4 = .ok (.aload_n 0, 1) := by decide +kernel
theorem dX3_init_5 : decode cX3_init 5 = .ok (.bipush 8, 2) := by decide +kernel
theorem dX3_init_7 : decode cX3_init 7 = .ok (.newarray .int, 2) := by decide +kernel
theorem dX3_init_9 : decode cX3_init 9 = .ok (.putfield 9, 3) := by decide +kernel
theorem dX3_init_12 : decode cX3_init 12 = .ok (.aload_n 0, 1) := by decide +kernel
theorem dX3_init_13 : decode cX3_init 13 = .ok (.iconst 0, 1) := by decide +kernel
theorem dX3_init_14 : decode cX3_init 14 = .ok (.putfield 15, 3) := by decide +kernel
theorem dX3_init_17 : decode cX3_init 17 = .ok (.aload_n 0, 1) := by decide +kernel
theorem dX3_init_18 : decode cX3_init 18 = .ok (.bipush 8, 2) := by decide +kernel
theorem dX3_init_20 : decode cX3_init 20 = .ok (.newarray .int, 2) := by decide +kernel
theorem dX3_init_22 : decode cX3_init 22 = .ok (.putfield 19, 3) := by decide +kernel
theorem dX3_init_25 : decode cX3_init 25 = .ok (.aload_n 0, 1) := by decide +kernel
theorem dX3_init_26 : decode cX3_init 26 = .ok (.bipush 54, 2) := by decide +kernel
theorem dX3_init_28 : decode cX3_init 28 = .ok (.newarray .int, 2) := by decide +kernel
theorem dX3_init_30 : decode cX3_init 30 = .ok (.putfield 22, 3) := by decide +kernel
theorem dX3_init_33 : decode cX3_init 33 = .ok (.aload_n 0, 1) := by decide +kernel
theorem dX3_init_34 : decode cX3_init 34 = .ok (.bipush 6, 2) := by decide +kernel
theorem dX3_init_36 : decode cX3_init 36 = .ok (.newarray .int, 2) := by decide +kernel
theorem dX3_init_38 : decode cX3_init 38 = .ok (.putfield 25, 3) := by decide +kernel
theorem dX3_init_41 : decode cX3_init 41 = .ok (.aload_n 0, 1) := by decide +kernel
theorem dX3_init_42 : decode cX3_init 42 = .ok (.bipush 6, 2) := by decide +kernel
theorem dX3_init_44 : decode cX3_init 44 = .ok (.newarray .int, 2) := by decide +kernel
theorem dX3_init_46 : decode cX3_init 46 = .ok (.putfield 28, 3) := by decide +kernel
theorem dX3_init_49 : decode cX3_init 49 = .ok (.aload_n 0, 1) := by decide +kernel
theorem dX3_init_50 : decode cX3_init 50 = .ok (.iconst 0, 1) := by decide +kernel
theorem dX3_init_51 : decode cX3_init 51 = .ok (.putfield 31, 3) := by decide +kernel
theorem dX3_init_54 : decode cX3_init 54 = .ok (.aload_n 0, 1) := by decide +kernel
theorem dX3_init_55 : decode cX3_init 55 = .ok (.iconst 0, 1) := by decide +kernel
theorem dX3_init_56 : decode cX3_init 56 = .ok (.putfield 34, 3) := by decide +kernel
theorem dX3_init_59 : decode cX3_init 59 = .ok (.aload_n 0, 1) := by decide +kernel
theorem dX3_init_60 : decode cX3_init 60 = .ok (.iconst 0, 1) := by decide +kernel
theorem dX3_init_61 : decode cX3_init 61 = .ok (.putfield 37, 3) := by decide +kernel
theorem dX3_init_64 : decode cX3_init 64 = .ok (.aload_n 0, 1) := by decide +kernel
theorem dX3_init_65 : decode cX3_init 65 = .ok (.iconst 0, 1) := by decide +kernel
theorem dX3_init_66 : decode cX3_init 66 = .ok (.putfield 40, 3) := by decide +kernel
theorem dX3_init_69 : decode cX3_init 69 = .ok (.return_, 1) := by decide +kernel
theorem dX3_findBest_0 : decode cX3_findBest 0 = .ok (.aload_n 0, 1) := by decide +kernel
theorem dX3_findBest_1 : decode cX3_findBest 1 = .ok (.aload_n 1, 1) := by decide +kernel
theorem dX3_findBest_2 : decode cX3_findBest 2 = .ok (.getfield 43, 3) := by decide +kernel
theorem dX3_findBest_5 : decode cX3_findBest 5 = .ok (.putfield 31, 3) := by decide +kernel
theorem dX3_findBest_8 : decode cX3_findBest 8 = .ok (.iconst 0, 1) := by decide +kernel
theorem dX3_findBest_9 : decode cX3_findBest 9 = .ok (.istore 5, 2) := by decide +kernel
theorem dX3_findBest_11 : decode cX3_findBest 11 = .ok (.iload 5, 2) := by decide +kernel
theorem dX3_findBest_13 : decode cX3_findBest 13 = .ok (.aload_n 0, 1) := by decide +kernel
theorem dX3_findBest_14 : decode cX3_findBest 14 = .ok (.getfield 31, 3) := by decide +kernel
theorem dX3_findBest_17 : decode cX3_findBest 17 = .ok (.if_icmp .ge 52, 3) := by decide +kernel
theorem dX3_findBest_20 : decode cX3_findBest 20 = .ok (.aload_n 0, 1) := by decide +kernel
theorem dX3_findBest_21 : decode cX3_findBest 21 = .ok (.getfield 22, 3) := by decide +kernel
theorem dX3_findBest_24 : decode cX3_findBest 24 = .ok (.iload 5, 2) := by decide +kernel
theorem dX3_findBest_26 : decode cX3_findBest 26 = .ok (.aload_n 1, 1) := by decide +kernel
theorem dX3_findBest_27 : decode cX3_findBest 27 = .ok (.getfield 46, 3) := by decide +kernel
theorem dX3_findBest_30 : decode cX3_findBest 30 = .ok (.iload 5, 2) := by decide +kernel
theorem dX3_findBest_32 : decode cX3_findBest 32 = .ok (.iaload, 1) := by decide +kernel
theorem dX3_findBest_33 : decode cX3_findBest 33 = .ok (.iastore, 1) := by decide +kernel
theorem dX3_findBest_34 : decode cX3_findBest 34 = .ok (.aload_n 0, 1) := by decide +kernel
theorem dX3_findBest_35 : decode cX3_findBest 35 = .ok (.getfield 25, 3) := by decide +kernel
theorem dX3_findBest_38 : decode cX3_findBest 38 = .ok (.iload 5, 2) := by decide +kernel
theorem dX3_findBest_40 : decode cX3_findBest 40 = .ok (.aload_n 1, 1) := by decide +kernel
theorem dX3_findBest_41 : decode cX3_findBest 41 = .ok (.getfield 49, 3) := by decide +kernel
theorem dX3_findBest_44 : decode cX3_findBest 44 = .ok (.iload 5, 2) := by decide +kernel
theorem dX3_findBest_46 : decode cX3_findBest 46 = .ok (.iaload, 1) := by decide +kernel
theorem dX3_findBest_47 : decode cX3_findBest 47 = .ok (.iastore, 1) := by decide +kernel
theorem dX3_findBest_48 : decode cX3_findBest 48 = .ok (.aload_n 0, 1) := by decide +kernel
theorem dX3_findBest_49 : decode cX3_findBest 49 = .ok (.getfield 28, 3) := by decide +kernel
theorem dX3_findBest_52 : decode cX3_findBest 52 = .ok (.iload 5, 2) := by decide +kernel
theorem dX3_findBest_54 : decode cX3_findBest 54 = .ok (.aload_n 1, 1) := by decide +kernel
theorem dX3_findBest_55 : decode cX3_findBest 55 = .ok (.iload 5, 2) := by decide +kernel
theorem dX3_findBest_57 : decode cX3_findBest 57 = .ok (.iload 4, 2) := by decide +kernel
theorem dX3_findBest_59 : decode cX3_findBest 59 = .ok (.invokevirtual 50, 3) := by decide +kernel
theorem dX3_findBest_62 : decode cX3_findBest 62 = .ok (.iastore, 1) := by decide +kernel
theorem dX3_findBest_63 : decode cX3_findBest 63 = .ok (.iinc 5 1, 3) := by decide +kernel
theorem dX3_findBest_66 : decode cX3_findBest 66 = .ok (.goto (-55), 3) := by decide +kernel
theorem dX3_findBest_69 : decode cX3_findBest 69 = .ok (.aload_n 0, 1) := by decide +kernel
theorem dX3_findBest_70 : decode cX3_findBest 70 = .ok (.iload_n 3, 1) := by decide +kernel
theorem dX3_findBest_71 : decode cX3_findBest 71 = .ok (.putfield 15, 3) := by decide +kernel
theorem dX3_findBest_74 : decode cX3_findBest 74 = .ok (.aload_n 0, 1) := by decide +kernel
theorem dX3_findBest_75 : decode cX3_findBest 75 = .ok (.bipush 10, 2) := by decide +kernel
theorem dX3_findBest_77 : decode cX3_findBest 77 = .ok (.iload_n 2, 1) := by decide +kernel
theorem dX3_findBest_78 : decode cX3_findBest 78 = .ok (.imul, 1) := by decide +kernel
theorem dX3_findBest_79 : decode cX3_findBest 79 = .ok (.putfield 34, 3) := by decide +kernel
theorem dX3_findBest_82 : decode cX3_findBest 82 = .ok (.aload_n 0, 1) := by decide +kernel
theorem dX3_findBest_83 : decode cX3_findBest 83 = .ok (.ldc 56, 2) := by decide +kernel
theorem dX3_findBest_85 : decode cX3_findBest 85 = .ok (.putfield 37, 3) := by decide +kernel
theorem dX3_findBest_88 : decode cX3_findBest 88 = .ok (.aload_n 0, 1) := by decide +kernel
theorem dX3_findBest_89 : decode cX3_findBest 89 = .ok (.iconst 0, 1) := by decide +kernel
theorem dX3_findBest_90 : decode cX3_findBest 90 = .ok (.putfield 40, 3) := by decide +kernel
theorem dX3_findBest_93 : decode cX3_findBest 93 = .ok (.aload_n 0, 1) := by decide +kernel
theorem dX3_findBest_94 : decode cX3_findBest 94 = .ok (.iconst 0, 1) := by decide +kernel
theorem dX3_findBest_95 : decode cX3_findBest 95 = .ok (.aload_n 1, 1) := by decide +kernel
theorem dX3_findBest_96 : decode cX3_findBest 96 = .ok (.getfield 57, 3) := by decide +kernel
theorem dX3_findBest_99 : decode cX3_findBest 99 = .ok (.iconst 0, 1) := by decide +kernel
theorem dX3_findBest_100 : decode cX3_findBest 100 = .ok (.invokestatic 60, 3) := by decide +kernel
theorem dX3_findBest_103 : decode cX3_findBest 103 = .ok (.aload_n 0, 1) := by decide +kernel
theorem dX3_findBest_104 : decode cX3_findBest 104 = .ok (.getfield 37, 3) := by decide +kernel
theorem dX3_findBest_107 : decode cX3_findBest 107 = .ok (.ireturn, 1) := by decide +kernel
theorem dX3_explore_0 : decode cX3_explore 0 = .ok (.iload_n 3, 1) := by decide +kernel
theorem dX3_explore_1 : decode cX3_explore 1 = .ok (.aload_n 0, 1) := by decide +kernel
theorem dX3_explore_2 : decode cX3_explore 2 = .ok (.getfield 37, 3) := by decide +kernel
theorem dX3_explore_5 : decode cX3_explore 5 = .ok (.if_icmp .le 4, 3) := by decide +kernel
theorem dX3_explore_8 : decode cX3_explore 8 = .ok (.return_, 1) := by decide +kernel
theorem dX3_explore_9 : decode cX3_explore 9 = .ok (.iload_n 1, 1) := by decide +kernel
theorem dX3_explore_10 : decode cX3_explore 10 = .ok (.aload_n 0, 1) := by decide +kernel
theorem dX3_explore_11 : decode cX3_explore 11 = .ok (.getfield 15, 3) := by decide +kernel
theorem dX3_explore_14 : decode cX3_explore 14 = .ok (.if_icmp .lt 9, 3) := by decide +kernel
theorem dX3_explore_17 : decode cX3_explore 17 = .ok (.aload_n 0, 1) := by decide +kernel
theorem dX3_explore_18 : decode cX3_explore 18 = .ok (.iload_n 3, 1) := by decide +kernel
theorem dX3_explore_19 : decode cX3_explore 19 = .ok (.invokevirtual 64, 3) := by decide +kernel
theorem dX3_explore_22 : decode cX3_explore 22 = .ok (.return_, 1) := by decide +kernel
theorem dX3_explore_23 : decode cX3_explore 23 = .ok (.aload_n 0, 1) := by decide +kernel
theorem dX3_explore_24 : decode cX3_explore 24 = .ok (.getfield 31, 3) := by decide +kernel
theorem dX3_explore_27 : decode cX3_explore 27 = .ok (.iconst 1, 1) := by decide +kernel
theorem dX3_explore_28 : decode cX3_explore 28 = .ok (.isub, 1) := by decide +kernel
theorem dX3_explore_29 : decode cX3_explore 29 = .ok (.iload_n 2, 1) := by decide +kernel
theorem dX3_explore_30 : decode cX3_explore 30 = .ok (.iconst 1, 1) := by decide +kernel
theorem dX3_explore_31 : decode cX3_explore 31 = .ok (.iadd, 1) := by decide +kernel
theorem dX3_explore_32 : decode cX3_explore 32 = .ok (.invokestatic 68, 3) := by decide +kernel
theorem dX3_explore_35 : decode cX3_explore 35 = .ok (.istore 4, 2) := by decide +kernel
theorem dX3_explore_37 : decode cX3_explore 37 = .ok (.iconst 0, 1) := by decide +kernel
theorem dX3_explore_38 : decode cX3_explore 38 = .ok (.iload_n 2, 1) := by decide +kernel
theorem dX3_explore_39 : decode cX3_explore 39 = .ok (.iconst 1, 1) := by decide +kernel
theorem dX3_explore_40 : decode cX3_explore 40 = .ok (.isub, 1) := by decide +kernel
theorem dX3_explore_41 : decode cX3_explore 41 = .ok (.invokestatic 73, 3) := by decide +kernel
theorem dX3_explore_44 : decode cX3_explore 44 = .ok (.istore 5, 2) := by decide +kernel
theorem dX3_explore_46 : decode cX3_explore 46 = .ok (.iload 5, 2) := by decide +kernel
theorem dX3_explore_48 : decode cX3_explore 48 = .ok (.iload 4, 2) := by decide +kernel
theorem dX3_explore_50 : decode cX3_explore 50 = .ok (.if_icmp .gt 39, 3) := by decide +kernel
theorem dX3_explore_53 : decode cX3_explore 53 = .ok (.aload_n 0, 1) := by decide +kernel
theorem dX3_explore_54 : decode cX3_explore 54 = .ok (.getfield 19, 3) := by decide +kernel
theorem dX3_explore_57 : decode cX3_explore 57 = .ok (.iload_n 1, 1) := by decide +kernel
theorem dX3_explore_58 : decode cX3_explore 58 = .ok (.iload 5, 2) := by decide +kernel
theorem dX3_explore_60 : decode cX3_explore 60 = .ok (.iastore, 1) := by decide +kernel
theorem dX3_explore_61 : decode cX3_explore 61 = .ok (.aload_n 0, 1) := by decide +kernel
theorem dX3_explore_62 : decode cX3_explore 62 = .ok (.iload_n 1, 1) := by decide +kernel
theorem dX3_explore_63 : decode cX3_explore 63 = .ok (.iload 5, 2) := by decide +kernel
theorem dX3_explore_65 : decode cX3_explore 65 = .ok (.invokevirtual 76, 3) := by decide +kernel
theorem dX3_explore_68 : decode cX3_explore 68 = .ok (.istore 6, 2) := by decide +kernel
theorem dX3_explore_70 : decode cX3_explore 70 = .ok (.aload_n 0, 1) := by decide +kernel
theorem dX3_explore_71 : decode cX3_explore 71 = .ok (.iload_n 1, 1) := by decide +kernel
theorem dX3_explore_72 : decode cX3_explore 72 = .ok (.iconst 1, 1) := by decide +kernel
theorem dX3_explore_73 : decode cX3_explore 73 = .ok (.iadd, 1) := by decide +kernel
theorem dX3_explore_74 : decode cX3_explore 74 = .ok (.iload 5, 2) := by decide +kernel
theorem dX3_explore_76 : decode cX3_explore 76 = .ok (.iload_n 3, 1) := by decide +kernel
theorem dX3_explore_77 : decode cX3_explore 77 = .ok (.iload 6, 2) := by decide +kernel
theorem dX3_explore_79 : decode cX3_explore 79 = .ok (.iadd, 1) := by decide +kernel
theorem dX3_explore_80 : decode cX3_explore 80 = .ok (.invokestatic 60, 3) := by decide +kernel
theorem dX3_explore_83 : decode cX3_explore 83 = .ok (.iinc 5 1, 3) := by decide +kernel
theorem dX3_explore_86 : decode cX3_explore 86 = .ok (.goto (-40), 3) := by decide +kernel
theorem dX3_explore_89 : decode cX3_explore 89 = .ok (.return_, 1) := by decide +kernel
theorem dX3_passDay_0 : decode cX3_passDay 0 = .ok (.iload_n 1, 1) := by decide +kernel
theorem dX3_passDay_1 : decode cX3_passDay 1 = .ok (.bipush 6, 2) := by decide +kernel
theorem dX3_passDay_3 : decode cX3_passDay 3 = .ok (.imul, 1) := by decide +kernel
theorem dX3_passDay_4 : decode cX3_passDay 4 = .ok (.istore_n 3, 1) := by decide +kernel
theorem dX3_passDay_5 : decode cX3_passDay 5 = .ok (.iload_n 3, 1) := by decide +kernel
theorem dX3_passDay_6 : decode cX3_passDay 6 = .ok (.bipush 6, 2) := by decide +kernel
theorem dX3_passDay_8 : decode cX3_passDay 8 = .ok (.iadd, 1) := by decide +kernel
theorem dX3_passDay_9 : decode cX3_passDay 9 = .ok (.istore 4, 2) := by decide +kernel
theorem dX3_passDay_11 : decode cX3_passDay 11 = .ok (.iconst 0, 1) := by decide +kernel
theorem dX3_passDay_12 : decode cX3_passDay 12 = .ok (.istore 5, 2) := by decide +kernel
theorem dX3_passDay_14 : decode cX3_passDay 14 = .ok (.iload 5, 2) := by decide +kernel
theorem dX3_passDay_16 : decode cX3_passDay 16 = .ok (.aload_n 0, 1) := by decide +kernel
theorem dX3_passDay_17 : decode cX3_passDay 17 = .ok (.getfield 31, 3) := by decide +kernel
theorem dX3_passDay_20 : decode cX3_passDay 20 = .ok (.if_icmp .ge 45, 3) := by decide +kernel
theorem dX3_passDay_23 : decode cX3_passDay 23 = .ok (.aload_n 0, 1) := by decide +kernel
theorem dX3_passDay_24 : decode cX3_passDay 24 = .ok (.getfield 22, 3) := by decide +kernel
theorem dX3_passDay_27 : decode cX3_passDay 27 = .ok (.iload 4, 2) := by decide +kernel
theorem dX3_passDay_29 : decode cX3_passDay 29 = .ok (.iload 5, 2) := by decide +kernel
theorem dX3_passDay_31 : decode cX3_passDay 31 = .ok (.iadd, 1) := by decide +kernel
theorem dX3_passDay_32 : decode cX3_passDay 32 = .ok (.aload_n 0, 1) := by decide +kernel
theorem dX3_passDay_33 : decode cX3_passDay 33 = .ok (.getfield 22, 3) := by decide +kernel
theorem dX3_passDay_36 : decode cX3_passDay 36 = .ok (.iload_n 3, 1) := by decide +kernel
theorem dX3_passDay_37 : decode cX3_passDay 37 = .ok (.iload 5, 2) := by decide +kernel
theorem dX3_passDay_39 : decode cX3_passDay 39 = .ok (.iadd, 1) := by decide +kernel
theorem dX3_passDay_40 : decode cX3_passDay 40 = .ok (.iaload, 1) := by decide +kernel
theorem dX3_passDay_41 : decode cX3_passDay 41 = .ok (.aload_n 0, 1) := by decide +kernel
theorem dX3_passDay_42 : decode cX3_passDay 42 = .ok (.getfield 25, 3) := by decide +kernel
theorem dX3_passDay_45 : decode cX3_passDay 45 = .ok (.iload 5, 2) := by decide +kernel
theorem dX3_passDay_47 : decode cX3_passDay 47 = .ok (.iaload, 1) := by decide +kernel
theorem dX3_passDay_48 : decode cX3_passDay 48 = .ok (.aload_n 0, 1) := by decide +kernel
theorem dX3_passDay_49 : decode cX3_passDay 49 = .ok (.getfield 28, 3) := by decide +kernel
theorem dX3_passDay_52 : decode cX3_passDay 52 = .ok (.iload 5, 2) := by decide +kernel
theorem dX3_passDay_54 : decode cX3_passDay 54 = .ok (.iaload, 1) := by decide +kernel
theorem dX3_passDay_55 : decode cX3_passDay 55 = .ok (.invokestatic 79, 3) := by decide +kernel
theorem dX3_passDay_58 : decode cX3_passDay 58 = .ok (.iastore, 1) := by decide +kernel
theorem dX3_passDay_59 : decode cX3_passDay 59 = .ok (.iinc 5 1, 3) := by decide +kernel
theorem dX3_passDay_62 : decode cX3_passDay 62 = .ok (.goto (-48), 3) := by decide +kernel
theorem dX3_passDay_65 : decode cX3_passDay 65 = .ok (.aload_n 0, 1) := by decide +kernel
theorem dX3_passDay_66 : decode cX3_passDay 66 = .ok (.getfield 34, 3) := by decide +kernel
theorem dX3_passDay_69 : decode cX3_passDay 69 = .ok (.aload_n 0, 1) := by decide +kernel
theorem dX3_passDay_70 : decode cX3_passDay 70 = .ok (.getfield 22, 3) := by decide +kernel
theorem dX3_passDay_73 : decode cX3_passDay 73 = .ok (.iload 4, 2) := by decide +kernel
theorem dX3_passDay_75 : decode cX3_passDay 75 = .ok (.iload_n 2, 1) := by decide +kernel
theorem dX3_passDay_76 : decode cX3_passDay 76 = .ok (.iadd, 1) := by decide +kernel
theorem dX3_passDay_77 : decode cX3_passDay 77 = .ok (.iaload, 1) := by decide +kernel
theorem dX3_passDay_78 : decode cX3_passDay 78 = .ok (.invokestatic 68, 3) := by decide +kernel
theorem dX3_passDay_81 : decode cX3_passDay 81 = .ok (.istore 5, 2) := by decide +kernel
theorem dX3_passDay_83 : decode cX3_passDay 83 = .ok (.aload_n 0, 1) := by decide +kernel
theorem dX3_passDay_84 : decode cX3_passDay 84 = .ok (.getfield 22, 3) := by decide +kernel
theorem dX3_passDay_87 : decode cX3_passDay 87 = .ok (.iload 4, 2) := by decide +kernel
theorem dX3_passDay_89 : decode cX3_passDay 89 = .ok (.iload_n 2, 1) := by decide +kernel
theorem dX3_passDay_90 : decode cX3_passDay 90 = .ok (.iadd, 1) := by decide +kernel
theorem dX3_passDay_91 : decode cX3_passDay 91 = .ok (.dup2, 1) := by decide +kernel
theorem dX3_passDay_92 : decode cX3_passDay 92 = .ok (.iaload, 1) := by decide +kernel
theorem dX3_passDay_93 : decode cX3_passDay 93 = .ok (.iload 5, 2) := by decide +kernel
theorem dX3_passDay_95 : decode cX3_passDay 95 = .ok (.isub, 1) := by decide +kernel
theorem dX3_passDay_96 : decode cX3_passDay 96 = .ok (.iastore, 1) := by decide +kernel
theorem dX3_passDay_97 : decode cX3_passDay 97 = .ok (.aload_n 0, 1) := by decide +kernel
theorem dX3_passDay_98 : decode cX3_passDay 98 = .ok (.getfield 34, 3) := by decide +kernel
theorem dX3_passDay_101 : decode cX3_passDay 101 = .ok (.iload 5, 2) := by decide +kernel
theorem dX3_passDay_103 : decode cX3_passDay 103 = .ok (.isub, 1) := by decide +kernel
theorem dX3_passDay_104 : decode cX3_passDay 104 = .ok (.ireturn, 1) := by decide +kernel
theorem dX3_judge_0 : decode cX3_judge 0 = .ok (.aload_n 0, 1) := by decide +kernel
theorem dX3_judge_1 : decode cX3_judge 1 = .ok (.getfield 15, 3) := by decide +kernel
theorem dX3_judge_4 : decode cX3_judge 4 = .ok (.bipush 6, 2) := by decide +kernel
theorem dX3_judge_6 : decode cX3_judge 6 = .ok (.imul, 1) := by decide +kernel
theorem dX3_judge_7 : decode cX3_judge 7 = .ok (.istore_n 2, 1) := by decide +kernel
theorem dX3_judge_8 : decode cX3_judge 8 = .ok (.iconst 0, 1) := by decide +kernel
theorem dX3_judge_9 : decode cX3_judge 9 = .ok (.istore_n 3, 1) := by decide +kernel
theorem dX3_judge_10 : decode cX3_judge 10 = .ok (.iconst 0, 1) := by decide +kernel
theorem dX3_judge_11 : decode cX3_judge 11 = .ok (.istore 4, 2) := by decide +kernel
theorem dX3_judge_13 : decode cX3_judge 13 = .ok (.iload 4, 2) := by decide +kernel
theorem dX3_judge_15 : decode cX3_judge 15 = .ok (.aload_n 0, 1) := by decide +kernel
theorem dX3_judge_16 : decode cX3_judge 16 = .ok (.getfield 31, 3) := by decide +kernel
theorem dX3_judge_19 : decode cX3_judge 19 = .ok (.if_icmp .ge 21, 3) := by decide +kernel
theorem dX3_judge_22 : decode cX3_judge 22 = .ok (.iload_n 3, 1) := by decide +kernel
theorem dX3_judge_23 : decode cX3_judge 23 = .ok (.aload_n 0, 1) := by decide +kernel
theorem dX3_judge_24 : decode cX3_judge 24 = .ok (.getfield 22, 3) := by decide +kernel
theorem dX3_judge_27 : decode cX3_judge 27 = .ok (.iload_n 2, 1) := by decide +kernel
theorem dX3_judge_28 : decode cX3_judge 28 = .ok (.iload 4, 2) := by decide +kernel
theorem dX3_judge_30 : decode cX3_judge 30 = .ok (.iadd, 1) := by decide +kernel
theorem dX3_judge_31 : decode cX3_judge 31 = .ok (.iaload, 1) := by decide +kernel
theorem dX3_judge_32 : decode cX3_judge 32 = .ok (.iadd, 1) := by decide +kernel
theorem dX3_judge_33 : decode cX3_judge 33 = .ok (.istore_n 3, 1) := by decide +kernel
theorem dX3_judge_34 : decode cX3_judge 34 = .ok (.iinc 4 1, 3) := by decide +kernel
theorem dX3_judge_37 : decode cX3_judge 37 = .ok (.goto (-24), 3) := by decide +kernel
theorem dX3_judge_40 : decode cX3_judge 40 = .ok (.iload_n 1, 1) := by decide +kernel
theorem dX3_judge_41 : decode cX3_judge 41 = .ok (.aload_n 0, 1) := by decide +kernel
theorem dX3_judge_42 : decode cX3_judge 42 = .ok (.getfield 37, 3) := by decide +kernel
theorem dX3_judge_45 : decode cX3_judge 45 = .ok (.if_icmp .lt 19, 3) := by decide +kernel
theorem dX3_judge_48 : decode cX3_judge 48 = .ok (.iload_n 1, 1) := by decide +kernel
theorem dX3_judge_49 : decode cX3_judge 49 = .ok (.aload_n 0, 1) := by decide +kernel
theorem dX3_judge_50 : decode cX3_judge 50 = .ok (.getfield 37, 3) := by decide +kernel
theorem dX3_judge_53 : decode cX3_judge 53 = .ok (.if_icmp .ne 38, 3) := by decide +kernel
theorem dX3_judge_56 : decode cX3_judge 56 = .ok (.iload_n 3, 1) := by decide +kernel
theorem dX3_judge_57 : decode cX3_judge 57 = .ok (.aload_n 0, 1) := by decide +kernel
theorem dX3_judge_58 : decode cX3_judge 58 = .ok (.getfield 40, 3) := by decide +kernel
theorem dX3_judge_61 : decode cX3_judge 61 = .ok (.if_icmp .le 30, 3) := by decide +kernel
theorem dX3_judge_64 : decode cX3_judge 64 = .ok (.aload_n 0, 1) := by decide +kernel
theorem dX3_judge_65 : decode cX3_judge 65 = .ok (.iload_n 1, 1) := by decide +kernel
theorem dX3_judge_66 : decode cX3_judge 66 = .ok (.putfield 37, 3) := by decide +kernel
theorem dX3_judge_69 : decode cX3_judge 69 = .ok (.aload_n 0, 1) := by decide +kernel
theorem dX3_judge_70 : decode cX3_judge 70 = .ok (.iload_n 3, 1) := by decide +kernel
theorem dX3_judge_71 : decode cX3_judge 71 = .ok (.putfield 40, 3) := by decide +kernel
theorem dX3_judge_74 : decode cX3_judge 74 = .ok (.aload_n 0, 1) := by decide +kernel
theorem dX3_judge_75 : decode cX3_judge 75 = .ok (.getfield 19, 3) := by decide +kernel
theorem dX3_judge_78 : decode cX3_judge 78 = .ok (.iconst 0, 1) := by decide +kernel
theorem dX3_judge_79 : decode cX3_judge 79 = .ok (.aload_n 0, 1) := by decide +kernel
theorem dX3_judge_80 : decode cX3_judge 80 = .ok (.getfield 9, 3) := by decide +kernel
theorem dX3_judge_83 : decode cX3_judge 83 = .ok (.iconst 0, 1) := by decide +kernel
theorem dX3_judge_84 : decode cX3_judge 84 = .ok (.aload_n 0, 1) := by decide +kernel
theorem dX3_judge_85 : decode cX3_judge 85 = .ok (.getfield 15, 3) := by decide +kernel
theorem dX3_judge_88 : decode cX3_judge 88 = .ok (.invokestatic 83, 3) := by decide +kernel
theorem dX3_judge_91 : decode cX3_judge 91 = .ok (.return_, 1) := by decide +kernel
