theorem dX7_init_0 : decode cX7_init 0 = .ok (.aload_n 0, 1) := by decide +kernel
theorem dX7_init_1 : decode cX7_init 1 = .ok (.invokespecial 3, 3) := by decide +kernel
theorem dX7_init_4 : decode cX7_init 4 = .ok (.aload_n 0, 1) := by decide +kernel
theorem dX7_init_5 : decode cX7_init 5 = .ok (.iconst 0, 1) := by decide +kernel
theorem dX7_init_6 : decode cX7_init 6 = .ok (.putfield 9, 3) := by decide +kernel
theorem dX7_init_9 : decode cX7_init 9 = .ok (.aload_n 0, 1) := by decide +kernel
theorem dX7_init_10 : decode cX7_init 10 = .ok (.iconst 0, 1) := by decide +kernel
theorem dX7_init_11 : decode cX7_init 11 = .ok (.putfield 15, 3) := by decide +kernel
theorem dX7_init_14 : decode cX7_init 14 = .ok (.aload_n 0, 1) := by decide +kernel
theorem dX7_init_15 : decode cX7_init 15 = .ok (.iconst 0, 1) := by decide +kernel
theorem dX7_init_16 : decode cX7_init 16 = .ok (.putfield 19, 3) := by decide +kernel
theorem dX7_init_19 : decode cX7_init 19 = .ok (.aload_n 0, 1) := by decide +kernel
theorem dX7_init_20 : decode cX7_init 20 = .ok (.iconst 0, 1) := by decide +kernel
theorem dX7_init_21 : decode cX7_init 21 = .ok (.putfield 22, 3) := by decide +kernel
theorem dX7_init_24 : decode cX7_init 24 = .ok (.aload_n 0, 1) := by decide +kernel
theorem dX7_init_25 : decode cX7_init 25 = .ok (.bipush 12, 2) := by decide +kernel
theorem dX7_init_27 : decode cX7_init 27 = .ok (.newarray .int, 2) := by decide +kernel
theorem dX7_init_29 : decode cX7_init 29 = .ok (.putfield 25, 3) := by decide +kernel
theorem dX7_init_32 : decode cX7_init 32 = .ok (.aload_n 0, 1) := by decide +kernel
theorem dX7_init_33 : decode cX7_init 33 = .ok (.iconst 1, 1) := by decide +kernel
theorem dX7_init_34 : decode cX7_init 34 = .ok (.putfield 29, 3) := by decide +kernel
theorem dX7_init_37 : decode cX7_init 37 = .ok (.return_, 1) := by decide +kernel
theorem dX7_replay_0 : decode cX7_replay 0 = .ok (.aload_n 0, 1) := by decide +kernel
theorem dX7_replay_1 : decode cX7_replay 1 = .ok (.aload_n 1, 1) := by decide +kernel
theorem dX7_replay_2 : decode cX7_replay 2 = .ok (.getfield 32, 3) := by decide +kernel
theorem dX7_replay_5 : decode cX7_replay 5 = .ok (.iload_n 2, 1) := by decide +kernel
theorem dX7_replay_6 : decode cX7_replay 6 = .ok (.iaload, 1) := by decide +kernel
theorem dX7_replay_7 : decode cX7_replay 7 = .ok (.aload_n 1, 1) := by decide +kernel
theorem dX7_replay_8 : decode cX7_replay 8 = .ok (.getfield 37, 3) := by decide +kernel
theorem dX7_replay_11 : decode cX7_replay 11 = .ok (.iload_n 2, 1) := by decide +kernel
theorem dX7_replay_12 : decode cX7_replay 12 = .ok (.baload, 1) := by decide +kernel
theorem dX7_replay_13 : decode cX7_replay 13 = .ok (.invokevirtual 41, 3) := by decide +kernel
theorem dX7_replay_16 : decode cX7_replay 16 = .ok (.iconst 0, 1) := by decide +kernel
theorem dX7_replay_17 : decode cX7_replay 17 = .ok (.istore 5, 2) := by decide +kernel
theorem dX7_replay_19 : decode cX7_replay 19 = .ok (.iload 5, 2) := by decide +kernel
theorem dX7_replay_21 : decode cX7_replay 21 = .ok (.aload_n 1, 1) := by decide +kernel
theorem dX7_replay_22 : decode cX7_replay 22 = .ok (.getfield 45, 3) := by decide +kernel
theorem dX7_replay_25 : decode cX7_replay 25 = .ok (.if_icmp .ge 105, 3) := by decide +kernel
theorem dX7_replay_28 : decode cX7_replay 28 = .ok (.aload_n 1, 1) := by decide +kernel
theorem dX7_replay_29 : decode cX7_replay 29 = .ok (.getfield 48, 3) := by decide +kernel
theorem dX7_replay_32 : decode cX7_replay 32 = .ok (.iload 5, 2) := by decide +kernel
theorem dX7_replay_34 : decode cX7_replay 34 = .ok (.iaload, 1) := by decide +kernel
theorem dX7_replay_35 : decode cX7_replay 35 = .ok (.istore 6, 2) := by decide +kernel
theorem dX7_replay_37 : decode cX7_replay 37 = .ok (.aload_n 1, 1) := by decide +kernel
theorem dX7_replay_38 : decode cX7_replay 38 = .ok (.getfield 51, 3) := by decide +kernel
theorem dX7_replay_41 : decode cX7_replay 41 = .ok (.iload 6, 2) := by decide +kernel
theorem dX7_replay_43 : decode cX7_replay 43 = .ok (.iaload, 1) := by decide +kernel
theorem dX7_replay_44 : decode cX7_replay 44 = .ok (.iload 4, 2) := by decide +kernel
theorem dX7_replay_46 : decode cX7_replay 46 = .ok (.if_icmp .le 6, 3) := by decide +kernel
theorem dX7_replay_49 : decode cX7_replay 49 = .ok (.goto 81, 3) := by decide +kernel
theorem dX7_replay_52 : decode cX7_replay 52 = .ok (.iload 6, 2) := by decide +kernel
theorem dX7_replay_54 : decode cX7_replay 54 = .ok (.iload_n 3, 1) := by decide +kernel
theorem dX7_replay_55 : decode cX7_replay 55 = .ok (.if_icmp .ge 69, 3) := by decide +kernel
theorem dX7_replay_58 : decode cX7_replay 58 = .ok (.aload_n 1, 1) := by decide +kernel
theorem dX7_replay_59 : decode cX7_replay 59 = .ok (.getfield 54, 3) := by decide +kernel
theorem dX7_replay_62 : decode cX7_replay 62 = .ok (.iload 6, 2) := by decide +kernel
theorem dX7_replay_64 : decode cX7_replay 64 = .ok (.iaload, 1) := by decide +kernel
theorem dX7_replay_65 : decode cX7_replay 65 = .ok (.iload_n 2, 1) := by decide +kernel
theorem dX7_replay_66 : decode cX7_replay 66 = .ok (.if_icmp .eq 6, 3) := by decide +kernel
theorem dX7_replay_69 : decode cX7_replay 69 = .ok (.goto 55, 3) := by decide +kernel
theorem dX7_replay_72 : decode cX7_replay 72 = .ok (.aload_n 0, 1) := by decide +kernel
theorem dX7_replay_73 : decode cX7_replay 73 = .ok (.aload_n 1, 1) := by decide +kernel
theorem dX7_replay_74 : decode cX7_replay 74 = .ok (.getfield 57, 3) := by decide +kernel
theorem dX7_replay_77 : decode cX7_replay 77 = .ok (.iload 6, 2) := by decide +kernel
theorem dX7_replay_79 : decode cX7_replay 79 = .ok (.iaload, 1) := by decide +kernel
theorem dX7_replay_80 : decode cX7_replay 80 = .ok (.aload_n 1, 1) := by decide +kernel
theorem dX7_replay_81 : decode cX7_replay 81 = .ok (.getfield 60, 3) := by decide +kernel
theorem dX7_replay_84 : decode cX7_replay 84 = .ok (.iload 6, 2) := by decide +kernel
theorem dX7_replay_86 : decode cX7_replay 86 = .ok (.iaload, 1) := by decide +kernel
theorem dX7_replay_87 : decode cX7_replay 87 = .ok (.invokevirtual 63, 3) := by decide +kernel
theorem dX7_replay_90 : decode cX7_replay 90 = .ok (.ifCond .ne 5, 3) := by decide +kernel
theorem dX7_replay_93 : decode cX7_replay 93 = .ok (.iconst 0, 1) := by decide +kernel
theorem dX7_replay_94 : decode cX7_replay 94 = .ok (.ireturn, 1) := by decide +kernel
theorem dX7_replay_95 : decode cX7_replay 95 = .ok (.aload_n 0, 1) := by decide +kernel
theorem dX7_replay_96 : decode cX7_replay 96 = .ok (.aload_n 1, 1) := by decide +kernel
theorem dX7_replay_97 : decode cX7_replay 97 = .ok (.getfield 51, 3) := by decide +kernel
theorem dX7_replay_100 : decode cX7_replay 100 = .ok (.iload 6, 2) := by decide +kernel
theorem dX7_replay_102 : decode cX7_replay 102 = .ok (.iaload, 1) := by decide +kernel
theorem dX7_replay_103 : decode cX7_replay 103 = .ok (.invokevirtual 67, 3) := by decide +kernel
theorem dX7_replay_106 : decode cX7_replay 106 = .ok (.aload_n 0, 1) := by decide +kernel
theorem dX7_replay_107 : decode cX7_replay 107 = .ok (.aload_n 1, 1) := by decide +kernel
theorem dX7_replay_108 : decode cX7_replay 108 = .ok (.getfield 57, 3) := by decide +kernel
theorem dX7_replay_111 : decode cX7_replay 111 = .ok (.iload 6, 2) := by decide +kernel
theorem dX7_replay_113 : decode cX7_replay 113 = .ok (.iaload, 1) := by decide +kernel
theorem dX7_replay_114 : decode cX7_replay 114 = .ok (.aload_n 1, 1) := by decide +kernel
theorem dX7_replay_115 : decode cX7_replay 115 = .ok (.getfield 60, 3) := by decide +kernel
theorem dX7_replay_118 : decode cX7_replay 118 = .ok (.iload 6, 2) := by decide +kernel
theorem dX7_replay_120 : decode cX7_replay 120 = .ok (.iaload, 1) := by decide +kernel
theorem dX7_replay_121 : decode cX7_replay 121 = .ok (.invokevirtual 71, 3) := by decide +kernel
theorem dX7_replay_124 : decode cX7_replay 124 = .ok (.iinc 5 1, 3) := by decide +kernel
theorem dX7_replay_127 : decode cX7_replay 127 = .ok (.goto (-108), 3) := by decide +kernel
theorem dX7_replay_130 : decode cX7_replay 130 = .ok (.aload_n 0, 1) := by decide +kernel
theorem dX7_replay_131 : decode cX7_replay 131 = .ok (.iload 4, 2) := by decide +kernel
theorem dX7_replay_133 : decode cX7_replay 133 = .ok (.iconst 1, 1) := by decide +kernel
theorem dX7_replay_134 : decode cX7_replay 134 = .ok (.iadd, 1) := by decide +kernel
theorem dX7_replay_135 : decode cX7_replay 135 = .ok (.invokevirtual 67, 3) := by decide +kernel
theorem dX7_replay_138 : decode cX7_replay 138 = .ok (.iconst 1, 1) := by decide +kernel
theorem dX7_replay_139 : decode cX7_replay 139 = .ok (.ireturn, 1) := by decide +kernel
theorem dX7_begin_0 : decode cX7_begin 0 = .ok (.aload_n 0, 1) := by decide +kernel
theorem dX7_begin_1 : decode cX7_begin 1 = .ok (.iload_n 1, 1) := by decide +kernel
theorem dX7_begin_2 : decode cX7_begin 2 = .ok (.putfield 9, 3) := by decide +kernel
theorem dX7_begin_5 : decode cX7_begin 5 = .ok (.aload_n 0, 1) := by decide +kernel
theorem dX7_begin_6 : decode cX7_begin 6 = .ok (.iconst 0, 1) := by decide +kernel
theorem dX7_begin_7 : decode cX7_begin 7 = .ok (.putfield 15, 3) := by decide +kernel
theorem dX7_begin_10 : decode cX7_begin 10 = .ok (.aload_n 0, 1) := by decide +kernel
theorem dX7_begin_11 : decode cX7_begin 11 = .ok (.iload_n 2, 1) := by decide +kernel
theorem dX7_begin_12 : decode cX7_begin 12 = .ok (.putfield 19, 3) := by decide +kernel
theorem dX7_begin_15 : decode cX7_begin 15 = .ok (.aload_n 0, 1) := by decide +kernel
theorem dX7_begin_16 : decode cX7_begin 16 = .ok (.iconst 0, 1) := by decide +kernel
theorem dX7_begin_17 : decode cX7_begin 17 = .ok (.putfield 22, 3) := by decide +kernel
theorem dX7_begin_20 : decode cX7_begin 20 = .ok (.aload_n 0, 1) := by decide +kernel
theorem dX7_begin_21 : decode cX7_begin 21 = .ok (.getfield 25, 3) := by decide +kernel
theorem dX7_begin_24 : decode cX7_begin 24 = .ok (.iconst 0, 1) := by decide +kernel
theorem dX7_begin_25 : decode cX7_begin 25 = .ok (.invokestatic 75, 3) := by decide +kernel
theorem dX7_begin_28 : decode cX7_begin 28 = .ok (.aload_n 0, 1) := by decide +kernel
theorem dX7_begin_29 : decode cX7_begin 29 = .ok (.iconst 1, 1) := by decide +kernel
theorem dX7_begin_30 : decode cX7_begin 30 = .ok (.putfield 29, 3) := by decide +kernel
theorem dX7_begin_33 : decode cX7_begin 33 = .ok (.return_, 1) := by decide +kernel
theorem dX7_fits_0 : decode cX7_fits 0 = .ok (.iload_n 1, 1) := by decide +kernel
theorem dX7_fits_1 : decode cX7_fits 1 = .ok (.tableswitch 52 0 2 #[27, 47, 47], 27) := by decide +kernel
theorem dX7_fits_28 : decode cX7_fits 28 = .ok (.aload_n 0, 1) := by decide +kernel
theorem dX7_fits_29 : decode cX7_fits 29 = .ok (.getfield 15, 3) := by decide +kernel
theorem dX7_fits_32 : decode cX7_fits 32 = .ok (.ifCond .ne 14, 3) := by decide +kernel
theorem dX7_fits_35 : decode cX7_fits 35 = .ok (.aload_n 0, 1) := by decide +kernel
theorem dX7_fits_36 : decode cX7_fits 36 = .ok (.getfield 19, 3) := by decide +kernel
theorem dX7_fits_39 : decode cX7_fits 39 = .ok (.ifCond .ne 7, 3) := by decide +kernel
theorem dX7_fits_42 : decode cX7_fits 42 = .ok (.iconst 1, 1) := by decide +kernel
theorem dX7_fits_43 : decode cX7_fits 43 = .ok (.goto 4, 3) := by decide +kernel
theorem dX7_fits_46 : decode cX7_fits 46 = .ok (.iconst 0, 1) := by decide +kernel
theorem dX7_fits_47 : decode cX7_fits 47 = .ok (.ireturn, 1) := by decide +kernel
theorem dX7_fits_48 : decode cX7_fits 48 = .ok (.aload_n 0, 1) := by decide +kernel
theorem dX7_fits_49 : decode cX7_fits 49 = .ok (.getfield 15, 3) := by decide +kernel
theorem dX7_fits_52 : decode cX7_fits 52 = .ok (.ireturn, 1) := by decide +kernel
theorem dX7_fits_53 : decode cX7_fits 53 = .ok (.aload_n 0, 1) := by decide +kernel
theorem dX7_fits_54 : decode cX7_fits 54 = .ok (.getfield 19, 3) := by decide +kernel
theorem dX7_fits_57 : decode cX7_fits 57 = .ok (.ifCond .ne 15, 3) := by decide +kernel
theorem dX7_fits_60 : decode cX7_fits 60 = .ok (.iload_n 2, 1) := by decide +kernel
theorem dX7_fits_61 : decode cX7_fits 61 = .ok (.aload_n 0, 1) := by decide +kernel
theorem dX7_fits_62 : decode cX7_fits 62 = .ok (.getfield 9, 3) := by decide +kernel
theorem dX7_fits_65 : decode cX7_fits 65 = .ok (.if_icmp .eq 7, 3) := by decide +kernel
theorem dX7_fits_68 : decode cX7_fits 68 = .ok (.iconst 1, 1) := by decide +kernel
theorem dX7_fits_69 : decode cX7_fits 69 = .ok (.goto 4, 3) := by decide +kernel
theorem dX7_fits_72 : decode cX7_fits 72 = .ok (.iconst 0, 1) := by decide +kernel
theorem dX7_fits_73 : decode cX7_fits 73 = .ok (.ireturn, 1) := by decide +kernel
theorem dX7_follow_0 : decode cX7_follow 0 = .ok (.iload_n 1, 1) := by decide +kernel
theorem dX7_follow_1 : decode cX7_follow 1 = .ok (.iconst 3, 1) := by decide +kernel
theorem dX7_follow_2 : decode cX7_follow 2 = .ok (.if_icmp .ne 9, 3) := by decide +kernel
theorem dX7_follow_5 : decode cX7_follow 5 = .ok (.aload_n 0, 1) := by decide +kernel
theorem dX7_follow_6 : decode cX7_follow 6 = .ok (.iload_n 2, 1) := by decide +kernel
theorem dX7_follow_7 : decode cX7_follow 7 = .ok (.putfield 9, 3) := by decide +kernel
theorem dX7_follow_10 : decode cX7_follow 10 = .ok (.return_, 1) := by decide +kernel
theorem dX7_follow_11 : decode cX7_follow 11 = .ok (.aload_n 0, 1) := by decide +kernel
theorem dX7_follow_12 : decode cX7_follow 12 = .ok (.iload_n 1, 1) := by decide +kernel
theorem dX7_follow_13 : decode cX7_follow 13 = .ok (.ifCond .ne 7, 3) := by decide +kernel
theorem dX7_follow_16 : decode cX7_follow 16 = .ok (.iconst 1, 1) := by decide +kernel
theorem dX7_follow_17 : decode cX7_follow 17 = .ok (.goto 4, 3) := by decide +kernel
theorem dX7_follow_20 : decode cX7_follow 20 = .ok (.iconst 0, 1) := by decide +kernel
theorem dX7_follow_21 : decode cX7_follow 21 = .ok (.putfield 15, 3) := by decide +kernel
theorem dX7_follow_24 : decode cX7_follow 24 = .ok (.aload_n 0, 1) := by decide +kernel
theorem dX7_follow_25 : decode cX7_follow 25 = .ok (.iload_n 1, 1) := by decide +kernel
theorem dX7_follow_26 : decode cX7_follow 26 = .ok (.iconst 2, 1) := by decide +kernel
theorem dX7_follow_27 : decode cX7_follow 27 = .ok (.if_icmp .ne 7, 3) := by decide +kernel
theorem dX7_follow_30 : decode cX7_follow 30 = .ok (.iconst 1, 1) := by decide +kernel
theorem dX7_follow_31 : decode cX7_follow 31 = .ok (.goto 4, 3) := by decide +kernel
theorem dX7_follow_34 : decode cX7_follow 34 = .ok (.iconst 0, 1) := by decide +kernel
theorem dX7_follow_35 : decode cX7_follow 35 = .ok (.putfield 19, 3) := by decide +kernel
theorem dX7_follow_38 : decode cX7_follow 38 = .ok (.return_, 1) := by decide +kernel
theorem dX7_tallyBefore_0 : decode cX7_tallyBefore 0 = .ok (.iload_n 1, 1) := by decide +kernel
theorem dX7_tallyBefore_1 : decode cX7_tallyBefore 1 = .ok (.aload_n 0, 1) := by decide +kernel
theorem dX7_tallyBefore_2 : decode cX7_tallyBefore 2 = .ok (.getfield 29, 3) := by decide +kernel
theorem dX7_tallyBefore_5 : decode cX7_tallyBefore 5 = .ok (.isub, 1) := by decide +kernel
theorem dX7_tallyBefore_6 : decode cX7_tallyBefore 6 = .ok (.istore_n 2, 1) := by decide +kernel
theorem dX7_tallyBefore_7 : decode cX7_tallyBefore 7 = .ok (.iload_n 2, 1) := by decide +kernel
theorem dX7_tallyBefore_8 : decode cX7_tallyBefore 8 = .ok (.ifCond .gt 4, 3) := by decide +kernel
theorem dX7_tallyBefore_11 : decode cX7_tallyBefore 11 = .ok (.return_, 1) := by decide +kernel
theorem dX7_tallyBefore_12 : decode cX7_tallyBefore 12 = .ok (.aload_n 0, 1) := by decide +kernel
theorem dX7_tallyBefore_13 : decode cX7_tallyBefore 13 = .ok (.getfield 25, 3) := by decide +kernel
theorem dX7_tallyBefore_16 : decode cX7_tallyBefore 16 = .ok (.aload_n 0, 1) := by decide +kernel
theorem dX7_tallyBefore_17 : decode cX7_tallyBefore 17 = .ok (.getfield 9, 3) := by decide +kernel
theorem dX7_tallyBefore_20 : decode cX7_tallyBefore 20 = .ok (.dup2, 1) := by decide +kernel
theorem dX7_tallyBefore_21 : decode cX7_tallyBefore 21 = .ok (.iaload, 1) := by decide +kernel
theorem dX7_tallyBefore_22 : decode cX7_tallyBefore 22 = .ok (.iload_n 2, 1) := by decide +kernel
theorem dX7_tallyBefore_23 : decode cX7_tallyBefore 23 = .ok (.iadd, 1) := by decide +kernel
theorem dX7_tallyBefore_24 : decode cX7_tallyBefore 24 = .ok (.iastore, 1) := by decide +kernel
theorem dX7_tallyBefore_25 : decode cX7_tallyBefore 25 = .ok (.aload_n 0, 1) := by decide +kernel
theorem dX7_tallyBefore_26 : decode cX7_tallyBefore 26 = .ok (.getfield 15, 3) := by decide +kernel
theorem dX7_tallyBefore_29 : decode cX7_tallyBefore 29 = .ok (.ifCond .eq 13, 3) := by decide +kernel
theorem dX7_tallyBefore_32 : decode cX7_tallyBefore 32 = .ok (.aload_n 0, 1) := by decide +kernel
theorem dX7_tallyBefore_33 : decode cX7_tallyBefore 33 = .ok (.dup, 1) := by decide +kernel
theorem dX7_tallyBefore_34 : decode cX7_tallyBefore 34 = .ok (.getfield 22, 3) := by decide +kernel
theorem dX7_tallyBefore_37 : decode cX7_tallyBefore 37 = .ok (.iload_n 2, 1) := by decide +kernel
theorem dX7_tallyBefore_38 : decode cX7_tallyBefore 38 = .ok (.iadd, 1) := by decide +kernel
theorem dX7_tallyBefore_39 : decode cX7_tallyBefore 39 = .ok (.putfield 22, 3) := by decide +kernel
theorem dX7_tallyBefore_42 : decode cX7_tallyBefore 42 = .ok (.aload_n 0, 1) := by decide +kernel
theorem dX7_tallyBefore_43 : decode cX7_tallyBefore 43 = .ok (.iload_n 1, 1) := by decide +kernel
theorem dX7_tallyBefore_44 : decode cX7_tallyBefore 44 = .ok (.putfield 29, 3) := by decide +kernel
theorem dX7_tallyBefore_47 : decode cX7_tallyBefore 47 = .ok (.return_, 1) := by decide +kernel
