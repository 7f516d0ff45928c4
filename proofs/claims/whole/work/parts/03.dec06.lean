theorem d_Mo_rewritten_84 : decode b_Mo_rewritten 84 = .ok (.iload_n 1, 1) := by decide +kernel
theorem d_Mo_rewritten_85 : decode b_Mo_rewritten 85 = .ok (.invokevirtual 80, 3) := by decide +kernel
theorem d_Mo_rewritten_88 : decode b_Mo_rewritten 88 = .ok (.ifCond .ne 8, 3) := by decide +kernel
theorem d_Mo_rewritten_91 : decode b_Mo_rewritten 91 = .ok (.iload 4, 2) := by decide +kernel
theorem d_Mo_rewritten_93 : decode b_Mo_rewritten 93 = .ok (.goto 16, 3) := by decide +kernel
theorem d_Mo_rewritten_96 : decode b_Mo_rewritten 96 = .ok (.iload 4, 2) := by decide +kernel
theorem d_Mo_rewritten_98 : decode b_Mo_rewritten 98 = .ok (.iconst 5, 1) := by decide +kernel
theorem d_Mo_rewritten_99 : decode b_Mo_rewritten 99 = .ok (.if_icmp .ne 8, 3) := by decide +kernel
theorem d_Mo_rewritten_102 : decode b_Mo_rewritten 102 = .ok (.bipush 16, 2) := by decide +kernel
theorem d_Mo_rewritten_104 : decode b_Mo_rewritten 104 = .ok (.goto 5, 3) := by decide +kernel
theorem d_Mo_rewritten_107 : decode b_Mo_rewritten 107 = .ok (.bipush 15, 2) := by decide +kernel
theorem d_Mo_rewritten_109 : decode b_Mo_rewritten 109 = .ok (.ireturn, 1) := by decide +kernel
theorem d_Mo_rewritten_110 : decode b_Mo_rewritten 110 = .ok (.iload 4, 2) := by decide +kernel
theorem d_Mo_rewritten_112 : decode b_Mo_rewritten 112 = .ok (.bipush 10, 2) := by decide +kernel
theorem d_Mo_rewritten_114 : decode b_Mo_rewritten 114 = .ok (.if_icmp .eq 10, 3) := by decide +kernel
theorem d_Mo_rewritten_117 : decode b_Mo_rewritten 117 = .ok (.iload 4, 2) := by decide +kernel
theorem d_Mo_rewritten_119 : decode b_Mo_rewritten 119 = .ok (.bipush 11, 2) := by decide +kernel
theorem d_Mo_rewritten_121 : decode b_Mo_rewritten 121 = .ok (.if_icmp .ne 16, 3) := by decide +kernel
theorem d_Mo_rewritten_124 : decode b_Mo_rewritten 124 = .ok (.aload_n 0, 1) := by decide +kernel
theorem d_Mo_rewritten_125 : decode b_Mo_rewritten 125 = .ok (.aload_n 0, 1) := by decide +kernel
theorem d_Mo_rewritten_126 : decode b_Mo_rewritten 126 = .ok (.getfield 22, 3) := by decide +kernel
theorem d_Mo_rewritten_129 : decode b_Mo_rewritten 129 = .ok (.iload_n 3, 1) := by decide +kernel
theorem d_Mo_rewritten_130 : decode b_Mo_rewritten 130 = .ok (.iaload, 1) := by decide +kernel
theorem d_Mo_rewritten_131 : decode b_Mo_rewritten 131 = .ok (.invokevirtual 70, 3) := by decide +kernel
theorem d_Mo_rewritten_134 : decode b_Mo_rewritten 134 = .ok (.goto 9, 3) := by decide +kernel
theorem d_Mo_rewritten_137 : decode b_Mo_rewritten 137 = .ok (.aload_n 0, 1) := by decide +kernel
theorem d_Mo_rewritten_138 : decode b_Mo_rewritten 138 = .ok (.getfield 22, 3) := by decide +kernel
theorem d_Mo_rewritten_141 : decode b_Mo_rewritten 141 = .ok (.iload_n 3, 1) := by decide +kernel
theorem d_Mo_rewritten_142 : decode b_Mo_rewritten 142 = .ok (.iaload, 1) := by decide +kernel
theorem d_Mo_rewritten_143 : decode b_Mo_rewritten 143 = .ok (.ireturn, 1) := by decide +kernel
theorem d_Mo_instructionAt_0 : decode b_Mo_instructionAt 0 = .ok (.iconst 0, 1) := by decide +kernel
theorem d_Mo_instructionAt_1 : decode b_Mo_instructionAt 1 = .ok (.istore_n 2, 1) := by decide +kernel
theorem d_Mo_instructionAt_2 : decode b_Mo_instructionAt 2 = .ok (.aload_n 0, 1) := by decide +kernel
theorem d_Mo_instructionAt_3 : decode b_Mo_instructionAt 3 = .ok (.iload_n 2, 1) := by decide +kernel
theorem d_Mo_instructionAt_4 : decode b_Mo_instructionAt 4 = .ok (.iconst 1, 1) := by decide +kernel
theorem d_Mo_instructionAt_5 : decode b_Mo_instructionAt 5 = .ok (.iadd, 1) := by decide +kernel
theorem d_Mo_instructionAt_6 : decode b_Mo_instructionAt 6 = .ok (.invokevirtual 70, 3) := by decide +kernel
theorem d_Mo_instructionAt_9 : decode b_Mo_instructionAt 9 = .ok (.iload_n 1, 1) := by decide +kernel
theorem d_Mo_instructionAt_10 : decode b_Mo_instructionAt 10 = .ok (.if_icmp .gt 9, 3) := by decide +kernel
theorem d_Mo_instructionAt_13 : decode b_Mo_instructionAt 13 = .ok (.iinc 2 1, 3) := by decide +kernel
theorem d_Mo_instructionAt_16 : decode b_Mo_instructionAt 16 = .ok (.goto (-14), 3) := by decide +kernel
theorem d_Mo_instructionAt_19 : decode b_Mo_instructionAt 19 = .ok (.iload_n 2, 1) := by decide +kernel
theorem d_Mo_instructionAt_20 : decode b_Mo_instructionAt 20 = .ok (.ireturn, 1) := by decide +kernel
theorem d_Mo_isCheck_0 : decode b_Mo_isCheck 0 = .ok (.aload_n 0, 1) := by decide +kernel
theorem d_Mo_isCheck_1 : decode b_Mo_isCheck 1 = .ok (.iload_n 1, 1) := by decide +kernel
theorem d_Mo_isCheck_2 : decode b_Mo_isCheck 2 = .ok (.invokevirtual 73, 3) := by decide +kernel
theorem d_Mo_isCheck_5 : decode b_Mo_isCheck 5 = .ok (.istore_n 2, 1) := by decide +kernel
theorem d_Mo_isCheck_6 : decode b_Mo_isCheck 6 = .ok (.aload_n 0, 1) := by decide +kernel
theorem d_Mo_isCheck_7 : decode b_Mo_isCheck 7 = .ok (.iload_n 2, 1) := by decide +kernel
theorem d_Mo_isCheck_8 : decode b_Mo_isCheck 8 = .ok (.invokevirtual 67, 3) := by decide +kernel
theorem d_Mo_isCheck_11 : decode b_Mo_isCheck 11 = .ok (.ifCond .eq 16, 3) := by decide +kernel
theorem d_Mo_isCheck_14 : decode b_Mo_isCheck 14 = .ok (.iload_n 1, 1) := by decide +kernel
theorem d_Mo_isCheck_15 : decode b_Mo_isCheck 15 = .ok (.aload_n 0, 1) := by decide +kernel
theorem d_Mo_isCheck_16 : decode b_Mo_isCheck 16 = .ok (.iload_n 2, 1) := by decide +kernel
theorem d_Mo_isCheck_17 : decode b_Mo_isCheck 17 = .ok (.invokevirtual 70, 3) := by decide +kernel
theorem d_Mo_isCheck_20 : decode b_Mo_isCheck 20 = .ok (.if_icmp .ne 7, 3) := by decide +kernel
theorem d_Mo_isCheck_23 : decode b_Mo_isCheck 23 = .ok (.iconst 1, 1) := by decide +kernel
theorem d_Mo_isCheck_24 : decode b_Mo_isCheck 24 = .ok (.goto 4, 3) := by decide +kernel
theorem d_Mo_isCheck_27 : decode b_Mo_isCheck 27 = .ok (.iconst 0, 1) := by decide +kernel
theorem d_Mo_isCheck_28 : decode b_Mo_isCheck 28 = .ok (.ireturn, 1) := by decide +kernel
theorem d_Mo_start_0 : decode b_Mo_start 0 = .ok (.aload_n 0, 1) := by decide +kernel
theorem d_Mo_start_1 : decode b_Mo_start 1 = .ok (.aload_n 0, 1) := by decide +kernel
theorem d_Mo_start_2 : decode b_Mo_start 2 = .ok (.getfield 61, 3) := by decide +kernel
theorem d_Mo_start_5 : decode b_Mo_start 5 = .ok (.ifCond .le 14, 3) := by decide +kernel
theorem d_Mo_start_8 : decode b_Mo_start 8 = .ok (.aload_n 0, 1) := by decide +kernel
theorem d_Mo_start_9 : decode b_Mo_start 9 = .ok (.invokevirtual 76, 3) := by decide +kernel
theorem d_Mo_start_12 : decode b_Mo_start 12 = .ok (.ifCond .eq 7, 3) := by decide +kernel
theorem d_Mo_start_15 : decode b_Mo_start 15 = .ok (.iconst 0, 1) := by decide +kernel
theorem d_Mo_start_16 : decode b_Mo_start 16 = .ok (.goto 4, 3) := by decide +kernel
theorem d_Mo_start_19 : decode b_Mo_start 19 = .ok (.iconst 1, 1) := by decide +kernel
theorem d_Mo_start_20 : decode b_Mo_start 20 = .ok (.putfield 49, 3) := by decide +kernel
theorem d_Mo_start_23 : decode b_Mo_start 23 = .ok (.aload_n 0, 1) := by decide +kernel
theorem d_Mo_start_24 : decode b_Mo_start 24 = .ok (.getfield 49, 3) := by decide +kernel
theorem d_Mo_start_27 : decode b_Mo_start 27 = .ok (.ifCond .le 4, 3) := by decide +kernel
theorem d_Mo_start_30 : decode b_Mo_start 30 = .ok (.return_, 1) := by decide +kernel
theorem d_Mo_start_31 : decode b_Mo_start 31 = .ok (.aload_n 0, 1) := by decide +kernel
theorem d_Mo_start_32 : decode b_Mo_start 32 = .ok (.invokevirtual 46, 3) := by decide +kernel
theorem d_Mo_start_35 : decode b_Mo_start 35 = .ok (.aload_n 0, 1) := by decide +kernel
theorem d_Mo_start_36 : decode b_Mo_start 36 = .ok (.iconst 1, 1) := by decide +kernel
theorem d_Mo_start_37 : decode b_Mo_start 37 = .ok (.putfield 64, 3) := by decide +kernel
theorem d_Mo_start_40 : decode b_Mo_start 40 = .ok (.aload_n 0, 1) := by decide +kernel
theorem d_Mo_start_41 : decode b_Mo_start 41 = .ok (.iload_n 1, 1) := by decide +kernel
theorem d_Mo_start_42 : decode b_Mo_start 42 = .ok (.putfield 99, 3) := by decide +kernel
theorem d_Mo_start_45 : decode b_Mo_start 45 = .ok (.aload_n 0, 1) := by decide +kernel
theorem d_Mo_start_46 : decode b_Mo_start 46 = .ok (.iconst 0, 1) := by decide +kernel
theorem d_Mo_start_47 : decode b_Mo_start 47 = .ok (.putfield 103, 3) := by decide +kernel
theorem d_Mo_start_50 : decode b_Mo_start 50 = .ok (.aload_n 0, 1) := by decide +kernel
theorem d_Mo_start_51 : decode b_Mo_start 51 = .ok (.iconst 0, 1) := by decide +kernel
theorem d_Mo_start_52 : decode b_Mo_start 52 = .ok (.putfield 106, 3) := by decide +kernel
theorem d_Mo_start_55 : decode b_Mo_start 55 = .ok (.aload_n 0, 1) := by decide +kernel
theorem d_Mo_start_56 : decode b_Mo_start 56 = .ok (.iconst 0, 1) := by decide +kernel
theorem d_Mo_start_57 : decode b_Mo_start 57 = .ok (.putfield 109, 3) := by decide +kernel
theorem d_Mo_start_60 : decode b_Mo_start 60 = .ok (.iconst 0, 1) := by decide +kernel
theorem d_Mo_start_61 : decode b_Mo_start 61 = .ok (.istore 4, 2) := by decide +kernel
theorem d_Mo_start_63 : decode b_Mo_start 63 = .ok (.iload 4, 2) := by decide +kernel
theorem d_Mo_start_65 : decode b_Mo_start 65 = .ok (.bipush 8, 2) := by decide +kernel
theorem d_Mo_start_67 : decode b_Mo_start 67 = .ok (.if_icmp .ge 17, 3) := by decide +kernel
theorem d_Mo_start_70 : decode b_Mo_start 70 = .ok (.aload_n 0, 1) := by decide +kernel
theorem d_Mo_start_71 : decode b_Mo_start 71 = .ok (.getfield 40, 3) := by decide +kernel
theorem d_Mo_start_74 : decode b_Mo_start 74 = .ok (.iload 4, 2) := by decide +kernel
theorem d_Mo_start_76 : decode b_Mo_start 76 = .ok (.iconst 0, 1) := by decide +kernel
theorem d_Mo_start_77 : decode b_Mo_start 77 = .ok (.iastore, 1) := by decide +kernel
theorem d_Mo_start_78 : decode b_Mo_start 78 = .ok (.iinc 4 1, 3) := by decide +kernel
theorem d_Mo_start_81 : decode b_Mo_start 81 = .ok (.goto (-18), 3) := by decide +kernel
theorem d_Mo_start_84 : decode b_Mo_start 84 = .ok (.aload_n 0, 1) := by decide +kernel
theorem d_Mo_start_85 : decode b_Mo_start 85 = .ok (.getfield 40, 3) := by decide +kernel
theorem d_Mo_start_88 : decode b_Mo_start 88 = .ok (.iconst 0, 1) := by decide +kernel
theorem d_Mo_start_89 : decode b_Mo_start 89 = .ok (.iload_n 2, 1) := by decide +kernel
theorem d_Mo_start_90 : decode b_Mo_start 90 = .ok (.iastore, 1) := by decide +kernel
theorem d_Mo_start_91 : decode b_Mo_start 91 = .ok (.aload_n 0, 1) := by decide +kernel
theorem d_Mo_start_92 : decode b_Mo_start 92 = .ok (.getfield 40, 3) := by decide +kernel
theorem d_Mo_start_95 : decode b_Mo_start 95 = .ok (.iconst 1, 1) := by decide +kernel
theorem d_Mo_start_96 : decode b_Mo_start 96 = .ok (.iload_n 3, 1) := by decide +kernel
theorem d_Mo_start_97 : decode b_Mo_start 97 = .ok (.iastore, 1) := by decide +kernel
theorem d_Mo_start_98 : decode b_Mo_start 98 = .ok (.return_, 1) := by decide +kernel
theorem d_Mo_step_0 : decode b_Mo_step 0 = .ok (.aload_n 0, 1) := by decide +kernel
theorem d_Mo_step_1 : decode b_Mo_step 1 = .ok (.aload_n 0, 1) := by decide +kernel
theorem d_Mo_step_2 : decode b_Mo_step 2 = .ok (.getfield 64, 3) := by decide +kernel
theorem d_Mo_step_5 : decode b_Mo_step 5 = .ok (.ifCond .ne 7, 3) := by decide +kernel
theorem d_Mo_step_8 : decode b_Mo_step 8 = .ok (.iconst 1, 1) := by decide +kernel
theorem d_Mo_step_9 : decode b_Mo_step 9 = .ok (.goto 19, 3) := by decide +kernel
theorem d_Mo_step_12 : decode b_Mo_step 12 = .ok (.iload_n 1, 1) := by decide +kernel
theorem d_Mo_step_13 : decode b_Mo_step 13 = .ok (.ifCond .lt 10, 3) := by decide +kernel
theorem d_Mo_step_16 : decode b_Mo_step 16 = .ok (.iload_n 1, 1) := by decide +kernel
theorem d_Mo_step_17 : decode b_Mo_step 17 = .ok (.sipush 1000, 3) := by decide +kernel
theorem d_Mo_step_20 : decode b_Mo_step 20 = .ok (.if_icmp .le 7, 3) := by decide +kernel
theorem d_Mo_step_23 : decode b_Mo_step 23 = .ok (.iconst 2, 1) := by decide +kernel
theorem d_Mo_step_24 : decode b_Mo_step 24 = .ok (.goto 4, 3) := by decide +kernel
theorem d_Mo_step_27 : decode b_Mo_step 27 = .ok (.iconst 0, 1) := by decide +kernel
theorem d_Mo_step_28 : decode b_Mo_step 28 = .ok (.putfield 49, 3) := by decide +kernel
theorem d_Mo_step_31 : decode b_Mo_step 31 = .ok (.iconst 0, 1) := by decide +kernel
theorem d_Mo_step_32 : decode b_Mo_step 32 = .ok (.istore_n 2, 1) := by decide +kernel
theorem d_Mo_step_33 : decode b_Mo_step 33 = .ok (.aload_n 0, 1) := by decide +kernel
theorem d_Mo_step_34 : decode b_Mo_step 34 = .ok (.getfield 49, 3) := by decide +kernel
theorem d_Mo_step_37 : decode b_Mo_step 37 = .ok (.ifCond .ne 26, 3) := by decide +kernel
theorem d_Mo_step_40 : decode b_Mo_step 40 = .ok (.iload_n 2, 1) := by decide +kernel
theorem d_Mo_step_41 : decode b_Mo_step 41 = .ok (.iload_n 1, 1) := by decide +kernel
theorem d_Mo_step_42 : decode b_Mo_step 42 = .ok (.if_icmp .ge 21, 3) := by decide +kernel
theorem d_Mo_step_45 : decode b_Mo_step 45 = .ok (.aload_n 0, 1) := by decide +kernel
theorem d_Mo_step_46 : decode b_Mo_step 46 = .ok (.getfield 64, 3) := by decide +kernel
theorem d_Mo_step_49 : decode b_Mo_step 49 = .ok (.iconst 1, 1) := by decide +kernel
theorem d_Mo_step_50 : decode b_Mo_step 50 = .ok (.if_icmp .ne 13, 3) := by decide +kernel
theorem d_Mo_step_53 : decode b_Mo_step 53 = .ok (.aload_n 0, 1) := by decide +kernel
theorem d_Mo_step_54 : decode b_Mo_step 54 = .ok (.invokevirtual 150, 3) := by decide +kernel
theorem d_Mo_step_57 : decode b_Mo_step 57 = .ok (.iinc 2 1, 3) := by decide +kernel
theorem d_Mo_step_60 : decode b_Mo_step 60 = .ok (.goto (-27), 3) := by decide +kernel
theorem d_Mo_step_63 : decode b_Mo_step 63 = .ok (.iload_n 2, 1) := by decide +kernel
theorem d_Mo_step_64 : decode b_Mo_step 64 = .ok (.ireturn, 1) := by decide +kernel
theorem d_Mo_one_0 : decode b_Mo_one 0 = .ok (.aload_n 0, 1) := by decide +kernel
theorem d_Mo_one_1 : decode b_Mo_one 1 = .ok (.aload_n 0, 1) := by decide +kernel
theorem d_Mo_one_2 : decode b_Mo_one 2 = .ok (.getfield 103, 3) := by decide +kernel
theorem d_Mo_one_5 : decode b_Mo_one 5 = .ok (.putfield 106, 3) := by decide +kernel
theorem d_Mo_one_8 : decode b_Mo_one 8 = .ok (.aload_n 0, 1) := by decide +kernel
theorem d_Mo_one_9 : decode b_Mo_one 9 = .ok (.getfield 99, 3) := by decide +kernel
theorem d_Mo_one_12 : decode b_Mo_one 12 = .ok (.ifCond .eq 14, 3) := by decide +kernel
theorem d_Mo_one_15 : decode b_Mo_one 15 = .ok (.aload_n 0, 1) := by decide +kernel
theorem d_Mo_one_16 : decode b_Mo_one 16 = .ok (.aload_n 0, 1) := by decide +kernel
theorem d_Mo_one_17 : decode b_Mo_one 17 = .ok (.getfield 103, 3) := by decide +kernel
theorem d_Mo_one_20 : decode b_Mo_one 20 = .ok (.invokevirtual 73, 3) := by decide +kernel
theorem d_Mo_one_23 : decode b_Mo_one 23 = .ok (.goto 7, 3) := by decide +kernel
theorem d_Mo_one_26 : decode b_Mo_one 26 = .ok (.aload_n 0, 1) := by decide +kernel
theorem d_Mo_one_27 : decode b_Mo_one 27 = .ok (.getfield 103, 3) := by decide +kernel
theorem d_Mo_one_30 : decode b_Mo_one 30 = .ok (.istore_n 1, 1) := by decide +kernel
theorem d_Mo_one_31 : decode b_Mo_one 31 = .ok (.aload_n 0, 1) := by decide +kernel
theorem d_Mo_one_32 : decode b_Mo_one 32 = .ok (.getfield 99, 3) := by decide +kernel
theorem d_Mo_one_35 : decode b_Mo_one 35 = .ok (.ifCond .eq 30, 3) := by decide +kernel
theorem d_Mo_one_38 : decode b_Mo_one 38 = .ok (.aload_n 0, 1) := by decide +kernel
theorem d_Mo_one_39 : decode b_Mo_one 39 = .ok (.aload_n 0, 1) := by decide +kernel
theorem d_Mo_one_40 : decode b_Mo_one 40 = .ok (.getfield 103, 3) := by decide +kernel
theorem d_Mo_one_43 : decode b_Mo_one 43 = .ok (.invokevirtual 80, 3) := by decide +kernel
theorem d_Mo_one_46 : decode b_Mo_one 46 = .ok (.ifCond .eq 19, 3) := by decide +kernel
theorem d_Mo_one_49 : decode b_Mo_one 49 = .ok (.aload_n 0, 1) := by decide +kernel
theorem d_Mo_one_50 : decode b_Mo_one 50 = .ok (.iload_n 1, 1) := by decide +kernel
theorem d_Mo_one_51 : decode b_Mo_one 51 = .ok (.invokevirtual 144, 3) := by decide +kernel
theorem d_Mo_one_54 : decode b_Mo_one 54 = .ok (.aload_n 0, 1) := by decide +kernel
theorem d_Mo_one_55 : decode b_Mo_one 55 = .ok (.dup, 1) := by decide +kernel
theorem d_Mo_one_56 : decode b_Mo_one 56 = .ok (.getfield 103, 3) := by decide +kernel
theorem d_Mo_one_59 : decode b_Mo_one 59 = .ok (.iconst 1, 1) := by decide +kernel
theorem d_Mo_one_60 : decode b_Mo_one 60 = .ok (.iadd, 1) := by decide +kernel
theorem d_Mo_one_61 : decode b_Mo_one 61 = .ok (.putfield 103, 3) := by decide +kernel
theorem d_Mo_one_64 : decode b_Mo_one 64 = .ok (.return_, 1) := by decide +kernel
theorem d_Mo_one_65 : decode b_Mo_one 65 = .ok (.aload_n 0, 1) := by decide +kernel
theorem d_Mo_one_66 : decode b_Mo_one 66 = .ok (.iload_n 1, 1) := by decide +kernel
theorem d_Mo_one_67 : decode b_Mo_one 67 = .ok (.invokevirtual 147, 3) := by decide +kernel
theorem d_Mo_one_70 : decode b_Mo_one 70 = .ok (.istore_n 2, 1) := by decide +kernel
theorem d_Mo_one_71 : decode b_Mo_one 71 = .ok (.aload_n 0, 1) := by decide +kernel
theorem d_Mo_one_72 : decode b_Mo_one 72 = .ok (.aload_n 0, 1) := by decide +kernel
theorem d_Mo_one_73 : decode b_Mo_one 73 = .ok (.getfield 99, 3) := by decide +kernel
theorem d_Mo_one_76 : decode b_Mo_one 76 = .ok (.ifCond .eq 11, 3) := by decide +kernel
theorem d_Mo_one_79 : decode b_Mo_one 79 = .ok (.aload_n 0, 1) := by decide +kernel
theorem d_Mo_one_80 : decode b_Mo_one 80 = .ok (.iload_n 2, 1) := by decide +kernel
theorem d_Mo_one_81 : decode b_Mo_one 81 = .ok (.invokevirtual 70, 3) := by decide +kernel
theorem d_Mo_one_84 : decode b_Mo_one 84 = .ok (.goto 4, 3) := by decide +kernel
theorem d_Mo_one_87 : decode b_Mo_one 87 = .ok (.iload_n 2, 1) := by decide +kernel
theorem d_Mo_one_88 : decode b_Mo_one 88 = .ok (.putfield 103, 3) := by decide +kernel
theorem d_Mo_one_91 : decode b_Mo_one 91 = .ok (.aload_n 0, 1) := by decide +kernel
theorem d_Mo_one_92 : decode b_Mo_one 92 = .ok (.getfield 64, 3) := by decide +kernel
theorem d_Mo_one_95 : decode b_Mo_one 95 = .ok (.iconst 1, 1) := by decide +kernel
theorem d_Mo_one_96 : decode b_Mo_one 96 = .ok (.if_icmp .ne 16, 3) := by decide +kernel
theorem d_Mo_one_99 : decode b_Mo_one 99 = .ok (.iload_n 2, 1) := by decide +kernel
theorem d_Mo_one_100 : decode b_Mo_one 100 = .ok (.aload_n 0, 1) := by decide +kernel
theorem d_Mo_one_101 : decode b_Mo_one 101 = .ok (.getfield 61, 3) := by decide +kernel
theorem d_Mo_one_104 : decode b_Mo_one 104 = .ok (.if_icmp .ne 8, 3) := by decide +kernel
theorem d_Mo_one_107 : decode b_Mo_one 107 = .ok (.aload_n 0, 1) := by decide +kernel
theorem d_Mo_one_108 : decode b_Mo_one 108 = .ok (.iconst 2, 1) := by decide +kernel
theorem d_Mo_one_109 : decode b_Mo_one 109 = .ok (.putfield 64, 3) := by decide +kernel
theorem d_Mo_one_112 : decode b_Mo_one 112 = .ok (.return_, 1) := by decide +kernel
theorem d_Mo_check_0 : decode b_Mo_check 0 = .ok (.aload_n 0, 1) := by decide +kernel
theorem d_Mo_check_1 : decode b_Mo_check 1 = .ok (.getfield 40, 3) := by decide +kernel
theorem d_Mo_check_4 : decode b_Mo_check 4 = .ok (.aload_n 0, 1) := by decide +kernel
theorem d_Mo_check_5 : decode b_Mo_check 5 = .ok (.getfield 16, 3) := by decide +kernel
theorem d_Mo_check_8 : decode b_Mo_check 8 = .ok (.iload_n 1, 1) := by decide +kernel
theorem d_Mo_check_9 : decode b_Mo_check 9 = .ok (.iaload, 1) := by decide +kernel
theorem d_Mo_check_10 : decode b_Mo_check 10 = .ok (.iaload, 1) := by decide +kernel
theorem d_Mo_check_11 : decode b_Mo_check 11 = .ok (.istore_n 2, 1) := by decide +kernel
theorem d_Mo_check_12 : decode b_Mo_check 12 = .ok (.aload_n 0, 1) := by decide +kernel
theorem d_Mo_check_13 : decode b_Mo_check 13 = .ok (.getfield 7, 3) := by decide +kernel
theorem d_Mo_check_16 : decode b_Mo_check 16 = .ok (.iload_n 1, 1) := by decide +kernel
theorem d_Mo_check_17 : decode b_Mo_check 17 = .ok (.iaload, 1) := by decide +kernel
theorem d_Mo_check_18 : decode b_Mo_check 18 = .ok (.iconst 5, 1) := by decide +kernel
theorem d_Mo_check_19 : decode b_Mo_check 19 = .ok (.if_icmp .ne 23, 3) := by decide +kernel
theorem d_Mo_check_22 : decode b_Mo_check 22 = .ok (.iload_n 2, 1) := by decide +kernel
theorem d_Mo_check_23 : decode b_Mo_check 23 = .ok (.ifCond .eq 18, 3) := by decide +kernel
theorem d_Mo_check_26 : decode b_Mo_check 26 = .ok (.aload_n 0, 1) := by decide +kernel
theorem d_Mo_check_27 : decode b_Mo_check 27 = .ok (.iload_n 2, 1) := by decide +kernel
theorem d_Mo_check_28 : decode b_Mo_check 28 = .ok (.invokevirtual 121, 3) := by decide +kernel
theorem d_Mo_check_31 : decode b_Mo_check 31 = .ok (.ifCond .ne 10, 3) := by decide +kernel
theorem d_Mo_check_34 : decode b_Mo_check 34 = .ok (.aload_n 0, 1) := by decide +kernel
theorem d_Mo_check_35 : decode b_Mo_check 35 = .ok (.iconst 4, 1) := by decide +kernel
theorem d_Mo_check_36 : decode b_Mo_check 36 = .ok (.iload_n 2, 1) := by decide +kernel
theorem d_Mo_check_37 : decode b_Mo_check 37 = .ok (.iload_n 1, 1) := by decide +kernel
theorem d_Mo_check_38 : decode b_Mo_check 38 = .ok (.invokevirtual 124, 3) := by decide +kernel
theorem d_Mo_check_41 : decode b_Mo_check 41 = .ok (.return_, 1) := by decide +kernel
theorem d_Mo_check_42 : decode b_Mo_check 42 = .ok (.aload_n 0, 1) := by decide +kernel
theorem d_Mo_check_43 : decode b_Mo_check 43 = .ok (.getfield 7, 3) := by decide +kernel
theorem d_Mo_check_46 : decode b_Mo_check 46 = .ok (.iload_n 1, 1) := by decide +kernel
theorem d_Mo_check_47 : decode b_Mo_check 47 = .ok (.iaload, 1) := by decide +kernel
theorem d_Mo_check_48 : decode b_Mo_check 48 = .ok (.iconst 2, 1) := by decide +kernel
theorem d_Mo_check_49 : decode b_Mo_check 49 = .ok (.irem, 1) := by decide +kernel
theorem d_Mo_check_50 : decode b_Mo_check 50 = .ok (.ifCond .ne 7, 3) := by decide +kernel
theorem d_Mo_check_53 : decode b_Mo_check 53 = .ok (.iconst 1, 1) := by decide +kernel
theorem d_Mo_check_54 : decode b_Mo_check 54 = .ok (.goto 4, 3) := by decide +kernel
theorem d_Mo_check_57 : decode b_Mo_check 57 = .ok (.iconst 4, 1) := by decide +kernel
theorem d_Mo_check_58 : decode b_Mo_check 58 = .ok (.istore_n 3, 1) := by decide +kernel
theorem d_Mo_check_59 : decode b_Mo_check 59 = .ok (.iload_n 3, 1) := by decide +kernel
theorem d_Mo_check_60 : decode b_Mo_check 60 = .ok (.iconst 1, 1) := by decide +kernel
theorem d_Mo_check_61 : decode b_Mo_check 61 = .ok (.isub, 1) := by decide +kernel
theorem d_Mo_check_62 : decode b_Mo_check 62 = .ok (.istore 4, 2) := by decide +kernel
theorem d_Mo_check_64 : decode b_Mo_check 64 = .ok (.iload 4, 2) := by decide +kernel
theorem d_Mo_check_66 : decode b_Mo_check 66 = .ok (.ifCond .lt 44, 3) := by decide +kernel
theorem d_Mo_check_69 : decode b_Mo_check 69 = .ok (.iload_n 2, 1) := by decide +kernel
theorem d_Mo_check_70 : decode b_Mo_check 70 = .ok (.aload_n 0, 1) := by decide +kernel
theorem d_Mo_check_71 : decode b_Mo_check 71 = .ok (.getfield 22, 3) := by decide +kernel
theorem d_Mo_check_74 : decode b_Mo_check 74 = .ok (.iload_n 1, 1) := by decide +kernel
theorem d_Mo_check_75 : decode b_Mo_check 75 = .ok (.iaload, 1) := by decide +kernel
theorem d_Mo_check_76 : decode b_Mo_check 76 = .ok (.iadd, 1) := by decide +kernel
theorem d_Mo_check_77 : decode b_Mo_check 77 = .ok (.iload 4, 2) := by decide +kernel
theorem d_Mo_check_79 : decode b_Mo_check 79 = .ok (.iadd, 1) := by decide +kernel
theorem d_Mo_check_80 : decode b_Mo_check 80 = .ok (.istore 5, 2) := by decide +kernel
theorem d_Mo_check_82 : decode b_Mo_check 82 = .ok (.aload_n 0, 1) := by decide +kernel
theorem d_Mo_check_83 : decode b_Mo_check 83 = .ok (.iload 5, 2) := by decide +kernel
theorem d_Mo_check_85 : decode b_Mo_check 85 = .ok (.invokevirtual 128, 3) := by decide +kernel
theorem d_Mo_check_88 : decode b_Mo_check 88 = .ok (.ifCond .le 16, 3) := by decide +kernel
theorem d_Mo_check_91 : decode b_Mo_check 91 = .ok (.aload_n 0, 1) := by decide +kernel
theorem d_Mo_check_92 : decode b_Mo_check 92 = .ok (.aload_n 0, 1) := by decide +kernel
theorem d_Mo_check_93 : decode b_Mo_check 93 = .ok (.iload 5, 2) := by decide +kernel
theorem d_Mo_check_95 : decode b_Mo_check 95 = .ok (.invokevirtual 128, 3) := by decide +kernel
theorem d_Mo_check_98 : decode b_Mo_check 98 = .ok (.iload 5, 2) := by decide +kernel
theorem d_Mo_check_100 : decode b_Mo_check 100 = .ok (.iload_n 1, 1) := by decide +kernel
theorem d_Mo_check_101 : decode b_Mo_check 101 = .ok (.invokevirtual 124, 3) := by decide +kernel
theorem d_Mo_check_104 : decode b_Mo_check 104 = .ok (.iinc 4 (-1), 3) := by decide +kernel
theorem d_Mo_check_107 : decode b_Mo_check 107 = .ok (.goto (-43), 3) := by decide +kernel
theorem d_Mo_check_110 : decode b_Mo_check 110 = .ok (.return_, 1) := by decide +kernel
theorem d_Mo_isBlock_0 : decode b_Mo_isBlock 0 = .ok (.iload_n 1, 1) := by decide +kernel
theorem d_Mo_isBlock_1 : decode b_Mo_isBlock 1 = .ok (.bipush 8, 2) := by decide +kernel
theorem d_Mo_isBlock_3 : decode b_Mo_isBlock 3 = .ok (.idiv, 1) := by decide +kernel
theorem d_Mo_isBlock_4 : decode b_Mo_isBlock 4 = .ok (.iconst 1, 1) := by decide +kernel
theorem d_Mo_isBlock_5 : decode b_Mo_isBlock 5 = .ok (.isub, 1) := by decide +kernel
theorem d_Mo_isBlock_6 : decode b_Mo_isBlock 6 = .ok (.istore_n 2, 1) := by decide +kernel
theorem d_Mo_isBlock_7 : decode b_Mo_isBlock 7 = .ok (.iload_n 1, 1) := by decide +kernel
theorem d_Mo_isBlock_8 : decode b_Mo_isBlock 8 = .ok (.ifCond .le 40, 3) := by decide +kernel
theorem d_Mo_isBlock_11 : decode b_Mo_isBlock 11 = .ok (.iload_n 1, 1) := by decide +kernel
theorem d_Mo_isBlock_12 : decode b_Mo_isBlock 12 = .ok (.sipush 512, 3) := by decide +kernel
theorem d_Mo_isBlock_15 : decode b_Mo_isBlock 15 = .ok (.if_icmp .ge 33, 3) := by decide +kernel
theorem d_Mo_isBlock_18 : decode b_Mo_isBlock 18 = .ok (.iload_n 1, 1) := by decide +kernel
theorem d_Mo_isBlock_19 : decode b_Mo_isBlock 19 = .ok (.bipush 8, 2) := by decide +kernel
theorem d_Mo_isBlock_21 : decode b_Mo_isBlock 21 = .ok (.irem, 1) := by decide +kernel
theorem d_Mo_isBlock_22 : decode b_Mo_isBlock 22 = .ok (.ifCond .ne 26, 3) := by decide +kernel
theorem d_Mo_isBlock_25 : decode b_Mo_isBlock 25 = .ok (.aload_n 0, 1) := by decide +kernel
theorem d_Mo_isBlock_26 : decode b_Mo_isBlock 26 = .ok (.getfield 34, 3) := by decide +kernel
theorem d_Mo_isBlock_29 : decode b_Mo_isBlock 29 = .ok (.iload_n 2, 1) := by decide +kernel
theorem d_Mo_isBlock_30 : decode b_Mo_isBlock 30 = .ok (.iaload, 1) := by decide +kernel
theorem d_Mo_isBlock_31 : decode b_Mo_isBlock 31 = .ok (.ifCond .le 17, 3) := by decide +kernel
theorem d_Mo_isBlock_34 : decode b_Mo_isBlock 34 = .ok (.aload_n 0, 1) := by decide +kernel
theorem d_Mo_isBlock_35 : decode b_Mo_isBlock 35 = .ok (.getfield 31, 3) := by decide +kernel
theorem d_Mo_isBlock_38 : decode b_Mo_isBlock 38 = .ok (.iload_n 2, 1) := by decide +kernel
theorem d_Mo_isBlock_39 : decode b_Mo_isBlock 39 = .ok (.iaload, 1) := by decide +kernel
theorem d_Mo_isBlock_40 : decode b_Mo_isBlock 40 = .ok (.iconst 1, 1) := by decide +kernel
theorem d_Mo_isBlock_41 : decode b_Mo_isBlock 41 = .ok (.if_icmp .ne 7, 3) := by decide +kernel
theorem d_Mo_isBlock_44 : decode b_Mo_isBlock 44 = .ok (.iconst 1, 1) := by decide +kernel
theorem d_Mo_isBlock_45 : decode b_Mo_isBlock 45 = .ok (.goto 4, 3) := by decide +kernel
theorem d_Mo_isBlock_48 : decode b_Mo_isBlock 48 = .ok (.iconst 0, 1) := by decide +kernel
theorem d_Mo_isBlock_49 : decode b_Mo_isBlock 49 = .ok (.ireturn, 1) := by decide +kernel
theorem d_Mo_tell_0 : decode b_Mo_tell 0 = .ok (.aload_n 0, 1) := by decide +kernel
theorem d_Mo_tell_1 : decode b_Mo_tell 1 = .ok (.iconst 3, 1) := by decide +kernel
theorem d_Mo_tell_2 : decode b_Mo_tell 2 = .ok (.putfield 64, 3) := by decide +kernel
theorem d_Mo_tell_5 : decode b_Mo_tell 5 = .ok (.aload_n 0, 1) := by decide +kernel
theorem d_Mo_tell_6 : decode b_Mo_tell 6 = .ok (.iload_n 1, 1) := by decide +kernel
theorem d_Mo_tell_7 : decode b_Mo_tell 7 = .ok (.putfield 112, 3) := by decide +kernel
theorem d_Mo_tell_10 : decode b_Mo_tell 10 = .ok (.aload_n 0, 1) := by decide +kernel
theorem d_Mo_tell_11 : decode b_Mo_tell 11 = .ok (.iload_n 2, 1) := by decide +kernel
theorem d_Mo_tell_12 : decode b_Mo_tell 12 = .ok (.putfield 115, 3) := by decide +kernel
theorem d_Mo_tell_15 : decode b_Mo_tell 15 = .ok (.aload_n 0, 1) := by decide +kernel
theorem d_Mo_tell_16 : decode b_Mo_tell 16 = .ok (.iload_n 3, 1) := by decide +kernel
theorem d_Mo_tell_17 : decode b_Mo_tell 17 = .ok (.putfield 118, 3) := by decide +kernel
theorem d_Mo_tell_20 : decode b_Mo_tell 20 = .ok (.return_, 1) := by decide +kernel
theorem d_Mo_wrongByte_0 : decode b_Mo_wrongByte 0 = .ok (.iload_n 1, 1) := by decide +kernel
theorem d_Mo_wrongByte_1 : decode b_Mo_wrongByte 1 = .ok (.invokestatic 96, 3) := by decide +kernel
theorem d_Mo_wrongByte_4 : decode b_Mo_wrongByte 4 = .ok (.ifCond .ne 5, 3) := by decide +kernel
theorem d_Mo_wrongByte_7 : decode b_Mo_wrongByte 7 = .ok (.iconst 5, 1) := by decide +kernel
theorem d_Mo_wrongByte_8 : decode b_Mo_wrongByte 8 = .ok (.ireturn, 1) := by decide +kernel
theorem d_Mo_wrongByte_9 : decode b_Mo_wrongByte 9 = .ok (.aload_n 0, 1) := by decide +kernel
theorem d_Mo_wrongByte_10 : decode b_Mo_wrongByte 10 = .ok (.getfield 28, 3) := by decide +kernel
theorem d_Mo_wrongByte_13 : decode b_Mo_wrongByte 13 = .ok (.iload_n 1, 1) := by decide +kernel
theorem d_Mo_wrongByte_14 : decode b_Mo_wrongByte 14 = .ok (.bipush 8, 2) := by decide +kernel
theorem d_Mo_wrongByte_16 : decode b_Mo_wrongByte 16 = .ok (.idiv, 1) := by decide +kernel
theorem d_Mo_wrongByte_17 : decode b_Mo_wrongByte 17 = .ok (.iaload, 1) := by decide +kernel
theorem d_Mo_wrongByte_18 : decode b_Mo_wrongByte 18 = .ok (.istore_n 2, 1) := by decide +kernel
theorem d_Mo_wrongByte_19 : decode b_Mo_wrongByte 19 = .ok (.iload_n 2, 1) := by decide +kernel
theorem d_Mo_wrongByte_20 : decode b_Mo_wrongByte 20 = .ok (.ifCond .eq 15, 3) := by decide +kernel
theorem d_Mo_wrongByte_23 : decode b_Mo_wrongByte 23 = .ok (.iload_n 2, 1) := by decide +kernel
theorem d_Mo_wrongByte_24 : decode b_Mo_wrongByte 24 = .ok (.ifCond .le 15, 3) := by decide +kernel
theorem d_Mo_wrongByte_27 : decode b_Mo_wrongByte 27 = .ok (.iload_n 1, 1) := by decide +kernel
theorem d_Mo_wrongByte_28 : decode b_Mo_wrongByte 28 = .ok (.bipush 8, 2) := by decide +kernel
theorem d_Mo_wrongByte_30 : decode b_Mo_wrongByte 30 = .ok (.irem, 1) := by decide +kernel
theorem d_Mo_wrongByte_31 : decode b_Mo_wrongByte 31 = .ok (.iload_n 2, 1) := by decide +kernel
theorem d_Mo_wrongByte_32 : decode b_Mo_wrongByte 32 = .ok (.if_icmp .ge 7, 3) := by decide +kernel
theorem d_Mo_wrongByte_35 : decode b_Mo_wrongByte 35 = .ok (.iconst 0, 1) := by decide +kernel
theorem d_Mo_wrongByte_36 : decode b_Mo_wrongByte 36 = .ok (.goto 24, 3) := by decide +kernel
theorem d_Mo_wrongByte_39 : decode b_Mo_wrongByte 39 = .ok (.iload_n 2, 1) := by decide +kernel
theorem d_Mo_wrongByte_40 : decode b_Mo_wrongByte 40 = .ok (.bipush (-2), 2) := by decide +kernel
theorem d_Mo_wrongByte_42 : decode b_Mo_wrongByte 42 = .ok (.if_icmp .ne 7, 3) := by decide +kernel
theorem d_Mo_wrongByte_45 : decode b_Mo_wrongByte 45 = .ok (.iconst 2, 1) := by decide +kernel
theorem d_Mo_wrongByte_46 : decode b_Mo_wrongByte 46 = .ok (.goto 14, 3) := by decide +kernel
theorem d_Mo_wrongByte_49 : decode b_Mo_wrongByte 49 = .ok (.iload_n 2, 1) := by decide +kernel
theorem d_Mo_wrongByte_50 : decode b_Mo_wrongByte 50 = .ok (.bipush (-3), 2) := by decide +kernel
theorem d_Mo_wrongByte_52 : decode b_Mo_wrongByte 52 = .ok (.if_icmp .ne 7, 3) := by decide +kernel
theorem d_Mo_wrongByte_55 : decode b_Mo_wrongByte 55 = .ok (.iconst 3, 1) := by decide +kernel
theorem d_Mo_wrongByte_56 : decode b_Mo_wrongByte 56 = .ok (.goto 4, 3) := by decide +kernel
theorem d_Mo_wrongByte_59 : decode b_Mo_wrongByte 59 = .ok (.iconst 1, 1) := by decide +kernel
theorem d_Mo_wrongByte_60 : decode b_Mo_wrongByte 60 = .ok (.ireturn, 1) := by decide +kernel
theorem d_Mo_isIn_0 : decode b_Mo_isIn 0 = .ok (.iload_n 0, 1) := by decide +kernel
theorem d_Mo_isIn_1 : decode b_Mo_isIn 1 = .ok (.ifCond .lt 14, 3) := by decide +kernel
theorem d_Mo_isIn_4 : decode b_Mo_isIn 4 = .ok (.iload_n 0, 1) := by decide +kernel
theorem d_Mo_isIn_5 : decode b_Mo_isIn 5 = .ok (.sipush 512, 3) := by decide +kernel
theorem d_Mo_isIn_8 : decode b_Mo_isIn 8 = .ok (.if_icmp .ge 7, 3) := by decide +kernel
theorem d_Mo_isIn_11 : decode b_Mo_isIn 11 = .ok (.iconst 1, 1) := by decide +kernel
theorem d_Mo_isIn_12 : decode b_Mo_isIn 12 = .ok (.goto 4, 3) := by decide +kernel
theorem d_Mo_isIn_15 : decode b_Mo_isIn 15 = .ok (.iconst 0, 1) := by decide +kernel
theorem d_Mo_isIn_16 : decode b_Mo_isIn 16 = .ok (.ireturn, 1) := by decide +kernel
theorem d_Mo_perform_0 : decode b_Mo_perform 0 = .ok (.aload_n 0, 1) := by decide +kernel
theorem d_Mo_perform_1 : decode b_Mo_perform 1 = .ok (.getfield 40, 3) := by decide +kernel
theorem d_Mo_perform_4 : decode b_Mo_perform 4 = .ok (.aload_n 0, 1) := by decide +kernel
theorem d_Mo_perform_5 : decode b_Mo_perform 5 = .ok (.getfield 16, 3) := by decide +kernel
theorem d_Mo_perform_8 : decode b_Mo_perform 8 = .ok (.iload_n 1, 1) := by decide +kernel
theorem d_Mo_perform_9 : decode b_Mo_perform 9 = .ok (.iaload, 1) := by decide +kernel
theorem d_Mo_perform_10 : decode b_Mo_perform 10 = .ok (.iaload, 1) := by decide +kernel
theorem d_Mo_perform_11 : decode b_Mo_perform 11 = .ok (.istore_n 2, 1) := by decide +kernel
