theorem d_Pr_goesOnWithin_35 : decode b_Pr_goesOnWithin 35 = .ok (.getfield 21, 3) := by decide +kernel
theorem d_Pr_goesOnWithin_38 : decode b_Pr_goesOnWithin 38 = .ok (.iload_n 1, 1) := by decide +kernel
theorem d_Pr_goesOnWithin_39 : decode b_Pr_goesOnWithin 39 = .ok (.iaload, 1) := by decide +kernel
theorem d_Pr_goesOnWithin_40 : decode b_Pr_goesOnWithin 40 = .ok (.aload_n 0, 1) := by decide +kernel
theorem d_Pr_goesOnWithin_41 : decode b_Pr_goesOnWithin 41 = .ok (.invokevirtual 40, 3) := by decide +kernel
theorem d_Pr_goesOnWithin_44 : decode b_Pr_goesOnWithin 44 = .ok (.if_icmp .lt 5, 3) := by decide +kernel
theorem d_Pr_goesOnWithin_47 : decode b_Pr_goesOnWithin 47 = .ok (.iconst 0, 1) := by decide +kernel
theorem d_Pr_goesOnWithin_48 : decode b_Pr_goesOnWithin 48 = .ok (.ireturn, 1) := by decide +kernel
theorem d_Pr_goesOnWithin_49 : decode b_Pr_goesOnWithin 49 = .ok (.iinc 1 1, 3) := by decide +kernel
theorem d_Pr_goesOnWithin_52 : decode b_Pr_goesOnWithin 52 = .ok (.goto (-50), 3) := by decide +kernel
theorem d_Pr_goesOnWithin_55 : decode b_Pr_goesOnWithin 55 = .ok (.iconst 1, 1) := by decide +kernel
theorem d_Pr_goesOnWithin_56 : decode b_Pr_goesOnWithin 56 = .ok (.ireturn, 1) := by decide +kernel
theorem d_Pr_goesOnElsewhere_0 : decode b_Pr_goesOnElsewhere 0 = .ok (.iload_n 0, 1) := by decide +kernel
theorem d_Pr_goesOnElsewhere_1 : decode b_Pr_goesOnElsewhere 1 = .ok (.bipush 10, 2) := by decide +kernel
theorem d_Pr_goesOnElsewhere_3 : decode b_Pr_goesOnElsewhere 3 = .ok (.if_icmp .eq 9, 3) := by decide +kernel
theorem d_Pr_goesOnElsewhere_6 : decode b_Pr_goesOnElsewhere 6 = .ok (.iload_n 0, 1) := by decide +kernel
theorem d_Pr_goesOnElsewhere_7 : decode b_Pr_goesOnElsewhere 7 = .ok (.bipush 11, 2) := by decide +kernel
theorem d_Pr_goesOnElsewhere_9 : decode b_Pr_goesOnElsewhere 9 = .ok (.if_icmp .ne 7, 3) := by decide +kernel
theorem d_Pr_goesOnElsewhere_12 : decode b_Pr_goesOnElsewhere 12 = .ok (.iconst 1, 1) := by decide +kernel
theorem d_Pr_goesOnElsewhere_13 : decode b_Pr_goesOnElsewhere 13 = .ok (.goto 4, 3) := by decide +kernel
theorem d_Pr_goesOnElsewhere_16 : decode b_Pr_goesOnElsewhere 16 = .ok (.iconst 0, 1) := by decide +kernel
theorem d_Pr_goesOnElsewhere_17 : decode b_Pr_goesOnElsewhere 17 = .ok (.ireturn, 1) := by decide +kernel
theorem d_La_rewritten_0 : decode b_La_rewritten 0 = .ok (.aload_n 3, 1) := by decide +kernel
theorem d_La_rewritten_1 : decode b_La_rewritten 1 = .ok (.iconst 0, 1) := by decide +kernel
theorem d_La_rewritten_2 : decode b_La_rewritten 2 = .ok (.aload_n 0, 1) := by decide +kernel
theorem d_La_rewritten_3 : decode b_La_rewritten 3 = .ok (.iload_n 1, 1) := by decide +kernel
theorem d_La_rewritten_4 : decode b_La_rewritten 4 = .ok (.iload_n 2, 1) := by decide +kernel
theorem d_La_rewritten_5 : decode b_La_rewritten 5 = .ok (.invokevirtual 23, 3) := by decide +kernel
theorem d_La_rewritten_8 : decode b_La_rewritten 8 = .ok (.i2l, 1) := by decide +kernel
theorem d_La_rewritten_9 : decode b_La_rewritten 9 = .ok (.lastore, 1) := by decide +kernel
theorem d_La_rewritten_10 : decode b_La_rewritten 10 = .ok (.goto 15, 3) := by decide +kernel
theorem d_La_rewritten_13 : decode b_La_rewritten 13 = .ok (.astore 4, 2) := by decide +kernel
theorem d_La_rewritten_15 : decode b_La_rewritten 15 = .ok (.iconst 1, 1) := by decide +kernel
theorem d_La_rewritten_16 : decode b_La_rewritten 16 = .ok (.ireturn, 1) := by decide +kernel
theorem d_La_rewritten_17 : decode b_La_rewritten 17 = .ok (.astore 4, 2) := by decide +kernel
theorem d_La_rewritten_19 : decode b_La_rewritten 19 = .ok (.iconst 2, 1) := by decide +kernel
theorem d_La_rewritten_20 : decode b_La_rewritten 20 = .ok (.ireturn, 1) := by decide +kernel
theorem d_La_rewritten_21 : decode b_La_rewritten 21 = .ok (.astore 4, 2) := by decide +kernel
theorem d_La_rewritten_23 : decode b_La_rewritten 23 = .ok (.iconst 3, 1) := by decide +kernel
theorem d_La_rewritten_24 : decode b_La_rewritten 24 = .ok (.ireturn, 1) := by decide +kernel
theorem d_La_rewritten_25 : decode b_La_rewritten 25 = .ok (.iconst 0, 1) := by decide +kernel
theorem d_La_rewritten_26 : decode b_La_rewritten 26 = .ok (.ireturn, 1) := by decide +kernel
theorem d_S_rewritten_0 : decode b_S_rewritten 0 = .ok (.aload_n 0, 1) := by decide +kernel
theorem d_S_rewritten_1 : decode b_S_rewritten 1 = .ok (.invokevirtual 64, 3) := by decide +kernel
theorem d_S_rewritten_4 : decode b_S_rewritten 4 = .ok (.iload_n 1, 1) := by decide +kernel
theorem d_S_rewritten_5 : decode b_S_rewritten 5 = .ok (.ifCond .lt 17, 3) := by decide +kernel
theorem d_S_rewritten_8 : decode b_S_rewritten 8 = .ok (.iload_n 1, 1) := by decide +kernel
theorem d_S_rewritten_9 : decode b_S_rewritten 9 = .ok (.aload_n 0, 1) := by decide +kernel
theorem d_S_rewritten_10 : decode b_S_rewritten 10 = .ok (.getfield 10, 3) := by decide +kernel
theorem d_S_rewritten_13 : decode b_S_rewritten 13 = .ok (.getfield 67, 3) := by decide +kernel
theorem d_S_rewritten_16 : decode b_S_rewritten 16 = .ok (.getfield 71, 3) := by decide +kernel
theorem d_S_rewritten_19 : decode b_S_rewritten 19 = .ok (.if_icmp .lt 13, 3) := by decide +kernel
theorem d_S_rewritten_22 : decode b_S_rewritten 22 = .ok (.new 49, 3) := by decide +kernel
theorem d_S_rewritten_25 : decode b_S_rewritten 25 = .ok (.dup, 1) := by decide +kernel
theorem d_S_rewritten_26 : decode b_S_rewritten 26 = .ok (.ldc 76, 2) := by decide +kernel
theorem d_S_rewritten_28 : decode b_S_rewritten 28 = .ok (.invokespecial 53, 3) := by decide +kernel
theorem d_S_rewritten_31 : decode b_S_rewritten 31 = .ok (.athrow, 1) := by decide +kernel
theorem d_S_rewritten_32 : decode b_S_rewritten 32 = .ok (.iload_n 2, 1) := by decide +kernel
theorem d_S_rewritten_33 : decode b_S_rewritten 33 = .ok (.tableswitch 69 0 2 #[27, 40, 53], 27) := by decide +kernel
theorem d_S_rewritten_60 : decode b_S_rewritten 60 = .ok (.aload_n 0, 1) := by decide +kernel
theorem d_S_rewritten_61 : decode b_S_rewritten 61 = .ok (.getfield 10, 3) := by decide +kernel
theorem d_S_rewritten_64 : decode b_S_rewritten 64 = .ok (.getfield 67, 3) := by decide +kernel
theorem d_S_rewritten_67 : decode b_S_rewritten 67 = .ok (.getfield 78, 3) := by decide +kernel
theorem d_S_rewritten_70 : decode b_S_rewritten 70 = .ok (.iload_n 1, 1) := by decide +kernel
theorem d_S_rewritten_71 : decode b_S_rewritten 71 = .ok (.iaload, 1) := by decide +kernel
theorem d_S_rewritten_72 : decode b_S_rewritten 72 = .ok (.ireturn, 1) := by decide +kernel
theorem d_S_rewritten_73 : decode b_S_rewritten 73 = .ok (.aload_n 0, 1) := by decide +kernel
theorem d_S_rewritten_74 : decode b_S_rewritten 74 = .ok (.getfield 10, 3) := by decide +kernel
theorem d_S_rewritten_77 : decode b_S_rewritten 77 = .ok (.getfield 67, 3) := by decide +kernel
theorem d_S_rewritten_80 : decode b_S_rewritten 80 = .ok (.getfield 82, 3) := by decide +kernel
theorem d_S_rewritten_83 : decode b_S_rewritten 83 = .ok (.iload_n 1, 1) := by decide +kernel
theorem d_S_rewritten_84 : decode b_S_rewritten 84 = .ok (.iaload, 1) := by decide +kernel
theorem d_S_rewritten_85 : decode b_S_rewritten 85 = .ok (.ireturn, 1) := by decide +kernel
theorem d_S_rewritten_86 : decode b_S_rewritten 86 = .ok (.aload_n 0, 1) := by decide +kernel
theorem d_S_rewritten_87 : decode b_S_rewritten 87 = .ok (.getfield 10, 3) := by decide +kernel
theorem d_S_rewritten_90 : decode b_S_rewritten 90 = .ok (.aload_n 0, 1) := by decide +kernel
theorem d_S_rewritten_91 : decode b_S_rewritten 91 = .ok (.getfield 10, 3) := by decide +kernel
theorem d_S_rewritten_94 : decode b_S_rewritten 94 = .ok (.getfield 67, 3) := by decide +kernel
theorem d_S_rewritten_97 : decode b_S_rewritten 97 = .ok (.iload_n 1, 1) := by decide +kernel
theorem d_S_rewritten_98 : decode b_S_rewritten 98 = .ok (.invokevirtual 85, 3) := by decide +kernel
theorem d_S_rewritten_101 : decode b_S_rewritten 101 = .ok (.ireturn, 1) := by decide +kernel
theorem d_S_rewritten_102 : decode b_S_rewritten 102 = .ok (.new 32, 3) := by decide +kernel
theorem d_S_rewritten_105 : decode b_S_rewritten 105 = .ok (.dup, 1) := by decide +kernel
theorem d_S_rewritten_106 : decode b_S_rewritten 106 = .ok (.ldc 89, 2) := by decide +kernel
theorem d_S_rewritten_108 : decode b_S_rewritten 108 = .ok (.invokespecial 36, 3) := by decide +kernel
theorem d_S_rewritten_111 : decode b_S_rewritten 111 = .ok (.athrow, 1) := by decide +kernel
theorem d_Pr_numberAt_0 : decode b_Pr_numberAt 0 = .ok (.aload_n 0, 1) := by decide +kernel
theorem d_Pr_numberAt_1 : decode b_Pr_numberAt 1 = .ok (.getfield 21, 3) := by decide +kernel
theorem d_Pr_numberAt_4 : decode b_Pr_numberAt 4 = .ok (.aload_n 1, 1) := by decide +kernel
theorem d_Pr_numberAt_5 : decode b_Pr_numberAt 5 = .ok (.getfield 57, 3) := by decide +kernel
theorem d_Pr_numberAt_8 : decode b_Pr_numberAt 8 = .ok (.iload_n 2, 1) := by decide +kernel
theorem d_Pr_numberAt_9 : decode b_Pr_numberAt 9 = .ok (.iaload, 1) := by decide +kernel
theorem d_Pr_numberAt_10 : decode b_Pr_numberAt 10 = .ok (.iaload, 1) := by decide +kernel
theorem d_Pr_numberAt_11 : decode b_Pr_numberAt 11 = .ok (.istore_n 3, 1) := by decide +kernel
theorem d_Pr_numberAt_12 : decode b_Pr_numberAt 12 = .ok (.aload_n 1, 1) := by decide +kernel
theorem d_Pr_numberAt_13 : decode b_Pr_numberAt 13 = .ok (.getfield 50, 3) := by decide +kernel
theorem d_Pr_numberAt_16 : decode b_Pr_numberAt 16 = .ok (.iload_n 2, 1) := by decide +kernel
theorem d_Pr_numberAt_17 : decode b_Pr_numberAt 17 = .ok (.iaload, 1) := by decide +kernel
theorem d_Pr_numberAt_18 : decode b_Pr_numberAt 18 = .ok (.invokestatic 53, 3) := by decide +kernel
theorem d_Pr_numberAt_21 : decode b_Pr_numberAt 21 = .ok (.ifCond .eq 12, 3) := by decide +kernel
theorem d_Pr_numberAt_24 : decode b_Pr_numberAt 24 = .ok (.aload_n 1, 1) := by decide +kernel
theorem d_Pr_numberAt_25 : decode b_Pr_numberAt 25 = .ok (.getfield 60, 3) := by decide +kernel
theorem d_Pr_numberAt_28 : decode b_Pr_numberAt 28 = .ok (.iload_n 3, 1) := by decide +kernel
theorem d_Pr_numberAt_29 : decode b_Pr_numberAt 29 = .ok (.iaload, 1) := by decide +kernel
theorem d_Pr_numberAt_30 : decode b_Pr_numberAt 30 = .ok (.goto 4, 3) := by decide +kernel
theorem d_Pr_numberAt_33 : decode b_Pr_numberAt 33 = .ok (.iload_n 3, 1) := by decide +kernel
theorem d_Pr_numberAt_34 : decode b_Pr_numberAt 34 = .ok (.ireturn, 1) := by decide +kernel
theorem d_La_start_0 : decode b_La_start 0 = .ok (.aload_n 0, 1) := by decide +kernel
theorem d_La_start_1 : decode b_La_start 1 = .ok (.iload_n 1, 1) := by decide +kernel
theorem d_La_start_2 : decode b_La_start 2 = .ok (.iload_n 2, 1) := by decide +kernel
theorem d_La_start_3 : decode b_La_start 3 = .ok (.iload_n 3, 1) := by decide +kernel
theorem d_La_start_4 : decode b_La_start 4 = .ok (.invokevirtual 27, 3) := by decide +kernel
theorem d_La_start_7 : decode b_La_start 7 = .ok (.goto 7, 3) := by decide +kernel
theorem d_La_start_10 : decode b_La_start 10 = .ok (.astore 4, 2) := by decide +kernel
theorem d_La_start_12 : decode b_La_start 12 = .ok (.iconst 1, 1) := by decide +kernel
theorem d_La_start_13 : decode b_La_start 13 = .ok (.ireturn, 1) := by decide +kernel
theorem d_La_start_14 : decode b_La_start 14 = .ok (.iconst 0, 1) := by decide +kernel
theorem d_La_start_15 : decode b_La_start 15 = .ok (.ireturn, 1) := by decide +kernel
theorem d_S_start_0 : decode b_S_start 0 = .ok (.aload_n 0, 1) := by decide +kernel
theorem d_S_start_1 : decode b_S_start 1 = .ok (.getfield 10, 3) := by decide +kernel
theorem d_S_start_4 : decode b_S_start 4 = .ok (.invokevirtual 45, 3) := by decide +kernel
theorem d_S_start_7 : decode b_S_start 7 = .ok (.ifCond .ne 13, 3) := by decide +kernel
theorem d_S_start_10 : decode b_S_start 10 = .ok (.new 91, 3) := by decide +kernel
theorem d_S_start_13 : decode b_S_start 13 = .ok (.dup, 1) := by decide +kernel
theorem d_S_start_14 : decode b_S_start 14 = .ok (.ldc 93, 2) := by decide +kernel
theorem d_S_start_16 : decode b_S_start 16 = .ok (.invokespecial 95, 3) := by decide +kernel
theorem d_S_start_19 : decode b_S_start 19 = .ok (.athrow, 1) := by decide +kernel
theorem d_S_start_20 : decode b_S_start 20 = .ok (.aload_n 0, 1) := by decide +kernel
theorem d_S_start_21 : decode b_S_start 21 = .ok (.invokevirtual 64, 3) := by decide +kernel
theorem d_S_start_24 : decode b_S_start 24 = .ok (.aload_n 0, 1) := by decide +kernel
theorem d_S_start_25 : decode b_S_start 25 = .ok (.getfield 28, 3) := by decide +kernel
theorem d_S_start_28 : decode b_S_start 28 = .ok (.iload_n 1, 1) := by decide +kernel
theorem d_S_start_29 : decode b_S_start 29 = .ok (.iload_n 2, 1) := by decide +kernel
theorem d_S_start_30 : decode b_S_start 30 = .ok (.iload_n 3, 1) := by decide +kernel
theorem d_S_start_31 : decode b_S_start 31 = .ok (.invokevirtual 96, 3) := by decide +kernel
theorem d_S_start_34 : decode b_S_start 34 = .ok (.return_, 1) := by decide +kernel
theorem d_Ru_begin_0 : decode b_Ru_begin 0 = .ok (.aload_n 0, 1) := by decide +kernel
theorem d_Ru_begin_1 : decode b_Ru_begin 1 = .ok (.iload_n 1, 1) := by decide +kernel
theorem d_Ru_begin_2 : decode b_Ru_begin 2 = .ok (.ifCond .eq 13, 3) := by decide +kernel
theorem d_Ru_begin_5 : decode b_Ru_begin 5 = .ok (.aload_n 0, 1) := by decide +kernel
theorem d_Ru_begin_6 : decode b_Ru_begin 6 = .ok (.getfield 18, 3) := by decide +kernel
theorem d_Ru_begin_9 : decode b_Ru_begin 9 = .ok (.getfield 39, 3) := by decide +kernel
theorem d_Ru_begin_12 : decode b_Ru_begin 12 = .ok (.goto 10, 3) := by decide +kernel
theorem d_Ru_begin_15 : decode b_Ru_begin 15 = .ok (.aload_n 0, 1) := by decide +kernel
theorem d_Ru_begin_16 : decode b_Ru_begin 16 = .ok (.getfield 18, 3) := by decide +kernel
theorem d_Ru_begin_19 : decode b_Ru_begin 19 = .ok (.getfield 26, 3) := by decide +kernel
theorem d_Ru_begin_22 : decode b_Ru_begin 22 = .ok (.putfield 32, 3) := by decide +kernel
theorem d_Ru_begin_25 : decode b_Ru_begin 25 = .ok (.aload_n 0, 1) := by decide +kernel
theorem d_Ru_begin_26 : decode b_Ru_begin 26 = .ok (.getfield 22, 3) := by decide +kernel
theorem d_Ru_begin_29 : decode b_Ru_begin 29 = .ok (.invokevirtual 42, 3) := by decide +kernel
theorem d_Ru_begin_32 : decode b_Ru_begin 32 = .ok (.iconst 0, 1) := by decide +kernel
theorem d_Ru_begin_33 : decode b_Ru_begin 33 = .ok (.istore 4, 2) := by decide +kernel
theorem d_Ru_begin_35 : decode b_Ru_begin 35 = .ok (.iload 4, 2) := by decide +kernel
theorem d_Ru_begin_37 : decode b_Ru_begin 37 = .ok (.bipush 8, 2) := by decide +kernel
theorem d_Ru_begin_39 : decode b_Ru_begin 39 = .ok (.if_icmp .ge 17, 3) := by decide +kernel
theorem d_Ru_begin_42 : decode b_Ru_begin 42 = .ok (.aload_n 0, 1) := by decide +kernel
theorem d_Ru_begin_43 : decode b_Ru_begin 43 = .ok (.getfield 9, 3) := by decide +kernel
theorem d_Ru_begin_46 : decode b_Ru_begin 46 = .ok (.iload 4, 2) := by decide +kernel
theorem d_Ru_begin_48 : decode b_Ru_begin 48 = .ok (.iconst 0, 1) := by decide +kernel
theorem d_Ru_begin_49 : decode b_Ru_begin 49 = .ok (.iastore, 1) := by decide +kernel
theorem d_Ru_begin_50 : decode b_Ru_begin 50 = .ok (.iinc 4 1, 3) := by decide +kernel
theorem d_Ru_begin_53 : decode b_Ru_begin 53 = .ok (.goto (-18), 3) := by decide +kernel
theorem d_Ru_begin_56 : decode b_Ru_begin 56 = .ok (.aload_n 0, 1) := by decide +kernel
theorem d_Ru_begin_57 : decode b_Ru_begin 57 = .ok (.getfield 9, 3) := by decide +kernel
theorem d_Ru_begin_60 : decode b_Ru_begin 60 = .ok (.iconst 0, 1) := by decide +kernel
theorem d_Ru_begin_61 : decode b_Ru_begin 61 = .ok (.iload_n 2, 1) := by decide +kernel
theorem d_Ru_begin_62 : decode b_Ru_begin 62 = .ok (.iastore, 1) := by decide +kernel
theorem d_Ru_begin_63 : decode b_Ru_begin 63 = .ok (.aload_n 0, 1) := by decide +kernel
theorem d_Ru_begin_64 : decode b_Ru_begin 64 = .ok (.getfield 9, 3) := by decide +kernel
theorem d_Ru_begin_67 : decode b_Ru_begin 67 = .ok (.iconst 1, 1) := by decide +kernel
theorem d_Ru_begin_68 : decode b_Ru_begin 68 = .ok (.iload_n 3, 1) := by decide +kernel
theorem d_Ru_begin_69 : decode b_Ru_begin 69 = .ok (.iastore, 1) := by decide +kernel
theorem d_Ru_begin_70 : decode b_Ru_begin 70 = .ok (.aload_n 0, 1) := by decide +kernel
theorem d_Ru_begin_71 : decode b_Ru_begin 71 = .ok (.iconst 0, 1) := by decide +kernel
theorem d_Ru_begin_72 : decode b_Ru_begin 72 = .ok (.putfield 47, 3) := by decide +kernel
theorem d_Ru_begin_75 : decode b_Ru_begin 75 = .ok (.aload_n 0, 1) := by decide +kernel
theorem d_Ru_begin_76 : decode b_Ru_begin 76 = .ok (.iconst 0, 1) := by decide +kernel
theorem d_Ru_begin_77 : decode b_Ru_begin 77 = .ok (.putfield 50, 3) := by decide +kernel
theorem d_Ru_begin_80 : decode b_Ru_begin 80 = .ok (.aload_n 0, 1) := by decide +kernel
theorem d_Ru_begin_81 : decode b_Ru_begin 81 = .ok (.iconst 1, 1) := by decide +kernel
theorem d_Ru_begin_82 : decode b_Ru_begin 82 = .ok (.putfield 35, 3) := by decide +kernel
theorem d_Ru_begin_85 : decode b_Ru_begin 85 = .ok (.return_, 1) := by decide +kernel
theorem d_La_step_0 : decode b_La_step 0 = .ok (.aload_n 2, 1) := by decide +kernel
theorem d_La_step_1 : decode b_La_step 1 = .ok (.iconst 0, 1) := by decide +kernel
theorem d_La_step_2 : decode b_La_step 2 = .ok (.aload_n 0, 1) := by decide +kernel
theorem d_La_step_3 : decode b_La_step 3 = .ok (.iload_n 1, 1) := by decide +kernel
theorem d_La_step_4 : decode b_La_step 4 = .ok (.invokevirtual 31, 3) := by decide +kernel
theorem d_La_step_7 : decode b_La_step 7 = .ok (.i2l, 1) := by decide +kernel
theorem d_La_step_8 : decode b_La_step 8 = .ok (.lastore, 1) := by decide +kernel
theorem d_La_step_9 : decode b_La_step 9 = .ok (.goto 9, 3) := by decide +kernel
theorem d_La_step_12 : decode b_La_step 12 = .ok (.astore_n 3, 1) := by decide +kernel
theorem d_La_step_13 : decode b_La_step 13 = .ok (.iconst 1, 1) := by decide +kernel
theorem d_La_step_14 : decode b_La_step 14 = .ok (.ireturn, 1) := by decide +kernel
theorem d_La_step_15 : decode b_La_step 15 = .ok (.astore_n 3, 1) := by decide +kernel
theorem d_La_step_16 : decode b_La_step 16 = .ok (.iconst 2, 1) := by decide +kernel
theorem d_La_step_17 : decode b_La_step 17 = .ok (.ireturn, 1) := by decide +kernel
theorem d_La_step_18 : decode b_La_step 18 = .ok (.iconst 0, 1) := by decide +kernel
theorem d_La_step_19 : decode b_La_step 19 = .ok (.ireturn, 1) := by decide +kernel
theorem d_S_step_0 : decode b_S_step 0 = .ok (.aload_n 0, 1) := by decide +kernel
theorem d_S_step_1 : decode b_S_step 1 = .ok (.getfield 28, 3) := by decide +kernel
theorem d_S_step_4 : decode b_S_step 4 = .ok (.getfield 100, 3) := by decide +kernel
theorem d_S_step_7 : decode b_S_step 7 = .ok (.ifCond .ne 13, 3) := by decide +kernel
theorem d_S_step_10 : decode b_S_step 10 = .ok (.new 91, 3) := by decide +kernel
theorem d_S_step_13 : decode b_S_step 13 = .ok (.dup, 1) := by decide +kernel
theorem d_S_step_14 : decode b_S_step 14 = .ok (.ldc 103, 2) := by decide +kernel
theorem d_S_step_16 : decode b_S_step 16 = .ok (.invokespecial 95, 3) := by decide +kernel
theorem d_S_step_19 : decode b_S_step 19 = .ok (.athrow, 1) := by decide +kernel
theorem d_S_step_20 : decode b_S_step 20 = .ok (.iload_n 1, 1) := by decide +kernel
theorem d_S_step_21 : decode b_S_step 21 = .ok (.ifCond .lt 10, 3) := by decide +kernel
theorem d_S_step_24 : decode b_S_step 24 = .ok (.iload_n 1, 1) := by decide +kernel
theorem d_S_step_25 : decode b_S_step 25 = .ok (.sipush 1000, 3) := by decide +kernel
theorem d_S_step_28 : decode b_S_step 28 = .ok (.if_icmp .le 13, 3) := by decide +kernel
theorem d_S_step_31 : decode b_S_step 31 = .ok (.new 32, 3) := by decide +kernel
theorem d_S_step_34 : decode b_S_step 34 = .ok (.dup, 1) := by decide +kernel
theorem d_S_step_35 : decode b_S_step 35 = .ok (.ldc 105, 2) := by decide +kernel
theorem d_S_step_37 : decode b_S_step 37 = .ok (.invokespecial 36, 3) := by decide +kernel
theorem d_S_step_40 : decode b_S_step 40 = .ok (.athrow, 1) := by decide +kernel
theorem d_S_step_41 : decode b_S_step 41 = .ok (.iconst 0, 1) := by decide +kernel
theorem d_S_step_42 : decode b_S_step 42 = .ok (.istore_n 2, 1) := by decide +kernel
theorem d_S_step_43 : decode b_S_step 43 = .ok (.iload_n 2, 1) := by decide +kernel
theorem d_S_step_44 : decode b_S_step 44 = .ok (.iload_n 1, 1) := by decide +kernel
theorem d_S_step_45 : decode b_S_step 45 = .ok (.if_icmp .ge 27, 3) := by decide +kernel
theorem d_S_step_48 : decode b_S_step 48 = .ok (.aload_n 0, 1) := by decide +kernel
theorem d_S_step_49 : decode b_S_step 49 = .ok (.getfield 28, 3) := by decide +kernel
theorem d_S_step_52 : decode b_S_step 52 = .ok (.getfield 100, 3) := by decide +kernel
theorem d_S_step_55 : decode b_S_step 55 = .ok (.iconst 1, 1) := by decide +kernel
theorem d_S_step_56 : decode b_S_step 56 = .ok (.if_icmp .ne 16, 3) := by decide +kernel
theorem d_S_step_59 : decode b_S_step 59 = .ok (.aload_n 0, 1) := by decide +kernel
theorem d_S_step_60 : decode b_S_step 60 = .ok (.getfield 28, 3) := by decide +kernel
theorem d_S_step_63 : decode b_S_step 63 = .ok (.invokevirtual 107, 3) := by decide +kernel
theorem d_S_step_66 : decode b_S_step 66 = .ok (.iinc 2 1, 3) := by decide +kernel
theorem d_S_step_69 : decode b_S_step 69 = .ok (.goto (-26), 3) := by decide +kernel
theorem d_S_step_72 : decode b_S_step 72 = .ok (.iload_n 2, 1) := by decide +kernel
theorem d_S_step_73 : decode b_S_step 73 = .ok (.ireturn, 1) := by decide +kernel
theorem d_Ru_doLine_0 : decode b_Ru_doLine 0 = .ok (.aload_n 0, 1) := by decide +kernel
theorem d_Ru_doLine_1 : decode b_Ru_doLine 1 = .ok (.getfield 32, 3) := by decide +kernel
theorem d_Ru_doLine_4 : decode b_Ru_doLine 4 = .ok (.getfield 53, 3) := by decide +kernel
theorem d_Ru_doLine_7 : decode b_Ru_doLine 7 = .ok (.aload_n 0, 1) := by decide +kernel
theorem d_Ru_doLine_8 : decode b_Ru_doLine 8 = .ok (.getfield 50, 3) := by decide +kernel
theorem d_Ru_doLine_11 : decode b_Ru_doLine 11 = .ok (.iaload, 1) := by decide +kernel
theorem d_Ru_doLine_12 : decode b_Ru_doLine 12 = .ok (.istore_n 1, 1) := by decide +kernel
theorem d_Ru_doLine_13 : decode b_Ru_doLine 13 = .ok (.aload_n 0, 1) := by decide +kernel
theorem d_Ru_doLine_14 : decode b_Ru_doLine 14 = .ok (.getfield 32, 3) := by decide +kernel
theorem d_Ru_doLine_17 : decode b_Ru_doLine 17 = .ok (.getfield 58, 3) := by decide +kernel
theorem d_Ru_doLine_20 : decode b_Ru_doLine 20 = .ok (.aload_n 0, 1) := by decide +kernel
theorem d_Ru_doLine_21 : decode b_Ru_doLine 21 = .ok (.getfield 50, 3) := by decide +kernel
theorem d_Ru_doLine_24 : decode b_Ru_doLine 24 = .ok (.iaload, 1) := by decide +kernel
theorem d_Ru_doLine_25 : decode b_Ru_doLine 25 = .ok (.istore_n 2, 1) := by decide +kernel
theorem d_Ru_doLine_26 : decode b_Ru_doLine 26 = .ok (.aload_n 0, 1) := by decide +kernel
theorem d_Ru_doLine_27 : decode b_Ru_doLine 27 = .ok (.getfield 50, 3) := by decide +kernel
theorem d_Ru_doLine_30 : decode b_Ru_doLine 30 = .ok (.iconst 1, 1) := by decide +kernel
theorem d_Ru_doLine_31 : decode b_Ru_doLine 31 = .ok (.iadd, 1) := by decide +kernel
theorem d_Ru_doLine_32 : decode b_Ru_doLine 32 = .ok (.istore_n 3, 1) := by decide +kernel
theorem d_Ru_doLine_33 : decode b_Ru_doLine 33 = .ok (.iload_n 1, 1) := by decide +kernel
theorem d_Ru_doLine_34 : decode b_Ru_doLine 34 = .ok (.bipush 14, 2) := by decide +kernel
theorem d_Ru_doLine_36 : decode b_Ru_doLine 36 = .ok (.if_icmp .ne 11, 3) := by decide +kernel
theorem d_Ru_doLine_39 : decode b_Ru_doLine 39 = .ok (.aload_n 0, 1) := by decide +kernel
theorem d_Ru_doLine_40 : decode b_Ru_doLine 40 = .ok (.iconst 2, 1) := by decide +kernel
theorem d_Ru_doLine_41 : decode b_Ru_doLine 41 = .ok (.putfield 35, 3) := by decide +kernel
theorem d_Ru_doLine_44 : decode b_Ru_doLine 44 = .ok (.goto 149, 3) := by decide +kernel
theorem d_Ru_doLine_47 : decode b_Ru_doLine 47 = .ok (.iload_n 1, 1) := by decide +kernel
theorem d_Ru_doLine_48 : decode b_Ru_doLine 48 = .ok (.bipush 15, 2) := by decide +kernel
theorem d_Ru_doLine_50 : decode b_Ru_doLine 50 = .ok (.if_icmp .ne 23, 3) := by decide +kernel
theorem d_Ru_doLine_53 : decode b_Ru_doLine 53 = .ok (.aload_n 0, 1) := by decide +kernel
theorem d_Ru_doLine_54 : decode b_Ru_doLine 54 = .ok (.aload_n 0, 1) := by decide +kernel
theorem d_Ru_doLine_55 : decode b_Ru_doLine 55 = .ok (.iload_n 2, 1) := by decide +kernel
theorem d_Ru_doLine_56 : decode b_Ru_doLine 56 = .ok (.invokevirtual 61, 3) := by decide +kernel
theorem d_Ru_doLine_59 : decode b_Ru_doLine 59 = .ok (.aload_n 0, 1) := by decide +kernel
theorem d_Ru_doLine_60 : decode b_Ru_doLine 60 = .ok (.getfield 18, 3) := by decide +kernel
theorem d_Ru_doLine_63 : decode b_Ru_doLine 63 = .ok (.iload_n 2, 1) := by decide +kernel
theorem d_Ru_doLine_64 : decode b_Ru_doLine 64 = .ok (.invokevirtual 65, 3) := by decide +kernel
theorem d_Ru_doLine_67 : decode b_Ru_doLine 67 = .ok (.invokevirtual 68, 3) := by decide +kernel
theorem d_Ru_doLine_70 : decode b_Ru_doLine 70 = .ok (.goto 123, 3) := by decide +kernel
theorem d_Ru_doLine_73 : decode b_Ru_doLine 73 = .ok (.iload_n 1, 1) := by decide +kernel
theorem d_Ru_doLine_74 : decode b_Ru_doLine 74 = .ok (.bipush 16, 2) := by decide +kernel
theorem d_Ru_doLine_76 : decode b_Ru_doLine 76 = .ok (.if_icmp .ne 15, 3) := by decide +kernel
theorem d_Ru_doLine_79 : decode b_Ru_doLine 79 = .ok (.aload_n 0, 1) := by decide +kernel
theorem d_Ru_doLine_80 : decode b_Ru_doLine 80 = .ok (.aload_n 0, 1) := by decide +kernel
theorem d_Ru_doLine_81 : decode b_Ru_doLine 81 = .ok (.iload_n 2, 1) := by decide +kernel
theorem d_Ru_doLine_82 : decode b_Ru_doLine 82 = .ok (.invokevirtual 72, 3) := by decide +kernel
theorem d_Ru_doLine_85 : decode b_Ru_doLine 85 = .ok (.invokevirtual 75, 3) := by decide +kernel
theorem d_Ru_doLine_88 : decode b_Ru_doLine 88 = .ok (.goto 105, 3) := by decide +kernel
theorem d_Ru_doLine_91 : decode b_Ru_doLine 91 = .ok (.iload_n 1, 1) := by decide +kernel
theorem d_Ru_doLine_92 : decode b_Ru_doLine 92 = .ok (.bipush 10, 2) := by decide +kernel
theorem d_Ru_doLine_94 : decode b_Ru_doLine 94 = .ok (.if_icmp .eq 9, 3) := by decide +kernel
theorem d_Ru_doLine_97 : decode b_Ru_doLine 97 = .ok (.iload_n 1, 1) := by decide +kernel
theorem d_Ru_doLine_98 : decode b_Ru_doLine 98 = .ok (.bipush 11, 2) := by decide +kernel
theorem d_Ru_doLine_100 : decode b_Ru_doLine 100 = .ok (.if_icmp .ne 35, 3) := by decide +kernel
theorem d_Ru_doLine_103 : decode b_Ru_doLine 103 = .ok (.aload_n 0, 1) := by decide +kernel
theorem d_Ru_doLine_104 : decode b_Ru_doLine 104 = .ok (.iload_n 1, 1) := by decide +kernel
theorem d_Ru_doLine_105 : decode b_Ru_doLine 105 = .ok (.iload_n 2, 1) := by decide +kernel
theorem d_Ru_doLine_106 : decode b_Ru_doLine 106 = .ok (.invokevirtual 79, 3) := by decide +kernel
theorem d_Ru_doLine_109 : decode b_Ru_doLine 109 = .ok (.ifCond .eq 21, 3) := by decide +kernel
theorem d_Ru_doLine_112 : decode b_Ru_doLine 112 = .ok (.aload_n 0, 1) := by decide +kernel
theorem d_Ru_doLine_113 : decode b_Ru_doLine 113 = .ok (.getfield 18, 3) := by decide +kernel
theorem d_Ru_doLine_116 : decode b_Ru_doLine 116 = .ok (.aload_n 0, 1) := by decide +kernel
theorem d_Ru_doLine_117 : decode b_Ru_doLine 117 = .ok (.getfield 32, 3) := by decide +kernel
theorem d_Ru_doLine_120 : decode b_Ru_doLine 120 = .ok (.aload_n 0, 1) := by decide +kernel
theorem d_Ru_doLine_121 : decode b_Ru_doLine 121 = .ok (.getfield 50, 3) := by decide +kernel
theorem d_Ru_doLine_124 : decode b_Ru_doLine 124 = .ok (.invokevirtual 83, 3) := by decide +kernel
theorem d_Ru_doLine_127 : decode b_Ru_doLine 127 = .ok (.goto 4, 3) := by decide +kernel
theorem d_Ru_doLine_130 : decode b_Ru_doLine 130 = .ok (.iload_n 3, 1) := by decide +kernel
theorem d_Ru_doLine_131 : decode b_Ru_doLine 131 = .ok (.istore_n 3, 1) := by decide +kernel
theorem d_Ru_doLine_132 : decode b_Ru_doLine 132 = .ok (.goto 61, 3) := by decide +kernel
theorem d_Ru_doLine_135 : decode b_Ru_doLine 135 = .ok (.iload_n 1, 1) := by decide +kernel
theorem d_Ru_doLine_136 : decode b_Ru_doLine 136 = .ok (.iconst 4, 1) := by decide +kernel
theorem d_Ru_doLine_137 : decode b_Ru_doLine 137 = .ok (.if_icmp .lt 18, 3) := by decide +kernel
theorem d_Ru_doLine_140 : decode b_Ru_doLine 140 = .ok (.iload_n 1, 1) := by decide +kernel
theorem d_Ru_doLine_141 : decode b_Ru_doLine 141 = .ok (.bipush 9, 2) := by decide +kernel
theorem d_Ru_doLine_143 : decode b_Ru_doLine 143 = .ok (.if_icmp .gt 12, 3) := by decide +kernel
theorem d_Ru_doLine_146 : decode b_Ru_doLine 146 = .ok (.aload_n 0, 1) := by decide +kernel
theorem d_Ru_doLine_147 : decode b_Ru_doLine 147 = .ok (.iload_n 1, 1) := by decide +kernel
theorem d_Ru_doLine_148 : decode b_Ru_doLine 148 = .ok (.iload_n 2, 1) := by decide +kernel
theorem d_Ru_doLine_149 : decode b_Ru_doLine 149 = .ok (.invokevirtual 87, 3) := by decide +kernel
theorem d_Ru_doLine_152 : decode b_Ru_doLine 152 = .ok (.goto 41, 3) := by decide +kernel
theorem d_Ru_doLine_155 : decode b_Ru_doLine 155 = .ok (.iload_n 1, 1) := by decide +kernel
theorem d_Ru_doLine_156 : decode b_Ru_doLine 156 = .ok (.bipush 12, 2) := by decide +kernel
theorem d_Ru_doLine_158 : decode b_Ru_doLine 158 = .ok (.if_icmp .ne 15, 3) := by decide +kernel
theorem d_Ru_doLine_161 : decode b_Ru_doLine 161 = .ok (.aload_n 0, 1) := by decide +kernel
theorem d_Ru_doLine_162 : decode b_Ru_doLine 162 = .ok (.aload_n 0, 1) := by decide +kernel
theorem d_Ru_doLine_163 : decode b_Ru_doLine 163 = .ok (.iload_n 2, 1) := by decide +kernel
theorem d_Ru_doLine_164 : decode b_Ru_doLine 164 = .ok (.invokevirtual 72, 3) := by decide +kernel
theorem d_Ru_doLine_167 : decode b_Ru_doLine 167 = .ok (.invokevirtual 90, 3) := by decide +kernel
theorem d_Ru_doLine_170 : decode b_Ru_doLine 170 = .ok (.goto 23, 3) := by decide +kernel
theorem d_Ru_doLine_173 : decode b_Ru_doLine 173 = .ok (.aload_n 0, 1) := by decide +kernel
theorem d_Ru_doLine_174 : decode b_Ru_doLine 174 = .ok (.getfield 9, 3) := by decide +kernel
theorem d_Ru_doLine_177 : decode b_Ru_doLine 177 = .ok (.aload_n 0, 1) := by decide +kernel
theorem d_Ru_doLine_178 : decode b_Ru_doLine 178 = .ok (.getfield 18, 3) := by decide +kernel
theorem d_Ru_doLine_181 : decode b_Ru_doLine 181 = .ok (.getfield 93, 3) := by decide +kernel
theorem d_Ru_doLine_184 : decode b_Ru_doLine 184 = .ok (.iload_n 2, 1) := by decide +kernel
theorem d_Ru_doLine_185 : decode b_Ru_doLine 185 = .ok (.iaload, 1) := by decide +kernel
theorem d_Ru_doLine_186 : decode b_Ru_doLine 186 = .ok (.aload_n 0, 1) := by decide +kernel
theorem d_Ru_doLine_187 : decode b_Ru_doLine 187 = .ok (.iload_n 1, 1) := by decide +kernel
theorem d_Ru_doLine_188 : decode b_Ru_doLine 188 = .ok (.iload_n 2, 1) := by decide +kernel
theorem d_Ru_doLine_189 : decode b_Ru_doLine 189 = .ok (.invokevirtual 96, 3) := by decide +kernel
theorem d_Ru_doLine_192 : decode b_Ru_doLine 192 = .ok (.iastore, 1) := by decide +kernel
theorem d_Ru_doLine_193 : decode b_Ru_doLine 193 = .ok (.aload_n 0, 1) := by decide +kernel
theorem d_Ru_doLine_194 : decode b_Ru_doLine 194 = .ok (.getfield 35, 3) := by decide +kernel
theorem d_Ru_doLine_197 : decode b_Ru_doLine 197 = .ok (.iconst 1, 1) := by decide +kernel
theorem d_Ru_doLine_198 : decode b_Ru_doLine 198 = .ok (.if_icmp .ne 8, 3) := by decide +kernel
theorem d_Ru_doLine_201 : decode b_Ru_doLine 201 = .ok (.aload_n 0, 1) := by decide +kernel
theorem d_Ru_doLine_202 : decode b_Ru_doLine 202 = .ok (.iload_n 3, 1) := by decide +kernel
theorem d_Ru_doLine_203 : decode b_Ru_doLine 203 = .ok (.invokevirtual 100, 3) := by decide +kernel
theorem d_Ru_doLine_206 : decode b_Ru_doLine 206 = .ok (.return_, 1) := by decide +kernel
theorem d_Ru_addressOf_0 : decode b_Ru_addressOf 0 = .ok (.aload_n 0, 1) := by decide +kernel
theorem d_Ru_addressOf_1 : decode b_Ru_addressOf 1 = .ok (.iload_n 1, 1) := by decide +kernel
theorem d_Ru_addressOf_2 : decode b_Ru_addressOf 2 = .ok (.invokevirtual 72, 3) := by decide +kernel
theorem d_Ru_addressOf_5 : decode b_Ru_addressOf 5 = .ok (.aload_n 0, 1) := by decide +kernel
theorem d_Ru_addressOf_6 : decode b_Ru_addressOf 6 = .ok (.getfield 18, 3) := by decide +kernel
theorem d_Ru_addressOf_9 : decode b_Ru_addressOf 9 = .ok (.getfield 109, 3) := by decide +kernel
theorem d_Ru_addressOf_12 : decode b_Ru_addressOf 12 = .ok (.iload_n 1, 1) := by decide +kernel
theorem d_Ru_addressOf_13 : decode b_Ru_addressOf 13 = .ok (.iaload, 1) := by decide +kernel
theorem d_Ru_addressOf_14 : decode b_Ru_addressOf 14 = .ok (.iadd, 1) := by decide +kernel
theorem d_Ru_addressOf_15 : decode b_Ru_addressOf 15 = .ok (.ireturn, 1) := by decide +kernel
theorem d_Ru_aOf_0 : decode b_Ru_aOf 0 = .ok (.aload_n 0, 1) := by decide +kernel
theorem d_Ru_aOf_1 : decode b_Ru_aOf 1 = .ok (.getfield 9, 3) := by decide +kernel
theorem d_Ru_aOf_4 : decode b_Ru_aOf 4 = .ok (.aload_n 0, 1) := by decide +kernel
theorem d_Ru_aOf_5 : decode b_Ru_aOf 5 = .ok (.getfield 18, 3) := by decide +kernel
theorem d_Ru_aOf_8 : decode b_Ru_aOf 8 = .ok (.getfield 150, 3) := by decide +kernel
theorem d_Ru_aOf_11 : decode b_Ru_aOf 11 = .ok (.iload_n 1, 1) := by decide +kernel
theorem d_Ru_aOf_12 : decode b_Ru_aOf 12 = .ok (.iaload, 1) := by decide +kernel
theorem d_Ru_aOf_13 : decode b_Ru_aOf 13 = .ok (.iaload, 1) := by decide +kernel
theorem d_Ru_aOf_14 : decode b_Ru_aOf 14 = .ok (.ireturn, 1) := by decide +kernel
theorem d_Pr_widthOf_0 : decode b_Pr_widthOf 0 = .ok (.aload_n 0, 1) := by decide +kernel
theorem d_Pr_widthOf_1 : decode b_Pr_widthOf 1 = .ok (.getfield 29, 3) := by decide +kernel
theorem d_Pr_widthOf_4 : decode b_Pr_widthOf 4 = .ok (.getfield 50, 3) := by decide +kernel
theorem d_Pr_widthOf_7 : decode b_Pr_widthOf 7 = .ok (.iload_n 1, 1) := by decide +kernel
theorem d_Pr_widthOf_8 : decode b_Pr_widthOf 8 = .ok (.iaload, 1) := by decide +kernel
theorem d_Pr_widthOf_9 : decode b_Pr_widthOf 9 = .ok (.istore_n 2, 1) := by decide +kernel
theorem d_Pr_widthOf_10 : decode b_Pr_widthOf 10 = .ok (.iload_n 2, 1) := by decide +kernel
theorem d_Pr_widthOf_11 : decode b_Pr_widthOf 11 = .ok (.bipush 6, 2) := by decide +kernel
theorem d_Pr_widthOf_13 : decode b_Pr_widthOf 13 = .ok (.if_icmp .eq 9, 3) := by decide +kernel
theorem d_Pr_widthOf_16 : decode b_Pr_widthOf 16 = .ok (.iload_n 2, 1) := by decide +kernel
theorem d_Pr_widthOf_17 : decode b_Pr_widthOf 17 = .ok (.bipush 8, 2) := by decide +kernel
theorem d_Pr_widthOf_19 : decode b_Pr_widthOf 19 = .ok (.if_icmp .ne 7, 3) := by decide +kernel
theorem d_Pr_widthOf_22 : decode b_Pr_widthOf 22 = .ok (.iconst 1, 1) := by decide +kernel
theorem d_Pr_widthOf_23 : decode b_Pr_widthOf 23 = .ok (.goto 4, 3) := by decide +kernel
theorem d_Pr_widthOf_26 : decode b_Pr_widthOf 26 = .ok (.iconst 4, 1) := by decide +kernel
theorem d_Pr_widthOf_27 : decode b_Pr_widthOf 27 = .ok (.ireturn, 1) := by decide +kernel
theorem d_Ru_checkBytes_0 : decode b_Ru_checkBytes 0 = .ok (.iconst 0, 1) := by decide +kernel
theorem d_Ru_checkBytes_1 : decode b_Ru_checkBytes 1 = .ok (.istore_n 3, 1) := by decide +kernel
theorem d_Ru_checkBytes_2 : decode b_Ru_checkBytes 2 = .ok (.iload_n 3, 1) := by decide +kernel
theorem d_Ru_checkBytes_3 : decode b_Ru_checkBytes 3 = .ok (.iload_n 2, 1) := by decide +kernel
theorem d_Ru_checkBytes_4 : decode b_Ru_checkBytes 4 = .ok (.if_icmp .ge 43, 3) := by decide +kernel
theorem d_Ru_checkBytes_7 : decode b_Ru_checkBytes 7 = .ok (.aload_n 0, 1) := by decide +kernel
theorem d_Ru_checkBytes_8 : decode b_Ru_checkBytes 8 = .ok (.getfield 35, 3) := by decide +kernel
theorem d_Ru_checkBytes_11 : decode b_Ru_checkBytes 11 = .ok (.iconst 1, 1) := by decide +kernel
theorem d_Ru_checkBytes_12 : decode b_Ru_checkBytes 12 = .ok (.if_icmp .ne 35, 3) := by decide +kernel
theorem d_Ru_checkBytes_15 : decode b_Ru_checkBytes 15 = .ok (.aload_n 0, 1) := by decide +kernel
theorem d_Ru_checkBytes_16 : decode b_Ru_checkBytes 16 = .ok (.getfield 22, 3) := by decide +kernel
theorem d_Ru_checkBytes_19 : decode b_Ru_checkBytes 19 = .ok (.iload_n 1, 1) := by decide +kernel
theorem d_Ru_checkBytes_20 : decode b_Ru_checkBytes 20 = .ok (.iload_n 3, 1) := by decide +kernel
theorem d_Ru_checkBytes_21 : decode b_Ru_checkBytes 21 = .ok (.iadd, 1) := by decide +kernel
theorem d_Ru_checkBytes_22 : decode b_Ru_checkBytes 22 = .ok (.invokevirtual 138, 3) := by decide +kernel
theorem d_Ru_checkBytes_25 : decode b_Ru_checkBytes 25 = .ok (.istore 4, 2) := by decide +kernel
theorem d_Ru_checkBytes_27 : decode b_Ru_checkBytes 27 = .ok (.iload 4, 2) := by decide +kernel
theorem d_Ru_checkBytes_29 : decode b_Ru_checkBytes 29 = .ok (.ifCond .eq 12, 3) := by decide +kernel
theorem d_Ru_checkBytes_32 : decode b_Ru_checkBytes 32 = .ok (.aload_n 0, 1) := by decide +kernel
theorem d_Ru_checkBytes_33 : decode b_Ru_checkBytes 33 = .ok (.iload 4, 2) := by decide +kernel
theorem d_Ru_checkBytes_35 : decode b_Ru_checkBytes 35 = .ok (.iload_n 1, 1) := by decide +kernel
