theorem d_S_shadow_1 : decode b_S_shadow 1 = .ok (.ifCond .lt 9, 3) := by decide +kernel
theorem d_S_shadow_4 : decode b_S_shadow 4 = .ok (.iload_n 1, 1) := by decide +kernel
theorem d_S_shadow_5 : decode b_S_shadow 5 = .ok (.bipush 64, 2) := by decide +kernel
theorem d_S_shadow_7 : decode b_S_shadow 7 = .ok (.if_icmp .lt 13, 3) := by decide +kernel
theorem d_S_shadow_10 : decode b_S_shadow 10 = .ok (.new 49, 3) := by decide +kernel
theorem d_S_shadow_13 : decode b_S_shadow 13 = .ok (.dup, 1) := by decide +kernel
theorem d_S_shadow_14 : decode b_S_shadow 14 = .ok (.ldc 141, 2) := by decide +kernel
theorem d_S_shadow_16 : decode b_S_shadow 16 = .ok (.invokespecial 53, 3) := by decide +kernel
theorem d_S_shadow_19 : decode b_S_shadow 19 = .ok (.athrow, 1) := by decide +kernel
theorem d_S_shadow_20 : decode b_S_shadow 20 = .ok (.aload_n 0, 1) := by decide +kernel
theorem d_S_shadow_21 : decode b_S_shadow 21 = .ok (.getfield 19, 3) := by decide +kernel
theorem d_S_shadow_24 : decode b_S_shadow 24 = .ok (.getfield 143, 3) := by decide +kernel
theorem d_S_shadow_27 : decode b_S_shadow 27 = .ok (.iload_n 1, 1) := by decide +kernel
theorem d_S_shadow_28 : decode b_S_shadow 28 = .ok (.iaload, 1) := by decide +kernel
theorem d_S_shadow_29 : decode b_S_shadow 29 = .ok (.ireturn, 1) := by decide +kernel
theorem d_La_report_0 : decode b_La_report 0 = .ok (.aload_n 2, 1) := by decide +kernel
theorem d_La_report_1 : decode b_La_report 1 = .ok (.iconst 0, 1) := by decide +kernel
theorem d_La_report_2 : decode b_La_report 2 = .ok (.aload_n 0, 1) := by decide +kernel
theorem d_La_report_3 : decode b_La_report 3 = .ok (.iload_n 1, 1) := by decide +kernel
theorem d_La_report_4 : decode b_La_report 4 = .ok (.invokevirtual 50, 3) := by decide +kernel
theorem d_La_report_7 : decode b_La_report 7 = .ok (.i2l, 1) := by decide +kernel
theorem d_La_report_8 : decode b_La_report 8 = .ok (.lastore, 1) := by decide +kernel
theorem d_La_report_9 : decode b_La_report 9 = .ok (.goto 9, 3) := by decide +kernel
theorem d_La_report_12 : decode b_La_report 12 = .ok (.astore_n 3, 1) := by decide +kernel
theorem d_La_report_13 : decode b_La_report 13 = .ok (.iconst 1, 1) := by decide +kernel
theorem d_La_report_14 : decode b_La_report 14 = .ok (.ireturn, 1) := by decide +kernel
theorem d_La_report_15 : decode b_La_report 15 = .ok (.astore_n 3, 1) := by decide +kernel
theorem d_La_report_16 : decode b_La_report 16 = .ok (.iconst 2, 1) := by decide +kernel
theorem d_La_report_17 : decode b_La_report 17 = .ok (.ireturn, 1) := by decide +kernel
theorem d_La_report_18 : decode b_La_report 18 = .ok (.iconst 0, 1) := by decide +kernel
theorem d_La_report_19 : decode b_La_report 19 = .ok (.ireturn, 1) := by decide +kernel
theorem d_S_report_0 : decode b_S_report 0 = .ok (.aload_n 0, 1) := by decide +kernel
theorem d_S_report_1 : decode b_S_report 1 = .ok (.getfield 28, 3) := by decide +kernel
theorem d_S_report_4 : decode b_S_report 4 = .ok (.getfield 100, 3) := by decide +kernel
theorem d_S_report_7 : decode b_S_report 7 = .ok (.iconst 3, 1) := by decide +kernel
theorem d_S_report_8 : decode b_S_report 8 = .ok (.if_icmp .eq 13, 3) := by decide +kernel
theorem d_S_report_11 : decode b_S_report 11 = .ok (.new 91, 3) := by decide +kernel
theorem d_S_report_14 : decode b_S_report 14 = .ok (.dup, 1) := by decide +kernel
theorem d_S_report_15 : decode b_S_report 15 = .ok (.ldc 146, 2) := by decide +kernel
theorem d_S_report_17 : decode b_S_report 17 = .ok (.invokespecial 95, 3) := by decide +kernel
theorem d_S_report_20 : decode b_S_report 20 = .ok (.athrow, 1) := by decide +kernel
theorem d_S_report_21 : decode b_S_report 21 = .ok (.iload_n 1, 1) := by decide +kernel
theorem d_S_report_22 : decode b_S_report 22 = .ok (.tableswitch 61 0 2 #[26, 34, 42], 26) := by decide +kernel
theorem d_S_report_48 : decode b_S_report 48 = .ok (.aload_n 0, 1) := by decide +kernel
theorem d_S_report_49 : decode b_S_report 49 = .ok (.getfield 28, 3) := by decide +kernel
theorem d_S_report_52 : decode b_S_report 52 = .ok (.getfield 148, 3) := by decide +kernel
theorem d_S_report_55 : decode b_S_report 55 = .ok (.ireturn, 1) := by decide +kernel
theorem d_S_report_56 : decode b_S_report 56 = .ok (.aload_n 0, 1) := by decide +kernel
theorem d_S_report_57 : decode b_S_report 57 = .ok (.getfield 28, 3) := by decide +kernel
theorem d_S_report_60 : decode b_S_report 60 = .ok (.getfield 151, 3) := by decide +kernel
theorem d_S_report_63 : decode b_S_report 63 = .ok (.ireturn, 1) := by decide +kernel
theorem d_S_report_64 : decode b_S_report 64 = .ok (.aload_n 0, 1) := by decide +kernel
theorem d_S_report_65 : decode b_S_report 65 = .ok (.getfield 28, 3) := by decide +kernel
theorem d_S_report_68 : decode b_S_report 68 = .ok (.getfield 154, 3) := by decide +kernel
theorem d_S_report_71 : decode b_S_report 71 = .ok (.getfield 82, 3) := by decide +kernel
theorem d_S_report_74 : decode b_S_report 74 = .ok (.aload_n 0, 1) := by decide +kernel
theorem d_S_report_75 : decode b_S_report 75 = .ok (.getfield 28, 3) := by decide +kernel
theorem d_S_report_78 : decode b_S_report 78 = .ok (.getfield 112, 3) := by decide +kernel
theorem d_S_report_81 : decode b_S_report 81 = .ok (.iaload, 1) := by decide +kernel
theorem d_S_report_82 : decode b_S_report 82 = .ok (.ireturn, 1) := by decide +kernel
theorem d_S_report_83 : decode b_S_report 83 = .ok (.new 32, 3) := by decide +kernel
theorem d_S_report_86 : decode b_S_report 86 = .ok (.dup, 1) := by decide +kernel
theorem d_S_report_87 : decode b_S_report 87 = .ok (.ldc 89, 2) := by decide +kernel
theorem d_S_report_89 : decode b_S_report 89 = .ok (.invokespecial 36, 3) := by decide +kernel
theorem d_S_report_92 : decode b_S_report 92 = .ok (.athrow, 1) := by decide +kernel
theorem d_Mo_init_0 : decode b_Mo_init 0 = .ok (.aload_n 0, 1) := by decide +kernel
theorem d_Mo_init_1 : decode b_Mo_init 1 = .ok (.invokespecial 1, 3) := by decide +kernel
theorem d_Mo_init_4 : decode b_Mo_init 4 = .ok (.aload_n 0, 1) := by decide +kernel
theorem d_Mo_init_5 : decode b_Mo_init 5 = .ok (.bipush 40, 2) := by decide +kernel
theorem d_Mo_init_7 : decode b_Mo_init 7 = .ok (.newarray .int, 2) := by decide +kernel
theorem d_Mo_init_9 : decode b_Mo_init 9 = .ok (.putfield 7, 3) := by decide +kernel
theorem d_Mo_init_12 : decode b_Mo_init 12 = .ok (.aload_n 0, 1) := by decide +kernel
theorem d_Mo_init_13 : decode b_Mo_init 13 = .ok (.bipush 40, 2) := by decide +kernel
theorem d_Mo_init_15 : decode b_Mo_init 15 = .ok (.newarray .int, 2) := by decide +kernel
theorem d_Mo_init_17 : decode b_Mo_init 17 = .ok (.putfield 13, 3) := by decide +kernel
theorem d_Mo_init_20 : decode b_Mo_init 20 = .ok (.aload_n 0, 1) := by decide +kernel
theorem d_Mo_init_21 : decode b_Mo_init 21 = .ok (.bipush 40, 2) := by decide +kernel
theorem d_Mo_init_23 : decode b_Mo_init 23 = .ok (.newarray .int, 2) := by decide +kernel
theorem d_Mo_init_25 : decode b_Mo_init 25 = .ok (.putfield 16, 3) := by decide +kernel
theorem d_Mo_init_28 : decode b_Mo_init 28 = .ok (.aload_n 0, 1) := by decide +kernel
theorem d_Mo_init_29 : decode b_Mo_init 29 = .ok (.bipush 40, 2) := by decide +kernel
theorem d_Mo_init_31 : decode b_Mo_init 31 = .ok (.newarray .int, 2) := by decide +kernel
theorem d_Mo_init_33 : decode b_Mo_init 33 = .ok (.putfield 19, 3) := by decide +kernel
theorem d_Mo_init_36 : decode b_Mo_init 36 = .ok (.aload_n 0, 1) := by decide +kernel
theorem d_Mo_init_37 : decode b_Mo_init 37 = .ok (.bipush 40, 2) := by decide +kernel
theorem d_Mo_init_39 : decode b_Mo_init 39 = .ok (.newarray .int, 2) := by decide +kernel
theorem d_Mo_init_41 : decode b_Mo_init 41 = .ok (.putfield 22, 3) := by decide +kernel
theorem d_Mo_init_44 : decode b_Mo_init 44 = .ok (.aload_n 0, 1) := by decide +kernel
theorem d_Mo_init_45 : decode b_Mo_init 45 = .ok (.sipush 512, 3) := by decide +kernel
theorem d_Mo_init_48 : decode b_Mo_init 48 = .ok (.newarray .int, 2) := by decide +kernel
theorem d_Mo_init_50 : decode b_Mo_init 50 = .ok (.putfield 25, 3) := by decide +kernel
theorem d_Mo_init_53 : decode b_Mo_init 53 = .ok (.aload_n 0, 1) := by decide +kernel
theorem d_Mo_init_54 : decode b_Mo_init 54 = .ok (.bipush 64, 2) := by decide +kernel
theorem d_Mo_init_56 : decode b_Mo_init 56 = .ok (.newarray .int, 2) := by decide +kernel
theorem d_Mo_init_58 : decode b_Mo_init 58 = .ok (.putfield 28, 3) := by decide +kernel
theorem d_Mo_init_61 : decode b_Mo_init 61 = .ok (.aload_n 0, 1) := by decide +kernel
theorem d_Mo_init_62 : decode b_Mo_init 62 = .ok (.bipush 64, 2) := by decide +kernel
theorem d_Mo_init_64 : decode b_Mo_init 64 = .ok (.newarray .int, 2) := by decide +kernel
theorem d_Mo_init_66 : decode b_Mo_init 66 = .ok (.putfield 31, 3) := by decide +kernel
theorem d_Mo_init_69 : decode b_Mo_init 69 = .ok (.aload_n 0, 1) := by decide +kernel
theorem d_Mo_init_70 : decode b_Mo_init 70 = .ok (.bipush 64, 2) := by decide +kernel
theorem d_Mo_init_72 : decode b_Mo_init 72 = .ok (.newarray .int, 2) := by decide +kernel
theorem d_Mo_init_74 : decode b_Mo_init 74 = .ok (.putfield 34, 3) := by decide +kernel
theorem d_Mo_init_77 : decode b_Mo_init 77 = .ok (.aload_n 0, 1) := by decide +kernel
theorem d_Mo_init_78 : decode b_Mo_init 78 = .ok (.bipush 32, 2) := by decide +kernel
theorem d_Mo_init_80 : decode b_Mo_init 80 = .ok (.newarray .int, 2) := by decide +kernel
theorem d_Mo_init_82 : decode b_Mo_init 82 = .ok (.putfield 37, 3) := by decide +kernel
theorem d_Mo_init_85 : decode b_Mo_init 85 = .ok (.aload_n 0, 1) := by decide +kernel
theorem d_Mo_init_86 : decode b_Mo_init 86 = .ok (.bipush 8, 2) := by decide +kernel
theorem d_Mo_init_88 : decode b_Mo_init 88 = .ok (.newarray .int, 2) := by decide +kernel
theorem d_Mo_init_90 : decode b_Mo_init 90 = .ok (.putfield 40, 3) := by decide +kernel
theorem d_Mo_init_93 : decode b_Mo_init 93 = .ok (.aload_n 0, 1) := by decide +kernel
theorem d_Mo_init_94 : decode b_Mo_init 94 = .ok (.bipush 60, 2) := by decide +kernel
theorem d_Mo_init_96 : decode b_Mo_init 96 = .ok (.newarray .int, 2) := by decide +kernel
theorem d_Mo_init_98 : decode b_Mo_init 98 = .ok (.putfield 43, 3) := by decide +kernel
theorem d_Mo_init_101 : decode b_Mo_init 101 = .ok (.aload_n 0, 1) := by decide +kernel
theorem d_Mo_init_102 : decode b_Mo_init 102 = .ok (.invokevirtual 46, 3) := by decide +kernel
theorem d_Mo_init_105 : decode b_Mo_init 105 = .ok (.return_, 1) := by decide +kernel
theorem d_Mo_empty_0 : decode b_Mo_empty 0 = .ok (.iconst 0, 1) := by decide +kernel
theorem d_Mo_empty_1 : decode b_Mo_empty 1 = .ok (.istore_n 1, 1) := by decide +kernel
theorem d_Mo_empty_2 : decode b_Mo_empty 2 = .ok (.iload_n 1, 1) := by decide +kernel
theorem d_Mo_empty_3 : decode b_Mo_empty 3 = .ok (.sipush 512, 3) := by decide +kernel
theorem d_Mo_empty_6 : decode b_Mo_empty 6 = .ok (.if_icmp .ge 16, 3) := by decide +kernel
theorem d_Mo_empty_9 : decode b_Mo_empty 9 = .ok (.aload_n 0, 1) := by decide +kernel
theorem d_Mo_empty_10 : decode b_Mo_empty 10 = .ok (.getfield 25, 3) := by decide +kernel
theorem d_Mo_empty_13 : decode b_Mo_empty 13 = .ok (.iload_n 1, 1) := by decide +kernel
theorem d_Mo_empty_14 : decode b_Mo_empty 14 = .ok (.iconst 0, 1) := by decide +kernel
theorem d_Mo_empty_15 : decode b_Mo_empty 15 = .ok (.iastore, 1) := by decide +kernel
theorem d_Mo_empty_16 : decode b_Mo_empty 16 = .ok (.iinc 1 1, 3) := by decide +kernel
theorem d_Mo_empty_19 : decode b_Mo_empty 19 = .ok (.goto (-17), 3) := by decide +kernel
theorem d_Mo_empty_22 : decode b_Mo_empty 22 = .ok (.iconst 0, 1) := by decide +kernel
theorem d_Mo_empty_23 : decode b_Mo_empty 23 = .ok (.istore_n 1, 1) := by decide +kernel
theorem d_Mo_empty_24 : decode b_Mo_empty 24 = .ok (.iload_n 1, 1) := by decide +kernel
theorem d_Mo_empty_25 : decode b_Mo_empty 25 = .ok (.bipush 64, 2) := by decide +kernel
theorem d_Mo_empty_27 : decode b_Mo_empty 27 = .ok (.if_icmp .ge 31, 3) := by decide +kernel
theorem d_Mo_empty_30 : decode b_Mo_empty 30 = .ok (.aload_n 0, 1) := by decide +kernel
theorem d_Mo_empty_31 : decode b_Mo_empty 31 = .ok (.getfield 28, 3) := by decide +kernel
theorem d_Mo_empty_34 : decode b_Mo_empty 34 = .ok (.iload_n 1, 1) := by decide +kernel
theorem d_Mo_empty_35 : decode b_Mo_empty 35 = .ok (.bipush (-3), 2) := by decide +kernel
theorem d_Mo_empty_37 : decode b_Mo_empty 37 = .ok (.iastore, 1) := by decide +kernel
theorem d_Mo_empty_38 : decode b_Mo_empty 38 = .ok (.aload_n 0, 1) := by decide +kernel
theorem d_Mo_empty_39 : decode b_Mo_empty 39 = .ok (.getfield 31, 3) := by decide +kernel
theorem d_Mo_empty_42 : decode b_Mo_empty 42 = .ok (.iload_n 1, 1) := by decide +kernel
theorem d_Mo_empty_43 : decode b_Mo_empty 43 = .ok (.iconst 0, 1) := by decide +kernel
theorem d_Mo_empty_44 : decode b_Mo_empty 44 = .ok (.iastore, 1) := by decide +kernel
theorem d_Mo_empty_45 : decode b_Mo_empty 45 = .ok (.aload_n 0, 1) := by decide +kernel
theorem d_Mo_empty_46 : decode b_Mo_empty 46 = .ok (.getfield 34, 3) := by decide +kernel
theorem d_Mo_empty_49 : decode b_Mo_empty 49 = .ok (.iload_n 1, 1) := by decide +kernel
theorem d_Mo_empty_50 : decode b_Mo_empty 50 = .ok (.iconst 0, 1) := by decide +kernel
theorem d_Mo_empty_51 : decode b_Mo_empty 51 = .ok (.iastore, 1) := by decide +kernel
theorem d_Mo_empty_52 : decode b_Mo_empty 52 = .ok (.iinc 1 1, 3) := by decide +kernel
theorem d_Mo_empty_55 : decode b_Mo_empty 55 = .ok (.goto (-31), 3) := by decide +kernel
theorem d_Mo_empty_58 : decode b_Mo_empty 58 = .ok (.aload_n 0, 1) := by decide +kernel
theorem d_Mo_empty_59 : decode b_Mo_empty 59 = .ok (.iconst 0, 1) := by decide +kernel
theorem d_Mo_empty_60 : decode b_Mo_empty 60 = .ok (.putfield 83, 3) := by decide +kernel
theorem d_Mo_empty_63 : decode b_Mo_empty 63 = .ok (.return_, 1) := by decide +kernel
theorem d_Mo_thrown_0 : decode b_Mo_thrown 0 = .ok (.aload_n 0, 1) := by decide +kernel
theorem d_Mo_thrown_1 : decode b_Mo_thrown 1 = .ok (.getfield 49, 3) := by decide +kernel
theorem d_Mo_thrown_4 : decode b_Mo_thrown 4 = .ok (.ireturn, 1) := by decide +kernel
theorem d_Mo_code_0 : decode b_Mo_code 0 = .ok (.aload_n 0, 1) := by decide +kernel
theorem d_Mo_code_1 : decode b_Mo_code 1 = .ok (.iconst 0, 1) := by decide +kernel
theorem d_Mo_code_2 : decode b_Mo_code 2 = .ok (.putfield 49, 3) := by decide +kernel
theorem d_Mo_code_5 : decode b_Mo_code 5 = .ok (.iload_n 1, 1) := by decide +kernel
theorem d_Mo_code_6 : decode b_Mo_code 6 = .ok (.ifCond .lt 31, 3) := by decide +kernel
theorem d_Mo_code_9 : decode b_Mo_code 9 = .ok (.iload_n 1, 1) := by decide +kernel
theorem d_Mo_code_10 : decode b_Mo_code 10 = .ok (.bipush 14, 2) := by decide +kernel
theorem d_Mo_code_12 : decode b_Mo_code 12 = .ok (.if_icmp .gt 25, 3) := by decide +kernel
theorem d_Mo_code_15 : decode b_Mo_code 15 = .ok (.iload_n 2, 1) := by decide +kernel
theorem d_Mo_code_16 : decode b_Mo_code 16 = .ok (.invokestatic 53, 3) := by decide +kernel
theorem d_Mo_code_19 : decode b_Mo_code 19 = .ok (.ifCond .eq 18, 3) := by decide +kernel
theorem d_Mo_code_22 : decode b_Mo_code 22 = .ok (.iload_n 3, 1) := by decide +kernel
theorem d_Mo_code_23 : decode b_Mo_code 23 = .ok (.invokestatic 53, 3) := by decide +kernel
theorem d_Mo_code_26 : decode b_Mo_code 26 = .ok (.ifCond .eq 11, 3) := by decide +kernel
theorem d_Mo_code_29 : decode b_Mo_code 29 = .ok (.iload 4, 2) := by decide +kernel
theorem d_Mo_code_31 : decode b_Mo_code 31 = .ok (.invokestatic 53, 3) := by decide +kernel
theorem d_Mo_code_34 : decode b_Mo_code 34 = .ok (.ifCond .ne 9, 3) := by decide +kernel
theorem d_Mo_code_37 : decode b_Mo_code 37 = .ok (.aload_n 0, 1) := by decide +kernel
theorem d_Mo_code_38 : decode b_Mo_code 38 = .ok (.iconst 1, 1) := by decide +kernel
theorem d_Mo_code_39 : decode b_Mo_code 39 = .ok (.invokevirtual 57, 3) := by decide +kernel
theorem d_Mo_code_42 : decode b_Mo_code 42 = .ok (.ireturn, 1) := by decide +kernel
theorem d_Mo_code_43 : decode b_Mo_code 43 = .ok (.aload_n 0, 1) := by decide +kernel
theorem d_Mo_code_44 : decode b_Mo_code 44 = .ok (.getfield 61, 3) := by decide +kernel
theorem d_Mo_code_47 : decode b_Mo_code 47 = .ok (.bipush 40, 2) := by decide +kernel
theorem d_Mo_code_49 : decode b_Mo_code 49 = .ok (.if_icmp .ne 9, 3) := by decide +kernel
theorem d_Mo_code_52 : decode b_Mo_code 52 = .ok (.aload_n 0, 1) := by decide +kernel
theorem d_Mo_code_53 : decode b_Mo_code 53 = .ok (.iconst 2, 1) := by decide +kernel
theorem d_Mo_code_54 : decode b_Mo_code 54 = .ok (.invokevirtual 57, 3) := by decide +kernel
theorem d_Mo_code_57 : decode b_Mo_code 57 = .ok (.ireturn, 1) := by decide +kernel
theorem d_Mo_code_58 : decode b_Mo_code 58 = .ok (.aload_n 0, 1) := by decide +kernel
theorem d_Mo_code_59 : decode b_Mo_code 59 = .ok (.getfield 7, 3) := by decide +kernel
theorem d_Mo_code_62 : decode b_Mo_code 62 = .ok (.aload_n 0, 1) := by decide +kernel
theorem d_Mo_code_63 : decode b_Mo_code 63 = .ok (.getfield 61, 3) := by decide +kernel
theorem d_Mo_code_66 : decode b_Mo_code 66 = .ok (.iload_n 1, 1) := by decide +kernel
theorem d_Mo_code_67 : decode b_Mo_code 67 = .ok (.iastore, 1) := by decide +kernel
theorem d_Mo_code_68 : decode b_Mo_code 68 = .ok (.aload_n 0, 1) := by decide +kernel
theorem d_Mo_code_69 : decode b_Mo_code 69 = .ok (.getfield 13, 3) := by decide +kernel
theorem d_Mo_code_72 : decode b_Mo_code 72 = .ok (.aload_n 0, 1) := by decide +kernel
theorem d_Mo_code_73 : decode b_Mo_code 73 = .ok (.getfield 61, 3) := by decide +kernel
theorem d_Mo_code_76 : decode b_Mo_code 76 = .ok (.iload_n 2, 1) := by decide +kernel
theorem d_Mo_code_77 : decode b_Mo_code 77 = .ok (.iastore, 1) := by decide +kernel
theorem d_Mo_code_78 : decode b_Mo_code 78 = .ok (.aload_n 0, 1) := by decide +kernel
theorem d_Mo_code_79 : decode b_Mo_code 79 = .ok (.getfield 16, 3) := by decide +kernel
theorem d_Mo_code_82 : decode b_Mo_code 82 = .ok (.aload_n 0, 1) := by decide +kernel
theorem d_Mo_code_83 : decode b_Mo_code 83 = .ok (.getfield 61, 3) := by decide +kernel
theorem d_Mo_code_86 : decode b_Mo_code 86 = .ok (.iload_n 3, 1) := by decide +kernel
theorem d_Mo_code_87 : decode b_Mo_code 87 = .ok (.iastore, 1) := by decide +kernel
theorem d_Mo_code_88 : decode b_Mo_code 88 = .ok (.aload_n 0, 1) := by decide +kernel
theorem d_Mo_code_89 : decode b_Mo_code 89 = .ok (.getfield 19, 3) := by decide +kernel
theorem d_Mo_code_92 : decode b_Mo_code 92 = .ok (.aload_n 0, 1) := by decide +kernel
theorem d_Mo_code_93 : decode b_Mo_code 93 = .ok (.getfield 61, 3) := by decide +kernel
theorem d_Mo_code_96 : decode b_Mo_code 96 = .ok (.iload 4, 2) := by decide +kernel
theorem d_Mo_code_98 : decode b_Mo_code 98 = .ok (.iastore, 1) := by decide +kernel
theorem d_Mo_code_99 : decode b_Mo_code 99 = .ok (.aload_n 0, 1) := by decide +kernel
theorem d_Mo_code_100 : decode b_Mo_code 100 = .ok (.getfield 22, 3) := by decide +kernel
theorem d_Mo_code_103 : decode b_Mo_code 103 = .ok (.aload_n 0, 1) := by decide +kernel
theorem d_Mo_code_104 : decode b_Mo_code 104 = .ok (.getfield 61, 3) := by decide +kernel
theorem d_Mo_code_107 : decode b_Mo_code 107 = .ok (.iload 5, 2) := by decide +kernel
theorem d_Mo_code_109 : decode b_Mo_code 109 = .ok (.iastore, 1) := by decide +kernel
theorem d_Mo_code_110 : decode b_Mo_code 110 = .ok (.aload_n 0, 1) := by decide +kernel
theorem d_Mo_code_111 : decode b_Mo_code 111 = .ok (.dup, 1) := by decide +kernel
theorem d_Mo_code_112 : decode b_Mo_code 112 = .ok (.getfield 61, 3) := by decide +kernel
theorem d_Mo_code_115 : decode b_Mo_code 115 = .ok (.iconst 1, 1) := by decide +kernel
theorem d_Mo_code_116 : decode b_Mo_code 116 = .ok (.iadd, 1) := by decide +kernel
theorem d_Mo_code_117 : decode b_Mo_code 117 = .ok (.putfield 61, 3) := by decide +kernel
theorem d_Mo_code_120 : decode b_Mo_code 120 = .ok (.aload_n 0, 1) := by decide +kernel
theorem d_Mo_code_121 : decode b_Mo_code 121 = .ok (.iconst 0, 1) := by decide +kernel
theorem d_Mo_code_122 : decode b_Mo_code 122 = .ok (.putfield 64, 3) := by decide +kernel
theorem d_Mo_code_125 : decode b_Mo_code 125 = .ok (.aload_n 0, 1) := by decide +kernel
theorem d_Mo_code_126 : decode b_Mo_code 126 = .ok (.getfield 61, 3) := by decide +kernel
theorem d_Mo_code_129 : decode b_Mo_code 129 = .ok (.iconst 1, 1) := by decide +kernel
theorem d_Mo_code_130 : decode b_Mo_code 130 = .ok (.isub, 1) := by decide +kernel
theorem d_Mo_code_131 : decode b_Mo_code 131 = .ok (.ireturn, 1) := by decide +kernel
theorem d_Mo_isRegister_0 : decode b_Mo_isRegister 0 = .ok (.iload_n 0, 1) := by decide +kernel
theorem d_Mo_isRegister_1 : decode b_Mo_isRegister 1 = .ok (.ifCond .lt 13, 3) := by decide +kernel
theorem d_Mo_isRegister_4 : decode b_Mo_isRegister 4 = .ok (.iload_n 0, 1) := by decide +kernel
theorem d_Mo_isRegister_5 : decode b_Mo_isRegister 5 = .ok (.bipush 8, 2) := by decide +kernel
theorem d_Mo_isRegister_7 : decode b_Mo_isRegister 7 = .ok (.if_icmp .ge 7, 3) := by decide +kernel
theorem d_Mo_isRegister_10 : decode b_Mo_isRegister 10 = .ok (.iconst 1, 1) := by decide +kernel
theorem d_Mo_isRegister_11 : decode b_Mo_isRegister 11 = .ok (.goto 4, 3) := by decide +kernel
theorem d_Mo_isRegister_14 : decode b_Mo_isRegister 14 = .ok (.iconst 0, 1) := by decide +kernel
theorem d_Mo_isRegister_15 : decode b_Mo_isRegister 15 = .ok (.ireturn, 1) := by decide +kernel
theorem d_Mo_refuse_0 : decode b_Mo_refuse 0 = .ok (.aload_n 0, 1) := by decide +kernel
theorem d_Mo_refuse_1 : decode b_Mo_refuse 1 = .ok (.iload_n 1, 1) := by decide +kernel
theorem d_Mo_refuse_2 : decode b_Mo_refuse 2 = .ok (.putfield 49, 3) := by decide +kernel
theorem d_Mo_refuse_5 : decode b_Mo_refuse 5 = .ok (.iconst 0, 1) := by decide +kernel
theorem d_Mo_refuse_6 : decode b_Mo_refuse 6 = .ok (.ireturn, 1) := by decide +kernel
theorem d_Mo_clear_0 : decode b_Mo_clear 0 = .ok (.aload_n 0, 1) := by decide +kernel
theorem d_Mo_clear_1 : decode b_Mo_clear 1 = .ok (.iconst 0, 1) := by decide +kernel
theorem d_Mo_clear_2 : decode b_Mo_clear 2 = .ok (.putfield 49, 3) := by decide +kernel
theorem d_Mo_clear_5 : decode b_Mo_clear 5 = .ok (.aload_n 0, 1) := by decide +kernel
theorem d_Mo_clear_6 : decode b_Mo_clear 6 = .ok (.iconst 0, 1) := by decide +kernel
theorem d_Mo_clear_7 : decode b_Mo_clear 7 = .ok (.putfield 61, 3) := by decide +kernel
theorem d_Mo_clear_10 : decode b_Mo_clear 10 = .ok (.aload_n 0, 1) := by decide +kernel
theorem d_Mo_clear_11 : decode b_Mo_clear 11 = .ok (.iconst 0, 1) := by decide +kernel
theorem d_Mo_clear_12 : decode b_Mo_clear 12 = .ok (.putfield 64, 3) := by decide +kernel
theorem d_Mo_clear_15 : decode b_Mo_clear 15 = .ok (.return_, 1) := by decide +kernel
theorem d_Mo_rewrite_0 : decode b_Mo_rewrite 0 = .ok (.aload_n 0, 1) := by decide +kernel
theorem d_Mo_rewrite_1 : decode b_Mo_rewrite 1 = .ok (.aload_n 0, 1) := by decide +kernel
theorem d_Mo_rewrite_2 : decode b_Mo_rewrite 2 = .ok (.invokevirtual 76, 3) := by decide +kernel
theorem d_Mo_rewrite_5 : decode b_Mo_rewrite 5 = .ok (.ifCond .eq 7, 3) := by decide +kernel
theorem d_Mo_rewrite_8 : decode b_Mo_rewrite 8 = .ok (.iconst 0, 1) := by decide +kernel
theorem d_Mo_rewrite_9 : decode b_Mo_rewrite 9 = .ok (.goto 4, 3) := by decide +kernel
theorem d_Mo_rewrite_12 : decode b_Mo_rewrite 12 = .ok (.iconst 1, 1) := by decide +kernel
theorem d_Mo_rewrite_13 : decode b_Mo_rewrite 13 = .ok (.putfield 49, 3) := by decide +kernel
theorem d_Mo_rewrite_16 : decode b_Mo_rewrite 16 = .ok (.aload_n 0, 1) := by decide +kernel
theorem d_Mo_rewrite_17 : decode b_Mo_rewrite 17 = .ok (.getfield 49, 3) := by decide +kernel
theorem d_Mo_rewrite_20 : decode b_Mo_rewrite 20 = .ok (.ifCond .le 7, 3) := by decide +kernel
theorem d_Mo_rewrite_23 : decode b_Mo_rewrite 23 = .ok (.iconst 0, 1) := by decide +kernel
theorem d_Mo_rewrite_24 : decode b_Mo_rewrite 24 = .ok (.goto 11, 3) := by decide +kernel
theorem d_Mo_rewrite_27 : decode b_Mo_rewrite 27 = .ok (.aload_n 0, 1) := by decide +kernel
theorem d_Mo_rewrite_28 : decode b_Mo_rewrite 28 = .ok (.aload_n 0, 1) := by decide +kernel
theorem d_Mo_rewrite_29 : decode b_Mo_rewrite 29 = .ok (.getfield 61, 3) := by decide +kernel
theorem d_Mo_rewrite_32 : decode b_Mo_rewrite 32 = .ok (.invokevirtual 70, 3) := by decide +kernel
theorem d_Mo_rewrite_35 : decode b_Mo_rewrite 35 = .ok (.ireturn, 1) := by decide +kernel
theorem d_Mo_isSound_0 : decode b_Mo_isSound 0 = .ok (.iconst 1, 1) := by decide +kernel
theorem d_Mo_isSound_1 : decode b_Mo_isSound 1 = .ok (.istore_n 1, 1) := by decide +kernel
theorem d_Mo_isSound_2 : decode b_Mo_isSound 2 = .ok (.iconst 0, 1) := by decide +kernel
theorem d_Mo_isSound_3 : decode b_Mo_isSound 3 = .ok (.istore_n 2, 1) := by decide +kernel
theorem d_Mo_isSound_4 : decode b_Mo_isSound 4 = .ok (.iload_n 2, 1) := by decide +kernel
theorem d_Mo_isSound_5 : decode b_Mo_isSound 5 = .ok (.aload_n 0, 1) := by decide +kernel
theorem d_Mo_isSound_6 : decode b_Mo_isSound 6 = .ok (.getfield 61, 3) := by decide +kernel
theorem d_Mo_isSound_9 : decode b_Mo_isSound 9 = .ok (.if_icmp .ge 63, 3) := by decide +kernel
theorem d_Mo_isSound_12 : decode b_Mo_isSound 12 = .ok (.iload_n 1, 1) := by decide +kernel
theorem d_Mo_isSound_13 : decode b_Mo_isSound 13 = .ok (.ifCond .eq 51, 3) := by decide +kernel
theorem d_Mo_isSound_16 : decode b_Mo_isSound 16 = .ok (.aload_n 0, 1) := by decide +kernel
theorem d_Mo_isSound_17 : decode b_Mo_isSound 17 = .ok (.getfield 7, 3) := by decide +kernel
theorem d_Mo_isSound_20 : decode b_Mo_isSound 20 = .ok (.iload_n 2, 1) := by decide +kernel
theorem d_Mo_isSound_21 : decode b_Mo_isSound 21 = .ok (.iaload, 1) := by decide +kernel
theorem d_Mo_isSound_22 : decode b_Mo_isSound 22 = .ok (.bipush 10, 2) := by decide +kernel
theorem d_Mo_isSound_24 : decode b_Mo_isSound 24 = .ok (.if_icmp .eq 14, 3) := by decide +kernel
theorem d_Mo_isSound_27 : decode b_Mo_isSound 27 = .ok (.aload_n 0, 1) := by decide +kernel
theorem d_Mo_isSound_28 : decode b_Mo_isSound 28 = .ok (.getfield 7, 3) := by decide +kernel
theorem d_Mo_isSound_31 : decode b_Mo_isSound 31 = .ok (.iload_n 2, 1) := by decide +kernel
theorem d_Mo_isSound_32 : decode b_Mo_isSound 32 = .ok (.iaload, 1) := by decide +kernel
theorem d_Mo_isSound_33 : decode b_Mo_isSound 33 = .ok (.bipush 11, 2) := by decide +kernel
theorem d_Mo_isSound_35 : decode b_Mo_isSound 35 = .ok (.if_icmp .ne 25, 3) := by decide +kernel
theorem d_Mo_isSound_38 : decode b_Mo_isSound 38 = .ok (.aload_n 0, 1) := by decide +kernel
theorem d_Mo_isSound_39 : decode b_Mo_isSound 39 = .ok (.getfield 22, 3) := by decide +kernel
theorem d_Mo_isSound_42 : decode b_Mo_isSound 42 = .ok (.iload_n 2, 1) := by decide +kernel
theorem d_Mo_isSound_43 : decode b_Mo_isSound 43 = .ok (.iaload, 1) := by decide +kernel
theorem d_Mo_isSound_44 : decode b_Mo_isSound 44 = .ok (.ifCond .lt 20, 3) := by decide +kernel
theorem d_Mo_isSound_47 : decode b_Mo_isSound 47 = .ok (.aload_n 0, 1) := by decide +kernel
theorem d_Mo_isSound_48 : decode b_Mo_isSound 48 = .ok (.getfield 22, 3) := by decide +kernel
theorem d_Mo_isSound_51 : decode b_Mo_isSound 51 = .ok (.iload_n 2, 1) := by decide +kernel
theorem d_Mo_isSound_52 : decode b_Mo_isSound 52 = .ok (.iaload, 1) := by decide +kernel
theorem d_Mo_isSound_53 : decode b_Mo_isSound 53 = .ok (.aload_n 0, 1) := by decide +kernel
theorem d_Mo_isSound_54 : decode b_Mo_isSound 54 = .ok (.getfield 61, 3) := by decide +kernel
theorem d_Mo_isSound_57 : decode b_Mo_isSound 57 = .ok (.if_icmp .ge 7, 3) := by decide +kernel
theorem d_Mo_isSound_60 : decode b_Mo_isSound 60 = .ok (.iconst 1, 1) := by decide +kernel
theorem d_Mo_isSound_61 : decode b_Mo_isSound 61 = .ok (.goto 4, 3) := by decide +kernel
theorem d_Mo_isSound_64 : decode b_Mo_isSound 64 = .ok (.iconst 0, 1) := by decide +kernel
theorem d_Mo_isSound_65 : decode b_Mo_isSound 65 = .ok (.istore_n 1, 1) := by decide +kernel
theorem d_Mo_isSound_66 : decode b_Mo_isSound 66 = .ok (.iinc 2 1, 3) := by decide +kernel
theorem d_Mo_isSound_69 : decode b_Mo_isSound 69 = .ok (.goto (-65), 3) := by decide +kernel
theorem d_Mo_isSound_72 : decode b_Mo_isSound 72 = .ok (.iload_n 1, 1) := by decide +kernel
theorem d_Mo_isSound_73 : decode b_Mo_isSound 73 = .ok (.ireturn, 1) := by decide +kernel
theorem d_Mo_place_0 : decode b_Mo_place 0 = .ok (.iload_n 1, 1) := by decide +kernel
theorem d_Mo_place_1 : decode b_Mo_place 1 = .ok (.istore_n 2, 1) := by decide +kernel
theorem d_Mo_place_2 : decode b_Mo_place 2 = .ok (.iconst 0, 1) := by decide +kernel
theorem d_Mo_place_3 : decode b_Mo_place 3 = .ok (.istore_n 3, 1) := by decide +kernel
theorem d_Mo_place_4 : decode b_Mo_place 4 = .ok (.iload_n 3, 1) := by decide +kernel
theorem d_Mo_place_5 : decode b_Mo_place 5 = .ok (.iload_n 1, 1) := by decide +kernel
theorem d_Mo_place_6 : decode b_Mo_place 6 = .ok (.if_icmp .ge 25, 3) := by decide +kernel
theorem d_Mo_place_9 : decode b_Mo_place 9 = .ok (.iload_n 2, 1) := by decide +kernel
theorem d_Mo_place_10 : decode b_Mo_place 10 = .ok (.aload_n 0, 1) := by decide +kernel
theorem d_Mo_place_11 : decode b_Mo_place 11 = .ok (.iload_n 3, 1) := by decide +kernel
theorem d_Mo_place_12 : decode b_Mo_place 12 = .ok (.invokevirtual 67, 3) := by decide +kernel
theorem d_Mo_place_15 : decode b_Mo_place 15 = .ok (.ifCond .eq 7, 3) := by decide +kernel
theorem d_Mo_place_18 : decode b_Mo_place 18 = .ok (.iconst 1, 1) := by decide +kernel
theorem d_Mo_place_19 : decode b_Mo_place 19 = .ok (.goto 4, 3) := by decide +kernel
theorem d_Mo_place_22 : decode b_Mo_place 22 = .ok (.iconst 0, 1) := by decide +kernel
theorem d_Mo_place_23 : decode b_Mo_place 23 = .ok (.iadd, 1) := by decide +kernel
theorem d_Mo_place_24 : decode b_Mo_place 24 = .ok (.istore_n 2, 1) := by decide +kernel
theorem d_Mo_place_25 : decode b_Mo_place 25 = .ok (.iinc 3 1, 3) := by decide +kernel
theorem d_Mo_place_28 : decode b_Mo_place 28 = .ok (.goto (-24), 3) := by decide +kernel
theorem d_Mo_place_31 : decode b_Mo_place 31 = .ok (.iload_n 2, 1) := by decide +kernel
theorem d_Mo_place_32 : decode b_Mo_place 32 = .ok (.ireturn, 1) := by decide +kernel
theorem d_Mo_isChecked_0 : decode b_Mo_isChecked 0 = .ok (.aload_n 0, 1) := by decide +kernel
theorem d_Mo_isChecked_1 : decode b_Mo_isChecked 1 = .ok (.getfield 7, 3) := by decide +kernel
theorem d_Mo_isChecked_4 : decode b_Mo_isChecked 4 = .ok (.iload_n 1, 1) := by decide +kernel
theorem d_Mo_isChecked_5 : decode b_Mo_isChecked 5 = .ok (.iaload, 1) := by decide +kernel
theorem d_Mo_isChecked_6 : decode b_Mo_isChecked 6 = .ok (.iconst 4, 1) := by decide +kernel
theorem d_Mo_isChecked_7 : decode b_Mo_isChecked 7 = .ok (.if_icmp .le 18, 3) := by decide +kernel
theorem d_Mo_isChecked_10 : decode b_Mo_isChecked 10 = .ok (.aload_n 0, 1) := by decide +kernel
theorem d_Mo_isChecked_11 : decode b_Mo_isChecked 11 = .ok (.getfield 7, 3) := by decide +kernel
theorem d_Mo_isChecked_14 : decode b_Mo_isChecked 14 = .ok (.iload_n 1, 1) := by decide +kernel
theorem d_Mo_isChecked_15 : decode b_Mo_isChecked 15 = .ok (.iaload, 1) := by decide +kernel
theorem d_Mo_isChecked_16 : decode b_Mo_isChecked 16 = .ok (.bipush 10, 2) := by decide +kernel
theorem d_Mo_isChecked_18 : decode b_Mo_isChecked 18 = .ok (.if_icmp .ge 7, 3) := by decide +kernel
theorem d_Mo_isChecked_21 : decode b_Mo_isChecked 21 = .ok (.iconst 1, 1) := by decide +kernel
theorem d_Mo_isChecked_22 : decode b_Mo_isChecked 22 = .ok (.goto 4, 3) := by decide +kernel
theorem d_Mo_isChecked_25 : decode b_Mo_isChecked 25 = .ok (.iconst 0, 1) := by decide +kernel
theorem d_Mo_isChecked_26 : decode b_Mo_isChecked 26 = .ok (.ireturn, 1) := by decide +kernel
theorem d_Mo_rewritten_0 : decode b_Mo_rewritten 0 = .ok (.aload_n 0, 1) := by decide +kernel
theorem d_Mo_rewritten_1 : decode b_Mo_rewritten 1 = .ok (.aload_n 0, 1) := by decide +kernel
theorem d_Mo_rewritten_2 : decode b_Mo_rewritten 2 = .ok (.invokevirtual 76, 3) := by decide +kernel
theorem d_Mo_rewritten_5 : decode b_Mo_rewritten 5 = .ok (.ifCond .ne 7, 3) := by decide +kernel
theorem d_Mo_rewritten_8 : decode b_Mo_rewritten 8 = .ok (.iconst 1, 1) := by decide +kernel
theorem d_Mo_rewritten_9 : decode b_Mo_rewritten 9 = .ok (.goto 37, 3) := by decide +kernel
theorem d_Mo_rewritten_12 : decode b_Mo_rewritten 12 = .ok (.iload_n 1, 1) := by decide +kernel
theorem d_Mo_rewritten_13 : decode b_Mo_rewritten 13 = .ok (.ifCond .lt 15, 3) := by decide +kernel
theorem d_Mo_rewritten_16 : decode b_Mo_rewritten 16 = .ok (.iload_n 1, 1) := by decide +kernel
theorem d_Mo_rewritten_17 : decode b_Mo_rewritten 17 = .ok (.aload_n 0, 1) := by decide +kernel
theorem d_Mo_rewritten_18 : decode b_Mo_rewritten 18 = .ok (.aload_n 0, 1) := by decide +kernel
theorem d_Mo_rewritten_19 : decode b_Mo_rewritten 19 = .ok (.getfield 61, 3) := by decide +kernel
theorem d_Mo_rewritten_22 : decode b_Mo_rewritten 22 = .ok (.invokevirtual 70, 3) := by decide +kernel
theorem d_Mo_rewritten_25 : decode b_Mo_rewritten 25 = .ok (.if_icmp .lt 7, 3) := by decide +kernel
theorem d_Mo_rewritten_28 : decode b_Mo_rewritten 28 = .ok (.iconst 2, 1) := by decide +kernel
theorem d_Mo_rewritten_29 : decode b_Mo_rewritten 29 = .ok (.goto 17, 3) := by decide +kernel
theorem d_Mo_rewritten_32 : decode b_Mo_rewritten 32 = .ok (.iload_n 2, 1) := by decide +kernel
theorem d_Mo_rewritten_33 : decode b_Mo_rewritten 33 = .ok (.ifCond .lt 8, 3) := by decide +kernel
theorem d_Mo_rewritten_36 : decode b_Mo_rewritten 36 = .ok (.iload_n 2, 1) := by decide +kernel
theorem d_Mo_rewritten_37 : decode b_Mo_rewritten 37 = .ok (.iconst 2, 1) := by decide +kernel
theorem d_Mo_rewritten_38 : decode b_Mo_rewritten 38 = .ok (.if_icmp .le 7, 3) := by decide +kernel
theorem d_Mo_rewritten_41 : decode b_Mo_rewritten 41 = .ok (.iconst 3, 1) := by decide +kernel
theorem d_Mo_rewritten_42 : decode b_Mo_rewritten 42 = .ok (.goto 4, 3) := by decide +kernel
theorem d_Mo_rewritten_45 : decode b_Mo_rewritten 45 = .ok (.iconst 0, 1) := by decide +kernel
theorem d_Mo_rewritten_46 : decode b_Mo_rewritten 46 = .ok (.putfield 49, 3) := by decide +kernel
theorem d_Mo_rewritten_49 : decode b_Mo_rewritten 49 = .ok (.aload_n 0, 1) := by decide +kernel
theorem d_Mo_rewritten_50 : decode b_Mo_rewritten 50 = .ok (.getfield 49, 3) := by decide +kernel
theorem d_Mo_rewritten_53 : decode b_Mo_rewritten 53 = .ok (.ifCond .le 5, 3) := by decide +kernel
theorem d_Mo_rewritten_56 : decode b_Mo_rewritten 56 = .ok (.iconst 0, 1) := by decide +kernel
theorem d_Mo_rewritten_57 : decode b_Mo_rewritten 57 = .ok (.ireturn, 1) := by decide +kernel
theorem d_Mo_rewritten_58 : decode b_Mo_rewritten 58 = .ok (.aload_n 0, 1) := by decide +kernel
theorem d_Mo_rewritten_59 : decode b_Mo_rewritten 59 = .ok (.iload_n 1, 1) := by decide +kernel
theorem d_Mo_rewritten_60 : decode b_Mo_rewritten 60 = .ok (.invokevirtual 73, 3) := by decide +kernel
theorem d_Mo_rewritten_63 : decode b_Mo_rewritten 63 = .ok (.istore_n 3, 1) := by decide +kernel
theorem d_Mo_rewritten_64 : decode b_Mo_rewritten 64 = .ok (.aload_n 0, 1) := by decide +kernel
theorem d_Mo_rewritten_65 : decode b_Mo_rewritten 65 = .ok (.getfield 7, 3) := by decide +kernel
theorem d_Mo_rewritten_68 : decode b_Mo_rewritten 68 = .ok (.iload_n 3, 1) := by decide +kernel
theorem d_Mo_rewritten_69 : decode b_Mo_rewritten 69 = .ok (.iaload, 1) := by decide +kernel
theorem d_Mo_rewritten_70 : decode b_Mo_rewritten 70 = .ok (.istore 4, 2) := by decide +kernel
theorem d_Mo_rewritten_72 : decode b_Mo_rewritten 72 = .ok (.iload_n 2, 1) := by decide +kernel
theorem d_Mo_rewritten_73 : decode b_Mo_rewritten 73 = .ok (.iconst 1, 1) := by decide +kernel
theorem d_Mo_rewritten_74 : decode b_Mo_rewritten 74 = .ok (.if_icmp .ne 5, 3) := by decide +kernel
theorem d_Mo_rewritten_77 : decode b_Mo_rewritten 77 = .ok (.iload_n 3, 1) := by decide +kernel
theorem d_Mo_rewritten_78 : decode b_Mo_rewritten 78 = .ok (.ireturn, 1) := by decide +kernel
theorem d_Mo_rewritten_79 : decode b_Mo_rewritten 79 = .ok (.iload_n 2, 1) := by decide +kernel
theorem d_Mo_rewritten_80 : decode b_Mo_rewritten 80 = .ok (.ifCond .ne 30, 3) := by decide +kernel
theorem d_Mo_rewritten_83 : decode b_Mo_rewritten 83 = .ok (.aload_n 0, 1) := by decide +kernel
