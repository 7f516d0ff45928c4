theorem d_S_init_0 : decode b_S_init 0 = .ok (.aload_n 0, 1) := by decide +kernel
theorem d_S_init_1 : decode b_S_init 1 = .ok (.invokespecial 1, 3) := by decide +kernel
theorem d_S_init_4 : decode b_S_init 4 = .ok (.aload_n 0, 1) := by decide +kernel
theorem d_S_init_5 : decode b_S_init 5 = .ok (.new 7, 3) := by decide +kernel
theorem d_S_init_8 : decode b_S_init 8 = .ok (.dup, 1) := by decide +kernel
theorem d_S_init_9 : decode b_S_init 9 = .ok (.invokespecial 9, 3) := by decide +kernel
theorem d_S_init_12 : decode b_S_init 12 = .ok (.putfield 10, 3) := by decide +kernel
theorem d_S_init_15 : decode b_S_init 15 = .ok (.aload_n 0, 1) := by decide +kernel
theorem d_S_init_16 : decode b_S_init 16 = .ok (.new 16, 3) := by decide +kernel
theorem d_S_init_19 : decode b_S_init 19 = .ok (.dup, 1) := by decide +kernel
theorem d_S_init_20 : decode b_S_init 20 = .ok (.invokespecial 18, 3) := by decide +kernel
theorem d_S_init_23 : decode b_S_init 23 = .ok (.putfield 19, 3) := by decide +kernel
theorem d_S_init_26 : decode b_S_init 26 = .ok (.aload_n 0, 1) := by decide +kernel
theorem d_S_init_27 : decode b_S_init 27 = .ok (.new 23, 3) := by decide +kernel
theorem d_S_init_30 : decode b_S_init 30 = .ok (.dup, 1) := by decide +kernel
theorem d_S_init_31 : decode b_S_init 31 = .ok (.aload_n 0, 1) := by decide +kernel
theorem d_S_init_32 : decode b_S_init 32 = .ok (.getfield 10, 3) := by decide +kernel
theorem d_S_init_35 : decode b_S_init 35 = .ok (.aload_n 0, 1) := by decide +kernel
theorem d_S_init_36 : decode b_S_init 36 = .ok (.getfield 19, 3) := by decide +kernel
theorem d_S_init_39 : decode b_S_init 39 = .ok (.invokespecial 25, 3) := by decide +kernel
theorem d_S_init_42 : decode b_S_init 42 = .ok (.putfield 28, 3) := by decide +kernel
theorem d_S_init_45 : decode b_S_init 45 = .ok (.return_, 1) := by decide +kernel
theorem d_Pr_init_0 : decode b_Pr_init 0 = .ok (.aload_n 0, 1) := by decide +kernel
theorem d_Pr_init_1 : decode b_Pr_init 1 = .ok (.invokespecial 3, 3) := by decide +kernel
theorem d_Pr_init_4 : decode b_Pr_init 4 = .ok (.aload_n 0, 1) := by decide +kernel
theorem d_Pr_init_5 : decode b_Pr_init 5 = .ok (.bipush 40, 2) := by decide +kernel
theorem d_Pr_init_7 : decode b_Pr_init 7 = .ok (.newarray .int, 2) := by decide +kernel
theorem d_Pr_init_9 : decode b_Pr_init 9 = .ok (.putfield 9, 3) := by decide +kernel
theorem d_Pr_init_12 : decode b_Pr_init 12 = .ok (.aload_n 0, 1) := by decide +kernel
theorem d_Pr_init_13 : decode b_Pr_init 13 = .ok (.bipush 40, 2) := by decide +kernel
theorem d_Pr_init_15 : decode b_Pr_init 15 = .ok (.newarray .int, 2) := by decide +kernel
theorem d_Pr_init_17 : decode b_Pr_init 17 = .ok (.putfield 15, 3) := by decide +kernel
theorem d_Pr_init_20 : decode b_Pr_init 20 = .ok (.aload_n 0, 1) := by decide +kernel
theorem d_Pr_init_21 : decode b_Pr_init 21 = .ok (.bipush 40, 2) := by decide +kernel
theorem d_Pr_init_23 : decode b_Pr_init 23 = .ok (.newarray .int, 2) := by decide +kernel
theorem d_Pr_init_25 : decode b_Pr_init 25 = .ok (.putfield 18, 3) := by decide +kernel
theorem d_Pr_init_28 : decode b_Pr_init 28 = .ok (.aload_n 0, 1) := by decide +kernel
theorem d_Pr_init_29 : decode b_Pr_init 29 = .ok (.bipush 40, 2) := by decide +kernel
theorem d_Pr_init_31 : decode b_Pr_init 31 = .ok (.newarray .int, 2) := by decide +kernel
theorem d_Pr_init_33 : decode b_Pr_init 33 = .ok (.putfield 21, 3) := by decide +kernel
theorem d_Pr_init_36 : decode b_Pr_init 36 = .ok (.aload_n 0, 1) := by decide +kernel
theorem d_Pr_init_37 : decode b_Pr_init 37 = .ok (.new 24, 3) := by decide +kernel
theorem d_Pr_init_40 : decode b_Pr_init 40 = .ok (.dup, 1) := by decide +kernel
theorem d_Pr_init_41 : decode b_Pr_init 41 = .ok (.bipush 40, 2) := by decide +kernel
theorem d_Pr_init_43 : decode b_Pr_init 43 = .ok (.invokespecial 26, 3) := by decide +kernel
theorem d_Pr_init_46 : decode b_Pr_init 46 = .ok (.putfield 29, 3) := by decide +kernel
theorem d_Pr_init_49 : decode b_Pr_init 49 = .ok (.aload_n 0, 1) := by decide +kernel
theorem d_Pr_init_50 : decode b_Pr_init 50 = .ok (.new 24, 3) := by decide +kernel
theorem d_Pr_init_53 : decode b_Pr_init 53 = .ok (.dup, 1) := by decide +kernel
theorem d_Pr_init_54 : decode b_Pr_init 54 = .ok (.bipush 80, 2) := by decide +kernel
theorem d_Pr_init_56 : decode b_Pr_init 56 = .ok (.invokespecial 26, 3) := by decide +kernel
theorem d_Pr_init_59 : decode b_Pr_init 59 = .ok (.putfield 33, 3) := by decide +kernel
theorem d_Pr_init_62 : decode b_Pr_init 62 = .ok (.return_, 1) := by decide +kernel
theorem d_Li_init_0 : decode b_Li_init 0 = .ok (.aload_n 0, 1) := by decide +kernel
theorem d_Li_init_1 : decode b_Li_init 1 = .ok (.invokespecial 3, 3) := by decide +kernel
theorem d_Li_init_4 : decode b_Li_init 4 = .ok (.aload_n 0, 1) := by decide +kernel
theorem d_Li_init_5 : decode b_Li_init 5 = .ok (.iload_n 1, 1) := by decide +kernel
theorem d_Li_init_6 : decode b_Li_init 6 = .ok (.newarray .int, 2) := by decide +kernel
theorem d_Li_init_8 : decode b_Li_init 8 = .ok (.putfield 9, 3) := by decide +kernel
theorem d_Li_init_11 : decode b_Li_init 11 = .ok (.aload_n 0, 1) := by decide +kernel
theorem d_Li_init_12 : decode b_Li_init 12 = .ok (.iload_n 1, 1) := by decide +kernel
theorem d_Li_init_13 : decode b_Li_init 13 = .ok (.newarray .int, 2) := by decide +kernel
theorem d_Li_init_15 : decode b_Li_init 15 = .ok (.putfield 15, 3) := by decide +kernel
theorem d_Li_init_18 : decode b_Li_init 18 = .ok (.aload_n 0, 1) := by decide +kernel
theorem d_Li_init_19 : decode b_Li_init 19 = .ok (.bipush 40, 2) := by decide +kernel
theorem d_Li_init_21 : decode b_Li_init 21 = .ok (.newarray .int, 2) := by decide +kernel
theorem d_Li_init_23 : decode b_Li_init 23 = .ok (.putfield 18, 3) := by decide +kernel
theorem d_Li_init_26 : decode b_Li_init 26 = .ok (.aload_n 0, 1) := by decide +kernel
theorem d_Li_init_27 : decode b_Li_init 27 = .ok (.iconst 0, 1) := by decide +kernel
theorem d_Li_init_28 : decode b_Li_init 28 = .ok (.putfield 21, 3) := by decide +kernel
theorem d_Li_init_31 : decode b_Li_init 31 = .ok (.return_, 1) := by decide +kernel
theorem d_Me_init_0 : decode b_Me_init 0 = .ok (.aload_n 0, 1) := by decide +kernel
theorem d_Me_init_1 : decode b_Me_init 1 = .ok (.invokespecial 3, 3) := by decide +kernel
theorem d_Me_init_4 : decode b_Me_init 4 = .ok (.aload_n 0, 1) := by decide +kernel
theorem d_Me_init_5 : decode b_Me_init 5 = .ok (.sipush 512, 3) := by decide +kernel
theorem d_Me_init_8 : decode b_Me_init 8 = .ok (.newarray .int, 2) := by decide +kernel
theorem d_Me_init_10 : decode b_Me_init 10 = .ok (.putfield 11, 3) := by decide +kernel
theorem d_Me_init_13 : decode b_Me_init 13 = .ok (.aload_n 0, 1) := by decide +kernel
theorem d_Me_init_14 : decode b_Me_init 14 = .ok (.bipush 64, 2) := by decide +kernel
theorem d_Me_init_16 : decode b_Me_init 16 = .ok (.newarray .int, 2) := by decide +kernel
theorem d_Me_init_18 : decode b_Me_init 18 = .ok (.putfield 15, 3) := by decide +kernel
theorem d_Me_init_21 : decode b_Me_init 21 = .ok (.aload_n 0, 1) := by decide +kernel
theorem d_Me_init_22 : decode b_Me_init 22 = .ok (.bipush 64, 2) := by decide +kernel
theorem d_Me_init_24 : decode b_Me_init 24 = .ok (.newarray .int, 2) := by decide +kernel
theorem d_Me_init_26 : decode b_Me_init 26 = .ok (.putfield 18, 3) := by decide +kernel
theorem d_Me_init_29 : decode b_Me_init 29 = .ok (.aload_n 0, 1) := by decide +kernel
theorem d_Me_init_30 : decode b_Me_init 30 = .ok (.bipush 64, 2) := by decide +kernel
theorem d_Me_init_32 : decode b_Me_init 32 = .ok (.newarray .boolean, 2) := by decide +kernel
theorem d_Me_init_34 : decode b_Me_init 34 = .ok (.putfield 21, 3) := by decide +kernel
theorem d_Me_init_37 : decode b_Me_init 37 = .ok (.aload_n 0, 1) := by decide +kernel
theorem d_Me_init_38 : decode b_Me_init 38 = .ok (.bipush 64, 2) := by decide +kernel
theorem d_Me_init_40 : decode b_Me_init 40 = .ok (.newarray .int, 2) := by decide +kernel
theorem d_Me_init_42 : decode b_Me_init 42 = .ok (.putfield 25, 3) := by decide +kernel
theorem d_Me_init_45 : decode b_Me_init 45 = .ok (.aload_n 0, 1) := by decide +kernel
theorem d_Me_init_46 : decode b_Me_init 46 = .ok (.invokevirtual 28, 3) := by decide +kernel
theorem d_Me_init_49 : decode b_Me_init 49 = .ok (.return_, 1) := by decide +kernel
theorem d_Me_reset_0 : decode b_Me_reset 0 = .ok (.iconst 0, 1) := by decide +kernel
theorem d_Me_reset_1 : decode b_Me_reset 1 = .ok (.istore_n 1, 1) := by decide +kernel
theorem d_Me_reset_2 : decode b_Me_reset 2 = .ok (.iload_n 1, 1) := by decide +kernel
theorem d_Me_reset_3 : decode b_Me_reset 3 = .ok (.sipush 512, 3) := by decide +kernel
theorem d_Me_reset_6 : decode b_Me_reset 6 = .ok (.if_icmp .ge 16, 3) := by decide +kernel
theorem d_Me_reset_9 : decode b_Me_reset 9 = .ok (.aload_n 0, 1) := by decide +kernel
theorem d_Me_reset_10 : decode b_Me_reset 10 = .ok (.getfield 11, 3) := by decide +kernel
theorem d_Me_reset_13 : decode b_Me_reset 13 = .ok (.iload_n 1, 1) := by decide +kernel
theorem d_Me_reset_14 : decode b_Me_reset 14 = .ok (.iconst 0, 1) := by decide +kernel
theorem d_Me_reset_15 : decode b_Me_reset 15 = .ok (.iastore, 1) := by decide +kernel
theorem d_Me_reset_16 : decode b_Me_reset 16 = .ok (.iinc 1 1, 3) := by decide +kernel
theorem d_Me_reset_19 : decode b_Me_reset 19 = .ok (.goto (-17), 3) := by decide +kernel
theorem d_Me_reset_22 : decode b_Me_reset 22 = .ok (.iconst 0, 1) := by decide +kernel
theorem d_Me_reset_23 : decode b_Me_reset 23 = .ok (.istore_n 1, 1) := by decide +kernel
theorem d_Me_reset_24 : decode b_Me_reset 24 = .ok (.iload_n 1, 1) := by decide +kernel
theorem d_Me_reset_25 : decode b_Me_reset 25 = .ok (.bipush 64, 2) := by decide +kernel
theorem d_Me_reset_27 : decode b_Me_reset 27 = .ok (.if_icmp .ge 31, 3) := by decide +kernel
theorem d_Me_reset_30 : decode b_Me_reset 30 = .ok (.aload_n 0, 1) := by decide +kernel
theorem d_Me_reset_31 : decode b_Me_reset 31 = .ok (.getfield 15, 3) := by decide +kernel
theorem d_Me_reset_34 : decode b_Me_reset 34 = .ok (.iload_n 1, 1) := by decide +kernel
theorem d_Me_reset_35 : decode b_Me_reset 35 = .ok (.bipush (-3), 2) := by decide +kernel
theorem d_Me_reset_37 : decode b_Me_reset 37 = .ok (.iastore, 1) := by decide +kernel
theorem d_Me_reset_38 : decode b_Me_reset 38 = .ok (.aload_n 0, 1) := by decide +kernel
theorem d_Me_reset_39 : decode b_Me_reset 39 = .ok (.getfield 18, 3) := by decide +kernel
theorem d_Me_reset_42 : decode b_Me_reset 42 = .ok (.iload_n 1, 1) := by decide +kernel
theorem d_Me_reset_43 : decode b_Me_reset 43 = .ok (.iconst 0, 1) := by decide +kernel
theorem d_Me_reset_44 : decode b_Me_reset 44 = .ok (.iastore, 1) := by decide +kernel
theorem d_Me_reset_45 : decode b_Me_reset 45 = .ok (.aload_n 0, 1) := by decide +kernel
theorem d_Me_reset_46 : decode b_Me_reset 46 = .ok (.getfield 21, 3) := by decide +kernel
theorem d_Me_reset_49 : decode b_Me_reset 49 = .ok (.iload_n 1, 1) := by decide +kernel
theorem d_Me_reset_50 : decode b_Me_reset 50 = .ok (.iconst 0, 1) := by decide +kernel
theorem d_Me_reset_51 : decode b_Me_reset 51 = .ok (.bastore, 1) := by decide +kernel
theorem d_Me_reset_52 : decode b_Me_reset 52 = .ok (.iinc 1 1, 3) := by decide +kernel
theorem d_Me_reset_55 : decode b_Me_reset 55 = .ok (.goto (-31), 3) := by decide +kernel
theorem d_Me_reset_58 : decode b_Me_reset 58 = .ok (.aload_n 0, 1) := by decide +kernel
theorem d_Me_reset_59 : decode b_Me_reset 59 = .ok (.iconst 0, 1) := by decide +kernel
theorem d_Me_reset_60 : decode b_Me_reset 60 = .ok (.putfield 31, 3) := by decide +kernel
theorem d_Me_reset_63 : decode b_Me_reset 63 = .ok (.aload_n 0, 1) := by decide +kernel
theorem d_Me_reset_64 : decode b_Me_reset 64 = .ok (.iconst 0, 1) := by decide +kernel
theorem d_Me_reset_65 : decode b_Me_reset 65 = .ok (.putfield 35, 3) := by decide +kernel
theorem d_Me_reset_68 : decode b_Me_reset 68 = .ok (.aload_n 0, 1) := by decide +kernel
theorem d_Me_reset_69 : decode b_Me_reset 69 = .ok (.iconst 0, 1) := by decide +kernel
theorem d_Me_reset_70 : decode b_Me_reset 70 = .ok (.putfield 38, 3) := by decide +kernel
theorem d_Me_reset_73 : decode b_Me_reset 73 = .ok (.return_, 1) := by decide +kernel
theorem d_Ru_init_0 : decode b_Ru_init 0 = .ok (.aload_n 0, 1) := by decide +kernel
theorem d_Ru_init_1 : decode b_Ru_init 1 = .ok (.invokespecial 3, 3) := by decide +kernel
theorem d_Ru_init_4 : decode b_Ru_init 4 = .ok (.aload_n 0, 1) := by decide +kernel
theorem d_Ru_init_5 : decode b_Ru_init 5 = .ok (.bipush 8, 2) := by decide +kernel
theorem d_Ru_init_7 : decode b_Ru_init 7 = .ok (.newarray .int, 2) := by decide +kernel
theorem d_Ru_init_9 : decode b_Ru_init 9 = .ok (.putfield 9, 3) := by decide +kernel
theorem d_Ru_init_12 : decode b_Ru_init 12 = .ok (.aload_n 0, 1) := by decide +kernel
theorem d_Ru_init_13 : decode b_Ru_init 13 = .ok (.bipush 60, 2) := by decide +kernel
theorem d_Ru_init_15 : decode b_Ru_init 15 = .ok (.newarray .int, 2) := by decide +kernel
theorem d_Ru_init_17 : decode b_Ru_init 17 = .ok (.putfield 15, 3) := by decide +kernel
theorem d_Ru_init_20 : decode b_Ru_init 20 = .ok (.aload_n 0, 1) := by decide +kernel
theorem d_Ru_init_21 : decode b_Ru_init 21 = .ok (.aload_n 1, 1) := by decide +kernel
theorem d_Ru_init_22 : decode b_Ru_init 22 = .ok (.putfield 18, 3) := by decide +kernel
theorem d_Ru_init_25 : decode b_Ru_init 25 = .ok (.aload_n 0, 1) := by decide +kernel
theorem d_Ru_init_26 : decode b_Ru_init 26 = .ok (.aload_n 2, 1) := by decide +kernel
theorem d_Ru_init_27 : decode b_Ru_init 27 = .ok (.putfield 22, 3) := by decide +kernel
theorem d_Ru_init_30 : decode b_Ru_init 30 = .ok (.aload_n 0, 1) := by decide +kernel
theorem d_Ru_init_31 : decode b_Ru_init 31 = .ok (.aload_n 1, 1) := by decide +kernel
theorem d_Ru_init_32 : decode b_Ru_init 32 = .ok (.getfield 26, 3) := by decide +kernel
theorem d_Ru_init_35 : decode b_Ru_init 35 = .ok (.putfield 32, 3) := by decide +kernel
theorem d_Ru_init_38 : decode b_Ru_init 38 = .ok (.aload_n 0, 1) := by decide +kernel
theorem d_Ru_init_39 : decode b_Ru_init 39 = .ok (.iconst 0, 1) := by decide +kernel
theorem d_Ru_init_40 : decode b_Ru_init 40 = .ok (.putfield 35, 3) := by decide +kernel
theorem d_Ru_init_43 : decode b_Ru_init 43 = .ok (.return_, 1) := by decide +kernel
theorem d_S_clear_0 : decode b_S_clear 0 = .ok (.aload_n 0, 1) := by decide +kernel
theorem d_S_clear_1 : decode b_S_clear 1 = .ok (.getfield 28, 3) := by decide +kernel
theorem d_S_clear_4 : decode b_S_clear 4 = .ok (.invokevirtual 54, 3) := by decide +kernel
theorem d_S_clear_7 : decode b_S_clear 7 = .ok (.aload_n 0, 1) := by decide +kernel
theorem d_S_clear_8 : decode b_S_clear 8 = .ok (.getfield 10, 3) := by decide +kernel
theorem d_S_clear_11 : decode b_S_clear 11 = .ok (.invokevirtual 61, 3) := by decide +kernel
theorem d_S_clear_14 : decode b_S_clear 14 = .ok (.return_, 1) := by decide +kernel
theorem d_Ru_drop_0 : decode b_Ru_drop 0 = .ok (.aload_n 0, 1) := by decide +kernel
theorem d_Ru_drop_1 : decode b_Ru_drop 1 = .ok (.iconst 0, 1) := by decide +kernel
theorem d_Ru_drop_2 : decode b_Ru_drop 2 = .ok (.putfield 35, 3) := by decide +kernel
theorem d_Ru_drop_5 : decode b_Ru_drop 5 = .ok (.return_, 1) := by decide +kernel
theorem d_Pr_removeAll_0 : decode b_Pr_removeAll 0 = .ok (.aload_n 0, 1) := by decide +kernel
theorem d_Pr_removeAll_1 : decode b_Pr_removeAll 1 = .ok (.getfield 29, 3) := by decide +kernel
theorem d_Pr_removeAll_4 : decode b_Pr_removeAll 4 = .ok (.iconst 0, 1) := by decide +kernel
theorem d_Pr_removeAll_5 : decode b_Pr_removeAll 5 = .ok (.putfield 36, 3) := by decide +kernel
theorem d_Pr_removeAll_8 : decode b_Pr_removeAll 8 = .ok (.aload_n 0, 1) := by decide +kernel
theorem d_Pr_removeAll_9 : decode b_Pr_removeAll 9 = .ok (.getfield 33, 3) := by decide +kernel
theorem d_Pr_removeAll_12 : decode b_Pr_removeAll 12 = .ok (.iconst 0, 1) := by decide +kernel
theorem d_Pr_removeAll_13 : decode b_Pr_removeAll 13 = .ok (.putfield 36, 3) := by decide +kernel
theorem d_Pr_removeAll_16 : decode b_Pr_removeAll 16 = .ok (.return_, 1) := by decide +kernel
theorem d_La_code_0 : decode b_La_code 0 = .ok (.aload 6, 2) := by decide +kernel
theorem d_La_code_2 : decode b_La_code 2 = .ok (.iconst 0, 1) := by decide +kernel
theorem d_La_code_3 : decode b_La_code 3 = .ok (.aload_n 0, 1) := by decide +kernel
theorem d_La_code_4 : decode b_La_code 4 = .ok (.iload_n 1, 1) := by decide +kernel
theorem d_La_code_5 : decode b_La_code 5 = .ok (.iload_n 2, 1) := by decide +kernel
theorem d_La_code_6 : decode b_La_code 6 = .ok (.iload_n 3, 1) := by decide +kernel
theorem d_La_code_7 : decode b_La_code 7 = .ok (.iload 4, 2) := by decide +kernel
theorem d_La_code_9 : decode b_La_code 9 = .ok (.iload 5, 2) := by decide +kernel
theorem d_La_code_11 : decode b_La_code 11 = .ok (.invokevirtual 7, 3) := by decide +kernel
theorem d_La_code_14 : decode b_La_code 14 = .ok (.i2l, 1) := by decide +kernel
theorem d_La_code_15 : decode b_La_code 15 = .ok (.lastore, 1) := by decide +kernel
theorem d_La_code_16 : decode b_La_code 16 = .ok (.goto 11, 3) := by decide +kernel
theorem d_La_code_19 : decode b_La_code 19 = .ok (.astore 7, 2) := by decide +kernel
theorem d_La_code_21 : decode b_La_code 21 = .ok (.iconst 1, 1) := by decide +kernel
theorem d_La_code_22 : decode b_La_code 22 = .ok (.ireturn, 1) := by decide +kernel
theorem d_La_code_23 : decode b_La_code 23 = .ok (.astore 7, 2) := by decide +kernel
theorem d_La_code_25 : decode b_La_code 25 = .ok (.iconst 2, 1) := by decide +kernel
theorem d_La_code_26 : decode b_La_code 26 = .ok (.ireturn, 1) := by decide +kernel
theorem d_La_code_27 : decode b_La_code 27 = .ok (.iconst 0, 1) := by decide +kernel
theorem d_La_code_28 : decode b_La_code 28 = .ok (.ireturn, 1) := by decide +kernel
theorem d_S_code_0 : decode b_S_code 0 = .ok (.iload_n 1, 1) := by decide +kernel
theorem d_S_code_1 : decode b_S_code 1 = .ok (.ifCond .lt 9, 3) := by decide +kernel
theorem d_S_code_4 : decode b_S_code 4 = .ok (.iload_n 1, 1) := by decide +kernel
theorem d_S_code_5 : decode b_S_code 5 = .ok (.bipush 14, 2) := by decide +kernel
theorem d_S_code_7 : decode b_S_code 7 = .ok (.if_icmp .le 13, 3) := by decide +kernel
theorem d_S_code_10 : decode b_S_code 10 = .ok (.new 32, 3) := by decide +kernel
theorem d_S_code_13 : decode b_S_code 13 = .ok (.dup, 1) := by decide +kernel
theorem d_S_code_14 : decode b_S_code 14 = .ok (.ldc 34, 2) := by decide +kernel
theorem d_S_code_16 : decode b_S_code 16 = .ok (.invokespecial 36, 3) := by decide +kernel
theorem d_S_code_19 : decode b_S_code 19 = .ok (.athrow, 1) := by decide +kernel
theorem d_S_code_20 : decode b_S_code 20 = .ok (.iload_n 2, 1) := by decide +kernel
theorem d_S_code_21 : decode b_S_code 21 = .ok (.invokestatic 39, 3) := by decide +kernel
theorem d_S_code_24 : decode b_S_code 24 = .ok (.ifCond .eq 18, 3) := by decide +kernel
theorem d_S_code_27 : decode b_S_code 27 = .ok (.iload_n 3, 1) := by decide +kernel
theorem d_S_code_28 : decode b_S_code 28 = .ok (.invokestatic 39, 3) := by decide +kernel
theorem d_S_code_31 : decode b_S_code 31 = .ok (.ifCond .eq 11, 3) := by decide +kernel
theorem d_S_code_34 : decode b_S_code 34 = .ok (.iload 4, 2) := by decide +kernel
theorem d_S_code_36 : decode b_S_code 36 = .ok (.invokestatic 39, 3) := by decide +kernel
theorem d_S_code_39 : decode b_S_code 39 = .ok (.ifCond .ne 13, 3) := by decide +kernel
theorem d_S_code_42 : decode b_S_code 42 = .ok (.new 32, 3) := by decide +kernel
theorem d_S_code_45 : decode b_S_code 45 = .ok (.dup, 1) := by decide +kernel
theorem d_S_code_46 : decode b_S_code 46 = .ok (.ldc 43, 2) := by decide +kernel
theorem d_S_code_48 : decode b_S_code 48 = .ok (.invokespecial 36, 3) := by decide +kernel
theorem d_S_code_51 : decode b_S_code 51 = .ok (.athrow, 1) := by decide +kernel
theorem d_S_code_52 : decode b_S_code 52 = .ok (.aload_n 0, 1) := by decide +kernel
theorem d_S_code_53 : decode b_S_code 53 = .ok (.getfield 10, 3) := by decide +kernel
theorem d_S_code_56 : decode b_S_code 56 = .ok (.invokevirtual 45, 3) := by decide +kernel
theorem d_S_code_59 : decode b_S_code 59 = .ok (.bipush 40, 2) := by decide +kernel
theorem d_S_code_61 : decode b_S_code 61 = .ok (.if_icmp .lt 13, 3) := by decide +kernel
theorem d_S_code_64 : decode b_S_code 64 = .ok (.new 49, 3) := by decide +kernel
theorem d_S_code_67 : decode b_S_code 67 = .ok (.dup, 1) := by decide +kernel
theorem d_S_code_68 : decode b_S_code 68 = .ok (.ldc 51, 2) := by decide +kernel
theorem d_S_code_70 : decode b_S_code 70 = .ok (.invokespecial 53, 3) := by decide +kernel
theorem d_S_code_73 : decode b_S_code 73 = .ok (.athrow, 1) := by decide +kernel
theorem d_S_code_74 : decode b_S_code 74 = .ok (.aload_n 0, 1) := by decide +kernel
theorem d_S_code_75 : decode b_S_code 75 = .ok (.getfield 28, 3) := by decide +kernel
theorem d_S_code_78 : decode b_S_code 78 = .ok (.invokevirtual 54, 3) := by decide +kernel
theorem d_S_code_81 : decode b_S_code 81 = .ok (.aload_n 0, 1) := by decide +kernel
theorem d_S_code_82 : decode b_S_code 82 = .ok (.getfield 10, 3) := by decide +kernel
theorem d_S_code_85 : decode b_S_code 85 = .ok (.iload_n 1, 1) := by decide +kernel
theorem d_S_code_86 : decode b_S_code 86 = .ok (.iload_n 2, 1) := by decide +kernel
theorem d_S_code_87 : decode b_S_code 87 = .ok (.iload_n 3, 1) := by decide +kernel
theorem d_S_code_88 : decode b_S_code 88 = .ok (.iload 4, 2) := by decide +kernel
theorem d_S_code_90 : decode b_S_code 90 = .ok (.iload 5, 2) := by decide +kernel
theorem d_S_code_92 : decode b_S_code 92 = .ok (.invokevirtual 57, 3) := by decide +kernel
theorem d_S_code_95 : decode b_S_code 95 = .ok (.ireturn, 1) := by decide +kernel
theorem d_S_isRegister_0 : decode b_S_isRegister 0 = .ok (.iload_n 0, 1) := by decide +kernel
theorem d_S_isRegister_1 : decode b_S_isRegister 1 = .ok (.ifCond .lt 13, 3) := by decide +kernel
theorem d_S_isRegister_4 : decode b_S_isRegister 4 = .ok (.iload_n 0, 1) := by decide +kernel
theorem d_S_isRegister_5 : decode b_S_isRegister 5 = .ok (.bipush 8, 2) := by decide +kernel
theorem d_S_isRegister_7 : decode b_S_isRegister 7 = .ok (.if_icmp .ge 7, 3) := by decide +kernel
theorem d_S_isRegister_10 : decode b_S_isRegister 10 = .ok (.iconst 1, 1) := by decide +kernel
theorem d_S_isRegister_11 : decode b_S_isRegister 11 = .ok (.goto 4, 3) := by decide +kernel
theorem d_S_isRegister_14 : decode b_S_isRegister 14 = .ok (.iconst 0, 1) := by decide +kernel
theorem d_S_isRegister_15 : decode b_S_isRegister 15 = .ok (.ireturn, 1) := by decide +kernel
theorem d_Pr_size_0 : decode b_Pr_size 0 = .ok (.aload_n 0, 1) := by decide +kernel
theorem d_Pr_size_1 : decode b_Pr_size 1 = .ok (.getfield 29, 3) := by decide +kernel
theorem d_Pr_size_4 : decode b_Pr_size 4 = .ok (.getfield 36, 3) := by decide +kernel
theorem d_Pr_size_7 : decode b_Pr_size 7 = .ok (.ireturn, 1) := by decide +kernel
theorem d_Pr_add_0 : decode b_Pr_add 0 = .ok (.aload_n 0, 1) := by decide +kernel
theorem d_Pr_add_1 : decode b_Pr_add 1 = .ok (.invokevirtual 40, 3) := by decide +kernel
theorem d_Pr_add_4 : decode b_Pr_add 4 = .ok (.istore 6, 2) := by decide +kernel
theorem d_Pr_add_6 : decode b_Pr_add 6 = .ok (.aload_n 0, 1) := by decide +kernel
theorem d_Pr_add_7 : decode b_Pr_add 7 = .ok (.getfield 9, 3) := by decide +kernel
theorem d_Pr_add_10 : decode b_Pr_add 10 = .ok (.iload 6, 2) := by decide +kernel
theorem d_Pr_add_12 : decode b_Pr_add 12 = .ok (.iload_n 2, 1) := by decide +kernel
theorem d_Pr_add_13 : decode b_Pr_add 13 = .ok (.iastore, 1) := by decide +kernel
theorem d_Pr_add_14 : decode b_Pr_add 14 = .ok (.aload_n 0, 1) := by decide +kernel
theorem d_Pr_add_15 : decode b_Pr_add 15 = .ok (.getfield 15, 3) := by decide +kernel
theorem d_Pr_add_18 : decode b_Pr_add 18 = .ok (.iload 6, 2) := by decide +kernel
theorem d_Pr_add_20 : decode b_Pr_add 20 = .ok (.iload_n 3, 1) := by decide +kernel
theorem d_Pr_add_21 : decode b_Pr_add 21 = .ok (.iastore, 1) := by decide +kernel
theorem d_Pr_add_22 : decode b_Pr_add 22 = .ok (.aload_n 0, 1) := by decide +kernel
theorem d_Pr_add_23 : decode b_Pr_add 23 = .ok (.getfield 18, 3) := by decide +kernel
theorem d_Pr_add_26 : decode b_Pr_add 26 = .ok (.iload 6, 2) := by decide +kernel
theorem d_Pr_add_28 : decode b_Pr_add 28 = .ok (.iload 4, 2) := by decide +kernel
theorem d_Pr_add_30 : decode b_Pr_add 30 = .ok (.iastore, 1) := by decide +kernel
theorem d_Pr_add_31 : decode b_Pr_add 31 = .ok (.aload_n 0, 1) := by decide +kernel
theorem d_Pr_add_32 : decode b_Pr_add 32 = .ok (.getfield 21, 3) := by decide +kernel
theorem d_Pr_add_35 : decode b_Pr_add 35 = .ok (.iload 6, 2) := by decide +kernel
theorem d_Pr_add_37 : decode b_Pr_add 37 = .ok (.iload 5, 2) := by decide +kernel
theorem d_Pr_add_39 : decode b_Pr_add 39 = .ok (.iastore, 1) := by decide +kernel
theorem d_Pr_add_40 : decode b_Pr_add 40 = .ok (.aload_n 0, 1) := by decide +kernel
theorem d_Pr_add_41 : decode b_Pr_add 41 = .ok (.getfield 29, 3) := by decide +kernel
theorem d_Pr_add_44 : decode b_Pr_add 44 = .ok (.iload 6, 2) := by decide +kernel
theorem d_Pr_add_46 : decode b_Pr_add 46 = .ok (.invokevirtual 43, 3) := by decide +kernel
theorem d_Pr_add_49 : decode b_Pr_add 49 = .ok (.aload_n 0, 1) := by decide +kernel
theorem d_Pr_add_50 : decode b_Pr_add 50 = .ok (.getfield 29, 3) := by decide +kernel
theorem d_Pr_add_53 : decode b_Pr_add 53 = .ok (.iload_n 1, 1) := by decide +kernel
theorem d_Pr_add_54 : decode b_Pr_add 54 = .ok (.iload 6, 2) := by decide +kernel
theorem d_Pr_add_56 : decode b_Pr_add 56 = .ok (.invokevirtual 46, 3) := by decide +kernel
theorem d_Pr_add_59 : decode b_Pr_add 59 = .ok (.aload_n 0, 1) := by decide +kernel
theorem d_Pr_add_60 : decode b_Pr_add 60 = .ok (.getfield 33, 3) := by decide +kernel
theorem d_Pr_add_63 : decode b_Pr_add 63 = .ok (.iload 6, 2) := by decide +kernel
theorem d_Pr_add_65 : decode b_Pr_add 65 = .ok (.invokevirtual 43, 3) := by decide +kernel
theorem d_Pr_add_68 : decode b_Pr_add 68 = .ok (.iload_n 1, 1) := by decide +kernel
theorem d_Pr_add_69 : decode b_Pr_add 69 = .ok (.bipush 6, 2) := by decide +kernel
theorem d_Pr_add_71 : decode b_Pr_add 71 = .ok (.if_icmp .lt 23, 3) := by decide +kernel
theorem d_Pr_add_74 : decode b_Pr_add 74 = .ok (.iload_n 1, 1) := by decide +kernel
theorem d_Pr_add_75 : decode b_Pr_add 75 = .ok (.bipush 9, 2) := by decide +kernel
theorem d_Pr_add_77 : decode b_Pr_add 77 = .ok (.if_icmp .gt 17, 3) := by decide +kernel
theorem d_Pr_add_80 : decode b_Pr_add 80 = .ok (.aload_n 0, 1) := by decide +kernel
theorem d_Pr_add_81 : decode b_Pr_add 81 = .ok (.getfield 33, 3) := by decide +kernel
theorem d_Pr_add_84 : decode b_Pr_add 84 = .ok (.bipush 15, 2) := by decide +kernel
theorem d_Pr_add_86 : decode b_Pr_add 86 = .ok (.iload 6, 2) := by decide +kernel
theorem d_Pr_add_88 : decode b_Pr_add 88 = .ok (.invokevirtual 46, 3) := by decide +kernel
theorem d_Pr_add_91 : decode b_Pr_add 91 = .ok (.goto 19, 3) := by decide +kernel
theorem d_Pr_add_94 : decode b_Pr_add 94 = .ok (.iload_n 1, 1) := by decide +kernel
theorem d_Pr_add_95 : decode b_Pr_add 95 = .ok (.iconst 5, 1) := by decide +kernel
theorem d_Pr_add_96 : decode b_Pr_add 96 = .ok (.if_icmp .ne 14, 3) := by decide +kernel
theorem d_Pr_add_99 : decode b_Pr_add 99 = .ok (.aload_n 0, 1) := by decide +kernel
theorem d_Pr_add_100 : decode b_Pr_add 100 = .ok (.getfield 33, 3) := by decide +kernel
theorem d_Pr_add_103 : decode b_Pr_add 103 = .ok (.bipush 16, 2) := by decide +kernel
theorem d_Pr_add_105 : decode b_Pr_add 105 = .ok (.iload 6, 2) := by decide +kernel
theorem d_Pr_add_107 : decode b_Pr_add 107 = .ok (.invokevirtual 46, 3) := by decide +kernel
theorem d_Pr_add_110 : decode b_Pr_add 110 = .ok (.aload_n 0, 1) := by decide +kernel
theorem d_Pr_add_111 : decode b_Pr_add 111 = .ok (.getfield 33, 3) := by decide +kernel
theorem d_Pr_add_114 : decode b_Pr_add 114 = .ok (.iload_n 1, 1) := by decide +kernel
theorem d_Pr_add_115 : decode b_Pr_add 115 = .ok (.iload 6, 2) := by decide +kernel
theorem d_Pr_add_117 : decode b_Pr_add 117 = .ok (.invokevirtual 46, 3) := by decide +kernel
theorem d_Pr_add_120 : decode b_Pr_add 120 = .ok (.iload 6, 2) := by decide +kernel
theorem d_Pr_add_122 : decode b_Pr_add 122 = .ok (.ireturn, 1) := by decide +kernel
theorem d_Li_beginInstruction_0 : decode b_Li_beginInstruction 0 = .ok (.aload_n 0, 1) := by decide +kernel
theorem d_Li_beginInstruction_1 : decode b_Li_beginInstruction 1 = .ok (.getfield 18, 3) := by decide +kernel
theorem d_Li_beginInstruction_4 : decode b_Li_beginInstruction 4 = .ok (.iload_n 1, 1) := by decide +kernel
theorem d_Li_beginInstruction_5 : decode b_Li_beginInstruction 5 = .ok (.aload_n 0, 1) := by decide +kernel
theorem d_Li_beginInstruction_6 : decode b_Li_beginInstruction 6 = .ok (.getfield 21, 3) := by decide +kernel
theorem d_Li_beginInstruction_9 : decode b_Li_beginInstruction 9 = .ok (.iastore, 1) := by decide +kernel
theorem d_Li_beginInstruction_10 : decode b_Li_beginInstruction 10 = .ok (.return_, 1) := by decide +kernel
theorem d_Li_append_0 : decode b_Li_append 0 = .ok (.aload_n 0, 1) := by decide +kernel
theorem d_Li_append_1 : decode b_Li_append 1 = .ok (.getfield 9, 3) := by decide +kernel
theorem d_Li_append_4 : decode b_Li_append 4 = .ok (.aload_n 0, 1) := by decide +kernel
theorem d_Li_append_5 : decode b_Li_append 5 = .ok (.getfield 21, 3) := by decide +kernel
theorem d_Li_append_8 : decode b_Li_append 8 = .ok (.iload_n 1, 1) := by decide +kernel
theorem d_Li_append_9 : decode b_Li_append 9 = .ok (.iastore, 1) := by decide +kernel
theorem d_Li_append_10 : decode b_Li_append 10 = .ok (.aload_n 0, 1) := by decide +kernel
theorem d_Li_append_11 : decode b_Li_append 11 = .ok (.getfield 15, 3) := by decide +kernel
theorem d_Li_append_14 : decode b_Li_append 14 = .ok (.aload_n 0, 1) := by decide +kernel
theorem d_Li_append_15 : decode b_Li_append 15 = .ok (.getfield 21, 3) := by decide +kernel
theorem d_Li_append_18 : decode b_Li_append 18 = .ok (.iload_n 2, 1) := by decide +kernel
theorem d_Li_append_19 : decode b_Li_append 19 = .ok (.iastore, 1) := by decide +kernel
theorem d_Li_append_20 : decode b_Li_append 20 = .ok (.aload_n 0, 1) := by decide +kernel
theorem d_Li_append_21 : decode b_Li_append 21 = .ok (.dup, 1) := by decide +kernel
theorem d_Li_append_22 : decode b_Li_append 22 = .ok (.getfield 21, 3) := by decide +kernel
theorem d_Li_append_25 : decode b_Li_append 25 = .ok (.iconst 1, 1) := by decide +kernel
theorem d_Li_append_26 : decode b_Li_append 26 = .ok (.iadd, 1) := by decide +kernel
theorem d_Li_append_27 : decode b_Li_append 27 = .ok (.putfield 21, 3) := by decide +kernel
theorem d_Li_append_30 : decode b_Li_append 30 = .ok (.return_, 1) := by decide +kernel
theorem d_La_rewrite_0 : decode b_La_rewrite 0 = .ok (.aload_n 1, 1) := by decide +kernel
theorem d_La_rewrite_1 : decode b_La_rewrite 1 = .ok (.iconst 0, 1) := by decide +kernel
theorem d_La_rewrite_2 : decode b_La_rewrite 2 = .ok (.aload_n 0, 1) := by decide +kernel
theorem d_La_rewrite_3 : decode b_La_rewrite 3 = .ok (.invokevirtual 17, 3) := by decide +kernel
theorem d_La_rewrite_6 : decode b_La_rewrite 6 = .ok (.i2l, 1) := by decide +kernel
theorem d_La_rewrite_7 : decode b_La_rewrite 7 = .ok (.lastore, 1) := by decide +kernel
theorem d_La_rewrite_8 : decode b_La_rewrite 8 = .ok (.goto 6, 3) := by decide +kernel
theorem d_La_rewrite_11 : decode b_La_rewrite 11 = .ok (.astore_n 2, 1) := by decide +kernel
theorem d_La_rewrite_12 : decode b_La_rewrite 12 = .ok (.iconst 1, 1) := by decide +kernel
theorem d_La_rewrite_13 : decode b_La_rewrite 13 = .ok (.ireturn, 1) := by decide +kernel
theorem d_La_rewrite_14 : decode b_La_rewrite 14 = .ok (.iconst 0, 1) := by decide +kernel
theorem d_La_rewrite_15 : decode b_La_rewrite 15 = .ok (.ireturn, 1) := by decide +kernel
theorem d_S_rewrite_0 : decode b_S_rewrite 0 = .ok (.aload_n 0, 1) := by decide +kernel
theorem d_S_rewrite_1 : decode b_S_rewrite 1 = .ok (.invokevirtual 64, 3) := by decide +kernel
theorem d_S_rewrite_4 : decode b_S_rewrite 4 = .ok (.aload_n 0, 1) := by decide +kernel
theorem d_S_rewrite_5 : decode b_S_rewrite 5 = .ok (.getfield 10, 3) := by decide +kernel
theorem d_S_rewrite_8 : decode b_S_rewrite 8 = .ok (.getfield 67, 3) := by decide +kernel
theorem d_S_rewrite_11 : decode b_S_rewrite 11 = .ok (.getfield 71, 3) := by decide +kernel
theorem d_S_rewrite_14 : decode b_S_rewrite 14 = .ok (.ireturn, 1) := by decide +kernel
theorem d_S_refuseGoingOutside_0 : decode b_S_refuseGoingOutside 0 = .ok (.aload_n 0, 1) := by decide +kernel
theorem d_S_refuseGoingOutside_1 : decode b_S_refuseGoingOutside 1 = .ok (.getfield 10, 3) := by decide +kernel
theorem d_S_refuseGoingOutside_4 : decode b_S_refuseGoingOutside 4 = .ok (.invokevirtual 157, 3) := by decide +kernel
theorem d_S_refuseGoingOutside_7 : decode b_S_refuseGoingOutside 7 = .ok (.ifCond .ne 13, 3) := by decide +kernel
theorem d_S_refuseGoingOutside_10 : decode b_S_refuseGoingOutside 10 = .ok (.new 91, 3) := by decide +kernel
theorem d_S_refuseGoingOutside_13 : decode b_S_refuseGoingOutside 13 = .ok (.dup, 1) := by decide +kernel
theorem d_S_refuseGoingOutside_14 : decode b_S_refuseGoingOutside 14 = .ok (.ldc 161, 2) := by decide +kernel
theorem d_S_refuseGoingOutside_16 : decode b_S_refuseGoingOutside 16 = .ok (.invokespecial 95, 3) := by decide +kernel
theorem d_S_refuseGoingOutside_19 : decode b_S_refuseGoingOutside 19 = .ok (.athrow, 1) := by decide +kernel
theorem d_S_refuseGoingOutside_20 : decode b_S_refuseGoingOutside 20 = .ok (.return_, 1) := by decide +kernel
theorem d_Pr_goesOnWithin_0 : decode b_Pr_goesOnWithin 0 = .ok (.iconst 0, 1) := by decide +kernel
theorem d_Pr_goesOnWithin_1 : decode b_Pr_goesOnWithin 1 = .ok (.istore_n 1, 1) := by decide +kernel
theorem d_Pr_goesOnWithin_2 : decode b_Pr_goesOnWithin 2 = .ok (.iload_n 1, 1) := by decide +kernel
theorem d_Pr_goesOnWithin_3 : decode b_Pr_goesOnWithin 3 = .ok (.aload_n 0, 1) := by decide +kernel
theorem d_Pr_goesOnWithin_4 : decode b_Pr_goesOnWithin 4 = .ok (.invokevirtual 40, 3) := by decide +kernel
theorem d_Pr_goesOnWithin_7 : decode b_Pr_goesOnWithin 7 = .ok (.if_icmp .ge 48, 3) := by decide +kernel
theorem d_Pr_goesOnWithin_10 : decode b_Pr_goesOnWithin 10 = .ok (.aload_n 0, 1) := by decide +kernel
theorem d_Pr_goesOnWithin_11 : decode b_Pr_goesOnWithin 11 = .ok (.getfield 29, 3) := by decide +kernel
theorem d_Pr_goesOnWithin_14 : decode b_Pr_goesOnWithin 14 = .ok (.getfield 50, 3) := by decide +kernel
theorem d_Pr_goesOnWithin_17 : decode b_Pr_goesOnWithin 17 = .ok (.iload_n 1, 1) := by decide +kernel
theorem d_Pr_goesOnWithin_18 : decode b_Pr_goesOnWithin 18 = .ok (.iaload, 1) := by decide +kernel
theorem d_Pr_goesOnWithin_19 : decode b_Pr_goesOnWithin 19 = .ok (.invokestatic 53, 3) := by decide +kernel
theorem d_Pr_goesOnWithin_22 : decode b_Pr_goesOnWithin 22 = .ok (.ifCond .eq 27, 3) := by decide +kernel
theorem d_Pr_goesOnWithin_25 : decode b_Pr_goesOnWithin 25 = .ok (.aload_n 0, 1) := by decide +kernel
theorem d_Pr_goesOnWithin_26 : decode b_Pr_goesOnWithin 26 = .ok (.getfield 21, 3) := by decide +kernel
theorem d_Pr_goesOnWithin_29 : decode b_Pr_goesOnWithin 29 = .ok (.iload_n 1, 1) := by decide +kernel
theorem d_Pr_goesOnWithin_30 : decode b_Pr_goesOnWithin 30 = .ok (.iaload, 1) := by decide +kernel
theorem d_Pr_goesOnWithin_31 : decode b_Pr_goesOnWithin 31 = .ok (.ifCond .lt 16, 3) := by decide +kernel
theorem d_Pr_goesOnWithin_34 : decode b_Pr_goesOnWithin 34 = .ok (.aload_n 0, 1) := by decide +kernel
