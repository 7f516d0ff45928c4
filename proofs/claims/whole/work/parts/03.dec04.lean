theorem d_Ru_freeOrCrash_24 : decode b_Ru_freeOrCrash 24 = .ok (.putfield 35, 3) := by decide +kernel
theorem d_Ru_freeOrCrash_27 : decode b_Ru_freeOrCrash 27 = .ok (.return_, 1) := by decide +kernel
theorem d_Me_free_0 : decode b_Me_free 0 = .ok (.iload_n 1, 1) := by decide +kernel
theorem d_Me_free_1 : decode b_Me_free 1 = .ok (.ifCond .ne 4, 3) := by decide +kernel
theorem d_Me_free_4 : decode b_Me_free 4 = .ok (.return_, 1) := by decide +kernel
theorem d_Me_free_5 : decode b_Me_free 5 = .ok (.iload_n 1, 1) := by decide +kernel
theorem d_Me_free_6 : decode b_Me_free 6 = .ok (.bipush 8, 2) := by decide +kernel
theorem d_Me_free_8 : decode b_Me_free 8 = .ok (.idiv, 1) := by decide +kernel
theorem d_Me_free_9 : decode b_Me_free 9 = .ok (.iconst 1, 1) := by decide +kernel
theorem d_Me_free_10 : decode b_Me_free 10 = .ok (.isub, 1) := by decide +kernel
theorem d_Me_free_11 : decode b_Me_free 11 = .ok (.istore_n 2, 1) := by decide +kernel
theorem d_Me_free_12 : decode b_Me_free 12 = .ok (.aload_n 0, 1) := by decide +kernel
theorem d_Me_free_13 : decode b_Me_free 13 = .ok (.getfield 18, 3) := by decide +kernel
theorem d_Me_free_16 : decode b_Me_free 16 = .ok (.iload_n 2, 1) := by decide +kernel
theorem d_Me_free_17 : decode b_Me_free 17 = .ok (.iaload, 1) := by decide +kernel
theorem d_Me_free_18 : decode b_Me_free 18 = .ok (.istore_n 3, 1) := by decide +kernel
theorem d_Me_free_19 : decode b_Me_free 19 = .ok (.aload_n 0, 1) := by decide +kernel
theorem d_Me_free_20 : decode b_Me_free 20 = .ok (.iload_n 2, 1) := by decide +kernel
theorem d_Me_free_21 : decode b_Me_free 21 = .ok (.iconst 1, 1) := by decide +kernel
theorem d_Me_free_22 : decode b_Me_free 22 = .ok (.iadd, 1) := by decide +kernel
theorem d_Me_free_23 : decode b_Me_free 23 = .ok (.iload_n 2, 1) := by decide +kernel
theorem d_Me_free_24 : decode b_Me_free 24 = .ok (.iload_n 3, 1) := by decide +kernel
theorem d_Me_free_25 : decode b_Me_free 25 = .ok (.iadd, 1) := by decide +kernel
theorem d_Me_free_26 : decode b_Me_free 26 = .ok (.iconst 1, 1) := by decide +kernel
theorem d_Me_free_27 : decode b_Me_free 27 = .ok (.isub, 1) := by decide +kernel
theorem d_Me_free_28 : decode b_Me_free 28 = .ok (.bipush (-2), 2) := by decide +kernel
theorem d_Me_free_30 : decode b_Me_free 30 = .ok (.invokevirtual 56, 3) := by decide +kernel
theorem d_Me_free_33 : decode b_Me_free 33 = .ok (.aload_n 0, 1) := by decide +kernel
theorem d_Me_free_34 : decode b_Me_free 34 = .ok (.getfield 21, 3) := by decide +kernel
theorem d_Me_free_37 : decode b_Me_free 37 = .ok (.iload_n 2, 1) := by decide +kernel
theorem d_Me_free_38 : decode b_Me_free 38 = .ok (.iconst 1, 1) := by decide +kernel
theorem d_Me_free_39 : decode b_Me_free 39 = .ok (.bastore, 1) := by decide +kernel
theorem d_Me_free_40 : decode b_Me_free 40 = .ok (.aload_n 0, 1) := by decide +kernel
theorem d_Me_free_41 : decode b_Me_free 41 = .ok (.getfield 25, 3) := by decide +kernel
theorem d_Me_free_44 : decode b_Me_free 44 = .ok (.aload_n 0, 1) := by decide +kernel
theorem d_Me_free_45 : decode b_Me_free 45 = .ok (.getfield 35, 3) := by decide +kernel
theorem d_Me_free_48 : decode b_Me_free 48 = .ok (.iload_n 2, 1) := by decide +kernel
theorem d_Me_free_49 : decode b_Me_free 49 = .ok (.iastore, 1) := by decide +kernel
theorem d_Me_free_50 : decode b_Me_free 50 = .ok (.aload_n 0, 1) := by decide +kernel
theorem d_Me_free_51 : decode b_Me_free 51 = .ok (.dup, 1) := by decide +kernel
theorem d_Me_free_52 : decode b_Me_free 52 = .ok (.getfield 35, 3) := by decide +kernel
theorem d_Me_free_55 : decode b_Me_free 55 = .ok (.iconst 1, 1) := by decide +kernel
theorem d_Me_free_56 : decode b_Me_free 56 = .ok (.iadd, 1) := by decide +kernel
theorem d_Me_free_57 : decode b_Me_free 57 = .ok (.putfield 35, 3) := by decide +kernel
theorem d_Me_free_60 : decode b_Me_free 60 = .ok (.aload_n 0, 1) := by decide +kernel
theorem d_Me_free_61 : decode b_Me_free 61 = .ok (.dup, 1) := by decide +kernel
theorem d_Me_free_62 : decode b_Me_free 62 = .ok (.getfield 31, 3) := by decide +kernel
theorem d_Me_free_65 : decode b_Me_free 65 = .ok (.iload_n 3, 1) := by decide +kernel
theorem d_Me_free_66 : decode b_Me_free 66 = .ok (.iadd, 1) := by decide +kernel
theorem d_Me_free_67 : decode b_Me_free 67 = .ok (.putfield 31, 3) := by decide +kernel
theorem d_Me_free_70 : decode b_Me_free 70 = .ok (.aload_n 0, 1) := by decide +kernel
theorem d_Me_free_71 : decode b_Me_free 71 = .ok (.dup, 1) := by decide +kernel
theorem d_Me_free_72 : decode b_Me_free 72 = .ok (.getfield 38, 3) := by decide +kernel
theorem d_Me_free_75 : decode b_Me_free 75 = .ok (.iconst 1, 1) := by decide +kernel
theorem d_Me_free_76 : decode b_Me_free 76 = .ok (.isub, 1) := by decide +kernel
theorem d_Me_free_77 : decode b_Me_free 77 = .ok (.putfield 38, 3) := by decide +kernel
theorem d_Me_free_80 : decode b_Me_free 80 = .ok (.aload_n 0, 1) := by decide +kernel
theorem d_Me_free_81 : decode b_Me_free 81 = .ok (.getfield 35, 3) := by decide +kernel
theorem d_Me_free_84 : decode b_Me_free 84 = .ok (.istore 4, 2) := by decide +kernel
theorem d_Me_free_86 : decode b_Me_free 86 = .ok (.iload 4, 2) := by decide +kernel
theorem d_Me_free_88 : decode b_Me_free 88 = .ok (.ifCond .le 22, 3) := by decide +kernel
theorem d_Me_free_91 : decode b_Me_free 91 = .ok (.aload_n 0, 1) := by decide +kernel
theorem d_Me_free_92 : decode b_Me_free 92 = .ok (.getfield 31, 3) := by decide +kernel
theorem d_Me_free_95 : decode b_Me_free 95 = .ok (.bipush 20, 2) := by decide +kernel
theorem d_Me_free_97 : decode b_Me_free 97 = .ok (.if_icmp .le 13, 3) := by decide +kernel
theorem d_Me_free_100 : decode b_Me_free 100 = .ok (.aload_n 0, 1) := by decide +kernel
theorem d_Me_free_101 : decode b_Me_free 101 = .ok (.invokevirtual 49, 3) := by decide +kernel
theorem d_Me_free_104 : decode b_Me_free 104 = .ok (.iinc 4 (-1), 3) := by decide +kernel
theorem d_Me_free_107 : decode b_Me_free 107 = .ok (.goto (-21), 3) := by decide +kernel
theorem d_Me_free_110 : decode b_Me_free 110 = .ok (.return_, 1) := by decide +kernel
theorem d_Ru_touchOrCrash_0 : decode b_Ru_touchOrCrash 0 = .ok (.aload_n 0, 1) := by decide +kernel
theorem d_Ru_touchOrCrash_1 : decode b_Ru_touchOrCrash 1 = .ok (.iload_n 2, 1) := by decide +kernel
theorem d_Ru_touchOrCrash_2 : decode b_Ru_touchOrCrash 2 = .ok (.invokevirtual 61, 3) := by decide +kernel
theorem d_Ru_touchOrCrash_5 : decode b_Ru_touchOrCrash 5 = .ok (.istore_n 3, 1) := by decide +kernel
theorem d_Ru_touchOrCrash_6 : decode b_Ru_touchOrCrash 6 = .ok (.aload_n 0, 1) := by decide +kernel
theorem d_Ru_touchOrCrash_7 : decode b_Ru_touchOrCrash 7 = .ok (.getfield 18, 3) := by decide +kernel
theorem d_Ru_touchOrCrash_10 : decode b_Ru_touchOrCrash 10 = .ok (.iload_n 2, 1) := by decide +kernel
theorem d_Ru_touchOrCrash_11 : decode b_Ru_touchOrCrash 11 = .ok (.invokevirtual 65, 3) := by decide +kernel
theorem d_Ru_touchOrCrash_14 : decode b_Ru_touchOrCrash 14 = .ok (.istore 4, 2) := by decide +kernel
theorem d_Ru_touchOrCrash_16 : decode b_Ru_touchOrCrash 16 = .ok (.iload_n 3, 1) := by decide +kernel
theorem d_Ru_touchOrCrash_17 : decode b_Ru_touchOrCrash 17 = .ok (.iload 4, 2) := by decide +kernel
theorem d_Ru_touchOrCrash_19 : decode b_Ru_touchOrCrash 19 = .ok (.invokestatic 128, 3) := by decide +kernel
theorem d_Ru_touchOrCrash_22 : decode b_Ru_touchOrCrash 22 = .ok (.ifCond .ne 11, 3) := by decide +kernel
theorem d_Ru_touchOrCrash_25 : decode b_Ru_touchOrCrash 25 = .ok (.aload_n 0, 1) := by decide +kernel
theorem d_Ru_touchOrCrash_26 : decode b_Ru_touchOrCrash 26 = .ok (.iconst 4, 1) := by decide +kernel
theorem d_Ru_touchOrCrash_27 : decode b_Ru_touchOrCrash 27 = .ok (.putfield 35, 3) := by decide +kernel
theorem d_Ru_touchOrCrash_30 : decode b_Ru_touchOrCrash 30 = .ok (.goto 57, 3) := by decide +kernel
theorem d_Ru_touchOrCrash_33 : decode b_Ru_touchOrCrash 33 = .ok (.iload_n 1, 1) := by decide +kernel
theorem d_Ru_touchOrCrash_34 : decode b_Ru_touchOrCrash 34 = .ok (.bipush 6, 2) := by decide +kernel
theorem d_Ru_touchOrCrash_36 : decode b_Ru_touchOrCrash 36 = .ok (.if_icmp .eq 9, 3) := by decide +kernel
theorem d_Ru_touchOrCrash_39 : decode b_Ru_touchOrCrash 39 = .ok (.iload_n 1, 1) := by decide +kernel
theorem d_Ru_touchOrCrash_40 : decode b_Ru_touchOrCrash 40 = .ok (.bipush 7, 2) := by decide +kernel
theorem d_Ru_touchOrCrash_42 : decode b_Ru_touchOrCrash 42 = .ok (.if_icmp .ne 30, 3) := by decide +kernel
theorem d_Ru_touchOrCrash_45 : decode b_Ru_touchOrCrash 45 = .ok (.aload_n 0, 1) := by decide +kernel
theorem d_Ru_touchOrCrash_46 : decode b_Ru_touchOrCrash 46 = .ok (.getfield 9, 3) := by decide +kernel
theorem d_Ru_touchOrCrash_49 : decode b_Ru_touchOrCrash 49 = .ok (.aload_n 0, 1) := by decide +kernel
theorem d_Ru_touchOrCrash_50 : decode b_Ru_touchOrCrash 50 = .ok (.getfield 18, 3) := by decide +kernel
theorem d_Ru_touchOrCrash_53 : decode b_Ru_touchOrCrash 53 = .ok (.getfield 93, 3) := by decide +kernel
theorem d_Ru_touchOrCrash_56 : decode b_Ru_touchOrCrash 56 = .ok (.iload_n 2, 1) := by decide +kernel
theorem d_Ru_touchOrCrash_57 : decode b_Ru_touchOrCrash 57 = .ok (.iaload, 1) := by decide +kernel
theorem d_Ru_touchOrCrash_58 : decode b_Ru_touchOrCrash 58 = .ok (.aload_n 0, 1) := by decide +kernel
theorem d_Ru_touchOrCrash_59 : decode b_Ru_touchOrCrash 59 = .ok (.getfield 22, 3) := by decide +kernel
theorem d_Ru_touchOrCrash_62 : decode b_Ru_touchOrCrash 62 = .ok (.iload_n 3, 1) := by decide +kernel
theorem d_Ru_touchOrCrash_63 : decode b_Ru_touchOrCrash 63 = .ok (.iload 4, 2) := by decide +kernel
theorem d_Ru_touchOrCrash_65 : decode b_Ru_touchOrCrash 65 = .ok (.invokevirtual 131, 3) := by decide +kernel
theorem d_Ru_touchOrCrash_68 : decode b_Ru_touchOrCrash 68 = .ok (.iastore, 1) := by decide +kernel
theorem d_Ru_touchOrCrash_69 : decode b_Ru_touchOrCrash 69 = .ok (.goto 18, 3) := by decide +kernel
theorem d_Ru_touchOrCrash_72 : decode b_Ru_touchOrCrash 72 = .ok (.aload_n 0, 1) := by decide +kernel
theorem d_Ru_touchOrCrash_73 : decode b_Ru_touchOrCrash 73 = .ok (.getfield 22, 3) := by decide +kernel
theorem d_Ru_touchOrCrash_76 : decode b_Ru_touchOrCrash 76 = .ok (.iload_n 3, 1) := by decide +kernel
theorem d_Ru_touchOrCrash_77 : decode b_Ru_touchOrCrash 77 = .ok (.iload 4, 2) := by decide +kernel
theorem d_Ru_touchOrCrash_79 : decode b_Ru_touchOrCrash 79 = .ok (.aload_n 0, 1) := by decide +kernel
theorem d_Ru_touchOrCrash_80 : decode b_Ru_touchOrCrash 80 = .ok (.iload_n 2, 1) := by decide +kernel
theorem d_Ru_touchOrCrash_81 : decode b_Ru_touchOrCrash 81 = .ok (.invokevirtual 106, 3) := by decide +kernel
theorem d_Ru_touchOrCrash_84 : decode b_Ru_touchOrCrash 84 = .ok (.invokevirtual 134, 3) := by decide +kernel
theorem d_Ru_touchOrCrash_87 : decode b_Ru_touchOrCrash 87 = .ok (.return_, 1) := by decide +kernel
theorem d_Me_load_0 : decode b_Me_load 0 = .ok (.iconst 0, 1) := by decide +kernel
theorem d_Me_load_1 : decode b_Me_load 1 = .ok (.istore_n 3, 1) := by decide +kernel
theorem d_Me_load_2 : decode b_Me_load 2 = .ok (.iload_n 2, 1) := by decide +kernel
theorem d_Me_load_3 : decode b_Me_load 3 = .ok (.iconst 1, 1) := by decide +kernel
theorem d_Me_load_4 : decode b_Me_load 4 = .ok (.isub, 1) := by decide +kernel
theorem d_Me_load_5 : decode b_Me_load 5 = .ok (.istore 4, 2) := by decide +kernel
theorem d_Me_load_7 : decode b_Me_load 7 = .ok (.iload 4, 2) := by decide +kernel
theorem d_Me_load_9 : decode b_Me_load 9 = .ok (.ifCond .lt 24, 3) := by decide +kernel
theorem d_Me_load_12 : decode b_Me_load 12 = .ok (.iload_n 3, 1) := by decide +kernel
theorem d_Me_load_13 : decode b_Me_load 13 = .ok (.bipush 8, 2) := by decide +kernel
theorem d_Me_load_15 : decode b_Me_load 15 = .ok (.ishl, 1) := by decide +kernel
theorem d_Me_load_16 : decode b_Me_load 16 = .ok (.aload_n 0, 1) := by decide +kernel
theorem d_Me_load_17 : decode b_Me_load 17 = .ok (.getfield 11, 3) := by decide +kernel
theorem d_Me_load_20 : decode b_Me_load 20 = .ok (.iload_n 1, 1) := by decide +kernel
theorem d_Me_load_21 : decode b_Me_load 21 = .ok (.iload 4, 2) := by decide +kernel
theorem d_Me_load_23 : decode b_Me_load 23 = .ok (.iadd, 1) := by decide +kernel
theorem d_Me_load_24 : decode b_Me_load 24 = .ok (.iaload, 1) := by decide +kernel
theorem d_Me_load_25 : decode b_Me_load 25 = .ok (.ior, 1) := by decide +kernel
theorem d_Me_load_26 : decode b_Me_load 26 = .ok (.istore_n 3, 1) := by decide +kernel
theorem d_Me_load_27 : decode b_Me_load 27 = .ok (.iinc 4 (-1), 3) := by decide +kernel
theorem d_Me_load_30 : decode b_Me_load 30 = .ok (.goto (-23), 3) := by decide +kernel
theorem d_Me_load_33 : decode b_Me_load 33 = .ok (.iload_n 3, 1) := by decide +kernel
theorem d_Me_load_34 : decode b_Me_load 34 = .ok (.ireturn, 1) := by decide +kernel
theorem d_Me_store_0 : decode b_Me_store 0 = .ok (.iconst 0, 1) := by decide +kernel
theorem d_Me_store_1 : decode b_Me_store 1 = .ok (.istore 4, 2) := by decide +kernel
theorem d_Me_store_3 : decode b_Me_store 3 = .ok (.iload 4, 2) := by decide +kernel
theorem d_Me_store_5 : decode b_Me_store 5 = .ok (.iload_n 2, 1) := by decide +kernel
theorem d_Me_store_6 : decode b_Me_store 6 = .ok (.if_icmp .ge 29, 3) := by decide +kernel
theorem d_Me_store_9 : decode b_Me_store 9 = .ok (.aload_n 0, 1) := by decide +kernel
theorem d_Me_store_10 : decode b_Me_store 10 = .ok (.getfield 11, 3) := by decide +kernel
theorem d_Me_store_13 : decode b_Me_store 13 = .ok (.iload_n 1, 1) := by decide +kernel
theorem d_Me_store_14 : decode b_Me_store 14 = .ok (.iload 4, 2) := by decide +kernel
theorem d_Me_store_16 : decode b_Me_store 16 = .ok (.iadd, 1) := by decide +kernel
theorem d_Me_store_17 : decode b_Me_store 17 = .ok (.iload_n 3, 1) := by decide +kernel
theorem d_Me_store_18 : decode b_Me_store 18 = .ok (.bipush 8, 2) := by decide +kernel
theorem d_Me_store_20 : decode b_Me_store 20 = .ok (.iload 4, 2) := by decide +kernel
theorem d_Me_store_22 : decode b_Me_store 22 = .ok (.imul, 1) := by decide +kernel
theorem d_Me_store_23 : decode b_Me_store 23 = .ok (.iushr, 1) := by decide +kernel
theorem d_Me_store_24 : decode b_Me_store 24 = .ok (.sipush 255, 3) := by decide +kernel
theorem d_Me_store_27 : decode b_Me_store 27 = .ok (.iand, 1) := by decide +kernel
theorem d_Me_store_28 : decode b_Me_store 28 = .ok (.iastore, 1) := by decide +kernel
theorem d_Me_store_29 : decode b_Me_store 29 = .ok (.iinc 4 1, 3) := by decide +kernel
theorem d_Me_store_32 : decode b_Me_store 32 = .ok (.goto (-29), 3) := by decide +kernel
theorem d_Me_store_35 : decode b_Me_store 35 = .ok (.return_, 1) := by decide +kernel
theorem d_Ru_print_0 : decode b_Ru_print 0 = .ok (.aload_n 0, 1) := by decide +kernel
theorem d_Ru_print_1 : decode b_Ru_print 1 = .ok (.getfield 47, 3) := by decide +kernel
theorem d_Ru_print_4 : decode b_Ru_print 4 = .ok (.bipush 60, 2) := by decide +kernel
theorem d_Ru_print_6 : decode b_Ru_print 6 = .ok (.if_icmp .ge 23, 3) := by decide +kernel
theorem d_Ru_print_9 : decode b_Ru_print 9 = .ok (.aload_n 0, 1) := by decide +kernel
theorem d_Ru_print_10 : decode b_Ru_print 10 = .ok (.getfield 15, 3) := by decide +kernel
theorem d_Ru_print_13 : decode b_Ru_print 13 = .ok (.aload_n 0, 1) := by decide +kernel
theorem d_Ru_print_14 : decode b_Ru_print 14 = .ok (.getfield 47, 3) := by decide +kernel
theorem d_Ru_print_17 : decode b_Ru_print 17 = .ok (.iload_n 1, 1) := by decide +kernel
theorem d_Ru_print_18 : decode b_Ru_print 18 = .ok (.iastore, 1) := by decide +kernel
theorem d_Ru_print_19 : decode b_Ru_print 19 = .ok (.aload_n 0, 1) := by decide +kernel
theorem d_Ru_print_20 : decode b_Ru_print 20 = .ok (.dup, 1) := by decide +kernel
theorem d_Ru_print_21 : decode b_Ru_print 21 = .ok (.getfield 47, 3) := by decide +kernel
theorem d_Ru_print_24 : decode b_Ru_print 24 = .ok (.iconst 1, 1) := by decide +kernel
theorem d_Ru_print_25 : decode b_Ru_print 25 = .ok (.iadd, 1) := by decide +kernel
theorem d_Ru_print_26 : decode b_Ru_print 26 = .ok (.putfield 47, 3) := by decide +kernel
theorem d_Ru_print_29 : decode b_Ru_print 29 = .ok (.return_, 1) := by decide +kernel
theorem d_Ru_computed_0 : decode b_Ru_computed 0 = .ok (.iload_n 1, 1) := by decide +kernel
theorem d_Ru_computed_1 : decode b_Ru_computed 1 = .ok (.lookupswitch 95 #[(1, 43), (2, 55), (3, 67), (13, 79)], 43) := by decide +kernel
theorem d_Ru_computed_44 : decode b_Ru_computed 44 = .ok (.aload_n 0, 1) := by decide +kernel
theorem d_Ru_computed_45 : decode b_Ru_computed 45 = .ok (.iload_n 2, 1) := by decide +kernel
theorem d_Ru_computed_46 : decode b_Ru_computed 46 = .ok (.invokevirtual 72, 3) := by decide +kernel
theorem d_Ru_computed_49 : decode b_Ru_computed 49 = .ok (.aload_n 0, 1) := by decide +kernel
theorem d_Ru_computed_50 : decode b_Ru_computed 50 = .ok (.iload_n 2, 1) := by decide +kernel
theorem d_Ru_computed_51 : decode b_Ru_computed 51 = .ok (.invokevirtual 106, 3) := by decide +kernel
theorem d_Ru_computed_54 : decode b_Ru_computed 54 = .ok (.iadd, 1) := by decide +kernel
theorem d_Ru_computed_55 : decode b_Ru_computed 55 = .ok (.ireturn, 1) := by decide +kernel
theorem d_Ru_computed_56 : decode b_Ru_computed 56 = .ok (.aload_n 0, 1) := by decide +kernel
theorem d_Ru_computed_57 : decode b_Ru_computed 57 = .ok (.iload_n 2, 1) := by decide +kernel
theorem d_Ru_computed_58 : decode b_Ru_computed 58 = .ok (.invokevirtual 72, 3) := by decide +kernel
theorem d_Ru_computed_61 : decode b_Ru_computed 61 = .ok (.aload_n 0, 1) := by decide +kernel
theorem d_Ru_computed_62 : decode b_Ru_computed 62 = .ok (.iload_n 2, 1) := by decide +kernel
theorem d_Ru_computed_63 : decode b_Ru_computed 63 = .ok (.invokevirtual 106, 3) := by decide +kernel
theorem d_Ru_computed_66 : decode b_Ru_computed 66 = .ok (.isub, 1) := by decide +kernel
theorem d_Ru_computed_67 : decode b_Ru_computed 67 = .ok (.ireturn, 1) := by decide +kernel
theorem d_Ru_computed_68 : decode b_Ru_computed 68 = .ok (.aload_n 0, 1) := by decide +kernel
theorem d_Ru_computed_69 : decode b_Ru_computed 69 = .ok (.iload_n 2, 1) := by decide +kernel
theorem d_Ru_computed_70 : decode b_Ru_computed 70 = .ok (.invokevirtual 72, 3) := by decide +kernel
theorem d_Ru_computed_73 : decode b_Ru_computed 73 = .ok (.aload_n 0, 1) := by decide +kernel
theorem d_Ru_computed_74 : decode b_Ru_computed 74 = .ok (.iload_n 2, 1) := by decide +kernel
theorem d_Ru_computed_75 : decode b_Ru_computed 75 = .ok (.invokevirtual 106, 3) := by decide +kernel
theorem d_Ru_computed_78 : decode b_Ru_computed 78 = .ok (.imul, 1) := by decide +kernel
theorem d_Ru_computed_79 : decode b_Ru_computed 79 = .ok (.ireturn, 1) := by decide +kernel
theorem d_Ru_computed_80 : decode b_Ru_computed 80 = .ok (.aload_n 0, 1) := by decide +kernel
theorem d_Ru_computed_81 : decode b_Ru_computed 81 = .ok (.iload_n 2, 1) := by decide +kernel
theorem d_Ru_computed_82 : decode b_Ru_computed 82 = .ok (.invokevirtual 72, 3) := by decide +kernel
theorem d_Ru_computed_85 : decode b_Ru_computed 85 = .ok (.aload_n 0, 1) := by decide +kernel
theorem d_Ru_computed_86 : decode b_Ru_computed 86 = .ok (.getfield 18, 3) := by decide +kernel
theorem d_Ru_computed_89 : decode b_Ru_computed 89 = .ok (.getfield 109, 3) := by decide +kernel
theorem d_Ru_computed_92 : decode b_Ru_computed 92 = .ok (.iload_n 2, 1) := by decide +kernel
theorem d_Ru_computed_93 : decode b_Ru_computed 93 = .ok (.iaload, 1) := by decide +kernel
theorem d_Ru_computed_94 : decode b_Ru_computed 94 = .ok (.iadd, 1) := by decide +kernel
theorem d_Ru_computed_95 : decode b_Ru_computed 95 = .ok (.ireturn, 1) := by decide +kernel
theorem d_Ru_computed_96 : decode b_Ru_computed 96 = .ok (.aload_n 0, 1) := by decide +kernel
theorem d_Ru_computed_97 : decode b_Ru_computed 97 = .ok (.getfield 18, 3) := by decide +kernel
theorem d_Ru_computed_100 : decode b_Ru_computed 100 = .ok (.getfield 109, 3) := by decide +kernel
theorem d_Ru_computed_103 : decode b_Ru_computed 103 = .ok (.iload_n 2, 1) := by decide +kernel
theorem d_Ru_computed_104 : decode b_Ru_computed 104 = .ok (.iaload, 1) := by decide +kernel
theorem d_Ru_computed_105 : decode b_Ru_computed 105 = .ok (.ireturn, 1) := by decide +kernel
theorem d_Ru_goOnAt_0 : decode b_Ru_goOnAt 0 = .ok (.iload_n 1, 1) := by decide +kernel
theorem d_Ru_goOnAt_1 : decode b_Ru_goOnAt 1 = .ok (.aload_n 0, 1) := by decide +kernel
theorem d_Ru_goOnAt_2 : decode b_Ru_goOnAt 2 = .ok (.getfield 32, 3) := by decide +kernel
theorem d_Ru_goOnAt_5 : decode b_Ru_goOnAt 5 = .ok (.getfield 103, 3) := by decide +kernel
theorem d_Ru_goOnAt_8 : decode b_Ru_goOnAt 8 = .ok (.if_icmp .lt 11, 3) := by decide +kernel
theorem d_Ru_goOnAt_11 : decode b_Ru_goOnAt 11 = .ok (.aload_n 0, 1) := by decide +kernel
theorem d_Ru_goOnAt_12 : decode b_Ru_goOnAt 12 = .ok (.iconst 2, 1) := by decide +kernel
theorem d_Ru_goOnAt_13 : decode b_Ru_goOnAt 13 = .ok (.putfield 35, 3) := by decide +kernel
theorem d_Ru_goOnAt_16 : decode b_Ru_goOnAt 16 = .ok (.goto 8, 3) := by decide +kernel
theorem d_Ru_goOnAt_19 : decode b_Ru_goOnAt 19 = .ok (.aload_n 0, 1) := by decide +kernel
theorem d_Ru_goOnAt_20 : decode b_Ru_goOnAt 20 = .ok (.iload_n 1, 1) := by decide +kernel
theorem d_Ru_goOnAt_21 : decode b_Ru_goOnAt 21 = .ok (.putfield 50, 3) := by decide +kernel
theorem d_Ru_goOnAt_24 : decode b_Ru_goOnAt 24 = .ok (.return_, 1) := by decide +kernel
theorem d_La_look_0 : decode b_La_look 0 = .ok (.aload_n 2, 1) := by decide +kernel
theorem d_La_look_1 : decode b_La_look 1 = .ok (.iconst 0, 1) := by decide +kernel
theorem d_La_look_2 : decode b_La_look 2 = .ok (.aload_n 0, 1) := by decide +kernel
theorem d_La_look_3 : decode b_La_look 3 = .ok (.iload_n 1, 1) := by decide +kernel
theorem d_La_look_4 : decode b_La_look 4 = .ok (.invokevirtual 35, 3) := by decide +kernel
theorem d_La_look_7 : decode b_La_look 7 = .ok (.i2l, 1) := by decide +kernel
theorem d_La_look_8 : decode b_La_look 8 = .ok (.lastore, 1) := by decide +kernel
theorem d_La_look_9 : decode b_La_look 9 = .ok (.goto 6, 3) := by decide +kernel
theorem d_La_look_12 : decode b_La_look 12 = .ok (.astore_n 3, 1) := by decide +kernel
theorem d_La_look_13 : decode b_La_look 13 = .ok (.iconst 1, 1) := by decide +kernel
theorem d_La_look_14 : decode b_La_look 14 = .ok (.ireturn, 1) := by decide +kernel
theorem d_La_look_15 : decode b_La_look 15 = .ok (.iconst 0, 1) := by decide +kernel
theorem d_La_look_16 : decode b_La_look 16 = .ok (.ireturn, 1) := by decide +kernel
theorem d_S_look_0 : decode b_S_look 0 = .ok (.iload_n 1, 1) := by decide +kernel
theorem d_S_look_1 : decode b_S_look 1 = .ok (.ifCond .lt 8, 3) := by decide +kernel
theorem d_S_look_4 : decode b_S_look 4 = .ok (.iload_n 1, 1) := by decide +kernel
theorem d_S_look_5 : decode b_S_look 5 = .ok (.iconst 5, 1) := by decide +kernel
theorem d_S_look_6 : decode b_S_look 6 = .ok (.if_icmp .le 13, 3) := by decide +kernel
theorem d_S_look_9 : decode b_S_look 9 = .ok (.new 32, 3) := by decide +kernel
theorem d_S_look_12 : decode b_S_look 12 = .ok (.dup, 1) := by decide +kernel
theorem d_S_look_13 : decode b_S_look 13 = .ok (.ldc 110, 2) := by decide +kernel
theorem d_S_look_15 : decode b_S_look 15 = .ok (.invokespecial 36, 3) := by decide +kernel
theorem d_S_look_18 : decode b_S_look 18 = .ok (.athrow, 1) := by decide +kernel
theorem d_S_look_19 : decode b_S_look 19 = .ok (.iload_n 1, 1) := by decide +kernel
theorem d_S_look_20 : decode b_S_look 20 = .ok (.iconst 5, 1) := by decide +kernel
theorem d_S_look_21 : decode b_S_look 21 = .ok (.if_icmp .ne 11, 3) := by decide +kernel
theorem d_S_look_24 : decode b_S_look 24 = .ok (.aload_n 0, 1) := by decide +kernel
theorem d_S_look_25 : decode b_S_look 25 = .ok (.getfield 10, 3) := by decide +kernel
theorem d_S_look_28 : decode b_S_look 28 = .ok (.invokevirtual 45, 3) := by decide +kernel
theorem d_S_look_31 : decode b_S_look 31 = .ok (.ireturn, 1) := by decide +kernel
theorem d_S_look_32 : decode b_S_look 32 = .ok (.aload_n 0, 1) := by decide +kernel
theorem d_S_look_33 : decode b_S_look 33 = .ok (.getfield 28, 3) := by decide +kernel
theorem d_S_look_36 : decode b_S_look 36 = .ok (.getfield 100, 3) := by decide +kernel
theorem d_S_look_39 : decode b_S_look 39 = .ok (.ifCond .ne 5, 3) := by decide +kernel
theorem d_S_look_42 : decode b_S_look 42 = .ok (.iconst 0, 1) := by decide +kernel
theorem d_S_look_43 : decode b_S_look 43 = .ok (.ireturn, 1) := by decide +kernel
theorem d_S_look_44 : decode b_S_look 44 = .ok (.iload_n 1, 1) := by decide +kernel
theorem d_S_look_45 : decode b_S_look 45 = .ok (.tableswitch 63 0 3 #[31, 39, 47, 55], 31) := by decide +kernel
theorem d_S_look_76 : decode b_S_look 76 = .ok (.aload_n 0, 1) := by decide +kernel
theorem d_S_look_77 : decode b_S_look 77 = .ok (.getfield 28, 3) := by decide +kernel
theorem d_S_look_80 : decode b_S_look 80 = .ok (.getfield 100, 3) := by decide +kernel
theorem d_S_look_83 : decode b_S_look 83 = .ok (.ireturn, 1) := by decide +kernel
theorem d_S_look_84 : decode b_S_look 84 = .ok (.aload_n 0, 1) := by decide +kernel
theorem d_S_look_85 : decode b_S_look 85 = .ok (.getfield 28, 3) := by decide +kernel
theorem d_S_look_88 : decode b_S_look 88 = .ok (.getfield 112, 3) := by decide +kernel
theorem d_S_look_91 : decode b_S_look 91 = .ok (.ireturn, 1) := by decide +kernel
theorem d_S_look_92 : decode b_S_look 92 = .ok (.aload_n 0, 1) := by decide +kernel
theorem d_S_look_93 : decode b_S_look 93 = .ok (.getfield 28, 3) := by decide +kernel
theorem d_S_look_96 : decode b_S_look 96 = .ok (.getfield 115, 3) := by decide +kernel
theorem d_S_look_99 : decode b_S_look 99 = .ok (.ireturn, 1) := by decide +kernel
theorem d_S_look_100 : decode b_S_look 100 = .ok (.aload_n 0, 1) := by decide +kernel
theorem d_S_look_101 : decode b_S_look 101 = .ok (.getfield 19, 3) := by decide +kernel
theorem d_S_look_104 : decode b_S_look 104 = .ok (.getfield 118, 3) := by decide +kernel
theorem d_S_look_107 : decode b_S_look 107 = .ok (.ireturn, 1) := by decide +kernel
theorem d_S_look_108 : decode b_S_look 108 = .ok (.aload_n 0, 1) := by decide +kernel
theorem d_S_look_109 : decode b_S_look 109 = .ok (.getfield 19, 3) := by decide +kernel
theorem d_S_look_112 : decode b_S_look 112 = .ok (.getfield 121, 3) := by decide +kernel
theorem d_S_look_115 : decode b_S_look 115 = .ok (.ireturn, 1) := by decide +kernel
theorem d_La_register_0 : decode b_La_register 0 = .ok (.aload_n 2, 1) := by decide +kernel
theorem d_La_register_1 : decode b_La_register 1 = .ok (.iconst 0, 1) := by decide +kernel
theorem d_La_register_2 : decode b_La_register 2 = .ok (.aload_n 0, 1) := by decide +kernel
theorem d_La_register_3 : decode b_La_register 3 = .ok (.iload_n 1, 1) := by decide +kernel
theorem d_La_register_4 : decode b_La_register 4 = .ok (.invokevirtual 38, 3) := by decide +kernel
theorem d_La_register_7 : decode b_La_register 7 = .ok (.i2l, 1) := by decide +kernel
theorem d_La_register_8 : decode b_La_register 8 = .ok (.lastore, 1) := by decide +kernel
theorem d_La_register_9 : decode b_La_register 9 = .ok (.goto 6, 3) := by decide +kernel
theorem d_La_register_12 : decode b_La_register 12 = .ok (.astore_n 3, 1) := by decide +kernel
theorem d_La_register_13 : decode b_La_register 13 = .ok (.iconst 1, 1) := by decide +kernel
theorem d_La_register_14 : decode b_La_register 14 = .ok (.ireturn, 1) := by decide +kernel
theorem d_La_register_15 : decode b_La_register 15 = .ok (.iconst 0, 1) := by decide +kernel
theorem d_La_register_16 : decode b_La_register 16 = .ok (.ireturn, 1) := by decide +kernel
theorem d_S_register_0 : decode b_S_register 0 = .ok (.iload_n 1, 1) := by decide +kernel
theorem d_S_register_1 : decode b_S_register 1 = .ok (.invokestatic 39, 3) := by decide +kernel
theorem d_S_register_4 : decode b_S_register 4 = .ok (.ifCond .ne 13, 3) := by decide +kernel
theorem d_S_register_7 : decode b_S_register 7 = .ok (.new 32, 3) := by decide +kernel
theorem d_S_register_10 : decode b_S_register 10 = .ok (.dup, 1) := by decide +kernel
theorem d_S_register_11 : decode b_S_register 11 = .ok (.ldc 43, 2) := by decide +kernel
theorem d_S_register_13 : decode b_S_register 13 = .ok (.invokespecial 36, 3) := by decide +kernel
theorem d_S_register_16 : decode b_S_register 16 = .ok (.athrow, 1) := by decide +kernel
theorem d_S_register_17 : decode b_S_register 17 = .ok (.aload_n 0, 1) := by decide +kernel
theorem d_S_register_18 : decode b_S_register 18 = .ok (.getfield 28, 3) := by decide +kernel
theorem d_S_register_21 : decode b_S_register 21 = .ok (.getfield 100, 3) := by decide +kernel
theorem d_S_register_24 : decode b_S_register 24 = .ok (.ifCond .ne 7, 3) := by decide +kernel
theorem d_S_register_27 : decode b_S_register 27 = .ok (.iconst 0, 1) := by decide +kernel
theorem d_S_register_28 : decode b_S_register 28 = .ok (.goto 12, 3) := by decide +kernel
theorem d_S_register_31 : decode b_S_register 31 = .ok (.aload_n 0, 1) := by decide +kernel
theorem d_S_register_32 : decode b_S_register 32 = .ok (.getfield 28, 3) := by decide +kernel
theorem d_S_register_35 : decode b_S_register 35 = .ok (.getfield 124, 3) := by decide +kernel
theorem d_S_register_38 : decode b_S_register 38 = .ok (.iload_n 1, 1) := by decide +kernel
theorem d_S_register_39 : decode b_S_register 39 = .ok (.iaload, 1) := by decide +kernel
theorem d_S_register_40 : decode b_S_register 40 = .ok (.ireturn, 1) := by decide +kernel
theorem d_La_printed_0 : decode b_La_printed 0 = .ok (.aload_n 2, 1) := by decide +kernel
theorem d_La_printed_1 : decode b_La_printed 1 = .ok (.iconst 0, 1) := by decide +kernel
theorem d_La_printed_2 : decode b_La_printed 2 = .ok (.aload_n 0, 1) := by decide +kernel
theorem d_La_printed_3 : decode b_La_printed 3 = .ok (.iload_n 1, 1) := by decide +kernel
theorem d_La_printed_4 : decode b_La_printed 4 = .ok (.invokevirtual 41, 3) := by decide +kernel
theorem d_La_printed_7 : decode b_La_printed 7 = .ok (.i2l, 1) := by decide +kernel
theorem d_La_printed_8 : decode b_La_printed 8 = .ok (.lastore, 1) := by decide +kernel
theorem d_La_printed_9 : decode b_La_printed 9 = .ok (.goto 6, 3) := by decide +kernel
theorem d_La_printed_12 : decode b_La_printed 12 = .ok (.astore_n 3, 1) := by decide +kernel
theorem d_La_printed_13 : decode b_La_printed 13 = .ok (.iconst 1, 1) := by decide +kernel
theorem d_La_printed_14 : decode b_La_printed 14 = .ok (.ireturn, 1) := by decide +kernel
theorem d_La_printed_15 : decode b_La_printed 15 = .ok (.iconst 0, 1) := by decide +kernel
theorem d_La_printed_16 : decode b_La_printed 16 = .ok (.ireturn, 1) := by decide +kernel
theorem d_S_printed_0 : decode b_S_printed 0 = .ok (.aload_n 0, 1) := by decide +kernel
theorem d_S_printed_1 : decode b_S_printed 1 = .ok (.getfield 28, 3) := by decide +kernel
theorem d_S_printed_4 : decode b_S_printed 4 = .ok (.getfield 100, 3) := by decide +kernel
theorem d_S_printed_7 : decode b_S_printed 7 = .ok (.ifCond .eq 18, 3) := by decide +kernel
theorem d_S_printed_10 : decode b_S_printed 10 = .ok (.iload_n 1, 1) := by decide +kernel
theorem d_S_printed_11 : decode b_S_printed 11 = .ok (.ifCond .lt 14, 3) := by decide +kernel
theorem d_S_printed_14 : decode b_S_printed 14 = .ok (.iload_n 1, 1) := by decide +kernel
theorem d_S_printed_15 : decode b_S_printed 15 = .ok (.aload_n 0, 1) := by decide +kernel
theorem d_S_printed_16 : decode b_S_printed 16 = .ok (.getfield 28, 3) := by decide +kernel
theorem d_S_printed_19 : decode b_S_printed 19 = .ok (.getfield 115, 3) := by decide +kernel
theorem d_S_printed_22 : decode b_S_printed 22 = .ok (.if_icmp .lt 13, 3) := by decide +kernel
theorem d_S_printed_25 : decode b_S_printed 25 = .ok (.new 49, 3) := by decide +kernel
theorem d_S_printed_28 : decode b_S_printed 28 = .ok (.dup, 1) := by decide +kernel
theorem d_S_printed_29 : decode b_S_printed 29 = .ok (.ldc 127, 2) := by decide +kernel
theorem d_S_printed_31 : decode b_S_printed 31 = .ok (.invokespecial 53, 3) := by decide +kernel
theorem d_S_printed_34 : decode b_S_printed 34 = .ok (.athrow, 1) := by decide +kernel
theorem d_S_printed_35 : decode b_S_printed 35 = .ok (.aload_n 0, 1) := by decide +kernel
theorem d_S_printed_36 : decode b_S_printed 36 = .ok (.getfield 28, 3) := by decide +kernel
theorem d_S_printed_39 : decode b_S_printed 39 = .ok (.getfield 129, 3) := by decide +kernel
theorem d_S_printed_42 : decode b_S_printed 42 = .ok (.iload_n 1, 1) := by decide +kernel
theorem d_S_printed_43 : decode b_S_printed 43 = .ok (.iaload, 1) := by decide +kernel
theorem d_S_printed_44 : decode b_S_printed 44 = .ok (.ireturn, 1) := by decide +kernel
theorem d_La_heap_0 : decode b_La_heap 0 = .ok (.aload_n 2, 1) := by decide +kernel
theorem d_La_heap_1 : decode b_La_heap 1 = .ok (.iconst 0, 1) := by decide +kernel
theorem d_La_heap_2 : decode b_La_heap 2 = .ok (.aload_n 0, 1) := by decide +kernel
theorem d_La_heap_3 : decode b_La_heap 3 = .ok (.iload_n 1, 1) := by decide +kernel
theorem d_La_heap_4 : decode b_La_heap 4 = .ok (.invokevirtual 44, 3) := by decide +kernel
theorem d_La_heap_7 : decode b_La_heap 7 = .ok (.i2l, 1) := by decide +kernel
theorem d_La_heap_8 : decode b_La_heap 8 = .ok (.lastore, 1) := by decide +kernel
theorem d_La_heap_9 : decode b_La_heap 9 = .ok (.goto 6, 3) := by decide +kernel
theorem d_La_heap_12 : decode b_La_heap 12 = .ok (.astore_n 3, 1) := by decide +kernel
theorem d_La_heap_13 : decode b_La_heap 13 = .ok (.iconst 1, 1) := by decide +kernel
theorem d_La_heap_14 : decode b_La_heap 14 = .ok (.ireturn, 1) := by decide +kernel
theorem d_La_heap_15 : decode b_La_heap 15 = .ok (.iconst 0, 1) := by decide +kernel
theorem d_La_heap_16 : decode b_La_heap 16 = .ok (.ireturn, 1) := by decide +kernel
theorem d_S_heap_0 : decode b_S_heap 0 = .ok (.iload_n 1, 1) := by decide +kernel
theorem d_S_heap_1 : decode b_S_heap 1 = .ok (.iconst 1, 1) := by decide +kernel
theorem d_S_heap_2 : decode b_S_heap 2 = .ok (.invokestatic 132, 3) := by decide +kernel
theorem d_S_heap_5 : decode b_S_heap 5 = .ok (.ifCond .ne 13, 3) := by decide +kernel
theorem d_S_heap_8 : decode b_S_heap 8 = .ok (.new 49, 3) := by decide +kernel
theorem d_S_heap_11 : decode b_S_heap 11 = .ok (.dup, 1) := by decide +kernel
theorem d_S_heap_12 : decode b_S_heap 12 = .ok (.ldc 136, 2) := by decide +kernel
theorem d_S_heap_14 : decode b_S_heap 14 = .ok (.invokespecial 53, 3) := by decide +kernel
theorem d_S_heap_17 : decode b_S_heap 17 = .ok (.athrow, 1) := by decide +kernel
theorem d_S_heap_18 : decode b_S_heap 18 = .ok (.aload_n 0, 1) := by decide +kernel
theorem d_S_heap_19 : decode b_S_heap 19 = .ok (.getfield 19, 3) := by decide +kernel
theorem d_S_heap_22 : decode b_S_heap 22 = .ok (.getfield 138, 3) := by decide +kernel
theorem d_S_heap_25 : decode b_S_heap 25 = .ok (.iload_n 1, 1) := by decide +kernel
theorem d_S_heap_26 : decode b_S_heap 26 = .ok (.iaload, 1) := by decide +kernel
theorem d_S_heap_27 : decode b_S_heap 27 = .ok (.ireturn, 1) := by decide +kernel
theorem d_La_shadow_0 : decode b_La_shadow 0 = .ok (.aload_n 2, 1) := by decide +kernel
theorem d_La_shadow_1 : decode b_La_shadow 1 = .ok (.iconst 0, 1) := by decide +kernel
theorem d_La_shadow_2 : decode b_La_shadow 2 = .ok (.aload_n 0, 1) := by decide +kernel
theorem d_La_shadow_3 : decode b_La_shadow 3 = .ok (.iload_n 1, 1) := by decide +kernel
theorem d_La_shadow_4 : decode b_La_shadow 4 = .ok (.invokevirtual 47, 3) := by decide +kernel
theorem d_La_shadow_7 : decode b_La_shadow 7 = .ok (.i2l, 1) := by decide +kernel
theorem d_La_shadow_8 : decode b_La_shadow 8 = .ok (.lastore, 1) := by decide +kernel
theorem d_La_shadow_9 : decode b_La_shadow 9 = .ok (.goto 6, 3) := by decide +kernel
theorem d_La_shadow_12 : decode b_La_shadow 12 = .ok (.astore_n 3, 1) := by decide +kernel
theorem d_La_shadow_13 : decode b_La_shadow 13 = .ok (.iconst 1, 1) := by decide +kernel
theorem d_La_shadow_14 : decode b_La_shadow 14 = .ok (.ireturn, 1) := by decide +kernel
theorem d_La_shadow_15 : decode b_La_shadow 15 = .ok (.iconst 0, 1) := by decide +kernel
theorem d_La_shadow_16 : decode b_La_shadow 16 = .ok (.ireturn, 1) := by decide +kernel
theorem d_S_shadow_0 : decode b_S_shadow 0 = .ok (.iload_n 1, 1) := by decide +kernel
