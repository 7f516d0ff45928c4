theorem d_Mo_release_19 : decode b_Mo_release 19 = .ok (.iload_n 2, 1) := by decide +kernel
theorem d_Mo_release_20 : decode b_Mo_release 20 = .ok (.aload_n 0, 1) := by decide +kernel
theorem d_Mo_release_21 : decode b_Mo_release 21 = .ok (.getfield 83, 3) := by decide +kernel
theorem d_Mo_release_24 : decode b_Mo_release 24 = .ok (.if_icmp .ge 23, 3) := by decide +kernel
theorem d_Mo_release_27 : decode b_Mo_release 27 = .ok (.aload_n 0, 1) := by decide +kernel
theorem d_Mo_release_28 : decode b_Mo_release 28 = .ok (.getfield 37, 3) := by decide +kernel
theorem d_Mo_release_31 : decode b_Mo_release 31 = .ok (.iload_n 2, 1) := by decide +kernel
theorem d_Mo_release_32 : decode b_Mo_release 32 = .ok (.aload_n 0, 1) := by decide +kernel
theorem d_Mo_release_33 : decode b_Mo_release 33 = .ok (.getfield 37, 3) := by decide +kernel
theorem d_Mo_release_36 : decode b_Mo_release 36 = .ok (.iload_n 2, 1) := by decide +kernel
theorem d_Mo_release_37 : decode b_Mo_release 37 = .ok (.iconst 1, 1) := by decide +kernel
theorem d_Mo_release_38 : decode b_Mo_release 38 = .ok (.iadd, 1) := by decide +kernel
theorem d_Mo_release_39 : decode b_Mo_release 39 = .ok (.iaload, 1) := by decide +kernel
theorem d_Mo_release_40 : decode b_Mo_release 40 = .ok (.iastore, 1) := by decide +kernel
theorem d_Mo_release_41 : decode b_Mo_release 41 = .ok (.iinc 2 1, 3) := by decide +kernel
theorem d_Mo_release_44 : decode b_Mo_release 44 = .ok (.goto (-25), 3) := by decide +kernel
theorem d_Mo_release_47 : decode b_Mo_release 47 = .ok (.iload_n 1, 1) := by decide +kernel
theorem d_Mo_release_48 : decode b_Mo_release 48 = .ok (.istore_n 2, 1) := by decide +kernel
theorem d_Mo_release_49 : decode b_Mo_release 49 = .ok (.iload_n 2, 1) := by decide +kernel
theorem d_Mo_release_50 : decode b_Mo_release 50 = .ok (.iload_n 1, 1) := by decide +kernel
theorem d_Mo_release_51 : decode b_Mo_release 51 = .ok (.aload_n 0, 1) := by decide +kernel
theorem d_Mo_release_52 : decode b_Mo_release 52 = .ok (.getfield 34, 3) := by decide +kernel
theorem d_Mo_release_55 : decode b_Mo_release 55 = .ok (.iload_n 1, 1) := by decide +kernel
theorem d_Mo_release_56 : decode b_Mo_release 56 = .ok (.iaload, 1) := by decide +kernel
theorem d_Mo_release_57 : decode b_Mo_release 57 = .ok (.iadd, 1) := by decide +kernel
theorem d_Mo_release_58 : decode b_Mo_release 58 = .ok (.if_icmp .ge 24, 3) := by decide +kernel
theorem d_Mo_release_61 : decode b_Mo_release 61 = .ok (.aload_n 0, 1) := by decide +kernel
theorem d_Mo_release_62 : decode b_Mo_release 62 = .ok (.getfield 31, 3) := by decide +kernel
theorem d_Mo_release_65 : decode b_Mo_release 65 = .ok (.iload_n 2, 1) := by decide +kernel
theorem d_Mo_release_66 : decode b_Mo_release 66 = .ok (.iconst 0, 1) := by decide +kernel
theorem d_Mo_release_67 : decode b_Mo_release 67 = .ok (.iastore, 1) := by decide +kernel
theorem d_Mo_release_68 : decode b_Mo_release 68 = .ok (.aload_n 0, 1) := by decide +kernel
theorem d_Mo_release_69 : decode b_Mo_release 69 = .ok (.getfield 28, 3) := by decide +kernel
theorem d_Mo_release_72 : decode b_Mo_release 72 = .ok (.iload_n 2, 1) := by decide +kernel
theorem d_Mo_release_73 : decode b_Mo_release 73 = .ok (.bipush (-3), 2) := by decide +kernel
theorem d_Mo_release_75 : decode b_Mo_release 75 = .ok (.iastore, 1) := by decide +kernel
theorem d_Mo_release_76 : decode b_Mo_release 76 = .ok (.iinc 2 1, 3) := by decide +kernel
theorem d_Mo_release_79 : decode b_Mo_release 79 = .ok (.goto (-30), 3) := by decide +kernel
theorem d_Mo_release_82 : decode b_Mo_release 82 = .ok (.aload_n 0, 1) := by decide +kernel
theorem d_Mo_release_83 : decode b_Mo_release 83 = .ok (.getfield 34, 3) := by decide +kernel
theorem d_Mo_release_86 : decode b_Mo_release 86 = .ok (.iload_n 1, 1) := by decide +kernel
theorem d_Mo_release_87 : decode b_Mo_release 87 = .ok (.iconst 0, 1) := by decide +kernel
theorem d_Mo_release_88 : decode b_Mo_release 88 = .ok (.iastore, 1) := by decide +kernel
theorem d_Mo_release_89 : decode b_Mo_release 89 = .ok (.return_, 1) := by decide +kernel
theorem d_Mo_free_0 : decode b_Mo_free 0 = .ok (.iload_n 1, 1) := by decide +kernel
theorem d_Mo_free_1 : decode b_Mo_free 1 = .ok (.bipush 8, 2) := by decide +kernel
theorem d_Mo_free_3 : decode b_Mo_free 3 = .ok (.idiv, 1) := by decide +kernel
theorem d_Mo_free_4 : decode b_Mo_free 4 = .ok (.iconst 1, 1) := by decide +kernel
theorem d_Mo_free_5 : decode b_Mo_free 5 = .ok (.isub, 1) := by decide +kernel
theorem d_Mo_free_6 : decode b_Mo_free 6 = .ok (.istore_n 2, 1) := by decide +kernel
theorem d_Mo_free_7 : decode b_Mo_free 7 = .ok (.iload_n 2, 1) := by decide +kernel
theorem d_Mo_free_8 : decode b_Mo_free 8 = .ok (.istore_n 3, 1) := by decide +kernel
theorem d_Mo_free_9 : decode b_Mo_free 9 = .ok (.iload_n 3, 1) := by decide +kernel
theorem d_Mo_free_10 : decode b_Mo_free 10 = .ok (.iload_n 2, 1) := by decide +kernel
theorem d_Mo_free_11 : decode b_Mo_free 11 = .ok (.aload_n 0, 1) := by decide +kernel
theorem d_Mo_free_12 : decode b_Mo_free 12 = .ok (.getfield 34, 3) := by decide +kernel
theorem d_Mo_free_15 : decode b_Mo_free 15 = .ok (.iload_n 2, 1) := by decide +kernel
theorem d_Mo_free_16 : decode b_Mo_free 16 = .ok (.iaload, 1) := by decide +kernel
theorem d_Mo_free_17 : decode b_Mo_free 17 = .ok (.iadd, 1) := by decide +kernel
theorem d_Mo_free_18 : decode b_Mo_free 18 = .ok (.if_icmp .ge 16, 3) := by decide +kernel
theorem d_Mo_free_21 : decode b_Mo_free 21 = .ok (.aload_n 0, 1) := by decide +kernel
theorem d_Mo_free_22 : decode b_Mo_free 22 = .ok (.getfield 31, 3) := by decide +kernel
theorem d_Mo_free_25 : decode b_Mo_free 25 = .ok (.iload_n 3, 1) := by decide +kernel
theorem d_Mo_free_26 : decode b_Mo_free 26 = .ok (.iconst 2, 1) := by decide +kernel
theorem d_Mo_free_27 : decode b_Mo_free 27 = .ok (.iastore, 1) := by decide +kernel
theorem d_Mo_free_28 : decode b_Mo_free 28 = .ok (.iinc 3 1, 3) := by decide +kernel
theorem d_Mo_free_31 : decode b_Mo_free 31 = .ok (.goto (-22), 3) := by decide +kernel
theorem d_Mo_free_34 : decode b_Mo_free 34 = .ok (.iload_n 2, 1) := by decide +kernel
theorem d_Mo_free_35 : decode b_Mo_free 35 = .ok (.iconst 1, 1) := by decide +kernel
theorem d_Mo_free_36 : decode b_Mo_free 36 = .ok (.iadd, 1) := by decide +kernel
theorem d_Mo_free_37 : decode b_Mo_free 37 = .ok (.istore_n 3, 1) := by decide +kernel
theorem d_Mo_free_38 : decode b_Mo_free 38 = .ok (.iload_n 3, 1) := by decide +kernel
theorem d_Mo_free_39 : decode b_Mo_free 39 = .ok (.iload_n 2, 1) := by decide +kernel
theorem d_Mo_free_40 : decode b_Mo_free 40 = .ok (.aload_n 0, 1) := by decide +kernel
theorem d_Mo_free_41 : decode b_Mo_free 41 = .ok (.getfield 34, 3) := by decide +kernel
theorem d_Mo_free_44 : decode b_Mo_free 44 = .ok (.iload_n 2, 1) := by decide +kernel
theorem d_Mo_free_45 : decode b_Mo_free 45 = .ok (.iaload, 1) := by decide +kernel
theorem d_Mo_free_46 : decode b_Mo_free 46 = .ok (.iadd, 1) := by decide +kernel
theorem d_Mo_free_47 : decode b_Mo_free 47 = .ok (.iconst 1, 1) := by decide +kernel
theorem d_Mo_free_48 : decode b_Mo_free 48 = .ok (.isub, 1) := by decide +kernel
theorem d_Mo_free_49 : decode b_Mo_free 49 = .ok (.if_icmp .ge 17, 3) := by decide +kernel
theorem d_Mo_free_52 : decode b_Mo_free 52 = .ok (.aload_n 0, 1) := by decide +kernel
theorem d_Mo_free_53 : decode b_Mo_free 53 = .ok (.getfield 28, 3) := by decide +kernel
theorem d_Mo_free_56 : decode b_Mo_free 56 = .ok (.iload_n 3, 1) := by decide +kernel
theorem d_Mo_free_57 : decode b_Mo_free 57 = .ok (.bipush (-2), 2) := by decide +kernel
theorem d_Mo_free_59 : decode b_Mo_free 59 = .ok (.iastore, 1) := by decide +kernel
theorem d_Mo_free_60 : decode b_Mo_free 60 = .ok (.iinc 3 1, 3) := by decide +kernel
theorem d_Mo_free_63 : decode b_Mo_free 63 = .ok (.goto (-25), 3) := by decide +kernel
theorem d_Mo_free_66 : decode b_Mo_free 66 = .ok (.aload_n 0, 1) := by decide +kernel
theorem d_Mo_free_67 : decode b_Mo_free 67 = .ok (.getfield 37, 3) := by decide +kernel
theorem d_Mo_free_70 : decode b_Mo_free 70 = .ok (.aload_n 0, 1) := by decide +kernel
theorem d_Mo_free_71 : decode b_Mo_free 71 = .ok (.getfield 83, 3) := by decide +kernel
theorem d_Mo_free_74 : decode b_Mo_free 74 = .ok (.iload_n 2, 1) := by decide +kernel
theorem d_Mo_free_75 : decode b_Mo_free 75 = .ok (.iastore, 1) := by decide +kernel
theorem d_Mo_free_76 : decode b_Mo_free 76 = .ok (.aload_n 0, 1) := by decide +kernel
theorem d_Mo_free_77 : decode b_Mo_free 77 = .ok (.dup, 1) := by decide +kernel
theorem d_Mo_free_78 : decode b_Mo_free 78 = .ok (.getfield 83, 3) := by decide +kernel
theorem d_Mo_free_81 : decode b_Mo_free 81 = .ok (.iconst 1, 1) := by decide +kernel
theorem d_Mo_free_82 : decode b_Mo_free 82 = .ok (.iadd, 1) := by decide +kernel
theorem d_Mo_free_83 : decode b_Mo_free 83 = .ok (.putfield 83, 3) := by decide +kernel
theorem d_Mo_free_86 : decode b_Mo_free 86 = .ok (.aload_n 0, 1) := by decide +kernel
theorem d_Mo_free_87 : decode b_Mo_free 87 = .ok (.invokevirtual 92, 3) := by decide +kernel
theorem d_Mo_free_90 : decode b_Mo_free 90 = .ok (.sipush 160, 3) := by decide +kernel
theorem d_Mo_free_93 : decode b_Mo_free 93 = .ok (.if_icmp .le 10, 3) := by decide +kernel
theorem d_Mo_free_96 : decode b_Mo_free 96 = .ok (.aload_n 0, 1) := by decide +kernel
theorem d_Mo_free_97 : decode b_Mo_free 97 = .ok (.invokevirtual 89, 3) := by decide +kernel
theorem d_Mo_free_100 : decode b_Mo_free 100 = .ok (.goto (-14), 3) := by decide +kernel
theorem d_Mo_free_103 : decode b_Mo_free 103 = .ok (.return_, 1) := by decide +kernel
theorem d_Mo_quarantined_0 : decode b_Mo_quarantined 0 = .ok (.iconst 0, 1) := by decide +kernel
theorem d_Mo_quarantined_1 : decode b_Mo_quarantined 1 = .ok (.istore_n 1, 1) := by decide +kernel
theorem d_Mo_quarantined_2 : decode b_Mo_quarantined 2 = .ok (.iconst 0, 1) := by decide +kernel
theorem d_Mo_quarantined_3 : decode b_Mo_quarantined 3 = .ok (.istore_n 2, 1) := by decide +kernel
theorem d_Mo_quarantined_4 : decode b_Mo_quarantined 4 = .ok (.iload_n 2, 1) := by decide +kernel
theorem d_Mo_quarantined_5 : decode b_Mo_quarantined 5 = .ok (.aload_n 0, 1) := by decide +kernel
theorem d_Mo_quarantined_6 : decode b_Mo_quarantined 6 = .ok (.getfield 83, 3) := by decide +kernel
theorem d_Mo_quarantined_9 : decode b_Mo_quarantined 9 = .ok (.if_icmp .ge 26, 3) := by decide +kernel
theorem d_Mo_quarantined_12 : decode b_Mo_quarantined 12 = .ok (.iload_n 1, 1) := by decide +kernel
theorem d_Mo_quarantined_13 : decode b_Mo_quarantined 13 = .ok (.bipush 8, 2) := by decide +kernel
theorem d_Mo_quarantined_15 : decode b_Mo_quarantined 15 = .ok (.aload_n 0, 1) := by decide +kernel
theorem d_Mo_quarantined_16 : decode b_Mo_quarantined 16 = .ok (.getfield 34, 3) := by decide +kernel
theorem d_Mo_quarantined_19 : decode b_Mo_quarantined 19 = .ok (.aload_n 0, 1) := by decide +kernel
theorem d_Mo_quarantined_20 : decode b_Mo_quarantined 20 = .ok (.getfield 37, 3) := by decide +kernel
theorem d_Mo_quarantined_23 : decode b_Mo_quarantined 23 = .ok (.iload_n 2, 1) := by decide +kernel
theorem d_Mo_quarantined_24 : decode b_Mo_quarantined 24 = .ok (.iaload, 1) := by decide +kernel
theorem d_Mo_quarantined_25 : decode b_Mo_quarantined 25 = .ok (.iaload, 1) := by decide +kernel
theorem d_Mo_quarantined_26 : decode b_Mo_quarantined 26 = .ok (.imul, 1) := by decide +kernel
theorem d_Mo_quarantined_27 : decode b_Mo_quarantined 27 = .ok (.iadd, 1) := by decide +kernel
theorem d_Mo_quarantined_28 : decode b_Mo_quarantined 28 = .ok (.istore_n 1, 1) := by decide +kernel
theorem d_Mo_quarantined_29 : decode b_Mo_quarantined 29 = .ok (.iinc 2 1, 3) := by decide +kernel
theorem d_Mo_quarantined_32 : decode b_Mo_quarantined 32 = .ok (.goto (-28), 3) := by decide +kernel
theorem d_Mo_quarantined_35 : decode b_Mo_quarantined 35 = .ok (.iload_n 1, 1) := by decide +kernel
theorem d_Mo_quarantined_36 : decode b_Mo_quarantined 36 = .ok (.ireturn, 1) := by decide +kernel
theorem d_Mo_touch_0 : decode b_Mo_touch 0 = .ok (.aload_n 0, 1) := by decide +kernel
theorem d_Mo_touch_1 : decode b_Mo_touch 1 = .ok (.getfield 40, 3) := by decide +kernel
theorem d_Mo_touch_4 : decode b_Mo_touch 4 = .ok (.aload_n 0, 1) := by decide +kernel
theorem d_Mo_touch_5 : decode b_Mo_touch 5 = .ok (.getfield 16, 3) := by decide +kernel
theorem d_Mo_touch_8 : decode b_Mo_touch 8 = .ok (.iload_n 1, 1) := by decide +kernel
theorem d_Mo_touch_9 : decode b_Mo_touch 9 = .ok (.iaload, 1) := by decide +kernel
theorem d_Mo_touch_10 : decode b_Mo_touch 10 = .ok (.iaload, 1) := by decide +kernel
theorem d_Mo_touch_11 : decode b_Mo_touch 11 = .ok (.aload_n 0, 1) := by decide +kernel
theorem d_Mo_touch_12 : decode b_Mo_touch 12 = .ok (.getfield 22, 3) := by decide +kernel
theorem d_Mo_touch_15 : decode b_Mo_touch 15 = .ok (.iload_n 1, 1) := by decide +kernel
theorem d_Mo_touch_16 : decode b_Mo_touch 16 = .ok (.iaload, 1) := by decide +kernel
theorem d_Mo_touch_17 : decode b_Mo_touch 17 = .ok (.iadd, 1) := by decide +kernel
theorem d_Mo_touch_18 : decode b_Mo_touch 18 = .ok (.istore_n 2, 1) := by decide +kernel
theorem d_Mo_touch_19 : decode b_Mo_touch 19 = .ok (.aload_n 0, 1) := by decide +kernel
theorem d_Mo_touch_20 : decode b_Mo_touch 20 = .ok (.getfield 7, 3) := by decide +kernel
theorem d_Mo_touch_23 : decode b_Mo_touch 23 = .ok (.iload_n 1, 1) := by decide +kernel
theorem d_Mo_touch_24 : decode b_Mo_touch 24 = .ok (.iaload, 1) := by decide +kernel
theorem d_Mo_touch_25 : decode b_Mo_touch 25 = .ok (.iconst 2, 1) := by decide +kernel
theorem d_Mo_touch_26 : decode b_Mo_touch 26 = .ok (.irem, 1) := by decide +kernel
theorem d_Mo_touch_27 : decode b_Mo_touch 27 = .ok (.ifCond .ne 7, 3) := by decide +kernel
theorem d_Mo_touch_30 : decode b_Mo_touch 30 = .ok (.iconst 1, 1) := by decide +kernel
theorem d_Mo_touch_31 : decode b_Mo_touch 31 = .ok (.goto 4, 3) := by decide +kernel
theorem d_Mo_touch_34 : decode b_Mo_touch 34 = .ok (.iconst 4, 1) := by decide +kernel
theorem d_Mo_touch_35 : decode b_Mo_touch 35 = .ok (.istore_n 3, 1) := by decide +kernel
theorem d_Mo_touch_36 : decode b_Mo_touch 36 = .ok (.iload_n 2, 1) := by decide +kernel
theorem d_Mo_touch_37 : decode b_Mo_touch 37 = .ok (.invokestatic 96, 3) := by decide +kernel
theorem d_Mo_touch_40 : decode b_Mo_touch 40 = .ok (.ifCond .eq 14, 3) := by decide +kernel
theorem d_Mo_touch_43 : decode b_Mo_touch 43 = .ok (.iload_n 2, 1) := by decide +kernel
theorem d_Mo_touch_44 : decode b_Mo_touch 44 = .ok (.iload_n 3, 1) := by decide +kernel
theorem d_Mo_touch_45 : decode b_Mo_touch 45 = .ok (.iadd, 1) := by decide +kernel
theorem d_Mo_touch_46 : decode b_Mo_touch 46 = .ok (.iconst 1, 1) := by decide +kernel
theorem d_Mo_touch_47 : decode b_Mo_touch 47 = .ok (.isub, 1) := by decide +kernel
theorem d_Mo_touch_48 : decode b_Mo_touch 48 = .ok (.invokestatic 96, 3) := by decide +kernel
theorem d_Mo_touch_51 : decode b_Mo_touch 51 = .ok (.ifCond .ne 9, 3) := by decide +kernel
theorem d_Mo_touch_54 : decode b_Mo_touch 54 = .ok (.aload_n 0, 1) := by decide +kernel
theorem d_Mo_touch_55 : decode b_Mo_touch 55 = .ok (.iconst 4, 1) := by decide +kernel
theorem d_Mo_touch_56 : decode b_Mo_touch 56 = .ok (.putfield 64, 3) := by decide +kernel
theorem d_Mo_touch_59 : decode b_Mo_touch 59 = .ok (.return_, 1) := by decide +kernel
theorem d_Mo_touch_60 : decode b_Mo_touch 60 = .ok (.aload_n 0, 1) := by decide +kernel
theorem d_Mo_touch_61 : decode b_Mo_touch 61 = .ok (.getfield 7, 3) := by decide +kernel
theorem d_Mo_touch_64 : decode b_Mo_touch 64 = .ok (.iload_n 1, 1) := by decide +kernel
theorem d_Mo_touch_65 : decode b_Mo_touch 65 = .ok (.iaload, 1) := by decide +kernel
theorem d_Mo_touch_66 : decode b_Mo_touch 66 = .ok (.bipush 6, 2) := by decide +kernel
theorem d_Mo_touch_68 : decode b_Mo_touch 68 = .ok (.if_icmp .ne 23, 3) := by decide +kernel
theorem d_Mo_touch_71 : decode b_Mo_touch 71 = .ok (.aload_n 0, 1) := by decide +kernel
theorem d_Mo_touch_72 : decode b_Mo_touch 72 = .ok (.getfield 40, 3) := by decide +kernel
theorem d_Mo_touch_75 : decode b_Mo_touch 75 = .ok (.aload_n 0, 1) := by decide +kernel
theorem d_Mo_touch_76 : decode b_Mo_touch 76 = .ok (.getfield 13, 3) := by decide +kernel
theorem d_Mo_touch_79 : decode b_Mo_touch 79 = .ok (.iload_n 1, 1) := by decide +kernel
theorem d_Mo_touch_80 : decode b_Mo_touch 80 = .ok (.iaload, 1) := by decide +kernel
theorem d_Mo_touch_81 : decode b_Mo_touch 81 = .ok (.aload_n 0, 1) := by decide +kernel
theorem d_Mo_touch_82 : decode b_Mo_touch 82 = .ok (.getfield 25, 3) := by decide +kernel
theorem d_Mo_touch_85 : decode b_Mo_touch 85 = .ok (.iload_n 2, 1) := by decide +kernel
theorem d_Mo_touch_86 : decode b_Mo_touch 86 = .ok (.iaload, 1) := by decide +kernel
theorem d_Mo_touch_87 : decode b_Mo_touch 87 = .ok (.iastore, 1) := by decide +kernel
theorem d_Mo_touch_88 : decode b_Mo_touch 88 = .ok (.goto 78, 3) := by decide +kernel
theorem d_Mo_touch_91 : decode b_Mo_touch 91 = .ok (.aload_n 0, 1) := by decide +kernel
theorem d_Mo_touch_92 : decode b_Mo_touch 92 = .ok (.getfield 7, 3) := by decide +kernel
theorem d_Mo_touch_95 : decode b_Mo_touch 95 = .ok (.iload_n 1, 1) := by decide +kernel
theorem d_Mo_touch_96 : decode b_Mo_touch 96 = .ok (.iaload, 1) := by decide +kernel
theorem d_Mo_touch_97 : decode b_Mo_touch 97 = .ok (.bipush 7, 2) := by decide +kernel
theorem d_Mo_touch_99 : decode b_Mo_touch 99 = .ok (.if_icmp .ne 22, 3) := by decide +kernel
theorem d_Mo_touch_102 : decode b_Mo_touch 102 = .ok (.aload_n 0, 1) := by decide +kernel
theorem d_Mo_touch_103 : decode b_Mo_touch 103 = .ok (.getfield 40, 3) := by decide +kernel
theorem d_Mo_touch_106 : decode b_Mo_touch 106 = .ok (.aload_n 0, 1) := by decide +kernel
theorem d_Mo_touch_107 : decode b_Mo_touch 107 = .ok (.getfield 13, 3) := by decide +kernel
theorem d_Mo_touch_110 : decode b_Mo_touch 110 = .ok (.iload_n 1, 1) := by decide +kernel
theorem d_Mo_touch_111 : decode b_Mo_touch 111 = .ok (.iaload, 1) := by decide +kernel
theorem d_Mo_touch_112 : decode b_Mo_touch 112 = .ok (.aload_n 0, 1) := by decide +kernel
theorem d_Mo_touch_113 : decode b_Mo_touch 113 = .ok (.iload_n 2, 1) := by decide +kernel
theorem d_Mo_touch_114 : decode b_Mo_touch 114 = .ok (.invokevirtual 131, 3) := by decide +kernel
theorem d_Mo_touch_117 : decode b_Mo_touch 117 = .ok (.iastore, 1) := by decide +kernel
theorem d_Mo_touch_118 : decode b_Mo_touch 118 = .ok (.goto 48, 3) := by decide +kernel
theorem d_Mo_touch_121 : decode b_Mo_touch 121 = .ok (.iconst 0, 1) := by decide +kernel
theorem d_Mo_touch_122 : decode b_Mo_touch 122 = .ok (.istore 4, 2) := by decide +kernel
theorem d_Mo_touch_124 : decode b_Mo_touch 124 = .ok (.iload 4, 2) := by decide +kernel
theorem d_Mo_touch_126 : decode b_Mo_touch 126 = .ok (.iload_n 3, 1) := by decide +kernel
theorem d_Mo_touch_127 : decode b_Mo_touch 127 = .ok (.if_icmp .ge 39, 3) := by decide +kernel
theorem d_Mo_touch_130 : decode b_Mo_touch 130 = .ok (.aload_n 0, 1) := by decide +kernel
theorem d_Mo_touch_131 : decode b_Mo_touch 131 = .ok (.getfield 25, 3) := by decide +kernel
theorem d_Mo_touch_134 : decode b_Mo_touch 134 = .ok (.iload_n 2, 1) := by decide +kernel
theorem d_Mo_touch_135 : decode b_Mo_touch 135 = .ok (.iload 4, 2) := by decide +kernel
theorem d_Mo_touch_137 : decode b_Mo_touch 137 = .ok (.iadd, 1) := by decide +kernel
theorem d_Mo_touch_138 : decode b_Mo_touch 138 = .ok (.aload_n 0, 1) := by decide +kernel
theorem d_Mo_touch_139 : decode b_Mo_touch 139 = .ok (.getfield 40, 3) := by decide +kernel
theorem d_Mo_touch_142 : decode b_Mo_touch 142 = .ok (.aload_n 0, 1) := by decide +kernel
theorem d_Mo_touch_143 : decode b_Mo_touch 143 = .ok (.getfield 19, 3) := by decide +kernel
theorem d_Mo_touch_146 : decode b_Mo_touch 146 = .ok (.iload_n 1, 1) := by decide +kernel
theorem d_Mo_touch_147 : decode b_Mo_touch 147 = .ok (.iaload, 1) := by decide +kernel
theorem d_Mo_touch_148 : decode b_Mo_touch 148 = .ok (.iaload, 1) := by decide +kernel
theorem d_Mo_touch_149 : decode b_Mo_touch 149 = .ok (.bipush 8, 2) := by decide +kernel
theorem d_Mo_touch_151 : decode b_Mo_touch 151 = .ok (.iload 4, 2) := by decide +kernel
theorem d_Mo_touch_153 : decode b_Mo_touch 153 = .ok (.imul, 1) := by decide +kernel
theorem d_Mo_touch_154 : decode b_Mo_touch 154 = .ok (.ishr, 1) := by decide +kernel
theorem d_Mo_touch_155 : decode b_Mo_touch 155 = .ok (.sipush 255, 3) := by decide +kernel
theorem d_Mo_touch_158 : decode b_Mo_touch 158 = .ok (.iand, 1) := by decide +kernel
theorem d_Mo_touch_159 : decode b_Mo_touch 159 = .ok (.iastore, 1) := by decide +kernel
theorem d_Mo_touch_160 : decode b_Mo_touch 160 = .ok (.iinc 4 1, 3) := by decide +kernel
theorem d_Mo_touch_163 : decode b_Mo_touch 163 = .ok (.goto (-39), 3) := by decide +kernel
theorem d_Mo_touch_166 : decode b_Mo_touch 166 = .ok (.return_, 1) := by decide +kernel
theorem d_Mo_load_0 : decode b_Mo_load 0 = .ok (.iconst 0, 1) := by decide +kernel
theorem d_Mo_load_1 : decode b_Mo_load 1 = .ok (.istore_n 2, 1) := by decide +kernel
theorem d_Mo_load_2 : decode b_Mo_load 2 = .ok (.iconst 3, 1) := by decide +kernel
theorem d_Mo_load_3 : decode b_Mo_load 3 = .ok (.istore_n 3, 1) := by decide +kernel
theorem d_Mo_load_4 : decode b_Mo_load 4 = .ok (.iload_n 3, 1) := by decide +kernel
theorem d_Mo_load_5 : decode b_Mo_load 5 = .ok (.ifCond .lt 23, 3) := by decide +kernel
theorem d_Mo_load_8 : decode b_Mo_load 8 = .ok (.iload_n 2, 1) := by decide +kernel
theorem d_Mo_load_9 : decode b_Mo_load 9 = .ok (.bipush 8, 2) := by decide +kernel
theorem d_Mo_load_11 : decode b_Mo_load 11 = .ok (.ishl, 1) := by decide +kernel
theorem d_Mo_load_12 : decode b_Mo_load 12 = .ok (.aload_n 0, 1) := by decide +kernel
theorem d_Mo_load_13 : decode b_Mo_load 13 = .ok (.getfield 25, 3) := by decide +kernel
theorem d_Mo_load_16 : decode b_Mo_load 16 = .ok (.iload_n 1, 1) := by decide +kernel
theorem d_Mo_load_17 : decode b_Mo_load 17 = .ok (.iload_n 3, 1) := by decide +kernel
theorem d_Mo_load_18 : decode b_Mo_load 18 = .ok (.iadd, 1) := by decide +kernel
theorem d_Mo_load_19 : decode b_Mo_load 19 = .ok (.iaload, 1) := by decide +kernel
theorem d_Mo_load_20 : decode b_Mo_load 20 = .ok (.ior, 1) := by decide +kernel
theorem d_Mo_load_21 : decode b_Mo_load 21 = .ok (.istore_n 2, 1) := by decide +kernel
theorem d_Mo_load_22 : decode b_Mo_load 22 = .ok (.iinc 3 (-1), 3) := by decide +kernel
theorem d_Mo_load_25 : decode b_Mo_load 25 = .ok (.goto (-21), 3) := by decide +kernel
theorem d_Mo_load_28 : decode b_Mo_load 28 = .ok (.iload_n 2, 1) := by decide +kernel
theorem d_Mo_load_29 : decode b_Mo_load 29 = .ok (.ireturn, 1) := by decide +kernel
theorem d_Mo_look_0 : decode b_Mo_look 0 = .ok (.aload_n 0, 1) := by decide +kernel
theorem d_Mo_look_1 : decode b_Mo_look 1 = .ok (.iload_n 1, 1) := by decide +kernel
theorem d_Mo_look_2 : decode b_Mo_look 2 = .ok (.ifCond .lt 8, 3) := by decide +kernel
theorem d_Mo_look_5 : decode b_Mo_look 5 = .ok (.iload_n 1, 1) := by decide +kernel
theorem d_Mo_look_6 : decode b_Mo_look 6 = .ok (.iconst 5, 1) := by decide +kernel
theorem d_Mo_look_7 : decode b_Mo_look 7 = .ok (.if_icmp .le 7, 3) := by decide +kernel
theorem d_Mo_look_10 : decode b_Mo_look 10 = .ok (.iconst 1, 1) := by decide +kernel
theorem d_Mo_look_11 : decode b_Mo_look 11 = .ok (.goto 4, 3) := by decide +kernel
theorem d_Mo_look_14 : decode b_Mo_look 14 = .ok (.iconst 0, 1) := by decide +kernel
theorem d_Mo_look_15 : decode b_Mo_look 15 = .ok (.putfield 49, 3) := by decide +kernel
theorem d_Mo_look_18 : decode b_Mo_look 18 = .ok (.aload_n 0, 1) := by decide +kernel
theorem d_Mo_look_19 : decode b_Mo_look 19 = .ok (.getfield 49, 3) := by decide +kernel
theorem d_Mo_look_22 : decode b_Mo_look 22 = .ok (.ifCond .le 5, 3) := by decide +kernel
theorem d_Mo_look_25 : decode b_Mo_look 25 = .ok (.iconst 0, 1) := by decide +kernel
theorem d_Mo_look_26 : decode b_Mo_look 26 = .ok (.ireturn, 1) := by decide +kernel
theorem d_Mo_look_27 : decode b_Mo_look 27 = .ok (.iload_n 1, 1) := by decide +kernel
theorem d_Mo_look_28 : decode b_Mo_look 28 = .ok (.ifCond .ne 8, 3) := by decide +kernel
theorem d_Mo_look_31 : decode b_Mo_look 31 = .ok (.aload_n 0, 1) := by decide +kernel
theorem d_Mo_look_32 : decode b_Mo_look 32 = .ok (.getfield 64, 3) := by decide +kernel
theorem d_Mo_look_35 : decode b_Mo_look 35 = .ok (.ireturn, 1) := by decide +kernel
theorem d_Mo_look_36 : decode b_Mo_look 36 = .ok (.iload_n 1, 1) := by decide +kernel
theorem d_Mo_look_37 : decode b_Mo_look 37 = .ok (.iconst 5, 1) := by decide +kernel
theorem d_Mo_look_38 : decode b_Mo_look 38 = .ok (.if_icmp .ne 8, 3) := by decide +kernel
theorem d_Mo_look_41 : decode b_Mo_look 41 = .ok (.aload_n 0, 1) := by decide +kernel
theorem d_Mo_look_42 : decode b_Mo_look 42 = .ok (.getfield 61, 3) := by decide +kernel
theorem d_Mo_look_45 : decode b_Mo_look 45 = .ok (.ireturn, 1) := by decide +kernel
theorem d_Mo_look_46 : decode b_Mo_look 46 = .ok (.aload_n 0, 1) := by decide +kernel
theorem d_Mo_look_47 : decode b_Mo_look 47 = .ok (.getfield 64, 3) := by decide +kernel
theorem d_Mo_look_50 : decode b_Mo_look 50 = .ok (.ifCond .ne 5, 3) := by decide +kernel
theorem d_Mo_look_53 : decode b_Mo_look 53 = .ok (.iconst 0, 1) := by decide +kernel
theorem d_Mo_look_54 : decode b_Mo_look 54 = .ok (.ireturn, 1) := by decide +kernel
theorem d_Mo_look_55 : decode b_Mo_look 55 = .ok (.iload_n 1, 1) := by decide +kernel
theorem d_Mo_look_56 : decode b_Mo_look 56 = .ok (.iconst 1, 1) := by decide +kernel
theorem d_Mo_look_57 : decode b_Mo_look 57 = .ok (.if_icmp .ne 25, 3) := by decide +kernel
theorem d_Mo_look_60 : decode b_Mo_look 60 = .ok (.aload_n 0, 1) := by decide +kernel
theorem d_Mo_look_61 : decode b_Mo_look 61 = .ok (.getfield 64, 3) := by decide +kernel
theorem d_Mo_look_64 : decode b_Mo_look 64 = .ok (.iconst 1, 1) := by decide +kernel
theorem d_Mo_look_65 : decode b_Mo_look 65 = .ok (.if_icmp .ne 10, 3) := by decide +kernel
theorem d_Mo_look_68 : decode b_Mo_look 68 = .ok (.aload_n 0, 1) := by decide +kernel
theorem d_Mo_look_69 : decode b_Mo_look 69 = .ok (.getfield 103, 3) := by decide +kernel
theorem d_Mo_look_72 : decode b_Mo_look 72 = .ok (.goto 36, 3) := by decide +kernel
theorem d_Mo_look_75 : decode b_Mo_look 75 = .ok (.aload_n 0, 1) := by decide +kernel
theorem d_Mo_look_76 : decode b_Mo_look 76 = .ok (.getfield 106, 3) := by decide +kernel
theorem d_Mo_look_79 : decode b_Mo_look 79 = .ok (.goto 29, 3) := by decide +kernel
theorem d_Mo_look_82 : decode b_Mo_look 82 = .ok (.iload_n 1, 1) := by decide +kernel
theorem d_Mo_look_83 : decode b_Mo_look 83 = .ok (.iconst 2, 1) := by decide +kernel
theorem d_Mo_look_84 : decode b_Mo_look 84 = .ok (.if_icmp .ne 10, 3) := by decide +kernel
theorem d_Mo_look_87 : decode b_Mo_look 87 = .ok (.aload_n 0, 1) := by decide +kernel
theorem d_Mo_look_88 : decode b_Mo_look 88 = .ok (.getfield 109, 3) := by decide +kernel
theorem d_Mo_look_91 : decode b_Mo_look 91 = .ok (.goto 17, 3) := by decide +kernel
theorem d_Mo_look_94 : decode b_Mo_look 94 = .ok (.aload_n 0, 1) := by decide +kernel
theorem d_Mo_look_95 : decode b_Mo_look 95 = .ok (.iload_n 1, 1) := by decide +kernel
theorem d_Mo_look_96 : decode b_Mo_look 96 = .ok (.iconst 4, 1) := by decide +kernel
theorem d_Mo_look_97 : decode b_Mo_look 97 = .ok (.if_icmp .ne 7, 3) := by decide +kernel
theorem d_Mo_look_100 : decode b_Mo_look 100 = .ok (.iconst 1, 1) := by decide +kernel
theorem d_Mo_look_101 : decode b_Mo_look 101 = .ok (.goto 4, 3) := by decide +kernel
theorem d_Mo_look_104 : decode b_Mo_look 104 = .ok (.iconst 0, 1) := by decide +kernel
theorem d_Mo_look_105 : decode b_Mo_look 105 = .ok (.invokevirtual 153, 3) := by decide +kernel
theorem d_Mo_look_108 : decode b_Mo_look 108 = .ok (.ireturn, 1) := by decide +kernel
theorem d_Mo_blocks_0 : decode b_Mo_blocks 0 = .ok (.iconst 0, 1) := by decide +kernel
theorem d_Mo_blocks_1 : decode b_Mo_blocks 1 = .ok (.istore_n 2, 1) := by decide +kernel
theorem d_Mo_blocks_2 : decode b_Mo_blocks 2 = .ok (.iconst 0, 1) := by decide +kernel
theorem d_Mo_blocks_3 : decode b_Mo_blocks 3 = .ok (.istore_n 3, 1) := by decide +kernel
theorem d_Mo_blocks_4 : decode b_Mo_blocks 4 = .ok (.iload_n 3, 1) := by decide +kernel
theorem d_Mo_blocks_5 : decode b_Mo_blocks 5 = .ok (.bipush 64, 2) := by decide +kernel
theorem d_Mo_blocks_7 : decode b_Mo_blocks 7 = .ok (.if_icmp .ge 45, 3) := by decide +kernel
theorem d_Mo_blocks_10 : decode b_Mo_blocks 10 = .ok (.iload_n 2, 1) := by decide +kernel
theorem d_Mo_blocks_11 : decode b_Mo_blocks 11 = .ok (.aload_n 0, 1) := by decide +kernel
theorem d_Mo_blocks_12 : decode b_Mo_blocks 12 = .ok (.getfield 34, 3) := by decide +kernel
theorem d_Mo_blocks_15 : decode b_Mo_blocks 15 = .ok (.iload_n 3, 1) := by decide +kernel
theorem d_Mo_blocks_16 : decode b_Mo_blocks 16 = .ok (.iaload, 1) := by decide +kernel
theorem d_Mo_blocks_17 : decode b_Mo_blocks 17 = .ok (.ifCond .le 26, 3) := by decide +kernel
theorem d_Mo_blocks_20 : decode b_Mo_blocks 20 = .ok (.aload_n 0, 1) := by decide +kernel
theorem d_Mo_blocks_21 : decode b_Mo_blocks 21 = .ok (.getfield 31, 3) := by decide +kernel
theorem d_Mo_blocks_24 : decode b_Mo_blocks 24 = .ok (.iload_n 3, 1) := by decide +kernel
theorem d_Mo_blocks_25 : decode b_Mo_blocks 25 = .ok (.iaload, 1) := by decide +kernel
theorem d_Mo_blocks_26 : decode b_Mo_blocks 26 = .ok (.iconst 2, 1) := by decide +kernel
theorem d_Mo_blocks_27 : decode b_Mo_blocks 27 = .ok (.if_icmp .ne 7, 3) := by decide +kernel
theorem d_Mo_blocks_30 : decode b_Mo_blocks 30 = .ok (.iconst 1, 1) := by decide +kernel
theorem d_Mo_blocks_31 : decode b_Mo_blocks 31 = .ok (.goto 4, 3) := by decide +kernel
theorem d_Mo_blocks_34 : decode b_Mo_blocks 34 = .ok (.iconst 0, 1) := by decide +kernel
theorem d_Mo_blocks_35 : decode b_Mo_blocks 35 = .ok (.iload_n 1, 1) := by decide +kernel
theorem d_Mo_blocks_36 : decode b_Mo_blocks 36 = .ok (.if_icmp .ne 7, 3) := by decide +kernel
theorem d_Mo_blocks_39 : decode b_Mo_blocks 39 = .ok (.iconst 1, 1) := by decide +kernel
theorem d_Mo_blocks_40 : decode b_Mo_blocks 40 = .ok (.goto 4, 3) := by decide +kernel
theorem d_Mo_blocks_43 : decode b_Mo_blocks 43 = .ok (.iconst 0, 1) := by decide +kernel
theorem d_Mo_blocks_44 : decode b_Mo_blocks 44 = .ok (.iadd, 1) := by decide +kernel
theorem d_Mo_blocks_45 : decode b_Mo_blocks 45 = .ok (.istore_n 2, 1) := by decide +kernel
theorem d_Mo_blocks_46 : decode b_Mo_blocks 46 = .ok (.iinc 3 1, 3) := by decide +kernel
theorem d_Mo_blocks_49 : decode b_Mo_blocks 49 = .ok (.goto (-45), 3) := by decide +kernel
theorem d_Mo_blocks_52 : decode b_Mo_blocks 52 = .ok (.iload_n 2, 1) := by decide +kernel
theorem d_Mo_blocks_53 : decode b_Mo_blocks 53 = .ok (.ireturn, 1) := by decide +kernel
theorem d_Mo_register_0 : decode b_Mo_register 0 = .ok (.aload_n 0, 1) := by decide +kernel
theorem d_Mo_register_1 : decode b_Mo_register 1 = .ok (.iload_n 1, 1) := by decide +kernel
theorem d_Mo_register_2 : decode b_Mo_register 2 = .ok (.invokestatic 53, 3) := by decide +kernel
theorem d_Mo_register_5 : decode b_Mo_register 5 = .ok (.ifCond .eq 7, 3) := by decide +kernel
theorem d_Mo_register_8 : decode b_Mo_register 8 = .ok (.iconst 0, 1) := by decide +kernel
theorem d_Mo_register_9 : decode b_Mo_register 9 = .ok (.goto 4, 3) := by decide +kernel
theorem d_Mo_register_12 : decode b_Mo_register 12 = .ok (.iconst 1, 1) := by decide +kernel
theorem d_Mo_register_13 : decode b_Mo_register 13 = .ok (.putfield 49, 3) := by decide +kernel
theorem d_Mo_register_16 : decode b_Mo_register 16 = .ok (.aload_n 0, 1) := by decide +kernel
theorem d_Mo_register_17 : decode b_Mo_register 17 = .ok (.getfield 49, 3) := by decide +kernel
theorem d_Mo_register_20 : decode b_Mo_register 20 = .ok (.ifCond .gt 10, 3) := by decide +kernel
theorem d_Mo_register_23 : decode b_Mo_register 23 = .ok (.aload_n 0, 1) := by decide +kernel
theorem d_Mo_register_24 : decode b_Mo_register 24 = .ok (.getfield 64, 3) := by decide +kernel
theorem d_Mo_register_27 : decode b_Mo_register 27 = .ok (.ifCond .ne 7, 3) := by decide +kernel
theorem d_Mo_register_30 : decode b_Mo_register 30 = .ok (.iconst 0, 1) := by decide +kernel
theorem d_Mo_register_31 : decode b_Mo_register 31 = .ok (.goto 9, 3) := by decide +kernel
theorem d_Mo_register_34 : decode b_Mo_register 34 = .ok (.aload_n 0, 1) := by decide +kernel
theorem d_Mo_register_35 : decode b_Mo_register 35 = .ok (.getfield 40, 3) := by decide +kernel
theorem d_Mo_register_38 : decode b_Mo_register 38 = .ok (.iload_n 1, 1) := by decide +kernel
theorem d_Mo_register_39 : decode b_Mo_register 39 = .ok (.iaload, 1) := by decide +kernel
theorem d_Mo_register_40 : decode b_Mo_register 40 = .ok (.ireturn, 1) := by decide +kernel
theorem d_Mo_printed_0 : decode b_Mo_printed 0 = .ok (.aload_n 0, 1) := by decide +kernel
theorem d_Mo_printed_1 : decode b_Mo_printed 1 = .ok (.aload_n 0, 1) := by decide +kernel
theorem d_Mo_printed_2 : decode b_Mo_printed 2 = .ok (.getfield 64, 3) := by decide +kernel
theorem d_Mo_printed_5 : decode b_Mo_printed 5 = .ok (.ifCond .eq 15, 3) := by decide +kernel
theorem d_Mo_printed_8 : decode b_Mo_printed 8 = .ok (.iload_n 1, 1) := by decide +kernel
theorem d_Mo_printed_9 : decode b_Mo_printed 9 = .ok (.ifCond .lt 11, 3) := by decide +kernel
theorem d_Mo_printed_12 : decode b_Mo_printed 12 = .ok (.iload_n 1, 1) := by decide +kernel
theorem d_Mo_printed_13 : decode b_Mo_printed 13 = .ok (.aload_n 0, 1) := by decide +kernel
theorem d_Mo_printed_14 : decode b_Mo_printed 14 = .ok (.getfield 109, 3) := by decide +kernel
theorem d_Mo_printed_17 : decode b_Mo_printed 17 = .ok (.if_icmp .lt 7, 3) := by decide +kernel
theorem d_Mo_printed_20 : decode b_Mo_printed 20 = .ok (.iconst 1, 1) := by decide +kernel
theorem d_Mo_printed_21 : decode b_Mo_printed 21 = .ok (.goto 4, 3) := by decide +kernel
theorem d_Mo_printed_24 : decode b_Mo_printed 24 = .ok (.iconst 0, 1) := by decide +kernel
theorem d_Mo_printed_25 : decode b_Mo_printed 25 = .ok (.putfield 49, 3) := by decide +kernel
theorem d_Mo_printed_28 : decode b_Mo_printed 28 = .ok (.aload_n 0, 1) := by decide +kernel
theorem d_Mo_printed_29 : decode b_Mo_printed 29 = .ok (.getfield 49, 3) := by decide +kernel
theorem d_Mo_printed_32 : decode b_Mo_printed 32 = .ok (.ifCond .le 7, 3) := by decide +kernel
theorem d_Mo_printed_35 : decode b_Mo_printed 35 = .ok (.iconst 0, 1) := by decide +kernel
theorem d_Mo_printed_36 : decode b_Mo_printed 36 = .ok (.goto 9, 3) := by decide +kernel
theorem d_Mo_printed_39 : decode b_Mo_printed 39 = .ok (.aload_n 0, 1) := by decide +kernel
theorem d_Mo_printed_40 : decode b_Mo_printed 40 = .ok (.getfield 43, 3) := by decide +kernel
theorem d_Mo_printed_43 : decode b_Mo_printed 43 = .ok (.iload_n 1, 1) := by decide +kernel
theorem d_Mo_printed_44 : decode b_Mo_printed 44 = .ok (.iaload, 1) := by decide +kernel
theorem d_Mo_printed_45 : decode b_Mo_printed 45 = .ok (.ireturn, 1) := by decide +kernel
theorem d_Mo_heap_0 : decode b_Mo_heap 0 = .ok (.aload_n 0, 1) := by decide +kernel
theorem d_Mo_heap_1 : decode b_Mo_heap 1 = .ok (.iload_n 1, 1) := by decide +kernel
theorem d_Mo_heap_2 : decode b_Mo_heap 2 = .ok (.invokestatic 96, 3) := by decide +kernel
theorem d_Mo_heap_5 : decode b_Mo_heap 5 = .ok (.ifCond .eq 7, 3) := by decide +kernel
theorem d_Mo_heap_8 : decode b_Mo_heap 8 = .ok (.iconst 0, 1) := by decide +kernel
theorem d_Mo_heap_9 : decode b_Mo_heap 9 = .ok (.goto 4, 3) := by decide +kernel
theorem d_Mo_heap_12 : decode b_Mo_heap 12 = .ok (.iconst 1, 1) := by decide +kernel
theorem d_Mo_heap_13 : decode b_Mo_heap 13 = .ok (.putfield 49, 3) := by decide +kernel
theorem d_Mo_heap_16 : decode b_Mo_heap 16 = .ok (.aload_n 0, 1) := by decide +kernel
theorem d_Mo_heap_17 : decode b_Mo_heap 17 = .ok (.getfield 49, 3) := by decide +kernel
