theorem d_Mo_heap_20 : decode b_Mo_heap 20 = .ok (.ifCond .le 7, 3) := by decide +kernel
theorem d_Mo_heap_23 : decode b_Mo_heap 23 = .ok (.iconst 0, 1) := by decide +kernel
theorem d_Mo_heap_24 : decode b_Mo_heap 24 = .ok (.goto 9, 3) := by decide +kernel
theorem d_Mo_heap_27 : decode b_Mo_heap 27 = .ok (.aload_n 0, 1) := by decide +kernel
theorem d_Mo_heap_28 : decode b_Mo_heap 28 = .ok (.getfield 25, 3) := by decide +kernel
theorem d_Mo_heap_31 : decode b_Mo_heap 31 = .ok (.iload_n 1, 1) := by decide +kernel
theorem d_Mo_heap_32 : decode b_Mo_heap 32 = .ok (.iaload, 1) := by decide +kernel
theorem d_Mo_heap_33 : decode b_Mo_heap 33 = .ok (.ireturn, 1) := by decide +kernel
theorem d_Mo_shadow_0 : decode b_Mo_shadow 0 = .ok (.aload_n 0, 1) := by decide +kernel
theorem d_Mo_shadow_1 : decode b_Mo_shadow 1 = .ok (.iload_n 1, 1) := by decide +kernel
theorem d_Mo_shadow_2 : decode b_Mo_shadow 2 = .ok (.ifCond .lt 9, 3) := by decide +kernel
theorem d_Mo_shadow_5 : decode b_Mo_shadow 5 = .ok (.iload_n 1, 1) := by decide +kernel
theorem d_Mo_shadow_6 : decode b_Mo_shadow 6 = .ok (.bipush 63, 2) := by decide +kernel
theorem d_Mo_shadow_8 : decode b_Mo_shadow 8 = .ok (.if_icmp .le 7, 3) := by decide +kernel
theorem d_Mo_shadow_11 : decode b_Mo_shadow 11 = .ok (.iconst 1, 1) := by decide +kernel
theorem d_Mo_shadow_12 : decode b_Mo_shadow 12 = .ok (.goto 4, 3) := by decide +kernel
theorem d_Mo_shadow_15 : decode b_Mo_shadow 15 = .ok (.iconst 0, 1) := by decide +kernel
theorem d_Mo_shadow_16 : decode b_Mo_shadow 16 = .ok (.putfield 49, 3) := by decide +kernel
theorem d_Mo_shadow_19 : decode b_Mo_shadow 19 = .ok (.aload_n 0, 1) := by decide +kernel
theorem d_Mo_shadow_20 : decode b_Mo_shadow 20 = .ok (.getfield 49, 3) := by decide +kernel
theorem d_Mo_shadow_23 : decode b_Mo_shadow 23 = .ok (.ifCond .le 7, 3) := by decide +kernel
theorem d_Mo_shadow_26 : decode b_Mo_shadow 26 = .ok (.iconst 0, 1) := by decide +kernel
theorem d_Mo_shadow_27 : decode b_Mo_shadow 27 = .ok (.goto 9, 3) := by decide +kernel
theorem d_Mo_shadow_30 : decode b_Mo_shadow 30 = .ok (.aload_n 0, 1) := by decide +kernel
theorem d_Mo_shadow_31 : decode b_Mo_shadow 31 = .ok (.getfield 28, 3) := by decide +kernel
theorem d_Mo_shadow_34 : decode b_Mo_shadow 34 = .ok (.iload_n 1, 1) := by decide +kernel
theorem d_Mo_shadow_35 : decode b_Mo_shadow 35 = .ok (.iaload, 1) := by decide +kernel
theorem d_Mo_shadow_36 : decode b_Mo_shadow 36 = .ok (.ireturn, 1) := by decide +kernel
theorem d_Mo_report_0 : decode b_Mo_report 0 = .ok (.aload_n 0, 1) := by decide +kernel
theorem d_Mo_report_1 : decode b_Mo_report 1 = .ok (.aload_n 0, 1) := by decide +kernel
theorem d_Mo_report_2 : decode b_Mo_report 2 = .ok (.getfield 64, 3) := by decide +kernel
theorem d_Mo_report_5 : decode b_Mo_report 5 = .ok (.iconst 3, 1) := by decide +kernel
theorem d_Mo_report_6 : decode b_Mo_report 6 = .ok (.if_icmp .eq 7, 3) := by decide +kernel
theorem d_Mo_report_9 : decode b_Mo_report 9 = .ok (.iconst 1, 1) := by decide +kernel
theorem d_Mo_report_10 : decode b_Mo_report 10 = .ok (.goto 17, 3) := by decide +kernel
theorem d_Mo_report_13 : decode b_Mo_report 13 = .ok (.iload_n 1, 1) := by decide +kernel
theorem d_Mo_report_14 : decode b_Mo_report 14 = .ok (.ifCond .lt 8, 3) := by decide +kernel
theorem d_Mo_report_17 : decode b_Mo_report 17 = .ok (.iload_n 1, 1) := by decide +kernel
theorem d_Mo_report_18 : decode b_Mo_report 18 = .ok (.iconst 2, 1) := by decide +kernel
theorem d_Mo_report_19 : decode b_Mo_report 19 = .ok (.if_icmp .le 7, 3) := by decide +kernel
theorem d_Mo_report_22 : decode b_Mo_report 22 = .ok (.iconst 2, 1) := by decide +kernel
theorem d_Mo_report_23 : decode b_Mo_report 23 = .ok (.goto 4, 3) := by decide +kernel
theorem d_Mo_report_26 : decode b_Mo_report 26 = .ok (.iconst 0, 1) := by decide +kernel
theorem d_Mo_report_27 : decode b_Mo_report 27 = .ok (.putfield 49, 3) := by decide +kernel
theorem d_Mo_report_30 : decode b_Mo_report 30 = .ok (.aload_n 0, 1) := by decide +kernel
theorem d_Mo_report_31 : decode b_Mo_report 31 = .ok (.getfield 49, 3) := by decide +kernel
theorem d_Mo_report_34 : decode b_Mo_report 34 = .ok (.ifCond .le 5, 3) := by decide +kernel
theorem d_Mo_report_37 : decode b_Mo_report 37 = .ok (.iconst 0, 1) := by decide +kernel
theorem d_Mo_report_38 : decode b_Mo_report 38 = .ok (.ireturn, 1) := by decide +kernel
theorem d_Mo_report_39 : decode b_Mo_report 39 = .ok (.iload_n 1, 1) := by decide +kernel
theorem d_Mo_report_40 : decode b_Mo_report 40 = .ok (.ifCond .ne 10, 3) := by decide +kernel
theorem d_Mo_report_43 : decode b_Mo_report 43 = .ok (.aload_n 0, 1) := by decide +kernel
theorem d_Mo_report_44 : decode b_Mo_report 44 = .ok (.getfield 112, 3) := by decide +kernel
theorem d_Mo_report_47 : decode b_Mo_report 47 = .ok (.goto 19, 3) := by decide +kernel
theorem d_Mo_report_50 : decode b_Mo_report 50 = .ok (.iload_n 1, 1) := by decide +kernel
theorem d_Mo_report_51 : decode b_Mo_report 51 = .ok (.iconst 1, 1) := by decide +kernel
theorem d_Mo_report_52 : decode b_Mo_report 52 = .ok (.if_icmp .ne 10, 3) := by decide +kernel
theorem d_Mo_report_55 : decode b_Mo_report 55 = .ok (.aload_n 0, 1) := by decide +kernel
theorem d_Mo_report_56 : decode b_Mo_report 56 = .ok (.getfield 115, 3) := by decide +kernel
theorem d_Mo_report_59 : decode b_Mo_report 59 = .ok (.goto 7, 3) := by decide +kernel
theorem d_Mo_report_62 : decode b_Mo_report 62 = .ok (.aload_n 0, 1) := by decide +kernel
theorem d_Mo_report_63 : decode b_Mo_report 63 = .ok (.getfield 118, 3) := by decide +kernel
theorem d_Mo_report_66 : decode b_Mo_report 66 = .ok (.ireturn, 1) := by decide +kernel
theorem d_La_law_0 : decode b_La_law 0 = .ok (.new 8, 3) := by decide +kernel
theorem d_La_law_3 : decode b_La_law 3 = .ok (.dup, 1) := by decide +kernel
theorem d_La_law_4 : decode b_La_law 4 = .ok (.invokespecial 53, 3) := by decide +kernel
theorem d_La_law_7 : decode b_La_law 7 = .ok (.astore_n 1, 1) := by decide +kernel
theorem d_La_law_8 : decode b_La_law 8 = .ok (.new 54, 3) := by decide +kernel
theorem d_La_law_11 : decode b_La_law 11 = .ok (.dup, 1) := by decide +kernel
theorem d_La_law_12 : decode b_La_law 12 = .ok (.invokespecial 56, 3) := by decide +kernel
theorem d_La_law_15 : decode b_La_law 15 = .ok (.astore_n 2, 1) := by decide +kernel
theorem d_La_law_16 : decode b_La_law 16 = .ok (.iconst 1, 1) := by decide +kernel
theorem d_La_law_17 : decode b_La_law 17 = .ok (.newarray .long, 2) := by decide +kernel
theorem d_La_law_19 : decode b_La_law 19 = .ok (.astore_n 3, 1) := by decide +kernel
theorem d_La_law_20 : decode b_La_law 20 = .ok (.iconst 0, 1) := by decide +kernel
theorem d_La_law_21 : decode b_La_law 21 = .ok (.istore 4, 2) := by decide +kernel
theorem d_La_law_23 : decode b_La_law 23 = .ok (.iload 4, 2) := by decide +kernel
theorem d_La_law_25 : decode b_La_law 25 = .ok (.aload_n 0, 1) := by decide +kernel
theorem d_La_law_26 : decode b_La_law 26 = .ok (.arraylength, 1) := by decide +kernel
theorem d_La_law_27 : decode b_La_law 27 = .ok (.bipush 6, 2) := by decide +kernel
theorem d_La_law_29 : decode b_La_law 29 = .ok (.isub, 1) := by decide +kernel
theorem d_La_law_30 : decode b_La_law 30 = .ok (.if_icmp .gt 775, 3) := by decide +kernel
theorem d_La_law_33 : decode b_La_law 33 = .ok (.aload_n 0, 1) := by decide +kernel
theorem d_La_law_34 : decode b_La_law 34 = .ok (.iload 4, 2) := by decide +kernel
theorem d_La_law_36 : decode b_La_law 36 = .ok (.iaload, 1) := by decide +kernel
theorem d_La_law_37 : decode b_La_law 37 = .ok (.bipush 15, 2) := by decide +kernel
theorem d_La_law_39 : decode b_La_law 39 = .ok (.iand, 1) := by decide +kernel
theorem d_La_law_40 : decode b_La_law 40 = .ok (.tableswitch 759 0 11 #[64, 168, 179, 223, 291, 367, 423, 479, 535, 591, 647, 703], 64) := by decide +kernel
theorem d_La_law_104 : decode b_La_law 104 = .ok (.aload_n 1, 1) := by decide +kernel
theorem d_La_law_105 : decode b_La_law 105 = .ok (.aload_n 0, 1) := by decide +kernel
theorem d_La_law_106 : decode b_La_law 106 = .ok (.iload 4, 2) := by decide +kernel
theorem d_La_law_108 : decode b_La_law 108 = .ok (.iconst 1, 1) := by decide +kernel
theorem d_La_law_109 : decode b_La_law 109 = .ok (.iadd, 1) := by decide +kernel
theorem d_La_law_110 : decode b_La_law 110 = .ok (.iaload, 1) := by decide +kernel
theorem d_La_law_111 : decode b_La_law 111 = .ok (.aload_n 0, 1) := by decide +kernel
theorem d_La_law_112 : decode b_La_law 112 = .ok (.iload 4, 2) := by decide +kernel
theorem d_La_law_114 : decode b_La_law 114 = .ok (.iconst 2, 1) := by decide +kernel
theorem d_La_law_115 : decode b_La_law 115 = .ok (.iadd, 1) := by decide +kernel
theorem d_La_law_116 : decode b_La_law 116 = .ok (.iaload, 1) := by decide +kernel
theorem d_La_law_117 : decode b_La_law 117 = .ok (.aload_n 0, 1) := by decide +kernel
theorem d_La_law_118 : decode b_La_law 118 = .ok (.iload 4, 2) := by decide +kernel
theorem d_La_law_120 : decode b_La_law 120 = .ok (.iconst 3, 1) := by decide +kernel
theorem d_La_law_121 : decode b_La_law 121 = .ok (.iadd, 1) := by decide +kernel
theorem d_La_law_122 : decode b_La_law 122 = .ok (.iaload, 1) := by decide +kernel
theorem d_La_law_123 : decode b_La_law 123 = .ok (.aload_n 0, 1) := by decide +kernel
theorem d_La_law_124 : decode b_La_law 124 = .ok (.iload 4, 2) := by decide +kernel
theorem d_La_law_126 : decode b_La_law 126 = .ok (.iconst 4, 1) := by decide +kernel
theorem d_La_law_127 : decode b_La_law 127 = .ok (.iadd, 1) := by decide +kernel
theorem d_La_law_128 : decode b_La_law 128 = .ok (.iaload, 1) := by decide +kernel
theorem d_La_law_129 : decode b_La_law 129 = .ok (.aload_n 0, 1) := by decide +kernel
theorem d_La_law_130 : decode b_La_law 130 = .ok (.iload 4, 2) := by decide +kernel
theorem d_La_law_132 : decode b_La_law 132 = .ok (.iconst 5, 1) := by decide +kernel
theorem d_La_law_133 : decode b_La_law 133 = .ok (.iadd, 1) := by decide +kernel
theorem d_La_law_134 : decode b_La_law 134 = .ok (.iaload, 1) := by decide +kernel
theorem d_La_law_135 : decode b_La_law 135 = .ok (.aload_n 3, 1) := by decide +kernel
theorem d_La_law_136 : decode b_La_law 136 = .ok (.invokestatic 57, 3) := by decide +kernel
theorem d_La_law_139 : decode b_La_law 139 = .ok (.istore 5, 2) := by decide +kernel
theorem d_La_law_141 : decode b_La_law 141 = .ok (.aload_n 2, 1) := by decide +kernel
theorem d_La_law_142 : decode b_La_law 142 = .ok (.aload_n 0, 1) := by decide +kernel
theorem d_La_law_143 : decode b_La_law 143 = .ok (.iload 4, 2) := by decide +kernel
theorem d_La_law_145 : decode b_La_law 145 = .ok (.iconst 1, 1) := by decide +kernel
theorem d_La_law_146 : decode b_La_law 146 = .ok (.iadd, 1) := by decide +kernel
theorem d_La_law_147 : decode b_La_law 147 = .ok (.iaload, 1) := by decide +kernel
theorem d_La_law_148 : decode b_La_law 148 = .ok (.aload_n 0, 1) := by decide +kernel
theorem d_La_law_149 : decode b_La_law 149 = .ok (.iload 4, 2) := by decide +kernel
theorem d_La_law_151 : decode b_La_law 151 = .ok (.iconst 2, 1) := by decide +kernel
theorem d_La_law_152 : decode b_La_law 152 = .ok (.iadd, 1) := by decide +kernel
theorem d_La_law_153 : decode b_La_law 153 = .ok (.iaload, 1) := by decide +kernel
theorem d_La_law_154 : decode b_La_law 154 = .ok (.aload_n 0, 1) := by decide +kernel
theorem d_La_law_155 : decode b_La_law 155 = .ok (.iload 4, 2) := by decide +kernel
