theorem d_Mo_perform_219 : decode b_Mo_perform 219 = .ok (.ifCond .ne 8, 3) := by decide +kernel
theorem d_Mo_perform_222 : decode b_Mo_perform 222 = .ok (.iload 5, 2) := by decide +kernel
theorem d_Mo_perform_224 : decode b_Mo_perform 224 = .ok (.goto 6, 3) := by decide +kernel
theorem d_Mo_perform_227 : decode b_Mo_perform 227 = .ok (.iload_n 1, 1) := by decide +kernel
theorem d_Mo_perform_228 : decode b_Mo_perform 228 = .ok (.iconst 1, 1) := by decide +kernel
theorem d_Mo_perform_229 : decode b_Mo_perform 229 = .ok (.iadd, 1) := by decide +kernel
theorem d_Mo_perform_230 : decode b_Mo_perform 230 = .ok (.ireturn, 1) := by decide +kernel
theorem d_Mo_perform_231 : decode b_Mo_perform 231 = .ok (.iload_n 2, 1) := by decide +kernel
theorem d_Mo_perform_232 : decode b_Mo_perform 232 = .ok (.iload_n 3, 1) := by decide +kernel
theorem d_Mo_perform_233 : decode b_Mo_perform 233 = .ok (.if_icmp .ge 8, 3) := by decide +kernel
theorem d_Mo_perform_236 : decode b_Mo_perform 236 = .ok (.iload 5, 2) := by decide +kernel
theorem d_Mo_perform_238 : decode b_Mo_perform 238 = .ok (.goto 6, 3) := by decide +kernel
theorem d_Mo_perform_241 : decode b_Mo_perform 241 = .ok (.iload_n 1, 1) := by decide +kernel
theorem d_Mo_perform_242 : decode b_Mo_perform 242 = .ok (.iconst 1, 1) := by decide +kernel
theorem d_Mo_perform_243 : decode b_Mo_perform 243 = .ok (.iadd, 1) := by decide +kernel
theorem d_Mo_perform_244 : decode b_Mo_perform 244 = .ok (.ireturn, 1) := by decide +kernel
theorem d_Mo_perform_245 : decode b_Mo_perform 245 = .ok (.aload_n 0, 1) := by decide +kernel
theorem d_Mo_perform_246 : decode b_Mo_perform 246 = .ok (.getfield 109, 3) := by decide +kernel
theorem d_Mo_perform_249 : decode b_Mo_perform 249 = .ok (.bipush 60, 2) := by decide +kernel
theorem d_Mo_perform_251 : decode b_Mo_perform 251 = .ok (.if_icmp .ge 45, 3) := by decide +kernel
theorem d_Mo_perform_254 : decode b_Mo_perform 254 = .ok (.aload_n 0, 1) := by decide +kernel
theorem d_Mo_perform_255 : decode b_Mo_perform 255 = .ok (.getfield 43, 3) := by decide +kernel
theorem d_Mo_perform_258 : decode b_Mo_perform 258 = .ok (.aload_n 0, 1) := by decide +kernel
theorem d_Mo_perform_259 : decode b_Mo_perform 259 = .ok (.getfield 109, 3) := by decide +kernel
theorem d_Mo_perform_262 : decode b_Mo_perform 262 = .ok (.iload_n 2, 1) := by decide +kernel
theorem d_Mo_perform_263 : decode b_Mo_perform 263 = .ok (.iastore, 1) := by decide +kernel
theorem d_Mo_perform_264 : decode b_Mo_perform 264 = .ok (.aload_n 0, 1) := by decide +kernel
theorem d_Mo_perform_265 : decode b_Mo_perform 265 = .ok (.dup, 1) := by decide +kernel
theorem d_Mo_perform_266 : decode b_Mo_perform 266 = .ok (.getfield 109, 3) := by decide +kernel
theorem d_Mo_perform_269 : decode b_Mo_perform 269 = .ok (.iconst 1, 1) := by decide +kernel
theorem d_Mo_perform_270 : decode b_Mo_perform 270 = .ok (.iadd, 1) := by decide +kernel
theorem d_Mo_perform_271 : decode b_Mo_perform 271 = .ok (.putfield 109, 3) := by decide +kernel
theorem d_Mo_perform_274 : decode b_Mo_perform 274 = .ok (.goto 22, 3) := by decide +kernel
theorem d_Mo_perform_277 : decode b_Mo_perform 277 = .ok (.aload_n 0, 1) := by decide +kernel
theorem d_Mo_perform_278 : decode b_Mo_perform 278 = .ok (.getfield 40, 3) := by decide +kernel
theorem d_Mo_perform_281 : decode b_Mo_perform 281 = .ok (.iload 4, 2) := by decide +kernel
theorem d_Mo_perform_283 : decode b_Mo_perform 283 = .ok (.iload_n 2, 1) := by decide +kernel
theorem d_Mo_perform_284 : decode b_Mo_perform 284 = .ok (.iload 5, 2) := by decide +kernel
theorem d_Mo_perform_286 : decode b_Mo_perform 286 = .ok (.iadd, 1) := by decide +kernel
theorem d_Mo_perform_287 : decode b_Mo_perform 287 = .ok (.iastore, 1) := by decide +kernel
theorem d_Mo_perform_288 : decode b_Mo_perform 288 = .ok (.goto 8, 3) := by decide +kernel
theorem d_Mo_perform_291 : decode b_Mo_perform 291 = .ok (.aload_n 0, 1) := by decide +kernel
theorem d_Mo_perform_292 : decode b_Mo_perform 292 = .ok (.iconst 2, 1) := by decide +kernel
theorem d_Mo_perform_293 : decode b_Mo_perform 293 = .ok (.putfield 64, 3) := by decide +kernel
theorem d_Mo_perform_296 : decode b_Mo_perform 296 = .ok (.iload_n 1, 1) := by decide +kernel
theorem d_Mo_perform_297 : decode b_Mo_perform 297 = .ok (.iconst 1, 1) := by decide +kernel
theorem d_Mo_perform_298 : decode b_Mo_perform 298 = .ok (.iadd, 1) := by decide +kernel
theorem d_Mo_perform_299 : decode b_Mo_perform 299 = .ok (.ireturn, 1) := by decide +kernel
theorem d_Mo_allocate_0 : decode b_Mo_allocate 0 = .ok (.iload_n 1, 1) := by decide +kernel
theorem d_Mo_allocate_1 : decode b_Mo_allocate 1 = .ok (.iconst 1, 1) := by decide +kernel
theorem d_Mo_allocate_2 : decode b_Mo_allocate 2 = .ok (.if_icmp .lt 9, 3) := by decide +kernel
theorem d_Mo_allocate_5 : decode b_Mo_allocate 5 = .ok (.iload_n 1, 1) := by decide +kernel
theorem d_Mo_allocate_6 : decode b_Mo_allocate 6 = .ok (.bipush 100, 2) := by decide +kernel
theorem d_Mo_allocate_8 : decode b_Mo_allocate 8 = .ok (.if_icmp .le 5, 3) := by decide +kernel
theorem d_Mo_allocate_11 : decode b_Mo_allocate 11 = .ok (.iconst 0, 1) := by decide +kernel
theorem d_Mo_allocate_12 : decode b_Mo_allocate 12 = .ok (.ireturn, 1) := by decide +kernel
theorem d_Mo_allocate_13 : decode b_Mo_allocate 13 = .ok (.iload_n 1, 1) := by decide +kernel
theorem d_Mo_allocate_14 : decode b_Mo_allocate 14 = .ok (.bipush 7, 2) := by decide +kernel
theorem d_Mo_allocate_16 : decode b_Mo_allocate 16 = .ok (.iadd, 1) := by decide +kernel
theorem d_Mo_allocate_17 : decode b_Mo_allocate 17 = .ok (.bipush 8, 2) := by decide +kernel
theorem d_Mo_allocate_19 : decode b_Mo_allocate 19 = .ok (.idiv, 1) := by decide +kernel
theorem d_Mo_allocate_20 : decode b_Mo_allocate 20 = .ok (.istore_n 2, 1) := by decide +kernel
theorem d_Mo_allocate_21 : decode b_Mo_allocate 21 = .ok (.aload_n 0, 1) := by decide +kernel
theorem d_Mo_allocate_22 : decode b_Mo_allocate 22 = .ok (.iload_n 2, 1) := by decide +kernel
theorem d_Mo_allocate_23 : decode b_Mo_allocate 23 = .ok (.iconst 2, 1) := by decide +kernel
theorem d_Mo_allocate_24 : decode b_Mo_allocate 24 = .ok (.iadd, 1) := by decide +kernel
theorem d_Mo_allocate_25 : decode b_Mo_allocate 25 = .ok (.invokevirtual 86, 3) := by decide +kernel
theorem d_Mo_allocate_28 : decode b_Mo_allocate 28 = .ok (.ifCond .ge 17, 3) := by decide +kernel
theorem d_Mo_allocate_31 : decode b_Mo_allocate 31 = .ok (.aload_n 0, 1) := by decide +kernel
theorem d_Mo_allocate_32 : decode b_Mo_allocate 32 = .ok (.getfield 83, 3) := by decide +kernel
theorem d_Mo_allocate_35 : decode b_Mo_allocate 35 = .ok (.ifCond .le 10, 3) := by decide +kernel
theorem d_Mo_allocate_38 : decode b_Mo_allocate 38 = .ok (.aload_n 0, 1) := by decide +kernel
theorem d_Mo_allocate_39 : decode b_Mo_allocate 39 = .ok (.invokevirtual 89, 3) := by decide +kernel
theorem d_Mo_allocate_42 : decode b_Mo_allocate 42 = .ok (.goto (-21), 3) := by decide +kernel
theorem d_Mo_allocate_45 : decode b_Mo_allocate 45 = .ok (.aload_n 0, 1) := by decide +kernel
theorem d_Mo_allocate_46 : decode b_Mo_allocate 46 = .ok (.iload_n 2, 1) := by decide +kernel
theorem d_Mo_allocate_47 : decode b_Mo_allocate 47 = .ok (.iconst 2, 1) := by decide +kernel
theorem d_Mo_allocate_48 : decode b_Mo_allocate 48 = .ok (.iadd, 1) := by decide +kernel
theorem d_Mo_allocate_49 : decode b_Mo_allocate 49 = .ok (.invokevirtual 86, 3) := by decide +kernel
theorem d_Mo_allocate_52 : decode b_Mo_allocate 52 = .ok (.istore_n 3, 1) := by decide +kernel
theorem d_Mo_allocate_53 : decode b_Mo_allocate 53 = .ok (.iload_n 3, 1) := by decide +kernel
theorem d_Mo_allocate_54 : decode b_Mo_allocate 54 = .ok (.ifCond .ge 5, 3) := by decide +kernel
theorem d_Mo_allocate_57 : decode b_Mo_allocate 57 = .ok (.iconst 0, 1) := by decide +kernel
theorem d_Mo_allocate_58 : decode b_Mo_allocate 58 = .ok (.ireturn, 1) := by decide +kernel
theorem d_Mo_allocate_59 : decode b_Mo_allocate 59 = .ok (.aload_n 0, 1) := by decide +kernel
theorem d_Mo_allocate_60 : decode b_Mo_allocate 60 = .ok (.getfield 34, 3) := by decide +kernel
theorem d_Mo_allocate_63 : decode b_Mo_allocate 63 = .ok (.iload_n 3, 1) := by decide +kernel
theorem d_Mo_allocate_64 : decode b_Mo_allocate 64 = .ok (.iload_n 2, 1) := by decide +kernel
theorem d_Mo_allocate_65 : decode b_Mo_allocate 65 = .ok (.iconst 2, 1) := by decide +kernel
theorem d_Mo_allocate_66 : decode b_Mo_allocate 66 = .ok (.iadd, 1) := by decide +kernel
theorem d_Mo_allocate_67 : decode b_Mo_allocate 67 = .ok (.iastore, 1) := by decide +kernel
theorem d_Mo_allocate_68 : decode b_Mo_allocate 68 = .ok (.iload_n 3, 1) := by decide +kernel
theorem d_Mo_allocate_69 : decode b_Mo_allocate 69 = .ok (.istore 4, 2) := by decide +kernel
theorem d_Mo_allocate_71 : decode b_Mo_allocate 71 = .ok (.iload 4, 2) := by decide +kernel
theorem d_Mo_allocate_73 : decode b_Mo_allocate 73 = .ok (.iload_n 3, 1) := by decide +kernel
theorem d_Mo_allocate_74 : decode b_Mo_allocate 74 = .ok (.iload_n 2, 1) := by decide +kernel
theorem d_Mo_allocate_75 : decode b_Mo_allocate 75 = .ok (.iadd, 1) := by decide +kernel
theorem d_Mo_allocate_76 : decode b_Mo_allocate 76 = .ok (.iconst 2, 1) := by decide +kernel
theorem d_Mo_allocate_77 : decode b_Mo_allocate 77 = .ok (.iadd, 1) := by decide +kernel
theorem d_Mo_allocate_78 : decode b_Mo_allocate 78 = .ok (.if_icmp .ge 25, 3) := by decide +kernel
theorem d_Mo_allocate_81 : decode b_Mo_allocate 81 = .ok (.aload_n 0, 1) := by decide +kernel
theorem d_Mo_allocate_82 : decode b_Mo_allocate 82 = .ok (.getfield 31, 3) := by decide +kernel
theorem d_Mo_allocate_85 : decode b_Mo_allocate 85 = .ok (.iload 4, 2) := by decide +kernel
theorem d_Mo_allocate_87 : decode b_Mo_allocate 87 = .ok (.iconst 1, 1) := by decide +kernel
theorem d_Mo_allocate_88 : decode b_Mo_allocate 88 = .ok (.iastore, 1) := by decide +kernel
theorem d_Mo_allocate_89 : decode b_Mo_allocate 89 = .ok (.aload_n 0, 1) := by decide +kernel
theorem d_Mo_allocate_90 : decode b_Mo_allocate 90 = .ok (.getfield 28, 3) := by decide +kernel
theorem d_Mo_allocate_93 : decode b_Mo_allocate 93 = .ok (.iload 4, 2) := by decide +kernel
theorem d_Mo_allocate_95 : decode b_Mo_allocate 95 = .ok (.iconst 0, 1) := by decide +kernel
theorem d_Mo_allocate_96 : decode b_Mo_allocate 96 = .ok (.iastore, 1) := by decide +kernel
theorem d_Mo_allocate_97 : decode b_Mo_allocate 97 = .ok (.iinc 4 1, 3) := by decide +kernel
theorem d_Mo_allocate_100 : decode b_Mo_allocate 100 = .ok (.goto (-29), 3) := by decide +kernel
theorem d_Mo_allocate_103 : decode b_Mo_allocate 103 = .ok (.aload_n 0, 1) := by decide +kernel
theorem d_Mo_allocate_104 : decode b_Mo_allocate 104 = .ok (.getfield 28, 3) := by decide +kernel
theorem d_Mo_allocate_107 : decode b_Mo_allocate 107 = .ok (.iload_n 3, 1) := by decide +kernel
theorem d_Mo_allocate_108 : decode b_Mo_allocate 108 = .ok (.iconst (-1), 1) := by decide +kernel
theorem d_Mo_allocate_109 : decode b_Mo_allocate 109 = .ok (.iastore, 1) := by decide +kernel
theorem d_Mo_allocate_110 : decode b_Mo_allocate 110 = .ok (.aload_n 0, 1) := by decide +kernel
theorem d_Mo_allocate_111 : decode b_Mo_allocate 111 = .ok (.getfield 28, 3) := by decide +kernel
theorem d_Mo_allocate_114 : decode b_Mo_allocate 114 = .ok (.iload_n 3, 1) := by decide +kernel
theorem d_Mo_allocate_115 : decode b_Mo_allocate 115 = .ok (.iload_n 2, 1) := by decide +kernel
theorem d_Mo_allocate_116 : decode b_Mo_allocate 116 = .ok (.iadd, 1) := by decide +kernel
theorem d_Mo_allocate_117 : decode b_Mo_allocate 117 = .ok (.iload_n 1, 1) := by decide +kernel
theorem d_Mo_allocate_118 : decode b_Mo_allocate 118 = .ok (.bipush 8, 2) := by decide +kernel
theorem d_Mo_allocate_120 : decode b_Mo_allocate 120 = .ok (.irem, 1) := by decide +kernel
theorem d_Mo_allocate_121 : decode b_Mo_allocate 121 = .ok (.iastore, 1) := by decide +kernel
theorem d_Mo_allocate_122 : decode b_Mo_allocate 122 = .ok (.aload_n 0, 1) := by decide +kernel
theorem d_Mo_allocate_123 : decode b_Mo_allocate 123 = .ok (.getfield 28, 3) := by decide +kernel
theorem d_Mo_allocate_126 : decode b_Mo_allocate 126 = .ok (.iload_n 3, 1) := by decide +kernel
theorem d_Mo_allocate_127 : decode b_Mo_allocate 127 = .ok (.iload_n 2, 1) := by decide +kernel
theorem d_Mo_allocate_128 : decode b_Mo_allocate 128 = .ok (.iadd, 1) := by decide +kernel
theorem d_Mo_allocate_129 : decode b_Mo_allocate 129 = .ok (.iconst 1, 1) := by decide +kernel
theorem d_Mo_allocate_130 : decode b_Mo_allocate 130 = .ok (.iadd, 1) := by decide +kernel
theorem d_Mo_allocate_131 : decode b_Mo_allocate 131 = .ok (.iconst (-1), 1) := by decide +kernel
theorem d_Mo_allocate_132 : decode b_Mo_allocate 132 = .ok (.iastore, 1) := by decide +kernel
theorem d_Mo_allocate_133 : decode b_Mo_allocate 133 = .ok (.bipush 8, 2) := by decide +kernel
theorem d_Mo_allocate_135 : decode b_Mo_allocate 135 = .ok (.iload_n 3, 1) := by decide +kernel
theorem d_Mo_allocate_136 : decode b_Mo_allocate 136 = .ok (.imul, 1) := by decide +kernel
theorem d_Mo_allocate_137 : decode b_Mo_allocate 137 = .ok (.bipush 8, 2) := by decide +kernel
theorem d_Mo_allocate_139 : decode b_Mo_allocate 139 = .ok (.iadd, 1) := by decide +kernel
theorem d_Mo_allocate_140 : decode b_Mo_allocate 140 = .ok (.istore 4, 2) := by decide +kernel
theorem d_Mo_allocate_142 : decode b_Mo_allocate 142 = .ok (.iload 4, 2) := by decide +kernel
theorem d_Mo_allocate_144 : decode b_Mo_allocate 144 = .ok (.bipush 8, 2) := by decide +kernel
theorem d_Mo_allocate_146 : decode b_Mo_allocate 146 = .ok (.iload_n 3, 1) := by decide +kernel
theorem d_Mo_allocate_147 : decode b_Mo_allocate 147 = .ok (.imul, 1) := by decide +kernel
theorem d_Mo_allocate_148 : decode b_Mo_allocate 148 = .ok (.bipush 8, 2) := by decide +kernel
theorem d_Mo_allocate_150 : decode b_Mo_allocate 150 = .ok (.iadd, 1) := by decide +kernel
theorem d_Mo_allocate_151 : decode b_Mo_allocate 151 = .ok (.bipush 8, 2) := by decide +kernel
theorem d_Mo_allocate_153 : decode b_Mo_allocate 153 = .ok (.iload_n 2, 1) := by decide +kernel
theorem d_Mo_allocate_154 : decode b_Mo_allocate 154 = .ok (.imul, 1) := by decide +kernel
theorem d_Mo_allocate_155 : decode b_Mo_allocate 155 = .ok (.iadd, 1) := by decide +kernel
theorem d_Mo_allocate_156 : decode b_Mo_allocate 156 = .ok (.if_icmp .ge 17, 3) := by decide +kernel
theorem d_Mo_allocate_159 : decode b_Mo_allocate 159 = .ok (.aload_n 0, 1) := by decide +kernel
theorem d_Mo_allocate_160 : decode b_Mo_allocate 160 = .ok (.getfield 25, 3) := by decide +kernel
theorem d_Mo_allocate_163 : decode b_Mo_allocate 163 = .ok (.iload 4, 2) := by decide +kernel
theorem d_Mo_allocate_165 : decode b_Mo_allocate 165 = .ok (.iconst 0, 1) := by decide +kernel
theorem d_Mo_allocate_166 : decode b_Mo_allocate 166 = .ok (.iastore, 1) := by decide +kernel
theorem d_Mo_allocate_167 : decode b_Mo_allocate 167 = .ok (.iinc 4 1, 3) := by decide +kernel
theorem d_Mo_allocate_170 : decode b_Mo_allocate 170 = .ok (.goto (-28), 3) := by decide +kernel
theorem d_Mo_allocate_173 : decode b_Mo_allocate 173 = .ok (.bipush 8, 2) := by decide +kernel
theorem d_Mo_allocate_175 : decode b_Mo_allocate 175 = .ok (.iload_n 3, 1) := by decide +kernel
theorem d_Mo_allocate_176 : decode b_Mo_allocate 176 = .ok (.imul, 1) := by decide +kernel
theorem d_Mo_allocate_177 : decode b_Mo_allocate 177 = .ok (.bipush 8, 2) := by decide +kernel
theorem d_Mo_allocate_179 : decode b_Mo_allocate 179 = .ok (.iadd, 1) := by decide +kernel
theorem d_Mo_allocate_180 : decode b_Mo_allocate 180 = .ok (.ireturn, 1) := by decide +kernel
theorem d_Mo_gap_0 : decode b_Mo_gap 0 = .ok (.iconst 0, 1) := by decide +kernel
theorem d_Mo_gap_1 : decode b_Mo_gap 1 = .ok (.istore_n 2, 1) := by decide +kernel
theorem d_Mo_gap_2 : decode b_Mo_gap 2 = .ok (.iload_n 2, 1) := by decide +kernel
theorem d_Mo_gap_3 : decode b_Mo_gap 3 = .ok (.iload_n 1, 1) := by decide +kernel
theorem d_Mo_gap_4 : decode b_Mo_gap 4 = .ok (.iadd, 1) := by decide +kernel
theorem d_Mo_gap_5 : decode b_Mo_gap 5 = .ok (.bipush 64, 2) := by decide +kernel
theorem d_Mo_gap_7 : decode b_Mo_gap 7 = .ok (.if_icmp .gt 40, 3) := by decide +kernel
theorem d_Mo_gap_10 : decode b_Mo_gap 10 = .ok (.iconst 0, 1) := by decide +kernel
theorem d_Mo_gap_11 : decode b_Mo_gap 11 = .ok (.istore_n 3, 1) := by decide +kernel
theorem d_Mo_gap_12 : decode b_Mo_gap 12 = .ok (.iload_n 3, 1) := by decide +kernel
theorem d_Mo_gap_13 : decode b_Mo_gap 13 = .ok (.iload_n 1, 1) := by decide +kernel
theorem d_Mo_gap_14 : decode b_Mo_gap 14 = .ok (.if_icmp .ge 20, 3) := by decide +kernel
theorem d_Mo_gap_17 : decode b_Mo_gap 17 = .ok (.aload_n 0, 1) := by decide +kernel
theorem d_Mo_gap_18 : decode b_Mo_gap 18 = .ok (.getfield 31, 3) := by decide +kernel
theorem d_Mo_gap_21 : decode b_Mo_gap 21 = .ok (.iload_n 2, 1) := by decide +kernel
theorem d_Mo_gap_22 : decode b_Mo_gap 22 = .ok (.iload_n 3, 1) := by decide +kernel
theorem d_Mo_gap_23 : decode b_Mo_gap 23 = .ok (.iadd, 1) := by decide +kernel
theorem d_Mo_gap_24 : decode b_Mo_gap 24 = .ok (.iaload, 1) := by decide +kernel
theorem d_Mo_gap_25 : decode b_Mo_gap 25 = .ok (.ifCond .ne 9, 3) := by decide +kernel
theorem d_Mo_gap_28 : decode b_Mo_gap 28 = .ok (.iinc 3 1, 3) := by decide +kernel
theorem d_Mo_gap_31 : decode b_Mo_gap 31 = .ok (.goto (-19), 3) := by decide +kernel
theorem d_Mo_gap_34 : decode b_Mo_gap 34 = .ok (.iload_n 3, 1) := by decide +kernel
theorem d_Mo_gap_35 : decode b_Mo_gap 35 = .ok (.iload_n 1, 1) := by decide +kernel
theorem d_Mo_gap_36 : decode b_Mo_gap 36 = .ok (.if_icmp .ne 5, 3) := by decide +kernel
theorem d_Mo_gap_39 : decode b_Mo_gap 39 = .ok (.iload_n 2, 1) := by decide +kernel
theorem d_Mo_gap_40 : decode b_Mo_gap 40 = .ok (.ireturn, 1) := by decide +kernel
theorem d_Mo_gap_41 : decode b_Mo_gap 41 = .ok (.iinc 2 1, 3) := by decide +kernel
theorem d_Mo_gap_44 : decode b_Mo_gap 44 = .ok (.goto (-42), 3) := by decide +kernel
theorem d_Mo_gap_47 : decode b_Mo_gap 47 = .ok (.iconst (-1), 1) := by decide +kernel
theorem d_Mo_gap_48 : decode b_Mo_gap 48 = .ok (.ireturn, 1) := by decide +kernel
theorem d_Mo_release_0 : decode b_Mo_release 0 = .ok (.aload_n 0, 1) := by decide +kernel
theorem d_Mo_release_1 : decode b_Mo_release 1 = .ok (.getfield 37, 3) := by decide +kernel
theorem d_Mo_release_4 : decode b_Mo_release 4 = .ok (.iconst 0, 1) := by decide +kernel
theorem d_Mo_release_5 : decode b_Mo_release 5 = .ok (.iaload, 1) := by decide +kernel
theorem d_Mo_release_6 : decode b_Mo_release 6 = .ok (.istore_n 1, 1) := by decide +kernel
theorem d_Mo_release_7 : decode b_Mo_release 7 = .ok (.aload_n 0, 1) := by decide +kernel
theorem d_Mo_release_8 : decode b_Mo_release 8 = .ok (.dup, 1) := by decide +kernel
theorem d_Mo_release_9 : decode b_Mo_release 9 = .ok (.getfield 83, 3) := by decide +kernel
theorem d_Mo_release_12 : decode b_Mo_release 12 = .ok (.iconst 1, 1) := by decide +kernel
theorem d_Mo_release_13 : decode b_Mo_release 13 = .ok (.isub, 1) := by decide +kernel
theorem d_Mo_release_14 : decode b_Mo_release 14 = .ok (.putfield 83, 3) := by decide +kernel
theorem d_Mo_release_17 : decode b_Mo_release 17 = .ok (.iconst 0, 1) := by decide +kernel
theorem d_Mo_release_18 : decode b_Mo_release 18 = .ok (.istore_n 2, 1) := by decide +kernel
