theorem d_Mo_perform_12 : decode b_Mo_perform 12 = .ok (.aload_n 0, 1) := by decide +kernel
theorem d_Mo_perform_13 : decode b_Mo_perform 13 = .ok (.getfield 40, 3) := by decide +kernel
theorem d_Mo_perform_16 : decode b_Mo_perform 16 = .ok (.aload_n 0, 1) := by decide +kernel
theorem d_Mo_perform_17 : decode b_Mo_perform 17 = .ok (.getfield 19, 3) := by decide +kernel
theorem d_Mo_perform_20 : decode b_Mo_perform 20 = .ok (.iload_n 1, 1) := by decide +kernel
theorem d_Mo_perform_21 : decode b_Mo_perform 21 = .ok (.iaload, 1) := by decide +kernel
theorem d_Mo_perform_22 : decode b_Mo_perform 22 = .ok (.iaload, 1) := by decide +kernel
theorem d_Mo_perform_23 : decode b_Mo_perform 23 = .ok (.istore_n 3, 1) := by decide +kernel
theorem d_Mo_perform_24 : decode b_Mo_perform 24 = .ok (.aload_n 0, 1) := by decide +kernel
theorem d_Mo_perform_25 : decode b_Mo_perform 25 = .ok (.getfield 13, 3) := by decide +kernel
theorem d_Mo_perform_28 : decode b_Mo_perform 28 = .ok (.iload_n 1, 1) := by decide +kernel
theorem d_Mo_perform_29 : decode b_Mo_perform 29 = .ok (.iaload, 1) := by decide +kernel
theorem d_Mo_perform_30 : decode b_Mo_perform 30 = .ok (.istore 4, 2) := by decide +kernel
theorem d_Mo_perform_32 : decode b_Mo_perform 32 = .ok (.aload_n 0, 1) := by decide +kernel
theorem d_Mo_perform_33 : decode b_Mo_perform 33 = .ok (.getfield 22, 3) := by decide +kernel
theorem d_Mo_perform_36 : decode b_Mo_perform 36 = .ok (.iload_n 1, 1) := by decide +kernel
theorem d_Mo_perform_37 : decode b_Mo_perform 37 = .ok (.iaload, 1) := by decide +kernel
theorem d_Mo_perform_38 : decode b_Mo_perform 38 = .ok (.istore 5, 2) := by decide +kernel
theorem d_Mo_perform_40 : decode b_Mo_perform 40 = .ok (.aload_n 0, 1) := by decide +kernel
theorem d_Mo_perform_41 : decode b_Mo_perform 41 = .ok (.getfield 7, 3) := by decide +kernel
theorem d_Mo_perform_44 : decode b_Mo_perform 44 = .ok (.iload_n 1, 1) := by decide +kernel
theorem d_Mo_perform_45 : decode b_Mo_perform 45 = .ok (.iaload, 1) := by decide +kernel
theorem d_Mo_perform_46 : decode b_Mo_perform 46 = .ok (.tableswitch 245 0 13 #[70, 82, 95, 108, 121, 136, 164, 164, 164, 164, 172, 185, 199, 231], 70) := by decide +kernel
theorem d_Mo_perform_116 : decode b_Mo_perform 116 = .ok (.aload_n 0, 1) := by decide +kernel
theorem d_Mo_perform_117 : decode b_Mo_perform 117 = .ok (.getfield 40, 3) := by decide +kernel
theorem d_Mo_perform_120 : decode b_Mo_perform 120 = .ok (.iload 4, 2) := by decide +kernel
theorem d_Mo_perform_122 : decode b_Mo_perform 122 = .ok (.iload 5, 2) := by decide +kernel
theorem d_Mo_perform_124 : decode b_Mo_perform 124 = .ok (.iastore, 1) := by decide +kernel
theorem d_Mo_perform_125 : decode b_Mo_perform 125 = .ok (.goto 171, 3) := by decide +kernel
theorem d_Mo_perform_128 : decode b_Mo_perform 128 = .ok (.aload_n 0, 1) := by decide +kernel
theorem d_Mo_perform_129 : decode b_Mo_perform 129 = .ok (.getfield 40, 3) := by decide +kernel
theorem d_Mo_perform_132 : decode b_Mo_perform 132 = .ok (.iload 4, 2) := by decide +kernel
theorem d_Mo_perform_134 : decode b_Mo_perform 134 = .ok (.iload_n 2, 1) := by decide +kernel
theorem d_Mo_perform_135 : decode b_Mo_perform 135 = .ok (.iload_n 3, 1) := by decide +kernel
theorem d_Mo_perform_136 : decode b_Mo_perform 136 = .ok (.iadd, 1) := by decide +kernel
theorem d_Mo_perform_137 : decode b_Mo_perform 137 = .ok (.iastore, 1) := by decide +kernel
theorem d_Mo_perform_138 : decode b_Mo_perform 138 = .ok (.goto 158, 3) := by decide +kernel
theorem d_Mo_perform_141 : decode b_Mo_perform 141 = .ok (.aload_n 0, 1) := by decide +kernel
theorem d_Mo_perform_142 : decode b_Mo_perform 142 = .ok (.getfield 40, 3) := by decide +kernel
theorem d_Mo_perform_145 : decode b_Mo_perform 145 = .ok (.iload 4, 2) := by decide +kernel
theorem d_Mo_perform_147 : decode b_Mo_perform 147 = .ok (.iload_n 2, 1) := by decide +kernel
theorem d_Mo_perform_148 : decode b_Mo_perform 148 = .ok (.iload_n 3, 1) := by decide +kernel
theorem d_Mo_perform_149 : decode b_Mo_perform 149 = .ok (.isub, 1) := by decide +kernel
theorem d_Mo_perform_150 : decode b_Mo_perform 150 = .ok (.iastore, 1) := by decide +kernel
theorem d_Mo_perform_151 : decode b_Mo_perform 151 = .ok (.goto 145, 3) := by decide +kernel
theorem d_Mo_perform_154 : decode b_Mo_perform 154 = .ok (.aload_n 0, 1) := by decide +kernel
theorem d_Mo_perform_155 : decode b_Mo_perform 155 = .ok (.getfield 40, 3) := by decide +kernel
theorem d_Mo_perform_158 : decode b_Mo_perform 158 = .ok (.iload 4, 2) := by decide +kernel
theorem d_Mo_perform_160 : decode b_Mo_perform 160 = .ok (.iload_n 2, 1) := by decide +kernel
theorem d_Mo_perform_161 : decode b_Mo_perform 161 = .ok (.iload_n 3, 1) := by decide +kernel
theorem d_Mo_perform_162 : decode b_Mo_perform 162 = .ok (.imul, 1) := by decide +kernel
theorem d_Mo_perform_163 : decode b_Mo_perform 163 = .ok (.iastore, 1) := by decide +kernel
theorem d_Mo_perform_164 : decode b_Mo_perform 164 = .ok (.goto 132, 3) := by decide +kernel
theorem d_Mo_perform_167 : decode b_Mo_perform 167 = .ok (.aload_n 0, 1) := by decide +kernel
theorem d_Mo_perform_168 : decode b_Mo_perform 168 = .ok (.getfield 40, 3) := by decide +kernel
theorem d_Mo_perform_171 : decode b_Mo_perform 171 = .ok (.iload 4, 2) := by decide +kernel
theorem d_Mo_perform_173 : decode b_Mo_perform 173 = .ok (.aload_n 0, 1) := by decide +kernel
theorem d_Mo_perform_174 : decode b_Mo_perform 174 = .ok (.iload_n 2, 1) := by decide +kernel
theorem d_Mo_perform_175 : decode b_Mo_perform 175 = .ok (.invokevirtual 134, 3) := by decide +kernel
theorem d_Mo_perform_178 : decode b_Mo_perform 178 = .ok (.iastore, 1) := by decide +kernel
theorem d_Mo_perform_179 : decode b_Mo_perform 179 = .ok (.goto 117, 3) := by decide +kernel
theorem d_Mo_perform_182 : decode b_Mo_perform 182 = .ok (.aload_n 0, 1) := by decide +kernel
theorem d_Mo_perform_183 : decode b_Mo_perform 183 = .ok (.iload_n 2, 1) := by decide +kernel
theorem d_Mo_perform_184 : decode b_Mo_perform 184 = .ok (.invokevirtual 121, 3) := by decide +kernel
theorem d_Mo_perform_187 : decode b_Mo_perform 187 = .ok (.ifCond .eq 11, 3) := by decide +kernel
theorem d_Mo_perform_190 : decode b_Mo_perform 190 = .ok (.aload_n 0, 1) := by decide +kernel
theorem d_Mo_perform_191 : decode b_Mo_perform 191 = .ok (.iload_n 2, 1) := by decide +kernel
theorem d_Mo_perform_192 : decode b_Mo_perform 192 = .ok (.invokevirtual 137, 3) := by decide +kernel
theorem d_Mo_perform_195 : decode b_Mo_perform 195 = .ok (.goto 101, 3) := by decide +kernel
theorem d_Mo_perform_198 : decode b_Mo_perform 198 = .ok (.iload_n 2, 1) := by decide +kernel
theorem d_Mo_perform_199 : decode b_Mo_perform 199 = .ok (.ifCond .eq 97, 3) := by decide +kernel
theorem d_Mo_perform_202 : decode b_Mo_perform 202 = .ok (.aload_n 0, 1) := by decide +kernel
theorem d_Mo_perform_203 : decode b_Mo_perform 203 = .ok (.iconst 4, 1) := by decide +kernel
theorem d_Mo_perform_204 : decode b_Mo_perform 204 = .ok (.putfield 64, 3) := by decide +kernel
theorem d_Mo_perform_207 : decode b_Mo_perform 207 = .ok (.goto 89, 3) := by decide +kernel
theorem d_Mo_perform_210 : decode b_Mo_perform 210 = .ok (.aload_n 0, 1) := by decide +kernel
theorem d_Mo_perform_211 : decode b_Mo_perform 211 = .ok (.iload_n 1, 1) := by decide +kernel
theorem d_Mo_perform_212 : decode b_Mo_perform 212 = .ok (.invokevirtual 141, 3) := by decide +kernel
theorem d_Mo_perform_215 : decode b_Mo_perform 215 = .ok (.goto 81, 3) := by decide +kernel
theorem d_Mo_perform_218 : decode b_Mo_perform 218 = .ok (.iload_n 2, 1) := by decide +kernel
