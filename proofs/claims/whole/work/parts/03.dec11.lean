theorem d_La_law_157 : decode b_La_law 157 = .ok (.iconst 3, 1) := by decide +kernel
theorem d_La_law_158 : decode b_La_law 158 = .ok (.iadd, 1) := by decide +kernel
theorem d_La_law_159 : decode b_La_law 159 = .ok (.iaload, 1) := by decide +kernel
theorem d_La_law_160 : decode b_La_law 160 = .ok (.aload_n 0, 1) := by decide +kernel
theorem d_La_law_161 : decode b_La_law 161 = .ok (.iload 4, 2) := by decide +kernel
theorem d_La_law_163 : decode b_La_law 163 = .ok (.iconst 4, 1) := by decide +kernel
theorem d_La_law_164 : decode b_La_law 164 = .ok (.iadd, 1) := by decide +kernel
theorem d_La_law_165 : decode b_La_law 165 = .ok (.iaload, 1) := by decide +kernel
theorem d_La_law_166 : decode b_La_law 166 = .ok (.aload_n 0, 1) := by decide +kernel
theorem d_La_law_167 : decode b_La_law 167 = .ok (.iload 4, 2) := by decide +kernel
theorem d_La_law_169 : decode b_La_law 169 = .ok (.iconst 5, 1) := by decide +kernel
theorem d_La_law_170 : decode b_La_law 170 = .ok (.iadd, 1) := by decide +kernel
theorem d_La_law_171 : decode b_La_law 171 = .ok (.iaload, 1) := by decide +kernel
theorem d_La_law_172 : decode b_La_law 172 = .ok (.invokevirtual 62, 3) := by decide +kernel
theorem d_La_law_175 : decode b_La_law 175 = .ok (.istore 6, 2) := by decide +kernel
theorem d_La_law_177 : decode b_La_law 177 = .ok (.aload_n 2, 1) := by decide +kernel
theorem d_La_law_178 : decode b_La_law 178 = .ok (.invokevirtual 63, 3) := by decide +kernel
theorem d_La_law_181 : decode b_La_law 181 = .ok (.iload 5, 2) := by decide +kernel
theorem d_La_law_183 : decode b_La_law 183 = .ok (.if_icmp .eq 5, 3) := by decide +kernel
theorem d_La_law_186 : decode b_La_law 186 = .ok (.iconst 0, 1) := by decide +kernel
theorem d_La_law_187 : decode b_La_law 187 = .ok (.ireturn, 1) := by decide +kernel
theorem d_La_law_188 : decode b_La_law 188 = .ok (.iload 5, 2) := by decide +kernel
theorem d_La_law_190 : decode b_La_law 190 = .ok (.ifCond .ne 15, 3) := by decide +kernel
theorem d_La_law_193 : decode b_La_law 193 = .ok (.aload_n 3, 1) := by decide +kernel
theorem d_La_law_194 : decode b_La_law 194 = .ok (.iconst 0, 1) := by decide +kernel
theorem d_La_law_195 : decode b_La_law 195 = .ok (.laload, 1) := by decide +kernel
theorem d_La_law_196 : decode b_La_law 196 = .ok (.iload 6, 2) := by decide +kernel
theorem d_La_law_198 : decode b_La_law 198 = .ok (.i2l, 1) := by decide +kernel
theorem d_La_law_199 : decode b_La_law 199 = .ok (.lcmp, 1) := by decide +kernel
theorem d_La_law_200 : decode b_La_law 200 = .ok (.ifCond .eq 5, 3) := by decide +kernel
theorem d_La_law_203 : decode b_La_law 203 = .ok (.iconst 0, 1) := by decide +kernel
theorem d_La_law_204 : decode b_La_law 204 = .ok (.ireturn, 1) := by decide +kernel
theorem d_La_law_205 : decode b_La_law 205 = .ok (.goto 594, 3) := by decide +kernel
theorem d_La_law_208 : decode b_La_law 208 = .ok (.aload_n 1, 1) := by decide +kernel
theorem d_La_law_209 : decode b_La_law 209 = .ok (.invokevirtual 66, 3) := by decide +kernel
theorem d_La_law_212 : decode b_La_law 212 = .ok (.aload_n 2, 1) := by decide +kernel
theorem d_La_law_213 : decode b_La_law 213 = .ok (.invokevirtual 69, 3) := by decide +kernel
theorem d_La_law_216 : decode b_La_law 216 = .ok (.goto 583, 3) := by decide +kernel
theorem d_La_law_219 : decode b_La_law 219 = .ok (.aload_n 1, 1) := by decide +kernel
theorem d_La_law_220 : decode b_La_law 220 = .ok (.aload_n 3, 1) := by decide +kernel
theorem d_La_law_221 : decode b_La_law 221 = .ok (.invokestatic 70, 3) := by decide +kernel
theorem d_La_law_224 : decode b_La_law 224 = .ok (.istore 5, 2) := by decide +kernel
theorem d_La_law_226 : decode b_La_law 226 = .ok (.aload_n 2, 1) := by decide +kernel
theorem d_La_law_227 : decode b_La_law 227 = .ok (.invokevirtual 73, 3) := by decide +kernel
theorem d_La_law_230 : decode b_La_law 230 = .ok (.istore 6, 2) := by decide +kernel
theorem d_La_law_232 : decode b_La_law 232 = .ok (.aload_n 2, 1) := by decide +kernel
theorem d_La_law_233 : decode b_La_law 233 = .ok (.invokevirtual 63, 3) := by decide +kernel
theorem d_La_law_236 : decode b_La_law 236 = .ok (.iload 5, 2) := by decide +kernel
theorem d_La_law_238 : decode b_La_law 238 = .ok (.if_icmp .eq 5, 3) := by decide +kernel
theorem d_La_law_241 : decode b_La_law 241 = .ok (.iconst 0, 1) := by decide +kernel
theorem d_La_law_242 : decode b_La_law 242 = .ok (.ireturn, 1) := by decide +kernel
theorem d_La_law_243 : decode b_La_law 243 = .ok (.iload 5, 2) := by decide +kernel
theorem d_La_law_245 : decode b_La_law 245 = .ok (.ifCond .ne 15, 3) := by decide +kernel
theorem d_La_law_248 : decode b_La_law 248 = .ok (.aload_n 3, 1) := by decide +kernel
theorem d_La_law_249 : decode b_La_law 249 = .ok (.iconst 0, 1) := by decide +kernel
theorem d_La_law_250 : decode b_La_law 250 = .ok (.laload, 1) := by decide +kernel
theorem d_La_law_251 : decode b_La_law 251 = .ok (.iload 6, 2) := by decide +kernel
theorem d_La_law_253 : decode b_La_law 253 = .ok (.i2l, 1) := by decide +kernel
theorem d_La_law_254 : decode b_La_law 254 = .ok (.lcmp, 1) := by decide +kernel
theorem d_La_law_255 : decode b_La_law 255 = .ok (.ifCond .eq 5, 3) := by decide +kernel
theorem d_La_law_258 : decode b_La_law 258 = .ok (.iconst 0, 1) := by decide +kernel
theorem d_La_law_259 : decode b_La_law 259 = .ok (.ireturn, 1) := by decide +kernel
theorem d_La_law_260 : decode b_La_law 260 = .ok (.goto 539, 3) := by decide +kernel
theorem d_La_law_263 : decode b_La_law 263 = .ok (.aload_n 1, 1) := by decide +kernel
theorem d_La_law_264 : decode b_La_law 264 = .ok (.aload_n 0, 1) := by decide +kernel
theorem d_La_law_265 : decode b_La_law 265 = .ok (.iload 4, 2) := by decide +kernel
theorem d_La_law_267 : decode b_La_law 267 = .ok (.iconst 1, 1) := by decide +kernel
theorem d_La_law_268 : decode b_La_law 268 = .ok (.iadd, 1) := by decide +kernel
theorem d_La_law_269 : decode b_La_law 269 = .ok (.iaload, 1) := by decide +kernel
theorem d_La_law_270 : decode b_La_law 270 = .ok (.aload_n 0, 1) := by decide +kernel
theorem d_La_law_271 : decode b_La_law 271 = .ok (.iload 4, 2) := by decide +kernel
theorem d_La_law_273 : decode b_La_law 273 = .ok (.iconst 2, 1) := by decide +kernel
theorem d_La_law_274 : decode b_La_law 274 = .ok (.iadd, 1) := by decide +kernel
theorem d_La_law_275 : decode b_La_law 275 = .ok (.iaload, 1) := by decide +kernel
theorem d_La_law_276 : decode b_La_law 276 = .ok (.aload_n 3, 1) := by decide +kernel
theorem d_La_law_277 : decode b_La_law 277 = .ok (.invokestatic 74, 3) := by decide +kernel
theorem d_La_law_280 : decode b_La_law 280 = .ok (.istore 5, 2) := by decide +kernel
theorem d_La_law_282 : decode b_La_law 282 = .ok (.aload_n 2, 1) := by decide +kernel
theorem d_La_law_283 : decode b_La_law 283 = .ok (.aload_n 0, 1) := by decide +kernel
theorem d_La_law_284 : decode b_La_law 284 = .ok (.iload 4, 2) := by decide +kernel
