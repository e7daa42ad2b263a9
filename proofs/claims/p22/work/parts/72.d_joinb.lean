theorem dL_join_153 : decode cL_join 153 = .ok (.aload_n 1, 1) := by decide +kernel
theorem dL_join_154 : decode cL_join 154 = .ok (.iconst 3, 1) := by decide +kernel
theorem dL_join_155 : decode cL_join 155 = .ok (.iload_n 2, 1) := by decide +kernel
theorem dL_join_156 : decode cL_join 156 = .ok (.imul, 1) := by decide +kernel
theorem dL_join_157 : decode cL_join 157 = .ok (.iconst 2, 1) := by decide +kernel
theorem dL_join_158 : decode cL_join 158 = .ok (.iadd, 1) := by decide +kernel
theorem dL_join_159 : decode cL_join 159 = .ok (.iaload, 1) := by decide +kernel
theorem dL_join_160 : decode cL_join 160 = .ok (.if_icmp .eq 5, 3) := by decide +kernel
theorem dL_join_163 : decode cL_join 163 = .ok (.iconst 0, 1) := by decide +kernel
theorem dL_join_164 : decode cL_join 164 = .ok (.ireturn, 1) := by decide +kernel
theorem dL_join_165 : decode cL_join 165 = .ok (.iconst 0, 1) := by decide +kernel
theorem dL_join_166 : decode cL_join 166 = .ok (.istore 10, 2) := by decide +kernel
theorem dL_join_168 : decode cL_join 168 = .ok (.iload 10, 2) := by decide +kernel
theorem dL_join_170 : decode cL_join 170 = .ok (.iload 8, 2) := by decide +kernel
theorem dL_join_172 : decode cL_join 172 = .ok (.if_icmp .ge 31, 3) := by decide +kernel
theorem dL_join_175 : decode cL_join 175 = .ok (.iload 6, 2) := by decide +kernel
theorem dL_join_177 : decode cL_join 177 = .ok (.aload_n 0, 1) := by decide +kernel
theorem dL_join_178 : decode cL_join 178 = .ok (.iload_n 2, 1) := by decide +kernel
theorem dL_join_179 : decode cL_join 179 = .ok (.iload 10, 2) := by decide +kernel
theorem dL_join_181 : decode cL_join 181 = .ok (.invokestatic 96, 3) := by decide +kernel
theorem dL_join_184 : decode cL_join 184 = .ok (.iload 9, 2) := by decide +kernel
theorem dL_join_186 : decode cL_join 186 = .ok (.if_icmp .ne 7, 3) := by decide +kernel
theorem dL_join_189 : decode cL_join 189 = .ok (.iconst 1, 1) := by decide +kernel
theorem dL_join_190 : decode cL_join 190 = .ok (.goto 4, 3) := by decide +kernel
theorem dL_join_193 : decode cL_join 193 = .ok (.iconst 0, 1) := by decide +kernel
theorem dL_join_194 : decode cL_join 194 = .ok (.iadd, 1) := by decide +kernel
theorem dL_join_195 : decode cL_join 195 = .ok (.istore 6, 2) := by decide +kernel
theorem dL_join_197 : decode cL_join 197 = .ok (.iinc 10 1, 3) := by decide +kernel
theorem dL_join_200 : decode cL_join 200 = .ok (.goto (-32), 3) := by decide +kernel
theorem dL_join_203 : decode cL_join 203 = .ok (.iconst 0, 1) := by decide +kernel
theorem dL_join_204 : decode cL_join 204 = .ok (.istore 10, 2) := by decide +kernel
theorem dL_join_206 : decode cL_join 206 = .ok (.iload 10, 2) := by decide +kernel
theorem dL_join_208 : decode cL_join 208 = .ok (.iconst 4, 1) := by decide +kernel
theorem dL_join_209 : decode cL_join 209 = .ok (.if_icmp .ge 36, 3) := by decide +kernel
theorem dL_join_212 : decode cL_join 212 = .ok (.iload 5, 2) := by decide +kernel
theorem dL_join_214 : decode cL_join 214 = .ok (.aload_n 0, 1) := by decide +kernel
theorem dL_join_215 : decode cL_join 215 = .ok (.iload 9, 2) := by decide +kernel
theorem dL_join_217 : decode cL_join 217 = .ok (.iload 10, 2) := by decide +kernel
theorem dL_join_219 : decode cL_join 219 = .ok (.invokestatic 80, 3) := by decide +kernel
theorem dL_join_222 : decode cL_join 222 = .ok (.iconst 4, 1) := by decide +kernel
theorem dL_join_223 : decode cL_join 223 = .ok (.iload 8, 2) := by decide +kernel
theorem dL_join_225 : decode cL_join 225 = .ok (.imul, 1) := by decide +kernel
theorem dL_join_226 : decode cL_join 226 = .ok (.iload 10, 2) := by decide +kernel
theorem dL_join_228 : decode cL_join 228 = .ok (.iadd, 1) := by decide +kernel
theorem dL_join_229 : decode cL_join 229 = .ok (.iconst 1, 1) := by decide +kernel
theorem dL_join_230 : decode cL_join 230 = .ok (.iadd, 1) := by decide +kernel
theorem dL_join_231 : decode cL_join 231 = .ok (.imul, 1) := by decide +kernel
theorem dL_join_232 : decode cL_join 232 = .ok (.iadd, 1) := by decide +kernel
theorem dL_join_233 : decode cL_join 233 = .ok (.sipush 9973, 3) := by decide +kernel
theorem dL_join_236 : decode cL_join 236 = .ok (.irem, 1) := by decide +kernel
theorem dL_join_237 : decode cL_join 237 = .ok (.istore 5, 2) := by decide +kernel
theorem dL_join_239 : decode cL_join 239 = .ok (.iinc 10 1, 3) := by decide +kernel
theorem dL_join_242 : decode cL_join 242 = .ok (.goto (-36), 3) := by decide +kernel
theorem dL_join_245 : decode cL_join 245 = .ok (.aload_n 0, 1) := by decide +kernel
theorem dL_join_246 : decode cL_join 246 = .ok (.iload 9, 2) := by decide +kernel
theorem dL_join_248 : decode cL_join 248 = .ok (.iconst 3, 1) := by decide +kernel
theorem dL_join_249 : decode cL_join 249 = .ok (.invokestatic 80, 3) := by decide +kernel
theorem dL_join_252 : decode cL_join 252 = .ok (.istore 7, 2) := by decide +kernel
theorem dL_join_254 : decode cL_join 254 = .ok (.iinc 8 1, 3) := by decide +kernel
theorem dL_join_257 : decode cL_join 257 = .ok (.goto (-148), 3) := by decide +kernel
theorem dL_join_260 : decode cL_join 260 = .ok (.iload_n 3, 1) := by decide +kernel
theorem dL_join_261 : decode cL_join 261 = .ok (.iconst 5, 1) := by decide +kernel
theorem dL_join_262 : decode cL_join 262 = .ok (.if_icmp .ge 41, 3) := by decide +kernel
theorem dL_join_265 : decode cL_join 265 = .ok (.iload 6, 2) := by decide +kernel
theorem dL_join_267 : decode cL_join 267 = .ok (.ifCond .ne 36, 3) := by decide +kernel
theorem dL_join_270 : decode cL_join 270 = .ok (.iload 5, 2) := by decide +kernel
theorem dL_join_272 : decode cL_join 272 = .ok (.aload_n 0, 1) := by decide +kernel
theorem dL_join_273 : decode cL_join 273 = .ok (.iload_n 2, 1) := by decide +kernel
theorem dL_join_274 : decode cL_join 274 = .ok (.invokestatic 86, 3) := by decide +kernel
theorem dL_join_277 : decode cL_join 277 = .ok (.if_icmp .ne 26, 3) := by decide +kernel
theorem dL_join_280 : decode cL_join 280 = .ok (.iload 7, 2) := by decide +kernel
theorem dL_join_282 : decode cL_join 282 = .ok (.sipush 254, 3) := by decide +kernel
theorem dL_join_285 : decode cL_join 285 = .ok (.if_icmp .ne 18, 3) := by decide +kernel
theorem dL_join_288 : decode cL_join 288 = .ok (.aload_n 0, 1) := by decide +kernel
theorem dL_join_289 : decode cL_join 289 = .ok (.iload_n 2, 1) := by decide +kernel
theorem dL_join_290 : decode cL_join 290 = .ok (.iload_n 3, 1) := by decide +kernel
theorem dL_join_291 : decode cL_join 291 = .ok (.invokestatic 96, 3) := by decide +kernel
theorem dL_join_294 : decode cL_join 294 = .ok (.ldc 18, 2) := by decide +kernel
theorem dL_join_296 : decode cL_join 296 = .ok (.if_icmp .ne 7, 3) := by decide +kernel
theorem dL_join_299 : decode cL_join 299 = .ok (.iconst 1, 1) := by decide +kernel
theorem dL_join_300 : decode cL_join 300 = .ok (.goto 4, 3) := by decide +kernel
theorem dL_join_303 : decode cL_join 303 = .ok (.iconst 0, 1) := by decide +kernel
theorem dL_join_304 : decode cL_join 304 = .ok (.ireturn, 1) := by decide +kernel
