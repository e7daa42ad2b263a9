theorem dL_owners_143 : decode cL_owners 143 = .ok (.iconst 1, 1) := by decide +kernel
theorem dL_owners_144 : decode cL_owners 144 = .ok (.goto 4, 3) := by decide +kernel
theorem dL_owners_147 : decode cL_owners 147 = .ok (.iconst 0, 1) := by decide +kernel
theorem dL_owners_148 : decode cL_owners 148 = .ok (.istore 9, 2) := by decide +kernel
theorem dL_owners_150 : decode cL_owners 150 = .ok (.iinc 10 1, 3) := by decide +kernel
theorem dL_owners_153 : decode cL_owners 153 = .ok (.goto (-39), 3) := by decide +kernel
theorem dL_owners_156 : decode cL_owners 156 = .ok (.iload 6, 2) := by decide +kernel
theorem dL_owners_158 : decode cL_owners 158 = .ok (.ifCond .lt 52, 3) := by decide +kernel
theorem dL_owners_161 : decode cL_owners 161 = .ok (.aload_n 0, 1) := by decide +kernel
theorem dL_owners_162 : decode cL_owners 162 = .ok (.iload 8, 2) := by decide +kernel
theorem dL_owners_164 : decode cL_owners 164 = .ok (.invokestatic 90, 3) := by decide +kernel
theorem dL_owners_167 : decode cL_owners 167 = .ok (.aload_n 0, 1) := by decide +kernel
theorem dL_owners_168 : decode cL_owners 168 = .ok (.iload 6, 2) := by decide +kernel
theorem dL_owners_170 : decode cL_owners 170 = .ok (.invokestatic 90, 3) := by decide +kernel
theorem dL_owners_173 : decode cL_owners 173 = .ok (.if_icmp .gt 37, 3) := by decide +kernel
theorem dL_owners_176 : decode cL_owners 176 = .ok (.aload_n 0, 1) := by decide +kernel
theorem dL_owners_177 : decode cL_owners 177 = .ok (.iload 8, 2) := by decide +kernel
theorem dL_owners_179 : decode cL_owners 179 = .ok (.invokestatic 90, 3) := by decide +kernel
theorem dL_owners_182 : decode cL_owners 182 = .ok (.aload_n 0, 1) := by decide +kernel
theorem dL_owners_183 : decode cL_owners 183 = .ok (.iload 6, 2) := by decide +kernel
theorem dL_owners_185 : decode cL_owners 185 = .ok (.invokestatic 90, 3) := by decide +kernel
theorem dL_owners_188 : decode cL_owners 188 = .ok (.if_icmp .ne 26, 3) := by decide +kernel
theorem dL_owners_191 : decode cL_owners 191 = .ok (.aload_n 1, 1) := by decide +kernel
theorem dL_owners_192 : decode cL_owners 192 = .ok (.iconst 3, 1) := by decide +kernel
theorem dL_owners_193 : decode cL_owners 193 = .ok (.iload 8, 2) := by decide +kernel
theorem dL_owners_195 : decode cL_owners 195 = .ok (.imul, 1) := by decide +kernel
theorem dL_owners_196 : decode cL_owners 196 = .ok (.iconst 1, 1) := by decide +kernel
theorem dL_owners_197 : decode cL_owners 197 = .ok (.iadd, 1) := by decide +kernel
theorem dL_owners_198 : decode cL_owners 198 = .ok (.iaload, 1) := by decide +kernel
theorem dL_owners_199 : decode cL_owners 199 = .ok (.aload_n 1, 1) := by decide +kernel
theorem dL_owners_200 : decode cL_owners 200 = .ok (.iconst 3, 1) := by decide +kernel
theorem dL_owners_201 : decode cL_owners 201 = .ok (.iload 6, 2) := by decide +kernel
theorem dL_owners_203 : decode cL_owners 203 = .ok (.imul, 1) := by decide +kernel
theorem dL_owners_204 : decode cL_owners 204 = .ok (.iconst 1, 1) := by decide +kernel
theorem dL_owners_205 : decode cL_owners 205 = .ok (.iadd, 1) := by decide +kernel
theorem dL_owners_206 : decode cL_owners 206 = .ok (.iaload, 1) := by decide +kernel
theorem dL_owners_207 : decode cL_owners 207 = .ok (.if_icmp .le 7, 3) := by decide +kernel
theorem dL_owners_210 : decode cL_owners 210 = .ok (.iconst 1, 1) := by decide +kernel
theorem dL_owners_211 : decode cL_owners 211 = .ok (.goto 4, 3) := by decide +kernel
theorem dL_owners_214 : decode cL_owners 214 = .ok (.iconst 0, 1) := by decide +kernel
theorem dL_owners_215 : decode cL_owners 215 = .ok (.istore 10, 2) := by decide +kernel
theorem dL_owners_217 : decode cL_owners 217 = .ok (.iload 9, 2) := by decide +kernel
theorem dL_owners_219 : decode cL_owners 219 = .ok (.ifCond .eq 13, 3) := by decide +kernel
theorem dL_owners_222 : decode cL_owners 222 = .ok (.iload 10, 2) := by decide +kernel
theorem dL_owners_224 : decode cL_owners 224 = .ok (.ifCond .eq 8, 3) := by decide +kernel
theorem dL_owners_227 : decode cL_owners 227 = .ok (.iload 8, 2) := by decide +kernel
theorem dL_owners_229 : decode cL_owners 229 = .ok (.goto 5, 3) := by decide +kernel
theorem dL_owners_232 : decode cL_owners 232 = .ok (.iload 6, 2) := by decide +kernel
theorem dL_owners_234 : decode cL_owners 234 = .ok (.istore 6, 2) := by decide +kernel
theorem dL_owners_236 : decode cL_owners 236 = .ok (.iinc 8 1, 3) := by decide +kernel
theorem dL_owners_239 : decode cL_owners 239 = .ok (.goto (-159), 3) := by decide +kernel
theorem dL_owners_242 : decode cL_owners 242 = .ok (.aload_n 0, 1) := by decide +kernel
theorem dL_owners_243 : decode cL_owners 243 = .ok (.iload 5, 2) := by decide +kernel
theorem dL_owners_245 : decode cL_owners 245 = .ok (.invokestatic 84, 3) := by decide +kernel
theorem dL_owners_248 : decode cL_owners 248 = .ok (.iload 6, 2) := by decide +kernel
theorem dL_owners_250 : decode cL_owners 250 = .ok (.if_icmp .eq 5, 3) := by decide +kernel
theorem dL_owners_253 : decode cL_owners 253 = .ok (.iconst 0, 1) := by decide +kernel
theorem dL_owners_254 : decode cL_owners 254 = .ok (.ireturn, 1) := by decide +kernel
theorem dL_owners_255 : decode cL_owners 255 = .ok (.iload 6, 2) := by decide +kernel
theorem dL_owners_257 : decode cL_owners 257 = .ok (.ifCond .lt 11, 3) := by decide +kernel
theorem dL_owners_260 : decode cL_owners 260 = .ok (.aload_n 3, 1) := by decide +kernel
theorem dL_owners_261 : decode cL_owners 261 = .ok (.iload 6, 2) := by decide +kernel
theorem dL_owners_263 : decode cL_owners 263 = .ok (.dup2, 1) := by decide +kernel
theorem dL_owners_264 : decode cL_owners 264 = .ok (.iaload, 1) := by decide +kernel
theorem dL_owners_265 : decode cL_owners 265 = .ok (.iconst 1, 1) := by decide +kernel
theorem dL_owners_266 : decode cL_owners 266 = .ok (.iadd, 1) := by decide +kernel
theorem dL_owners_267 : decode cL_owners 267 = .ok (.iastore, 1) := by decide +kernel
theorem dL_owners_268 : decode cL_owners 268 = .ok (.iinc 5 1, 3) := by decide +kernel
theorem dL_owners_271 : decode cL_owners 271 = .ok (.goto (-260), 3) := by decide +kernel
theorem dL_owners_274 : decode cL_owners 274 = .ok (.iconst 0, 1) := by decide +kernel
theorem dL_owners_275 : decode cL_owners 275 = .ok (.istore 5, 2) := by decide +kernel
theorem dL_owners_277 : decode cL_owners 277 = .ok (.iconst 0, 1) := by decide +kernel
theorem dL_owners_278 : decode cL_owners 278 = .ok (.istore 6, 2) := by decide +kernel
theorem dL_owners_280 : decode cL_owners 280 = .ok (.iload 6, 2) := by decide +kernel
theorem dL_owners_282 : decode cL_owners 282 = .ok (.aload_n 2, 1) := by decide +kernel
theorem dL_owners_283 : decode cL_owners 283 = .ok (.iconst 0, 1) := by decide +kernel
theorem dL_owners_284 : decode cL_owners 284 = .ok (.iaload, 1) := by decide +kernel
theorem dL_owners_285 : decode cL_owners 285 = .ok (.if_icmp .ge 55, 3) := by decide +kernel
theorem dL_owners_288 : decode cL_owners 288 = .ok (.aload_n 1, 1) := by decide +kernel
theorem dL_owners_289 : decode cL_owners 289 = .ok (.iconst 3, 1) := by decide +kernel
theorem dL_owners_290 : decode cL_owners 290 = .ok (.iload 6, 2) := by decide +kernel
