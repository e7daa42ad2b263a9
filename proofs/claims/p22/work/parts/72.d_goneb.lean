theorem dL_gone_140 : decode cL_gone 140 = .ok (.goto (-108), 3) := by decide +kernel
theorem dL_gone_143 : decode cL_gone 143 = .ok (.iconst 0, 1) := by decide +kernel
theorem dL_gone_144 : decode cL_gone 144 = .ok (.istore 8, 2) := by decide +kernel
theorem dL_gone_146 : decode cL_gone 146 = .ok (.iload 6, 2) := by decide +kernel
theorem dL_gone_148 : decode cL_gone 148 = .ok (.istore 9, 2) := by decide +kernel
theorem dL_gone_150 : decode cL_gone 150 = .ok (.iload 9, 2) := by decide +kernel
theorem dL_gone_152 : decode cL_gone 152 = .ok (.bipush 40, 2) := by decide +kernel
theorem dL_gone_154 : decode cL_gone 154 = .ok (.if_icmp .ge 31, 3) := by decide +kernel
theorem dL_gone_157 : decode cL_gone 157 = .ok (.iload 8, 2) := by decide +kernel
theorem dL_gone_159 : decode cL_gone 159 = .ok (.ifCond .ne 13, 3) := by decide +kernel
theorem dL_gone_162 : decode cL_gone 162 = .ok (.aload_n 0, 1) := by decide +kernel
theorem dL_gone_163 : decode cL_gone 163 = .ok (.iload 9, 2) := by decide +kernel
theorem dL_gone_165 : decode cL_gone 165 = .ok (.invokestatic 82, 3) := by decide +kernel
theorem dL_gone_168 : decode cL_gone 168 = .ok (.iconst (-1), 1) := by decide +kernel
theorem dL_gone_169 : decode cL_gone 169 = .ok (.if_icmp .ne 7, 3) := by decide +kernel
theorem dL_gone_172 : decode cL_gone 172 = .ok (.iconst 1, 1) := by decide +kernel
theorem dL_gone_173 : decode cL_gone 173 = .ok (.goto 4, 3) := by decide +kernel
theorem dL_gone_176 : decode cL_gone 176 = .ok (.iconst 0, 1) := by decide +kernel
theorem dL_gone_177 : decode cL_gone 177 = .ok (.istore 8, 2) := by decide +kernel
theorem dL_gone_179 : decode cL_gone 179 = .ok (.iinc 9 1, 3) := by decide +kernel
theorem dL_gone_182 : decode cL_gone 182 = .ok (.goto (-32), 3) := by decide +kernel
theorem dL_gone_185 : decode cL_gone 185 = .ok (.iload 5, 2) := by decide +kernel
theorem dL_gone_187 : decode cL_gone 187 = .ok (.ifCond .le 20, 3) := by decide +kernel
theorem dL_gone_190 : decode cL_gone 190 = .ok (.aload_n 0, 1) := by decide +kernel
theorem dL_gone_191 : decode cL_gone 191 = .ok (.iload 4, 2) := by decide +kernel
theorem dL_gone_193 : decode cL_gone 193 = .ok (.iconst 0, 1) := by decide +kernel
theorem dL_gone_194 : decode cL_gone 194 = .ok (.invokestatic 80, 3) := by decide +kernel
theorem dL_gone_197 : decode cL_gone 197 = .ok (.sipush 255, 3) := by decide +kernel
theorem dL_gone_200 : decode cL_gone 200 = .ok (.if_icmp .ne 7, 3) := by decide +kernel
theorem dL_gone_203 : decode cL_gone 203 = .ok (.iconst 1, 1) := by decide +kernel
theorem dL_gone_204 : decode cL_gone 204 = .ok (.goto 4, 3) := by decide +kernel
theorem dL_gone_207 : decode cL_gone 207 = .ok (.iconst 0, 1) := by decide +kernel
theorem dL_gone_208 : decode cL_gone 208 = .ok (.istore 9, 2) := by decide +kernel
theorem dL_gone_210 : decode cL_gone 210 = .ok (.iload 5, 2) := by decide +kernel
theorem dL_gone_212 : decode cL_gone 212 = .ok (.iload_n 3, 1) := by decide +kernel
theorem dL_gone_213 : decode cL_gone 213 = .ok (.if_icmp .ne 7, 3) := by decide +kernel
theorem dL_gone_216 : decode cL_gone 216 = .ok (.iconst 1, 1) := by decide +kernel
theorem dL_gone_217 : decode cL_gone 217 = .ok (.goto 4, 3) := by decide +kernel
theorem dL_gone_220 : decode cL_gone 220 = .ok (.iconst 0, 1) := by decide +kernel
theorem dL_gone_221 : decode cL_gone 221 = .ok (.istore 10, 2) := by decide +kernel
theorem dL_gone_223 : decode cL_gone 223 = .ok (.iload 5, 2) := by decide +kernel
theorem dL_gone_225 : decode cL_gone 225 = .ok (.ifCond .le 27, 3) := by decide +kernel
theorem dL_gone_228 : decode cL_gone 228 = .ok (.aload_n 0, 1) := by decide +kernel
theorem dL_gone_229 : decode cL_gone 229 = .ok (.aload_n 0, 1) := by decide +kernel
theorem dL_gone_230 : decode cL_gone 230 = .ok (.iload_n 2, 1) := by decide +kernel
theorem dL_gone_231 : decode cL_gone 231 = .ok (.iload 5, 2) := by decide +kernel
theorem dL_gone_233 : decode cL_gone 233 = .ok (.iconst 1, 1) := by decide +kernel
theorem dL_gone_234 : decode cL_gone 234 = .ok (.isub, 1) := by decide +kernel
theorem dL_gone_235 : decode cL_gone 235 = .ok (.invokestatic 98, 3) := by decide +kernel
theorem dL_gone_238 : decode cL_gone 238 = .ok (.iconst 3, 1) := by decide +kernel
theorem dL_gone_239 : decode cL_gone 239 = .ok (.invokestatic 80, 3) := by decide +kernel
theorem dL_gone_242 : decode cL_gone 242 = .ok (.sipush 254, 3) := by decide +kernel
theorem dL_gone_245 : decode cL_gone 245 = .ok (.if_icmp .ne 7, 3) := by decide +kernel
theorem dL_gone_248 : decode cL_gone 248 = .ok (.iconst 1, 1) := by decide +kernel
theorem dL_gone_249 : decode cL_gone 249 = .ok (.goto 4, 3) := by decide +kernel
theorem dL_gone_252 : decode cL_gone 252 = .ok (.iconst 0, 1) := by decide +kernel
theorem dL_gone_253 : decode cL_gone 253 = .ok (.istore 11, 2) := by decide +kernel
theorem dL_gone_255 : decode cL_gone 255 = .ok (.iload 5, 2) := by decide +kernel
theorem dL_gone_257 : decode cL_gone 257 = .ok (.ifCond .ne 7, 3) := by decide +kernel
theorem dL_gone_260 : decode cL_gone 260 = .ok (.iconst 0, 1) := by decide +kernel
theorem dL_gone_261 : decode cL_gone 261 = .ok (.goto 51, 3) := by decide +kernel
theorem dL_gone_264 : decode cL_gone 264 = .ok (.iload 10, 2) := by decide +kernel
theorem dL_gone_266 : decode cL_gone 266 = .ok (.ifCond .eq 17, 3) := by decide +kernel
theorem dL_gone_269 : decode cL_gone 269 = .ok (.iload 7, 2) := by decide +kernel
theorem dL_gone_271 : decode cL_gone 271 = .ok (.aload_n 0, 1) := by decide +kernel
theorem dL_gone_272 : decode cL_gone 272 = .ok (.iload_n 2, 1) := by decide +kernel
theorem dL_gone_273 : decode cL_gone 273 = .ok (.invokestatic 86, 3) := by decide +kernel
theorem dL_gone_276 : decode cL_gone 276 = .ok (.if_icmp .ne 7, 3) := by decide +kernel
theorem dL_gone_279 : decode cL_gone 279 = .ok (.iconst 3, 1) := by decide +kernel
theorem dL_gone_280 : decode cL_gone 280 = .ok (.goto 32, 3) := by decide +kernel
theorem dL_gone_283 : decode cL_gone 283 = .ok (.iload 9, 2) := by decide +kernel
theorem dL_gone_285 : decode cL_gone 285 = .ok (.ifCond .eq 17, 3) := by decide +kernel
theorem dL_gone_288 : decode cL_gone 288 = .ok (.iload 10, 2) := by decide +kernel
theorem dL_gone_290 : decode cL_gone 290 = .ok (.ifCond .eq 12, 3) := by decide +kernel
theorem dL_gone_293 : decode cL_gone 293 = .ok (.iload 11, 2) := by decide +kernel
theorem dL_gone_295 : decode cL_gone 295 = .ok (.ifCond .eq 7, 3) := by decide +kernel
