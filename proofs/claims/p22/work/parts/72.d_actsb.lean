theorem dL_acts_135 : decode cL_acts 135 = .ok (.invokestatic 119, 3) := by decide +kernel
theorem dL_acts_138 : decode cL_acts 138 = .ok (.iload 9, 2) := by decide +kernel
theorem dL_acts_140 : decode cL_acts 140 = .ok (.if_icmp .ne 74, 3) := by decide +kernel
theorem dL_acts_143 : decode cL_acts 143 = .ok (.aload_n 0, 1) := by decide +kernel
theorem dL_acts_144 : decode cL_acts 144 = .ok (.bipush 9, 2) := by decide +kernel
theorem dL_acts_146 : decode cL_acts 146 = .ok (.iload 7, 2) := by decide +kernel
theorem dL_acts_148 : decode cL_acts 148 = .ok (.invokestatic 119, 3) := by decide +kernel
theorem dL_acts_151 : decode cL_acts 151 = .ok (.ldc 18, 2) := by decide +kernel
theorem dL_acts_153 : decode cL_acts 153 = .ok (.if_icmp .ne 61, 3) := by decide +kernel
theorem dL_acts_156 : decode cL_acts 156 = .ok (.aload_n 0, 1) := by decide +kernel
theorem dL_acts_157 : decode cL_acts 157 = .ok (.iconst 0, 1) := by decide +kernel
theorem dL_acts_158 : decode cL_acts 158 = .ok (.iload 7, 2) := by decide +kernel
theorem dL_acts_160 : decode cL_acts 160 = .ok (.invokestatic 119, 3) := by decide +kernel
theorem dL_acts_163 : decode cL_acts 163 = .ok (.ldc 18, 2) := by decide +kernel
theorem dL_acts_165 : decode cL_acts 165 = .ok (.if_icmp .ne 49, 3) := by decide +kernel
theorem dL_acts_168 : decode cL_acts 168 = .ok (.aload_n 0, 1) := by decide +kernel
theorem dL_acts_169 : decode cL_acts 169 = .ok (.iconst 1, 1) := by decide +kernel
theorem dL_acts_170 : decode cL_acts 170 = .ok (.sipush 10001, 3) := by decide +kernel
theorem dL_acts_173 : decode cL_acts 173 = .ok (.invokestatic 119, 3) := by decide +kernel
theorem dL_acts_176 : decode cL_acts 176 = .ok (.ldc 18, 2) := by decide +kernel
theorem dL_acts_178 : decode cL_acts 178 = .ok (.if_icmp .ne 36, 3) := by decide +kernel
theorem dL_acts_181 : decode cL_acts 181 = .ok (.iload 9, 2) := by decide +kernel
theorem dL_acts_183 : decode cL_acts 183 = .ok (.ifCond .lt 27, 3) := by decide +kernel
theorem dL_acts_186 : decode cL_acts 186 = .ok (.aload_n 0, 1) := by decide +kernel
theorem dL_acts_187 : decode cL_acts 187 = .ok (.invokevirtual 106, 3) := by decide +kernel
theorem dL_acts_190 : decode cL_acts 190 = .ok (.iload 8, 2) := by decide +kernel
theorem dL_acts_192 : decode cL_acts 192 = .ok (.iload 6, 2) := by decide +kernel
theorem dL_acts_194 : decode cL_acts 194 = .ok (.isub, 1) := by decide +kernel
theorem dL_acts_195 : decode cL_acts 195 = .ok (.if_icmp .ne 19, 3) := by decide +kernel
theorem dL_acts_198 : decode cL_acts 198 = .ok (.aload_n 0, 1) := by decide +kernel
theorem dL_acts_199 : decode cL_acts 199 = .ok (.iload 9, 2) := by decide +kernel
theorem dL_acts_201 : decode cL_acts 201 = .ok (.iconst 0, 1) := by decide +kernel
theorem dL_acts_202 : decode cL_acts 202 = .ok (.invokestatic 77, 3) := by decide +kernel
theorem dL_acts_205 : decode cL_acts 205 = .ok (.iload 10, 2) := by decide +kernel
theorem dL_acts_207 : decode cL_acts 207 = .ok (.if_icmp .ne 7, 3) := by decide +kernel
theorem dL_acts_210 : decode cL_acts 210 = .ok (.iconst 1, 1) := by decide +kernel
theorem dL_acts_211 : decode cL_acts 211 = .ok (.goto 4, 3) := by decide +kernel
theorem dL_acts_214 : decode cL_acts 214 = .ok (.iconst 0, 1) := by decide +kernel
theorem dL_acts_215 : decode cL_acts 215 = .ok (.ireturn, 1) := by decide +kernel
theorem dL_acts_216 : decode cL_acts 216 = .ok (.iload_n 3, 1) := by decide +kernel
theorem dL_acts_217 : decode cL_acts 217 = .ok (.iconst 5, 1) := by decide +kernel
theorem dL_acts_218 : decode cL_acts 218 = .ok (.ishr, 1) := by decide +kernel
theorem dL_acts_219 : decode cL_acts 219 = .ok (.aload_n 2, 1) := by decide +kernel
theorem dL_acts_220 : decode cL_acts 220 = .ok (.iconst 0, 1) := by decide +kernel
theorem dL_acts_221 : decode cL_acts 221 = .ok (.iaload, 1) := by decide +kernel
theorem dL_acts_222 : decode cL_acts 222 = .ok (.invokestatic 116, 3) := by decide +kernel
theorem dL_acts_225 : decode cL_acts 225 = .ok (.istore 6, 2) := by decide +kernel
theorem dL_acts_227 : decode cL_acts 227 = .ok (.aload_n 1, 1) := by decide +kernel
theorem dL_acts_228 : decode cL_acts 228 = .ok (.iconst 3, 1) := by decide +kernel
theorem dL_acts_229 : decode cL_acts 229 = .ok (.iload 6, 2) := by decide +kernel
theorem dL_acts_231 : decode cL_acts 231 = .ok (.imul, 1) := by decide +kernel
theorem dL_acts_232 : decode cL_acts 232 = .ok (.iconst 1, 1) := by decide +kernel
theorem dL_acts_233 : decode cL_acts 233 = .ok (.iadd, 1) := by decide +kernel
theorem dL_acts_234 : decode cL_acts 234 = .ok (.iaload, 1) := by decide +kernel
theorem dL_acts_235 : decode cL_acts 235 = .ok (.ifCond .ne 7, 3) := by decide +kernel
theorem dL_acts_238 : decode cL_acts 238 = .ok (.iconst 1, 1) := by decide +kernel
theorem dL_acts_239 : decode cL_acts 239 = .ok (.goto 4, 3) := by decide +kernel
theorem dL_acts_242 : decode cL_acts 242 = .ok (.iconst 0, 1) := by decide +kernel
theorem dL_acts_243 : decode cL_acts 243 = .ok (.istore 7, 2) := by decide +kernel
theorem dL_acts_245 : decode cL_acts 245 = .ok (.aload_n 0, 1) := by decide +kernel
theorem dL_acts_246 : decode cL_acts 246 = .ok (.iload 6, 2) := by decide +kernel
theorem dL_acts_248 : decode cL_acts 248 = .ok (.invokestatic 72, 3) := by decide +kernel
theorem dL_acts_251 : decode cL_acts 251 = .ok (.istore 8, 2) := by decide +kernel
theorem dL_acts_253 : decode cL_acts 253 = .ok (.aload_n 0, 1) := by decide +kernel
theorem dL_acts_254 : decode cL_acts 254 = .ok (.invokevirtual 106, 3) := by decide +kernel
theorem dL_acts_257 : decode cL_acts 257 = .ok (.istore 9, 2) := by decide +kernel
theorem dL_acts_259 : decode cL_acts 259 = .ok (.iload 5, 2) := by decide +kernel
theorem dL_acts_261 : decode cL_acts 261 = .ok (.bipush 11, 2) := by decide +kernel
theorem dL_acts_263 : decode cL_acts 263 = .ok (.if_icmp .ge 128, 3) := by decide +kernel
theorem dL_acts_266 : decode cL_acts 266 = .ok (.aload_n 0, 1) := by decide +kernel
theorem dL_acts_267 : decode cL_acts 267 = .ok (.iload 6, 2) := by decide +kernel
theorem dL_acts_269 : decode cL_acts 269 = .ok (.invokestatic 100, 3) := by decide +kernel
theorem dL_acts_272 : decode cL_acts 272 = .ok (.istore 10, 2) := by decide +kernel
theorem dL_acts_274 : decode cL_acts 274 = .ok (.iload 7, 2) := by decide +kernel
theorem dL_acts_276 : decode cL_acts 276 = .ok (.ifCond .eq 19, 3) := by decide +kernel
theorem dL_acts_279 : decode cL_acts 279 = .ok (.iload 8, 2) := by decide +kernel
theorem dL_acts_281 : decode cL_acts 281 = .ok (.bipush 8, 2) := by decide +kernel
theorem dL_acts_283 : decode cL_acts 283 = .ok (.if_icmp .ge 12, 3) := by decide +kernel
