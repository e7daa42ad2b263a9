theorem dL_there_124 : decode cL_there 124 = .ok (.imul, 1) := by decide +kernel
theorem dL_there_125 : decode cL_there 125 = .ok (.iadd, 1) := by decide +kernel
theorem dL_there_126 : decode cL_there 126 = .ok (.sipush 9973, 3) := by decide +kernel
theorem dL_there_129 : decode cL_there 129 = .ok (.irem, 1) := by decide +kernel
theorem dL_there_130 : decode cL_there 130 = .ok (.istore 4, 2) := by decide +kernel
theorem dL_there_132 : decode cL_there 132 = .ok (.iinc 5 1, 3) := by decide +kernel
theorem dL_there_135 : decode cL_there 135 = .ok (.goto (-123), 3) := by decide +kernel
theorem dL_there_138 : decode cL_there 138 = .ok (.aload_n 0, 1) := by decide +kernel
theorem dL_there_139 : decode cL_there 139 = .ok (.iload_n 2, 1) := by decide +kernel
theorem dL_there_140 : decode cL_there 140 = .ok (.invokestatic 86, 3) := by decide +kernel
theorem dL_there_143 : decode cL_there 143 = .ok (.iload 4, 2) := by decide +kernel
theorem dL_there_145 : decode cL_there 145 = .ok (.if_icmp .ne 113, 3) := by decide +kernel
theorem dL_there_148 : decode cL_there 148 = .ok (.iload_n 3, 1) := by decide +kernel
theorem dL_there_149 : decode cL_there 149 = .ok (.ifCond .le 109, 3) := by decide +kernel
theorem dL_there_152 : decode cL_there 152 = .ok (.iload_n 3, 1) := by decide +kernel
theorem dL_there_153 : decode cL_there 153 = .ok (.bipush 9, 2) := by decide +kernel
theorem dL_there_155 : decode cL_there 155 = .ok (.if_icmp .ge 103, 3) := by decide +kernel
theorem dL_there_158 : decode cL_there 158 = .ok (.aload_n 0, 1) := by decide +kernel
theorem dL_there_159 : decode cL_there 159 = .ok (.iload_n 2, 1) := by decide +kernel
theorem dL_there_160 : decode cL_there 160 = .ok (.iload_n 3, 1) := by decide +kernel
theorem dL_there_161 : decode cL_there 161 = .ok (.invokestatic 77, 3) := by decide +kernel
theorem dL_there_164 : decode cL_there 164 = .ok (.ldc 18, 2) := by decide +kernel
theorem dL_there_166 : decode cL_there 166 = .ok (.if_icmp .ne 92, 3) := by decide +kernel
theorem dL_there_169 : decode cL_there 169 = .ok (.aload_n 0, 1) := by decide +kernel
theorem dL_there_170 : decode cL_there 170 = .ok (.iload_n 2, 1) := by decide +kernel
theorem dL_there_171 : decode cL_there 171 = .ok (.iconst (-1), 1) := by decide +kernel
theorem dL_there_172 : decode cL_there 172 = .ok (.invokestatic 77, 3) := by decide +kernel
theorem dL_there_175 : decode cL_there 175 = .ok (.ldc 18, 2) := by decide +kernel
theorem dL_there_177 : decode cL_there 177 = .ok (.if_icmp .ne 81, 3) := by decide +kernel
theorem dL_there_180 : decode cL_there 180 = .ok (.aload_n 0, 1) := by decide +kernel
theorem dL_there_181 : decode cL_there 181 = .ok (.iload_n 2, 1) := by decide +kernel
theorem dL_there_182 : decode cL_there 182 = .ok (.invokestatic 88, 3) := by decide +kernel
theorem dL_there_185 : decode cL_there 185 = .ok (.ldc 21, 2) := by decide +kernel
theorem dL_there_187 : decode cL_there 187 = .ok (.if_icmp .ne 71, 3) := by decide +kernel
theorem dL_there_190 : decode cL_there 190 = .ok (.aload_n 0, 1) := by decide +kernel
theorem dL_there_191 : decode cL_there 191 = .ok (.iload_n 2, 1) := by decide +kernel
theorem dL_there_192 : decode cL_there 192 = .ok (.invokestatic 90, 3) := by decide +kernel
theorem dL_there_195 : decode cL_there 195 = .ok (.ldc 21, 2) := by decide +kernel
theorem dL_there_197 : decode cL_there 197 = .ok (.if_icmp .ne 61, 3) := by decide +kernel
theorem dL_there_200 : decode cL_there 200 = .ok (.aload_n 0, 1) := by decide +kernel
theorem dL_there_201 : decode cL_there 201 = .ok (.iload_n 2, 1) := by decide +kernel
theorem dL_there_202 : decode cL_there 202 = .ok (.invokestatic 92, 3) := by decide +kernel
theorem dL_there_205 : decode cL_there 205 = .ok (.ldc 21, 2) := by decide +kernel
theorem dL_there_207 : decode cL_there 207 = .ok (.if_icmp .ne 51, 3) := by decide +kernel
theorem dL_there_210 : decode cL_there 210 = .ok (.aload_n 0, 1) := by decide +kernel
theorem dL_there_211 : decode cL_there 211 = .ok (.iload_n 2, 1) := by decide +kernel
theorem dL_there_212 : decode cL_there 212 = .ok (.invokestatic 94, 3) := by decide +kernel
theorem dL_there_215 : decode cL_there 215 = .ok (.ldc 21, 2) := by decide +kernel
theorem dL_there_217 : decode cL_there 217 = .ok (.if_icmp .ne 41, 3) := by decide +kernel
theorem dL_there_220 : decode cL_there 220 = .ok (.aload_n 0, 1) := by decide +kernel
theorem dL_there_221 : decode cL_there 221 = .ok (.iload_n 2, 1) := by decide +kernel
theorem dL_there_222 : decode cL_there 222 = .ok (.iconst 0, 1) := by decide +kernel
theorem dL_there_223 : decode cL_there 223 = .ok (.invokestatic 96, 3) := by decide +kernel
theorem dL_there_226 : decode cL_there 226 = .ok (.ldc 21, 2) := by decide +kernel
theorem dL_there_228 : decode cL_there 228 = .ok (.if_icmp .ne 30, 3) := by decide +kernel
theorem dL_there_231 : decode cL_there 231 = .ok (.aload_n 0, 1) := by decide +kernel
theorem dL_there_232 : decode cL_there 232 = .ok (.iload_n 2, 1) := by decide +kernel
theorem dL_there_233 : decode cL_there 233 = .ok (.iconst 0, 1) := by decide +kernel
theorem dL_there_234 : decode cL_there 234 = .ok (.invokestatic 98, 3) := by decide +kernel
theorem dL_there_237 : decode cL_there 237 = .ok (.ldc 21, 2) := by decide +kernel
theorem dL_there_239 : decode cL_there 239 = .ok (.if_icmp .ne 19, 3) := by decide +kernel
theorem dL_there_242 : decode cL_there 242 = .ok (.aload_n 0, 1) := by decide +kernel
theorem dL_there_243 : decode cL_there 243 = .ok (.iload_n 2, 1) := by decide +kernel
theorem dL_there_244 : decode cL_there 244 = .ok (.bipush 8, 2) := by decide +kernel
theorem dL_there_246 : decode cL_there 246 = .ok (.invokestatic 98, 3) := by decide +kernel
theorem dL_there_249 : decode cL_there 249 = .ok (.ldc 18, 2) := by decide +kernel
theorem dL_there_251 : decode cL_there 251 = .ok (.if_icmp .ne 7, 3) := by decide +kernel
theorem dL_there_254 : decode cL_there 254 = .ok (.iconst 1, 1) := by decide +kernel
theorem dL_there_255 : decode cL_there 255 = .ok (.goto 4, 3) := by decide +kernel
theorem dL_there_258 : decode cL_there 258 = .ok (.iconst 0, 1) := by decide +kernel
theorem dL_there_259 : decode cL_there 259 = .ok (.ireturn, 1) := by decide +kernel
