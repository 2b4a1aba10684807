theorem dL_law_182 : decode cL_law 182 = .ok (.iconst 3, 1) := by decide +kernel
theorem dL_law_183 : decode cL_law 183 = .ok (.irem, 1) := by decide +kernel
theorem dL_law_184 : decode cL_law 184 = .ok (.ifCond .ne 7, 3) := by decide +kernel
theorem dL_law_187 : decode cL_law 187 = .ok (.iconst 5, 1) := by decide +kernel
theorem dL_law_188 : decode cL_law 188 = .ok (.goto 4, 3) := by decide +kernel
theorem dL_law_191 : decode cL_law 191 = .ok (.iconst 1, 1) := by decide +kernel
theorem dL_law_192 : decode cL_law 192 = .ok (.istore 14, 2) := by decide +kernel
theorem dL_law_194 : decode cL_law 194 = .ok (.iload 14, 2) := by decide +kernel
theorem dL_law_196 : decode cL_law 196 = .ok (.ifCond .ne 12, 3) := by decide +kernel
theorem dL_law_199 : decode cL_law 199 = .ok (.iload 13, 2) := by decide +kernel
theorem dL_law_201 : decode cL_law 201 = .ok (.iconst 2, 1) := by decide +kernel
theorem dL_law_202 : decode cL_law 202 = .ok (.invokestatic 36, 3) := by decide +kernel
theorem dL_law_205 : decode cL_law 205 = .ok (.goto 46, 3) := by decide +kernel
theorem dL_law_208 : decode cL_law 208 = .ok (.iload 14, 2) := by decide +kernel
theorem dL_law_210 : decode cL_law 210 = .ok (.iconst 2, 1) := by decide +kernel
theorem dL_law_211 : decode cL_law 211 = .ok (.if_icmp .ne 16, 3) := by decide +kernel
theorem dL_law_214 : decode cL_law 214 = .ok (.iload 13, 2) := by decide +kernel
theorem dL_law_216 : decode cL_law 216 = .ok (.aload_n 2, 1) := by decide +kernel
theorem dL_law_217 : decode cL_law 217 = .ok (.iconst 3, 1) := by decide +kernel
theorem dL_law_218 : decode cL_law 218 = .ok (.iaload, 1) := by decide +kernel
theorem dL_law_219 : decode cL_law 219 = .ok (.iconst 1, 1) := by decide +kernel
theorem dL_law_220 : decode cL_law 220 = .ok (.iadd, 1) := by decide +kernel
theorem dL_law_221 : decode cL_law 221 = .ok (.invokestatic 36, 3) := by decide +kernel
theorem dL_law_224 : decode cL_law 224 = .ok (.goto 27, 3) := by decide +kernel
theorem dL_law_227 : decode cL_law 227 = .ok (.iload 14, 2) := by decide +kernel
theorem dL_law_229 : decode cL_law 229 = .ok (.iconst 3, 1) := by decide +kernel
theorem dL_law_230 : decode cL_law 230 = .ok (.if_icmp .ne 12, 3) := by decide +kernel
theorem dL_law_233 : decode cL_law 233 = .ok (.iload 13, 2) := by decide +kernel
theorem dL_law_235 : decode cL_law 235 = .ok (.iconst 3, 1) := by decide +kernel
theorem dL_law_236 : decode cL_law 236 = .ok (.invokestatic 36, 3) := by decide +kernel
theorem dL_law_239 : decode cL_law 239 = .ok (.goto 12, 3) := by decide +kernel
theorem dL_law_242 : decode cL_law 242 = .ok (.iconst 1, 1) := by decide +kernel
theorem dL_law_243 : decode cL_law 243 = .ok (.iload 13, 2) := by decide +kernel
theorem dL_law_245 : decode cL_law 245 = .ok (.bipush 6, 2) := by decide +kernel
theorem dL_law_247 : decode cL_law 247 = .ok (.invokestatic 36, 3) := by decide +kernel
theorem dL_law_250 : decode cL_law 250 = .ok (.iadd, 1) := by decide +kernel
theorem dL_law_251 : decode cL_law 251 = .ok (.istore 15, 2) := by decide +kernel
theorem dL_law_253 : decode cL_law 253 = .ok (.iload 14, 2) := by decide +kernel
theorem dL_law_255 : decode cL_law 255 = .ok (.ifCond .ne 15, 3) := by decide +kernel
theorem dL_law_258 : decode cL_law 258 = .ok (.iload 13, 2) := by decide +kernel
theorem dL_law_260 : decode cL_law 260 = .ok (.iconst 3, 1) := by decide +kernel
theorem dL_law_261 : decode cL_law 261 = .ok (.ishr, 1) := by decide +kernel
theorem dL_law_262 : decode cL_law 262 = .ok (.bipush 16, 2) := by decide +kernel
theorem dL_law_264 : decode cL_law 264 = .ok (.invokestatic 36, 3) := by decide +kernel
theorem dL_law_267 : decode cL_law 267 = .ok (.goto 85, 3) := by decide +kernel
theorem dL_law_270 : decode cL_law 270 = .ok (.iload 14, 2) := by decide +kernel
theorem dL_law_272 : decode cL_law 272 = .ok (.iconst 1, 1) := by decide +kernel
theorem dL_law_273 : decode cL_law 273 = .ok (.if_icmp .ne 36, 3) := by decide +kernel
