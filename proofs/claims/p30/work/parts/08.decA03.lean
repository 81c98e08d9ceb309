theorem dL_areAlike_227 : decode cL_areAlike 227 = .ok (.aload_n 0, 1) := by decide +kernel
theorem dL_areAlike_228 : decode cL_areAlike 228 = .ok (.iconst 3, 1) := by decide +kernel
theorem dL_areAlike_229 : decode cL_areAlike 229 = .ok (.iload 5, 2) := by decide +kernel
theorem dL_areAlike_231 : decode cL_areAlike 231 = .ok (.iload 4, 2) := by decide +kernel
theorem dL_areAlike_233 : decode cL_areAlike 233 = .ok (.bipush 6, 2) := by decide +kernel
theorem dL_areAlike_235 : decode cL_areAlike 235 = .ok (.idiv, 1) := by decide +kernel
theorem dL_areAlike_236 : decode cL_areAlike 236 = .ok (.bipush 13, 2) := by decide +kernel
theorem dL_areAlike_238 : decode cL_areAlike 238 = .ok (.iload 7, 2) := by decide +kernel
theorem dL_areAlike_240 : decode cL_areAlike 240 = .ok (.imul, 1) := by decide +kernel
theorem dL_areAlike_241 : decode cL_areAlike 241 = .ok (.iadd, 1) := by decide +kernel
theorem dL_areAlike_242 : decode cL_areAlike 242 = .ok (.bipush 64, 2) := by decide +kernel
theorem dL_areAlike_244 : decode cL_areAlike 244 = .ok (.irem, 1) := by decide +kernel
theorem dL_areAlike_245 : decode cL_areAlike 245 = .ok (.invokestatic 101, 3) := by decide +kernel
theorem dL_areAlike_248 : decode cL_areAlike 248 = .ok (.aload_n 1, 1) := by decide +kernel
theorem dL_areAlike_249 : decode cL_areAlike 249 = .ok (.iconst 3, 1) := by decide +kernel
theorem dL_areAlike_250 : decode cL_areAlike 250 = .ok (.iload 5, 2) := by decide +kernel
theorem dL_areAlike_252 : decode cL_areAlike 252 = .ok (.iload 4, 2) := by decide +kernel
theorem dL_areAlike_254 : decode cL_areAlike 254 = .ok (.bipush 6, 2) := by decide +kernel
theorem dL_areAlike_256 : decode cL_areAlike 256 = .ok (.idiv, 1) := by decide +kernel
theorem dL_areAlike_257 : decode cL_areAlike 257 = .ok (.bipush 13, 2) := by decide +kernel
theorem dL_areAlike_259 : decode cL_areAlike 259 = .ok (.iload 7, 2) := by decide +kernel
theorem dL_areAlike_261 : decode cL_areAlike 261 = .ok (.imul, 1) := by decide +kernel
theorem dL_areAlike_262 : decode cL_areAlike 262 = .ok (.iadd, 1) := by decide +kernel
theorem dL_areAlike_263 : decode cL_areAlike 263 = .ok (.bipush 64, 2) := by decide +kernel
theorem dL_areAlike_265 : decode cL_areAlike 265 = .ok (.irem, 1) := by decide +kernel
theorem dL_areAlike_266 : decode cL_areAlike 266 = .ok (.invokestatic 101, 3) := by decide +kernel
theorem dL_areAlike_269 : decode cL_areAlike 269 = .ok (.if_icmp .ne 73, 3) := by decide +kernel
theorem dL_areAlike_272 : decode cL_areAlike 272 = .ok (.aload_n 0, 1) := by decide +kernel
theorem dL_areAlike_273 : decode cL_areAlike 273 = .ok (.iconst 4, 1) := by decide +kernel
theorem dL_areAlike_274 : decode cL_areAlike 274 = .ok (.iload 7, 2) := by decide +kernel
theorem dL_areAlike_276 : decode cL_areAlike 276 = .ok (.iload 4, 2) := by decide +kernel
theorem dL_areAlike_278 : decode cL_areAlike 278 = .ok (.iconst 5, 1) := by decide +kernel
theorem dL_areAlike_279 : decode cL_areAlike 279 = .ok (.irem, 1) := by decide +kernel
theorem dL_areAlike_280 : decode cL_areAlike 280 = .ok (.invokestatic 101, 3) := by decide +kernel
theorem dL_areAlike_283 : decode cL_areAlike 283 = .ok (.aload_n 1, 1) := by decide +kernel
theorem dL_areAlike_284 : decode cL_areAlike 284 = .ok (.iconst 4, 1) := by decide +kernel
theorem dL_areAlike_285 : decode cL_areAlike 285 = .ok (.iload 7, 2) := by decide +kernel
theorem dL_areAlike_287 : decode cL_areAlike 287 = .ok (.iload 4, 2) := by decide +kernel
theorem dL_areAlike_289 : decode cL_areAlike 289 = .ok (.iconst 5, 1) := by decide +kernel
theorem dL_areAlike_290 : decode cL_areAlike 290 = .ok (.irem, 1) := by decide +kernel
