theorem dL_areAlike_291 : decode cL_areAlike 291 = .ok (.invokestatic 101, 3) := by decide +kernel
theorem dL_areAlike_294 : decode cL_areAlike 294 = .ok (.if_icmp .ne 48, 3) := by decide +kernel
theorem dL_areAlike_297 : decode cL_areAlike 297 = .ok (.aload_n 0, 1) := by decide +kernel
theorem dL_areAlike_298 : decode cL_areAlike 298 = .ok (.bipush 7, 2) := by decide +kernel
theorem dL_areAlike_300 : decode cL_areAlike 300 = .ok (.iload 4, 2) := by decide +kernel
theorem dL_areAlike_302 : decode cL_areAlike 302 = .ok (.bipush 31, 2) := by decide +kernel
theorem dL_areAlike_304 : decode cL_areAlike 304 = .ok (.iload 7, 2) := by decide +kernel
theorem dL_areAlike_306 : decode cL_areAlike 306 = .ok (.imul, 1) := by decide +kernel
theorem dL_areAlike_307 : decode cL_areAlike 307 = .ok (.iadd, 1) := by decide +kernel
theorem dL_areAlike_308 : decode cL_areAlike 308 = .ok (.sipush 128, 3) := by decide +kernel
theorem dL_areAlike_311 : decode cL_areAlike 311 = .ok (.irem, 1) := by decide +kernel
theorem dL_areAlike_312 : decode cL_areAlike 312 = .ok (.iconst 0, 1) := by decide +kernel
theorem dL_areAlike_313 : decode cL_areAlike 313 = .ok (.invokestatic 101, 3) := by decide +kernel
theorem dL_areAlike_316 : decode cL_areAlike 316 = .ok (.aload_n 1, 1) := by decide +kernel
theorem dL_areAlike_317 : decode cL_areAlike 317 = .ok (.bipush 7, 2) := by decide +kernel
theorem dL_areAlike_319 : decode cL_areAlike 319 = .ok (.iload 4, 2) := by decide +kernel
theorem dL_areAlike_321 : decode cL_areAlike 321 = .ok (.bipush 31, 2) := by decide +kernel
theorem dL_areAlike_323 : decode cL_areAlike 323 = .ok (.iload 7, 2) := by decide +kernel
theorem dL_areAlike_325 : decode cL_areAlike 325 = .ok (.imul, 1) := by decide +kernel
theorem dL_areAlike_326 : decode cL_areAlike 326 = .ok (.iadd, 1) := by decide +kernel
theorem dL_areAlike_327 : decode cL_areAlike 327 = .ok (.sipush 128, 3) := by decide +kernel
theorem dL_areAlike_330 : decode cL_areAlike 330 = .ok (.irem, 1) := by decide +kernel
theorem dL_areAlike_331 : decode cL_areAlike 331 = .ok (.iconst 0, 1) := by decide +kernel
theorem dL_areAlike_332 : decode cL_areAlike 332 = .ok (.invokestatic 101, 3) := by decide +kernel
theorem dL_areAlike_335 : decode cL_areAlike 335 = .ok (.if_icmp .ne 7, 3) := by decide +kernel
theorem dL_areAlike_338 : decode cL_areAlike 338 = .ok (.iconst 1, 1) := by decide +kernel
theorem dL_areAlike_339 : decode cL_areAlike 339 = .ok (.goto 4, 3) := by decide +kernel
theorem dL_areAlike_342 : decode cL_areAlike 342 = .ok (.iconst 0, 1) := by decide +kernel
theorem dL_areAlike_343 : decode cL_areAlike 343 = .ok (.istore 6, 2) := by decide +kernel
theorem dL_areAlike_345 : decode cL_areAlike 345 = .ok (.iinc 7 1, 3) := by decide +kernel
theorem dL_areAlike_348 : decode cL_areAlike 348 = .ok (.goto (-153), 3) := by decide +kernel
theorem dL_areAlike_351 : decode cL_areAlike 351 = .ok (.iload 6, 2) := by decide +kernel
theorem dL_areAlike_353 : decode cL_areAlike 353 = .ok (.ireturn, 1) := by decide +kernel
