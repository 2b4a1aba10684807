theorem dL_law_276 : decode cL_law 276 = .ok (.iconst 1, 1) := by decide +kernel
theorem dL_law_277 : decode cL_law 277 = .ok (.iload 13, 2) := by decide +kernel
theorem dL_law_279 : decode cL_law 279 = .ok (.iconst 3, 1) := by decide +kernel
theorem dL_law_280 : decode cL_law 280 = .ok (.ishr, 1) := by decide +kernel
theorem dL_law_281 : decode cL_law 281 = .ok (.iload 13, 2) := by decide +kernel
theorem dL_law_283 : decode cL_law 283 = .ok (.bipush 20, 2) := by decide +kernel
theorem dL_law_285 : decode cL_law 285 = .ok (.ishr, 1) := by decide +kernel
theorem dL_law_286 : decode cL_law 286 = .ok (.bipush 6, 2) := by decide +kernel
theorem dL_law_288 : decode cL_law 288 = .ok (.invokestatic 36, 3) := by decide +kernel
theorem dL_law_291 : decode cL_law 291 = .ok (.ifCond .ne 9, 3) := by decide +kernel
theorem dL_law_294 : decode cL_law 294 = .ok (.sipush 200, 3) := by decide +kernel
theorem dL_law_297 : decode cL_law 297 = .ok (.goto 5, 3) := by decide +kernel
theorem dL_law_300 : decode cL_law 300 = .ok (.bipush 12, 2) := by decide +kernel
theorem dL_law_302 : decode cL_law 302 = .ok (.invokestatic 36, 3) := by decide +kernel
theorem dL_law_305 : decode cL_law 305 = .ok (.iadd, 1) := by decide +kernel
theorem dL_law_306 : decode cL_law 306 = .ok (.goto 46, 3) := by decide +kernel
theorem dL_law_309 : decode cL_law 309 = .ok (.iload 14, 2) := by decide +kernel
theorem dL_law_311 : decode cL_law 311 = .ok (.iconst 2, 1) := by decide +kernel
theorem dL_law_312 : decode cL_law 312 = .ok (.if_icmp .ne 14, 3) := by decide +kernel
theorem dL_law_315 : decode cL_law 315 = .ok (.iload 13, 2) := by decide +kernel
theorem dL_law_317 : decode cL_law 317 = .ok (.iconst 3, 1) := by decide +kernel
theorem dL_law_318 : decode cL_law 318 = .ok (.ishr, 1) := by decide +kernel
theorem dL_law_319 : decode cL_law 319 = .ok (.iconst 3, 1) := by decide +kernel
theorem dL_law_320 : decode cL_law 320 = .ok (.invokestatic 36, 3) := by decide +kernel
theorem dL_law_323 : decode cL_law 323 = .ok (.goto 29, 3) := by decide +kernel
theorem dL_law_326 : decode cL_law 326 = .ok (.iload 15, 2) := by decide +kernel
theorem dL_law_328 : decode cL_law 328 = .ok (.iconst 2, 1) := by decide +kernel
theorem dL_law_329 : decode cL_law 329 = .ok (.if_icmp .ne 14, 3) := by decide +kernel
theorem dL_law_332 : decode cL_law 332 = .ok (.iload 13, 2) := by decide +kernel
theorem dL_law_334 : decode cL_law 334 = .ok (.iconst 3, 1) := by decide +kernel
theorem dL_law_335 : decode cL_law 335 = .ok (.ishr, 1) := by decide +kernel
theorem dL_law_336 : decode cL_law 336 = .ok (.iconst 2, 1) := by decide +kernel
theorem dL_law_337 : decode cL_law 337 = .ok (.invokestatic 36, 3) := by decide +kernel
theorem dL_law_340 : decode cL_law 340 = .ok (.goto 12, 3) := by decide +kernel
theorem dL_law_343 : decode cL_law 343 = .ok (.iload 13, 2) := by decide +kernel
theorem dL_law_345 : decode cL_law 345 = .ok (.iconst 3, 1) := by decide +kernel
theorem dL_law_346 : decode cL_law 346 = .ok (.ishr, 1) := by decide +kernel
theorem dL_law_347 : decode cL_law 347 = .ok (.bipush 21, 2) := by decide +kernel
theorem dL_law_349 : decode cL_law 349 = .ok (.invokestatic 36, 3) := by decide +kernel
theorem dL_law_352 : decode cL_law 352 = .ok (.istore 16, 2) := by decide +kernel
theorem dL_law_354 : decode cL_law 354 = .ok (.iconst 1, 1) := by decide +kernel
theorem dL_law_355 : decode cL_law 355 = .ok (.iload 13, 2) := by decide +kernel
theorem dL_law_357 : decode cL_law 357 = .ok (.bipush 9, 2) := by decide +kernel
theorem dL_law_359 : decode cL_law 359 = .ok (.ishr, 1) := by decide +kernel
theorem dL_law_360 : decode cL_law 360 = .ok (.iload 13, 2) := by decide +kernel
theorem dL_law_362 : decode cL_law 362 = .ok (.bipush 20, 2) := by decide +kernel
theorem dL_law_364 : decode cL_law 364 = .ok (.ishr, 1) := by decide +kernel
theorem dL_law_365 : decode cL_law 365 = .ok (.iconst 3, 1) := by decide +kernel
