theorem dL_pays_205 : decode cL_pays 205 = .ok (.sipush 7000, 3) := by decide +kernel
theorem dL_pays_208 : decode cL_pays 208 = .ok (.if_icmp .ne 133, 3) := by decide +kernel
theorem dL_pays_211 : decode cL_pays 211 = .ok (.aload_n 0, 1) := by decide +kernel
theorem dL_pays_212 : decode cL_pays 212 = .ok (.iconst 0, 1) := by decide +kernel
theorem dL_pays_213 : decode cL_pays 213 = .ok (.invokevirtual 54, 3) := by decide +kernel
theorem dL_pays_216 : decode cL_pays 216 = .ok (.ifCond .ne 125, 3) := by decide +kernel
theorem dL_pays_219 : decode cL_pays 219 = .ok (.aload_n 0, 1) := by decide +kernel
theorem dL_pays_220 : decode cL_pays 220 = .ok (.iconst 1, 1) := by decide +kernel
theorem dL_pays_221 : decode cL_pays 221 = .ok (.invokevirtual 64, 3) := by decide +kernel
theorem dL_pays_224 : decode cL_pays 224 = .ok (.sipush 5000, 3) := by decide +kernel
theorem dL_pays_227 : decode cL_pays 227 = .ok (.if_icmp .ne 114, 3) := by decide +kernel
theorem dL_pays_230 : decode cL_pays 230 = .ok (.aload_n 0, 1) := by decide +kernel
theorem dL_pays_231 : decode cL_pays 231 = .ok (.iconst 0, 1) := by decide +kernel
theorem dL_pays_232 : decode cL_pays 232 = .ok (.iconst 1, 1) := by decide +kernel
theorem dL_pays_233 : decode cL_pays 233 = .ok (.invokevirtual 25, 3) := by decide +kernel
theorem dL_pays_236 : decode cL_pays 236 = .ok (.ifCond .ne 105, 3) := by decide +kernel
theorem dL_pays_239 : decode cL_pays 239 = .ok (.aload_n 0, 1) := by decide +kernel
theorem dL_pays_240 : decode cL_pays 240 = .ok (.iconst 0, 1) := by decide +kernel
theorem dL_pays_241 : decode cL_pays 241 = .ok (.iconst 0, 1) := by decide +kernel
theorem dL_pays_242 : decode cL_pays 242 = .ok (.sipush 250, 3) := by decide +kernel
theorem dL_pays_245 : decode cL_pays 245 = .ok (.iconst 2, 1) := by decide +kernel
theorem dL_pays_246 : decode cL_pays 246 = .ok (.invokestatic 94, 3) := by decide +kernel
theorem dL_pays_249 : decode cL_pays 249 = .ok (.ifCond .eq 92, 3) := by decide +kernel
theorem dL_pays_252 : decode cL_pays 252 = .ok (.aload_n 0, 1) := by decide +kernel
theorem dL_pays_253 : decode cL_pays 253 = .ok (.iconst 0, 1) := by decide +kernel
theorem dL_pays_254 : decode cL_pays 254 = .ok (.invokevirtual 57, 3) := by decide +kernel
theorem dL_pays_257 : decode cL_pays 257 = .ok (.sipush 15000, 3) := by decide +kernel
theorem dL_pays_260 : decode cL_pays 260 = .ok (.if_icmp .ne 81, 3) := by decide +kernel
theorem dL_pays_263 : decode cL_pays 263 = .ok (.aload_n 0, 1) := by decide +kernel
theorem dL_pays_264 : decode cL_pays 264 = .ok (.iconst 1, 1) := by decide +kernel
theorem dL_pays_265 : decode cL_pays 265 = .ok (.invokevirtual 64, 3) := by decide +kernel
theorem dL_pays_268 : decode cL_pays 268 = .ok (.ifCond .ne 73, 3) := by decide +kernel
theorem dL_pays_271 : decode cL_pays 271 = .ok (.aload_n 0, 1) := by decide +kernel
theorem dL_pays_272 : decode cL_pays 272 = .ok (.iconst 2, 1) := by decide +kernel
theorem dL_pays_273 : decode cL_pays 273 = .ok (.invokevirtual 64, 3) := by decide +kernel
theorem dL_pays_276 : decode cL_pays 276 = .ok (.sipush 15000, 3) := by decide +kernel
theorem dL_pays_279 : decode cL_pays 279 = .ok (.if_icmp .ne 62, 3) := by decide +kernel
theorem dL_pays_282 : decode cL_pays 282 = .ok (.aload_n 0, 1) := by decide +kernel
theorem dL_pays_283 : decode cL_pays 283 = .ok (.iconst 0, 1) := by decide +kernel
theorem dL_pays_284 : decode cL_pays 284 = .ok (.iconst 2, 1) := by decide +kernel
theorem dL_pays_285 : decode cL_pays 285 = .ok (.invokevirtual 32, 3) := by decide +kernel
theorem dL_pays_288 : decode cL_pays 288 = .ok (.ifCond .ne 53, 3) := by decide +kernel
theorem dL_pays_291 : decode cL_pays 291 = .ok (.aload_n 0, 1) := by decide +kernel
theorem dL_pays_292 : decode cL_pays 292 = .ok (.iconst 0, 1) := by decide +kernel
theorem dL_pays_293 : decode cL_pays 293 = .ok (.invokevirtual 57, 3) := by decide +kernel
theorem dL_pays_296 : decode cL_pays 296 = .ok (.sipush 6000, 3) := by decide +kernel
theorem dL_pays_299 : decode cL_pays 299 = .ok (.if_icmp .ne 42, 3) := by decide +kernel
theorem dL_pays_302 : decode cL_pays 302 = .ok (.aload_n 0, 1) := by decide +kernel
theorem dL_pays_303 : decode cL_pays 303 = .ok (.iconst 0, 1) := by decide +kernel
theorem dL_pays_304 : decode cL_pays 304 = .ok (.iconst 0, 1) := by decide +kernel
theorem dL_pays_305 : decode cL_pays 305 = .ok (.invokevirtual 32, 3) := by decide +kernel
theorem dL_pays_308 : decode cL_pays 308 = .ok (.iconst 2, 1) := by decide +kernel
theorem dL_pays_309 : decode cL_pays 309 = .ok (.if_icmp .ne 32, 3) := by decide +kernel
theorem dL_pays_312 : decode cL_pays 312 = .ok (.aload_n 0, 1) := by decide +kernel
theorem dL_pays_313 : decode cL_pays 313 = .ok (.iconst 0, 1) := by decide +kernel
theorem dL_pays_314 : decode cL_pays 314 = .ok (.iconst 0, 1) := by decide +kernel
theorem dL_pays_315 : decode cL_pays 315 = .ok (.invokevirtual 25, 3) := by decide +kernel
theorem dL_pays_318 : decode cL_pays 318 = .ok (.ifCond .eq 23, 3) := by decide +kernel
theorem dL_pays_321 : decode cL_pays 321 = .ok (.aload_n 0, 1) := by decide +kernel
theorem dL_pays_322 : decode cL_pays 322 = .ok (.iconst 0, 1) := by decide +kernel
theorem dL_pays_323 : decode cL_pays 323 = .ok (.invokevirtual 57, 3) := by decide +kernel
theorem dL_pays_326 : decode cL_pays 326 = .ok (.sipush 7000, 3) := by decide +kernel
theorem dL_pays_329 : decode cL_pays 329 = .ok (.if_icmp .ne 12, 3) := by decide +kernel
theorem dL_pays_332 : decode cL_pays 332 = .ok (.aload_n 0, 1) := by decide +kernel
theorem dL_pays_333 : decode cL_pays 333 = .ok (.iconst 4, 1) := by decide +kernel
theorem dL_pays_334 : decode cL_pays 334 = .ok (.iconst 2, 1) := by decide +kernel
theorem dL_pays_335 : decode cL_pays 335 = .ok (.invokestatic 90, 3) := by decide +kernel
theorem dL_pays_338 : decode cL_pays 338 = .ok (.ifCond .ne 5, 3) := by decide +kernel
theorem dL_pays_341 : decode cL_pays 341 = .ok (.iconst 0, 1) := by decide +kernel
theorem dL_pays_342 : decode cL_pays 342 = .ok (.ireturn, 1) := by decide +kernel
theorem dL_pays_343 : decode cL_pays 343 = .ok (.aload_n 0, 1) := by decide +kernel
theorem dL_pays_344 : decode cL_pays 344 = .ok (.iconst 0, 1) := by decide +kernel
theorem dL_pays_345 : decode cL_pays 345 = .ok (.iconst 4, 1) := by decide +kernel
theorem dL_pays_346 : decode cL_pays 346 = .ok (.bipush 90, 2) := by decide +kernel
theorem dL_pays_348 : decode cL_pays 348 = .ok (.bipush 20, 2) := by decide +kernel
theorem dL_pays_350 : decode cL_pays 350 = .ok (.invokevirtual 35, 3) := by decide +kernel
theorem dL_pays_353 : decode cL_pays 353 = .ok (.iconst 1, 1) := by decide +kernel
theorem dL_pays_354 : decode cL_pays 354 = .ok (.if_icmp .ne 253, 3) := by decide +kernel
theorem dL_pays_357 : decode cL_pays 357 = .ok (.aload_n 0, 1) := by decide +kernel
theorem dL_pays_358 : decode cL_pays 358 = .ok (.iconst 1, 1) := by decide +kernel
theorem dL_pays_359 : decode cL_pays 359 = .ok (.invokevirtual 45, 3) := by decide +kernel
theorem dL_pays_362 : decode cL_pays 362 = .ok (.bipush 20, 2) := by decide +kernel
theorem dL_pays_364 : decode cL_pays 364 = .ok (.if_icmp .ne 243, 3) := by decide +kernel
theorem dL_pays_367 : decode cL_pays 367 = .ok (.aload_n 0, 1) := by decide +kernel
theorem dL_pays_368 : decode cL_pays 368 = .ok (.iconst 1, 1) := by decide +kernel
theorem dL_pays_369 : decode cL_pays 369 = .ok (.iconst 5, 1) := by decide +kernel
theorem dL_pays_370 : decode cL_pays 370 = .ok (.bipush 125, 2) := by decide +kernel
theorem dL_pays_372 : decode cL_pays 372 = .ok (.iconst 1, 1) := by decide +kernel
theorem dL_pays_373 : decode cL_pays 373 = .ok (.invokestatic 94, 3) := by decide +kernel
theorem dL_pays_376 : decode cL_pays 376 = .ok (.ifCond .eq 231, 3) := by decide +kernel
theorem dL_pays_379 : decode cL_pays 379 = .ok (.aload_n 0, 1) := by decide +kernel
theorem dL_pays_380 : decode cL_pays 380 = .ok (.iconst 1, 1) := by decide +kernel
theorem dL_pays_381 : decode cL_pays 381 = .ok (.bipush 6, 2) := by decide +kernel
theorem dL_pays_383 : decode cL_pays 383 = .ok (.sipush 150, 3) := by decide +kernel
theorem dL_pays_386 : decode cL_pays 386 = .ok (.iconst 0, 1) := by decide +kernel
theorem dL_pays_387 : decode cL_pays 387 = .ok (.invokestatic 94, 3) := by decide +kernel
theorem dL_pays_390 : decode cL_pays 390 = .ok (.ifCond .eq 217, 3) := by decide +kernel
theorem dL_pays_393 : decode cL_pays 393 = .ok (.aload_n 0, 1) := by decide +kernel
theorem dL_pays_394 : decode cL_pays 394 = .ok (.iconst 1, 1) := by decide +kernel
theorem dL_pays_395 : decode cL_pays 395 = .ok (.invokevirtual 54, 3) := by decide +kernel
theorem dL_pays_398 : decode cL_pays 398 = .ok (.iconst 1, 1) := by decide +kernel
theorem dL_pays_399 : decode cL_pays 399 = .ok (.if_icmp .ne 208, 3) := by decide +kernel
theorem dL_pays_402 : decode cL_pays 402 = .ok (.aload_n 0, 1) := by decide +kernel
theorem dL_pays_403 : decode cL_pays 403 = .ok (.iconst 1, 1) := by decide +kernel
theorem dL_pays_404 : decode cL_pays 404 = .ok (.invokevirtual 57, 3) := by decide +kernel
theorem dL_pays_407 : decode cL_pays 407 = .ok (.sipush 15250, 3) := by decide +kernel
theorem dL_pays_410 : decode cL_pays 410 = .ok (.if_icmp .ne 197, 3) := by decide +kernel
theorem dL_pays_413 : decode cL_pays 413 = .ok (.aload_n 0, 1) := by decide +kernel
theorem dL_pays_414 : decode cL_pays 414 = .ok (.iconst 1, 1) := by decide +kernel
theorem dL_pays_415 : decode cL_pays 415 = .ok (.iconst 1, 1) := by decide +kernel
