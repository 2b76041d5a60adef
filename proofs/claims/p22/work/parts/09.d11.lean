theorem dL_hours_194 : decode cL_hours 194 = .ok (.aload_n 0, 1) := by decide +kernel
theorem dL_hours_195 : decode cL_hours 195 = .ok (.iconst 0, 1) := by decide +kernel
theorem dL_hours_196 : decode cL_hours 196 = .ok (.iconst 1, 1) := by decide +kernel
theorem dL_hours_197 : decode cL_hours 197 = .ok (.invokevirtual 67, 3) := by decide +kernel
theorem dL_hours_200 : decode cL_hours 200 = .ok (.iconst 5, 1) := by decide +kernel
theorem dL_hours_201 : decode cL_hours 201 = .ok (.if_icmp .eq 5, 3) := by decide +kernel
theorem dL_hours_204 : decode cL_hours 204 = .ok (.iconst 0, 1) := by decide +kernel
theorem dL_hours_205 : decode cL_hours 205 = .ok (.ireturn, 1) := by decide +kernel
theorem dL_hours_206 : decode cL_hours 206 = .ok (.iconst 0, 1) := by decide +kernel
theorem dL_hours_207 : decode cL_hours 207 = .ok (.istore_n 1, 1) := by decide +kernel
theorem dL_hours_208 : decode cL_hours 208 = .ok (.iload_n 1, 1) := by decide +kernel
theorem dL_hours_209 : decode cL_hours 209 = .ok (.bipush 10, 2) := by decide +kernel
theorem dL_hours_211 : decode cL_hours 211 = .ok (.if_icmp .ge 54, 3) := by decide +kernel
theorem dL_hours_214 : decode cL_hours 214 = .ok (.aload_n 0, 1) := by decide +kernel
theorem dL_hours_215 : decode cL_hours 215 = .ok (.iconst 0, 1) := by decide +kernel
theorem dL_hours_216 : decode cL_hours 216 = .ok (.bipush 28, 2) := by decide +kernel
theorem dL_hours_218 : decode cL_hours 218 = .ok (.iconst 2, 1) := by decide +kernel
theorem dL_hours_219 : decode cL_hours 219 = .ok (.iload_n 1, 1) := by decide +kernel
theorem dL_hours_220 : decode cL_hours 220 = .ok (.imul, 1) := by decide +kernel
theorem dL_hours_221 : decode cL_hours 221 = .ok (.iadd, 1) := by decide +kernel
theorem dL_hours_222 : decode cL_hours 222 = .ok (.bipush 40, 2) := by decide +kernel
theorem dL_hours_224 : decode cL_hours 224 = .ok (.bipush 64, 2) := by decide +kernel
theorem dL_hours_226 : decode cL_hours 226 = .ok (.invokevirtual 35, 3) := by decide +kernel
theorem dL_hours_229 : decode cL_hours 229 = .ok (.bipush 6, 2) := by decide +kernel
theorem dL_hours_231 : decode cL_hours 231 = .ok (.iload_n 1, 1) := by decide +kernel
theorem dL_hours_232 : decode cL_hours 232 = .ok (.iadd, 1) := by decide +kernel
theorem dL_hours_233 : decode cL_hours 233 = .ok (.if_icmp .ne 24, 3) := by decide +kernel
theorem dL_hours_236 : decode cL_hours 236 = .ok (.aload_n 0, 1) := by decide +kernel
theorem dL_hours_237 : decode cL_hours 237 = .ok (.iconst 0, 1) := by decide +kernel
theorem dL_hours_238 : decode cL_hours 238 = .ok (.iconst 1, 1) := by decide +kernel
theorem dL_hours_239 : decode cL_hours 239 = .ok (.invokevirtual 70, 3) := by decide +kernel
theorem dL_hours_242 : decode cL_hours 242 = .ok (.iload_n 1, 1) := by decide +kernel
theorem dL_hours_243 : decode cL_hours 243 = .ok (.bipush 9, 2) := by decide +kernel
theorem dL_hours_245 : decode cL_hours 245 = .ok (.if_icmp .ne 8, 3) := by decide +kernel
theorem dL_hours_248 : decode cL_hours 248 = .ok (.bipush 32, 2) := by decide +kernel
theorem dL_hours_250 : decode cL_hours 250 = .ok (.goto 4, 3) := by decide +kernel
theorem dL_hours_253 : decode cL_hours 253 = .ok (.iconst 0, 1) := by decide +kernel
theorem dL_hours_254 : decode cL_hours 254 = .ok (.if_icmp .eq 5, 3) := by decide +kernel
theorem dL_hours_257 : decode cL_hours 257 = .ok (.iconst 0, 1) := by decide +kernel
theorem dL_hours_258 : decode cL_hours 258 = .ok (.ireturn, 1) := by decide +kernel
theorem dL_hours_259 : decode cL_hours 259 = .ok (.iinc 1 1, 3) := by decide +kernel
theorem dL_hours_262 : decode cL_hours 262 = .ok (.goto (-54), 3) := by decide +kernel
theorem dL_hours_265 : decode cL_hours 265 = .ok (.aload_n 0, 1) := by decide +kernel
theorem dL_hours_266 : decode cL_hours 266 = .ok (.iconst 0, 1) := by decide +kernel
theorem dL_hours_267 : decode cL_hours 267 = .ok (.iconst 4, 1) := by decide +kernel
theorem dL_hours_268 : decode cL_hours 268 = .ok (.invokevirtual 67, 3) := by decide +kernel
theorem dL_hours_271 : decode cL_hours 271 = .ok (.sipush 248, 3) := by decide +kernel
theorem dL_hours_274 : decode cL_hours 274 = .ok (.if_icmp .ne 147, 3) := by decide +kernel
theorem dL_hours_277 : decode cL_hours 277 = .ok (.aload_n 0, 1) := by decide +kernel
theorem dL_hours_278 : decode cL_hours 278 = .ok (.iconst 0, 1) := by decide +kernel
theorem dL_hours_279 : decode cL_hours 279 = .ok (.iconst 5, 1) := by decide +kernel
theorem dL_hours_280 : decode cL_hours 280 = .ok (.invokevirtual 67, 3) := by decide +kernel
theorem dL_hours_283 : decode cL_hours 283 = .ok (.sipush 200, 3) := by decide +kernel
theorem dL_hours_286 : decode cL_hours 286 = .ok (.if_icmp .ne 135, 3) := by decide +kernel
theorem dL_hours_289 : decode cL_hours 289 = .ok (.aload_n 0, 1) := by decide +kernel
theorem dL_hours_290 : decode cL_hours 290 = .ok (.iconst 0, 1) := by decide +kernel
theorem dL_hours_291 : decode cL_hours 291 = .ok (.bipush 6, 2) := by decide +kernel
theorem dL_hours_293 : decode cL_hours 293 = .ok (.invokevirtual 67, 3) := by decide +kernel
theorem dL_hours_296 : decode cL_hours 296 = .ok (.sipush 192, 3) := by decide +kernel
theorem dL_hours_299 : decode cL_hours 299 = .ok (.if_icmp .ne 122, 3) := by decide +kernel
theorem dL_hours_302 : decode cL_hours 302 = .ok (.aload_n 0, 1) := by decide +kernel
theorem dL_hours_303 : decode cL_hours 303 = .ok (.iconst 0, 1) := by decide +kernel
theorem dL_hours_304 : decode cL_hours 304 = .ok (.bipush 7, 2) := by decide +kernel
theorem dL_hours_306 : decode cL_hours 306 = .ok (.invokevirtual 67, 3) := by decide +kernel
theorem dL_hours_309 : decode cL_hours 309 = .ok (.ifCond .ne 112, 3) := by decide +kernel
theorem dL_hours_312 : decode cL_hours 312 = .ok (.aload_n 0, 1) := by decide +kernel
theorem dL_hours_313 : decode cL_hours 313 = .ok (.iconst 0, 1) := by decide +kernel
theorem dL_hours_314 : decode cL_hours 314 = .ok (.bipush 55, 2) := by decide +kernel
theorem dL_hours_316 : decode cL_hours 316 = .ok (.bipush 90, 2) := by decide +kernel
theorem dL_hours_318 : decode cL_hours 318 = .ok (.bipush 20, 2) := by decide +kernel
theorem dL_hours_320 : decode cL_hours 320 = .ok (.invokevirtual 35, 3) := by decide +kernel
theorem dL_hours_323 : decode cL_hours 323 = .ok (.bipush 16, 2) := by decide +kernel
theorem dL_hours_325 : decode cL_hours 325 = .ok (.if_icmp .ne 96, 3) := by decide +kernel
theorem dL_hours_328 : decode cL_hours 328 = .ok (.aload_n 0, 1) := by decide +kernel
theorem dL_hours_329 : decode cL_hours 329 = .ok (.iconst 0, 1) := by decide +kernel
theorem dL_hours_330 : decode cL_hours 330 = .ok (.iconst 1, 1) := by decide +kernel
theorem dL_hours_331 : decode cL_hours 331 = .ok (.invokevirtual 70, 3) := by decide +kernel
theorem dL_hours_334 : decode cL_hours 334 = .ok (.bipush 38, 2) := by decide +kernel
theorem dL_hours_336 : decode cL_hours 336 = .ok (.if_icmp .ne 85, 3) := by decide +kernel
theorem dL_hours_339 : decode cL_hours 339 = .ok (.aload_n 0, 1) := by decide +kernel
theorem dL_hours_340 : decode cL_hours 340 = .ok (.iconst 0, 1) := by decide +kernel
theorem dL_hours_341 : decode cL_hours 341 = .ok (.bipush 8, 2) := by decide +kernel
theorem dL_hours_343 : decode cL_hours 343 = .ok (.invokevirtual 67, 3) := by decide +kernel
theorem dL_hours_346 : decode cL_hours 346 = .ok (.bipush 14, 2) := by decide +kernel
theorem dL_hours_348 : decode cL_hours 348 = .ok (.if_icmp .ne 73, 3) := by decide +kernel
theorem dL_hours_351 : decode cL_hours 351 = .ok (.aload_n 0, 1) := by decide +kernel
theorem dL_hours_352 : decode cL_hours 352 = .ok (.iconst 0, 1) := by decide +kernel
theorem dL_hours_353 : decode cL_hours 353 = .ok (.bipush 12, 2) := by decide +kernel
theorem dL_hours_355 : decode cL_hours 355 = .ok (.invokevirtual 70, 3) := by decide +kernel
theorem dL_hours_358 : decode cL_hours 358 = .ok (.ifCond .ne 63, 3) := by decide +kernel
theorem dL_hours_361 : decode cL_hours 361 = .ok (.aload_n 0, 1) := by decide +kernel
theorem dL_hours_362 : decode cL_hours 362 = .ok (.iconst 0, 1) := by decide +kernel
theorem dL_hours_363 : decode cL_hours 363 = .ok (.sipush 362, 3) := by decide +kernel
theorem dL_hours_366 : decode cL_hours 366 = .ok (.bipush 95, 2) := by decide +kernel
theorem dL_hours_368 : decode cL_hours 368 = .ok (.bipush 64, 2) := by decide +kernel
theorem dL_hours_370 : decode cL_hours 370 = .ok (.invokevirtual 35, 3) := by decide +kernel
theorem dL_hours_373 : decode cL_hours 373 = .ok (.bipush 17, 2) := by decide +kernel
theorem dL_hours_375 : decode cL_hours 375 = .ok (.if_icmp .ne 46, 3) := by decide +kernel
theorem dL_hours_378 : decode cL_hours 378 = .ok (.aload_n 0, 1) := by decide +kernel
theorem dL_hours_379 : decode cL_hours 379 = .ok (.iconst 0, 1) := by decide +kernel
theorem dL_hours_380 : decode cL_hours 380 = .ok (.bipush 51, 2) := by decide +kernel
theorem dL_hours_382 : decode cL_hours 382 = .ok (.invokevirtual 67, 3) := by decide +kernel
theorem dL_hours_385 : decode cL_hours 385 = .ok (.bipush 64, 2) := by decide +kernel
theorem dL_hours_387 : decode cL_hours 387 = .ok (.if_icmp .ne 34, 3) := by decide +kernel
theorem dL_hours_390 : decode cL_hours 390 = .ok (.aload_n 0, 1) := by decide +kernel
theorem dL_hours_391 : decode cL_hours 391 = .ok (.bipush 17, 2) := by decide +kernel
theorem dL_hours_393 : decode cL_hours 393 = .ok (.invokevirtual 57, 3) := by decide +kernel
theorem dL_hours_396 : decode cL_hours 396 = .ok (.ldc 98, 2) := by decide +kernel
theorem dL_hours_398 : decode cL_hours 398 = .ok (.if_icmp .ne 23, 3) := by decide +kernel
theorem dL_hours_401 : decode cL_hours 401 = .ok (.aload_n 0, 1) := by decide +kernel
