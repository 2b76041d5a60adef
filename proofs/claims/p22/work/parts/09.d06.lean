theorem dL_refuses_213 : decode cL_refuses 213 = .ok (.if_icmp .ne 324, 3) := by decide +kernel
theorem dL_refuses_216 : decode cL_refuses 216 = .ok (.aload_n 0, 1) := by decide +kernel
theorem dL_refuses_217 : decode cL_refuses 217 = .ok (.iconst 1, 1) := by decide +kernel
theorem dL_refuses_218 : decode cL_refuses 218 = .ok (.iload 7, 2) := by decide +kernel
theorem dL_refuses_220 : decode cL_refuses 220 = .ok (.iconst 1, 1) := by decide +kernel
theorem dL_refuses_221 : decode cL_refuses 221 = .ok (.if_icmp .ne 8, 3) := by decide +kernel
theorem dL_refuses_224 : decode cL_refuses 224 = .ok (.bipush 96, 2) := by decide +kernel
theorem dL_refuses_226 : decode cL_refuses 226 = .ok (.goto 5, 3) := by decide +kernel
theorem dL_refuses_229 : decode cL_refuses 229 = .ok (.iload 8, 2) := by decide +kernel
theorem dL_refuses_231 : decode cL_refuses 231 = .ok (.bipush 96, 2) := by decide +kernel
theorem dL_refuses_233 : decode cL_refuses 233 = .ok (.iconst 1, 1) := by decide +kernel
theorem dL_refuses_234 : decode cL_refuses 234 = .ok (.bipush 100, 2) := by decide +kernel
theorem dL_refuses_236 : decode cL_refuses 236 = .ok (.invokestatic 86, 3) := by decide +kernel
theorem dL_refuses_239 : decode cL_refuses 239 = .ok (.bipush (-72), 2) := by decide +kernel
theorem dL_refuses_241 : decode cL_refuses 241 = .ok (.if_icmp .ne 296, 3) := by decide +kernel
theorem dL_refuses_244 : decode cL_refuses 244 = .ok (.aload_n 0, 1) := by decide +kernel
theorem dL_refuses_245 : decode cL_refuses 245 = .ok (.iconst 1, 1) := by decide +kernel
theorem dL_refuses_246 : decode cL_refuses 246 = .ok (.iconst 5, 1) := by decide +kernel
theorem dL_refuses_247 : decode cL_refuses 247 = .ok (.iload 7, 2) := by decide +kernel
theorem dL_refuses_249 : decode cL_refuses 249 = .ok (.ifCond .ne 7, 3) := by decide +kernel
theorem dL_refuses_252 : decode cL_refuses 252 = .ok (.iconst 5, 1) := by decide +kernel
theorem dL_refuses_253 : decode cL_refuses 253 = .ok (.goto 16, 3) := by decide +kernel
theorem dL_refuses_256 : decode cL_refuses 256 = .ok (.iload 7, 2) := by decide +kernel
theorem dL_refuses_258 : decode cL_refuses 258 = .ok (.iconst 1, 1) := by decide +kernel
theorem dL_refuses_259 : decode cL_refuses 259 = .ok (.if_icmp .ne 8, 3) := by decide +kernel
theorem dL_refuses_262 : decode cL_refuses 262 = .ok (.bipush 97, 2) := by decide +kernel
theorem dL_refuses_264 : decode cL_refuses 264 = .ok (.goto 5, 3) := by decide +kernel
theorem dL_refuses_267 : decode cL_refuses 267 = .ok (.iload 8, 2) := by decide +kernel
theorem dL_refuses_269 : decode cL_refuses 269 = .ok (.iconst 1, 1) := by decide +kernel
theorem dL_refuses_270 : decode cL_refuses 270 = .ok (.bipush 100, 2) := by decide +kernel
theorem dL_refuses_272 : decode cL_refuses 272 = .ok (.invokestatic 86, 3) := by decide +kernel
theorem dL_refuses_275 : decode cL_refuses 275 = .ok (.bipush (-72), 2) := by decide +kernel
theorem dL_refuses_277 : decode cL_refuses 277 = .ok (.if_icmp .ne 260, 3) := by decide +kernel
theorem dL_refuses_280 : decode cL_refuses 280 = .ok (.aload_n 0, 1) := by decide +kernel
theorem dL_refuses_281 : decode cL_refuses 281 = .ok (.iconst 1, 1) := by decide +kernel
theorem dL_refuses_282 : decode cL_refuses 282 = .ok (.iconst 5, 1) := by decide +kernel
theorem dL_refuses_283 : decode cL_refuses 283 = .ok (.bipush 6, 2) := by decide +kernel
theorem dL_refuses_285 : decode cL_refuses 285 = .ok (.iload 7, 2) := by decide +kernel
theorem dL_refuses_287 : decode cL_refuses 287 = .ok (.ifCond .ne 7, 3) := by decide +kernel
theorem dL_refuses_290 : decode cL_refuses 290 = .ok (.iconst 0, 1) := by decide +kernel
theorem dL_refuses_291 : decode cL_refuses 291 = .ok (.goto 16, 3) := by decide +kernel
theorem dL_refuses_294 : decode cL_refuses 294 = .ok (.iload 7, 2) := by decide +kernel
theorem dL_refuses_296 : decode cL_refuses 296 = .ok (.iconst 1, 1) := by decide +kernel
theorem dL_refuses_297 : decode cL_refuses 297 = .ok (.if_icmp .ne 8, 3) := by decide +kernel
theorem dL_refuses_300 : decode cL_refuses 300 = .ok (.bipush 16, 2) := by decide +kernel
theorem dL_refuses_302 : decode cL_refuses 302 = .ok (.goto 5, 3) := by decide +kernel
theorem dL_refuses_305 : decode cL_refuses 305 = .ok (.iload 8, 2) := by decide +kernel
theorem dL_refuses_307 : decode cL_refuses 307 = .ok (.bipush 100, 2) := by decide +kernel
theorem dL_refuses_309 : decode cL_refuses 309 = .ok (.invokestatic 86, 3) := by decide +kernel
theorem dL_refuses_312 : decode cL_refuses 312 = .ok (.bipush (-72), 2) := by decide +kernel
theorem dL_refuses_314 : decode cL_refuses 314 = .ok (.if_icmp .ne 223, 3) := by decide +kernel
theorem dL_refuses_317 : decode cL_refuses 317 = .ok (.aload_n 0, 1) := by decide +kernel
theorem dL_refuses_318 : decode cL_refuses 318 = .ok (.iconst 1, 1) := by decide +kernel
theorem dL_refuses_319 : decode cL_refuses 319 = .ok (.iconst 5, 1) := by decide +kernel
theorem dL_refuses_320 : decode cL_refuses 320 = .ok (.bipush 6, 2) := by decide +kernel
theorem dL_refuses_322 : decode cL_refuses 322 = .ok (.iconst 1, 1) := by decide +kernel
theorem dL_refuses_323 : decode cL_refuses 323 = .ok (.iload 7, 2) := by decide +kernel
theorem dL_refuses_325 : decode cL_refuses 325 = .ok (.ifCond .ne 8, 3) := by decide +kernel
theorem dL_refuses_328 : decode cL_refuses 328 = .ok (.bipush 99, 2) := by decide +kernel
theorem dL_refuses_330 : decode cL_refuses 330 = .ok (.goto 17, 3) := by decide +kernel
theorem dL_refuses_333 : decode cL_refuses 333 = .ok (.iload 7, 2) := by decide +kernel
theorem dL_refuses_335 : decode cL_refuses 335 = .ok (.iconst 1, 1) := by decide +kernel
theorem dL_refuses_336 : decode cL_refuses 336 = .ok (.if_icmp .ne 9, 3) := by decide +kernel
theorem dL_refuses_339 : decode cL_refuses 339 = .ok (.sipush 401, 3) := by decide +kernel
theorem dL_refuses_342 : decode cL_refuses 342 = .ok (.goto 5, 3) := by decide +kernel
theorem dL_refuses_345 : decode cL_refuses 345 = .ok (.iload 8, 2) := by decide +kernel
theorem dL_refuses_347 : decode cL_refuses 347 = .ok (.invokestatic 86, 3) := by decide +kernel
theorem dL_refuses_350 : decode cL_refuses 350 = .ok (.bipush (-72), 2) := by decide +kernel
theorem dL_refuses_352 : decode cL_refuses 352 = .ok (.if_icmp .ne 185, 3) := by decide +kernel
theorem dL_refuses_355 : decode cL_refuses 355 = .ok (.aload_n 0, 1) := by decide +kernel
theorem dL_refuses_356 : decode cL_refuses 356 = .ok (.iconst 1, 1) := by decide +kernel
theorem dL_refuses_357 : decode cL_refuses 357 = .ok (.iload 10, 2) := by decide +kernel
theorem dL_refuses_359 : decode cL_refuses 359 = .ok (.iconst 1, 1) := by decide +kernel
theorem dL_refuses_360 : decode cL_refuses 360 = .ok (.iconst 0, 1) := by decide +kernel
theorem dL_refuses_361 : decode cL_refuses 361 = .ok (.iconst 0, 1) := by decide +kernel
theorem dL_refuses_362 : decode cL_refuses 362 = .ok (.invokestatic 80, 3) := by decide +kernel
theorem dL_refuses_365 : decode cL_refuses 365 = .ok (.bipush (-71), 2) := by decide +kernel
theorem dL_refuses_367 : decode cL_refuses 367 = .ok (.if_icmp .ne 170, 3) := by decide +kernel
theorem dL_refuses_370 : decode cL_refuses 370 = .ok (.aload_n 0, 1) := by decide +kernel
theorem dL_refuses_371 : decode cL_refuses 371 = .ok (.iconst 2, 1) := by decide +kernel
theorem dL_refuses_372 : decode cL_refuses 372 = .ok (.iload 13, 2) := by decide +kernel
theorem dL_refuses_374 : decode cL_refuses 374 = .ok (.iconst 1, 1) := by decide +kernel
theorem dL_refuses_375 : decode cL_refuses 375 = .ok (.iconst 0, 1) := by decide +kernel
theorem dL_refuses_376 : decode cL_refuses 376 = .ok (.iconst 0, 1) := by decide +kernel
theorem dL_refuses_377 : decode cL_refuses 377 = .ok (.invokestatic 80, 3) := by decide +kernel
theorem dL_refuses_380 : decode cL_refuses 380 = .ok (.bipush (-72), 2) := by decide +kernel
theorem dL_refuses_382 : decode cL_refuses 382 = .ok (.if_icmp .ne 155, 3) := by decide +kernel
theorem dL_refuses_385 : decode cL_refuses 385 = .ok (.aload_n 0, 1) := by decide +kernel
theorem dL_refuses_386 : decode cL_refuses 386 = .ok (.iconst 3, 1) := by decide +kernel
theorem dL_refuses_387 : decode cL_refuses 387 = .ok (.iload 9, 2) := by decide +kernel
theorem dL_refuses_389 : decode cL_refuses 389 = .ok (.iconst 0, 1) := by decide +kernel
theorem dL_refuses_390 : decode cL_refuses 390 = .ok (.iconst 0, 1) := by decide +kernel
theorem dL_refuses_391 : decode cL_refuses 391 = .ok (.iconst 0, 1) := by decide +kernel
theorem dL_refuses_392 : decode cL_refuses 392 = .ok (.invokestatic 80, 3) := by decide +kernel
theorem dL_refuses_395 : decode cL_refuses 395 = .ok (.bipush (-72), 2) := by decide +kernel
theorem dL_refuses_397 : decode cL_refuses 397 = .ok (.if_icmp .ne 140, 3) := by decide +kernel
theorem dL_refuses_400 : decode cL_refuses 400 = .ok (.aload_n 0, 1) := by decide +kernel
theorem dL_refuses_401 : decode cL_refuses 401 = .ok (.iconst 4, 1) := by decide +kernel
theorem dL_refuses_402 : decode cL_refuses 402 = .ok (.iload 11, 2) := by decide +kernel
theorem dL_refuses_404 : decode cL_refuses 404 = .ok (.iconst (-1), 1) := by decide +kernel
theorem dL_refuses_405 : decode cL_refuses 405 = .ok (.iconst 0, 1) := by decide +kernel
theorem dL_refuses_406 : decode cL_refuses 406 = .ok (.iconst 0, 1) := by decide +kernel
theorem dL_refuses_407 : decode cL_refuses 407 = .ok (.invokestatic 80, 3) := by decide +kernel
theorem dL_refuses_410 : decode cL_refuses 410 = .ok (.bipush (-71), 2) := by decide +kernel
theorem dL_refuses_412 : decode cL_refuses 412 = .ok (.if_icmp .ne 125, 3) := by decide +kernel
theorem dL_refuses_415 : decode cL_refuses 415 = .ok (.aload_n 0, 1) := by decide +kernel
theorem dL_refuses_416 : decode cL_refuses 416 = .ok (.iconst 4, 1) := by decide +kernel
theorem dL_refuses_417 : decode cL_refuses 417 = .ok (.iconst 0, 1) := by decide +kernel
theorem dL_refuses_418 : decode cL_refuses 418 = .ok (.iload 9, 2) := by decide +kernel
theorem dL_refuses_420 : decode cL_refuses 420 = .ok (.iconst 0, 1) := by decide +kernel
