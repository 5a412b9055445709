/-! DECODED: the law -/
theorem fW_law_249 : decode (m_cc M_W_law) 249 = .ok (.iconst 2, 1) := by decide +kernel
theorem fW_law_250 : decode (m_cc M_W_law) 250 = .ok (.iadd, 1) := by decide +kernel
theorem fW_law_251 : decode (m_cc M_W_law) 251 = .ok (.iaload, 1) := by decide +kernel
theorem fW_law_252 : decode (m_cc M_W_law) 252 = .ok (.aload_n 0, 1) := by decide +kernel
theorem fW_law_253 : decode (m_cc M_W_law) 253 = .ok (.iload 4, 2) := by decide +kernel
theorem fW_law_255 : decode (m_cc M_W_law) 255 = .ok (.iconst 3, 1) := by decide +kernel
theorem fW_law_256 : decode (m_cc M_W_law) 256 = .ok (.iadd, 1) := by decide +kernel
theorem fW_law_257 : decode (m_cc M_W_law) 257 = .ok (.iaload, 1) := by decide +kernel
theorem fW_law_258 : decode (m_cc M_W_law) 258 = .ok (.aload_n 0, 1) := by decide +kernel
theorem fW_law_259 : decode (m_cc M_W_law) 259 = .ok (.iload 4, 2) := by decide +kernel
theorem fW_law_261 : decode (m_cc M_W_law) 261 = .ok (.iconst 4, 1) := by decide +kernel
theorem fW_law_262 : decode (m_cc M_W_law) 262 = .ok (.iadd, 1) := by decide +kernel
theorem fW_law_263 : decode (m_cc M_W_law) 263 = .ok (.iaload, 1) := by decide +kernel
theorem fW_law_264 : decode (m_cc M_W_law) 264 = .ok (.invokevirtual 86, 3) := by decide +kernel
theorem fW_law_267 : decode (m_cc M_W_law) 267 = .ok (.istore 6, 2) := by decide +kernel
theorem fW_law_269 : decode (m_cc M_W_law) 269 = .ok (.aload_n 2, 1) := by decide +kernel
theorem fW_law_270 : decode (m_cc M_W_law) 270 = .ok (.invokevirtual 80, 3) := by decide +kernel
theorem fW_law_273 : decode (m_cc M_W_law) 273 = .ok (.iload 5, 2) := by decide +kernel
theorem fW_law_275 : decode (m_cc M_W_law) 275 = .ok (.if_icmp .eq 5, 3) := by decide +kernel
theorem fW_law_278 : decode (m_cc M_W_law) 278 = .ok (.iconst 0, 1) := by decide +kernel
theorem fW_law_279 : decode (m_cc M_W_law) 279 = .ok (.ireturn, 1) := by decide +kernel
theorem fW_law_280 : decode (m_cc M_W_law) 280 = .ok (.iload 5, 2) := by decide +kernel
theorem fW_law_282 : decode (m_cc M_W_law) 282 = .ok (.ifCond .ne 15, 3) := by decide +kernel
theorem fW_law_285 : decode (m_cc M_W_law) 285 = .ok (.aload_n 3, 1) := by decide +kernel
theorem fW_law_286 : decode (m_cc M_W_law) 286 = .ok (.iconst 0, 1) := by decide +kernel
theorem fW_law_287 : decode (m_cc M_W_law) 287 = .ok (.laload, 1) := by decide +kernel
theorem fW_law_288 : decode (m_cc M_W_law) 288 = .ok (.iload 6, 2) := by decide +kernel
theorem fW_law_290 : decode (m_cc M_W_law) 290 = .ok (.i2l, 1) := by decide +kernel
theorem fW_law_291 : decode (m_cc M_W_law) 291 = .ok (.lcmp, 1) := by decide +kernel
theorem fW_law_292 : decode (m_cc M_W_law) 292 = .ok (.ifCond .eq 5, 3) := by decide +kernel
theorem fW_law_295 : decode (m_cc M_W_law) 295 = .ok (.iconst 0, 1) := by decide +kernel
theorem fW_law_296 : decode (m_cc M_W_law) 296 = .ok (.ireturn, 1) := by decide +kernel
theorem fW_law_297 : decode (m_cc M_W_law) 297 = .ok (.goto 885, 3) := by decide +kernel
theorem fW_law_300 : decode (m_cc M_W_law) 300 = .ok (.aload_n 1, 1) := by decide +kernel
theorem fW_law_301 : decode (m_cc M_W_law) 301 = .ok (.aload_n 0, 1) := by decide +kernel
theorem fW_law_302 : decode (m_cc M_W_law) 302 = .ok (.iload 4, 2) := by decide +kernel
theorem fW_law_304 : decode (m_cc M_W_law) 304 = .ok (.iconst 1, 1) := by decide +kernel
theorem fW_law_305 : decode (m_cc M_W_law) 305 = .ok (.iadd, 1) := by decide +kernel
theorem fW_law_306 : decode (m_cc M_W_law) 306 = .ok (.iaload, 1) := by decide +kernel
theorem fW_law_307 : decode (m_cc M_W_law) 307 = .ok (.aload_n 0, 1) := by decide +kernel
theorem fW_law_308 : decode (m_cc M_W_law) 308 = .ok (.iload 4, 2) := by decide +kernel
theorem fW_law_310 : decode (m_cc M_W_law) 310 = .ok (.iconst 2, 1) := by decide +kernel
theorem fW_law_311 : decode (m_cc M_W_law) 311 = .ok (.iadd, 1) := by decide +kernel
theorem fW_law_312 : decode (m_cc M_W_law) 312 = .ok (.iaload, 1) := by decide +kernel
theorem fW_law_313 : decode (m_cc M_W_law) 313 = .ok (.aload_n 3, 1) := by decide +kernel
theorem fW_law_314 : decode (m_cc M_W_law) 314 = .ok (.invokestatic 87, 3) := by decide +kernel
theorem fW_law_317 : decode (m_cc M_W_law) 317 = .ok (.istore 5, 2) := by decide +kernel
theorem fW_law_319 : decode (m_cc M_W_law) 319 = .ok (.aload_n 2, 1) := by decide +kernel
theorem fW_law_320 : decode (m_cc M_W_law) 320 = .ok (.aload_n 0, 1) := by decide +kernel
theorem fW_law_321 : decode (m_cc M_W_law) 321 = .ok (.iload 4, 2) := by decide +kernel
theorem fW_law_323 : decode (m_cc M_W_law) 323 = .ok (.iconst 1, 1) := by decide +kernel
theorem fW_law_324 : decode (m_cc M_W_law) 324 = .ok (.iadd, 1) := by decide +kernel
theorem fW_law_325 : decode (m_cc M_W_law) 325 = .ok (.iaload, 1) := by decide +kernel
theorem fW_law_326 : decode (m_cc M_W_law) 326 = .ok (.aload_n 0, 1) := by decide +kernel
theorem fW_law_327 : decode (m_cc M_W_law) 327 = .ok (.iload 4, 2) := by decide +kernel
theorem fW_law_329 : decode (m_cc M_W_law) 329 = .ok (.iconst 2, 1) := by decide +kernel
theorem fW_law_330 : decode (m_cc M_W_law) 330 = .ok (.iadd, 1) := by decide +kernel
theorem fW_law_331 : decode (m_cc M_W_law) 331 = .ok (.iaload, 1) := by decide +kernel
theorem fW_law_332 : decode (m_cc M_W_law) 332 = .ok (.invokevirtual 90, 3) := by decide +kernel
theorem fW_law_335 : decode (m_cc M_W_law) 335 = .ok (.istore 6, 2) := by decide +kernel
theorem fW_law_337 : decode (m_cc M_W_law) 337 = .ok (.aload_n 2, 1) := by decide +kernel
theorem fW_law_338 : decode (m_cc M_W_law) 338 = .ok (.invokevirtual 80, 3) := by decide +kernel
theorem fW_law_341 : decode (m_cc M_W_law) 341 = .ok (.iload 5, 2) := by decide +kernel
theorem fW_law_343 : decode (m_cc M_W_law) 343 = .ok (.if_icmp .eq 5, 3) := by decide +kernel
theorem fW_law_346 : decode (m_cc M_W_law) 346 = .ok (.iconst 0, 1) := by decide +kernel
theorem fW_law_347 : decode (m_cc M_W_law) 347 = .ok (.ireturn, 1) := by decide +kernel
theorem fW_law_348 : decode (m_cc M_W_law) 348 = .ok (.iload 5, 2) := by decide +kernel
theorem fW_law_350 : decode (m_cc M_W_law) 350 = .ok (.ifCond .ne 15, 3) := by decide +kernel
theorem fW_law_353 : decode (m_cc M_W_law) 353 = .ok (.aload_n 3, 1) := by decide +kernel
theorem fW_law_354 : decode (m_cc M_W_law) 354 = .ok (.iconst 0, 1) := by decide +kernel
theorem fW_law_355 : decode (m_cc M_W_law) 355 = .ok (.laload, 1) := by decide +kernel
theorem fW_law_356 : decode (m_cc M_W_law) 356 = .ok (.iload 6, 2) := by decide +kernel
theorem fW_law_358 : decode (m_cc M_W_law) 358 = .ok (.i2l, 1) := by decide +kernel
theorem fW_law_359 : decode (m_cc M_W_law) 359 = .ok (.lcmp, 1) := by decide +kernel
theorem fW_law_360 : decode (m_cc M_W_law) 360 = .ok (.ifCond .eq 5, 3) := by decide +kernel
theorem fW_law_363 : decode (m_cc M_W_law) 363 = .ok (.iconst 0, 1) := by decide +kernel
theorem fW_law_364 : decode (m_cc M_W_law) 364 = .ok (.ireturn, 1) := by decide +kernel
theorem fW_law_365 : decode (m_cc M_W_law) 365 = .ok (.goto 817, 3) := by decide +kernel
theorem fW_law_368 : decode (m_cc M_W_law) 368 = .ok (.aload_n 1, 1) := by decide +kernel
theorem fW_law_369 : decode (m_cc M_W_law) 369 = .ok (.aload_n 0, 1) := by decide +kernel
theorem fW_law_370 : decode (m_cc M_W_law) 370 = .ok (.iload 4, 2) := by decide +kernel
theorem fW_law_372 : decode (m_cc M_W_law) 372 = .ok (.iconst 1, 1) := by decide +kernel
theorem fW_law_373 : decode (m_cc M_W_law) 373 = .ok (.iadd, 1) := by decide +kernel
theorem fW_law_374 : decode (m_cc M_W_law) 374 = .ok (.iaload, 1) := by decide +kernel
theorem fW_law_375 : decode (m_cc M_W_law) 375 = .ok (.aload_n 0, 1) := by decide +kernel
theorem fW_law_376 : decode (m_cc M_W_law) 376 = .ok (.iload 4, 2) := by decide +kernel
theorem fW_law_378 : decode (m_cc M_W_law) 378 = .ok (.iconst 2, 1) := by decide +kernel
theorem fW_law_379 : decode (m_cc M_W_law) 379 = .ok (.iadd, 1) := by decide +kernel
theorem fW_law_380 : decode (m_cc M_W_law) 380 = .ok (.iaload, 1) := by decide +kernel
theorem fW_law_381 : decode (m_cc M_W_law) 381 = .ok (.aload_n 3, 1) := by decide +kernel
theorem fW_law_382 : decode (m_cc M_W_law) 382 = .ok (.invokestatic 91, 3) := by decide +kernel
theorem fW_law_385 : decode (m_cc M_W_law) 385 = .ok (.istore 5, 2) := by decide +kernel
theorem fW_law_387 : decode (m_cc M_W_law) 387 = .ok (.aload_n 2, 1) := by decide +kernel
theorem fW_law_388 : decode (m_cc M_W_law) 388 = .ok (.aload_n 0, 1) := by decide +kernel
theorem fW_law_389 : decode (m_cc M_W_law) 389 = .ok (.iload 4, 2) := by decide +kernel
theorem fW_law_391 : decode (m_cc M_W_law) 391 = .ok (.iconst 1, 1) := by decide +kernel
theorem fW_law_392 : decode (m_cc M_W_law) 392 = .ok (.iadd, 1) := by decide +kernel
theorem fW_law_393 : decode (m_cc M_W_law) 393 = .ok (.iaload, 1) := by decide +kernel
theorem fW_law_394 : decode (m_cc M_W_law) 394 = .ok (.aload_n 0, 1) := by decide +kernel
theorem fW_law_395 : decode (m_cc M_W_law) 395 = .ok (.iload 4, 2) := by decide +kernel
theorem fW_law_397 : decode (m_cc M_W_law) 397 = .ok (.iconst 2, 1) := by decide +kernel
theorem fW_law_398 : decode (m_cc M_W_law) 398 = .ok (.iadd, 1) := by decide +kernel
theorem fW_law_399 : decode (m_cc M_W_law) 399 = .ok (.iaload, 1) := by decide +kernel
theorem fW_law_400 : decode (m_cc M_W_law) 400 = .ok (.invokevirtual 93, 3) := by decide +kernel
theorem fW_law_403 : decode (m_cc M_W_law) 403 = .ok (.istore 6, 2) := by decide +kernel
theorem fW_law_405 : decode (m_cc M_W_law) 405 = .ok (.aload_n 2, 1) := by decide +kernel
theorem fW_law_406 : decode (m_cc M_W_law) 406 = .ok (.invokevirtual 80, 3) := by decide +kernel
theorem fW_law_409 : decode (m_cc M_W_law) 409 = .ok (.iload 5, 2) := by decide +kernel
theorem fW_law_411 : decode (m_cc M_W_law) 411 = .ok (.if_icmp .eq 5, 3) := by decide +kernel
theorem fW_law_414 : decode (m_cc M_W_law) 414 = .ok (.iconst 0, 1) := by decide +kernel
theorem fW_law_415 : decode (m_cc M_W_law) 415 = .ok (.ireturn, 1) := by decide +kernel
theorem fW_law_416 : decode (m_cc M_W_law) 416 = .ok (.iload 5, 2) := by decide +kernel
theorem fW_law_418 : decode (m_cc M_W_law) 418 = .ok (.ifCond .ne 15, 3) := by decide +kernel
theorem fW_law_421 : decode (m_cc M_W_law) 421 = .ok (.aload_n 3, 1) := by decide +kernel
theorem fW_law_422 : decode (m_cc M_W_law) 422 = .ok (.iconst 0, 1) := by decide +kernel
theorem fW_law_423 : decode (m_cc M_W_law) 423 = .ok (.laload, 1) := by decide +kernel
theorem fW_law_424 : decode (m_cc M_W_law) 424 = .ok (.iload 6, 2) := by decide +kernel
theorem fW_law_426 : decode (m_cc M_W_law) 426 = .ok (.i2l, 1) := by decide +kernel
theorem fW_law_427 : decode (m_cc M_W_law) 427 = .ok (.lcmp, 1) := by decide +kernel
theorem fW_law_428 : decode (m_cc M_W_law) 428 = .ok (.ifCond .eq 5, 3) := by decide +kernel
theorem fW_law_431 : decode (m_cc M_W_law) 431 = .ok (.iconst 0, 1) := by decide +kernel
theorem fW_law_432 : decode (m_cc M_W_law) 432 = .ok (.ireturn, 1) := by decide +kernel
