theorem d_law_law_213 : decode code 213 = .ok (.iconst 1, 1) := by decide +kernel
theorem d_law_law_214 : decode code 214 = .ok (.iadd, 1) := by decide +kernel
theorem d_law_law_215 : decode code 215 = .ok (.iaload, 1) := by decide +kernel
theorem d_law_law_216 : decode code 216 = .ok (.invokevirtual 32, 3) := by decide +kernel
theorem d_law_law_219 : decode code 219 = .ok (.if_icmp .eq 220, 3) := by decide +kernel
theorem d_law_law_224 : decode code 224 = .ok (.aload_n 1, 1) := by decide +kernel
theorem d_law_law_225 : decode code 225 = .ok (.aload_n 0, 1) := by decide +kernel
theorem d_law_law_226 : decode code 226 = .ok (.iload_n 3, 1) := by decide +kernel
theorem d_law_law_227 : decode code 227 = .ok (.iconst 1, 1) := by decide +kernel
theorem d_law_law_228 : decode code 228 = .ok (.iadd, 1) := by decide +kernel
theorem d_law_law_229 : decode code 229 = .ok (.iaload, 1) := by decide +kernel
theorem d_law_law_230 : decode code 230 = .ok (.invokevirtual 33, 3) := by decide +kernel
theorem d_law_law_233 : decode code 233 = .ok (.aload_n 2, 1) := by decide +kernel
theorem d_law_law_234 : decode code 234 = .ok (.aload_n 0, 1) := by decide +kernel
theorem d_law_law_235 : decode code 235 = .ok (.iload_n 3, 1) := by decide +kernel
theorem d_law_law_236 : decode code 236 = .ok (.iconst 1, 1) := by decide +kernel
theorem d_law_law_237 : decode code 237 = .ok (.iadd, 1) := by decide +kernel
theorem d_law_law_238 : decode code 238 = .ok (.iaload, 1) := by decide +kernel
theorem d_law_law_239 : decode code 239 = .ok (.invokevirtual 36, 3) := by decide +kernel
theorem d_law_law_242 : decode code 242 = .ok (.if_icmp .eq 197, 3) := by decide +kernel
theorem d_law_law_247 : decode code 247 = .ok (.aload_n 1, 1) := by decide +kernel
theorem d_law_law_248 : decode code 248 = .ok (.aload_n 0, 1) := by decide +kernel
theorem d_law_law_249 : decode code 249 = .ok (.iload_n 3, 1) := by decide +kernel
theorem d_law_law_250 : decode code 250 = .ok (.iconst 1, 1) := by decide +kernel
theorem d_law_law_251 : decode code 251 = .ok (.iadd, 1) := by decide +kernel
theorem d_law_law_252 : decode code 252 = .ok (.iaload, 1) := by decide +kernel
theorem d_law_law_253 : decode code 253 = .ok (.aload_n 0, 1) := by decide +kernel
theorem d_law_law_254 : decode code 254 = .ok (.iload_n 3, 1) := by decide +kernel
theorem d_law_law_255 : decode code 255 = .ok (.iconst 2, 1) := by decide +kernel
theorem d_law_law_256 : decode code 256 = .ok (.iadd, 1) := by decide +kernel
theorem d_law_law_257 : decode code 257 = .ok (.iaload, 1) := by decide +kernel
theorem d_law_law_258 : decode code 258 = .ok (.invokevirtual 37, 3) := by decide +kernel
theorem d_law_law_261 : decode code 261 = .ok (.aload_n 2, 1) := by decide +kernel
theorem d_law_law_262 : decode code 262 = .ok (.aload_n 0, 1) := by decide +kernel
theorem d_law_law_263 : decode code 263 = .ok (.iload_n 3, 1) := by decide +kernel
theorem d_law_law_264 : decode code 264 = .ok (.iconst 1, 1) := by decide +kernel
theorem d_law_law_265 : decode code 265 = .ok (.iadd, 1) := by decide +kernel
theorem d_law_law_266 : decode code 266 = .ok (.iaload, 1) := by decide +kernel
theorem d_law_law_267 : decode code 267 = .ok (.aload_n 0, 1) := by decide +kernel
theorem d_law_law_268 : decode code 268 = .ok (.iload_n 3, 1) := by decide +kernel
theorem d_law_law_269 : decode code 269 = .ok (.iconst 2, 1) := by decide +kernel
theorem d_law_law_270 : decode code 270 = .ok (.iadd, 1) := by decide +kernel
theorem d_law_law_271 : decode code 271 = .ok (.iaload, 1) := by decide +kernel
theorem d_law_law_272 : decode code 272 = .ok (.invokevirtual 41, 3) := by decide +kernel
theorem d_law_law_275 : decode code 275 = .ok (.if_icmp .eq 164, 3) := by decide +kernel
theorem d_law_law_280 : decode code 280 = .ok (.aload_n 1, 1) := by decide +kernel
theorem d_law_law_281 : decode code 281 = .ok (.aload_n 0, 1) := by decide +kernel
theorem d_law_law_282 : decode code 282 = .ok (.iload_n 3, 1) := by decide +kernel
theorem d_law_law_283 : decode code 283 = .ok (.iconst 1, 1) := by decide +kernel
theorem d_law_law_284 : decode code 284 = .ok (.iadd, 1) := by decide +kernel
theorem d_law_law_285 : decode code 285 = .ok (.iaload, 1) := by decide +kernel
theorem d_law_law_286 : decode code 286 = .ok (.aload_n 0, 1) := by decide +kernel
theorem d_law_law_287 : decode code 287 = .ok (.iload_n 3, 1) := by decide +kernel
theorem d_law_law_288 : decode code 288 = .ok (.iconst 2, 1) := by decide +kernel
theorem d_law_law_289 : decode code 289 = .ok (.iadd, 1) := by decide +kernel
theorem d_law_law_290 : decode code 290 = .ok (.iaload, 1) := by decide +kernel
theorem d_law_law_291 : decode code 291 = .ok (.invokevirtual 42, 3) := by decide +kernel
theorem d_law_law_294 : decode code 294 = .ok (.aload_n 2, 1) := by decide +kernel
theorem d_law_law_295 : decode code 295 = .ok (.aload_n 0, 1) := by decide +kernel
theorem d_law_law_296 : decode code 296 = .ok (.iload_n 3, 1) := by decide +kernel
theorem d_law_law_297 : decode code 297 = .ok (.iconst 1, 1) := by decide +kernel
theorem d_law_law_298 : decode code 298 = .ok (.iadd, 1) := by decide +kernel
theorem d_law_law_299 : decode code 299 = .ok (.iaload, 1) := by decide +kernel
theorem d_law_law_300 : decode code 300 = .ok (.aload_n 0, 1) := by decide +kernel
theorem d_law_law_301 : decode code 301 = .ok (.iload_n 3, 1) := by decide +kernel
theorem d_law_law_302 : decode code 302 = .ok (.iconst 2, 1) := by decide +kernel
theorem d_law_law_303 : decode code 303 = .ok (.iadd, 1) := by decide +kernel
theorem d_law_law_304 : decode code 304 = .ok (.iaload, 1) := by decide +kernel
theorem d_law_law_305 : decode code 305 = .ok (.invokevirtual 45, 3) := by decide +kernel
theorem d_law_law_308 : decode code 308 = .ok (.if_icmp .eq 131, 3) := by decide +kernel
theorem d_law_law_313 : decode code 313 = .ok (.aload_n 1, 1) := by decide +kernel
theorem d_law_law_314 : decode code 314 = .ok (.aload_n 0, 1) := by decide +kernel
theorem d_law_law_315 : decode code 315 = .ok (.iload_n 3, 1) := by decide +kernel
theorem d_law_law_316 : decode code 316 = .ok (.iconst 1, 1) := by decide +kernel
theorem d_law_law_317 : decode code 317 = .ok (.iadd, 1) := by decide +kernel
theorem d_law_law_318 : decode code 318 = .ok (.iaload, 1) := by decide +kernel
theorem d_law_law_319 : decode code 319 = .ok (.invokevirtual 46, 3) := by decide +kernel
theorem d_law_law_322 : decode code 322 = .ok (.aload_n 2, 1) := by decide +kernel
theorem d_law_law_323 : decode code 323 = .ok (.aload_n 0, 1) := by decide +kernel
theorem d_law_law_324 : decode code 324 = .ok (.iload_n 3, 1) := by decide +kernel
theorem d_law_law_325 : decode code 325 = .ok (.iconst 1, 1) := by decide +kernel
theorem d_law_law_326 : decode code 326 = .ok (.iadd, 1) := by decide +kernel
theorem d_law_law_327 : decode code 327 = .ok (.iaload, 1) := by decide +kernel
theorem d_law_law_328 : decode code 328 = .ok (.invokevirtual 50, 3) := by decide +kernel
theorem d_law_law_331 : decode code 331 = .ok (.if_icmp .eq 108, 3) := by decide +kernel
theorem d_law_law_336 : decode code 336 = .ok (.aload_n 1, 1) := by decide +kernel
theorem d_law_law_337 : decode code 337 = .ok (.aload_n 0, 1) := by decide +kernel
theorem d_law_law_338 : decode code 338 = .ok (.iload_n 3, 1) := by decide +kernel
theorem d_law_law_339 : decode code 339 = .ok (.iconst 1, 1) := by decide +kernel
theorem d_law_law_340 : decode code 340 = .ok (.iadd, 1) := by decide +kernel
theorem d_law_law_341 : decode code 341 = .ok (.iaload, 1) := by decide +kernel
theorem d_law_law_342 : decode code 342 = .ok (.aload_n 0, 1) := by decide +kernel
theorem d_law_law_343 : decode code 343 = .ok (.iload_n 3, 1) := by decide +kernel
theorem d_law_law_344 : decode code 344 = .ok (.iconst 2, 1) := by decide +kernel
theorem d_law_law_345 : decode code 345 = .ok (.iadd, 1) := by decide +kernel
theorem d_law_law_346 : decode code 346 = .ok (.iaload, 1) := by decide +kernel
theorem d_law_law_347 : decode code 347 = .ok (.aload_n 0, 1) := by decide +kernel
theorem d_law_law_348 : decode code 348 = .ok (.iload_n 3, 1) := by decide +kernel
theorem d_law_law_349 : decode code 349 = .ok (.iconst 3, 1) := by decide +kernel
theorem d_law_law_350 : decode code 350 = .ok (.iadd, 1) := by decide +kernel
theorem d_law_law_351 : decode code 351 = .ok (.iaload, 1) := by decide +kernel
theorem d_law_law_352 : decode code 352 = .ok (.invokevirtual 51, 3) := by decide +kernel
theorem d_law_law_355 : decode code 355 = .ok (.aload_n 2, 1) := by decide +kernel
theorem d_law_law_356 : decode code 356 = .ok (.aload_n 0, 1) := by decide +kernel
theorem d_law_law_357 : decode code 357 = .ok (.iload_n 3, 1) := by decide +kernel
theorem d_law_law_358 : decode code 358 = .ok (.iconst 1, 1) := by decide +kernel
theorem d_law_law_359 : decode code 359 = .ok (.iadd, 1) := by decide +kernel
theorem d_law_law_360 : decode code 360 = .ok (.iaload, 1) := by decide +kernel
theorem d_law_law_361 : decode code 361 = .ok (.aload_n 0, 1) := by decide +kernel
theorem d_law_law_362 : decode code 362 = .ok (.iload_n 3, 1) := by decide +kernel
theorem d_law_law_363 : decode code 363 = .ok (.iconst 2, 1) := by decide +kernel
theorem d_law_law_364 : decode code 364 = .ok (.iadd, 1) := by decide +kernel
theorem d_law_law_365 : decode code 365 = .ok (.iaload, 1) := by decide +kernel
theorem d_law_law_366 : decode code 366 = .ok (.aload_n 0, 1) := by decide +kernel
theorem d_law_law_367 : decode code 367 = .ok (.iload_n 3, 1) := by decide +kernel
theorem d_law_law_368 : decode code 368 = .ok (.iconst 3, 1) := by decide +kernel
theorem d_law_law_369 : decode code 369 = .ok (.iadd, 1) := by decide +kernel
theorem d_law_law_370 : decode code 370 = .ok (.iaload, 1) := by decide +kernel
theorem d_law_law_371 : decode code 371 = .ok (.invokevirtual 54, 3) := by decide +kernel
theorem d_law_law_374 : decode code 374 = .ok (.if_icmp .eq 65, 3) := by decide +kernel
theorem d_law_law_379 : decode code 379 = .ok (.aload_n 1, 1) := by decide +kernel
theorem d_law_law_380 : decode code 380 = .ok (.invokevirtual 55, 3) := by decide +kernel
theorem d_law_law_383 : decode code 383 = .ok (.aload_n 2, 1) := by decide +kernel
theorem d_law_law_384 : decode code 384 = .ok (.invokevirtual 58, 3) := by decide +kernel
theorem d_law_law_387 : decode code 387 = .ok (.if_icmp .eq 52, 3) := by decide +kernel
theorem d_law_law_392 : decode code 392 = .ok (.aload_n 1, 1) := by decide +kernel
theorem d_law_law_393 : decode code 393 = .ok (.aload_n 0, 1) := by decide +kernel
theorem d_law_law_394 : decode code 394 = .ok (.iload_n 3, 1) := by decide +kernel
theorem d_law_law_395 : decode code 395 = .ok (.iconst 1, 1) := by decide +kernel
theorem d_law_law_396 : decode code 396 = .ok (.iadd, 1) := by decide +kernel
theorem d_law_law_397 : decode code 397 = .ok (.iaload, 1) := by decide +kernel
theorem d_law_law_398 : decode code 398 = .ok (.invokevirtual 59, 3) := by decide +kernel
theorem d_law_law_401 : decode code 401 = .ok (.aload_n 2, 1) := by decide +kernel
theorem d_law_law_402 : decode code 402 = .ok (.aload_n 0, 1) := by decide +kernel
theorem d_law_law_403 : decode code 403 = .ok (.iload_n 3, 1) := by decide +kernel
theorem d_law_law_404 : decode code 404 = .ok (.iconst 1, 1) := by decide +kernel
theorem d_law_law_405 : decode code 405 = .ok (.iadd, 1) := by decide +kernel
theorem d_law_law_406 : decode code 406 = .ok (.iaload, 1) := by decide +kernel
theorem d_law_law_407 : decode code 407 = .ok (.invokevirtual 63, 3) := by decide +kernel
theorem d_law_law_410 : decode code 410 = .ok (.lcmp, 1) := by decide +kernel
theorem d_law_law_411 : decode code 411 = .ok (.ifCond .eq 28, 3) := by decide +kernel
theorem d_law_law_416 : decode code 416 = .ok (.aload_n 1, 1) := by decide +kernel
theorem d_law_law_417 : decode code 417 = .ok (.aload_n 0, 1) := by decide +kernel
theorem d_law_law_418 : decode code 418 = .ok (.iload_n 3, 1) := by decide +kernel
theorem d_law_law_419 : decode code 419 = .ok (.iconst 1, 1) := by decide +kernel
theorem d_law_law_420 : decode code 420 = .ok (.iadd, 1) := by decide +kernel
theorem d_law_law_421 : decode code 421 = .ok (.iaload, 1) := by decide +kernel
theorem d_law_law_422 : decode code 422 = .ok (.invokevirtual 64, 3) := by decide +kernel
theorem d_law_law_425 : decode code 425 = .ok (.aload_n 2, 1) := by decide +kernel
theorem d_law_law_426 : decode code 426 = .ok (.aload_n 0, 1) := by decide +kernel
theorem d_law_law_427 : decode code 427 = .ok (.iload_n 3, 1) := by decide +kernel
theorem d_law_law_428 : decode code 428 = .ok (.iconst 1, 1) := by decide +kernel
theorem d_law_law_429 : decode code 429 = .ok (.iadd, 1) := by decide +kernel
theorem d_law_law_430 : decode code 430 = .ok (.iaload, 1) := by decide +kernel
theorem d_law_law_431 : decode code 431 = .ok (.invokevirtual 67, 3) := by decide +kernel
theorem d_law_law_434 : decode code 434 = .ok (.if_icmp .eq 5, 3) := by decide +kernel
theorem d_law_law_439 : decode code 439 = .ok (.iinc 3 4, 3) := by decide +kernel
theorem d_law_law_442 : decode code 442 = .ok (.goto (-424), 3) := by decide +kernel
theorem d_law_law_445 : decode code 445 = .ok (.iconst 1, 1) := by decide +kernel
theorem d_law_law_446 : decode code 446 = .ok (.ireturn, 1) := by decide +kernel
