theorem d_MC_mayBeConstant_48 : decode b_MC_mayBeConstant 48 = .ok (.bipush 11, 2) := by decide +kernel
theorem d_MC_mayBeConstant_50 : decode b_MC_mayBeConstant 50 = .ok (.if_icmp .eq 29, 3) := by decide +kernel
theorem d_MC_mayBeConstant_53 : decode b_MC_mayBeConstant 53 = .ok (.iload_n 1, 1) := by decide +kernel
theorem d_MC_mayBeConstant_54 : decode b_MC_mayBeConstant 54 = .ok (.bipush 65, 2) := by decide +kernel
theorem d_MC_mayBeConstant_56 : decode b_MC_mayBeConstant 56 = .ok (.if_icmp .lt 9, 3) := by decide +kernel
theorem d_MC_mayBeConstant_59 : decode b_MC_mayBeConstant 59 = .ok (.iload_n 1, 1) := by decide +kernel
theorem d_MC_mayBeConstant_60 : decode b_MC_mayBeConstant 60 = .ok (.bipush 68, 2) := by decide +kernel
theorem d_MC_mayBeConstant_62 : decode b_MC_mayBeConstant 62 = .ok (.if_icmp .le 17, 3) := by decide +kernel
theorem d_MC_mayBeConstant_65 : decode b_MC_mayBeConstant 65 = .ok (.iload_n 1, 1) := by decide +kernel
theorem d_MC_mayBeConstant_66 : decode b_MC_mayBeConstant 66 = .ok (.sipush 208, 3) := by decide +kernel
theorem d_MC_mayBeConstant_69 : decode b_MC_mayBeConstant 69 = .ok (.if_icmp .eq 10, 3) := by decide +kernel
theorem d_MC_mayBeConstant_72 : decode b_MC_mayBeConstant 72 = .ok (.iload_n 1, 1) := by decide +kernel
theorem d_MC_mayBeConstant_73 : decode b_MC_mayBeConstant 73 = .ok (.sipush 210, 3) := by decide +kernel
theorem d_MC_mayBeConstant_76 : decode b_MC_mayBeConstant 76 = .ok (.if_icmp .ne 7, 3) := by decide +kernel
theorem d_MC_mayBeConstant_79 : decode b_MC_mayBeConstant 79 = .ok (.iconst 1, 1) := by decide +kernel
theorem d_MC_mayBeConstant_80 : decode b_MC_mayBeConstant 80 = .ok (.goto 4, 3) := by decide +kernel
theorem d_MC_mayBeConstant_83 : decode b_MC_mayBeConstant 83 = .ok (.iconst 0, 1) := by decide +kernel
theorem d_MC_mayBeConstant_84 : decode b_MC_mayBeConstant 84 = .ok (.ireturn, 1) := by decide +kernel
theorem d_MC_has_0 : decode b_MC_has 0 = .ok (.iload_n 2, 1) := by decide +kernel
theorem d_MC_has_1 : decode b_MC_has 1 = .ok (.i2l, 1) := by decide +kernel
theorem d_MC_has_2 : decode b_MC_has 2 = .ok (.ldc2_w 83, 3) := by decide +kernel
theorem d_MC_has_5 : decode b_MC_has 5 = .ok (.land, 1) := by decide +kernel
theorem d_MC_has_6 : decode b_MC_has 6 = .ok (.aload_n 0, 1) := by decide +kernel
theorem d_MC_has_7 : decode b_MC_has 7 = .ok (.getfield 22, 3) := by decide +kernel
theorem d_MC_has_10 : decode b_MC_has 10 = .ok (.iload_n 1, 1) := by decide +kernel
theorem d_MC_has_11 : decode b_MC_has 11 = .ok (.iaload, 1) := by decide +kernel
theorem d_MC_has_12 : decode b_MC_has 12 = .ok (.i2l, 1) := by decide +kernel
theorem d_MC_has_13 : decode b_MC_has 13 = .ok (.lcmp, 1) := by decide +kernel
theorem d_MC_has_14 : decode b_MC_has 14 = .ok (.ifCond .ge 7, 3) := by decide +kernel
theorem d_MC_has_17 : decode b_MC_has 17 = .ok (.iconst 1, 1) := by decide +kernel
theorem d_MC_has_18 : decode b_MC_has 18 = .ok (.goto 4, 3) := by decide +kernel
theorem d_MC_has_21 : decode b_MC_has 21 = .ok (.iconst 0, 1) := by decide +kernel
theorem d_MC_has_22 : decode b_MC_has 22 = .ok (.ireturn, 1) := by decide +kernel
theorem d_MC_isThere_0 : decode b_MC_isThere 0 = .ok (.iload_n 1, 1) := by decide +kernel
theorem d_MC_isThere_1 : decode b_MC_isThere 1 = .ok (.lookupswitch 402 #[(2, 203), (3, 203), (4, 203), (12, 217), (13, 217), (14, 223), (16, 277), (17, 284), (32, 311), (33, 311), (34, 311), (35, 326), (36, 326), (37, 333), (38, 333), (210, 277), (264, 340), (265, 340), (268, 347), (269, 371), (270, 378), (271, 333), (272, 333), (273, 333)], 203) := by decide +kernel
theorem d_MC_isThere_204 : decode b_MC_isThere 204 = .ok (.iload_n 2, 1) := by decide +kernel
theorem d_MC_isThere_205 : decode b_MC_isThere 205 = .ok (.aload_n 0, 1) := by decide +kernel
theorem d_MC_isThere_206 : decode b_MC_isThere 206 = .ok (.getfield 73, 3) := by decide +kernel
theorem d_MC_isThere_209 : decode b_MC_isThere 209 = .ok (.if_icmp .ge 7, 3) := by decide +kernel
theorem d_MC_isThere_212 : decode b_MC_isThere 212 = .ok (.iconst 1, 1) := by decide +kernel
theorem d_MC_isThere_213 : decode b_MC_isThere 213 = .ok (.goto 4, 3) := by decide +kernel
theorem d_MC_isThere_216 : decode b_MC_isThere 216 = .ok (.iconst 0, 1) := by decide +kernel
theorem d_MC_isThere_217 : decode b_MC_isThere 217 = .ok (.ireturn, 1) := by decide +kernel
theorem d_MC_isThere_218 : decode b_MC_isThere 218 = .ok (.aload_n 0, 1) := by decide +kernel
theorem d_MC_isThere_219 : decode b_MC_isThere 219 = .ok (.iload_n 2, 1) := by decide +kernel
theorem d_MC_isThere_220 : decode b_MC_isThere 220 = .ok (.invokevirtual 182, 3) := by decide +kernel
theorem d_MC_isThere_223 : decode b_MC_isThere 223 = .ok (.ireturn, 1) := by decide +kernel
theorem d_MC_isThere_224 : decode b_MC_isThere 224 = .ok (.aload_n 0, 1) := by decide +kernel
theorem d_MC_isThere_225 : decode b_MC_isThere 225 = .ok (.iload_n 2, 1) := by decide +kernel
theorem d_MC_isThere_226 : decode b_MC_isThere 226 = .ok (.invokevirtual 182, 3) := by decide +kernel
theorem d_MC_isThere_229 : decode b_MC_isThere 229 = .ok (.istore 4, 2) := by decide +kernel
theorem d_MC_isThere_231 : decode b_MC_isThere 231 = .ok (.iconst 0, 1) := by decide +kernel
theorem d_MC_isThere_232 : decode b_MC_isThere 232 = .ok (.istore 5, 2) := by decide +kernel
theorem d_MC_isThere_234 : decode b_MC_isThere 234 = .ok (.iload 5, 2) := by decide +kernel
theorem d_MC_isThere_236 : decode b_MC_isThere 236 = .ok (.aload_n 0, 1) := by decide +kernel
theorem d_MC_isThere_237 : decode b_MC_isThere 237 = .ok (.getfield 98, 3) := by decide +kernel
theorem d_MC_isThere_240 : decode b_MC_isThere 240 = .ok (.if_icmp .ge 35, 3) := by decide +kernel
theorem d_MC_isThere_243 : decode b_MC_isThere 243 = .ok (.iload 4, 2) := by decide +kernel
theorem d_MC_isThere_245 : decode b_MC_isThere 245 = .ok (.ifCond .eq 21, 3) := by decide +kernel
theorem d_MC_isThere_248 : decode b_MC_isThere 248 = .ok (.aload_n 0, 1) := by decide +kernel
theorem d_MC_isThere_249 : decode b_MC_isThere 249 = .ok (.aload_n 0, 1) := by decide +kernel
theorem d_MC_isThere_250 : decode b_MC_isThere 250 = .ok (.getfield 42, 3) := by decide +kernel
theorem d_MC_isThere_253 : decode b_MC_isThere 253 = .ok (.iload 5, 2) := by decide +kernel
theorem d_MC_isThere_255 : decode b_MC_isThere 255 = .ok (.iaload, 1) := by decide +kernel
theorem d_MC_isThere_256 : decode b_MC_isThere 256 = .ok (.invokevirtual 182, 3) := by decide +kernel
theorem d_MC_isThere_259 : decode b_MC_isThere 259 = .ok (.ifCond .eq 7, 3) := by decide +kernel
theorem d_MC_isThere_262 : decode b_MC_isThere 262 = .ok (.iconst 1, 1) := by decide +kernel
theorem d_MC_isThere_263 : decode b_MC_isThere 263 = .ok (.goto 4, 3) := by decide +kernel
theorem d_MC_isThere_266 : decode b_MC_isThere 266 = .ok (.iconst 0, 1) := by decide +kernel
theorem d_MC_isThere_267 : decode b_MC_isThere 267 = .ok (.istore 4, 2) := by decide +kernel
theorem d_MC_isThere_269 : decode b_MC_isThere 269 = .ok (.iinc 5 1, 3) := by decide +kernel
theorem d_MC_isThere_272 : decode b_MC_isThere 272 = .ok (.goto (-38), 3) := by decide +kernel
theorem d_MC_isThere_275 : decode b_MC_isThere 275 = .ok (.iload 4, 2) := by decide +kernel
theorem d_MC_isThere_277 : decode b_MC_isThere 277 = .ok (.ireturn, 1) := by decide +kernel
theorem d_MC_isThere_278 : decode b_MC_isThere 278 = .ok (.aload_n 0, 1) := by decide +kernel
theorem d_MC_isThere_279 : decode b_MC_isThere 279 = .ok (.iconst 0, 1) := by decide +kernel
theorem d_MC_isThere_280 : decode b_MC_isThere 280 = .ok (.iload_n 2, 1) := by decide +kernel
theorem d_MC_isThere_281 : decode b_MC_isThere 281 = .ok (.invokevirtual 178, 3) := by decide +kernel
theorem d_MC_isThere_284 : decode b_MC_isThere 284 = .ok (.ireturn, 1) := by decide +kernel
theorem d_MC_isThere_285 : decode b_MC_isThere 285 = .ok (.iload_n 2, 1) := by decide +kernel
theorem d_MC_isThere_286 : decode b_MC_isThere 286 = .ok (.ifCond .lt 24, 3) := by decide +kernel
theorem d_MC_isThere_289 : decode b_MC_isThere 289 = .ok (.iload_n 2, 1) := by decide +kernel
theorem d_MC_isThere_290 : decode b_MC_isThere 290 = .ok (.aload_n 0, 1) := by decide +kernel
theorem d_MC_isThere_291 : decode b_MC_isThere 291 = .ok (.getfield 73, 3) := by decide +kernel
theorem d_MC_isThere_294 : decode b_MC_isThere 294 = .ok (.if_icmp .ge 16, 3) := by decide +kernel
theorem d_MC_isThere_297 : decode b_MC_isThere 297 = .ok (.aload_n 0, 1) := by decide +kernel
theorem d_MC_isThere_298 : decode b_MC_isThere 298 = .ok (.iconst 1, 1) := by decide +kernel
theorem d_MC_isThere_299 : decode b_MC_isThere 299 = .ok (.iload_n 3, 1) := by decide +kernel
theorem d_MC_isThere_300 : decode b_MC_isThere 300 = .ok (.invokevirtual 178, 3) := by decide +kernel
theorem d_MC_isThere_303 : decode b_MC_isThere 303 = .ok (.ifCond .eq 7, 3) := by decide +kernel
theorem d_MC_isThere_306 : decode b_MC_isThere 306 = .ok (.iconst 1, 1) := by decide +kernel
theorem d_MC_isThere_307 : decode b_MC_isThere 307 = .ok (.goto 4, 3) := by decide +kernel
theorem d_MC_isThere_310 : decode b_MC_isThere 310 = .ok (.iconst 0, 1) := by decide +kernel
theorem d_MC_isThere_311 : decode b_MC_isThere 311 = .ok (.ireturn, 1) := by decide +kernel
theorem d_MC_isThere_312 : decode b_MC_isThere 312 = .ok (.aload_n 0, 1) := by decide +kernel
theorem d_MC_isThere_313 : decode b_MC_isThere 313 = .ok (.iload_n 2, 1) := by decide +kernel
theorem d_MC_isThere_314 : decode b_MC_isThere 314 = .ok (.invokevirtual 185, 3) := by decide +kernel
theorem d_MC_isThere_317 : decode b_MC_isThere 317 = .ok (.iconst (-1), 1) := by decide +kernel
theorem d_MC_isThere_318 : decode b_MC_isThere 318 = .ok (.if_icmp .eq 7, 3) := by decide +kernel
theorem d_MC_isThere_321 : decode b_MC_isThere 321 = .ok (.iconst 1, 1) := by decide +kernel
theorem d_MC_isThere_322 : decode b_MC_isThere 322 = .ok (.goto 4, 3) := by decide +kernel
theorem d_MC_isThere_325 : decode b_MC_isThere 325 = .ok (.iconst 0, 1) := by decide +kernel
theorem d_MC_isThere_326 : decode b_MC_isThere 326 = .ok (.ireturn, 1) := by decide +kernel
theorem d_MC_isThere_327 : decode b_MC_isThere 327 = .ok (.aload_n 0, 1) := by decide +kernel
theorem d_MC_isThere_328 : decode b_MC_isThere 328 = .ok (.iconst 3, 1) := by decide +kernel
theorem d_MC_isThere_329 : decode b_MC_isThere 329 = .ok (.iload_n 2, 1) := by decide +kernel
theorem d_MC_isThere_330 : decode b_MC_isThere 330 = .ok (.invokevirtual 178, 3) := by decide +kernel
theorem d_MC_isThere_333 : decode b_MC_isThere 333 = .ok (.ireturn, 1) := by decide +kernel
theorem d_MC_isThere_334 : decode b_MC_isThere 334 = .ok (.aload_n 0, 1) := by decide +kernel
theorem d_MC_isThere_335 : decode b_MC_isThere 335 = .ok (.iconst 1, 1) := by decide +kernel
theorem d_MC_isThere_336 : decode b_MC_isThere 336 = .ok (.iload_n 2, 1) := by decide +kernel
theorem d_MC_isThere_337 : decode b_MC_isThere 337 = .ok (.invokevirtual 178, 3) := by decide +kernel
theorem d_MC_isThere_340 : decode b_MC_isThere 340 = .ok (.ireturn, 1) := by decide +kernel
theorem d_MC_isThere_341 : decode b_MC_isThere 341 = .ok (.aload_n 0, 1) := by decide +kernel
theorem d_MC_isThere_342 : decode b_MC_isThere 342 = .ok (.iconst 5, 1) := by decide +kernel
theorem d_MC_isThere_343 : decode b_MC_isThere 343 = .ok (.iload_n 2, 1) := by decide +kernel
theorem d_MC_isThere_344 : decode b_MC_isThere 344 = .ok (.invokevirtual 178, 3) := by decide +kernel
theorem d_MC_isThere_347 : decode b_MC_isThere 347 = .ok (.ireturn, 1) := by decide +kernel
theorem d_MC_isThere_348 : decode b_MC_isThere 348 = .ok (.aload_n 0, 1) := by decide +kernel
theorem d_MC_isThere_349 : decode b_MC_isThere 349 = .ok (.iconst 4, 1) := by decide +kernel
theorem d_MC_isThere_350 : decode b_MC_isThere 350 = .ok (.iload_n 2, 1) := by decide +kernel
theorem d_MC_isThere_351 : decode b_MC_isThere 351 = .ok (.invokevirtual 178, 3) := by decide +kernel
theorem d_MC_isThere_354 : decode b_MC_isThere 354 = .ok (.ifCond .eq 16, 3) := by decide +kernel
theorem d_MC_isThere_357 : decode b_MC_isThere 357 = .ok (.aload_n 0, 1) := by decide +kernel
theorem d_MC_isThere_358 : decode b_MC_isThere 358 = .ok (.iconst 1, 1) := by decide +kernel
theorem d_MC_isThere_359 : decode b_MC_isThere 359 = .ok (.iload_n 3, 1) := by decide +kernel
theorem d_MC_isThere_360 : decode b_MC_isThere 360 = .ok (.invokevirtual 178, 3) := by decide +kernel
theorem d_MC_isThere_363 : decode b_MC_isThere 363 = .ok (.ifCond .eq 7, 3) := by decide +kernel
theorem d_MC_isThere_366 : decode b_MC_isThere 366 = .ok (.iconst 1, 1) := by decide +kernel
theorem d_MC_isThere_367 : decode b_MC_isThere 367 = .ok (.goto 4, 3) := by decide +kernel
theorem d_MC_isThere_370 : decode b_MC_isThere 370 = .ok (.iconst 0, 1) := by decide +kernel
theorem d_MC_isThere_371 : decode b_MC_isThere 371 = .ok (.ireturn, 1) := by decide +kernel
theorem d_MC_isThere_372 : decode b_MC_isThere 372 = .ok (.aload_n 0, 1) := by decide +kernel
theorem d_MC_isThere_373 : decode b_MC_isThere 373 = .ok (.iconst 4, 1) := by decide +kernel
theorem d_MC_isThere_374 : decode b_MC_isThere 374 = .ok (.iload_n 2, 1) := by decide +kernel
theorem d_MC_isThere_375 : decode b_MC_isThere 375 = .ok (.invokevirtual 178, 3) := by decide +kernel
theorem d_MC_isThere_378 : decode b_MC_isThere 378 = .ok (.ireturn, 1) := by decide +kernel
theorem d_MC_isThere_379 : decode b_MC_isThere 379 = .ok (.aload_n 0, 1) := by decide +kernel
theorem d_MC_isThere_380 : decode b_MC_isThere 380 = .ok (.iconst 1, 1) := by decide +kernel
theorem d_MC_isThere_381 : decode b_MC_isThere 381 = .ok (.iload_n 2, 1) := by decide +kernel
theorem d_MC_isThere_382 : decode b_MC_isThere 382 = .ok (.invokevirtual 178, 3) := by decide +kernel
theorem d_MC_isThere_385 : decode b_MC_isThere 385 = .ok (.ifCond .eq 16, 3) := by decide +kernel
theorem d_MC_isThere_388 : decode b_MC_isThere 388 = .ok (.aload_n 0, 1) := by decide +kernel
theorem d_MC_isThere_389 : decode b_MC_isThere 389 = .ok (.iconst 1, 1) := by decide +kernel
theorem d_MC_isThere_390 : decode b_MC_isThere 390 = .ok (.iload_n 3, 1) := by decide +kernel
theorem d_MC_isThere_391 : decode b_MC_isThere 391 = .ok (.invokevirtual 178, 3) := by decide +kernel
theorem d_MC_isThere_394 : decode b_MC_isThere 394 = .ok (.ifCond .eq 7, 3) := by decide +kernel
theorem d_MC_isThere_397 : decode b_MC_isThere 397 = .ok (.iconst 1, 1) := by decide +kernel
theorem d_MC_isThere_398 : decode b_MC_isThere 398 = .ok (.goto 4, 3) := by decide +kernel
theorem d_MC_isThere_401 : decode b_MC_isThere 401 = .ok (.iconst 0, 1) := by decide +kernel
theorem d_MC_isThere_402 : decode b_MC_isThere 402 = .ok (.ireturn, 1) := by decide +kernel
theorem d_MC_isThere_403 : decode b_MC_isThere 403 = .ok (.iconst 1, 1) := by decide +kernel
theorem d_MC_isThere_404 : decode b_MC_isThere 404 = .ok (.ireturn, 1) := by decide +kernel
theorem d_MC_localType_0 : decode b_MC_localType 0 = .ok (.iload_n 1, 1) := by decide +kernel
theorem d_MC_localType_1 : decode b_MC_localType 1 = .ok (.i2l, 1) := by decide +kernel
theorem d_MC_localType_2 : decode b_MC_localType 2 = .ok (.ldc2_w 83, 3) := by decide +kernel
theorem d_MC_localType_5 : decode b_MC_localType 5 = .ok (.land, 1) := by decide +kernel
theorem d_MC_localType_6 : decode b_MC_localType 6 = .ok (.lstore_n 2, 1) := by decide +kernel
theorem d_MC_localType_7 : decode b_MC_localType 7 = .ok (.iconst 0, 1) := by decide +kernel
theorem d_MC_localType_8 : decode b_MC_localType 8 = .ok (.istore 4, 2) := by decide +kernel
theorem d_MC_localType_10 : decode b_MC_localType 10 = .ok (.iload 4, 2) := by decide +kernel
theorem d_MC_localType_12 : decode b_MC_localType 12 = .ok (.aload_n 0, 1) := by decide +kernel
theorem d_MC_localType_13 : decode b_MC_localType 13 = .ok (.getfield 92, 3) := by decide +kernel
theorem d_MC_localType_16 : decode b_MC_localType 16 = .ok (.if_icmp .ge 39, 3) := by decide +kernel
theorem d_MC_localType_19 : decode b_MC_localType 19 = .ok (.lload_n 2, 1) := by decide +kernel
theorem d_MC_localType_20 : decode b_MC_localType 20 = .ok (.aload_n 0, 1) := by decide +kernel
theorem d_MC_localType_21 : decode b_MC_localType 21 = .ok (.getfield 38, 3) := by decide +kernel
theorem d_MC_localType_24 : decode b_MC_localType 24 = .ok (.iload 4, 2) := by decide +kernel
theorem d_MC_localType_26 : decode b_MC_localType 26 = .ok (.laload, 1) := by decide +kernel
theorem d_MC_localType_27 : decode b_MC_localType 27 = .ok (.lcmp, 1) := by decide +kernel
theorem d_MC_localType_28 : decode b_MC_localType 28 = .ok (.ifCond .ge 11, 3) := by decide +kernel
theorem d_MC_localType_31 : decode b_MC_localType 31 = .ok (.aload_n 0, 1) := by decide +kernel
theorem d_MC_localType_32 : decode b_MC_localType 32 = .ok (.getfield 35, 3) := by decide +kernel
theorem d_MC_localType_35 : decode b_MC_localType 35 = .ok (.iload 4, 2) := by decide +kernel
theorem d_MC_localType_37 : decode b_MC_localType 37 = .ok (.iaload, 1) := by decide +kernel
theorem d_MC_localType_38 : decode b_MC_localType 38 = .ok (.ireturn, 1) := by decide +kernel
theorem d_MC_localType_39 : decode b_MC_localType 39 = .ok (.lload_n 2, 1) := by decide +kernel
theorem d_MC_localType_40 : decode b_MC_localType 40 = .ok (.aload_n 0, 1) := by decide +kernel
theorem d_MC_localType_41 : decode b_MC_localType 41 = .ok (.getfield 38, 3) := by decide +kernel
theorem d_MC_localType_44 : decode b_MC_localType 44 = .ok (.iload 4, 2) := by decide +kernel
theorem d_MC_localType_46 : decode b_MC_localType 46 = .ok (.laload, 1) := by decide +kernel
theorem d_MC_localType_47 : decode b_MC_localType 47 = .ok (.lsub, 1) := by decide +kernel
theorem d_MC_localType_48 : decode b_MC_localType 48 = .ok (.lstore_n 2, 1) := by decide +kernel
theorem d_MC_localType_49 : decode b_MC_localType 49 = .ok (.iinc 4 1, 3) := by decide +kernel
theorem d_MC_localType_52 : decode b_MC_localType 52 = .ok (.goto (-42), 3) := by decide +kernel
theorem d_MC_localType_55 : decode b_MC_localType 55 = .ok (.iconst (-1), 1) := by decide +kernel
theorem d_MC_localType_56 : decode b_MC_localType 56 = .ok (.ireturn, 1) := by decide +kernel
theorem d_MC_isLabel_0 : decode b_MC_isLabel 0 = .ok (.iload_n 1, 1) := by decide +kernel
theorem d_MC_isLabel_1 : decode b_MC_isLabel 1 = .ok (.i2l, 1) := by decide +kernel
theorem d_MC_isLabel_2 : decode b_MC_isLabel 2 = .ok (.ldc2_w 83, 3) := by decide +kernel
theorem d_MC_isLabel_5 : decode b_MC_isLabel 5 = .ok (.land, 1) := by decide +kernel
theorem d_MC_isLabel_6 : decode b_MC_isLabel 6 = .ok (.aload_n 0, 1) := by decide +kernel
theorem d_MC_isLabel_7 : decode b_MC_isLabel 7 = .ok (.getfield 104, 3) := by decide +kernel
theorem d_MC_isLabel_10 : decode b_MC_isLabel 10 = .ok (.i2l, 1) := by decide +kernel
theorem d_MC_isLabel_11 : decode b_MC_isLabel 11 = .ok (.lcmp, 1) := by decide +kernel
theorem d_MC_isLabel_12 : decode b_MC_isLabel 12 = .ok (.ifCond .ge 7, 3) := by decide +kernel
theorem d_MC_isLabel_15 : decode b_MC_isLabel 15 = .ok (.iconst 1, 1) := by decide +kernel
theorem d_MC_isLabel_16 : decode b_MC_isLabel 16 = .ok (.goto 4, 3) := by decide +kernel
theorem d_MC_isLabel_19 : decode b_MC_isLabel 19 = .ok (.iconst 0, 1) := by decide +kernel
theorem d_MC_isLabel_20 : decode b_MC_isLabel 20 = .ok (.ireturn, 1) := by decide +kernel
theorem d_MC_require_0 : decode b_MC_require 0 = .ok (.iload_n 1, 1) := by decide +kernel
theorem d_MC_require_1 : decode b_MC_require 1 = .ok (.bipush 17, 2) := by decide +kernel
theorem d_MC_require_3 : decode b_MC_require 3 = .ok (.if_icmp .ne 20, 3) := by decide +kernel
theorem d_MC_require_6 : decode b_MC_require 6 = .ok (.aload_n 0, 1) := by decide +kernel
theorem d_MC_require_7 : decode b_MC_require 7 = .ok (.iconst 1, 1) := by decide +kernel
theorem d_MC_require_8 : decode b_MC_require 8 = .ok (.iload_n 3, 1) := by decide +kernel
theorem d_MC_require_9 : decode b_MC_require 9 = .ok (.invokevirtual 188, 3) := by decide +kernel
theorem d_MC_require_12 : decode b_MC_require 12 = .ok (.bipush 112, 2) := by decide +kernel
theorem d_MC_require_14 : decode b_MC_require 14 = .ok (.if_icmp .eq 9, 3) := by decide +kernel
theorem d_MC_require_17 : decode b_MC_require 17 = .ok (.aload_n 0, 1) := by decide +kernel
theorem d_MC_require_18 : decode b_MC_require 18 = .ok (.bipush 6, 2) := by decide +kernel
theorem d_MC_require_20 : decode b_MC_require 20 = .ok (.invokevirtual 146, 3) := by decide +kernel
theorem d_MC_require_23 : decode b_MC_require 23 = .ok (.iload_n 1, 1) := by decide +kernel
theorem d_MC_require_24 : decode b_MC_require 24 = .ok (.bipush 36, 2) := by decide +kernel
theorem d_MC_require_26 : decode b_MC_require 26 = .ok (.if_icmp .ne 21, 3) := by decide +kernel
theorem d_MC_require_29 : decode b_MC_require 29 = .ok (.aload_n 0, 1) := by decide +kernel
theorem d_MC_require_30 : decode b_MC_require 30 = .ok (.getfield 28, 3) := by decide +kernel
theorem d_MC_require_33 : decode b_MC_require 33 = .ok (.bipush 120, 2) := by decide +kernel
theorem d_MC_require_35 : decode b_MC_require 35 = .ok (.iload_n 2, 1) := by decide +kernel
theorem d_MC_require_36 : decode b_MC_require 36 = .ok (.iadd, 1) := by decide +kernel
theorem d_MC_require_37 : decode b_MC_require 37 = .ok (.iaload, 1) := by decide +kernel
theorem d_MC_require_38 : decode b_MC_require 38 = .ok (.ifCond .ne 9, 3) := by decide +kernel
theorem d_MC_require_41 : decode b_MC_require 41 = .ok (.aload_n 0, 1) := by decide +kernel
theorem d_MC_require_42 : decode b_MC_require 42 = .ok (.bipush 8, 2) := by decide +kernel
theorem d_MC_require_44 : decode b_MC_require 44 = .ok (.invokevirtual 146, 3) := by decide +kernel
theorem d_MC_require_47 : decode b_MC_require 47 = .ok (.iload_n 1, 1) := by decide +kernel
theorem d_MC_require_48 : decode b_MC_require 48 = .ok (.bipush 40, 2) := by decide +kernel
theorem d_MC_require_50 : decode b_MC_require 50 = .ok (.if_icmp .lt 9, 3) := by decide +kernel
theorem d_MC_require_53 : decode b_MC_require 53 = .ok (.iload_n 1, 1) := by decide +kernel
theorem d_MC_require_54 : decode b_MC_require 54 = .ok (.bipush 64, 2) := by decide +kernel
theorem d_MC_require_56 : decode b_MC_require 56 = .ok (.if_icmp .le 24, 3) := by decide +kernel
theorem d_MC_require_59 : decode b_MC_require 59 = .ok (.iload_n 1, 1) := by decide +kernel
theorem d_MC_require_60 : decode b_MC_require 60 = .ok (.sipush 264, 3) := by decide +kernel
theorem d_MC_require_63 : decode b_MC_require 63 = .ok (.if_icmp .eq 17, 3) := by decide +kernel
theorem d_MC_require_66 : decode b_MC_require 66 = .ok (.iload_n 1, 1) := by decide +kernel
theorem d_MC_require_67 : decode b_MC_require 67 = .ok (.sipush 266, 3) := by decide +kernel
theorem d_MC_require_70 : decode b_MC_require 70 = .ok (.if_icmp .eq 10, 3) := by decide +kernel
theorem d_MC_require_73 : decode b_MC_require 73 = .ok (.iload_n 1, 1) := by decide +kernel
theorem d_MC_require_74 : decode b_MC_require 74 = .ok (.sipush 267, 3) := by decide +kernel
theorem d_MC_require_77 : decode b_MC_require 77 = .ok (.if_icmp .ne 7, 3) := by decide +kernel
theorem d_MC_require_80 : decode b_MC_require 80 = .ok (.iconst 1, 1) := by decide +kernel
theorem d_MC_require_81 : decode b_MC_require 81 = .ok (.goto 4, 3) := by decide +kernel
theorem d_MC_require_84 : decode b_MC_require 84 = .ok (.iconst 0, 1) := by decide +kernel
theorem d_MC_require_85 : decode b_MC_require 85 = .ok (.istore 4, 2) := by decide +kernel
theorem d_MC_require_87 : decode b_MC_require 87 = .ok (.iload 4, 2) := by decide +kernel
theorem d_MC_require_89 : decode b_MC_require 89 = .ok (.ifCond .eq 18, 3) := by decide +kernel
theorem d_MC_require_92 : decode b_MC_require 92 = .ok (.aload_n 0, 1) := by decide +kernel
theorem d_MC_require_93 : decode b_MC_require 93 = .ok (.getfield 22, 3) := by decide +kernel
theorem d_MC_require_96 : decode b_MC_require 96 = .ok (.iconst 2, 1) := by decide +kernel
theorem d_MC_require_97 : decode b_MC_require 97 = .ok (.iaload, 1) := by decide +kernel
theorem d_MC_require_98 : decode b_MC_require 98 = .ok (.ifCond .ne 9, 3) := by decide +kernel
theorem d_MC_require_101 : decode b_MC_require 101 = .ok (.aload_n 0, 1) := by decide +kernel
theorem d_MC_require_102 : decode b_MC_require 102 = .ok (.bipush 9, 2) := by decide +kernel
theorem d_MC_require_104 : decode b_MC_require 104 = .ok (.invokevirtual 146, 3) := by decide +kernel
theorem d_MC_require_107 : decode b_MC_require 107 = .ok (.iload_n 1, 1) := by decide +kernel
theorem d_MC_require_108 : decode b_MC_require 108 = .ok (.bipush 40, 2) := by decide +kernel
theorem d_MC_require_110 : decode b_MC_require 110 = .ok (.if_icmp .lt 38, 3) := by decide +kernel
theorem d_MC_require_113 : decode b_MC_require 113 = .ok (.iload_n 1, 1) := by decide +kernel
theorem d_MC_require_114 : decode b_MC_require 114 = .ok (.bipush 62, 2) := by decide +kernel
theorem d_MC_require_116 : decode b_MC_require 116 = .ok (.if_icmp .gt 32, 3) := by decide +kernel
theorem d_MC_require_119 : decode b_MC_require 119 = .ok (.iload_n 2, 1) := by decide +kernel
theorem d_MC_require_120 : decode b_MC_require 120 = .ok (.i2l, 1) := by decide +kernel
theorem d_MC_require_121 : decode b_MC_require 121 = .ok (.ldc2_w 83, 3) := by decide +kernel
theorem d_MC_require_124 : decode b_MC_require 124 = .ok (.land, 1) := by decide +kernel
theorem d_MC_require_125 : decode b_MC_require 125 = .ok (.ldc2_w 191, 3) := by decide +kernel
theorem d_MC_require_128 : decode b_MC_require 128 = .ok (.lcmp, 1) := by decide +kernel
theorem d_MC_require_129 : decode b_MC_require 129 = .ok (.ifCond .gt 13, 3) := by decide +kernel
theorem d_MC_require_132 : decode b_MC_require 132 = .ok (.iconst 1, 1) := by decide +kernel
theorem d_MC_require_133 : decode b_MC_require 133 = .ok (.iload_n 2, 1) := by decide +kernel
theorem d_MC_require_134 : decode b_MC_require 134 = .ok (.ishl, 1) := by decide +kernel
theorem d_MC_require_135 : decode b_MC_require 135 = .ok (.iload_n 1, 1) := by decide +kernel
theorem d_MC_require_136 : decode b_MC_require 136 = .ok (.invokestatic 193, 3) := by decide +kernel
theorem d_MC_require_139 : decode b_MC_require 139 = .ok (.if_icmp .le 9, 3) := by decide +kernel
theorem d_MC_require_142 : decode b_MC_require 142 = .ok (.aload_n 0, 1) := by decide +kernel
theorem d_MC_require_143 : decode b_MC_require 143 = .ok (.bipush 10, 2) := by decide +kernel
theorem d_MC_require_145 : decode b_MC_require 145 = .ok (.invokevirtual 146, 3) := by decide +kernel
theorem d_MC_require_148 : decode b_MC_require 148 = .ok (.iload_n 1, 1) := by decide +kernel
theorem d_MC_require_149 : decode b_MC_require 149 = .ok (.sipush 210, 3) := by decide +kernel
theorem d_MC_require_152 : decode b_MC_require 152 = .ok (.if_icmp .ne 18, 3) := by decide +kernel
theorem d_MC_require_155 : decode b_MC_require 155 = .ok (.aload_n 0, 1) := by decide +kernel
theorem d_MC_require_156 : decode b_MC_require 156 = .ok (.getfield 31, 3) := by decide +kernel
theorem d_MC_require_159 : decode b_MC_require 159 = .ok (.iload_n 2, 1) := by decide +kernel
theorem d_MC_require_160 : decode b_MC_require 160 = .ok (.baload, 1) := by decide +kernel
theorem d_MC_require_161 : decode b_MC_require 161 = .ok (.ifCond .ne 9, 3) := by decide +kernel
theorem d_MC_require_164 : decode b_MC_require 164 = .ok (.aload_n 0, 1) := by decide +kernel
theorem d_MC_require_165 : decode b_MC_require 165 = .ok (.bipush 11, 2) := by decide +kernel
theorem d_MC_require_167 : decode b_MC_require 167 = .ok (.invokevirtual 146, 3) := by decide +kernel
theorem d_MC_require_170 : decode b_MC_require 170 = .ok (.iload_n 1, 1) := by decide +kernel
theorem d_MC_require_171 : decode b_MC_require 171 = .ok (.sipush 268, 3) := by decide +kernel
theorem d_MC_require_174 : decode b_MC_require 174 = .ok (.if_icmp .ne 24, 3) := by decide +kernel
theorem d_MC_require_177 : decode b_MC_require 177 = .ok (.aload_n 0, 1) := by decide +kernel
theorem d_MC_require_178 : decode b_MC_require 178 = .ok (.iconst 4, 1) := by decide +kernel
theorem d_MC_require_179 : decode b_MC_require 179 = .ok (.iload_n 2, 1) := by decide +kernel
theorem d_MC_require_180 : decode b_MC_require 180 = .ok (.invokevirtual 188, 3) := by decide +kernel
theorem d_MC_require_183 : decode b_MC_require 183 = .ok (.aload_n 0, 1) := by decide +kernel
theorem d_MC_require_184 : decode b_MC_require 184 = .ok (.iconst 1, 1) := by decide +kernel
theorem d_MC_require_185 : decode b_MC_require 185 = .ok (.iload_n 3, 1) := by decide +kernel
theorem d_MC_require_186 : decode b_MC_require 186 = .ok (.invokevirtual 188, 3) := by decide +kernel
theorem d_MC_require_189 : decode b_MC_require 189 = .ok (.if_icmp .eq 9, 3) := by decide +kernel
theorem d_MC_require_192 : decode b_MC_require 192 = .ok (.aload_n 0, 1) := by decide +kernel
theorem d_MC_require_193 : decode b_MC_require 193 = .ok (.bipush 6, 2) := by decide +kernel
theorem d_MC_require_195 : decode b_MC_require 195 = .ok (.invokevirtual 146, 3) := by decide +kernel
theorem d_MC_require_198 : decode b_MC_require 198 = .ok (.iload_n 1, 1) := by decide +kernel
theorem d_MC_require_199 : decode b_MC_require 199 = .ok (.sipush 270, 3) := by decide +kernel
theorem d_MC_require_202 : decode b_MC_require 202 = .ok (.if_icmp .ne 24, 3) := by decide +kernel
theorem d_MC_require_205 : decode b_MC_require 205 = .ok (.aload_n 0, 1) := by decide +kernel
theorem d_MC_require_206 : decode b_MC_require 206 = .ok (.iconst 1, 1) := by decide +kernel
theorem d_MC_require_207 : decode b_MC_require 207 = .ok (.iload_n 2, 1) := by decide +kernel
theorem d_MC_require_208 : decode b_MC_require 208 = .ok (.invokevirtual 188, 3) := by decide +kernel
theorem d_MC_require_211 : decode b_MC_require 211 = .ok (.aload_n 0, 1) := by decide +kernel
theorem d_MC_require_212 : decode b_MC_require 212 = .ok (.iconst 1, 1) := by decide +kernel
theorem d_MC_require_213 : decode b_MC_require 213 = .ok (.iload_n 3, 1) := by decide +kernel
theorem d_MC_require_214 : decode b_MC_require 214 = .ok (.invokevirtual 188, 3) := by decide +kernel
theorem d_MC_require_217 : decode b_MC_require 217 = .ok (.if_icmp .eq 9, 3) := by decide +kernel
theorem d_MC_require_220 : decode b_MC_require 220 = .ok (.aload_n 0, 1) := by decide +kernel
theorem d_MC_require_221 : decode b_MC_require 221 = .ok (.bipush 6, 2) := by decide +kernel
theorem d_MC_require_223 : decode b_MC_require 223 = .ok (.invokevirtual 146, 3) := by decide +kernel
theorem d_MC_require_226 : decode b_MC_require 226 = .ok (.return_, 1) := by decide +kernel
theorem d_MC_attribute_0 : decode b_MC_attribute 0 = .ok (.aload_n 0, 1) := by decide +kernel
theorem d_MC_attribute_1 : decode b_MC_attribute 1 = .ok (.getfield 25, 3) := by decide +kernel
theorem d_MC_attribute_4 : decode b_MC_attribute 4 = .ok (.bipush 40, 2) := by decide +kernel
theorem d_MC_attribute_6 : decode b_MC_attribute 6 = .ok (.iload_n 1, 1) := by decide +kernel
theorem d_MC_attribute_7 : decode b_MC_attribute 7 = .ok (.imul, 1) := by decide +kernel
theorem d_MC_attribute_8 : decode b_MC_attribute 8 = .ok (.iload_n 2, 1) := by decide +kernel
theorem d_MC_attribute_9 : decode b_MC_attribute 9 = .ok (.iadd, 1) := by decide +kernel
theorem d_MC_attribute_10 : decode b_MC_attribute 10 = .ok (.iaload, 1) := by decide +kernel
theorem d_MC_attribute_11 : decode b_MC_attribute 11 = .ok (.ireturn, 1) := by decide +kernel
theorem d_MC_bytesOf_0 : decode b_MC_bytesOf 0 = .ok (.iload_n 0, 1) := by decide +kernel
theorem d_MC_bytesOf_1 : decode b_MC_bytesOf 1 = .ok (.bipush 41, 2) := by decide +kernel
theorem d_MC_bytesOf_3 : decode b_MC_bytesOf 3 = .ok (.if_icmp .eq 21, 3) := by decide +kernel
theorem d_MC_bytesOf_6 : decode b_MC_bytesOf 6 = .ok (.iload_n 0, 1) := by decide +kernel
theorem d_MC_bytesOf_7 : decode b_MC_bytesOf 7 = .ok (.bipush 43, 2) := by decide +kernel
theorem d_MC_bytesOf_9 : decode b_MC_bytesOf 9 = .ok (.if_icmp .eq 15, 3) := by decide +kernel
theorem d_MC_bytesOf_12 : decode b_MC_bytesOf 12 = .ok (.iload_n 0, 1) := by decide +kernel
theorem d_MC_bytesOf_13 : decode b_MC_bytesOf 13 = .ok (.bipush 55, 2) := by decide +kernel
theorem d_MC_bytesOf_15 : decode b_MC_bytesOf 15 = .ok (.if_icmp .eq 9, 3) := by decide +kernel
theorem d_MC_bytesOf_18 : decode b_MC_bytesOf 18 = .ok (.iload_n 0, 1) := by decide +kernel
theorem d_MC_bytesOf_19 : decode b_MC_bytesOf 19 = .ok (.bipush 57, 2) := by decide +kernel
theorem d_MC_bytesOf_21 : decode b_MC_bytesOf 21 = .ok (.if_icmp .ne 6, 3) := by decide +kernel
theorem d_MC_bytesOf_24 : decode b_MC_bytesOf 24 = .ok (.bipush 8, 2) := by decide +kernel
theorem d_MC_bytesOf_26 : decode b_MC_bytesOf 26 = .ok (.ireturn, 1) := by decide +kernel
theorem d_MC_bytesOf_27 : decode b_MC_bytesOf 27 = .ok (.iload_n 0, 1) := by decide +kernel
theorem d_MC_bytesOf_28 : decode b_MC_bytesOf 28 = .ok (.bipush 40, 2) := by decide +kernel
theorem d_MC_bytesOf_30 : decode b_MC_bytesOf 30 = .ok (.if_icmp .eq 39, 3) := by decide +kernel
theorem d_MC_bytesOf_33 : decode b_MC_bytesOf 33 = .ok (.iload_n 0, 1) := by decide +kernel
theorem d_MC_bytesOf_34 : decode b_MC_bytesOf 34 = .ok (.bipush 42, 2) := by decide +kernel
theorem d_MC_bytesOf_36 : decode b_MC_bytesOf 36 = .ok (.if_icmp .eq 33, 3) := by decide +kernel
theorem d_MC_bytesOf_39 : decode b_MC_bytesOf 39 = .ok (.iload_n 0, 1) := by decide +kernel
theorem d_MC_bytesOf_40 : decode b_MC_bytesOf 40 = .ok (.bipush 52, 2) := by decide +kernel
theorem d_MC_bytesOf_42 : decode b_MC_bytesOf 42 = .ok (.if_icmp .eq 27, 3) := by decide +kernel
theorem d_MC_bytesOf_45 : decode b_MC_bytesOf 45 = .ok (.iload_n 0, 1) := by decide +kernel
theorem d_MC_bytesOf_46 : decode b_MC_bytesOf 46 = .ok (.bipush 53, 2) := by decide +kernel
theorem d_MC_bytesOf_48 : decode b_MC_bytesOf 48 = .ok (.if_icmp .eq 21, 3) := by decide +kernel
theorem d_MC_bytesOf_51 : decode b_MC_bytesOf 51 = .ok (.iload_n 0, 1) := by decide +kernel
theorem d_MC_bytesOf_52 : decode b_MC_bytesOf 52 = .ok (.bipush 54, 2) := by decide +kernel
theorem d_MC_bytesOf_54 : decode b_MC_bytesOf 54 = .ok (.if_icmp .eq 15, 3) := by decide +kernel
theorem d_MC_bytesOf_57 : decode b_MC_bytesOf 57 = .ok (.iload_n 0, 1) := by decide +kernel
theorem d_MC_bytesOf_58 : decode b_MC_bytesOf 58 = .ok (.bipush 56, 2) := by decide +kernel
theorem d_MC_bytesOf_60 : decode b_MC_bytesOf 60 = .ok (.if_icmp .eq 9, 3) := by decide +kernel
theorem d_MC_bytesOf_63 : decode b_MC_bytesOf 63 = .ok (.iload_n 0, 1) := by decide +kernel
theorem d_MC_bytesOf_64 : decode b_MC_bytesOf 64 = .ok (.bipush 62, 2) := by decide +kernel
theorem d_MC_bytesOf_66 : decode b_MC_bytesOf 66 = .ok (.if_icmp .ne 5, 3) := by decide +kernel
theorem d_MC_bytesOf_69 : decode b_MC_bytesOf 69 = .ok (.iconst 4, 1) := by decide +kernel
theorem d_MC_bytesOf_70 : decode b_MC_bytesOf 70 = .ok (.ireturn, 1) := by decide +kernel
theorem d_MC_bytesOf_71 : decode b_MC_bytesOf 71 = .ok (.iload_n 0, 1) := by decide +kernel
theorem d_MC_bytesOf_72 : decode b_MC_bytesOf 72 = .ok (.bipush 46, 2) := by decide +kernel
theorem d_MC_bytesOf_74 : decode b_MC_bytesOf 74 = .ok (.if_icmp .eq 33, 3) := by decide +kernel
theorem d_MC_bytesOf_77 : decode b_MC_bytesOf 77 = .ok (.iload_n 0, 1) := by decide +kernel
theorem d_MC_bytesOf_78 : decode b_MC_bytesOf 78 = .ok (.bipush 47, 2) := by decide +kernel
theorem d_MC_bytesOf_80 : decode b_MC_bytesOf 80 = .ok (.if_icmp .eq 27, 3) := by decide +kernel
theorem d_MC_bytesOf_83 : decode b_MC_bytesOf 83 = .ok (.iload_n 0, 1) := by decide +kernel
theorem d_MC_bytesOf_84 : decode b_MC_bytesOf 84 = .ok (.bipush 50, 2) := by decide +kernel
theorem d_MC_bytesOf_86 : decode b_MC_bytesOf 86 = .ok (.if_icmp .eq 21, 3) := by decide +kernel
theorem d_MC_bytesOf_89 : decode b_MC_bytesOf 89 = .ok (.iload_n 0, 1) := by decide +kernel
theorem d_MC_bytesOf_90 : decode b_MC_bytesOf 90 = .ok (.bipush 51, 2) := by decide +kernel
theorem d_MC_bytesOf_92 : decode b_MC_bytesOf 92 = .ok (.if_icmp .eq 15, 3) := by decide +kernel
theorem d_MC_bytesOf_95 : decode b_MC_bytesOf 95 = .ok (.iload_n 0, 1) := by decide +kernel
theorem d_MC_bytesOf_96 : decode b_MC_bytesOf 96 = .ok (.bipush 59, 2) := by decide +kernel
theorem d_MC_bytesOf_98 : decode b_MC_bytesOf 98 = .ok (.if_icmp .eq 9, 3) := by decide +kernel
theorem d_MC_bytesOf_101 : decode b_MC_bytesOf 101 = .ok (.iload_n 0, 1) := by decide +kernel
theorem d_MC_bytesOf_102 : decode b_MC_bytesOf 102 = .ok (.bipush 61, 2) := by decide +kernel
theorem d_MC_bytesOf_104 : decode b_MC_bytesOf 104 = .ok (.if_icmp .ne 7, 3) := by decide +kernel
theorem d_MC_bytesOf_107 : decode b_MC_bytesOf 107 = .ok (.iconst 2, 1) := by decide +kernel
theorem d_MC_bytesOf_108 : decode b_MC_bytesOf 108 = .ok (.goto 4, 3) := by decide +kernel
theorem d_MC_bytesOf_111 : decode b_MC_bytesOf 111 = .ok (.iconst 1, 1) := by decide +kernel
theorem d_MC_bytesOf_112 : decode b_MC_bytesOf 112 = .ok (.ireturn, 1) := by decide +kernel
theorem d_MC_perform_0 : decode b_MC_perform 0 = .ok (.iload_n 1, 1) := by decide +kernel
theorem d_MC_perform_1 : decode b_MC_perform 1 = .ok (.bipush 18, 2) := by decide +kernel
theorem d_MC_perform_3 : decode b_MC_perform 3 = .ok (.if_icmp .ge 13, 3) := by decide +kernel
theorem d_MC_perform_6 : decode b_MC_perform 6 = .ok (.aload_n 0, 1) := by decide +kernel
theorem d_MC_perform_7 : decode b_MC_perform 7 = .ok (.iload_n 1, 1) := by decide +kernel
theorem d_MC_perform_8 : decode b_MC_perform 8 = .ok (.iload_n 2, 1) := by decide +kernel
theorem d_MC_perform_9 : decode b_MC_perform 9 = .ok (.iload_n 3, 1) := by decide +kernel
theorem d_MC_perform_10 : decode b_MC_perform 10 = .ok (.invokevirtual 271, 3) := by decide +kernel
theorem d_MC_perform_13 : decode b_MC_perform 13 = .ok (.goto 67, 3) := by decide +kernel
theorem d_MC_perform_16 : decode b_MC_perform 16 = .ok (.iload_n 1, 1) := by decide +kernel
theorem d_MC_perform_17 : decode b_MC_perform 17 = .ok (.bipush 39, 2) := by decide +kernel
theorem d_MC_perform_19 : decode b_MC_perform 19 = .ok (.if_icmp .ge 12, 3) := by decide +kernel
theorem d_MC_perform_22 : decode b_MC_perform 22 = .ok (.aload_n 0, 1) := by decide +kernel
theorem d_MC_perform_23 : decode b_MC_perform 23 = .ok (.iload_n 1, 1) := by decide +kernel
theorem d_MC_perform_24 : decode b_MC_perform 24 = .ok (.iload_n 2, 1) := by decide +kernel
theorem d_MC_perform_25 : decode b_MC_perform 25 = .ok (.invokevirtual 275, 3) := by decide +kernel
theorem d_MC_perform_28 : decode b_MC_perform 28 = .ok (.goto 52, 3) := by decide +kernel
theorem d_MC_perform_31 : decode b_MC_perform 31 = .ok (.iload_n 1, 1) := by decide +kernel
theorem d_MC_perform_32 : decode b_MC_perform 32 = .ok (.bipush 69, 2) := by decide +kernel
theorem d_MC_perform_34 : decode b_MC_perform 34 = .ok (.if_icmp .ge 11, 3) := by decide +kernel
theorem d_MC_perform_37 : decode b_MC_perform 37 = .ok (.aload_n 0, 1) := by decide +kernel
theorem d_MC_perform_38 : decode b_MC_perform 38 = .ok (.iload_n 1, 1) := by decide +kernel
theorem d_MC_perform_39 : decode b_MC_perform 39 = .ok (.invokevirtual 278, 3) := by decide +kernel
theorem d_MC_perform_42 : decode b_MC_perform 42 = .ok (.goto 38, 3) := by decide +kernel
theorem d_MC_perform_45 : decode b_MC_perform 45 = .ok (.iload_n 1, 1) := by decide +kernel
theorem d_MC_perform_46 : decode b_MC_perform 46 = .ok (.sipush 197, 3) := by decide +kernel
theorem d_MC_perform_49 : decode b_MC_perform 49 = .ok (.if_icmp .lt 17, 3) := by decide +kernel
theorem d_MC_perform_52 : decode b_MC_perform 52 = .ok (.iload_n 1, 1) := by decide +kernel
theorem d_MC_perform_53 : decode b_MC_perform 53 = .ok (.sipush 255, 3) := by decide +kernel
theorem d_MC_perform_56 : decode b_MC_perform 56 = .ok (.if_icmp .le 18, 3) := by decide +kernel
theorem d_MC_perform_59 : decode b_MC_perform 59 = .ok (.iload_n 1, 1) := by decide +kernel
theorem d_MC_perform_60 : decode b_MC_perform 60 = .ok (.sipush 264, 3) := by decide +kernel
theorem d_MC_perform_63 : decode b_MC_perform 63 = .ok (.if_icmp .ge 11, 3) := by decide +kernel
theorem d_MC_perform_66 : decode b_MC_perform 66 = .ok (.aload_n 0, 1) := by decide +kernel
theorem d_MC_perform_67 : decode b_MC_perform 67 = .ok (.iload_n 1, 1) := by decide +kernel
theorem d_MC_perform_68 : decode b_MC_perform 68 = .ok (.invokevirtual 281, 3) := by decide +kernel
theorem d_MC_perform_71 : decode b_MC_perform 71 = .ok (.goto 9, 3) := by decide +kernel
theorem d_MC_perform_74 : decode b_MC_perform 74 = .ok (.aload_n 0, 1) := by decide +kernel
theorem d_MC_perform_75 : decode b_MC_perform 75 = .ok (.iload_n 1, 1) := by decide +kernel
theorem d_MC_perform_76 : decode b_MC_perform 76 = .ok (.iload_n 2, 1) := by decide +kernel
theorem d_MC_perform_77 : decode b_MC_perform 77 = .ok (.invokevirtual 284, 3) := by decide +kernel
theorem d_MC_perform_80 : decode b_MC_perform 80 = .ok (.return_, 1) := by decide +kernel
theorem d_MC_control_0 : decode b_MC_control 0 = .ok (.aload_n 0, 1) := by decide +kernel
theorem d_MC_control_1 : decode b_MC_control 1 = .ok (.invokevirtual 196, 3) := by decide +kernel
theorem d_MC_control_4 : decode b_MC_control 4 = .ok (.iload_n 1, 1) := by decide +kernel
theorem d_MC_control_5 : decode b_MC_control 5 = .ok (.tableswitch 192 0 16 #[83, 90, 93, 93, 93, 102, 192, 192, 192, 192, 192, 109, 116, 132, 154, 162, 179], 83) := by decide +kernel
theorem d_MC_control_88 : decode b_MC_control 88 = .ok (.aload_n 0, 1) := by decide +kernel
theorem d_MC_control_89 : decode b_MC_control 89 = .ok (.invokevirtual 199, 3) := by decide +kernel
theorem d_MC_control_92 : decode b_MC_control 92 = .ok (.goto 116, 3) := by decide +kernel
theorem d_MC_control_95 : decode b_MC_control 95 = .ok (.goto 113, 3) := by decide +kernel
theorem d_MC_control_98 : decode b_MC_control 98 = .ok (.aload_n 0, 1) := by decide +kernel
theorem d_MC_control_99 : decode b_MC_control 99 = .ok (.iload_n 1, 1) := by decide +kernel
theorem d_MC_control_100 : decode b_MC_control 100 = .ok (.iload_n 2, 1) := by decide +kernel
theorem d_MC_control_101 : decode b_MC_control 101 = .ok (.invokevirtual 202, 3) := by decide +kernel
theorem d_MC_control_104 : decode b_MC_control 104 = .ok (.goto 104, 3) := by decide +kernel
theorem d_MC_control_107 : decode b_MC_control 107 = .ok (.aload_n 0, 1) := by decide +kernel
theorem d_MC_control_108 : decode b_MC_control 108 = .ok (.invokevirtual 206, 3) := by decide +kernel
theorem d_MC_control_111 : decode b_MC_control 111 = .ok (.goto 97, 3) := by decide +kernel
theorem d_MC_control_114 : decode b_MC_control 114 = .ok (.aload_n 0, 1) := by decide +kernel
theorem d_MC_control_115 : decode b_MC_control 115 = .ok (.invokevirtual 209, 3) := by decide +kernel
theorem d_MC_control_118 : decode b_MC_control 118 = .ok (.goto 90, 3) := by decide +kernel
theorem d_MC_control_121 : decode b_MC_control 121 = .ok (.aload_n 0, 1) := by decide +kernel
theorem d_MC_control_122 : decode b_MC_control 122 = .ok (.iload_n 2, 1) := by decide +kernel
theorem d_MC_control_123 : decode b_MC_control 123 = .ok (.invokevirtual 212, 3) := by decide +kernel
theorem d_MC_control_126 : decode b_MC_control 126 = .ok (.aload_n 0, 1) := by decide +kernel
theorem d_MC_control_127 : decode b_MC_control 127 = .ok (.invokevirtual 215, 3) := by decide +kernel
theorem d_MC_control_130 : decode b_MC_control 130 = .ok (.aload_n 0, 1) := by decide +kernel
theorem d_MC_control_131 : decode b_MC_control 131 = .ok (.invokevirtual 199, 3) := by decide +kernel
theorem d_MC_control_134 : decode b_MC_control 134 = .ok (.goto 74, 3) := by decide +kernel
theorem d_MC_control_137 : decode b_MC_control 137 = .ok (.aload_n 0, 1) := by decide +kernel
theorem d_MC_control_138 : decode b_MC_control 138 = .ok (.bipush 127, 2) := by decide +kernel
theorem d_MC_control_140 : decode b_MC_control 140 = .ok (.invokevirtual 153, 3) := by decide +kernel
theorem d_MC_control_143 : decode b_MC_control 143 = .ok (.aload_n 0, 1) := by decide +kernel
theorem d_MC_control_144 : decode b_MC_control 144 = .ok (.iload_n 2, 1) := by decide +kernel
theorem d_MC_control_145 : decode b_MC_control 145 = .ok (.invokevirtual 212, 3) := by decide +kernel
theorem d_MC_control_148 : decode b_MC_control 148 = .ok (.aload_n 0, 1) := by decide +kernel
theorem d_MC_control_149 : decode b_MC_control 149 = .ok (.invokevirtual 215, 3) := by decide +kernel
theorem d_MC_control_152 : decode b_MC_control 152 = .ok (.aload_n 0, 1) := by decide +kernel
theorem d_MC_control_153 : decode b_MC_control 153 = .ok (.invokevirtual 218, 3) := by decide +kernel
theorem d_MC_control_156 : decode b_MC_control 156 = .ok (.goto 52, 3) := by decide +kernel
theorem d_MC_control_159 : decode b_MC_control 159 = .ok (.aload_n 0, 1) := by decide +kernel
theorem d_MC_control_160 : decode b_MC_control 160 = .ok (.iload_n 2, 1) := by decide +kernel
theorem d_MC_control_161 : decode b_MC_control 161 = .ok (.invokevirtual 221, 3) := by decide +kernel
theorem d_MC_control_164 : decode b_MC_control 164 = .ok (.goto 44, 3) := by decide +kernel
theorem d_MC_control_167 : decode b_MC_control 167 = .ok (.aload_n 0, 1) := by decide +kernel
theorem d_MC_control_168 : decode b_MC_control 168 = .ok (.iconst 0, 1) := by decide +kernel
theorem d_MC_control_169 : decode b_MC_control 169 = .ok (.iconst 1, 1) := by decide +kernel
theorem d_MC_control_170 : decode b_MC_control 170 = .ok (.invokevirtual 224, 3) := by decide +kernel
theorem d_MC_control_173 : decode b_MC_control 173 = .ok (.aload_n 0, 1) := by decide +kernel
theorem d_MC_control_174 : decode b_MC_control 174 = .ok (.invokevirtual 215, 3) := by decide +kernel
theorem d_MC_control_177 : decode b_MC_control 177 = .ok (.aload_n 0, 1) := by decide +kernel
theorem d_MC_control_178 : decode b_MC_control 178 = .ok (.invokevirtual 199, 3) := by decide +kernel
theorem d_MC_control_181 : decode b_MC_control 181 = .ok (.goto 27, 3) := by decide +kernel
theorem d_MC_control_184 : decode b_MC_control 184 = .ok (.aload_n 0, 1) := by decide +kernel
theorem d_MC_control_185 : decode b_MC_control 185 = .ok (.aload_n 0, 1) := by decide +kernel
theorem d_MC_control_186 : decode b_MC_control 186 = .ok (.iconst 0, 1) := by decide +kernel
theorem d_MC_control_187 : decode b_MC_control 187 = .ok (.iload_n 2, 1) := by decide +kernel
theorem d_MC_control_188 : decode b_MC_control 188 = .ok (.invokevirtual 188, 3) := by decide +kernel
theorem d_MC_control_191 : decode b_MC_control 191 = .ok (.invokevirtual 228, 3) := by decide +kernel
theorem d_MC_control_194 : decode b_MC_control 194 = .ok (.goto 14, 3) := by decide +kernel
theorem d_MC_control_197 : decode b_MC_control 197 = .ok (.aload_n 0, 1) := by decide +kernel
theorem d_MC_control_198 : decode b_MC_control 198 = .ok (.bipush 127, 2) := by decide +kernel
theorem d_MC_control_200 : decode b_MC_control 200 = .ok (.invokevirtual 153, 3) := by decide +kernel
theorem d_MC_control_203 : decode b_MC_control 203 = .ok (.aload_n 0, 1) := by decide +kernel
theorem d_MC_control_204 : decode b_MC_control 204 = .ok (.iload_n 2, 1) := by decide +kernel
theorem d_MC_control_205 : decode b_MC_control 205 = .ok (.invokevirtual 228, 3) := by decide +kernel
theorem d_MC_control_208 : decode b_MC_control 208 = .ok (.return_, 1) := by decide +kernel
theorem d_MC_wantNothing_0 : decode b_MC_wantNothing 0 = .ok (.aload_n 0, 1) := by decide +kernel
theorem d_MC_wantNothing_1 : decode b_MC_wantNothing 1 = .ok (.iconst 0, 1) := by decide +kernel
theorem d_MC_wantNothing_2 : decode b_MC_wantNothing 2 = .ok (.putfield 156, 3) := by decide +kernel
theorem d_MC_wantNothing_5 : decode b_MC_wantNothing 5 = .ok (.return_, 1) := by decide +kernel
theorem d_MC_call_0 : decode b_MC_call 0 = .ok (.aload_n 0, 1) := by decide +kernel
theorem d_MC_call_1 : decode b_MC_call 1 = .ok (.iload_n 1, 1) := by decide +kernel
theorem d_MC_call_2 : decode b_MC_call 2 = .ok (.iconst 0, 1) := by decide +kernel
