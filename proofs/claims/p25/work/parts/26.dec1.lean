theorem dL_act_0 : decode cL_act 0 = .ok (.iload_n 1, 1) := by decide +kernel
theorem dL_act_1 : decode cL_act 1 = .ok (.bipush 26, 2) := by decide +kernel
theorem dL_act_3 : decode cL_act 3 = .ok (.ishr, 1) := by decide +kernel
theorem dL_act_4 : decode cL_act 4 = .ok (.bipush 14, 2) := by decide +kernel
theorem dL_act_6 : decode cL_act 6 = .ok (.invokestatic 89, 3) := by decide +kernel
theorem dL_act_9 : decode cL_act 9 = .ok (.ifCond .ne 7, 3) := by decide +kernel
theorem dL_act_12 : decode cL_act 12 = .ok (.iconst 1, 1) := by decide +kernel
theorem dL_act_13 : decode cL_act 13 = .ok (.goto 4, 3) := by decide +kernel
theorem dL_act_16 : decode cL_act 16 = .ok (.iconst 0, 1) := by decide +kernel
theorem dL_act_17 : decode cL_act 17 = .ok (.istore_n 2, 1) := by decide +kernel
theorem dL_act_18 : decode cL_act 18 = .ok (.iload_n 2, 1) := by decide +kernel
theorem dL_act_19 : decode cL_act 19 = .ok (.ifCond .eq 10, 3) := by decide +kernel
theorem dL_act_22 : decode cL_act 22 = .ok (.iload_n 1, 1) := by decide +kernel
theorem dL_act_23 : decode cL_act 23 = .ok (.bipush 9, 2) := by decide +kernel
theorem dL_act_25 : decode cL_act 25 = .ok (.ishr, 1) := by decide +kernel
theorem dL_act_26 : decode cL_act 26 = .ok (.goto 12, 3) := by decide +kernel
theorem dL_act_29 : decode cL_act 29 = .ok (.iload_n 1, 1) := by decide +kernel
theorem dL_act_30 : decode cL_act 30 = .ok (.bipush 9, 2) := by decide +kernel
theorem dL_act_32 : decode cL_act 32 = .ok (.ishr, 1) := by decide +kernel
theorem dL_act_33 : decode cL_act 33 = .ok (.bipush 60, 2) := by decide +kernel
theorem dL_act_35 : decode cL_act 35 = .ok (.invokestatic 89, 3) := by decide +kernel
theorem dL_act_38 : decode cL_act 38 = .ok (.istore_n 3, 1) := by decide +kernel
theorem dL_act_39 : decode cL_act 39 = .ok (.iload_n 2, 1) := by decide +kernel
theorem dL_act_40 : decode cL_act 40 = .ok (.ifCond .eq 17, 3) := by decide +kernel
theorem dL_act_43 : decode cL_act 43 = .ok (.iload_n 1, 1) := by decide +kernel
theorem dL_act_44 : decode cL_act 44 = .ok (.bipush 11, 2) := by decide +kernel
theorem dL_act_46 : decode cL_act 46 = .ok (.ishr, 1) := by decide +kernel
theorem dL_act_47 : decode cL_act 47 = .ok (.bipush 10, 2) := by decide +kernel
theorem dL_act_49 : decode cL_act 49 = .ok (.invokestatic 89, 3) := by decide +kernel
theorem dL_act_52 : decode cL_act 52 = .ok (.iconst 2, 1) := by decide +kernel
theorem dL_act_53 : decode cL_act 53 = .ok (.isub, 1) := by decide +kernel
theorem dL_act_54 : decode cL_act 54 = .ok (.goto 11, 3) := by decide +kernel
theorem dL_act_57 : decode cL_act 57 = .ok (.iload_n 1, 1) := by decide +kernel
theorem dL_act_58 : decode cL_act 58 = .ok (.bipush 11, 2) := by decide +kernel
theorem dL_act_60 : decode cL_act 60 = .ok (.ishr, 1) := by decide +kernel
theorem dL_act_61 : decode cL_act 61 = .ok (.iconst 3, 1) := by decide +kernel
theorem dL_act_62 : decode cL_act 62 = .ok (.invokestatic 89, 3) := by decide +kernel
theorem dL_act_65 : decode cL_act 65 = .ok (.istore 4, 2) := by decide +kernel
theorem dL_act_67 : decode cL_act 67 = .ok (.iload_n 1, 1) := by decide +kernel
theorem dL_act_68 : decode cL_act 68 = .ok (.bipush 15, 2) := by decide +kernel
theorem dL_act_70 : decode cL_act 70 = .ok (.ishr, 1) := by decide +kernel
theorem dL_act_71 : decode cL_act 71 = .ok (.iconst 1, 1) := by decide +kernel
theorem dL_act_72 : decode cL_act 72 = .ok (.iand, 1) := by decide +kernel
theorem dL_act_73 : decode cL_act 73 = .ok (.iconst 1, 1) := by decide +kernel
theorem dL_act_74 : decode cL_act 74 = .ok (.if_icmp .ne 7, 3) := by decide +kernel
theorem dL_act_77 : decode cL_act 77 = .ok (.iconst 1, 1) := by decide +kernel
theorem dL_act_78 : decode cL_act 78 = .ok (.goto 4, 3) := by decide +kernel
theorem dL_act_81 : decode cL_act 81 = .ok (.iconst 0, 1) := by decide +kernel
theorem dL_act_82 : decode cL_act 82 = .ok (.istore 5, 2) := by decide +kernel
theorem dL_act_84 : decode cL_act 84 = .ok (.iload_n 1, 1) := by decide +kernel
theorem dL_act_85 : decode cL_act 85 = .ok (.bipush 48, 2) := by decide +kernel
theorem dL_act_87 : decode cL_act 87 = .ok (.invokestatic 89, 3) := by decide +kernel
theorem dL_act_90 : decode cL_act 90 = .ok (.tableswitch 751 0 46 #[202, 202, 202, 202, 287, 287, 287, 312, 312, 312, 312, 312, 312, 312, 312, 312, 337, 337, 337, 361, 361, 366, 366, 371, 371, 371, 371, 411, 411, 431, 467, 467, 467, 467, 467, 506, 545, 567, 567, 594, 599, 604, 641, 646, 694, 720, 746], 202) := by decide +kernel
theorem dL_act_292 : decode cL_act 292 = .ok (.aload_n 0, 1) := by decide +kernel
theorem dL_act_293 : decode cL_act 293 = .ok (.iload_n 2, 1) := by decide +kernel
theorem dL_act_294 : decode cL_act 294 = .ok (.ifCond .eq 16, 3) := by decide +kernel
theorem dL_act_297 : decode cL_act 297 = .ok (.iload_n 1, 1) := by decide +kernel
theorem dL_act_298 : decode cL_act 298 = .ok (.iconst 4, 1) := by decide +kernel
theorem dL_act_299 : decode cL_act 299 = .ok (.ishr, 1) := by decide +kernel
theorem dL_act_300 : decode cL_act 300 = .ok (.bipush 54, 2) := by decide +kernel
theorem dL_act_302 : decode cL_act 302 = .ok (.invokestatic 89, 3) := by decide +kernel
theorem dL_act_305 : decode cL_act 305 = .ok (.iconst 2, 1) := by decide +kernel
theorem dL_act_306 : decode cL_act 306 = .ok (.isub, 1) := by decide +kernel
theorem dL_act_307 : decode cL_act 307 = .ok (.goto 11, 3) := by decide +kernel
theorem dL_act_310 : decode cL_act 310 = .ok (.iload_n 1, 1) := by decide +kernel
theorem dL_act_311 : decode cL_act 311 = .ok (.iconst 4, 1) := by decide +kernel
theorem dL_act_312 : decode cL_act 312 = .ok (.ishr, 1) := by decide +kernel
theorem dL_act_313 : decode cL_act 313 = .ok (.bipush 14, 2) := by decide +kernel
theorem dL_act_315 : decode cL_act 315 = .ok (.invokestatic 89, 3) := by decide +kernel
theorem dL_act_318 : decode cL_act 318 = .ok (.iload_n 2, 1) := by decide +kernel
theorem dL_act_319 : decode cL_act 319 = .ok (.ifCond .eq 7, 3) := by decide +kernel
theorem dL_act_322 : decode cL_act 322 = .ok (.iload_n 3, 1) := by decide +kernel
theorem dL_act_323 : decode cL_act 323 = .ok (.goto 14, 3) := by decide +kernel
theorem dL_act_326 : decode cL_act 326 = .ok (.bipush 90, 2) := by decide +kernel
theorem dL_act_328 : decode cL_act 328 = .ok (.iload_n 1, 1) := by decide +kernel
theorem dL_act_329 : decode cL_act 329 = .ok (.iconst 5, 1) := by decide +kernel
theorem dL_act_330 : decode cL_act 330 = .ok (.ishr, 1) := by decide +kernel
theorem dL_act_331 : decode cL_act 331 = .ok (.bipush 60, 2) := by decide +kernel
theorem dL_act_333 : decode cL_act 333 = .ok (.invokestatic 89, 3) := by decide +kernel
theorem dL_act_336 : decode cL_act 336 = .ok (.iadd, 1) := by decide +kernel
theorem dL_act_337 : decode cL_act 337 = .ok (.iload_n 2, 1) := by decide +kernel
theorem dL_act_338 : decode cL_act 338 = .ok (.ifCond .eq 7, 3) := by decide +kernel
theorem dL_act_341 : decode cL_act 341 = .ok (.iload_n 3, 1) := by decide +kernel
theorem dL_act_342 : decode cL_act 342 = .ok (.goto 9, 3) := by decide +kernel
theorem dL_act_345 : decode cL_act 345 = .ok (.bipush 120, 2) := by decide +kernel
theorem dL_act_347 : decode cL_act 347 = .ok (.iconst 2, 1) := by decide +kernel
theorem dL_act_348 : decode cL_act 348 = .ok (.iload_n 3, 1) := by decide +kernel
theorem dL_act_349 : decode cL_act 349 = .ok (.imul, 1) := by decide +kernel
theorem dL_act_350 : decode cL_act 350 = .ok (.iadd, 1) := by decide +kernel
theorem dL_act_351 : decode cL_act 351 = .ok (.iload_n 2, 1) := by decide +kernel
theorem dL_act_352 : decode cL_act 352 = .ok (.ifCond .eq 10, 3) := by decide +kernel
theorem dL_act_355 : decode cL_act 355 = .ok (.iload_n 1, 1) := by decide +kernel
theorem dL_act_356 : decode cL_act 356 = .ok (.bipush 7, 2) := by decide +kernel
theorem dL_act_358 : decode cL_act 358 = .ok (.ishr, 1) := by decide +kernel
theorem dL_act_359 : decode cL_act 359 = .ok (.goto 12, 3) := by decide +kernel
theorem dL_act_362 : decode cL_act 362 = .ok (.iload_n 1, 1) := by decide +kernel
theorem dL_act_363 : decode cL_act 363 = .ok (.bipush 7, 2) := by decide +kernel
theorem dL_act_365 : decode cL_act 365 = .ok (.ishr, 1) := by decide +kernel
theorem dL_act_366 : decode cL_act 366 = .ok (.bipush 60, 2) := by decide +kernel
theorem dL_act_368 : decode cL_act 368 = .ok (.invokestatic 89, 3) := by decide +kernel
theorem dL_act_371 : decode cL_act 371 = .ok (.iload 5, 2) := by decide +kernel
theorem dL_act_373 : decode cL_act 373 = .ok (.invokestatic 94, 3) := by decide +kernel
theorem dL_act_376 : decode cL_act 376 = .ok (.ireturn, 1) := by decide +kernel
theorem dL_act_377 : decode cL_act 377 = .ok (.aload_n 0, 1) := by decide +kernel
theorem dL_act_378 : decode cL_act 378 = .ok (.iload_n 2, 1) := by decide +kernel
theorem dL_act_379 : decode cL_act 379 = .ok (.ifCond .eq 7, 3) := by decide +kernel
theorem dL_act_382 : decode cL_act 382 = .ok (.iload_n 3, 1) := by decide +kernel
theorem dL_act_383 : decode cL_act 383 = .ok (.goto 15, 3) := by decide +kernel
theorem dL_act_386 : decode cL_act 386 = .ok (.bipush 95, 2) := by decide +kernel
theorem dL_act_388 : decode cL_act 388 = .ok (.iload_n 1, 1) := by decide +kernel
