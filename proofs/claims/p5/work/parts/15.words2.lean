set_option maxRecDepth 100000 in
theorem wd_13 : Cond.initialized "RightsLimitLaw" ∈ rl_G := rl_wd 13 rfl rfl
set_option maxRecDepth 100000 in
theorem wd_24 : Cond.classLink "RightsLimitLaw" 8 "RightsLimit" ∈ rl_G := rl_wd 24 rfl rfl
set_option maxRecDepth 100000 in
theorem wd_25 : Cond.instantiable "RightsLimit" 8 ∈ rl_G := rl_wd 25 rfl rfl
set_option maxRecDepth 100000 in
theorem wd_26 : Cond.methodLink "RightsLimitLaw" 18 ⟨"RightsLimit", "<init>", "()V"⟩ ∈ rl_G := rl_wd 26 rfl rfl
set_option maxRecDepth 100000 in
theorem wd_27 : Cond.instanceMethod ⟨"RightsLimit", "<init>", "()V"⟩ ∈ rl_G := rl_wd 27 rfl rfl
set_option maxRecDepth 100000 in
theorem wd_28 : Cond.code ⟨"RightsLimit", "<init>", "()V"⟩ prog_1_method_1_code 1 none ∈ rl_G := rl_wd 28 rfl rfl
set_option maxRecDepth 100000 in
theorem wd_193 : Cond.methodLink "RightsLimitLaw" 22 ⟨"RightsLimit", "title", "(I)I"⟩ ∈ rl_G := rl_wd 193 rfl rfl
set_option maxRecDepth 100000 in
theorem wd_194 : Cond.instanceMethod ⟨"RightsLimit", "title", "(I)I"⟩ ∈ rl_G := rl_wd 194 rfl rfl
set_option maxRecDepth 100000 in
theorem wd_195 : Cond.selects "RightsLimit" ⟨"RightsLimit", "title", "(I)I"⟩ ⟨"RightsLimit", "title", "(I)I"⟩ ∈ rl_G := rl_wd 195 rfl rfl
set_option maxRecDepth 100000 in
theorem wd_196 : Cond.code ⟨"RightsLimit", "title", "(I)I"⟩ prog_1_method_2_code 2 (some .int) ∈ rl_G := rl_wd 196 rfl rfl
set_option maxRecDepth 100000 in
theorem wd_207 : Cond.methodLink "RightsLimitLaw" 27 ⟨"RightsLimit", "open", "(IZ)I"⟩ ∈ rl_G := rl_wd 207 rfl rfl
set_option maxRecDepth 100000 in
theorem wd_208 : Cond.instanceMethod ⟨"RightsLimit", "open", "(IZ)I"⟩ ∈ rl_G := rl_wd 208 rfl rfl
set_option maxRecDepth 100000 in
theorem wd_209 : Cond.selects "RightsLimit" ⟨"RightsLimit", "open", "(IZ)I"⟩ ⟨"RightsLimit", "open", "(IZ)I"⟩ ∈ rl_G := rl_wd 209 rfl rfl
set_option maxRecDepth 100000 in
theorem wd_210 : Cond.code ⟨"RightsLimit", "open", "(IZ)I"⟩ prog_1_method_3_code 3 (some .int) ∈ rl_G := rl_wd 210 rfl rfl
set_option maxRecDepth 100000 in
theorem wd_215 : Cond.methodLink "RightsLimitLaw" 32 ⟨"RightsLimit", "limit", "(IIII)I"⟩ ∈ rl_G := rl_wd 215 rfl rfl
set_option maxRecDepth 100000 in
theorem wd_216 : Cond.instanceMethod ⟨"RightsLimit", "limit", "(IIII)I"⟩ ∈ rl_G := rl_wd 216 rfl rfl
set_option maxRecDepth 100000 in
theorem wd_217 : Cond.selects "RightsLimit" ⟨"RightsLimit", "limit", "(IIII)I"⟩ ⟨"RightsLimit", "limit", "(IIII)I"⟩ ∈ rl_G := rl_wd 217 rfl rfl
set_option maxRecDepth 100000 in
theorem wd_218 : Cond.code ⟨"RightsLimit", "limit", "(IIII)I"⟩ prog_1_method_4_code 5 (some .int) ∈ rl_G := rl_wd 218 rfl rfl
set_option maxRecDepth 100000 in
theorem wd_232 : Cond.methodLink "RightsLimitLaw" 37 ⟨"RightsLimit", "licence", "(IIIII)I"⟩ ∈ rl_G := rl_wd 232 rfl rfl
set_option maxRecDepth 100000 in
theorem wd_233 : Cond.instanceMethod ⟨"RightsLimit", "licence", "(IIIII)I"⟩ ∈ rl_G := rl_wd 233 rfl rfl
set_option maxRecDepth 100000 in
theorem wd_234 : Cond.selects "RightsLimit" ⟨"RightsLimit", "licence", "(IIIII)I"⟩ ⟨"RightsLimit", "licence", "(IIIII)I"⟩ ∈ rl_G := rl_wd 234 rfl rfl
set_option maxRecDepth 100000 in
theorem wd_235 : Cond.code ⟨"RightsLimit", "licence", "(IIIII)I"⟩ prog_1_method_5_code 6 (some .int) ∈ rl_G := rl_wd 235 rfl rfl
set_option maxRecDepth 100000 in
theorem wd_244 : Cond.methodLink "RightsLimitLaw" 42 ⟨"RightsLimit", "fee", "(II)I"⟩ ∈ rl_G := rl_wd 244 rfl rfl
set_option maxRecDepth 100000 in
theorem wd_245 : Cond.instanceMethod ⟨"RightsLimit", "fee", "(II)I"⟩ ∈ rl_G := rl_wd 245 rfl rfl
set_option maxRecDepth 100000 in
theorem wd_246 : Cond.selects "RightsLimit" ⟨"RightsLimit", "fee", "(II)I"⟩ ⟨"RightsLimit", "fee", "(II)I"⟩ ∈ rl_G := rl_wd 246 rfl rfl
set_option maxRecDepth 100000 in
theorem wd_247 : Cond.code ⟨"RightsLimit", "fee", "(II)I"⟩ prog_1_method_6_code 3 (some .int) ∈ rl_G := rl_wd 247 rfl rfl
set_option maxRecDepth 100000 in
theorem wd_248 : Cond.methodLink "RightsLimitLaw" 46 ⟨"RightsLimit", "ask", "(IIIII)I"⟩ ∈ rl_G := rl_wd 248 rfl rfl
set_option maxRecDepth 100000 in
theorem wd_249 : Cond.instanceMethod ⟨"RightsLimit", "ask", "(IIIII)I"⟩ ∈ rl_G := rl_wd 249 rfl rfl
set_option maxRecDepth 100000 in
theorem wd_250 : Cond.selects "RightsLimit" ⟨"RightsLimit", "ask", "(IIIII)I"⟩ ⟨"RightsLimit", "ask", "(IIIII)I"⟩ ∈ rl_G := rl_wd 250 rfl rfl
set_option maxRecDepth 100000 in
theorem wd_251 : Cond.code ⟨"RightsLimit", "ask", "(IIIII)I"⟩ prog_1_method_7_code 7 (some .int) ∈ rl_G := rl_wd 251 rfl rfl
set_option maxRecDepth 100000 in
theorem wd_307 : Cond.methodLink "RightsLimitLaw" 50 ⟨"RightsLimit", "why", "()I"⟩ ∈ rl_G := rl_wd 307 rfl rfl
set_option maxRecDepth 100000 in
theorem wd_308 : Cond.instanceMethod ⟨"RightsLimit", "why", "()I"⟩ ∈ rl_G := rl_wd 308 rfl rfl
set_option maxRecDepth 100000 in
theorem wd_309 : Cond.selects "RightsLimit" ⟨"RightsLimit", "why", "()I"⟩ ⟨"RightsLimit", "why", "()I"⟩ ∈ rl_G := rl_wd 309 rfl rfl
set_option maxRecDepth 100000 in
theorem wd_310 : Cond.code ⟨"RightsLimit", "why", "()I"⟩ prog_1_method_8_code 1 (some .int) ∈ rl_G := rl_wd 310 rfl rfl
set_option maxRecDepth 100000 in
theorem wd_311 : Cond.methodLink "RightsLimitLaw" 55 ⟨"RightsLimit", "give", "(IIZ)I"⟩ ∈ rl_G := rl_wd 311 rfl rfl
set_option maxRecDepth 100000 in
theorem wd_312 : Cond.instanceMethod ⟨"RightsLimit", "give", "(IIZ)I"⟩ ∈ rl_G := rl_wd 312 rfl rfl
set_option maxRecDepth 100000 in
theorem wd_313 : Cond.selects "RightsLimit" ⟨"RightsLimit", "give", "(IIZ)I"⟩ ⟨"RightsLimit", "give", "(IIZ)I"⟩ ∈ rl_G := rl_wd 313 rfl rfl
set_option maxRecDepth 100000 in
theorem wd_314 : Cond.code ⟨"RightsLimit", "give", "(IIZ)I"⟩ prog_1_method_9_code 5 (some .int) ∈ rl_G := rl_wd 314 rfl rfl
set_option maxRecDepth 100000 in
theorem wd_315 : Cond.methodLink "RightsLimitLaw" 60 ⟨"RightsLimit", "right", "(II)I"⟩ ∈ rl_G := rl_wd 315 rfl rfl
set_option maxRecDepth 100000 in
theorem wd_316 : Cond.instanceMethod ⟨"RightsLimit", "right", "(II)I"⟩ ∈ rl_G := rl_wd 316 rfl rfl
set_option maxRecDepth 100000 in
theorem wd_317 : Cond.selects "RightsLimit" ⟨"RightsLimit", "right", "(II)I"⟩ ⟨"RightsLimit", "right", "(II)I"⟩ ∈ rl_G := rl_wd 317 rfl rfl
set_option maxRecDepth 100000 in
theorem wd_318 : Cond.code ⟨"RightsLimit", "right", "(II)I"⟩ prog_1_method_10_code 3 (some .int) ∈ rl_G := rl_wd 318 rfl rfl
set_option maxRecDepth 100000 in
theorem wd_319 : Cond.methodLink "RightsLimitLaw" 64 ⟨"RightsLimit", "waive", "(II)I"⟩ ∈ rl_G := rl_wd 319 rfl rfl
set_option maxRecDepth 100000 in
theorem wd_320 : Cond.instanceMethod ⟨"RightsLimit", "waive", "(II)I"⟩ ∈ rl_G := rl_wd 320 rfl rfl
set_option maxRecDepth 100000 in
theorem wd_321 : Cond.selects "RightsLimit" ⟨"RightsLimit", "waive", "(II)I"⟩ ⟨"RightsLimit", "waive", "(II)I"⟩ ∈ rl_G := rl_wd 321 rfl rfl
set_option maxRecDepth 100000 in
theorem wd_322 : Cond.code ⟨"RightsLimit", "waive", "(II)I"⟩ prog_1_method_11_code 3 (some .int) ∈ rl_G := rl_wd 322 rfl rfl
set_option maxRecDepth 100000 in
theorem wd_327 : Cond.methodLink "RightsLimitLaw" 68 ⟨"RightsLimit", "renew", "(II)I"⟩ ∈ rl_G := rl_wd 327 rfl rfl
set_option maxRecDepth 100000 in
theorem wd_328 : Cond.instanceMethod ⟨"RightsLimit", "renew", "(II)I"⟩ ∈ rl_G := rl_wd 328 rfl rfl
set_option maxRecDepth 100000 in
theorem wd_329 : Cond.selects "RightsLimit" ⟨"RightsLimit", "renew", "(II)I"⟩ ⟨"RightsLimit", "renew", "(II)I"⟩ ∈ rl_G := rl_wd 329 rfl rfl
set_option maxRecDepth 100000 in
theorem wd_330 : Cond.code ⟨"RightsLimit", "renew", "(II)I"⟩ prog_1_method_12_code 3 (some .int) ∈ rl_G := rl_wd 330 rfl rfl
set_option maxRecDepth 100000 in
theorem wd_352 : Cond.methodLink "RightsLimitLaw" 72 ⟨"RightsLimit", "delete", "(II)I"⟩ ∈ rl_G := rl_wd 352 rfl rfl
set_option maxRecDepth 100000 in
theorem wd_353 : Cond.instanceMethod ⟨"RightsLimit", "delete", "(II)I"⟩ ∈ rl_G := rl_wd 353 rfl rfl
set_option maxRecDepth 100000 in
theorem wd_354 : Cond.selects "RightsLimit" ⟨"RightsLimit", "delete", "(II)I"⟩ ⟨"RightsLimit", "delete", "(II)I"⟩ ∈ rl_G := rl_wd 354 rfl rfl
set_option maxRecDepth 100000 in
theorem wd_355 : Cond.code ⟨"RightsLimit", "delete", "(II)I"⟩ prog_1_method_13_code 3 (some .int) ∈ rl_G := rl_wd 355 rfl rfl
set_option maxRecDepth 100000 in
theorem wd_358 : Cond.methodLink "RightsLimitLaw" 76 ⟨"RightsLimit", "counted", "(IIII)I"⟩ ∈ rl_G := rl_wd 358 rfl rfl
set_option maxRecDepth 100000 in
theorem wd_359 : Cond.instanceMethod ⟨"RightsLimit", "counted", "(IIII)I"⟩ ∈ rl_G := rl_wd 359 rfl rfl
set_option maxRecDepth 100000 in
theorem wd_360 : Cond.selects "RightsLimit" ⟨"RightsLimit", "counted", "(IIII)I"⟩ ⟨"RightsLimit", "counted", "(IIII)I"⟩ ∈ rl_G := rl_wd 360 rfl rfl
set_option maxRecDepth 100000 in
theorem wd_361 : Cond.code ⟨"RightsLimit", "counted", "(IIII)I"⟩ prog_1_method_14_code 5 (some .int) ∈ rl_G := rl_wd 361 rfl rfl
set_option maxRecDepth 100000 in
theorem wd_362 : Cond.methodLink "RightsLimitLaw" 86 ⟨"RightsLimit", "left", "(I)I"⟩ ∈ rl_G := rl_wd 362 rfl rfl
set_option maxRecDepth 100000 in
theorem wd_363 : Cond.instanceMethod ⟨"RightsLimit", "left", "(I)I"⟩ ∈ rl_G := rl_wd 363 rfl rfl
set_option maxRecDepth 100000 in
theorem wd_364 : Cond.selects "RightsLimit" ⟨"RightsLimit", "left", "(I)I"⟩ ⟨"RightsLimit", "left", "(I)I"⟩ ∈ rl_G := rl_wd 364 rfl rfl
set_option maxRecDepth 100000 in
theorem wd_365 : Cond.code ⟨"RightsLimit", "left", "(I)I"⟩ prog_1_method_16_code 2 (some .int) ∈ rl_G := rl_wd 365 rfl rfl
set_option maxRecDepth 100000 in
theorem wd_370 : Cond.methodLink "RightsLimitLaw" 90 ⟨"RightsLimit", "statistics", "(II)I"⟩ ∈ rl_G := rl_wd 370 rfl rfl
set_option maxRecDepth 100000 in
theorem wd_371 : Cond.instanceMethod ⟨"RightsLimit", "statistics", "(II)I"⟩ ∈ rl_G := rl_wd 371 rfl rfl
set_option maxRecDepth 100000 in
theorem wd_372 : Cond.selects "RightsLimit" ⟨"RightsLimit", "statistics", "(II)I"⟩ ⟨"RightsLimit", "statistics", "(II)I"⟩ ∈ rl_G := rl_wd 372 rfl rfl
set_option maxRecDepth 100000 in
theorem wd_373 : Cond.code ⟨"RightsLimit", "statistics", "(II)I"⟩ prog_1_method_17_code 3 (some .int) ∈ rl_G := rl_wd 373 rfl rfl
set_option maxRecDepth 100000 in
theorem wd_390 : Cond.methodLink "RightsLimitLaw" 80 ⟨"RightsLimitLaw", "request", "(LRightsLimit;II[J)I"⟩ ∈ rl_G := rl_wd 390 rfl rfl
set_option maxRecDepth 100000 in
theorem wd_391 : Cond.static ⟨"RightsLimitLaw", "request", "(LRightsLimit;II[J)I"⟩ ∈ rl_G := rl_wd 391 rfl rfl
set_option maxRecDepth 100000 in
theorem wd_392 : Cond.codeWith ⟨"RightsLimitLaw", "request", "(LRightsLimit;II[J)I"⟩ method_3_code 5 (some .int) [(0, 10, 13, 13)] ∈ rl_G := rl_wd 392 rfl rfl
set_option maxRecDepth 100000 in
theorem wd_393 : Cond.classLink "RightsLimitLaw" 13 "java/util/NoSuchElementException" ∈ rl_G := rl_wd 393 rfl rfl
set_option maxRecDepth 100000 in
theorem wd_394 : Cond.methodLink "RightsLimitLaw" 7 ⟨"RightsLimit", "request", "(II)I"⟩ ∈ rl_G := rl_wd 394 rfl rfl
set_option maxRecDepth 100000 in
theorem wd_395 : Cond.instanceMethod ⟨"RightsLimit", "request", "(II)I"⟩ ∈ rl_G := rl_wd 395 rfl rfl
set_option maxRecDepth 100000 in
theorem wd_396 : Cond.selects "RightsLimit" ⟨"RightsLimit", "request", "(II)I"⟩ ⟨"RightsLimit", "request", "(II)I"⟩ ∈ rl_G := rl_wd 396 rfl rfl
set_option maxRecDepth 100000 in
theorem wd_397 : Cond.code ⟨"RightsLimit", "request", "(II)I"⟩ prog_1_method_15_code 3 (some .int) ∈ rl_G := rl_wd 397 rfl rfl
set_option maxRecDepth 100000 in
theorem wd_465 : Cond.methodLink "RightsLimitLaw" 94 ⟨"RightsLimitLaw", "past", "(LRightsLimit;II[J)I"⟩ ∈ rl_G := rl_wd 465 rfl rfl
set_option maxRecDepth 100000 in
theorem wd_466 : Cond.static ⟨"RightsLimitLaw", "past", "(LRightsLimit;II[J)I"⟩ ∈ rl_G := rl_wd 466 rfl rfl
set_option maxRecDepth 100000 in
theorem wd_467 : Cond.codeWith ⟨"RightsLimitLaw", "past", "(LRightsLimit;II[J)I"⟩ method_4_code 5 (some .int) [(0, 10, 13, 13)] ∈ rl_G := rl_wd 467 rfl rfl
set_option maxRecDepth 100000 in
theorem wd_468 : Cond.methodLink "RightsLimitLaw" 15 ⟨"RightsLimit", "past", "(II)I"⟩ ∈ rl_G := rl_wd 468 rfl rfl
set_option maxRecDepth 100000 in
theorem wd_469 : Cond.instanceMethod ⟨"RightsLimit", "past", "(II)I"⟩ ∈ rl_G := rl_wd 469 rfl rfl
set_option maxRecDepth 100000 in
theorem wd_470 : Cond.selects "RightsLimit" ⟨"RightsLimit", "past", "(II)I"⟩ ⟨"RightsLimit", "past", "(II)I"⟩ ∈ rl_G := rl_wd 470 rfl rfl
set_option maxRecDepth 100000 in
theorem wd_471 : Cond.code ⟨"RightsLimit", "past", "(II)I"⟩ prog_1_method_18_code 4 (some .int) ∈ rl_G := rl_wd 471 rfl rfl
set_option maxRecDepth 100000 in
theorem wd_477 : Cond.classLink "RightsLimitLaw" 19 "RightsLimitModel" ∈ rl_G := rl_wd 477 rfl rfl
set_option maxRecDepth 100000 in
theorem wd_478 : Cond.instantiable "RightsLimitModel" 33 ∈ rl_G := rl_wd 478 rfl rfl
set_option maxRecDepth 100000 in
theorem wd_479 : Cond.methodLink "RightsLimitLaw" 21 ⟨"RightsLimitModel", "<init>", "()V"⟩ ∈ rl_G := rl_wd 479 rfl rfl
set_option maxRecDepth 100000 in
theorem wd_480 : Cond.instanceMethod ⟨"RightsLimitModel", "<init>", "()V"⟩ ∈ rl_G := rl_wd 480 rfl rfl
set_option maxRecDepth 100000 in
theorem wd_481 : Cond.code ⟨"RightsLimitModel", "<init>", "()V"⟩ prog_7_method_1_code 1 none ∈ rl_G := rl_wd 481 rfl rfl
set_option maxRecDepth 100000 in
theorem wd_583 : Cond.methodLink "RightsLimitLaw" 26 ⟨"RightsLimitModel", "title", "(I)I"⟩ ∈ rl_G := rl_wd 583 rfl rfl
set_option maxRecDepth 100000 in
theorem wd_584 : Cond.instanceMethod ⟨"RightsLimitModel", "title", "(I)I"⟩ ∈ rl_G := rl_wd 584 rfl rfl
set_option maxRecDepth 100000 in
theorem wd_585 : Cond.selects "RightsLimitModel" ⟨"RightsLimitModel", "title", "(I)I"⟩ ⟨"RightsLimitModel", "title", "(I)I"⟩ ∈ rl_G := rl_wd 585 rfl rfl
set_option maxRecDepth 100000 in
theorem wd_586 : Cond.code ⟨"RightsLimitModel", "title", "(I)I"⟩ prog_7_method_6_code 2 (some .int) ∈ rl_G := rl_wd 586 rfl rfl
set_option maxRecDepth 100000 in
theorem wd_590 : Cond.methodLink "RightsLimitLaw" 31 ⟨"RightsLimitModel", "open", "(IZ)I"⟩ ∈ rl_G := rl_wd 590 rfl rfl
set_option maxRecDepth 100000 in
theorem wd_591 : Cond.instanceMethod ⟨"RightsLimitModel", "open", "(IZ)I"⟩ ∈ rl_G := rl_wd 591 rfl rfl
set_option maxRecDepth 100000 in
theorem wd_592 : Cond.selects "RightsLimitModel" ⟨"RightsLimitModel", "open", "(IZ)I"⟩ ⟨"RightsLimitModel", "open", "(IZ)I"⟩ ∈ rl_G := rl_wd 592 rfl rfl
set_option maxRecDepth 100000 in
theorem wd_593 : Cond.code ⟨"RightsLimitModel", "open", "(IZ)I"⟩ prog_7_method_7_code 3 (some .int) ∈ rl_G := rl_wd 593 rfl rfl
set_option maxRecDepth 100000 in
theorem wd_598 : Cond.methodLink "RightsLimitLaw" 36 ⟨"RightsLimitModel", "limit", "(IIII)I"⟩ ∈ rl_G := rl_wd 598 rfl rfl
set_option maxRecDepth 100000 in
theorem wd_599 : Cond.instanceMethod ⟨"RightsLimitModel", "limit", "(IIII)I"⟩ ∈ rl_G := rl_wd 599 rfl rfl
set_option maxRecDepth 100000 in
theorem wd_600 : Cond.selects "RightsLimitModel" ⟨"RightsLimitModel", "limit", "(IIII)I"⟩ ⟨"RightsLimitModel", "limit", "(IIII)I"⟩ ∈ rl_G := rl_wd 600 rfl rfl
set_option maxRecDepth 100000 in
theorem wd_601 : Cond.code ⟨"RightsLimitModel", "limit", "(IIII)I"⟩ prog_7_method_8_code 5 (some .int) ∈ rl_G := rl_wd 601 rfl rfl
set_option maxRecDepth 100000 in
theorem wd_602 : Cond.methodLink "RightsLimitLaw" 41 ⟨"RightsLimitModel", "licence", "(IIIII)I"⟩ ∈ rl_G := rl_wd 602 rfl rfl
set_option maxRecDepth 100000 in
theorem wd_603 : Cond.instanceMethod ⟨"RightsLimitModel", "licence", "(IIIII)I"⟩ ∈ rl_G := rl_wd 603 rfl rfl
set_option maxRecDepth 100000 in
theorem wd_604 : Cond.selects "RightsLimitModel" ⟨"RightsLimitModel", "licence", "(IIIII)I"⟩ ⟨"RightsLimitModel", "licence", "(IIIII)I"⟩ ∈ rl_G := rl_wd 604 rfl rfl
set_option maxRecDepth 100000 in
theorem wd_605 : Cond.code ⟨"RightsLimitModel", "licence", "(IIIII)I"⟩ prog_7_method_9_code 6 (some .int) ∈ rl_G := rl_wd 605 rfl rfl
set_option maxRecDepth 100000 in
theorem wd_607 : Cond.methodLink "RightsLimitLaw" 45 ⟨"RightsLimitModel", "fee", "(II)I"⟩ ∈ rl_G := rl_wd 607 rfl rfl
set_option maxRecDepth 100000 in
theorem wd_608 : Cond.instanceMethod ⟨"RightsLimitModel", "fee", "(II)I"⟩ ∈ rl_G := rl_wd 608 rfl rfl
set_option maxRecDepth 100000 in
theorem wd_609 : Cond.selects "RightsLimitModel" ⟨"RightsLimitModel", "fee", "(II)I"⟩ ⟨"RightsLimitModel", "fee", "(II)I"⟩ ∈ rl_G := rl_wd 609 rfl rfl
set_option maxRecDepth 100000 in
theorem wd_610 : Cond.code ⟨"RightsLimitModel", "fee", "(II)I"⟩ prog_7_method_10_code 3 (some .int) ∈ rl_G := rl_wd 610 rfl rfl
set_option maxRecDepth 100000 in
theorem wd_611 : Cond.methodLink "RightsLimitLaw" 49 ⟨"RightsLimitModel", "ask", "(IIIII)I"⟩ ∈ rl_G := rl_wd 611 rfl rfl
set_option maxRecDepth 100000 in
theorem wd_612 : Cond.instanceMethod ⟨"RightsLimitModel", "ask", "(IIIII)I"⟩ ∈ rl_G := rl_wd 612 rfl rfl
set_option maxRecDepth 100000 in
theorem wd_613 : Cond.selects "RightsLimitModel" ⟨"RightsLimitModel", "ask", "(IIIII)I"⟩ ⟨"RightsLimitModel", "ask", "(IIIII)I"⟩ ∈ rl_G := rl_wd 613 rfl rfl
set_option maxRecDepth 100000 in
theorem wd_614 : Cond.code ⟨"RightsLimitModel", "ask", "(IIIII)I"⟩ prog_7_method_15_code 8 (some .int) ∈ rl_G := rl_wd 614 rfl rfl
set_option maxRecDepth 100000 in
theorem wd_637 : Cond.methodLink "RightsLimitLaw" 54 ⟨"RightsLimitModel", "why", "()I"⟩ ∈ rl_G := rl_wd 637 rfl rfl
set_option maxRecDepth 100000 in
theorem wd_638 : Cond.instanceMethod ⟨"RightsLimitModel", "why", "()I"⟩ ∈ rl_G := rl_wd 638 rfl rfl
set_option maxRecDepth 100000 in
theorem wd_639 : Cond.selects "RightsLimitModel" ⟨"RightsLimitModel", "why", "()I"⟩ ⟨"RightsLimitModel", "why", "()I"⟩ ∈ rl_G := rl_wd 639 rfl rfl
set_option maxRecDepth 100000 in
theorem wd_640 : Cond.code ⟨"RightsLimitModel", "why", "()I"⟩ prog_7_method_16_code 1 (some .int) ∈ rl_G := rl_wd 640 rfl rfl
set_option maxRecDepth 100000 in
theorem wd_641 : Cond.methodLink "RightsLimitLaw" 59 ⟨"RightsLimitModel", "give", "(IIZ)I"⟩ ∈ rl_G := rl_wd 641 rfl rfl
set_option maxRecDepth 100000 in
theorem wd_642 : Cond.instanceMethod ⟨"RightsLimitModel", "give", "(IIZ)I"⟩ ∈ rl_G := rl_wd 642 rfl rfl
set_option maxRecDepth 100000 in
theorem wd_643 : Cond.selects "RightsLimitModel" ⟨"RightsLimitModel", "give", "(IIZ)I"⟩ ⟨"RightsLimitModel", "give", "(IIZ)I"⟩ ∈ rl_G := rl_wd 643 rfl rfl
set_option maxRecDepth 100000 in
theorem wd_644 : Cond.code ⟨"RightsLimitModel", "give", "(IIZ)I"⟩ prog_7_method_17_code 4 (some .int) ∈ rl_G := rl_wd 644 rfl rfl
set_option maxRecDepth 100000 in
theorem wd_645 : Cond.methodLink "RightsLimitLaw" 63 ⟨"RightsLimitModel", "right", "(II)I"⟩ ∈ rl_G := rl_wd 645 rfl rfl
set_option maxRecDepth 100000 in
theorem wd_646 : Cond.instanceMethod ⟨"RightsLimitModel", "right", "(II)I"⟩ ∈ rl_G := rl_wd 646 rfl rfl
set_option maxRecDepth 100000 in
theorem wd_647 : Cond.selects "RightsLimitModel" ⟨"RightsLimitModel", "right", "(II)I"⟩ ⟨"RightsLimitModel", "right", "(II)I"⟩ ∈ rl_G := rl_wd 647 rfl rfl
set_option maxRecDepth 100000 in
theorem wd_648 : Cond.code ⟨"RightsLimitModel", "right", "(II)I"⟩ prog_7_method_18_code 3 (some .int) ∈ rl_G := rl_wd 648 rfl rfl
set_option maxRecDepth 100000 in
theorem wd_649 : Cond.methodLink "RightsLimitLaw" 67 ⟨"RightsLimitModel", "waive", "(II)I"⟩ ∈ rl_G := rl_wd 649 rfl rfl
set_option maxRecDepth 100000 in
theorem wd_650 : Cond.instanceMethod ⟨"RightsLimitModel", "waive", "(II)I"⟩ ∈ rl_G := rl_wd 650 rfl rfl
set_option maxRecDepth 100000 in
theorem wd_651 : Cond.selects "RightsLimitModel" ⟨"RightsLimitModel", "waive", "(II)I"⟩ ⟨"RightsLimitModel", "waive", "(II)I"⟩ ∈ rl_G := rl_wd 651 rfl rfl
set_option maxRecDepth 100000 in
theorem wd_652 : Cond.code ⟨"RightsLimitModel", "waive", "(II)I"⟩ prog_7_method_19_code 3 (some .int) ∈ rl_G := rl_wd 652 rfl rfl
set_option maxRecDepth 100000 in
theorem wd_653 : Cond.methodLink "RightsLimitLaw" 71 ⟨"RightsLimitModel", "renew", "(II)I"⟩ ∈ rl_G := rl_wd 653 rfl rfl
set_option maxRecDepth 100000 in
theorem wd_654 : Cond.instanceMethod ⟨"RightsLimitModel", "renew", "(II)I"⟩ ∈ rl_G := rl_wd 654 rfl rfl
set_option maxRecDepth 100000 in
theorem wd_655 : Cond.selects "RightsLimitModel" ⟨"RightsLimitModel", "renew", "(II)I"⟩ ⟨"RightsLimitModel", "renew", "(II)I"⟩ ∈ rl_G := rl_wd 655 rfl rfl
set_option maxRecDepth 100000 in
theorem wd_656 : Cond.code ⟨"RightsLimitModel", "renew", "(II)I"⟩ prog_7_method_20_code 3 (some .int) ∈ rl_G := rl_wd 656 rfl rfl
set_option maxRecDepth 100000 in
theorem wd_657 : Cond.methodLink "RightsLimitLaw" 75 ⟨"RightsLimitModel", "delete", "(II)I"⟩ ∈ rl_G := rl_wd 657 rfl rfl
set_option maxRecDepth 100000 in
theorem wd_658 : Cond.instanceMethod ⟨"RightsLimitModel", "delete", "(II)I"⟩ ∈ rl_G := rl_wd 658 rfl rfl
set_option maxRecDepth 100000 in
theorem wd_659 : Cond.selects "RightsLimitModel" ⟨"RightsLimitModel", "delete", "(II)I"⟩ ⟨"RightsLimitModel", "delete", "(II)I"⟩ ∈ rl_G := rl_wd 659 rfl rfl
set_option maxRecDepth 100000 in
theorem wd_660 : Cond.code ⟨"RightsLimitModel", "delete", "(II)I"⟩ prog_7_method_21_code 3 (some .int) ∈ rl_G := rl_wd 660 rfl rfl
set_option maxRecDepth 100000 in
theorem wd_661 : Cond.methodLink "RightsLimitLaw" 79 ⟨"RightsLimitModel", "counted", "(IIII)I"⟩ ∈ rl_G := rl_wd 661 rfl rfl
set_option maxRecDepth 100000 in
theorem wd_662 : Cond.instanceMethod ⟨"RightsLimitModel", "counted", "(IIII)I"⟩ ∈ rl_G := rl_wd 662 rfl rfl
set_option maxRecDepth 100000 in
theorem wd_663 : Cond.selects "RightsLimitModel" ⟨"RightsLimitModel", "counted", "(IIII)I"⟩ ⟨"RightsLimitModel", "counted", "(IIII)I"⟩ ∈ rl_G := rl_wd 663 rfl rfl
set_option maxRecDepth 100000 in
theorem wd_664 : Cond.code ⟨"RightsLimitModel", "counted", "(IIII)I"⟩ prog_7_method_22_code 5 (some .int) ∈ rl_G := rl_wd 664 rfl rfl
set_option maxRecDepth 100000 in
theorem wd_665 : Cond.methodLink "RightsLimitLaw" 85 ⟨"RightsLimitModel", "request", "(II)I"⟩ ∈ rl_G := rl_wd 665 rfl rfl
set_option maxRecDepth 100000 in
theorem wd_666 : Cond.instanceMethod ⟨"RightsLimitModel", "request", "(II)I"⟩ ∈ rl_G := rl_wd 666 rfl rfl
set_option maxRecDepth 100000 in
theorem wd_667 : Cond.selects "RightsLimitModel" ⟨"RightsLimitModel", "request", "(II)I"⟩ ⟨"RightsLimitModel", "request", "(II)I"⟩ ∈ rl_G := rl_wd 667 rfl rfl
set_option maxRecDepth 100000 in
theorem wd_668 : Cond.code ⟨"RightsLimitModel", "request", "(II)I"⟩ prog_7_method_24_code 3 (some .int) ∈ rl_G := rl_wd 668 rfl rfl
set_option maxRecDepth 100000 in
theorem wd_673 : Cond.methodLink "RightsLimitLaw" 89 ⟨"RightsLimitModel", "left", "(I)I"⟩ ∈ rl_G := rl_wd 673 rfl rfl
set_option maxRecDepth 100000 in
theorem wd_674 : Cond.instanceMethod ⟨"RightsLimitModel", "left", "(I)I"⟩ ∈ rl_G := rl_wd 674 rfl rfl
set_option maxRecDepth 100000 in
theorem wd_675 : Cond.selects "RightsLimitModel" ⟨"RightsLimitModel", "left", "(I)I"⟩ ⟨"RightsLimitModel", "left", "(I)I"⟩ ∈ rl_G := rl_wd 675 rfl rfl
set_option maxRecDepth 100000 in
theorem wd_676 : Cond.code ⟨"RightsLimitModel", "left", "(I)I"⟩ prog_7_method_25_code 2 (some .int) ∈ rl_G := rl_wd 676 rfl rfl
set_option maxRecDepth 100000 in
theorem wd_677 : Cond.methodLink "RightsLimitLaw" 93 ⟨"RightsLimitModel", "statistics", "(II)I"⟩ ∈ rl_G := rl_wd 677 rfl rfl
set_option maxRecDepth 100000 in
theorem wd_678 : Cond.instanceMethod ⟨"RightsLimitModel", "statistics", "(II)I"⟩ ∈ rl_G := rl_wd 678 rfl rfl
set_option maxRecDepth 100000 in
theorem wd_679 : Cond.selects "RightsLimitModel" ⟨"RightsLimitModel", "statistics", "(II)I"⟩ ⟨"RightsLimitModel", "statistics", "(II)I"⟩ ∈ rl_G := rl_wd 679 rfl rfl
set_option maxRecDepth 100000 in
theorem wd_680 : Cond.code ⟨"RightsLimitModel", "statistics", "(II)I"⟩ prog_7_method_26_code 5 (some .int) ∈ rl_G := rl_wd 680 rfl rfl
set_option maxRecDepth 100000 in
theorem wd_681 : Cond.methodLink "RightsLimitLaw" 96 ⟨"RightsLimitModel", "past", "(II)I"⟩ ∈ rl_G := rl_wd 681 rfl rfl
set_option maxRecDepth 100000 in
theorem wd_682 : Cond.instanceMethod ⟨"RightsLimitModel", "past", "(II)I"⟩ ∈ rl_G := rl_wd 682 rfl rfl
set_option maxRecDepth 100000 in
theorem wd_683 : Cond.selects "RightsLimitModel" ⟨"RightsLimitModel", "past", "(II)I"⟩ ⟨"RightsLimitModel", "past", "(II)I"⟩ ∈ rl_G := rl_wd 683 rfl rfl
set_option maxRecDepth 100000 in
theorem wd_684 : Cond.code ⟨"RightsLimitModel", "past", "(II)I"⟩ prog_7_method_27_code 5 (some .int) ∈ rl_G := rl_wd 684 rfl rfl
set_option maxRecDepth 100000 in
theorem wd_685 : Cond.arrayClass .long ∈ rl_G := rl_wd 685 rfl rfl
