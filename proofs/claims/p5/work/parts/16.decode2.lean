theorem d_w_law_0 : decode code 0 = .ok (.new 8, 3) := by decide +kernel
theorem d_w_law_3 : decode code 3 = .ok (.dup, 1) := by decide +kernel
theorem d_w_law_4 : decode code 4 = .ok (.invokespecial 18, 3) := by decide +kernel
theorem d_w_law_7 : decode code 7 = .ok (.astore_n 1, 1) := by decide +kernel
theorem d_w_law_8 : decode code 8 = .ok (.new 19, 3) := by decide +kernel
theorem d_w_law_11 : decode code 11 = .ok (.dup, 1) := by decide +kernel
theorem d_w_law_12 : decode code 12 = .ok (.invokespecial 21, 3) := by decide +kernel
theorem d_w_law_15 : decode code 15 = .ok (.astore_n 2, 1) := by decide +kernel
theorem d_w_law_16 : decode code 16 = .ok (.iconst 1, 1) := by decide +kernel
theorem d_w_law_17 : decode code 17 = .ok (.newarray .long, 2) := by decide +kernel
theorem d_w_law_19 : decode code 19 = .ok (.astore_n 3, 1) := by decide +kernel
theorem d_w_law_20 : decode code 20 = .ok (.iconst 0, 1) := by decide +kernel
theorem d_w_law_21 : decode code 21 = .ok (.istore 4, 2) := by decide +kernel
theorem d_w_law_23 : decode code 23 = .ok (.iload 4, 2) := by decide +kernel
theorem d_w_law_25 : decode code 25 = .ok (.aload_n 0, 1) := by decide +kernel
theorem d_w_law_26 : decode code 26 = .ok (.arraylength, 1) := by decide +kernel
theorem d_w_law_27 : decode code 27 = .ok (.bipush 6, 2) := by decide +kernel
theorem d_w_law_29 : decode code 29 = .ok (.isub, 1) := by decide +kernel
theorem d_w_law_30 : decode code 30 = .ok (.if_icmp .gt 851, 3) := by decide +kernel
theorem d_w_law_33 : decode code 33 = .ok (.aload_n 0, 1) := by decide +kernel
theorem d_w_law_34 : decode code 34 = .ok (.iload 4, 2) := by decide +kernel
theorem d_w_law_36 : decode code 36 = .ok (.iaload, 1) := by decide +kernel
theorem d_w_law_37 : decode code 37 = .ok (.bipush 31, 2) := by decide +kernel
theorem d_w_law_39 : decode code 39 = .ok (.iand, 1) := by decide +kernel
theorem d_w_law_40 : decode code 40 = .ok (.tableswitch 835 0 16 #[84, 109, 162, 223, 296, 333, 406, 419, 484, 521, 558, 595, 632, 693, 733, 758, 795], 84) := by decide +kernel
theorem d_w_law_124 : decode code 124 = .ok (.aload_n 1, 1) := by decide +kernel
theorem d_w_law_125 : decode code 125 = .ok (.aload_n 0, 1) := by decide +kernel
theorem d_w_law_126 : decode code 126 = .ok (.iload 4, 2) := by decide +kernel
theorem d_w_law_128 : decode code 128 = .ok (.iconst 1, 1) := by decide +kernel
theorem d_w_law_129 : decode code 129 = .ok (.iadd, 1) := by decide +kernel
theorem d_w_law_130 : decode code 130 = .ok (.iaload, 1) := by decide +kernel
theorem d_w_law_131 : decode code 131 = .ok (.invokevirtual 22, 3) := by decide +kernel
theorem d_w_law_134 : decode code 134 = .ok (.pop, 1) := by decide +kernel
theorem d_w_law_135 : decode code 135 = .ok (.aload_n 2, 1) := by decide +kernel
theorem d_w_law_136 : decode code 136 = .ok (.aload_n 0, 1) := by decide +kernel
theorem d_w_law_137 : decode code 137 = .ok (.iload 4, 2) := by decide +kernel
theorem d_w_law_139 : decode code 139 = .ok (.iconst 1, 1) := by decide +kernel
theorem d_w_law_140 : decode code 140 = .ok (.iadd, 1) := by decide +kernel
theorem d_w_law_141 : decode code 141 = .ok (.iaload, 1) := by decide +kernel
theorem d_w_law_142 : decode code 142 = .ok (.invokevirtual 26, 3) := by decide +kernel
theorem d_w_law_145 : decode code 145 = .ok (.pop, 1) := by decide +kernel
theorem d_w_law_146 : decode code 146 = .ok (.goto 729, 3) := by decide +kernel
theorem d_w_law_149 : decode code 149 = .ok (.aload_n 1, 1) := by decide +kernel
theorem d_w_law_150 : decode code 150 = .ok (.aload_n 0, 1) := by decide +kernel
theorem d_w_law_151 : decode code 151 = .ok (.iload 4, 2) := by decide +kernel
theorem d_w_law_153 : decode code 153 = .ok (.iconst 1, 1) := by decide +kernel
theorem d_w_law_154 : decode code 154 = .ok (.iadd, 1) := by decide +kernel
theorem d_w_law_155 : decode code 155 = .ok (.iaload, 1) := by decide +kernel
theorem d_w_law_156 : decode code 156 = .ok (.aload_n 0, 1) := by decide +kernel
theorem d_w_law_157 : decode code 157 = .ok (.iload 4, 2) := by decide +kernel
theorem d_w_law_159 : decode code 159 = .ok (.iconst 2, 1) := by decide +kernel
theorem d_w_law_160 : decode code 160 = .ok (.iadd, 1) := by decide +kernel
theorem d_w_law_161 : decode code 161 = .ok (.iaload, 1) := by decide +kernel
theorem d_w_law_162 : decode code 162 = .ok (.ifCond .eq 7, 3) := by decide +kernel
theorem d_w_law_165 : decode code 165 = .ok (.iconst 1, 1) := by decide +kernel
theorem d_w_law_166 : decode code 166 = .ok (.goto 4, 3) := by decide +kernel
theorem d_w_law_169 : decode code 169 = .ok (.iconst 0, 1) := by decide +kernel
theorem d_w_law_170 : decode code 170 = .ok (.invokevirtual 27, 3) := by decide +kernel
theorem d_w_law_173 : decode code 173 = .ok (.pop, 1) := by decide +kernel
theorem d_w_law_174 : decode code 174 = .ok (.aload_n 2, 1) := by decide +kernel
theorem d_w_law_175 : decode code 175 = .ok (.aload_n 0, 1) := by decide +kernel
theorem d_w_law_176 : decode code 176 = .ok (.iload 4, 2) := by decide +kernel
theorem d_w_law_178 : decode code 178 = .ok (.iconst 1, 1) := by decide +kernel
theorem d_w_law_179 : decode code 179 = .ok (.iadd, 1) := by decide +kernel
theorem d_w_law_180 : decode code 180 = .ok (.iaload, 1) := by decide +kernel
theorem d_w_law_181 : decode code 181 = .ok (.aload_n 0, 1) := by decide +kernel
theorem d_w_law_182 : decode code 182 = .ok (.iload 4, 2) := by decide +kernel
theorem d_w_law_184 : decode code 184 = .ok (.iconst 2, 1) := by decide +kernel
theorem d_w_law_185 : decode code 185 = .ok (.iadd, 1) := by decide +kernel
theorem d_w_law_186 : decode code 186 = .ok (.iaload, 1) := by decide +kernel
theorem d_w_law_187 : decode code 187 = .ok (.ifCond .eq 7, 3) := by decide +kernel
theorem d_w_law_190 : decode code 190 = .ok (.iconst 1, 1) := by decide +kernel
theorem d_w_law_191 : decode code 191 = .ok (.goto 4, 3) := by decide +kernel
theorem d_w_law_194 : decode code 194 = .ok (.iconst 0, 1) := by decide +kernel
theorem d_w_law_195 : decode code 195 = .ok (.invokevirtual 31, 3) := by decide +kernel
theorem d_w_law_198 : decode code 198 = .ok (.pop, 1) := by decide +kernel
theorem d_w_law_199 : decode code 199 = .ok (.goto 676, 3) := by decide +kernel
theorem d_w_law_202 : decode code 202 = .ok (.aload_n 1, 1) := by decide +kernel
theorem d_w_law_203 : decode code 203 = .ok (.aload_n 0, 1) := by decide +kernel
theorem d_w_law_204 : decode code 204 = .ok (.iload 4, 2) := by decide +kernel
theorem d_w_law_206 : decode code 206 = .ok (.iconst 1, 1) := by decide +kernel
theorem d_w_law_207 : decode code 207 = .ok (.iadd, 1) := by decide +kernel
theorem d_w_law_208 : decode code 208 = .ok (.iaload, 1) := by decide +kernel
theorem d_w_law_209 : decode code 209 = .ok (.aload_n 0, 1) := by decide +kernel
theorem d_w_law_210 : decode code 210 = .ok (.iload 4, 2) := by decide +kernel
theorem d_w_law_212 : decode code 212 = .ok (.iconst 2, 1) := by decide +kernel
theorem d_w_law_213 : decode code 213 = .ok (.iadd, 1) := by decide +kernel
theorem d_w_law_214 : decode code 214 = .ok (.iaload, 1) := by decide +kernel
theorem d_w_law_215 : decode code 215 = .ok (.aload_n 0, 1) := by decide +kernel
theorem d_w_law_216 : decode code 216 = .ok (.iload 4, 2) := by decide +kernel
theorem d_w_law_218 : decode code 218 = .ok (.iconst 3, 1) := by decide +kernel
theorem d_w_law_219 : decode code 219 = .ok (.iadd, 1) := by decide +kernel
theorem d_w_law_220 : decode code 220 = .ok (.iaload, 1) := by decide +kernel
theorem d_w_law_221 : decode code 221 = .ok (.aload_n 0, 1) := by decide +kernel
theorem d_w_law_222 : decode code 222 = .ok (.iload 4, 2) := by decide +kernel
theorem d_w_law_224 : decode code 224 = .ok (.iconst 4, 1) := by decide +kernel
theorem d_w_law_225 : decode code 225 = .ok (.iadd, 1) := by decide +kernel
theorem d_w_law_226 : decode code 226 = .ok (.iaload, 1) := by decide +kernel
theorem d_w_law_227 : decode code 227 = .ok (.invokevirtual 32, 3) := by decide +kernel
theorem d_w_law_230 : decode code 230 = .ok (.pop, 1) := by decide +kernel
theorem d_w_law_231 : decode code 231 = .ok (.aload_n 2, 1) := by decide +kernel
theorem d_w_law_232 : decode code 232 = .ok (.aload_n 0, 1) := by decide +kernel
theorem d_w_law_233 : decode code 233 = .ok (.iload 4, 2) := by decide +kernel
theorem d_w_law_235 : decode code 235 = .ok (.iconst 1, 1) := by decide +kernel
theorem d_w_law_236 : decode code 236 = .ok (.iadd, 1) := by decide +kernel
theorem d_w_law_237 : decode code 237 = .ok (.iaload, 1) := by decide +kernel
theorem d_w_law_238 : decode code 238 = .ok (.aload_n 0, 1) := by decide +kernel
theorem d_w_law_239 : decode code 239 = .ok (.iload 4, 2) := by decide +kernel
theorem d_w_law_241 : decode code 241 = .ok (.iconst 2, 1) := by decide +kernel
theorem d_w_law_242 : decode code 242 = .ok (.iadd, 1) := by decide +kernel
theorem d_w_law_243 : decode code 243 = .ok (.iaload, 1) := by decide +kernel
theorem d_w_law_244 : decode code 244 = .ok (.aload_n 0, 1) := by decide +kernel
theorem d_w_law_245 : decode code 245 = .ok (.iload 4, 2) := by decide +kernel
theorem d_w_law_247 : decode code 247 = .ok (.iconst 3, 1) := by decide +kernel
theorem d_w_law_248 : decode code 248 = .ok (.iadd, 1) := by decide +kernel
theorem d_w_law_249 : decode code 249 = .ok (.iaload, 1) := by decide +kernel
theorem d_w_law_250 : decode code 250 = .ok (.aload_n 0, 1) := by decide +kernel
theorem d_w_law_251 : decode code 251 = .ok (.iload 4, 2) := by decide +kernel
theorem d_w_law_253 : decode code 253 = .ok (.iconst 4, 1) := by decide +kernel
theorem d_w_law_254 : decode code 254 = .ok (.iadd, 1) := by decide +kernel
theorem d_w_law_255 : decode code 255 = .ok (.iaload, 1) := by decide +kernel
theorem d_w_law_256 : decode code 256 = .ok (.invokevirtual 36, 3) := by decide +kernel
theorem d_w_law_259 : decode code 259 = .ok (.pop, 1) := by decide +kernel
theorem d_w_law_260 : decode code 260 = .ok (.goto 615, 3) := by decide +kernel
theorem d_w_law_263 : decode code 263 = .ok (.aload_n 1, 1) := by decide +kernel
theorem d_w_law_264 : decode code 264 = .ok (.aload_n 0, 1) := by decide +kernel
theorem d_w_law_265 : decode code 265 = .ok (.iload 4, 2) := by decide +kernel
theorem d_w_law_267 : decode code 267 = .ok (.iconst 1, 1) := by decide +kernel
theorem d_w_law_268 : decode code 268 = .ok (.iadd, 1) := by decide +kernel
theorem d_w_law_269 : decode code 269 = .ok (.iaload, 1) := by decide +kernel
theorem d_w_law_270 : decode code 270 = .ok (.aload_n 0, 1) := by decide +kernel
theorem d_w_law_271 : decode code 271 = .ok (.iload 4, 2) := by decide +kernel
theorem d_w_law_273 : decode code 273 = .ok (.iconst 2, 1) := by decide +kernel
theorem d_w_law_274 : decode code 274 = .ok (.iadd, 1) := by decide +kernel
theorem d_w_law_275 : decode code 275 = .ok (.iaload, 1) := by decide +kernel
theorem d_w_law_276 : decode code 276 = .ok (.aload_n 0, 1) := by decide +kernel
theorem d_w_law_277 : decode code 277 = .ok (.iload 4, 2) := by decide +kernel
theorem d_w_law_279 : decode code 279 = .ok (.iconst 3, 1) := by decide +kernel
theorem d_w_law_280 : decode code 280 = .ok (.iadd, 1) := by decide +kernel
theorem d_w_law_281 : decode code 281 = .ok (.iaload, 1) := by decide +kernel
theorem d_w_law_282 : decode code 282 = .ok (.aload_n 0, 1) := by decide +kernel
theorem d_w_law_283 : decode code 283 = .ok (.iload 4, 2) := by decide +kernel
theorem d_w_law_285 : decode code 285 = .ok (.iconst 4, 1) := by decide +kernel
theorem d_w_law_286 : decode code 286 = .ok (.iadd, 1) := by decide +kernel
theorem d_w_law_287 : decode code 287 = .ok (.iaload, 1) := by decide +kernel
theorem d_w_law_288 : decode code 288 = .ok (.aload_n 0, 1) := by decide +kernel
theorem d_w_law_289 : decode code 289 = .ok (.iload 4, 2) := by decide +kernel
theorem d_w_law_291 : decode code 291 = .ok (.iconst 5, 1) := by decide +kernel
theorem d_w_law_292 : decode code 292 = .ok (.iadd, 1) := by decide +kernel
theorem d_w_law_293 : decode code 293 = .ok (.iaload, 1) := by decide +kernel
theorem d_w_law_294 : decode code 294 = .ok (.invokevirtual 37, 3) := by decide +kernel
theorem d_w_law_297 : decode code 297 = .ok (.aload_n 2, 1) := by decide +kernel
theorem d_w_law_298 : decode code 298 = .ok (.aload_n 0, 1) := by decide +kernel
theorem d_w_law_299 : decode code 299 = .ok (.iload 4, 2) := by decide +kernel
theorem d_w_law_301 : decode code 301 = .ok (.iconst 1, 1) := by decide +kernel
theorem d_w_law_302 : decode code 302 = .ok (.iadd, 1) := by decide +kernel
theorem d_w_law_303 : decode code 303 = .ok (.iaload, 1) := by decide +kernel
theorem d_w_law_304 : decode code 304 = .ok (.aload_n 0, 1) := by decide +kernel
theorem d_w_law_305 : decode code 305 = .ok (.iload 4, 2) := by decide +kernel
theorem d_w_law_307 : decode code 307 = .ok (.iconst 2, 1) := by decide +kernel
theorem d_w_law_308 : decode code 308 = .ok (.iadd, 1) := by decide +kernel
theorem d_w_law_309 : decode code 309 = .ok (.iaload, 1) := by decide +kernel
theorem d_w_law_310 : decode code 310 = .ok (.aload_n 0, 1) := by decide +kernel
theorem d_w_law_311 : decode code 311 = .ok (.iload 4, 2) := by decide +kernel
theorem d_w_law_313 : decode code 313 = .ok (.iconst 3, 1) := by decide +kernel
theorem d_w_law_314 : decode code 314 = .ok (.iadd, 1) := by decide +kernel
theorem d_w_law_315 : decode code 315 = .ok (.iaload, 1) := by decide +kernel
theorem d_w_law_316 : decode code 316 = .ok (.aload_n 0, 1) := by decide +kernel
theorem d_w_law_317 : decode code 317 = .ok (.iload 4, 2) := by decide +kernel
theorem d_w_law_319 : decode code 319 = .ok (.iconst 4, 1) := by decide +kernel
theorem d_w_law_320 : decode code 320 = .ok (.iadd, 1) := by decide +kernel
theorem d_w_law_321 : decode code 321 = .ok (.iaload, 1) := by decide +kernel
theorem d_w_law_322 : decode code 322 = .ok (.aload_n 0, 1) := by decide +kernel
theorem d_w_law_323 : decode code 323 = .ok (.iload 4, 2) := by decide +kernel
theorem d_w_law_325 : decode code 325 = .ok (.iconst 5, 1) := by decide +kernel
theorem d_w_law_326 : decode code 326 = .ok (.iadd, 1) := by decide +kernel
theorem d_w_law_327 : decode code 327 = .ok (.iaload, 1) := by decide +kernel
theorem d_w_law_328 : decode code 328 = .ok (.invokevirtual 41, 3) := by decide +kernel
theorem d_w_law_331 : decode code 331 = .ok (.if_icmp .eq 544, 3) := by decide +kernel
theorem d_w_law_336 : decode code 336 = .ok (.aload_n 1, 1) := by decide +kernel
theorem d_w_law_337 : decode code 337 = .ok (.aload_n 0, 1) := by decide +kernel
theorem d_w_law_338 : decode code 338 = .ok (.iload 4, 2) := by decide +kernel
theorem d_w_law_340 : decode code 340 = .ok (.iconst 1, 1) := by decide +kernel
theorem d_w_law_341 : decode code 341 = .ok (.iadd, 1) := by decide +kernel
theorem d_w_law_342 : decode code 342 = .ok (.iaload, 1) := by decide +kernel
theorem d_w_law_343 : decode code 343 = .ok (.aload_n 0, 1) := by decide +kernel
theorem d_w_law_344 : decode code 344 = .ok (.iload 4, 2) := by decide +kernel
theorem d_w_law_346 : decode code 346 = .ok (.iconst 2, 1) := by decide +kernel
theorem d_w_law_347 : decode code 347 = .ok (.iadd, 1) := by decide +kernel
theorem d_w_law_348 : decode code 348 = .ok (.iaload, 1) := by decide +kernel
theorem d_w_law_349 : decode code 349 = .ok (.invokevirtual 42, 3) := by decide +kernel
theorem d_w_law_352 : decode code 352 = .ok (.pop, 1) := by decide +kernel
theorem d_w_law_353 : decode code 353 = .ok (.aload_n 2, 1) := by decide +kernel
theorem d_w_law_354 : decode code 354 = .ok (.aload_n 0, 1) := by decide +kernel
theorem d_w_law_355 : decode code 355 = .ok (.iload 4, 2) := by decide +kernel
theorem d_w_law_357 : decode code 357 = .ok (.iconst 1, 1) := by decide +kernel
theorem d_w_law_358 : decode code 358 = .ok (.iadd, 1) := by decide +kernel
theorem d_w_law_359 : decode code 359 = .ok (.iaload, 1) := by decide +kernel
theorem d_w_law_360 : decode code 360 = .ok (.aload_n 0, 1) := by decide +kernel
theorem d_w_law_361 : decode code 361 = .ok (.iload 4, 2) := by decide +kernel
theorem d_w_law_363 : decode code 363 = .ok (.iconst 2, 1) := by decide +kernel
theorem d_w_law_364 : decode code 364 = .ok (.iadd, 1) := by decide +kernel
theorem d_w_law_365 : decode code 365 = .ok (.iaload, 1) := by decide +kernel
theorem d_w_law_366 : decode code 366 = .ok (.invokevirtual 45, 3) := by decide +kernel
theorem d_w_law_369 : decode code 369 = .ok (.pop, 1) := by decide +kernel
theorem d_w_law_370 : decode code 370 = .ok (.goto 505, 3) := by decide +kernel
theorem d_w_law_373 : decode code 373 = .ok (.aload_n 1, 1) := by decide +kernel
theorem d_w_law_374 : decode code 374 = .ok (.aload_n 0, 1) := by decide +kernel
theorem d_w_law_375 : decode code 375 = .ok (.iload 4, 2) := by decide +kernel
theorem d_w_law_377 : decode code 377 = .ok (.iconst 1, 1) := by decide +kernel
theorem d_w_law_378 : decode code 378 = .ok (.iadd, 1) := by decide +kernel
theorem d_w_law_379 : decode code 379 = .ok (.iaload, 1) := by decide +kernel
theorem d_w_law_380 : decode code 380 = .ok (.aload_n 0, 1) := by decide +kernel
theorem d_w_law_381 : decode code 381 = .ok (.iload 4, 2) := by decide +kernel
theorem d_w_law_383 : decode code 383 = .ok (.iconst 2, 1) := by decide +kernel
theorem d_w_law_384 : decode code 384 = .ok (.iadd, 1) := by decide +kernel
theorem d_w_law_385 : decode code 385 = .ok (.iaload, 1) := by decide +kernel
theorem d_w_law_386 : decode code 386 = .ok (.aload_n 0, 1) := by decide +kernel
theorem d_w_law_387 : decode code 387 = .ok (.iload 4, 2) := by decide +kernel
theorem d_w_law_389 : decode code 389 = .ok (.iconst 3, 1) := by decide +kernel
theorem d_w_law_390 : decode code 390 = .ok (.iadd, 1) := by decide +kernel
theorem d_w_law_391 : decode code 391 = .ok (.iaload, 1) := by decide +kernel
theorem d_w_law_392 : decode code 392 = .ok (.aload_n 0, 1) := by decide +kernel
theorem d_w_law_393 : decode code 393 = .ok (.iload 4, 2) := by decide +kernel
theorem d_w_law_395 : decode code 395 = .ok (.iconst 4, 1) := by decide +kernel
theorem d_w_law_396 : decode code 396 = .ok (.iadd, 1) := by decide +kernel
theorem d_w_law_397 : decode code 397 = .ok (.iaload, 1) := by decide +kernel
theorem d_w_law_398 : decode code 398 = .ok (.aload_n 0, 1) := by decide +kernel
theorem d_w_law_399 : decode code 399 = .ok (.iload 4, 2) := by decide +kernel
theorem d_w_law_401 : decode code 401 = .ok (.iconst 5, 1) := by decide +kernel
theorem d_w_law_402 : decode code 402 = .ok (.iadd, 1) := by decide +kernel
theorem d_w_law_403 : decode code 403 = .ok (.iaload, 1) := by decide +kernel
theorem d_w_law_404 : decode code 404 = .ok (.invokevirtual 46, 3) := by decide +kernel
theorem d_w_law_407 : decode code 407 = .ok (.pop, 1) := by decide +kernel
theorem d_w_law_408 : decode code 408 = .ok (.aload_n 2, 1) := by decide +kernel
theorem d_w_law_409 : decode code 409 = .ok (.aload_n 0, 1) := by decide +kernel
theorem d_w_law_410 : decode code 410 = .ok (.iload 4, 2) := by decide +kernel
theorem d_w_law_412 : decode code 412 = .ok (.iconst 1, 1) := by decide +kernel
theorem d_w_law_413 : decode code 413 = .ok (.iadd, 1) := by decide +kernel
theorem d_w_law_414 : decode code 414 = .ok (.iaload, 1) := by decide +kernel
theorem d_w_law_415 : decode code 415 = .ok (.aload_n 0, 1) := by decide +kernel
theorem d_w_law_416 : decode code 416 = .ok (.iload 4, 2) := by decide +kernel
theorem d_w_law_418 : decode code 418 = .ok (.iconst 2, 1) := by decide +kernel
theorem d_w_law_419 : decode code 419 = .ok (.iadd, 1) := by decide +kernel
theorem d_w_law_420 : decode code 420 = .ok (.iaload, 1) := by decide +kernel
theorem d_w_law_421 : decode code 421 = .ok (.aload_n 0, 1) := by decide +kernel
theorem d_w_law_422 : decode code 422 = .ok (.iload 4, 2) := by decide +kernel
theorem d_w_law_424 : decode code 424 = .ok (.iconst 3, 1) := by decide +kernel
theorem d_w_law_425 : decode code 425 = .ok (.iadd, 1) := by decide +kernel
theorem d_w_law_426 : decode code 426 = .ok (.iaload, 1) := by decide +kernel
theorem d_w_law_427 : decode code 427 = .ok (.aload_n 0, 1) := by decide +kernel
theorem d_w_law_428 : decode code 428 = .ok (.iload 4, 2) := by decide +kernel
theorem d_w_law_430 : decode code 430 = .ok (.iconst 4, 1) := by decide +kernel
theorem d_w_law_431 : decode code 431 = .ok (.iadd, 1) := by decide +kernel
theorem d_w_law_432 : decode code 432 = .ok (.iaload, 1) := by decide +kernel
theorem d_w_law_433 : decode code 433 = .ok (.aload_n 0, 1) := by decide +kernel
theorem d_w_law_434 : decode code 434 = .ok (.iload 4, 2) := by decide +kernel
theorem d_w_law_436 : decode code 436 = .ok (.iconst 5, 1) := by decide +kernel
theorem d_w_law_437 : decode code 437 = .ok (.iadd, 1) := by decide +kernel
theorem d_w_law_438 : decode code 438 = .ok (.iaload, 1) := by decide +kernel
theorem d_w_law_439 : decode code 439 = .ok (.invokevirtual 49, 3) := by decide +kernel
theorem d_w_law_442 : decode code 442 = .ok (.pop, 1) := by decide +kernel
theorem d_w_law_443 : decode code 443 = .ok (.goto 432, 3) := by decide +kernel
theorem d_w_law_446 : decode code 446 = .ok (.aload_n 1, 1) := by decide +kernel
theorem d_w_law_447 : decode code 447 = .ok (.invokevirtual 50, 3) := by decide +kernel
theorem d_w_law_450 : decode code 450 = .ok (.pop, 1) := by decide +kernel
theorem d_w_law_451 : decode code 451 = .ok (.aload_n 2, 1) := by decide +kernel
theorem d_w_law_452 : decode code 452 = .ok (.invokevirtual 54, 3) := by decide +kernel
theorem d_w_law_455 : decode code 455 = .ok (.pop, 1) := by decide +kernel
theorem d_w_law_456 : decode code 456 = .ok (.goto 419, 3) := by decide +kernel
theorem d_w_law_459 : decode code 459 = .ok (.aload_n 1, 1) := by decide +kernel
theorem d_w_law_460 : decode code 460 = .ok (.aload_n 0, 1) := by decide +kernel
theorem d_w_law_461 : decode code 461 = .ok (.iload 4, 2) := by decide +kernel
theorem d_w_law_463 : decode code 463 = .ok (.iconst 1, 1) := by decide +kernel
theorem d_w_law_464 : decode code 464 = .ok (.iadd, 1) := by decide +kernel
theorem d_w_law_465 : decode code 465 = .ok (.iaload, 1) := by decide +kernel
theorem d_w_law_466 : decode code 466 = .ok (.aload_n 0, 1) := by decide +kernel
theorem d_w_law_467 : decode code 467 = .ok (.iload 4, 2) := by decide +kernel
theorem d_w_law_469 : decode code 469 = .ok (.iconst 2, 1) := by decide +kernel
theorem d_w_law_470 : decode code 470 = .ok (.iadd, 1) := by decide +kernel
theorem d_w_law_471 : decode code 471 = .ok (.iaload, 1) := by decide +kernel
theorem d_w_law_472 : decode code 472 = .ok (.aload_n 0, 1) := by decide +kernel
theorem d_w_law_473 : decode code 473 = .ok (.iload 4, 2) := by decide +kernel
theorem d_w_law_475 : decode code 475 = .ok (.iconst 3, 1) := by decide +kernel
theorem d_w_law_476 : decode code 476 = .ok (.iadd, 1) := by decide +kernel
theorem d_w_law_477 : decode code 477 = .ok (.iaload, 1) := by decide +kernel
theorem d_w_law_478 : decode code 478 = .ok (.ifCond .eq 7, 3) := by decide +kernel
theorem d_w_law_481 : decode code 481 = .ok (.iconst 1, 1) := by decide +kernel
theorem d_w_law_482 : decode code 482 = .ok (.goto 4, 3) := by decide +kernel
theorem d_w_law_485 : decode code 485 = .ok (.iconst 0, 1) := by decide +kernel
theorem d_w_law_486 : decode code 486 = .ok (.invokevirtual 55, 3) := by decide +kernel
theorem d_w_law_489 : decode code 489 = .ok (.pop, 1) := by decide +kernel
theorem d_w_law_490 : decode code 490 = .ok (.aload_n 2, 1) := by decide +kernel
theorem d_w_law_491 : decode code 491 = .ok (.aload_n 0, 1) := by decide +kernel
theorem d_w_law_492 : decode code 492 = .ok (.iload 4, 2) := by decide +kernel
theorem d_w_law_494 : decode code 494 = .ok (.iconst 1, 1) := by decide +kernel
theorem d_w_law_495 : decode code 495 = .ok (.iadd, 1) := by decide +kernel
theorem d_w_law_496 : decode code 496 = .ok (.iaload, 1) := by decide +kernel
theorem d_w_law_497 : decode code 497 = .ok (.aload_n 0, 1) := by decide +kernel
theorem d_w_law_498 : decode code 498 = .ok (.iload 4, 2) := by decide +kernel
theorem d_w_law_500 : decode code 500 = .ok (.iconst 2, 1) := by decide +kernel
theorem d_w_law_501 : decode code 501 = .ok (.iadd, 1) := by decide +kernel
theorem d_w_law_502 : decode code 502 = .ok (.iaload, 1) := by decide +kernel
theorem d_w_law_503 : decode code 503 = .ok (.aload_n 0, 1) := by decide +kernel
theorem d_w_law_504 : decode code 504 = .ok (.iload 4, 2) := by decide +kernel
theorem d_w_law_506 : decode code 506 = .ok (.iconst 3, 1) := by decide +kernel
theorem d_w_law_507 : decode code 507 = .ok (.iadd, 1) := by decide +kernel
theorem d_w_law_508 : decode code 508 = .ok (.iaload, 1) := by decide +kernel
theorem d_w_law_509 : decode code 509 = .ok (.ifCond .eq 7, 3) := by decide +kernel
theorem d_w_law_512 : decode code 512 = .ok (.iconst 1, 1) := by decide +kernel
theorem d_w_law_513 : decode code 513 = .ok (.goto 4, 3) := by decide +kernel
theorem d_w_law_516 : decode code 516 = .ok (.iconst 0, 1) := by decide +kernel
theorem d_w_law_517 : decode code 517 = .ok (.invokevirtual 59, 3) := by decide +kernel
theorem d_w_law_520 : decode code 520 = .ok (.pop, 1) := by decide +kernel
theorem d_w_law_521 : decode code 521 = .ok (.goto 354, 3) := by decide +kernel
theorem d_w_law_524 : decode code 524 = .ok (.aload_n 1, 1) := by decide +kernel
theorem d_w_law_525 : decode code 525 = .ok (.aload_n 0, 1) := by decide +kernel
theorem d_w_law_526 : decode code 526 = .ok (.iload 4, 2) := by decide +kernel
theorem d_w_law_528 : decode code 528 = .ok (.iconst 1, 1) := by decide +kernel
theorem d_w_law_529 : decode code 529 = .ok (.iadd, 1) := by decide +kernel
theorem d_w_law_530 : decode code 530 = .ok (.iaload, 1) := by decide +kernel
theorem d_w_law_531 : decode code 531 = .ok (.aload_n 0, 1) := by decide +kernel
theorem d_w_law_532 : decode code 532 = .ok (.iload 4, 2) := by decide +kernel
theorem d_w_law_534 : decode code 534 = .ok (.iconst 2, 1) := by decide +kernel
theorem d_w_law_535 : decode code 535 = .ok (.iadd, 1) := by decide +kernel
theorem d_w_law_536 : decode code 536 = .ok (.iaload, 1) := by decide +kernel
theorem d_w_law_537 : decode code 537 = .ok (.invokevirtual 60, 3) := by decide +kernel
theorem d_w_law_540 : decode code 540 = .ok (.pop, 1) := by decide +kernel
theorem d_w_law_541 : decode code 541 = .ok (.aload_n 2, 1) := by decide +kernel
theorem d_w_law_542 : decode code 542 = .ok (.aload_n 0, 1) := by decide +kernel
theorem d_w_law_543 : decode code 543 = .ok (.iload 4, 2) := by decide +kernel
theorem d_w_law_545 : decode code 545 = .ok (.iconst 1, 1) := by decide +kernel
theorem d_w_law_546 : decode code 546 = .ok (.iadd, 1) := by decide +kernel
theorem d_w_law_547 : decode code 547 = .ok (.iaload, 1) := by decide +kernel
theorem d_w_law_548 : decode code 548 = .ok (.aload_n 0, 1) := by decide +kernel
theorem d_w_law_549 : decode code 549 = .ok (.iload 4, 2) := by decide +kernel
theorem d_w_law_551 : decode code 551 = .ok (.iconst 2, 1) := by decide +kernel
theorem d_w_law_552 : decode code 552 = .ok (.iadd, 1) := by decide +kernel
theorem d_w_law_553 : decode code 553 = .ok (.iaload, 1) := by decide +kernel
theorem d_w_law_554 : decode code 554 = .ok (.invokevirtual 63, 3) := by decide +kernel
theorem d_w_law_557 : decode code 557 = .ok (.pop, 1) := by decide +kernel
theorem d_w_law_558 : decode code 558 = .ok (.goto 317, 3) := by decide +kernel
theorem d_w_law_561 : decode code 561 = .ok (.aload_n 1, 1) := by decide +kernel
theorem d_w_law_562 : decode code 562 = .ok (.aload_n 0, 1) := by decide +kernel
theorem d_w_law_563 : decode code 563 = .ok (.iload 4, 2) := by decide +kernel
theorem d_w_law_565 : decode code 565 = .ok (.iconst 1, 1) := by decide +kernel
theorem d_w_law_566 : decode code 566 = .ok (.iadd, 1) := by decide +kernel
theorem d_w_law_567 : decode code 567 = .ok (.iaload, 1) := by decide +kernel
theorem d_w_law_568 : decode code 568 = .ok (.aload_n 0, 1) := by decide +kernel
theorem d_w_law_569 : decode code 569 = .ok (.iload 4, 2) := by decide +kernel
theorem d_w_law_571 : decode code 571 = .ok (.iconst 2, 1) := by decide +kernel
theorem d_w_law_572 : decode code 572 = .ok (.iadd, 1) := by decide +kernel
theorem d_w_law_573 : decode code 573 = .ok (.iaload, 1) := by decide +kernel
theorem d_w_law_574 : decode code 574 = .ok (.invokevirtual 64, 3) := by decide +kernel
theorem d_w_law_577 : decode code 577 = .ok (.pop, 1) := by decide +kernel
theorem d_w_law_578 : decode code 578 = .ok (.aload_n 2, 1) := by decide +kernel
theorem d_w_law_579 : decode code 579 = .ok (.aload_n 0, 1) := by decide +kernel
theorem d_w_law_580 : decode code 580 = .ok (.iload 4, 2) := by decide +kernel
theorem d_w_law_582 : decode code 582 = .ok (.iconst 1, 1) := by decide +kernel
theorem d_w_law_583 : decode code 583 = .ok (.iadd, 1) := by decide +kernel
theorem d_w_law_584 : decode code 584 = .ok (.iaload, 1) := by decide +kernel
theorem d_w_law_585 : decode code 585 = .ok (.aload_n 0, 1) := by decide +kernel
theorem d_w_law_586 : decode code 586 = .ok (.iload 4, 2) := by decide +kernel
theorem d_w_law_588 : decode code 588 = .ok (.iconst 2, 1) := by decide +kernel
theorem d_w_law_589 : decode code 589 = .ok (.iadd, 1) := by decide +kernel
theorem d_w_law_590 : decode code 590 = .ok (.iaload, 1) := by decide +kernel
theorem d_w_law_591 : decode code 591 = .ok (.invokevirtual 67, 3) := by decide +kernel
theorem d_w_law_594 : decode code 594 = .ok (.pop, 1) := by decide +kernel
theorem d_w_law_595 : decode code 595 = .ok (.goto 280, 3) := by decide +kernel
theorem d_w_law_598 : decode code 598 = .ok (.aload_n 1, 1) := by decide +kernel
theorem d_w_law_599 : decode code 599 = .ok (.aload_n 0, 1) := by decide +kernel
theorem d_w_law_600 : decode code 600 = .ok (.iload 4, 2) := by decide +kernel
theorem d_w_law_602 : decode code 602 = .ok (.iconst 1, 1) := by decide +kernel
theorem d_w_law_603 : decode code 603 = .ok (.iadd, 1) := by decide +kernel
theorem d_w_law_604 : decode code 604 = .ok (.iaload, 1) := by decide +kernel
theorem d_w_law_605 : decode code 605 = .ok (.aload_n 0, 1) := by decide +kernel
theorem d_w_law_606 : decode code 606 = .ok (.iload 4, 2) := by decide +kernel
theorem d_w_law_608 : decode code 608 = .ok (.iconst 2, 1) := by decide +kernel
theorem d_w_law_609 : decode code 609 = .ok (.iadd, 1) := by decide +kernel
theorem d_w_law_610 : decode code 610 = .ok (.iaload, 1) := by decide +kernel
theorem d_w_law_611 : decode code 611 = .ok (.invokevirtual 68, 3) := by decide +kernel
theorem d_w_law_614 : decode code 614 = .ok (.pop, 1) := by decide +kernel
theorem d_w_law_615 : decode code 615 = .ok (.aload_n 2, 1) := by decide +kernel
theorem d_w_law_616 : decode code 616 = .ok (.aload_n 0, 1) := by decide +kernel
theorem d_w_law_617 : decode code 617 = .ok (.iload 4, 2) := by decide +kernel
theorem d_w_law_619 : decode code 619 = .ok (.iconst 1, 1) := by decide +kernel
theorem d_w_law_620 : decode code 620 = .ok (.iadd, 1) := by decide +kernel
theorem d_w_law_621 : decode code 621 = .ok (.iaload, 1) := by decide +kernel
theorem d_w_law_622 : decode code 622 = .ok (.aload_n 0, 1) := by decide +kernel
theorem d_w_law_623 : decode code 623 = .ok (.iload 4, 2) := by decide +kernel
theorem d_w_law_625 : decode code 625 = .ok (.iconst 2, 1) := by decide +kernel
theorem d_w_law_626 : decode code 626 = .ok (.iadd, 1) := by decide +kernel
theorem d_w_law_627 : decode code 627 = .ok (.iaload, 1) := by decide +kernel
theorem d_w_law_628 : decode code 628 = .ok (.invokevirtual 71, 3) := by decide +kernel
theorem d_w_law_631 : decode code 631 = .ok (.pop, 1) := by decide +kernel
theorem d_w_law_632 : decode code 632 = .ok (.goto 243, 3) := by decide +kernel
theorem d_w_law_635 : decode code 635 = .ok (.aload_n 1, 1) := by decide +kernel
theorem d_w_law_636 : decode code 636 = .ok (.aload_n 0, 1) := by decide +kernel
theorem d_w_law_637 : decode code 637 = .ok (.iload 4, 2) := by decide +kernel
theorem d_w_law_639 : decode code 639 = .ok (.iconst 1, 1) := by decide +kernel
theorem d_w_law_640 : decode code 640 = .ok (.iadd, 1) := by decide +kernel
theorem d_w_law_641 : decode code 641 = .ok (.iaload, 1) := by decide +kernel
theorem d_w_law_642 : decode code 642 = .ok (.aload_n 0, 1) := by decide +kernel
theorem d_w_law_643 : decode code 643 = .ok (.iload 4, 2) := by decide +kernel
theorem d_w_law_645 : decode code 645 = .ok (.iconst 2, 1) := by decide +kernel
theorem d_w_law_646 : decode code 646 = .ok (.iadd, 1) := by decide +kernel
theorem d_w_law_647 : decode code 647 = .ok (.iaload, 1) := by decide +kernel
theorem d_w_law_648 : decode code 648 = .ok (.invokevirtual 72, 3) := by decide +kernel
theorem d_w_law_651 : decode code 651 = .ok (.pop, 1) := by decide +kernel
theorem d_w_law_652 : decode code 652 = .ok (.aload_n 2, 1) := by decide +kernel
theorem d_w_law_653 : decode code 653 = .ok (.aload_n 0, 1) := by decide +kernel
theorem d_w_law_654 : decode code 654 = .ok (.iload 4, 2) := by decide +kernel
theorem d_w_law_656 : decode code 656 = .ok (.iconst 1, 1) := by decide +kernel
theorem d_w_law_657 : decode code 657 = .ok (.iadd, 1) := by decide +kernel
theorem d_w_law_658 : decode code 658 = .ok (.iaload, 1) := by decide +kernel
theorem d_w_law_659 : decode code 659 = .ok (.aload_n 0, 1) := by decide +kernel
theorem d_w_law_660 : decode code 660 = .ok (.iload 4, 2) := by decide +kernel
theorem d_w_law_662 : decode code 662 = .ok (.iconst 2, 1) := by decide +kernel
theorem d_w_law_663 : decode code 663 = .ok (.iadd, 1) := by decide +kernel
theorem d_w_law_664 : decode code 664 = .ok (.iaload, 1) := by decide +kernel
theorem d_w_law_665 : decode code 665 = .ok (.invokevirtual 75, 3) := by decide +kernel
theorem d_w_law_668 : decode code 668 = .ok (.pop, 1) := by decide +kernel
theorem d_w_law_669 : decode code 669 = .ok (.goto 206, 3) := by decide +kernel
theorem d_w_law_672 : decode code 672 = .ok (.aload_n 1, 1) := by decide +kernel
theorem d_w_law_673 : decode code 673 = .ok (.aload_n 0, 1) := by decide +kernel
theorem d_w_law_674 : decode code 674 = .ok (.iload 4, 2) := by decide +kernel
theorem d_w_law_676 : decode code 676 = .ok (.iconst 1, 1) := by decide +kernel
theorem d_w_law_677 : decode code 677 = .ok (.iadd, 1) := by decide +kernel
theorem d_w_law_678 : decode code 678 = .ok (.iaload, 1) := by decide +kernel
theorem d_w_law_679 : decode code 679 = .ok (.aload_n 0, 1) := by decide +kernel
theorem d_w_law_680 : decode code 680 = .ok (.iload 4, 2) := by decide +kernel
theorem d_w_law_682 : decode code 682 = .ok (.iconst 2, 1) := by decide +kernel
theorem d_w_law_683 : decode code 683 = .ok (.iadd, 1) := by decide +kernel
theorem d_w_law_684 : decode code 684 = .ok (.iaload, 1) := by decide +kernel
theorem d_w_law_685 : decode code 685 = .ok (.aload_n 0, 1) := by decide +kernel
theorem d_w_law_686 : decode code 686 = .ok (.iload 4, 2) := by decide +kernel
theorem d_w_law_688 : decode code 688 = .ok (.iconst 3, 1) := by decide +kernel
theorem d_w_law_689 : decode code 689 = .ok (.iadd, 1) := by decide +kernel
theorem d_w_law_690 : decode code 690 = .ok (.iaload, 1) := by decide +kernel
theorem d_w_law_691 : decode code 691 = .ok (.aload_n 0, 1) := by decide +kernel
theorem d_w_law_692 : decode code 692 = .ok (.iload 4, 2) := by decide +kernel
theorem d_w_law_694 : decode code 694 = .ok (.iconst 4, 1) := by decide +kernel
theorem d_w_law_695 : decode code 695 = .ok (.iadd, 1) := by decide +kernel
theorem d_w_law_696 : decode code 696 = .ok (.iaload, 1) := by decide +kernel
theorem d_w_law_697 : decode code 697 = .ok (.invokevirtual 76, 3) := by decide +kernel
theorem d_w_law_700 : decode code 700 = .ok (.pop, 1) := by decide +kernel
theorem d_w_law_701 : decode code 701 = .ok (.aload_n 2, 1) := by decide +kernel
theorem d_w_law_702 : decode code 702 = .ok (.aload_n 0, 1) := by decide +kernel
theorem d_w_law_703 : decode code 703 = .ok (.iload 4, 2) := by decide +kernel
theorem d_w_law_705 : decode code 705 = .ok (.iconst 1, 1) := by decide +kernel
theorem d_w_law_706 : decode code 706 = .ok (.iadd, 1) := by decide +kernel
theorem d_w_law_707 : decode code 707 = .ok (.iaload, 1) := by decide +kernel
theorem d_w_law_708 : decode code 708 = .ok (.aload_n 0, 1) := by decide +kernel
theorem d_w_law_709 : decode code 709 = .ok (.iload 4, 2) := by decide +kernel
theorem d_w_law_711 : decode code 711 = .ok (.iconst 2, 1) := by decide +kernel
theorem d_w_law_712 : decode code 712 = .ok (.iadd, 1) := by decide +kernel
theorem d_w_law_713 : decode code 713 = .ok (.iaload, 1) := by decide +kernel
theorem d_w_law_714 : decode code 714 = .ok (.aload_n 0, 1) := by decide +kernel
theorem d_w_law_715 : decode code 715 = .ok (.iload 4, 2) := by decide +kernel
theorem d_w_law_717 : decode code 717 = .ok (.iconst 3, 1) := by decide +kernel
theorem d_w_law_718 : decode code 718 = .ok (.iadd, 1) := by decide +kernel
theorem d_w_law_719 : decode code 719 = .ok (.iaload, 1) := by decide +kernel
theorem d_w_law_720 : decode code 720 = .ok (.aload_n 0, 1) := by decide +kernel
theorem d_w_law_721 : decode code 721 = .ok (.iload 4, 2) := by decide +kernel
theorem d_w_law_723 : decode code 723 = .ok (.iconst 4, 1) := by decide +kernel
theorem d_w_law_724 : decode code 724 = .ok (.iadd, 1) := by decide +kernel
theorem d_w_law_725 : decode code 725 = .ok (.iaload, 1) := by decide +kernel
theorem d_w_law_726 : decode code 726 = .ok (.invokevirtual 79, 3) := by decide +kernel
theorem d_w_law_729 : decode code 729 = .ok (.pop, 1) := by decide +kernel
theorem d_w_law_730 : decode code 730 = .ok (.goto 145, 3) := by decide +kernel
theorem d_w_law_733 : decode code 733 = .ok (.aload_n 1, 1) := by decide +kernel
theorem d_w_law_734 : decode code 734 = .ok (.aload_n 0, 1) := by decide +kernel
theorem d_w_law_735 : decode code 735 = .ok (.iload 4, 2) := by decide +kernel
theorem d_w_law_737 : decode code 737 = .ok (.iconst 1, 1) := by decide +kernel
theorem d_w_law_738 : decode code 738 = .ok (.iadd, 1) := by decide +kernel
theorem d_w_law_739 : decode code 739 = .ok (.iaload, 1) := by decide +kernel
theorem d_w_law_740 : decode code 740 = .ok (.aload_n 0, 1) := by decide +kernel
theorem d_w_law_741 : decode code 741 = .ok (.iload 4, 2) := by decide +kernel
theorem d_w_law_743 : decode code 743 = .ok (.iconst 2, 1) := by decide +kernel
theorem d_w_law_744 : decode code 744 = .ok (.iadd, 1) := by decide +kernel
theorem d_w_law_745 : decode code 745 = .ok (.iaload, 1) := by decide +kernel
theorem d_w_law_746 : decode code 746 = .ok (.aload_n 3, 1) := by decide +kernel
theorem d_w_law_747 : decode code 747 = .ok (.invokestatic 80, 3) := by decide +kernel
theorem d_w_law_750 : decode code 750 = .ok (.istore 5, 2) := by decide +kernel
theorem d_w_law_752 : decode code 752 = .ok (.aload_n 2, 1) := by decide +kernel
theorem d_w_law_753 : decode code 753 = .ok (.aload_n 0, 1) := by decide +kernel
theorem d_w_law_754 : decode code 754 = .ok (.iload 4, 2) := by decide +kernel
theorem d_w_law_756 : decode code 756 = .ok (.iconst 1, 1) := by decide +kernel
theorem d_w_law_757 : decode code 757 = .ok (.iadd, 1) := by decide +kernel
theorem d_w_law_758 : decode code 758 = .ok (.iaload, 1) := by decide +kernel
theorem d_w_law_759 : decode code 759 = .ok (.aload_n 0, 1) := by decide +kernel
theorem d_w_law_760 : decode code 760 = .ok (.iload 4, 2) := by decide +kernel
theorem d_w_law_762 : decode code 762 = .ok (.iconst 2, 1) := by decide +kernel
theorem d_w_law_763 : decode code 763 = .ok (.iadd, 1) := by decide +kernel
theorem d_w_law_764 : decode code 764 = .ok (.iaload, 1) := by decide +kernel
theorem d_w_law_765 : decode code 765 = .ok (.invokevirtual 85, 3) := by decide +kernel
theorem d_w_law_768 : decode code 768 = .ok (.istore 6, 2) := by decide +kernel
theorem d_w_law_770 : decode code 770 = .ok (.goto 105, 3) := by decide +kernel
theorem d_w_law_773 : decode code 773 = .ok (.aload_n 1, 1) := by decide +kernel
theorem d_w_law_774 : decode code 774 = .ok (.aload_n 0, 1) := by decide +kernel
theorem d_w_law_775 : decode code 775 = .ok (.iload 4, 2) := by decide +kernel
theorem d_w_law_777 : decode code 777 = .ok (.iconst 1, 1) := by decide +kernel
theorem d_w_law_778 : decode code 778 = .ok (.iadd, 1) := by decide +kernel
theorem d_w_law_779 : decode code 779 = .ok (.iaload, 1) := by decide +kernel
theorem d_w_law_780 : decode code 780 = .ok (.invokevirtual 86, 3) := by decide +kernel
theorem d_w_law_783 : decode code 783 = .ok (.pop, 1) := by decide +kernel
theorem d_w_law_784 : decode code 784 = .ok (.aload_n 2, 1) := by decide +kernel
theorem d_w_law_785 : decode code 785 = .ok (.aload_n 0, 1) := by decide +kernel
theorem d_w_law_786 : decode code 786 = .ok (.iload 4, 2) := by decide +kernel
theorem d_w_law_788 : decode code 788 = .ok (.iconst 1, 1) := by decide +kernel
theorem d_w_law_789 : decode code 789 = .ok (.iadd, 1) := by decide +kernel
theorem d_w_law_790 : decode code 790 = .ok (.iaload, 1) := by decide +kernel
theorem d_w_law_791 : decode code 791 = .ok (.invokevirtual 89, 3) := by decide +kernel
theorem d_w_law_794 : decode code 794 = .ok (.pop, 1) := by decide +kernel
theorem d_w_law_795 : decode code 795 = .ok (.goto 80, 3) := by decide +kernel
theorem d_w_law_798 : decode code 798 = .ok (.aload_n 1, 1) := by decide +kernel
theorem d_w_law_799 : decode code 799 = .ok (.aload_n 0, 1) := by decide +kernel
theorem d_w_law_800 : decode code 800 = .ok (.iload 4, 2) := by decide +kernel
theorem d_w_law_802 : decode code 802 = .ok (.iconst 1, 1) := by decide +kernel
theorem d_w_law_803 : decode code 803 = .ok (.iadd, 1) := by decide +kernel
theorem d_w_law_804 : decode code 804 = .ok (.iaload, 1) := by decide +kernel
theorem d_w_law_805 : decode code 805 = .ok (.aload_n 0, 1) := by decide +kernel
theorem d_w_law_806 : decode code 806 = .ok (.iload 4, 2) := by decide +kernel
theorem d_w_law_808 : decode code 808 = .ok (.iconst 2, 1) := by decide +kernel
theorem d_w_law_809 : decode code 809 = .ok (.iadd, 1) := by decide +kernel
theorem d_w_law_810 : decode code 810 = .ok (.iaload, 1) := by decide +kernel
theorem d_w_law_811 : decode code 811 = .ok (.invokevirtual 90, 3) := by decide +kernel
theorem d_w_law_814 : decode code 814 = .ok (.pop, 1) := by decide +kernel
theorem d_w_law_815 : decode code 815 = .ok (.aload_n 2, 1) := by decide +kernel
theorem d_w_law_816 : decode code 816 = .ok (.aload_n 0, 1) := by decide +kernel
theorem d_w_law_817 : decode code 817 = .ok (.iload 4, 2) := by decide +kernel
theorem d_w_law_819 : decode code 819 = .ok (.iconst 1, 1) := by decide +kernel
theorem d_w_law_820 : decode code 820 = .ok (.iadd, 1) := by decide +kernel
theorem d_w_law_821 : decode code 821 = .ok (.iaload, 1) := by decide +kernel
theorem d_w_law_822 : decode code 822 = .ok (.aload_n 0, 1) := by decide +kernel
theorem d_w_law_823 : decode code 823 = .ok (.iload 4, 2) := by decide +kernel
theorem d_w_law_825 : decode code 825 = .ok (.iconst 2, 1) := by decide +kernel
theorem d_w_law_826 : decode code 826 = .ok (.iadd, 1) := by decide +kernel
theorem d_w_law_827 : decode code 827 = .ok (.iaload, 1) := by decide +kernel
theorem d_w_law_828 : decode code 828 = .ok (.invokevirtual 93, 3) := by decide +kernel
theorem d_w_law_831 : decode code 831 = .ok (.pop, 1) := by decide +kernel
theorem d_w_law_832 : decode code 832 = .ok (.goto 43, 3) := by decide +kernel
theorem d_w_law_835 : decode code 835 = .ok (.aload_n 1, 1) := by decide +kernel
theorem d_w_law_836 : decode code 836 = .ok (.aload_n 0, 1) := by decide +kernel
theorem d_w_law_837 : decode code 837 = .ok (.iload 4, 2) := by decide +kernel
theorem d_w_law_839 : decode code 839 = .ok (.iconst 1, 1) := by decide +kernel
theorem d_w_law_840 : decode code 840 = .ok (.iadd, 1) := by decide +kernel
theorem d_w_law_841 : decode code 841 = .ok (.iaload, 1) := by decide +kernel
theorem d_w_law_842 : decode code 842 = .ok (.aload_n 0, 1) := by decide +kernel
theorem d_w_law_843 : decode code 843 = .ok (.iload 4, 2) := by decide +kernel
theorem d_w_law_845 : decode code 845 = .ok (.iconst 2, 1) := by decide +kernel
theorem d_w_law_846 : decode code 846 = .ok (.iadd, 1) := by decide +kernel
theorem d_w_law_847 : decode code 847 = .ok (.iaload, 1) := by decide +kernel
theorem d_w_law_848 : decode code 848 = .ok (.aload_n 3, 1) := by decide +kernel
theorem d_w_law_849 : decode code 849 = .ok (.invokestatic 94, 3) := by decide +kernel
theorem d_w_law_852 : decode code 852 = .ok (.istore 5, 2) := by decide +kernel
theorem d_w_law_854 : decode code 854 = .ok (.aload_n 2, 1) := by decide +kernel
theorem d_w_law_855 : decode code 855 = .ok (.aload_n 0, 1) := by decide +kernel
theorem d_w_law_856 : decode code 856 = .ok (.iload 4, 2) := by decide +kernel
theorem d_w_law_858 : decode code 858 = .ok (.iconst 1, 1) := by decide +kernel
theorem d_w_law_859 : decode code 859 = .ok (.iadd, 1) := by decide +kernel
theorem d_w_law_860 : decode code 860 = .ok (.iaload, 1) := by decide +kernel
theorem d_w_law_861 : decode code 861 = .ok (.aload_n 0, 1) := by decide +kernel
theorem d_w_law_862 : decode code 862 = .ok (.iload 4, 2) := by decide +kernel
theorem d_w_law_864 : decode code 864 = .ok (.iconst 2, 1) := by decide +kernel
theorem d_w_law_865 : decode code 865 = .ok (.iadd, 1) := by decide +kernel
theorem d_w_law_866 : decode code 866 = .ok (.iaload, 1) := by decide +kernel
theorem d_w_law_867 : decode code 867 = .ok (.invokevirtual 96, 3) := by decide +kernel
theorem d_w_law_870 : decode code 870 = .ok (.istore 6, 2) := by decide +kernel
theorem d_w_law_872 : decode code 872 = .ok (.goto 3, 3) := by decide +kernel
theorem d_w_law_875 : decode code 875 = .ok (.iinc 4 6, 3) := by decide +kernel
theorem d_w_law_878 : decode code 878 = .ok (.goto (-855), 3) := by decide +kernel
theorem d_w_law_881 : decode code 881 = .ok (.iconst 1, 1) := by decide +kernel
theorem d_w_law_882 : decode code 882 = .ok (.ireturn, 1) := by decide +kernel
theorem d_w_past_0 : decode method_4_code 0 = .ok (.aload_n 3, 1) := by decide +kernel
theorem d_w_past_1 : decode method_4_code 1 = .ok (.iconst 0, 1) := by decide +kernel
theorem d_w_past_2 : decode method_4_code 2 = .ok (.aload_n 0, 1) := by decide +kernel
theorem d_w_past_3 : decode method_4_code 3 = .ok (.iload_n 1, 1) := by decide +kernel
theorem d_w_past_4 : decode method_4_code 4 = .ok (.iload_n 2, 1) := by decide +kernel
theorem d_w_past_5 : decode method_4_code 5 = .ok (.invokevirtual 15, 3) := by decide +kernel
theorem d_w_past_8 : decode method_4_code 8 = .ok (.i2l, 1) := by decide +kernel
theorem d_w_past_9 : decode method_4_code 9 = .ok (.lastore, 1) := by decide +kernel
theorem d_w_past_10 : decode method_4_code 10 = .ok (.goto 7, 3) := by decide +kernel
theorem d_w_past_13 : decode method_4_code 13 = .ok (.astore 4, 2) := by decide +kernel
theorem d_w_past_15 : decode method_4_code 15 = .ok (.iconst 1, 1) := by decide +kernel
theorem d_w_past_16 : decode method_4_code 16 = .ok (.ireturn, 1) := by decide +kernel
theorem d_w_past_17 : decode method_4_code 17 = .ok (.iconst 0, 1) := by decide +kernel
theorem d_w_past_18 : decode method_4_code 18 = .ok (.ireturn, 1) := by decide +kernel
theorem d_w_request_0 : decode method_3_code 0 = .ok (.aload_n 3, 1) := by decide +kernel
theorem d_w_request_1 : decode method_3_code 1 = .ok (.iconst 0, 1) := by decide +kernel
theorem d_w_request_2 : decode method_3_code 2 = .ok (.aload_n 0, 1) := by decide +kernel
theorem d_w_request_3 : decode method_3_code 3 = .ok (.iload_n 1, 1) := by decide +kernel
theorem d_w_request_4 : decode method_3_code 4 = .ok (.iload_n 2, 1) := by decide +kernel
theorem d_w_request_5 : decode method_3_code 5 = .ok (.invokevirtual 7, 3) := by decide +kernel
theorem d_w_request_8 : decode method_3_code 8 = .ok (.i2l, 1) := by decide +kernel
theorem d_w_request_9 : decode method_3_code 9 = .ok (.lastore, 1) := by decide +kernel
theorem d_w_request_10 : decode method_3_code 10 = .ok (.goto 7, 3) := by decide +kernel
theorem d_w_request_13 : decode method_3_code 13 = .ok (.astore 4, 2) := by decide +kernel
theorem d_w_request_15 : decode method_3_code 15 = .ok (.iconst 1, 1) := by decide +kernel
theorem d_w_request_16 : decode method_3_code 16 = .ok (.ireturn, 1) := by decide +kernel
theorem d_w_request_17 : decode method_3_code 17 = .ok (.iconst 0, 1) := by decide +kernel
theorem d_w_request_18 : decode method_3_code 18 = .ok (.ireturn, 1) := by decide +kernel
