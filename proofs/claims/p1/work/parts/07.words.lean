set_option maxRecDepth 100000 in
theorem wd_6 : Cond.selects "RightsLimitModel" ⟨"RightsLimitModel", "isTitle", "(I)Z"⟩ ⟨"RightsLimitModel", "isTitle", "(I)Z"⟩ ∈ rl_G := rl_wd 6 rfl rfl
set_option maxRecDepth 100000 in
theorem wd_14 : Cond.initialized "RightsLimit" ∈ rl_G := rl_wd 14 rfl rfl
set_option maxRecDepth 100000 in
theorem wd_15 : Cond.initialized "RightsLimit$Titles" ∈ rl_G := rl_wd 15 rfl rfl
set_option maxRecDepth 100000 in
theorem wd_17 : Cond.initialized "RightsLimit$Licences" ∈ rl_G := rl_wd 17 rfl rfl
set_option maxRecDepth 100000 in
theorem wd_18 : Cond.initialized "RightsLimit$Requests" ∈ rl_G := rl_wd 18 rfl rfl
set_option maxRecDepth 100000 in
theorem wd_19 : Cond.initialized "RightsLimitModel" ∈ rl_G := rl_wd 19 rfl rfl
set_option maxRecDepth 100000 in
theorem wd_38 : Cond.fieldLink "RightsLimit$Titles" 9 "RightsLimit$Titles" "publisher" "[I" ∈ rl_G := rl_wd 38 rfl rfl
set_option maxRecDepth 100000 in
theorem wd_46 : Cond.fieldLink "RightsLimit$Titles" 25 "RightsLimit$Titles" "count" "I" ∈ rl_G := rl_wd 46 rfl rfl
set_option maxRecDepth 100000 in
theorem wd_97 : Cond.fieldLink "RightsLimit$Licences" 27 "RightsLimit$Licences" "count" "I" ∈ rl_G := rl_wd 97 rfl rfl
set_option maxRecDepth 100000 in
theorem wd_140 : Cond.fieldLink "RightsLimit$Requests" 48 "RightsLimit$Requests" "count" "I" ∈ rl_G := rl_wd 140 rfl rfl
set_option maxRecDepth 100000 in
theorem wd_168 : Cond.fieldLink "RightsLimit" 12 "RightsLimit" "titles" "LRightsLimit$Titles;" ∈ rl_G := rl_wd 168 rfl rfl
set_option maxRecDepth 100000 in
theorem wd_170 : Cond.fieldLink "RightsLimit" 26 "RightsLimit" "licences" "LRightsLimit$Licences;" ∈ rl_G := rl_wd 170 rfl rfl
set_option maxRecDepth 100000 in
theorem wd_171 : Cond.fieldLink "RightsLimit" 33 "RightsLimit" "requests" "LRightsLimit$Requests;" ∈ rl_G := rl_wd 171 rfl rfl
set_option maxRecDepth 100000 in
theorem wd_172 : Cond.fieldLink "RightsLimit" 37 "RightsLimit" "feeOfPublisher" "[I" ∈ rl_G := rl_wd 172 rfl rfl
set_option maxRecDepth 100000 in
theorem wd_173 : Cond.fieldLink "RightsLimit" 41 "RightsLimit" "rightsOfPerson" "[I" ∈ rl_G := rl_wd 173 rfl rfl
set_option maxRecDepth 100000 in
theorem wd_175 : Cond.fieldLink "RightsLimit" 48 "RightsLimit" "latestWhy" "I" ∈ rl_G := rl_wd 175 rfl rfl
set_option maxRecDepth 100000 in
theorem wd_197 : Cond.methodLink "RightsLimit" 51 ⟨"RightsLimit", "isPublisher", "(I)Z"⟩ ∈ rl_G := rl_wd 197 rfl rfl
set_option maxRecDepth 100000 in
theorem wd_198 : Cond.static ⟨"RightsLimit", "isPublisher", "(I)Z"⟩ ∈ rl_G := rl_wd 198 rfl rfl
set_option maxRecDepth 100000 in
theorem wd_199 : Cond.code ⟨"RightsLimit", "isPublisher", "(I)Z"⟩ prog_1_method_25_code 1 (some .boolean) ∈ rl_G := rl_wd 199 rfl rfl
set_option maxRecDepth 100000 in
theorem wd_200 : Cond.methodLink "RightsLimit" 84 ⟨"RightsLimit", "isBetween", "(III)Z"⟩ ∈ rl_G := rl_wd 200 rfl rfl
set_option maxRecDepth 100000 in
theorem wd_201 : Cond.static ⟨"RightsLimit", "isBetween", "(III)Z"⟩ ∈ rl_G := rl_wd 201 rfl rfl
set_option maxRecDepth 100000 in
theorem wd_202 : Cond.code ⟨"RightsLimit", "isBetween", "(III)Z"⟩ prog_1_method_30_code 3 (some .boolean) ∈ rl_G := rl_wd 202 rfl rfl
set_option maxRecDepth 100000 in
theorem wd_203 : Cond.methodLink "RightsLimit" 55 ⟨"RightsLimit$Titles", "add", "(I)I"⟩ ∈ rl_G := rl_wd 203 rfl rfl
set_option maxRecDepth 100000 in
theorem wd_204 : Cond.instanceMethod ⟨"RightsLimit$Titles", "add", "(I)I"⟩ ∈ rl_G := rl_wd 204 rfl rfl
set_option maxRecDepth 100000 in
theorem wd_205 : Cond.selects "RightsLimit$Titles" ⟨"RightsLimit$Titles", "add", "(I)I"⟩ ⟨"RightsLimit$Titles", "add", "(I)I"⟩ ∈ rl_G := rl_wd 205 rfl rfl
set_option maxRecDepth 100000 in
theorem wd_206 : Cond.code ⟨"RightsLimit$Titles", "add", "(I)I"⟩ prog_5_method_3_code 2 (some .int) ∈ rl_G := rl_wd 206 rfl rfl
set_option maxRecDepth 100000 in
theorem wd_211 : Cond.methodLink "RightsLimit" 59 ⟨"RightsLimit$Titles", "has", "(I)Z"⟩ ∈ rl_G := rl_wd 211 rfl rfl
set_option maxRecDepth 100000 in
theorem wd_212 : Cond.instanceMethod ⟨"RightsLimit$Titles", "has", "(I)Z"⟩ ∈ rl_G := rl_wd 212 rfl rfl
set_option maxRecDepth 100000 in
theorem wd_213 : Cond.selects "RightsLimit$Titles" ⟨"RightsLimit$Titles", "has", "(I)Z"⟩ ⟨"RightsLimit$Titles", "has", "(I)Z"⟩ ∈ rl_G := rl_wd 213 rfl rfl
set_option maxRecDepth 100000 in
theorem wd_214 : Cond.code ⟨"RightsLimit$Titles", "has", "(I)Z"⟩ prog_5_method_2_code 2 (some .boolean) ∈ rl_G := rl_wd 214 rfl rfl
set_option maxRecDepth 100000 in
theorem wd_252 : Cond.methodLink "RightsLimit" 88 ⟨"RightsLimit", "isPerson", "(I)Z"⟩ ∈ rl_G := rl_wd 252 rfl rfl
set_option maxRecDepth 100000 in
theorem wd_253 : Cond.static ⟨"RightsLimit", "isPerson", "(I)Z"⟩ ∈ rl_G := rl_wd 253 rfl rfl
set_option maxRecDepth 100000 in
theorem wd_254 : Cond.code ⟨"RightsLimit", "isPerson", "(I)Z"⟩ prog_1_method_26_code 1 (some .boolean) ∈ rl_G := rl_wd 254 rfl rfl
set_option maxRecDepth 100000 in
theorem wd_331 : Cond.methodLink "RightsLimit" 112 ⟨"RightsLimit$Requests", "has", "(I)Z"⟩ ∈ rl_G := rl_wd 331 rfl rfl
set_option maxRecDepth 100000 in
theorem wd_332 : Cond.instanceMethod ⟨"RightsLimit$Requests", "has", "(I)Z"⟩ ∈ rl_G := rl_wd 332 rfl rfl
set_option maxRecDepth 100000 in
theorem wd_333 : Cond.selects "RightsLimit$Requests" ⟨"RightsLimit$Requests", "has", "(I)Z"⟩ ⟨"RightsLimit$Requests", "has", "(I)Z"⟩ ∈ rl_G := rl_wd 333 rfl rfl
set_option maxRecDepth 100000 in
theorem wd_334 : Cond.code ⟨"RightsLimit$Requests", "has", "(I)Z"⟩ prog_4_method_2_code 2 (some .boolean) ∈ rl_G := rl_wd 334 rfl rfl
set_option maxRecDepth 100000 in
theorem wd_366 : Cond.methodLink "RightsLimit" 170 ⟨"RightsLimit$Licences", "has", "(I)Z"⟩ ∈ rl_G := rl_wd 366 rfl rfl
set_option maxRecDepth 100000 in
theorem wd_367 : Cond.instanceMethod ⟨"RightsLimit$Licences", "has", "(I)Z"⟩ ∈ rl_G := rl_wd 367 rfl rfl
set_option maxRecDepth 100000 in
theorem wd_368 : Cond.selects "RightsLimit$Licences" ⟨"RightsLimit$Licences", "has", "(I)Z"⟩ ⟨"RightsLimit$Licences", "has", "(I)Z"⟩ ∈ rl_G := rl_wd 368 rfl rfl
set_option maxRecDepth 100000 in
theorem wd_369 : Cond.code ⟨"RightsLimit$Licences", "has", "(I)Z"⟩ prog_2_method_2_code 2 (some .boolean) ∈ rl_G := rl_wd 369 rfl rfl
set_option maxRecDepth 100000 in
theorem wd_374 : Cond.methodLink "RightsLimit" 174 ⟨"RightsLimit$Requests", "countOf", "(I)I"⟩ ∈ rl_G := rl_wd 374 rfl rfl
set_option maxRecDepth 100000 in
theorem wd_375 : Cond.instanceMethod ⟨"RightsLimit$Requests", "countOf", "(I)I"⟩ ∈ rl_G := rl_wd 375 rfl rfl
set_option maxRecDepth 100000 in
theorem wd_376 : Cond.selects "RightsLimit$Requests" ⟨"RightsLimit$Requests", "countOf", "(I)I"⟩ ⟨"RightsLimit$Requests", "countOf", "(I)I"⟩ ∈ rl_G := rl_wd 376 rfl rfl
set_option maxRecDepth 100000 in
theorem wd_377 : Cond.code ⟨"RightsLimit$Requests", "countOf", "(I)I"⟩ prog_4_method_14_code 4 (some .int) ∈ rl_G := rl_wd 377 rfl rfl
set_option maxRecDepth 100000 in
theorem wd_378 : Cond.methodLink "RightsLimit" 177 ⟨"RightsLimit$Requests", "countRefusedOf", "(I)I"⟩ ∈ rl_G := rl_wd 378 rfl rfl
set_option maxRecDepth 100000 in
theorem wd_379 : Cond.instanceMethod ⟨"RightsLimit$Requests", "countRefusedOf", "(I)I"⟩ ∈ rl_G := rl_wd 379 rfl rfl
set_option maxRecDepth 100000 in
theorem wd_380 : Cond.selects "RightsLimit$Requests" ⟨"RightsLimit$Requests", "countRefusedOf", "(I)I"⟩ ⟨"RightsLimit$Requests", "countRefusedOf", "(I)I"⟩ ∈ rl_G := rl_wd 380 rfl rfl
set_option maxRecDepth 100000 in
theorem wd_381 : Cond.code ⟨"RightsLimit$Requests", "countRefusedOf", "(I)I"⟩ prog_4_method_15_code 4 (some .int) ∈ rl_G := rl_wd 381 rfl rfl
set_option maxRecDepth 100000 in
theorem wd_382 : Cond.methodLink "RightsLimit" 180 ⟨"RightsLimit$Requests", "pagesAllowedTo", "(I)I"⟩ ∈ rl_G := rl_wd 382 rfl rfl
set_option maxRecDepth 100000 in
theorem wd_383 : Cond.instanceMethod ⟨"RightsLimit$Requests", "pagesAllowedTo", "(I)I"⟩ ∈ rl_G := rl_wd 383 rfl rfl
set_option maxRecDepth 100000 in
theorem wd_384 : Cond.selects "RightsLimit$Requests" ⟨"RightsLimit$Requests", "pagesAllowedTo", "(I)I"⟩ ⟨"RightsLimit$Requests", "pagesAllowedTo", "(I)I"⟩ ∈ rl_G := rl_wd 384 rfl rfl
set_option maxRecDepth 100000 in
theorem wd_385 : Cond.code ⟨"RightsLimit$Requests", "pagesAllowedTo", "(I)I"⟩ prog_4_method_16_code 4 (some .int) ∈ rl_G := rl_wd 385 rfl rfl
set_option maxRecDepth 100000 in
theorem wd_386 : Cond.methodLink "RightsLimit" 183 ⟨"RightsLimit$Requests", "centsOf", "(I)I"⟩ ∈ rl_G := rl_wd 386 rfl rfl
set_option maxRecDepth 100000 in
theorem wd_387 : Cond.instanceMethod ⟨"RightsLimit$Requests", "centsOf", "(I)I"⟩ ∈ rl_G := rl_wd 387 rfl rfl
set_option maxRecDepth 100000 in
theorem wd_388 : Cond.selects "RightsLimit$Requests" ⟨"RightsLimit$Requests", "centsOf", "(I)I"⟩ ⟨"RightsLimit$Requests", "centsOf", "(I)I"⟩ ∈ rl_G := rl_wd 388 rfl rfl
set_option maxRecDepth 100000 in
theorem wd_389 : Cond.code ⟨"RightsLimit$Requests", "centsOf", "(I)I"⟩ prog_4_method_17_code 4 (some .int) ∈ rl_G := rl_wd 389 rfl rfl
set_option maxRecDepth 100000 in
theorem wd_483 : Cond.fieldLink "RightsLimitModel" 93 "RightsLimitModel" "thrown" "I" ∈ rl_G := rl_wd 483 rfl rfl
set_option maxRecDepth 100000 in
theorem wd_485 : Cond.fieldLink "RightsLimitModel" 96 "RightsLimitModel" "titles" "I" ∈ rl_G := rl_wd 485 rfl rfl
set_option maxRecDepth 100000 in
theorem wd_486 : Cond.fieldLink "RightsLimitModel" 7 "RightsLimitModel" "publisher" "[I" ∈ rl_G := rl_wd 486 rfl rfl
set_option maxRecDepth 100000 in
theorem wd_490 : Cond.fieldLink "RightsLimitModel" 23 "RightsLimitModel" "fees" "[I" ∈ rl_G := rl_wd 490 rfl rfl
set_option maxRecDepth 100000 in
theorem wd_491 : Cond.fieldLink "RightsLimitModel" 26 "RightsLimitModel" "rights" "[Z" ∈ rl_G := rl_wd 491 rfl rfl
set_option maxRecDepth 100000 in
theorem wd_497 : Cond.fieldLink "RightsLimitModel" 114 "RightsLimitModel" "licences" "I" ∈ rl_G := rl_wd 497 rfl rfl
set_option maxRecDepth 100000 in
theorem wd_503 : Cond.fieldLink "RightsLimitModel" 117 "RightsLimitModel" "requests" "I" ∈ rl_G := rl_wd 503 rfl rfl
set_option maxRecDepth 100000 in
theorem wd_515 : Cond.fieldLink "RightsLimitModel" 89 "RightsLimitModel" "why" "I" ∈ rl_G := rl_wd 515 rfl rfl
set_option maxRecDepth 100000 in
theorem wd_591 : Cond.methodLink "RightsLimitModel" 99 ⟨"RightsLimitModel", "in", "(III)Z"⟩ ∈ rl_G := rl_wd 591 rfl rfl
set_option maxRecDepth 100000 in
theorem wd_592 : Cond.static ⟨"RightsLimitModel", "in", "(III)Z"⟩ ∈ rl_G := rl_wd 592 rfl rfl
set_option maxRecDepth 100000 in
theorem wd_593 : Cond.code ⟨"RightsLimitModel", "in", "(III)Z"⟩ prog_7_method_3_code 3 (some .boolean) ∈ rl_G := rl_wd 593 rfl rfl
set_option maxRecDepth 100000 in
theorem wd_598 : Cond.methodLink "RightsLimitModel" 107 ⟨"RightsLimitModel", "isTitle", "(I)Z"⟩ ∈ rl_G := rl_wd 598 rfl rfl
set_option maxRecDepth 100000 in
theorem wd_600 : Cond.instanceMethod ⟨"RightsLimitModel", "isTitle", "(I)Z"⟩ ∈ rl_G := rl_wd 600 rfl rfl
set_option maxRecDepth 100000 in
theorem wd_601 : Cond.code ⟨"RightsLimitModel", "isTitle", "(I)Z"⟩ prog_7_method_4_code 2 (some .boolean) ∈ rl_G := rl_wd 601 rfl rfl
