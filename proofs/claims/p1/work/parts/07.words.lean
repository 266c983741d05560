set_option maxRecDepth 100000 in
theorem wd_6 : Cond.selects "RightsLimitModel" ⟨"RightsLimitModel", "isTitle", "(I)Z"⟩ ⟨"RightsLimitModel", "isTitle", "(I)Z"⟩ ∈ rl_G := rl_wd 6 rfl rfl
set_option maxRecDepth 100000 in
theorem wd_14 : Cond.initialized "RightsLimit" ∈ rl_G := rl_wd 14 rfl rfl
set_option maxRecDepth 100000 in
theorem wd_15 : Cond.initialized "RightsLimit$Titles" ∈ rl_G := rl_wd 15 rfl rfl
set_option maxRecDepth 100000 in
theorem wd_16 : Cond.initialized "RightsLimit$Limits" ∈ rl_G := rl_wd 16 rfl rfl
set_option maxRecDepth 100000 in
theorem wd_17 : Cond.initialized "RightsLimit$Licences" ∈ rl_G := rl_wd 17 rfl rfl
set_option maxRecDepth 100000 in
theorem wd_18 : Cond.initialized "RightsLimit$Requests" ∈ rl_G := rl_wd 18 rfl rfl
set_option maxRecDepth 100000 in
theorem wd_19 : Cond.initialized "RightsLimitModel" ∈ rl_G := rl_wd 19 rfl rfl
set_option maxRecDepth 100000 in
theorem wd_23 : Cond.initialized "java/util/NoSuchElementException" ∈ rl_G := rl_wd 23 rfl rfl
set_option maxRecDepth 100000 in
theorem wd_29 : Cond.methodLink "RightsLimit" 3 ⟨"java/lang/Object", "<init>", "()V"⟩ ∈ rl_G := rl_wd 29 rfl rfl
set_option maxRecDepth 100000 in
theorem wd_30 : Cond.instanceMethod ⟨"java/lang/Object", "<init>", "()V"⟩ ∈ rl_G := rl_wd 30 rfl rfl
set_option maxRecDepth 100000 in
theorem wd_31 : Cond.code ⟨"java/lang/Object", "<init>", "()V"⟩ object_method_1_code 1 none ∈ rl_G := rl_wd 31 rfl rfl
set_option maxRecDepth 100000 in
theorem wd_32 : Cond.classLink "RightsLimit" 9 "RightsLimit$Titles" ∈ rl_G := rl_wd 32 rfl rfl
set_option maxRecDepth 100000 in
theorem wd_33 : Cond.instantiable "RightsLimit$Titles" 5 ∈ rl_G := rl_wd 33 rfl rfl
set_option maxRecDepth 100000 in
theorem wd_35 : Cond.instanceMethod ⟨"RightsLimit$Titles", "<init>", "()V"⟩ ∈ rl_G := rl_wd 35 rfl rfl
set_option maxRecDepth 100000 in
theorem wd_36 : Cond.code ⟨"RightsLimit$Titles", "<init>", "()V"⟩ prog_5_method_1_code 1 none ∈ rl_G := rl_wd 36 rfl rfl
set_option maxRecDepth 100000 in
theorem wd_37 : Cond.methodLink "RightsLimit$Titles" 3 ⟨"java/lang/Object", "<init>", "()V"⟩ ∈ rl_G := rl_wd 37 rfl rfl
set_option maxRecDepth 100000 in
theorem wd_38 : Cond.fieldLink "RightsLimit$Titles" 9 "RightsLimit$Titles" "publisher" "[I" ∈ rl_G := rl_wd 38 rfl rfl
set_option maxRecDepth 100000 in
theorem wd_40 : Cond.fieldLink "RightsLimit$Titles" 15 "RightsLimit$Titles" "isOpen" "[Z" ∈ rl_G := rl_wd 40 rfl rfl
set_option maxRecDepth 100000 in
theorem wd_42 : Cond.fieldLink "RightsLimit$Titles" 19 "RightsLimit$Titles" "rightToWaive" "[I" ∈ rl_G := rl_wd 42 rfl rfl
set_option maxRecDepth 100000 in
theorem wd_44 : Cond.fieldLink "RightsLimit$Titles" 22 "RightsLimit$Titles" "waiversLeft" "[I" ∈ rl_G := rl_wd 44 rfl rfl
set_option maxRecDepth 100000 in
theorem wd_46 : Cond.fieldLink "RightsLimit$Titles" 25 "RightsLimit$Titles" "count" "I" ∈ rl_G := rl_wd 46 rfl rfl
set_option maxRecDepth 100000 in
theorem wd_58 : Cond.arrayClass .int ∈ rl_G := rl_wd 58 rfl rfl
set_option maxRecDepth 100000 in
theorem wd_59 : Cond.arrayClass .boolean ∈ rl_G := rl_wd 59 rfl rfl
set_option maxRecDepth 100000 in
theorem wd_60 : Cond.classLink "RightsLimit" 16 "RightsLimit$Limits" ∈ rl_G := rl_wd 60 rfl rfl
set_option maxRecDepth 100000 in
theorem wd_61 : Cond.instantiable "RightsLimit$Limits" 5 ∈ rl_G := rl_wd 61 rfl rfl
set_option maxRecDepth 100000 in
theorem wd_63 : Cond.instanceMethod ⟨"RightsLimit$Limits", "<init>", "()V"⟩ ∈ rl_G := rl_wd 63 rfl rfl
set_option maxRecDepth 100000 in
theorem wd_64 : Cond.code ⟨"RightsLimit$Limits", "<init>", "()V"⟩ prog_3_method_1_code 1 none ∈ rl_G := rl_wd 64 rfl rfl
set_option maxRecDepth 100000 in
theorem wd_65 : Cond.methodLink "RightsLimit$Limits" 3 ⟨"java/lang/Object", "<init>", "()V"⟩ ∈ rl_G := rl_wd 65 rfl rfl
set_option maxRecDepth 100000 in
theorem wd_66 : Cond.fieldLink "RightsLimit$Limits" 9 "RightsLimit$Limits" "title" "[I" ∈ rl_G := rl_wd 66 rfl rfl
set_option maxRecDepth 100000 in
theorem wd_67 : Cond.fieldLink "RightsLimit$Limits" 15 "RightsLimit$Limits" "kind" "[I" ∈ rl_G := rl_wd 67 rfl rfl
set_option maxRecDepth 100000 in
theorem wd_68 : Cond.fieldLink "RightsLimit$Limits" 18 "RightsLimit$Limits" "days" "[I" ∈ rl_G := rl_wd 68 rfl rfl
set_option maxRecDepth 100000 in
theorem wd_70 : Cond.fieldLink "RightsLimit$Limits" 21 "RightsLimit$Limits" "copies" "[I" ∈ rl_G := rl_wd 70 rfl rfl
set_option maxRecDepth 100000 in
theorem wd_72 : Cond.fieldLink "RightsLimit$Limits" 24 "RightsLimit$Limits" "count" "I" ∈ rl_G := rl_wd 72 rfl rfl
set_option maxRecDepth 100000 in
theorem wd_85 : Cond.classLink "RightsLimit" 23 "RightsLimit$Licences" ∈ rl_G := rl_wd 85 rfl rfl
set_option maxRecDepth 100000 in
theorem wd_86 : Cond.instantiable "RightsLimit$Licences" 6 ∈ rl_G := rl_wd 86 rfl rfl
set_option maxRecDepth 100000 in
theorem wd_88 : Cond.instanceMethod ⟨"RightsLimit$Licences", "<init>", "()V"⟩ ∈ rl_G := rl_wd 88 rfl rfl
set_option maxRecDepth 100000 in
theorem wd_89 : Cond.code ⟨"RightsLimit$Licences", "<init>", "()V"⟩ prog_2_method_1_code 1 none ∈ rl_G := rl_wd 89 rfl rfl
set_option maxRecDepth 100000 in
theorem wd_90 : Cond.methodLink "RightsLimit$Licences" 3 ⟨"java/lang/Object", "<init>", "()V"⟩ ∈ rl_G := rl_wd 90 rfl rfl
set_option maxRecDepth 100000 in
theorem wd_91 : Cond.fieldLink "RightsLimit$Licences" 9 "RightsLimit$Licences" "title" "[I" ∈ rl_G := rl_wd 91 rfl rfl
set_option maxRecDepth 100000 in
theorem wd_92 : Cond.fieldLink "RightsLimit$Licences" 15 "RightsLimit$Licences" "kind" "[I" ∈ rl_G := rl_wd 92 rfl rfl
set_option maxRecDepth 100000 in
theorem wd_93 : Cond.fieldLink "RightsLimit$Licences" 18 "RightsLimit$Licences" "copiesLeft" "[I" ∈ rl_G := rl_wd 93 rfl rfl
set_option maxRecDepth 100000 in
theorem wd_95 : Cond.fieldLink "RightsLimit$Licences" 21 "RightsLimit$Licences" "from" "[I" ∈ rl_G := rl_wd 95 rfl rfl
set_option maxRecDepth 100000 in
theorem wd_96 : Cond.fieldLink "RightsLimit$Licences" 24 "RightsLimit$Licences" "to" "[I" ∈ rl_G := rl_wd 96 rfl rfl
set_option maxRecDepth 100000 in
theorem wd_97 : Cond.fieldLink "RightsLimit$Licences" 27 "RightsLimit$Licences" "count" "I" ∈ rl_G := rl_wd 97 rfl rfl
set_option maxRecDepth 100000 in
theorem wd_111 : Cond.classLink "RightsLimit" 30 "RightsLimit$Requests" ∈ rl_G := rl_wd 111 rfl rfl
set_option maxRecDepth 100000 in
theorem wd_112 : Cond.instantiable "RightsLimit$Requests" 13 ∈ rl_G := rl_wd 112 rfl rfl
set_option maxRecDepth 100000 in
theorem wd_114 : Cond.instanceMethod ⟨"RightsLimit$Requests", "<init>", "()V"⟩ ∈ rl_G := rl_wd 114 rfl rfl
set_option maxRecDepth 100000 in
theorem wd_115 : Cond.code ⟨"RightsLimit$Requests", "<init>", "()V"⟩ prog_4_method_1_code 1 none ∈ rl_G := rl_wd 115 rfl rfl
set_option maxRecDepth 100000 in
theorem wd_116 : Cond.methodLink "RightsLimit$Requests" 3 ⟨"java/lang/Object", "<init>", "()V"⟩ ∈ rl_G := rl_wd 116 rfl rfl
set_option maxRecDepth 100000 in
theorem wd_117 : Cond.fieldLink "RightsLimit$Requests" 9 "RightsLimit$Requests" "person" "[I" ∈ rl_G := rl_wd 117 rfl rfl
set_option maxRecDepth 100000 in
theorem wd_119 : Cond.fieldLink "RightsLimit$Requests" 15 "RightsLimit$Requests" "title" "[I" ∈ rl_G := rl_wd 119 rfl rfl
set_option maxRecDepth 100000 in
theorem wd_121 : Cond.fieldLink "RightsLimit$Requests" 18 "RightsLimit$Requests" "kind" "[I" ∈ rl_G := rl_wd 121 rfl rfl
set_option maxRecDepth 100000 in
theorem wd_123 : Cond.fieldLink "RightsLimit$Requests" 21 "RightsLimit$Requests" "pages" "[I" ∈ rl_G := rl_wd 123 rfl rfl
set_option maxRecDepth 100000 in
theorem wd_125 : Cond.fieldLink "RightsLimit$Requests" 24 "RightsLimit$Requests" "time" "[I" ∈ rl_G := rl_wd 125 rfl rfl
set_option maxRecDepth 100000 in
theorem wd_127 : Cond.fieldLink "RightsLimit$Requests" 27 "RightsLimit$Requests" "by" "[I" ∈ rl_G := rl_wd 127 rfl rfl
set_option maxRecDepth 100000 in
theorem wd_129 : Cond.fieldLink "RightsLimit$Requests" 30 "RightsLimit$Requests" "licence" "[I" ∈ rl_G := rl_wd 129 rfl rfl
set_option maxRecDepth 100000 in
theorem wd_131 : Cond.fieldLink "RightsLimit$Requests" 33 "RightsLimit$Requests" "centsEachTime" "[I" ∈ rl_G := rl_wd 131 rfl rfl
set_option maxRecDepth 100000 in
theorem wd_132 : Cond.fieldLink "RightsLimit$Requests" 36 "RightsLimit$Requests" "centsInAll" "[I" ∈ rl_G := rl_wd 132 rfl rfl
set_option maxRecDepth 100000 in
theorem wd_134 : Cond.fieldLink "RightsLimit$Requests" 39 "RightsLimit$Requests" "end" "[I" ∈ rl_G := rl_wd 134 rfl rfl
set_option maxRecDepth 100000 in
theorem wd_136 : Cond.fieldLink "RightsLimit$Requests" 42 "RightsLimit$Requests" "renewals" "[I" ∈ rl_G := rl_wd 136 rfl rfl
set_option maxRecDepth 100000 in
theorem wd_138 : Cond.fieldLink "RightsLimit$Requests" 45 "RightsLimit$Requests" "deletedAt" "[I" ∈ rl_G := rl_wd 138 rfl rfl
set_option maxRecDepth 100000 in
theorem wd_140 : Cond.fieldLink "RightsLimit$Requests" 48 "RightsLimit$Requests" "count" "I" ∈ rl_G := rl_wd 140 rfl rfl
set_option maxRecDepth 100000 in
theorem wd_168 : Cond.fieldLink "RightsLimit" 12 "RightsLimit" "titles" "LRightsLimit$Titles;" ∈ rl_G := rl_wd 168 rfl rfl
set_option maxRecDepth 100000 in
theorem wd_169 : Cond.fieldLink "RightsLimit" 19 "RightsLimit" "limits" "LRightsLimit$Limits;" ∈ rl_G := rl_wd 169 rfl rfl
set_option maxRecDepth 100000 in
theorem wd_170 : Cond.fieldLink "RightsLimit" 26 "RightsLimit" "licences" "LRightsLimit$Licences;" ∈ rl_G := rl_wd 170 rfl rfl
set_option maxRecDepth 100000 in
theorem wd_171 : Cond.fieldLink "RightsLimit" 33 "RightsLimit" "requests" "LRightsLimit$Requests;" ∈ rl_G := rl_wd 171 rfl rfl
set_option maxRecDepth 100000 in
theorem wd_172 : Cond.fieldLink "RightsLimit" 37 "RightsLimit" "feeOfPublisher" "[I" ∈ rl_G := rl_wd 172 rfl rfl
set_option maxRecDepth 100000 in
theorem wd_173 : Cond.fieldLink "RightsLimit" 41 "RightsLimit" "rightsOfPerson" "[I" ∈ rl_G := rl_wd 173 rfl rfl
set_option maxRecDepth 100000 in
theorem wd_174 : Cond.fieldLink "RightsLimit" 44 "RightsLimit" "now" "I" ∈ rl_G := rl_wd 174 rfl rfl
set_option maxRecDepth 100000 in
theorem wd_175 : Cond.fieldLink "RightsLimit" 48 "RightsLimit" "latestWhy" "I" ∈ rl_G := rl_wd 175 rfl rfl
set_option maxRecDepth 100000 in
theorem wd_197 : Cond.methodLink "RightsLimit" 51 ⟨"RightsLimit", "isPublisher", "(I)Z"⟩ ∈ rl_G := rl_wd 197 rfl rfl
set_option maxRecDepth 100000 in
theorem wd_198 : Cond.static ⟨"RightsLimit", "isPublisher", "(I)Z"⟩ ∈ rl_G := rl_wd 198 rfl rfl
set_option maxRecDepth 100000 in
theorem wd_199 : Cond.code ⟨"RightsLimit", "isPublisher", "(I)Z"⟩ prog_1_method_25_code 1 (some .boolean) ∈ rl_G := rl_wd 199 rfl rfl
set_option maxRecDepth 100000 in
theorem wd_200 : Cond.methodLink "RightsLimit" 84 ⟨"RightsLimit", "isBetween", "(III)Z"⟩ ∈ rl_G := rl_wd 200 rfl rfl
set_option maxRecDepth 100000 in
theorem wd_201 : Cond.static ⟨"RightsLimit", "isBetween", "(III)Z"⟩ ∈ rl_G := rl_wd 201 rfl rfl
set_option maxRecDepth 100000 in
theorem wd_202 : Cond.code ⟨"RightsLimit", "isBetween", "(III)Z"⟩ prog_1_method_30_code 3 (some .boolean) ∈ rl_G := rl_wd 202 rfl rfl
set_option maxRecDepth 100000 in
theorem wd_203 : Cond.methodLink "RightsLimit" 55 ⟨"RightsLimit$Titles", "add", "(I)I"⟩ ∈ rl_G := rl_wd 203 rfl rfl
set_option maxRecDepth 100000 in
theorem wd_204 : Cond.instanceMethod ⟨"RightsLimit$Titles", "add", "(I)I"⟩ ∈ rl_G := rl_wd 204 rfl rfl
set_option maxRecDepth 100000 in
theorem wd_205 : Cond.selects "RightsLimit$Titles" ⟨"RightsLimit$Titles", "add", "(I)I"⟩ ⟨"RightsLimit$Titles", "add", "(I)I"⟩ ∈ rl_G := rl_wd 205 rfl rfl
set_option maxRecDepth 100000 in
theorem wd_206 : Cond.code ⟨"RightsLimit$Titles", "add", "(I)I"⟩ prog_5_method_3_code 2 (some .int) ∈ rl_G := rl_wd 206 rfl rfl
set_option maxRecDepth 100000 in
theorem wd_211 : Cond.methodLink "RightsLimit" 59 ⟨"RightsLimit$Titles", "has", "(I)Z"⟩ ∈ rl_G := rl_wd 211 rfl rfl
set_option maxRecDepth 100000 in
theorem wd_212 : Cond.instanceMethod ⟨"RightsLimit$Titles", "has", "(I)Z"⟩ ∈ rl_G := rl_wd 212 rfl rfl
set_option maxRecDepth 100000 in
theorem wd_213 : Cond.selects "RightsLimit$Titles" ⟨"RightsLimit$Titles", "has", "(I)Z"⟩ ⟨"RightsLimit$Titles", "has", "(I)Z"⟩ ∈ rl_G := rl_wd 213 rfl rfl
set_option maxRecDepth 100000 in
theorem wd_214 : Cond.code ⟨"RightsLimit$Titles", "has", "(I)Z"⟩ prog_5_method_2_code 2 (some .boolean) ∈ rl_G := rl_wd 214 rfl rfl
set_option maxRecDepth 100000 in
theorem wd_252 : Cond.methodLink "RightsLimit" 88 ⟨"RightsLimit", "isPerson", "(I)Z"⟩ ∈ rl_G := rl_wd 252 rfl rfl
set_option maxRecDepth 100000 in
theorem wd_253 : Cond.static ⟨"RightsLimit", "isPerson", "(I)Z"⟩ ∈ rl_G := rl_wd 253 rfl rfl
set_option maxRecDepth 100000 in
theorem wd_254 : Cond.code ⟨"RightsLimit", "isPerson", "(I)Z"⟩ prog_1_method_26_code 1 (some .boolean) ∈ rl_G := rl_wd 254 rfl rfl
set_option maxRecDepth 100000 in
theorem wd_331 : Cond.methodLink "RightsLimit" 112 ⟨"RightsLimit$Requests", "has", "(I)Z"⟩ ∈ rl_G := rl_wd 331 rfl rfl
set_option maxRecDepth 100000 in
theorem wd_332 : Cond.instanceMethod ⟨"RightsLimit$Requests", "has", "(I)Z"⟩ ∈ rl_G := rl_wd 332 rfl rfl
set_option maxRecDepth 100000 in
theorem wd_333 : Cond.selects "RightsLimit$Requests" ⟨"RightsLimit$Requests", "has", "(I)Z"⟩ ⟨"RightsLimit$Requests", "has", "(I)Z"⟩ ∈ rl_G := rl_wd 333 rfl rfl
set_option maxRecDepth 100000 in
theorem wd_334 : Cond.code ⟨"RightsLimit$Requests", "has", "(I)Z"⟩ prog_4_method_2_code 2 (some .boolean) ∈ rl_G := rl_wd 334 rfl rfl
set_option maxRecDepth 100000 in
theorem wd_366 : Cond.methodLink "RightsLimit" 170 ⟨"RightsLimit$Licences", "has", "(I)Z"⟩ ∈ rl_G := rl_wd 366 rfl rfl
set_option maxRecDepth 100000 in
theorem wd_367 : Cond.instanceMethod ⟨"RightsLimit$Licences", "has", "(I)Z"⟩ ∈ rl_G := rl_wd 367 rfl rfl
set_option maxRecDepth 100000 in
theorem wd_368 : Cond.selects "RightsLimit$Licences" ⟨"RightsLimit$Licences", "has", "(I)Z"⟩ ⟨"RightsLimit$Licences", "has", "(I)Z"⟩ ∈ rl_G := rl_wd 368 rfl rfl
set_option maxRecDepth 100000 in
theorem wd_369 : Cond.code ⟨"RightsLimit$Licences", "has", "(I)Z"⟩ prog_2_method_2_code 2 (some .boolean) ∈ rl_G := rl_wd 369 rfl rfl
set_option maxRecDepth 100000 in
theorem wd_374 : Cond.methodLink "RightsLimit" 174 ⟨"RightsLimit$Requests", "countOf", "(I)I"⟩ ∈ rl_G := rl_wd 374 rfl rfl
set_option maxRecDepth 100000 in
theorem wd_375 : Cond.instanceMethod ⟨"RightsLimit$Requests", "countOf", "(I)I"⟩ ∈ rl_G := rl_wd 375 rfl rfl
set_option maxRecDepth 100000 in
theorem wd_376 : Cond.selects "RightsLimit$Requests" ⟨"RightsLimit$Requests", "countOf", "(I)I"⟩ ⟨"RightsLimit$Requests", "countOf", "(I)I"⟩ ∈ rl_G := rl_wd 376 rfl rfl
set_option maxRecDepth 100000 in
theorem wd_377 : Cond.code ⟨"RightsLimit$Requests", "countOf", "(I)I"⟩ prog_4_method_14_code 4 (some .int) ∈ rl_G := rl_wd 377 rfl rfl
set_option maxRecDepth 100000 in
theorem wd_378 : Cond.methodLink "RightsLimit" 177 ⟨"RightsLimit$Requests", "countRefusedOf", "(I)I"⟩ ∈ rl_G := rl_wd 378 rfl rfl
set_option maxRecDepth 100000 in
theorem wd_379 : Cond.instanceMethod ⟨"RightsLimit$Requests", "countRefusedOf", "(I)I"⟩ ∈ rl_G := rl_wd 379 rfl rfl
set_option maxRecDepth 100000 in
theorem wd_380 : Cond.selects "RightsLimit$Requests" ⟨"RightsLimit$Requests", "countRefusedOf", "(I)I"⟩ ⟨"RightsLimit$Requests", "countRefusedOf", "(I)I"⟩ ∈ rl_G := rl_wd 380 rfl rfl
set_option maxRecDepth 100000 in
theorem wd_381 : Cond.code ⟨"RightsLimit$Requests", "countRefusedOf", "(I)I"⟩ prog_4_method_15_code 4 (some .int) ∈ rl_G := rl_wd 381 rfl rfl
set_option maxRecDepth 100000 in
theorem wd_382 : Cond.methodLink "RightsLimit" 180 ⟨"RightsLimit$Requests", "pagesAllowedTo", "(I)I"⟩ ∈ rl_G := rl_wd 382 rfl rfl
set_option maxRecDepth 100000 in
theorem wd_383 : Cond.instanceMethod ⟨"RightsLimit$Requests", "pagesAllowedTo", "(I)I"⟩ ∈ rl_G := rl_wd 383 rfl rfl
set_option maxRecDepth 100000 in
theorem wd_384 : Cond.selects "RightsLimit$Requests" ⟨"RightsLimit$Requests", "pagesAllowedTo", "(I)I"⟩ ⟨"RightsLimit$Requests", "pagesAllowedTo", "(I)I"⟩ ∈ rl_G := rl_wd 384 rfl rfl
set_option maxRecDepth 100000 in
theorem wd_385 : Cond.code ⟨"RightsLimit$Requests", "pagesAllowedTo", "(I)I"⟩ prog_4_method_16_code 4 (some .int) ∈ rl_G := rl_wd 385 rfl rfl
set_option maxRecDepth 100000 in
theorem wd_386 : Cond.methodLink "RightsLimit" 183 ⟨"RightsLimit$Requests", "centsOf", "(I)I"⟩ ∈ rl_G := rl_wd 386 rfl rfl
set_option maxRecDepth 100000 in
theorem wd_387 : Cond.instanceMethod ⟨"RightsLimit$Requests", "centsOf", "(I)I"⟩ ∈ rl_G := rl_wd 387 rfl rfl
set_option maxRecDepth 100000 in
theorem wd_388 : Cond.selects "RightsLimit$Requests" ⟨"RightsLimit$Requests", "centsOf", "(I)I"⟩ ⟨"RightsLimit$Requests", "centsOf", "(I)I"⟩ ∈ rl_G := rl_wd 388 rfl rfl
set_option maxRecDepth 100000 in
theorem wd_389 : Cond.code ⟨"RightsLimit$Requests", "centsOf", "(I)I"⟩ prog_4_method_17_code 4 (some .int) ∈ rl_G := rl_wd 389 rfl rfl
set_option maxRecDepth 100000 in
theorem wd_392 : Cond.codeWith ⟨"RightsLimitLaw", "request", "(LRightsLimit;II[J)I"⟩ method_3_code 5 (some .int) [(0, 10, 13, 13)] ∈ rl_G := rl_wd 392 rfl rfl
set_option maxRecDepth 100000 in
theorem wd_393 : Cond.classLink "RightsLimitLaw" 13 "java/util/NoSuchElementException" ∈ rl_G := rl_wd 393 rfl rfl
set_option maxRecDepth 100000 in
theorem wd_394 : Cond.methodLink "RightsLimitLaw" 7 ⟨"RightsLimit", "request", "(II)I"⟩ ∈ rl_G := rl_wd 394 rfl rfl
set_option maxRecDepth 100000 in
theorem wd_395 : Cond.instanceMethod ⟨"RightsLimit", "request", "(II)I"⟩ ∈ rl_G := rl_wd 395 rfl rfl
set_option maxRecDepth 100000 in
theorem wd_396 : Cond.selects "RightsLimit" ⟨"RightsLimit", "request", "(II)I"⟩ ⟨"RightsLimit", "request", "(II)I"⟩ ∈ rl_G := rl_wd 396 rfl rfl
set_option maxRecDepth 100000 in
theorem wd_397 : Cond.code ⟨"RightsLimit", "request", "(II)I"⟩ prog_1_method_15_code 3 (some .int) ∈ rl_G := rl_wd 397 rfl rfl
set_option maxRecDepth 100000 in
theorem wd_398 : Cond.classLink "RightsLimit" 131 "java/util/NoSuchElementException" ∈ rl_G := rl_wd 398 rfl rfl
set_option maxRecDepth 100000 in
theorem wd_467 : Cond.codeWith ⟨"RightsLimitLaw", "past", "(LRightsLimit;II[J)I"⟩ method_4_code 5 (some .int) [(0, 10, 13, 13)] ∈ rl_G := rl_wd 467 rfl rfl
set_option maxRecDepth 100000 in
theorem wd_468 : Cond.methodLink "RightsLimitLaw" 15 ⟨"RightsLimit", "past", "(II)I"⟩ ∈ rl_G := rl_wd 468 rfl rfl
set_option maxRecDepth 100000 in
theorem wd_469 : Cond.instanceMethod ⟨"RightsLimit", "past", "(II)I"⟩ ∈ rl_G := rl_wd 469 rfl rfl
set_option maxRecDepth 100000 in
theorem wd_470 : Cond.selects "RightsLimit" ⟨"RightsLimit", "past", "(II)I"⟩ ⟨"RightsLimit", "past", "(II)I"⟩ ∈ rl_G := rl_wd 470 rfl rfl
set_option maxRecDepth 100000 in
theorem wd_471 : Cond.code ⟨"RightsLimit", "past", "(II)I"⟩ prog_1_method_18_code 4 (some .int) ∈ rl_G := rl_wd 471 rfl rfl
set_option maxRecDepth 100000 in
theorem wd_472 : Cond.methodLink "RightsLimit" 186 ⟨"RightsLimit$Requests", "endedAt", "(II)I"⟩ ∈ rl_G := rl_wd 472 rfl rfl
set_option maxRecDepth 100000 in
theorem wd_473 : Cond.instanceMethod ⟨"RightsLimit$Requests", "endedAt", "(II)I"⟩ ∈ rl_G := rl_wd 473 rfl rfl
set_option maxRecDepth 100000 in
theorem wd_474 : Cond.selects "RightsLimit$Requests" ⟨"RightsLimit$Requests", "endedAt", "(II)I"⟩ ⟨"RightsLimit$Requests", "endedAt", "(II)I"⟩ ∈ rl_G := rl_wd 474 rfl rfl
set_option maxRecDepth 100000 in
theorem wd_475 : Cond.code ⟨"RightsLimit$Requests", "endedAt", "(II)I"⟩ prog_4_method_13_code 5 (some .int) ∈ rl_G := rl_wd 475 rfl rfl
set_option maxRecDepth 100000 in
theorem wd_482 : Cond.methodLink "RightsLimitModel" 1 ⟨"java/lang/Object", "<init>", "()V"⟩ ∈ rl_G := rl_wd 482 rfl rfl
set_option maxRecDepth 100000 in
theorem wd_483 : Cond.fieldLink "RightsLimitModel" 93 "RightsLimitModel" "thrown" "I" ∈ rl_G := rl_wd 483 rfl rfl
set_option maxRecDepth 100000 in
theorem wd_485 : Cond.fieldLink "RightsLimitModel" 96 "RightsLimitModel" "titles" "I" ∈ rl_G := rl_wd 485 rfl rfl
set_option maxRecDepth 100000 in
theorem wd_486 : Cond.fieldLink "RightsLimitModel" 7 "RightsLimitModel" "publisher" "[I" ∈ rl_G := rl_wd 486 rfl rfl
set_option maxRecDepth 100000 in
theorem wd_487 : Cond.fieldLink "RightsLimitModel" 13 "RightsLimitModel" "isOpen" "[Z" ∈ rl_G := rl_wd 487 rfl rfl
set_option maxRecDepth 100000 in
theorem wd_488 : Cond.fieldLink "RightsLimitModel" 17 "RightsLimitModel" "titleRight" "[I" ∈ rl_G := rl_wd 488 rfl rfl
set_option maxRecDepth 100000 in
theorem wd_489 : Cond.fieldLink "RightsLimitModel" 20 "RightsLimitModel" "waivers" "[I" ∈ rl_G := rl_wd 489 rfl rfl
set_option maxRecDepth 100000 in
theorem wd_490 : Cond.fieldLink "RightsLimitModel" 23 "RightsLimitModel" "fees" "[I" ∈ rl_G := rl_wd 490 rfl rfl
set_option maxRecDepth 100000 in
theorem wd_491 : Cond.fieldLink "RightsLimitModel" 26 "RightsLimitModel" "rights" "[Z" ∈ rl_G := rl_wd 491 rfl rfl
set_option maxRecDepth 100000 in
theorem wd_493 : Cond.fieldLink "RightsLimitModel" 29 "RightsLimitModel" "limitTitle" "[I" ∈ rl_G := rl_wd 493 rfl rfl
set_option maxRecDepth 100000 in
theorem wd_494 : Cond.fieldLink "RightsLimitModel" 32 "RightsLimitModel" "limitKind" "[I" ∈ rl_G := rl_wd 494 rfl rfl
set_option maxRecDepth 100000 in
theorem wd_495 : Cond.fieldLink "RightsLimitModel" 35 "RightsLimitModel" "limitDays" "[I" ∈ rl_G := rl_wd 495 rfl rfl
set_option maxRecDepth 100000 in
theorem wd_496 : Cond.fieldLink "RightsLimitModel" 38 "RightsLimitModel" "limitMost" "[I" ∈ rl_G := rl_wd 496 rfl rfl
set_option maxRecDepth 100000 in
theorem wd_497 : Cond.fieldLink "RightsLimitModel" 114 "RightsLimitModel" "licences" "I" ∈ rl_G := rl_wd 497 rfl rfl
set_option maxRecDepth 100000 in
theorem wd_498 : Cond.fieldLink "RightsLimitModel" 41 "RightsLimitModel" "licenceTitle" "[I" ∈ rl_G := rl_wd 498 rfl rfl
set_option maxRecDepth 100000 in
theorem wd_499 : Cond.fieldLink "RightsLimitModel" 44 "RightsLimitModel" "licenceKind" "[I" ∈ rl_G := rl_wd 499 rfl rfl
set_option maxRecDepth 100000 in
theorem wd_500 : Cond.fieldLink "RightsLimitModel" 47 "RightsLimitModel" "licenceLeft" "[I" ∈ rl_G := rl_wd 500 rfl rfl
set_option maxRecDepth 100000 in
theorem wd_501 : Cond.fieldLink "RightsLimitModel" 50 "RightsLimitModel" "licenceFrom" "[I" ∈ rl_G := rl_wd 501 rfl rfl
set_option maxRecDepth 100000 in
theorem wd_502 : Cond.fieldLink "RightsLimitModel" 53 "RightsLimitModel" "licenceTo" "[I" ∈ rl_G := rl_wd 502 rfl rfl
set_option maxRecDepth 100000 in
theorem wd_503 : Cond.fieldLink "RightsLimitModel" 117 "RightsLimitModel" "requests" "I" ∈ rl_G := rl_wd 503 rfl rfl
set_option maxRecDepth 100000 in
theorem wd_504 : Cond.fieldLink "RightsLimitModel" 56 "RightsLimitModel" "person" "[I" ∈ rl_G := rl_wd 504 rfl rfl
set_option maxRecDepth 100000 in
theorem wd_505 : Cond.fieldLink "RightsLimitModel" 59 "RightsLimitModel" "title" "[I" ∈ rl_G := rl_wd 505 rfl rfl
set_option maxRecDepth 100000 in
theorem wd_506 : Cond.fieldLink "RightsLimitModel" 62 "RightsLimitModel" "kind" "[I" ∈ rl_G := rl_wd 506 rfl rfl
set_option maxRecDepth 100000 in
theorem wd_507 : Cond.fieldLink "RightsLimitModel" 65 "RightsLimitModel" "pages" "[I" ∈ rl_G := rl_wd 507 rfl rfl
set_option maxRecDepth 100000 in
theorem wd_508 : Cond.fieldLink "RightsLimitModel" 68 "RightsLimitModel" "time" "[I" ∈ rl_G := rl_wd 508 rfl rfl
set_option maxRecDepth 100000 in
theorem wd_509 : Cond.fieldLink "RightsLimitModel" 71 "RightsLimitModel" "by" "[I" ∈ rl_G := rl_wd 509 rfl rfl
set_option maxRecDepth 100000 in
theorem wd_510 : Cond.fieldLink "RightsLimitModel" 74 "RightsLimitModel" "byLicence" "[I" ∈ rl_G := rl_wd 510 rfl rfl
set_option maxRecDepth 100000 in
theorem wd_511 : Cond.fieldLink "RightsLimitModel" 77 "RightsLimitModel" "fee" "[I" ∈ rl_G := rl_wd 511 rfl rfl
set_option maxRecDepth 100000 in
theorem wd_512 : Cond.fieldLink "RightsLimitModel" 80 "RightsLimitModel" "end" "[I" ∈ rl_G := rl_wd 512 rfl rfl
set_option maxRecDepth 100000 in
theorem wd_513 : Cond.fieldLink "RightsLimitModel" 83 "RightsLimitModel" "renewed" "[I" ∈ rl_G := rl_wd 513 rfl rfl
set_option maxRecDepth 100000 in
theorem wd_514 : Cond.fieldLink "RightsLimitModel" 86 "RightsLimitModel" "deleted" "[I" ∈ rl_G := rl_wd 514 rfl rfl
set_option maxRecDepth 100000 in
theorem wd_515 : Cond.fieldLink "RightsLimitModel" 89 "RightsLimitModel" "why" "I" ∈ rl_G := rl_wd 515 rfl rfl
set_option maxRecDepth 100000 in
theorem wd_591 : Cond.methodLink "RightsLimitModel" 99 ⟨"RightsLimitModel", "in", "(III)Z"⟩ ∈ rl_G := rl_wd 591 rfl rfl
set_option maxRecDepth 100000 in
theorem wd_592 : Cond.static ⟨"RightsLimitModel", "in", "(III)Z"⟩ ∈ rl_G := rl_wd 592 rfl rfl
set_option maxRecDepth 100000 in
theorem wd_593 : Cond.code ⟨"RightsLimitModel", "in", "(III)Z"⟩ prog_7_method_3_code 3 (some .boolean) ∈ rl_G := rl_wd 593 rfl rfl
set_option maxRecDepth 100000 in
theorem wd_598 : Cond.methodLink "RightsLimitModel" 107 ⟨"RightsLimitModel", "isTitle", "(I)Z"⟩ ∈ rl_G := rl_wd 598 rfl rfl
set_option maxRecDepth 100000 in
theorem wd_600 : Cond.instanceMethod ⟨"RightsLimitModel", "isTitle", "(I)Z"⟩ ∈ rl_G := rl_wd 600 rfl rfl
set_option maxRecDepth 100000 in
theorem wd_601 : Cond.code ⟨"RightsLimitModel", "isTitle", "(I)Z"⟩ prog_7_method_4_code 2 (some .boolean) ∈ rl_G := rl_wd 601 rfl rfl
