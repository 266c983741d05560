set_option maxRecDepth 100000 in
theorem wd_0 : Cond.selects "RightsLimit" ⟨"RightsLimit", "goOnTo", "(I)Z"⟩ ⟨"RightsLimit", "goOnTo", "(I)Z"⟩ ∈ rl_G := rl_wd 0 rfl rfl
set_option maxRecDepth 100000 in
theorem wd_1 : Cond.selects "RightsLimit" ⟨"RightsLimit", "decide", "(IIII)V"⟩ ⟨"RightsLimit", "decide", "(IIII)V"⟩ ∈ rl_G := rl_wd 1 rfl rfl
set_option maxRecDepth 100000 in
theorem wd_2 : Cond.selects "RightsLimit" ⟨"RightsLimit", "firstLimitReached", "(III)I"⟩ ⟨"RightsLimit", "firstLimitReached", "(III)I"⟩ ∈ rl_G := rl_wd 2 rfl rfl
set_option maxRecDepth 100000 in
theorem wd_3 : Cond.selects "RightsLimit" ⟨"RightsLimit", "decideBeyondLimits", "(III)V"⟩ ⟨"RightsLimit", "decideBeyondLimits", "(III)V"⟩ ∈ rl_G := rl_wd 3 rfl rfl
set_option maxRecDepth 100000 in
theorem wd_4 : Cond.selects "RightsLimit" ⟨"RightsLimit", "mayWaive", "(II)Z"⟩ ⟨"RightsLimit", "mayWaive", "(II)Z"⟩ ∈ rl_G := rl_wd 4 rfl rfl
set_option maxRecDepth 100000 in
theorem wd_6 : Cond.selects "RightsLimitModel" ⟨"RightsLimitModel", "isTitle", "(I)Z"⟩ ⟨"RightsLimitModel", "isTitle", "(I)Z"⟩ ∈ rl_G := rl_wd 6 rfl rfl
set_option maxRecDepth 100000 in
theorem wd_7 : Cond.selects "RightsLimitModel" ⟨"RightsLimitModel", "isNow", "(I)Z"⟩ ⟨"RightsLimitModel", "isNow", "(I)Z"⟩ ∈ rl_G := rl_wd 7 rfl rfl
set_option maxRecDepth 100000 in
theorem wd_8 : Cond.selects "RightsLimitModel" ⟨"RightsLimitModel", "decide", "(III)I"⟩ ⟨"RightsLimitModel", "decide", "(III)I"⟩ ∈ rl_G := rl_wd 8 rfl rfl
set_option maxRecDepth 100000 in
theorem wd_9 : Cond.selects "RightsLimitModel" ⟨"RightsLimitModel", "licenceFor", "(III)I"⟩ ⟨"RightsLimitModel", "licenceFor", "(III)I"⟩ ∈ rl_G := rl_wd 9 rfl rfl
set_option maxRecDepth 100000 in
theorem wd_10 : Cond.selects "RightsLimitModel" ⟨"RightsLimitModel", "barrier", "(III)I"⟩ ⟨"RightsLimitModel", "barrier", "(III)I"⟩ ∈ rl_G := rl_wd 10 rfl rfl
set_option maxRecDepth 100000 in
theorem wd_11 : Cond.selects "RightsLimitModel" ⟨"RightsLimitModel", "count", "(IIII)I"⟩ ⟨"RightsLimitModel", "count", "(IIII)I"⟩ ∈ rl_G := rl_wd 11 rfl rfl
set_option maxRecDepth 100000 in
theorem wd_12 : Cond.selects "RightsLimitModel" ⟨"RightsLimitModel", "cents", "(I)I"⟩ ⟨"RightsLimitModel", "cents", "(I)I"⟩ ∈ rl_G := rl_wd 12 rfl rfl
set_option maxRecDepth 100000 in
theorem wd_14 : Cond.initialized "RightsLimit" ∈ rl_G := rl_wd 14 rfl rfl
set_option maxRecDepth 100000 in
theorem wd_15 : Cond.initialized "RightsLimit$Titles" ∈ rl_G := rl_wd 15 rfl rfl
set_option maxRecDepth 100000 in
theorem wd_16 : Cond.initialized "RightsLimit$Limits" ∈ rl_G := rl_wd 16 rfl rfl
set_option maxRecDepth 100000 in
theorem wd_17 : Cond.initialized "RightsLimit$Licences" ∈ rl_G := rl_wd 17 rfl rfl
set_option maxRecDepth 100000 in
theorem wd_18 : Cond.initialized "RightsLimit$Requests" ∈ rl_G := rl_wd 18 rfl rfl
set_option maxRecDepth 100000 in
theorem wd_19 : Cond.initialized "RightsLimitModel" ∈ rl_G := rl_wd 19 rfl rfl
set_option maxRecDepth 100000 in
theorem wd_23 : Cond.initialized "java/util/NoSuchElementException" ∈ rl_G := rl_wd 23 rfl rfl
set_option maxRecDepth 100000 in
theorem wd_29 : Cond.methodLink "RightsLimit" 3 ⟨"java/lang/Object", "<init>", "()V"⟩ ∈ rl_G := rl_wd 29 rfl rfl
set_option maxRecDepth 100000 in
theorem wd_30 : Cond.instanceMethod ⟨"java/lang/Object", "<init>", "()V"⟩ ∈ rl_G := rl_wd 30 rfl rfl
set_option maxRecDepth 100000 in
theorem wd_31 : Cond.code ⟨"java/lang/Object", "<init>", "()V"⟩ object_method_1_code 1 none ∈ rl_G := rl_wd 31 rfl rfl
set_option maxRecDepth 100000 in
theorem wd_32 : Cond.classLink "RightsLimit" 9 "RightsLimit$Titles" ∈ rl_G := rl_wd 32 rfl rfl
set_option maxRecDepth 100000 in
theorem wd_33 : Cond.instantiable "RightsLimit$Titles" 5 ∈ rl_G := rl_wd 33 rfl rfl
set_option maxRecDepth 100000 in
theorem wd_35 : Cond.instanceMethod ⟨"RightsLimit$Titles", "<init>", "()V"⟩ ∈ rl_G := rl_wd 35 rfl rfl
set_option maxRecDepth 100000 in
theorem wd_36 : Cond.code ⟨"RightsLimit$Titles", "<init>", "()V"⟩ prog_5_method_1_code 1 none ∈ rl_G := rl_wd 36 rfl rfl
set_option maxRecDepth 100000 in
theorem wd_37 : Cond.methodLink "RightsLimit$Titles" 3 ⟨"java/lang/Object", "<init>", "()V"⟩ ∈ rl_G := rl_wd 37 rfl rfl
set_option maxRecDepth 100000 in
theorem wd_38 : Cond.fieldLink "RightsLimit$Titles" 9 "RightsLimit$Titles" "publisher" "[I" ∈ rl_G := rl_wd 38 rfl rfl
set_option maxRecDepth 100000 in
theorem wd_39 : Cond.fieldLink "RightsLimit" 207 "RightsLimit$Titles" "publisher" "[I" ∈ rl_G := rl_wd 39 rfl rfl
set_option maxRecDepth 100000 in
theorem wd_40 : Cond.fieldLink "RightsLimit$Titles" 15 "RightsLimit$Titles" "isOpen" "[Z" ∈ rl_G := rl_wd 40 rfl rfl
set_option maxRecDepth 100000 in
theorem wd_41 : Cond.fieldLink "RightsLimit" 62 "RightsLimit$Titles" "isOpen" "[Z" ∈ rl_G := rl_wd 41 rfl rfl
set_option maxRecDepth 100000 in
theorem wd_42 : Cond.fieldLink "RightsLimit$Titles" 19 "RightsLimit$Titles" "rightToWaive" "[I" ∈ rl_G := rl_wd 42 rfl rfl
set_option maxRecDepth 100000 in
theorem wd_43 : Cond.fieldLink "RightsLimit" 102 "RightsLimit$Titles" "rightToWaive" "[I" ∈ rl_G := rl_wd 43 rfl rfl
set_option maxRecDepth 100000 in
theorem wd_44 : Cond.fieldLink "RightsLimit$Titles" 22 "RightsLimit$Titles" "waiversLeft" "[I" ∈ rl_G := rl_wd 44 rfl rfl
set_option maxRecDepth 100000 in
theorem wd_45 : Cond.fieldLink "RightsLimit" 109 "RightsLimit$Titles" "waiversLeft" "[I" ∈ rl_G := rl_wd 45 rfl rfl
set_option maxRecDepth 100000 in
theorem wd_46 : Cond.fieldLink "RightsLimit$Titles" 25 "RightsLimit$Titles" "count" "I" ∈ rl_G := rl_wd 46 rfl rfl
set_option maxRecDepth 100000 in
theorem wd_58 : Cond.arrayClass .int ∈ rl_G := rl_wd 58 rfl rfl
set_option maxRecDepth 100000 in
theorem wd_59 : Cond.arrayClass .boolean ∈ rl_G := rl_wd 59 rfl rfl
set_option maxRecDepth 100000 in
theorem wd_60 : Cond.classLink "RightsLimit" 16 "RightsLimit$Limits" ∈ rl_G := rl_wd 60 rfl rfl
set_option maxRecDepth 100000 in
theorem wd_61 : Cond.instantiable "RightsLimit$Limits" 5 ∈ rl_G := rl_wd 61 rfl rfl
set_option maxRecDepth 100000 in
theorem wd_63 : Cond.instanceMethod ⟨"RightsLimit$Limits", "<init>", "()V"⟩ ∈ rl_G := rl_wd 63 rfl rfl
set_option maxRecDepth 100000 in
theorem wd_64 : Cond.code ⟨"RightsLimit$Limits", "<init>", "()V"⟩ prog_3_method_1_code 1 none ∈ rl_G := rl_wd 64 rfl rfl
set_option maxRecDepth 100000 in
theorem wd_65 : Cond.methodLink "RightsLimit$Limits" 3 ⟨"java/lang/Object", "<init>", "()V"⟩ ∈ rl_G := rl_wd 65 rfl rfl
set_option maxRecDepth 100000 in
theorem wd_66 : Cond.fieldLink "RightsLimit$Limits" 9 "RightsLimit$Limits" "title" "[I" ∈ rl_G := rl_wd 66 rfl rfl
set_option maxRecDepth 100000 in
theorem wd_67 : Cond.fieldLink "RightsLimit$Limits" 15 "RightsLimit$Limits" "kind" "[I" ∈ rl_G := rl_wd 67 rfl rfl
set_option maxRecDepth 100000 in
theorem wd_68 : Cond.fieldLink "RightsLimit$Limits" 18 "RightsLimit$Limits" "days" "[I" ∈ rl_G := rl_wd 68 rfl rfl
set_option maxRecDepth 100000 in
theorem wd_69 : Cond.fieldLink "RightsLimit" 219 "RightsLimit$Limits" "days" "[I" ∈ rl_G := rl_wd 69 rfl rfl
set_option maxRecDepth 100000 in
theorem wd_70 : Cond.fieldLink "RightsLimit$Limits" 21 "RightsLimit$Limits" "copies" "[I" ∈ rl_G := rl_wd 70 rfl rfl
set_option maxRecDepth 100000 in
theorem wd_71 : Cond.fieldLink "RightsLimit" 222 "RightsLimit$Limits" "copies" "[I" ∈ rl_G := rl_wd 71 rfl rfl
set_option maxRecDepth 100000 in
theorem wd_72 : Cond.fieldLink "RightsLimit$Limits" 24 "RightsLimit$Limits" "count" "I" ∈ rl_G := rl_wd 72 rfl rfl
set_option maxRecDepth 100000 in
theorem wd_73 : Cond.fieldLink "RightsLimit" 213 "RightsLimit$Limits" "count" "I" ∈ rl_G := rl_wd 73 rfl rfl
set_option maxRecDepth 100000 in
theorem wd_85 : Cond.classLink "RightsLimit" 23 "RightsLimit$Licences" ∈ rl_G := rl_wd 85 rfl rfl
set_option maxRecDepth 100000 in
theorem wd_86 : Cond.instantiable "RightsLimit$Licences" 6 ∈ rl_G := rl_wd 86 rfl rfl
set_option maxRecDepth 100000 in
theorem wd_88 : Cond.instanceMethod ⟨"RightsLimit$Licences", "<init>", "()V"⟩ ∈ rl_G := rl_wd 88 rfl rfl
set_option maxRecDepth 100000 in
theorem wd_89 : Cond.code ⟨"RightsLimit$Licences", "<init>", "()V"⟩ prog_2_method_1_code 1 none ∈ rl_G := rl_wd 89 rfl rfl
set_option maxRecDepth 100000 in
theorem wd_90 : Cond.methodLink "RightsLimit$Licences" 3 ⟨"java/lang/Object", "<init>", "()V"⟩ ∈ rl_G := rl_wd 90 rfl rfl
set_option maxRecDepth 100000 in
theorem wd_91 : Cond.fieldLink "RightsLimit$Licences" 9 "RightsLimit$Licences" "title" "[I" ∈ rl_G := rl_wd 91 rfl rfl
set_option maxRecDepth 100000 in
theorem wd_92 : Cond.fieldLink "RightsLimit$Licences" 15 "RightsLimit$Licences" "kind" "[I" ∈ rl_G := rl_wd 92 rfl rfl
set_option maxRecDepth 100000 in
theorem wd_93 : Cond.fieldLink "RightsLimit$Licences" 18 "RightsLimit$Licences" "copiesLeft" "[I" ∈ rl_G := rl_wd 93 rfl rfl
set_option maxRecDepth 100000 in
theorem wd_94 : Cond.fieldLink "RightsLimit" 171 "RightsLimit$Licences" "copiesLeft" "[I" ∈ rl_G := rl_wd 94 rfl rfl
set_option maxRecDepth 100000 in
theorem wd_95 : Cond.fieldLink "RightsLimit$Licences" 21 "RightsLimit$Licences" "from" "[I" ∈ rl_G := rl_wd 95 rfl rfl
set_option maxRecDepth 100000 in
theorem wd_96 : Cond.fieldLink "RightsLimit$Licences" 24 "RightsLimit$Licences" "to" "[I" ∈ rl_G := rl_wd 96 rfl rfl
set_option maxRecDepth 100000 in
theorem wd_97 : Cond.fieldLink "RightsLimit$Licences" 27 "RightsLimit$Licences" "count" "I" ∈ rl_G := rl_wd 97 rfl rfl
set_option maxRecDepth 100000 in
theorem wd_111 : Cond.classLink "RightsLimit" 30 "RightsLimit$Requests" ∈ rl_G := rl_wd 111 rfl rfl
set_option maxRecDepth 100000 in
theorem wd_112 : Cond.instantiable "RightsLimit$Requests" 13 ∈ rl_G := rl_wd 112 rfl rfl
set_option maxRecDepth 100000 in
theorem wd_114 : Cond.instanceMethod ⟨"RightsLimit$Requests", "<init>", "()V"⟩ ∈ rl_G := rl_wd 114 rfl rfl
set_option maxRecDepth 100000 in
theorem wd_115 : Cond.code ⟨"RightsLimit$Requests", "<init>", "()V"⟩ prog_4_method_1_code 1 none ∈ rl_G := rl_wd 115 rfl rfl
set_option maxRecDepth 100000 in
theorem wd_116 : Cond.methodLink "RightsLimit$Requests" 3 ⟨"java/lang/Object", "<init>", "()V"⟩ ∈ rl_G := rl_wd 116 rfl rfl
set_option maxRecDepth 100000 in
theorem wd_117 : Cond.fieldLink "RightsLimit$Requests" 9 "RightsLimit$Requests" "person" "[I" ∈ rl_G := rl_wd 117 rfl rfl
set_option maxRecDepth 100000 in
theorem wd_118 : Cond.fieldLink "RightsLimit" 138 "RightsLimit$Requests" "person" "[I" ∈ rl_G := rl_wd 118 rfl rfl
set_option maxRecDepth 100000 in
theorem wd_119 : Cond.fieldLink "RightsLimit$Requests" 15 "RightsLimit$Requests" "title" "[I" ∈ rl_G := rl_wd 119 rfl rfl
set_option maxRecDepth 100000 in
theorem wd_120 : Cond.fieldLink "RightsLimit" 141 "RightsLimit$Requests" "title" "[I" ∈ rl_G := rl_wd 120 rfl rfl
set_option maxRecDepth 100000 in
theorem wd_121 : Cond.fieldLink "RightsLimit$Requests" 18 "RightsLimit$Requests" "kind" "[I" ∈ rl_G := rl_wd 121 rfl rfl
set_option maxRecDepth 100000 in
theorem wd_122 : Cond.fieldLink "RightsLimit" 144 "RightsLimit$Requests" "kind" "[I" ∈ rl_G := rl_wd 122 rfl rfl
set_option maxRecDepth 100000 in
theorem wd_123 : Cond.fieldLink "RightsLimit$Requests" 21 "RightsLimit$Requests" "pages" "[I" ∈ rl_G := rl_wd 123 rfl rfl
set_option maxRecDepth 100000 in
theorem wd_124 : Cond.fieldLink "RightsLimit" 147 "RightsLimit$Requests" "pages" "[I" ∈ rl_G := rl_wd 124 rfl rfl
set_option maxRecDepth 100000 in
theorem wd_125 : Cond.fieldLink "RightsLimit$Requests" 24 "RightsLimit$Requests" "time" "[I" ∈ rl_G := rl_wd 125 rfl rfl
set_option maxRecDepth 100000 in
theorem wd_126 : Cond.fieldLink "RightsLimit" 150 "RightsLimit$Requests" "time" "[I" ∈ rl_G := rl_wd 126 rfl rfl
set_option maxRecDepth 100000 in
theorem wd_127 : Cond.fieldLink "RightsLimit$Requests" 27 "RightsLimit$Requests" "by" "[I" ∈ rl_G := rl_wd 127 rfl rfl
set_option maxRecDepth 100000 in
theorem wd_128 : Cond.fieldLink "RightsLimit" 153 "RightsLimit$Requests" "by" "[I" ∈ rl_G := rl_wd 128 rfl rfl
set_option maxRecDepth 100000 in
theorem wd_129 : Cond.fieldLink "RightsLimit$Requests" 30 "RightsLimit$Requests" "licence" "[I" ∈ rl_G := rl_wd 129 rfl rfl
set_option maxRecDepth 100000 in
theorem wd_130 : Cond.fieldLink "RightsLimit" 156 "RightsLimit$Requests" "licence" "[I" ∈ rl_G := rl_wd 130 rfl rfl
set_option maxRecDepth 100000 in
theorem wd_131 : Cond.fieldLink "RightsLimit$Requests" 33 "RightsLimit$Requests" "centsEachTime" "[I" ∈ rl_G := rl_wd 131 rfl rfl
set_option maxRecDepth 100000 in
theorem wd_132 : Cond.fieldLink "RightsLimit$Requests" 36 "RightsLimit$Requests" "centsInAll" "[I" ∈ rl_G := rl_wd 132 rfl rfl
set_option maxRecDepth 100000 in
theorem wd_133 : Cond.fieldLink "RightsLimit" 159 "RightsLimit$Requests" "centsInAll" "[I" ∈ rl_G := rl_wd 133 rfl rfl
set_option maxRecDepth 100000 in
theorem wd_134 : Cond.fieldLink "RightsLimit$Requests" 39 "RightsLimit$Requests" "end" "[I" ∈ rl_G := rl_wd 134 rfl rfl
set_option maxRecDepth 100000 in
theorem wd_135 : Cond.fieldLink "RightsLimit" 162 "RightsLimit$Requests" "end" "[I" ∈ rl_G := rl_wd 135 rfl rfl
set_option maxRecDepth 100000 in
theorem wd_136 : Cond.fieldLink "RightsLimit$Requests" 42 "RightsLimit$Requests" "renewals" "[I" ∈ rl_G := rl_wd 136 rfl rfl
set_option maxRecDepth 100000 in
theorem wd_137 : Cond.fieldLink "RightsLimit" 165 "RightsLimit$Requests" "renewals" "[I" ∈ rl_G := rl_wd 137 rfl rfl
set_option maxRecDepth 100000 in
theorem wd_138 : Cond.fieldLink "RightsLimit$Requests" 45 "RightsLimit$Requests" "deletedAt" "[I" ∈ rl_G := rl_wd 138 rfl rfl
set_option maxRecDepth 100000 in
theorem wd_139 : Cond.fieldLink "RightsLimit" 122 "RightsLimit$Requests" "deletedAt" "[I" ∈ rl_G := rl_wd 139 rfl rfl
set_option maxRecDepth 100000 in
theorem wd_140 : Cond.fieldLink "RightsLimit$Requests" 48 "RightsLimit$Requests" "count" "I" ∈ rl_G := rl_wd 140 rfl rfl
set_option maxRecDepth 100000 in
theorem wd_168 : Cond.fieldLink "RightsLimit" 12 "RightsLimit" "titles" "LRightsLimit$Titles;" ∈ rl_G := rl_wd 168 rfl rfl
set_option maxRecDepth 100000 in
theorem wd_169 : Cond.fieldLink "RightsLimit" 19 "RightsLimit" "limits" "LRightsLimit$Limits;" ∈ rl_G := rl_wd 169 rfl rfl
set_option maxRecDepth 100000 in
theorem wd_170 : Cond.fieldLink "RightsLimit" 26 "RightsLimit" "licences" "LRightsLimit$Licences;" ∈ rl_G := rl_wd 170 rfl rfl
set_option maxRecDepth 100000 in
theorem wd_171 : Cond.fieldLink "RightsLimit" 33 "RightsLimit" "requests" "LRightsLimit$Requests;" ∈ rl_G := rl_wd 171 rfl rfl
set_option maxRecDepth 100000 in
theorem wd_172 : Cond.fieldLink "RightsLimit" 37 "RightsLimit" "feeOfPublisher" "[I" ∈ rl_G := rl_wd 172 rfl rfl
set_option maxRecDepth 100000 in
theorem wd_173 : Cond.fieldLink "RightsLimit" 41 "RightsLimit" "rightsOfPerson" "[I" ∈ rl_G := rl_wd 173 rfl rfl
set_option maxRecDepth 100000 in
theorem wd_174 : Cond.fieldLink "RightsLimit" 44 "RightsLimit" "now" "I" ∈ rl_G := rl_wd 174 rfl rfl
set_option maxRecDepth 100000 in
theorem wd_175 : Cond.fieldLink "RightsLimit" 48 "RightsLimit" "latestWhy" "I" ∈ rl_G := rl_wd 175 rfl rfl
set_option maxRecDepth 100000 in
theorem wd_197 : Cond.methodLink "RightsLimit" 51 ⟨"RightsLimit", "isPublisher", "(I)Z"⟩ ∈ rl_G := rl_wd 197 rfl rfl
set_option maxRecDepth 100000 in
theorem wd_198 : Cond.static ⟨"RightsLimit", "isPublisher", "(I)Z"⟩ ∈ rl_G := rl_wd 198 rfl rfl
set_option maxRecDepth 100000 in
theorem wd_199 : Cond.code ⟨"RightsLimit", "isPublisher", "(I)Z"⟩ prog_1_method_25_code 1 (some .boolean) ∈ rl_G := rl_wd 199 rfl rfl
set_option maxRecDepth 100000 in
theorem wd_200 : Cond.methodLink "RightsLimit" 84 ⟨"RightsLimit", "isBetween", "(III)Z"⟩ ∈ rl_G := rl_wd 200 rfl rfl
set_option maxRecDepth 100000 in
theorem wd_201 : Cond.static ⟨"RightsLimit", "isBetween", "(III)Z"⟩ ∈ rl_G := rl_wd 201 rfl rfl
set_option maxRecDepth 100000 in
theorem wd_202 : Cond.code ⟨"RightsLimit", "isBetween", "(III)Z"⟩ prog_1_method_30_code 3 (some .boolean) ∈ rl_G := rl_wd 202 rfl rfl
set_option maxRecDepth 100000 in
theorem wd_203 : Cond.methodLink "RightsLimit" 55 ⟨"RightsLimit$Titles", "add", "(I)I"⟩ ∈ rl_G := rl_wd 203 rfl rfl
set_option maxRecDepth 100000 in
theorem wd_204 : Cond.instanceMethod ⟨"RightsLimit$Titles", "add", "(I)I"⟩ ∈ rl_G := rl_wd 204 rfl rfl
set_option maxRecDepth 100000 in
theorem wd_205 : Cond.selects "RightsLimit$Titles" ⟨"RightsLimit$Titles", "add", "(I)I"⟩ ⟨"RightsLimit$Titles", "add", "(I)I"⟩ ∈ rl_G := rl_wd 205 rfl rfl
set_option maxRecDepth 100000 in
theorem wd_206 : Cond.code ⟨"RightsLimit$Titles", "add", "(I)I"⟩ prog_5_method_3_code 2 (some .int) ∈ rl_G := rl_wd 206 rfl rfl
set_option maxRecDepth 100000 in
theorem wd_211 : Cond.methodLink "RightsLimit" 59 ⟨"RightsLimit$Titles", "has", "(I)Z"⟩ ∈ rl_G := rl_wd 211 rfl rfl
set_option maxRecDepth 100000 in
theorem wd_212 : Cond.instanceMethod ⟨"RightsLimit$Titles", "has", "(I)Z"⟩ ∈ rl_G := rl_wd 212 rfl rfl
set_option maxRecDepth 100000 in
theorem wd_213 : Cond.selects "RightsLimit$Titles" ⟨"RightsLimit$Titles", "has", "(I)Z"⟩ ⟨"RightsLimit$Titles", "has", "(I)Z"⟩ ∈ rl_G := rl_wd 213 rfl rfl
set_option maxRecDepth 100000 in
theorem wd_214 : Cond.code ⟨"RightsLimit$Titles", "has", "(I)Z"⟩ prog_5_method_2_code 2 (some .boolean) ∈ rl_G := rl_wd 214 rfl rfl
set_option maxRecDepth 100000 in
theorem wd_219 : Cond.methodLink "RightsLimit" 66 ⟨"RightsLimit", "isKind", "(I)Z"⟩ ∈ rl_G := rl_wd 219 rfl rfl
set_option maxRecDepth 100000 in
theorem wd_220 : Cond.static ⟨"RightsLimit", "isKind", "(I)Z"⟩ ∈ rl_G := rl_wd 220 rfl rfl
set_option maxRecDepth 100000 in
theorem wd_221 : Cond.code ⟨"RightsLimit", "isKind", "(I)Z"⟩ prog_1_method_27_code 1 (some .boolean) ∈ rl_G := rl_wd 221 rfl rfl
set_option maxRecDepth 100000 in
theorem wd_222 : Cond.methodLink "RightsLimit" 69 ⟨"RightsLimit", "isDays", "(I)Z"⟩ ∈ rl_G := rl_wd 222 rfl rfl
set_option maxRecDepth 100000 in
theorem wd_223 : Cond.static ⟨"RightsLimit", "isDays", "(I)Z"⟩ ∈ rl_G := rl_wd 223 rfl rfl
set_option maxRecDepth 100000 in
theorem wd_224 : Cond.code ⟨"RightsLimit", "isDays", "(I)Z"⟩ prog_1_method_28_code 1 (some .boolean) ∈ rl_G := rl_wd 224 rfl rfl
set_option maxRecDepth 100000 in
theorem wd_225 : Cond.methodLink "RightsLimit" 72 ⟨"RightsLimit", "isCopies", "(I)Z"⟩ ∈ rl_G := rl_wd 225 rfl rfl
set_option maxRecDepth 100000 in
theorem wd_226 : Cond.static ⟨"RightsLimit", "isCopies", "(I)Z"⟩ ∈ rl_G := rl_wd 226 rfl rfl
set_option maxRecDepth 100000 in
theorem wd_227 : Cond.code ⟨"RightsLimit", "isCopies", "(I)Z"⟩ prog_1_method_29_code 1 (some .boolean) ∈ rl_G := rl_wd 227 rfl rfl
set_option maxRecDepth 100000 in
theorem wd_228 : Cond.methodLink "RightsLimit" 75 ⟨"RightsLimit$Limits", "add", "(IIII)I"⟩ ∈ rl_G := rl_wd 228 rfl rfl
set_option maxRecDepth 100000 in
theorem wd_229 : Cond.instanceMethod ⟨"RightsLimit$Limits", "add", "(IIII)I"⟩ ∈ rl_G := rl_wd 229 rfl rfl
set_option maxRecDepth 100000 in
theorem wd_230 : Cond.selects "RightsLimit$Limits" ⟨"RightsLimit$Limits", "add", "(IIII)I"⟩ ⟨"RightsLimit$Limits", "add", "(IIII)I"⟩ ∈ rl_G := rl_wd 230 rfl rfl
set_option maxRecDepth 100000 in
theorem wd_231 : Cond.code ⟨"RightsLimit$Limits", "add", "(IIII)I"⟩ prog_3_method_2_code 5 (some .int) ∈ rl_G := rl_wd 231 rfl rfl
set_option maxRecDepth 100000 in
theorem wd_236 : Cond.methodLink "RightsLimit" 78 ⟨"RightsLimit", "isTime", "(I)Z"⟩ ∈ rl_G := rl_wd 236 rfl rfl
set_option maxRecDepth 100000 in
theorem wd_237 : Cond.static ⟨"RightsLimit", "isTime", "(I)Z"⟩ ∈ rl_G := rl_wd 237 rfl rfl
set_option maxRecDepth 100000 in
theorem wd_238 : Cond.code ⟨"RightsLimit", "isTime", "(I)Z"⟩ prog_1_method_24_code 1 (some .boolean) ∈ rl_G := rl_wd 238 rfl rfl
set_option maxRecDepth 100000 in
theorem wd_239 : Cond.constant "RightsLimit" 225 1000000000 ∈ rl_G := rl_wd 239 rfl rfl
set_option maxRecDepth 100000 in
theorem wd_240 : Cond.methodLink "RightsLimit" 81 ⟨"RightsLimit$Licences", "add", "(IIIII)I"⟩ ∈ rl_G := rl_wd 240 rfl rfl
set_option maxRecDepth 100000 in
theorem wd_241 : Cond.instanceMethod ⟨"RightsLimit$Licences", "add", "(IIIII)I"⟩ ∈ rl_G := rl_wd 241 rfl rfl
set_option maxRecDepth 100000 in
theorem wd_242 : Cond.selects "RightsLimit$Licences" ⟨"RightsLimit$Licences", "add", "(IIIII)I"⟩ ⟨"RightsLimit$Licences", "add", "(IIIII)I"⟩ ∈ rl_G := rl_wd 242 rfl rfl
set_option maxRecDepth 100000 in
theorem wd_243 : Cond.code ⟨"RightsLimit$Licences", "add", "(IIIII)I"⟩ prog_2_method_3_code 6 (some .int) ∈ rl_G := rl_wd 243 rfl rfl
set_option maxRecDepth 100000 in
theorem wd_252 : Cond.methodLink "RightsLimit" 88 ⟨"RightsLimit", "isPerson", "(I)Z"⟩ ∈ rl_G := rl_wd 252 rfl rfl
set_option maxRecDepth 100000 in
theorem wd_253 : Cond.static ⟨"RightsLimit", "isPerson", "(I)Z"⟩ ∈ rl_G := rl_wd 253 rfl rfl
set_option maxRecDepth 100000 in
theorem wd_254 : Cond.code ⟨"RightsLimit", "isPerson", "(I)Z"⟩ prog_1_method_26_code 1 (some .boolean) ∈ rl_G := rl_wd 254 rfl rfl
set_option maxRecDepth 100000 in
theorem wd_255 : Cond.methodLink "RightsLimit" 91 ⟨"RightsLimit", "goOnTo", "(I)Z"⟩ ∈ rl_G := rl_wd 255 rfl rfl
set_option maxRecDepth 100000 in
theorem wd_257 : Cond.instanceMethod ⟨"RightsLimit", "goOnTo", "(I)Z"⟩ ∈ rl_G := rl_wd 257 rfl rfl
set_option maxRecDepth 100000 in
theorem wd_258 : Cond.code ⟨"RightsLimit", "goOnTo", "(I)Z"⟩ prog_1_method_23_code 2 (some .boolean) ∈ rl_G := rl_wd 258 rfl rfl
set_option maxRecDepth 100000 in
theorem wd_259 : Cond.methodLink "RightsLimit" 94 ⟨"RightsLimit$Requests", "add", "(IIIII)I"⟩ ∈ rl_G := rl_wd 259 rfl rfl
set_option maxRecDepth 100000 in
theorem wd_260 : Cond.instanceMethod ⟨"RightsLimit$Requests", "add", "(IIIII)I"⟩ ∈ rl_G := rl_wd 260 rfl rfl
set_option maxRecDepth 100000 in
theorem wd_261 : Cond.selects "RightsLimit$Requests" ⟨"RightsLimit$Requests", "add", "(IIIII)I"⟩ ⟨"RightsLimit$Requests", "add", "(IIIII)I"⟩ ∈ rl_G := rl_wd 261 rfl rfl
set_option maxRecDepth 100000 in
theorem wd_262 : Cond.code ⟨"RightsLimit$Requests", "add", "(IIIII)I"⟩ prog_4_method_3_code 6 (some .int) ∈ rl_G := rl_wd 262 rfl rfl
set_option maxRecDepth 100000 in
theorem wd_263 : Cond.methodLink "RightsLimit" 95 ⟨"RightsLimit", "decide", "(IIII)V"⟩ ∈ rl_G := rl_wd 263 rfl rfl
set_option maxRecDepth 100000 in
theorem wd_265 : Cond.instanceMethod ⟨"RightsLimit", "decide", "(IIII)V"⟩ ∈ rl_G := rl_wd 265 rfl rfl
set_option maxRecDepth 100000 in
theorem wd_266 : Cond.code ⟨"RightsLimit", "decide", "(IIII)V"⟩ prog_1_method_19_code 7 none ∈ rl_G := rl_wd 266 rfl rfl
set_option maxRecDepth 100000 in
theorem wd_267 : Cond.methodLink "RightsLimit" 192 ⟨"RightsLimit$Requests", "allow", "(II)V"⟩ ∈ rl_G := rl_wd 267 rfl rfl
set_option maxRecDepth 100000 in
theorem wd_268 : Cond.instanceMethod ⟨"RightsLimit$Requests", "allow", "(II)V"⟩ ∈ rl_G := rl_wd 268 rfl rfl
set_option maxRecDepth 100000 in
theorem wd_269 : Cond.selects "RightsLimit$Requests" ⟨"RightsLimit$Requests", "allow", "(II)V"⟩ ⟨"RightsLimit$Requests", "allow", "(II)V"⟩ ∈ rl_G := rl_wd 269 rfl rfl
set_option maxRecDepth 100000 in
theorem wd_270 : Cond.code ⟨"RightsLimit$Requests", "allow", "(II)V"⟩ prog_4_method_4_code 3 none ∈ rl_G := rl_wd 270 rfl rfl
set_option maxRecDepth 100000 in
theorem wd_271 : Cond.constant "RightsLimit$Requests" 52 2592000 ∈ rl_G := rl_wd 271 rfl rfl
set_option maxRecDepth 100000 in
theorem wd_272 : Cond.methodLink "RightsLimit" 196 ⟨"RightsLimit$Licences", "firstThatHolds", "(III)I"⟩ ∈ rl_G := rl_wd 272 rfl rfl
set_option maxRecDepth 100000 in
theorem wd_273 : Cond.instanceMethod ⟨"RightsLimit$Licences", "firstThatHolds", "(III)I"⟩ ∈ rl_G := rl_wd 273 rfl rfl
set_option maxRecDepth 100000 in
theorem wd_274 : Cond.selects "RightsLimit$Licences" ⟨"RightsLimit$Licences", "firstThatHolds", "(III)I"⟩ ⟨"RightsLimit$Licences", "firstThatHolds", "(III)I"⟩ ∈ rl_G := rl_wd 274 rfl rfl
set_option maxRecDepth 100000 in
theorem wd_275 : Cond.code ⟨"RightsLimit$Licences", "firstThatHolds", "(III)I"⟩ prog_2_method_4_code 5 (some .int) ∈ rl_G := rl_wd 275 rfl rfl
set_option maxRecDepth 100000 in
theorem wd_277 : Cond.methodLink "RightsLimit" 200 ⟨"RightsLimit", "firstLimitReached", "(III)I"⟩ ∈ rl_G := rl_wd 277 rfl rfl
set_option maxRecDepth 100000 in
theorem wd_279 : Cond.instanceMethod ⟨"RightsLimit", "firstLimitReached", "(III)I"⟩ ∈ rl_G := rl_wd 279 rfl rfl
set_option maxRecDepth 100000 in
theorem wd_280 : Cond.code ⟨"RightsLimit", "firstLimitReached", "(III)I"⟩ prog_1_method_21_code 5 (some .int) ∈ rl_G := rl_wd 280 rfl rfl
set_option maxRecDepth 100000 in
theorem wd_281 : Cond.methodLink "RightsLimit" 216 ⟨"RightsLimit$Limits", "isOf", "(III)Z"⟩ ∈ rl_G := rl_wd 281 rfl rfl
set_option maxRecDepth 100000 in
theorem wd_282 : Cond.instanceMethod ⟨"RightsLimit$Limits", "isOf", "(III)Z"⟩ ∈ rl_G := rl_wd 282 rfl rfl
set_option maxRecDepth 100000 in
theorem wd_283 : Cond.selects "RightsLimit$Limits" ⟨"RightsLimit$Limits", "isOf", "(III)Z"⟩ ⟨"RightsLimit$Limits", "isOf", "(III)Z"⟩ ∈ rl_G := rl_wd 283 rfl rfl
set_option maxRecDepth 100000 in
theorem wd_284 : Cond.code ⟨"RightsLimit$Limits", "isOf", "(III)Z"⟩ prog_3_method_3_code 4 (some .boolean) ∈ rl_G := rl_wd 284 rfl rfl
set_option maxRecDepth 100000 in
theorem wd_285 : Cond.methodLink "RightsLimit" 128 ⟨"RightsLimit$Requests", "countInSpan", "(IIII)I"⟩ ∈ rl_G := rl_wd 285 rfl rfl
set_option maxRecDepth 100000 in
theorem wd_286 : Cond.instanceMethod ⟨"RightsLimit$Requests", "countInSpan", "(IIII)I"⟩ ∈ rl_G := rl_wd 286 rfl rfl
set_option maxRecDepth 100000 in
theorem wd_287 : Cond.selects "RightsLimit$Requests" ⟨"RightsLimit$Requests", "countInSpan", "(IIII)I"⟩ ⟨"RightsLimit$Requests", "countInSpan", "(IIII)I"⟩ ∈ rl_G := rl_wd 287 rfl rfl
set_option maxRecDepth 100000 in
theorem wd_288 : Cond.code ⟨"RightsLimit$Requests", "countInSpan", "(IIII)I"⟩ prog_4_method_12_code 8 (some .int) ∈ rl_G := rl_wd 288 rfl rfl
set_option maxRecDepth 100000 in
theorem wd_289 : Cond.constant "RightsLimit$Requests" 64 86400 ∈ rl_G := rl_wd 289 rfl rfl
set_option maxRecDepth 100000 in
theorem wd_290 : Cond.methodLink "RightsLimit$Requests" 65 ⟨"RightsLimit$Requests", "countsForLimits", "(I)Z"⟩ ∈ rl_G := rl_wd 290 rfl rfl
set_option maxRecDepth 100000 in
theorem wd_291 : Cond.instanceMethod ⟨"RightsLimit$Requests", "countsForLimits", "(I)Z"⟩ ∈ rl_G := rl_wd 291 rfl rfl
set_option maxRecDepth 100000 in
theorem wd_292 : Cond.selects "RightsLimit$Requests" ⟨"RightsLimit$Requests", "countsForLimits", "(I)Z"⟩ ⟨"RightsLimit$Requests", "countsForLimits", "(I)Z"⟩ ∈ rl_G := rl_wd 292 rfl rfl
set_option maxRecDepth 100000 in
theorem wd_293 : Cond.code ⟨"RightsLimit$Requests", "countsForLimits", "(I)Z"⟩ prog_4_method_11_code 3 (some .boolean) ∈ rl_G := rl_wd 293 rfl rfl
set_option maxRecDepth 100000 in
theorem wd_295 : Cond.methodLink "RightsLimit" 203 ⟨"RightsLimit", "decideBeyondLimits", "(III)V"⟩ ∈ rl_G := rl_wd 295 rfl rfl
set_option maxRecDepth 100000 in
theorem wd_297 : Cond.instanceMethod ⟨"RightsLimit", "decideBeyondLimits", "(III)V"⟩ ∈ rl_G := rl_wd 297 rfl rfl
set_option maxRecDepth 100000 in
theorem wd_298 : Cond.code ⟨"RightsLimit", "decideBeyondLimits", "(III)V"⟩ prog_1_method_20_code 5 none ∈ rl_G := rl_wd 298 rfl rfl
set_option maxRecDepth 100000 in
theorem wd_299 : Cond.methodLink "RightsLimit" 210 ⟨"RightsLimit$Requests", "charge", "(II)V"⟩ ∈ rl_G := rl_wd 299 rfl rfl
set_option maxRecDepth 100000 in
theorem wd_300 : Cond.instanceMethod ⟨"RightsLimit$Requests", "charge", "(II)V"⟩ ∈ rl_G := rl_wd 300 rfl rfl
set_option maxRecDepth 100000 in
theorem wd_301 : Cond.selects "RightsLimit$Requests" ⟨"RightsLimit$Requests", "charge", "(II)V"⟩ ⟨"RightsLimit$Requests", "charge", "(II)V"⟩ ∈ rl_G := rl_wd 301 rfl rfl
set_option maxRecDepth 100000 in
theorem wd_302 : Cond.code ⟨"RightsLimit$Requests", "charge", "(II)V"⟩ prog_4_method_5_code 3 none ∈ rl_G := rl_wd 302 rfl rfl
set_option maxRecDepth 100000 in
theorem wd_303 : Cond.methodLink "RightsLimit" 99 ⟨"RightsLimit$Requests", "isCopy", "(I)Z"⟩ ∈ rl_G := rl_wd 303 rfl rfl
set_option maxRecDepth 100000 in
theorem wd_304 : Cond.instanceMethod ⟨"RightsLimit$Requests", "isCopy", "(I)Z"⟩ ∈ rl_G := rl_wd 304 rfl rfl
set_option maxRecDepth 100000 in
theorem wd_305 : Cond.selects "RightsLimit$Requests" ⟨"RightsLimit$Requests", "isCopy", "(I)Z"⟩ ⟨"RightsLimit$Requests", "isCopy", "(I)Z"⟩ ∈ rl_G := rl_wd 305 rfl rfl
set_option maxRecDepth 100000 in
theorem wd_306 : Cond.code ⟨"RightsLimit$Requests", "isCopy", "(I)Z"⟩ prog_4_method_7_code 2 (some .boolean) ∈ rl_G := rl_wd 306 rfl rfl
set_option maxRecDepth 100000 in
theorem wd_323 : Cond.methodLink "RightsLimit" 105 ⟨"RightsLimit", "mayWaive", "(II)Z"⟩ ∈ rl_G := rl_wd 323 rfl rfl
set_option maxRecDepth 100000 in
theorem wd_325 : Cond.instanceMethod ⟨"RightsLimit", "mayWaive", "(II)Z"⟩ ∈ rl_G := rl_wd 325 rfl rfl
set_option maxRecDepth 100000 in
theorem wd_326 : Cond.code ⟨"RightsLimit", "mayWaive", "(II)Z"⟩ prog_1_method_22_code 4 (some .boolean) ∈ rl_G := rl_wd 326 rfl rfl
set_option maxRecDepth 100000 in
theorem wd_331 : Cond.methodLink "RightsLimit" 112 ⟨"RightsLimit$Requests", "has", "(I)Z"⟩ ∈ rl_G := rl_wd 331 rfl rfl
set_option maxRecDepth 100000 in
theorem wd_332 : Cond.instanceMethod ⟨"RightsLimit$Requests", "has", "(I)Z"⟩ ∈ rl_G := rl_wd 332 rfl rfl
set_option maxRecDepth 100000 in
theorem wd_333 : Cond.selects "RightsLimit$Requests" ⟨"RightsLimit$Requests", "has", "(I)Z"⟩ ⟨"RightsLimit$Requests", "has", "(I)Z"⟩ ∈ rl_G := rl_wd 333 rfl rfl
set_option maxRecDepth 100000 in
theorem wd_334 : Cond.code ⟨"RightsLimit$Requests", "has", "(I)Z"⟩ prog_4_method_2_code 2 (some .boolean) ∈ rl_G := rl_wd 334 rfl rfl
set_option maxRecDepth 100000 in
theorem wd_335 : Cond.methodLink "RightsLimit" 113 ⟨"RightsLimit$Requests", "isRenewable", "(II)Z"⟩ ∈ rl_G := rl_wd 335 rfl rfl
set_option maxRecDepth 100000 in
theorem wd_336 : Cond.instanceMethod ⟨"RightsLimit$Requests", "isRenewable", "(II)Z"⟩ ∈ rl_G := rl_wd 336 rfl rfl
set_option maxRecDepth 100000 in
theorem wd_337 : Cond.selects "RightsLimit$Requests" ⟨"RightsLimit$Requests", "isRenewable", "(II)Z"⟩ ⟨"RightsLimit$Requests", "isRenewable", "(II)Z"⟩ ∈ rl_G := rl_wd 337 rfl rfl
set_option maxRecDepth 100000 in
theorem wd_338 : Cond.code ⟨"RightsLimit$Requests", "isRenewable", "(II)Z"⟩ prog_4_method_10_code 3 (some .boolean) ∈ rl_G := rl_wd 338 rfl rfl
set_option maxRecDepth 100000 in
theorem wd_339 : Cond.methodLink "RightsLimit$Requests" 57 ⟨"RightsLimit$Requests", "isKept", "(I)Z"⟩ ∈ rl_G := rl_wd 339 rfl rfl
set_option maxRecDepth 100000 in
theorem wd_340 : Cond.instanceMethod ⟨"RightsLimit$Requests", "isKept", "(I)Z"⟩ ∈ rl_G := rl_wd 340 rfl rfl
set_option maxRecDepth 100000 in
theorem wd_341 : Cond.selects "RightsLimit$Requests" ⟨"RightsLimit$Requests", "isKept", "(I)Z"⟩ ⟨"RightsLimit$Requests", "isKept", "(I)Z"⟩ ∈ rl_G := rl_wd 341 rfl rfl
set_option maxRecDepth 100000 in
theorem wd_342 : Cond.code ⟨"RightsLimit$Requests", "isKept", "(I)Z"⟩ prog_4_method_8_code 2 (some .boolean) ∈ rl_G := rl_wd 342 rfl rfl
set_option maxRecDepth 100000 in
theorem wd_343 : Cond.methodLink "RightsLimit$Requests" 53 ⟨"RightsLimit$Requests", "isCopy", "(I)Z"⟩ ∈ rl_G := rl_wd 343 rfl rfl
set_option maxRecDepth 100000 in
theorem wd_344 : Cond.methodLink "RightsLimit$Requests" 60 ⟨"RightsLimit$Requests", "hasEnded", "(II)Z"⟩ ∈ rl_G := rl_wd 344 rfl rfl
set_option maxRecDepth 100000 in
theorem wd_345 : Cond.instanceMethod ⟨"RightsLimit$Requests", "hasEnded", "(II)Z"⟩ ∈ rl_G := rl_wd 345 rfl rfl
set_option maxRecDepth 100000 in
theorem wd_346 : Cond.selects "RightsLimit$Requests" ⟨"RightsLimit$Requests", "hasEnded", "(II)Z"⟩ ⟨"RightsLimit$Requests", "hasEnded", "(II)Z"⟩ ∈ rl_G := rl_wd 346 rfl rfl
set_option maxRecDepth 100000 in
theorem wd_347 : Cond.code ⟨"RightsLimit$Requests", "hasEnded", "(II)Z"⟩ prog_4_method_9_code 3 (some .boolean) ∈ rl_G := rl_wd 347 rfl rfl
set_option maxRecDepth 100000 in
theorem wd_348 : Cond.methodLink "RightsLimit" 116 ⟨"RightsLimit$Requests", "prolong", "(I)I"⟩ ∈ rl_G := rl_wd 348 rfl rfl
set_option maxRecDepth 100000 in
theorem wd_349 : Cond.instanceMethod ⟨"RightsLimit$Requests", "prolong", "(I)I"⟩ ∈ rl_G := rl_wd 349 rfl rfl
set_option maxRecDepth 100000 in
theorem wd_350 : Cond.selects "RightsLimit$Requests" ⟨"RightsLimit$Requests", "prolong", "(I)I"⟩ ⟨"RightsLimit$Requests", "prolong", "(I)I"⟩ ∈ rl_G := rl_wd 350 rfl rfl
set_option maxRecDepth 100000 in
theorem wd_351 : Cond.code ⟨"RightsLimit$Requests", "prolong", "(I)I"⟩ prog_4_method_6_code 2 (some .int) ∈ rl_G := rl_wd 351 rfl rfl
set_option maxRecDepth 100000 in
theorem wd_356 : Cond.methodLink "RightsLimit" 119 ⟨"RightsLimit$Requests", "isKept", "(I)Z"⟩ ∈ rl_G := rl_wd 356 rfl rfl
set_option maxRecDepth 100000 in
theorem wd_357 : Cond.methodLink "RightsLimit" 125 ⟨"RightsLimit$Requests", "hasEnded", "(II)Z"⟩ ∈ rl_G := rl_wd 357 rfl rfl
set_option maxRecDepth 100000 in
theorem wd_366 : Cond.methodLink "RightsLimit" 170 ⟨"RightsLimit$Licences", "has", "(I)Z"⟩ ∈ rl_G := rl_wd 366 rfl rfl
set_option maxRecDepth 100000 in
theorem wd_367 : Cond.instanceMethod ⟨"RightsLimit$Licences", "has", "(I)Z"⟩ ∈ rl_G := rl_wd 367 rfl rfl
set_option maxRecDepth 100000 in
theorem wd_368 : Cond.selects "RightsLimit$Licences" ⟨"RightsLimit$Licences", "has", "(I)Z"⟩ ⟨"RightsLimit$Licences", "has", "(I)Z"⟩ ∈ rl_G := rl_wd 368 rfl rfl
set_option maxRecDepth 100000 in
theorem wd_369 : Cond.code ⟨"RightsLimit$Licences", "has", "(I)Z"⟩ prog_2_method_2_code 2 (some .boolean) ∈ rl_G := rl_wd 369 rfl rfl
set_option maxRecDepth 100000 in
theorem wd_374 : Cond.methodLink "RightsLimit" 174 ⟨"RightsLimit$Requests", "countOf", "(I)I"⟩ ∈ rl_G := rl_wd 374 rfl rfl
set_option maxRecDepth 100000 in
theorem wd_375 : Cond.instanceMethod ⟨"RightsLimit$Requests", "countOf", "(I)I"⟩ ∈ rl_G := rl_wd 375 rfl rfl
set_option maxRecDepth 100000 in
theorem wd_376 : Cond.selects "RightsLimit$Requests" ⟨"RightsLimit$Requests", "countOf", "(I)I"⟩ ⟨"RightsLimit$Requests", "countOf", "(I)I"⟩ ∈ rl_G := rl_wd 376 rfl rfl
set_option maxRecDepth 100000 in
theorem wd_377 : Cond.code ⟨"RightsLimit$Requests", "countOf", "(I)I"⟩ prog_4_method_14_code 4 (some .int) ∈ rl_G := rl_wd 377 rfl rfl
set_option maxRecDepth 100000 in
theorem wd_378 : Cond.methodLink "RightsLimit" 177 ⟨"RightsLimit$Requests", "countRefusedOf", "(I)I"⟩ ∈ rl_G := rl_wd 378 rfl rfl
set_option maxRecDepth 100000 in
theorem wd_379 : Cond.instanceMethod ⟨"RightsLimit$Requests", "countRefusedOf", "(I)I"⟩ ∈ rl_G := rl_wd 379 rfl rfl
set_option maxRecDepth 100000 in
theorem wd_380 : Cond.selects "RightsLimit$Requests" ⟨"RightsLimit$Requests", "countRefusedOf", "(I)I"⟩ ⟨"RightsLimit$Requests", "countRefusedOf", "(I)I"⟩ ∈ rl_G := rl_wd 380 rfl rfl
set_option maxRecDepth 100000 in
theorem wd_381 : Cond.code ⟨"RightsLimit$Requests", "countRefusedOf", "(I)I"⟩ prog_4_method_15_code 4 (some .int) ∈ rl_G := rl_wd 381 rfl rfl
set_option maxRecDepth 100000 in
theorem wd_382 : Cond.methodLink "RightsLimit" 180 ⟨"RightsLimit$Requests", "pagesAllowedTo", "(I)I"⟩ ∈ rl_G := rl_wd 382 rfl rfl
set_option maxRecDepth 100000 in
theorem wd_383 : Cond.instanceMethod ⟨"RightsLimit$Requests", "pagesAllowedTo", "(I)I"⟩ ∈ rl_G := rl_wd 383 rfl rfl
set_option maxRecDepth 100000 in
theorem wd_384 : Cond.selects "RightsLimit$Requests" ⟨"RightsLimit$Requests", "pagesAllowedTo", "(I)I"⟩ ⟨"RightsLimit$Requests", "pagesAllowedTo", "(I)I"⟩ ∈ rl_G := rl_wd 384 rfl rfl
set_option maxRecDepth 100000 in
theorem wd_385 : Cond.code ⟨"RightsLimit$Requests", "pagesAllowedTo", "(I)I"⟩ prog_4_method_16_code 4 (some .int) ∈ rl_G := rl_wd 385 rfl rfl
set_option maxRecDepth 100000 in
theorem wd_386 : Cond.methodLink "RightsLimit" 183 ⟨"RightsLimit$Requests", "centsOf", "(I)I"⟩ ∈ rl_G := rl_wd 386 rfl rfl
set_option maxRecDepth 100000 in
theorem wd_387 : Cond.instanceMethod ⟨"RightsLimit$Requests", "centsOf", "(I)I"⟩ ∈ rl_G := rl_wd 387 rfl rfl
set_option maxRecDepth 100000 in
theorem wd_388 : Cond.selects "RightsLimit$Requests" ⟨"RightsLimit$Requests", "centsOf", "(I)I"⟩ ⟨"RightsLimit$Requests", "centsOf", "(I)I"⟩ ∈ rl_G := rl_wd 388 rfl rfl
set_option maxRecDepth 100000 in
theorem wd_389 : Cond.code ⟨"RightsLimit$Requests", "centsOf", "(I)I"⟩ prog_4_method_17_code 4 (some .int) ∈ rl_G := rl_wd 389 rfl rfl
set_option maxRecDepth 100000 in
theorem wd_398 : Cond.classLink "RightsLimit" 131 "java/util/NoSuchElementException" ∈ rl_G := rl_wd 398 rfl rfl
set_option maxRecDepth 100000 in
theorem wd_472 : Cond.methodLink "RightsLimit" 186 ⟨"RightsLimit$Requests", "endedAt", "(II)I"⟩ ∈ rl_G := rl_wd 472 rfl rfl
set_option maxRecDepth 100000 in
theorem wd_473 : Cond.instanceMethod ⟨"RightsLimit$Requests", "endedAt", "(II)I"⟩ ∈ rl_G := rl_wd 473 rfl rfl
set_option maxRecDepth 100000 in
theorem wd_474 : Cond.selects "RightsLimit$Requests" ⟨"RightsLimit$Requests", "endedAt", "(II)I"⟩ ⟨"RightsLimit$Requests", "endedAt", "(II)I"⟩ ∈ rl_G := rl_wd 474 rfl rfl
set_option maxRecDepth 100000 in
theorem wd_475 : Cond.code ⟨"RightsLimit$Requests", "endedAt", "(II)I"⟩ prog_4_method_13_code 5 (some .int) ∈ rl_G := rl_wd 475 rfl rfl
set_option maxRecDepth 100000 in
theorem wd_482 : Cond.methodLink "RightsLimitModel" 1 ⟨"java/lang/Object", "<init>", "()V"⟩ ∈ rl_G := rl_wd 482 rfl rfl
set_option maxRecDepth 100000 in
theorem wd_483 : Cond.fieldLink "RightsLimitModel" 93 "RightsLimitModel" "thrown" "I" ∈ rl_G := rl_wd 483 rfl rfl
set_option maxRecDepth 100000 in
theorem wd_484 : Cond.fieldLink "RightsLimitModel" 103 "RightsLimitModel" "now" "I" ∈ rl_G := rl_wd 484 rfl rfl
set_option maxRecDepth 100000 in
theorem wd_485 : Cond.fieldLink "RightsLimitModel" 96 "RightsLimitModel" "titles" "I" ∈ rl_G := rl_wd 485 rfl rfl
set_option maxRecDepth 100000 in
theorem wd_486 : Cond.fieldLink "RightsLimitModel" 7 "RightsLimitModel" "publisher" "[I" ∈ rl_G := rl_wd 486 rfl rfl
set_option maxRecDepth 100000 in
theorem wd_487 : Cond.fieldLink "RightsLimitModel" 13 "RightsLimitModel" "isOpen" "[Z" ∈ rl_G := rl_wd 487 rfl rfl
set_option maxRecDepth 100000 in
theorem wd_488 : Cond.fieldLink "RightsLimitModel" 17 "RightsLimitModel" "titleRight" "[I" ∈ rl_G := rl_wd 488 rfl rfl
set_option maxRecDepth 100000 in
theorem wd_489 : Cond.fieldLink "RightsLimitModel" 20 "RightsLimitModel" "waivers" "[I" ∈ rl_G := rl_wd 489 rfl rfl
set_option maxRecDepth 100000 in
theorem wd_490 : Cond.fieldLink "RightsLimitModel" 23 "RightsLimitModel" "fees" "[I" ∈ rl_G := rl_wd 490 rfl rfl
set_option maxRecDepth 100000 in
theorem wd_491 : Cond.fieldLink "RightsLimitModel" 26 "RightsLimitModel" "rights" "[Z" ∈ rl_G := rl_wd 491 rfl rfl
set_option maxRecDepth 100000 in
theorem wd_492 : Cond.fieldLink "RightsLimitModel" 111 "RightsLimitModel" "limits" "I" ∈ rl_G := rl_wd 492 rfl rfl
set_option maxRecDepth 100000 in
theorem wd_493 : Cond.fieldLink "RightsLimitModel" 29 "RightsLimitModel" "limitTitle" "[I" ∈ rl_G := rl_wd 493 rfl rfl
set_option maxRecDepth 100000 in
theorem wd_494 : Cond.fieldLink "RightsLimitModel" 32 "RightsLimitModel" "limitKind" "[I" ∈ rl_G := rl_wd 494 rfl rfl
set_option maxRecDepth 100000 in
theorem wd_495 : Cond.fieldLink "RightsLimitModel" 35 "RightsLimitModel" "limitDays" "[I" ∈ rl_G := rl_wd 495 rfl rfl
set_option maxRecDepth 100000 in
theorem wd_496 : Cond.fieldLink "RightsLimitModel" 38 "RightsLimitModel" "limitMost" "[I" ∈ rl_G := rl_wd 496 rfl rfl
set_option maxRecDepth 100000 in
theorem wd_497 : Cond.fieldLink "RightsLimitModel" 114 "RightsLimitModel" "licences" "I" ∈ rl_G := rl_wd 497 rfl rfl
set_option maxRecDepth 100000 in
theorem wd_498 : Cond.fieldLink "RightsLimitModel" 41 "RightsLimitModel" "licenceTitle" "[I" ∈ rl_G := rl_wd 498 rfl rfl
set_option maxRecDepth 100000 in
theorem wd_499 : Cond.fieldLink "RightsLimitModel" 44 "RightsLimitModel" "licenceKind" "[I" ∈ rl_G := rl_wd 499 rfl rfl
set_option maxRecDepth 100000 in
theorem wd_500 : Cond.fieldLink "RightsLimitModel" 47 "RightsLimitModel" "licenceLeft" "[I" ∈ rl_G := rl_wd 500 rfl rfl
set_option maxRecDepth 100000 in
theorem wd_501 : Cond.fieldLink "RightsLimitModel" 50 "RightsLimitModel" "licenceFrom" "[I" ∈ rl_G := rl_wd 501 rfl rfl
set_option maxRecDepth 100000 in
theorem wd_502 : Cond.fieldLink "RightsLimitModel" 53 "RightsLimitModel" "licenceTo" "[I" ∈ rl_G := rl_wd 502 rfl rfl
set_option maxRecDepth 100000 in
theorem wd_503 : Cond.fieldLink "RightsLimitModel" 117 "RightsLimitModel" "requests" "I" ∈ rl_G := rl_wd 503 rfl rfl
set_option maxRecDepth 100000 in
theorem wd_504 : Cond.fieldLink "RightsLimitModel" 56 "RightsLimitModel" "person" "[I" ∈ rl_G := rl_wd 504 rfl rfl
set_option maxRecDepth 100000 in
theorem wd_505 : Cond.fieldLink "RightsLimitModel" 59 "RightsLimitModel" "title" "[I" ∈ rl_G := rl_wd 505 rfl rfl
set_option maxRecDepth 100000 in
theorem wd_506 : Cond.fieldLink "RightsLimitModel" 62 "RightsLimitModel" "kind" "[I" ∈ rl_G := rl_wd 506 rfl rfl
set_option maxRecDepth 100000 in
theorem wd_507 : Cond.fieldLink "RightsLimitModel" 65 "RightsLimitModel" "pages" "[I" ∈ rl_G := rl_wd 507 rfl rfl
set_option maxRecDepth 100000 in
theorem wd_508 : Cond.fieldLink "RightsLimitModel" 68 "RightsLimitModel" "time" "[I" ∈ rl_G := rl_wd 508 rfl rfl
set_option maxRecDepth 100000 in
theorem wd_509 : Cond.fieldLink "RightsLimitModel" 71 "RightsLimitModel" "by" "[I" ∈ rl_G := rl_wd 509 rfl rfl
set_option maxRecDepth 100000 in
theorem wd_510 : Cond.fieldLink "RightsLimitModel" 74 "RightsLimitModel" "byLicence" "[I" ∈ rl_G := rl_wd 510 rfl rfl
set_option maxRecDepth 100000 in
theorem wd_511 : Cond.fieldLink "RightsLimitModel" 77 "RightsLimitModel" "fee" "[I" ∈ rl_G := rl_wd 511 rfl rfl
set_option maxRecDepth 100000 in
theorem wd_512 : Cond.fieldLink "RightsLimitModel" 80 "RightsLimitModel" "end" "[I" ∈ rl_G := rl_wd 512 rfl rfl
set_option maxRecDepth 100000 in
theorem wd_513 : Cond.fieldLink "RightsLimitModel" 83 "RightsLimitModel" "renewed" "[I" ∈ rl_G := rl_wd 513 rfl rfl
set_option maxRecDepth 100000 in
theorem wd_514 : Cond.fieldLink "RightsLimitModel" 86 "RightsLimitModel" "deleted" "[I" ∈ rl_G := rl_wd 514 rfl rfl
set_option maxRecDepth 100000 in
theorem wd_515 : Cond.fieldLink "RightsLimitModel" 89 "RightsLimitModel" "why" "I" ∈ rl_G := rl_wd 515 rfl rfl
set_option maxRecDepth 100000 in
theorem wd_587 : Cond.methodLink "RightsLimitModel" 99 ⟨"RightsLimitModel", "in", "(III)Z"⟩ ∈ rl_G := rl_wd 587 rfl rfl
set_option maxRecDepth 100000 in
theorem wd_588 : Cond.static ⟨"RightsLimitModel", "in", "(III)Z"⟩ ∈ rl_G := rl_wd 588 rfl rfl
set_option maxRecDepth 100000 in
theorem wd_589 : Cond.code ⟨"RightsLimitModel", "in", "(III)Z"⟩ prog_7_method_3_code 3 (some .boolean) ∈ rl_G := rl_wd 589 rfl rfl
set_option maxRecDepth 100000 in
theorem wd_594 : Cond.methodLink "RightsLimitModel" 107 ⟨"RightsLimitModel", "isTitle", "(I)Z"⟩ ∈ rl_G := rl_wd 594 rfl rfl
set_option maxRecDepth 100000 in
theorem wd_596 : Cond.instanceMethod ⟨"RightsLimitModel", "isTitle", "(I)Z"⟩ ∈ rl_G := rl_wd 596 rfl rfl
set_option maxRecDepth 100000 in
theorem wd_597 : Cond.code ⟨"RightsLimitModel", "isTitle", "(I)Z"⟩ prog_7_method_4_code 2 (some .boolean) ∈ rl_G := rl_wd 597 rfl rfl
set_option maxRecDepth 100000 in
theorem wd_606 : Cond.constant "RightsLimitModel" 106 1000000000 ∈ rl_G := rl_wd 606 rfl rfl
set_option maxRecDepth 100000 in
theorem wd_615 : Cond.methodLink "RightsLimitModel" 133 ⟨"RightsLimitModel", "isNow", "(I)Z"⟩ ∈ rl_G := rl_wd 615 rfl rfl
set_option maxRecDepth 100000 in
theorem wd_617 : Cond.instanceMethod ⟨"RightsLimitModel", "isNow", "(I)Z"⟩ ∈ rl_G := rl_wd 617 rfl rfl
set_option maxRecDepth 100000 in
theorem wd_618 : Cond.code ⟨"RightsLimitModel", "isNow", "(I)Z"⟩ prog_7_method_5_code 2 (some .boolean) ∈ rl_G := rl_wd 618 rfl rfl
set_option maxRecDepth 100000 in
theorem wd_619 : Cond.methodLink "RightsLimitModel" 136 ⟨"RightsLimitModel", "decide", "(III)I"⟩ ∈ rl_G := rl_wd 619 rfl rfl
set_option maxRecDepth 100000 in
theorem wd_621 : Cond.instanceMethod ⟨"RightsLimitModel", "decide", "(III)I"⟩ ∈ rl_G := rl_wd 621 rfl rfl
set_option maxRecDepth 100000 in
theorem wd_622 : Cond.code ⟨"RightsLimitModel", "decide", "(III)I"⟩ prog_7_method_14_code 4 (some .int) ∈ rl_G := rl_wd 622 rfl rfl
set_option maxRecDepth 100000 in
theorem wd_623 : Cond.methodLink "RightsLimitModel" 126 ⟨"RightsLimitModel", "licenceFor", "(III)I"⟩ ∈ rl_G := rl_wd 623 rfl rfl
set_option maxRecDepth 100000 in
theorem wd_625 : Cond.instanceMethod ⟨"RightsLimitModel", "licenceFor", "(III)I"⟩ ∈ rl_G := rl_wd 625 rfl rfl
set_option maxRecDepth 100000 in
theorem wd_626 : Cond.code ⟨"RightsLimitModel", "licenceFor", "(III)I"⟩ prog_7_method_13_code 5 (some .int) ∈ rl_G := rl_wd 626 rfl rfl
set_option maxRecDepth 100000 in
theorem wd_627 : Cond.methodLink "RightsLimitModel" 130 ⟨"RightsLimitModel", "barrier", "(III)I"⟩ ∈ rl_G := rl_wd 627 rfl rfl
set_option maxRecDepth 100000 in
theorem wd_629 : Cond.instanceMethod ⟨"RightsLimitModel", "barrier", "(III)I"⟩ ∈ rl_G := rl_wd 629 rfl rfl
set_option maxRecDepth 100000 in
theorem wd_630 : Cond.code ⟨"RightsLimitModel", "barrier", "(III)I"⟩ prog_7_method_12_code 5 (some .int) ∈ rl_G := rl_wd 630 rfl rfl
set_option maxRecDepth 100000 in
theorem wd_631 : Cond.methodLink "RightsLimitModel" 122 ⟨"RightsLimitModel", "count", "(IIII)I"⟩ ∈ rl_G := rl_wd 631 rfl rfl
set_option maxRecDepth 100000 in
theorem wd_633 : Cond.instanceMethod ⟨"RightsLimitModel", "count", "(IIII)I"⟩ ∈ rl_G := rl_wd 633 rfl rfl
set_option maxRecDepth 100000 in
theorem wd_634 : Cond.code ⟨"RightsLimitModel", "count", "(IIII)I"⟩ prog_7_method_11_code 7 (some .int) ∈ rl_G := rl_wd 634 rfl rfl
set_option maxRecDepth 100000 in
theorem wd_635 : Cond.constantLong "RightsLimitModel" 120 86400 ∈ rl_G := rl_wd 635 rfl rfl
set_option maxRecDepth 100000 in
theorem wd_636 : Cond.constant "RightsLimitModel" 139 2592000 ∈ rl_G := rl_wd 636 rfl rfl
set_option maxRecDepth 100000 in
theorem wd_669 : Cond.methodLink "RightsLimitModel" 140 ⟨"RightsLimitModel", "cents", "(I)I"⟩ ∈ rl_G := rl_wd 669 rfl rfl
set_option maxRecDepth 100000 in
theorem wd_671 : Cond.instanceMethod ⟨"RightsLimitModel", "cents", "(I)I"⟩ ∈ rl_G := rl_wd 671 rfl rfl
set_option maxRecDepth 100000 in
theorem wd_672 : Cond.code ⟨"RightsLimitModel", "cents", "(I)I"⟩ prog_7_method_23_code 2 (some .int) ∈ rl_G := rl_wd 672 rfl rfl
