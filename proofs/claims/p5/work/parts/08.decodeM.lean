theorem d_m_init_0 : decode prog_7_method_1_code 0 = .ok (.aload_n 0, 1) := by decide +kernel
theorem d_m_init_1 : decode prog_7_method_1_code 1 = .ok (.invokespecial 1, 3) := by decide +kernel
theorem d_m_init_4 : decode prog_7_method_1_code 4 = .ok (.aload_n 0, 1) := by decide +kernel
theorem d_m_init_5 : decode prog_7_method_1_code 5 = .ok (.bipush 50, 2) := by decide +kernel
theorem d_m_init_7 : decode prog_7_method_1_code 7 = .ok (.newarray .int, 2) := by decide +kernel
theorem d_m_init_9 : decode prog_7_method_1_code 9 = .ok (.putfield 7, 3) := by decide +kernel
theorem d_m_init_12 : decode prog_7_method_1_code 12 = .ok (.aload_n 0, 1) := by decide +kernel
theorem d_m_init_13 : decode prog_7_method_1_code 13 = .ok (.bipush 50, 2) := by decide +kernel
theorem d_m_init_15 : decode prog_7_method_1_code 15 = .ok (.newarray .boolean, 2) := by decide +kernel
theorem d_m_init_17 : decode prog_7_method_1_code 17 = .ok (.putfield 13, 3) := by decide +kernel
theorem d_m_init_20 : decode prog_7_method_1_code 20 = .ok (.aload_n 0, 1) := by decide +kernel
theorem d_m_init_21 : decode prog_7_method_1_code 21 = .ok (.bipush 50, 2) := by decide +kernel
theorem d_m_init_23 : decode prog_7_method_1_code 23 = .ok (.newarray .int, 2) := by decide +kernel
theorem d_m_init_25 : decode prog_7_method_1_code 25 = .ok (.putfield 17, 3) := by decide +kernel
theorem d_m_init_28 : decode prog_7_method_1_code 28 = .ok (.aload_n 0, 1) := by decide +kernel
theorem d_m_init_29 : decode prog_7_method_1_code 29 = .ok (.bipush 50, 2) := by decide +kernel
theorem d_m_init_31 : decode prog_7_method_1_code 31 = .ok (.newarray .int, 2) := by decide +kernel
theorem d_m_init_33 : decode prog_7_method_1_code 33 = .ok (.putfield 20, 3) := by decide +kernel
theorem d_m_init_36 : decode prog_7_method_1_code 36 = .ok (.aload_n 0, 1) := by decide +kernel
theorem d_m_init_37 : decode prog_7_method_1_code 37 = .ok (.bipush 100, 2) := by decide +kernel
theorem d_m_init_39 : decode prog_7_method_1_code 39 = .ok (.newarray .int, 2) := by decide +kernel
theorem d_m_init_41 : decode prog_7_method_1_code 41 = .ok (.putfield 23, 3) := by decide +kernel
theorem d_m_init_44 : decode prog_7_method_1_code 44 = .ok (.aload_n 0, 1) := by decide +kernel
theorem d_m_init_45 : decode prog_7_method_1_code 45 = .ok (.sipush 1000, 3) := by decide +kernel
theorem d_m_init_48 : decode prog_7_method_1_code 48 = .ok (.newarray .boolean, 2) := by decide +kernel
theorem d_m_init_50 : decode prog_7_method_1_code 50 = .ok (.putfield 26, 3) := by decide +kernel
theorem d_m_init_53 : decode prog_7_method_1_code 53 = .ok (.aload_n 0, 1) := by decide +kernel
theorem d_m_init_54 : decode prog_7_method_1_code 54 = .ok (.bipush 100, 2) := by decide +kernel
theorem d_m_init_56 : decode prog_7_method_1_code 56 = .ok (.newarray .int, 2) := by decide +kernel
theorem d_m_init_58 : decode prog_7_method_1_code 58 = .ok (.putfield 29, 3) := by decide +kernel
theorem d_m_init_61 : decode prog_7_method_1_code 61 = .ok (.aload_n 0, 1) := by decide +kernel
theorem d_m_init_62 : decode prog_7_method_1_code 62 = .ok (.bipush 100, 2) := by decide +kernel
theorem d_m_init_64 : decode prog_7_method_1_code 64 = .ok (.newarray .int, 2) := by decide +kernel
theorem d_m_init_66 : decode prog_7_method_1_code 66 = .ok (.putfield 32, 3) := by decide +kernel
theorem d_m_init_69 : decode prog_7_method_1_code 69 = .ok (.aload_n 0, 1) := by decide +kernel
theorem d_m_init_70 : decode prog_7_method_1_code 70 = .ok (.bipush 100, 2) := by decide +kernel
theorem d_m_init_72 : decode prog_7_method_1_code 72 = .ok (.newarray .int, 2) := by decide +kernel
theorem d_m_init_74 : decode prog_7_method_1_code 74 = .ok (.putfield 35, 3) := by decide +kernel
theorem d_m_init_77 : decode prog_7_method_1_code 77 = .ok (.aload_n 0, 1) := by decide +kernel
theorem d_m_init_78 : decode prog_7_method_1_code 78 = .ok (.bipush 100, 2) := by decide +kernel
theorem d_m_init_80 : decode prog_7_method_1_code 80 = .ok (.newarray .int, 2) := by decide +kernel
theorem d_m_init_82 : decode prog_7_method_1_code 82 = .ok (.putfield 38, 3) := by decide +kernel
theorem d_m_init_85 : decode prog_7_method_1_code 85 = .ok (.aload_n 0, 1) := by decide +kernel
theorem d_m_init_86 : decode prog_7_method_1_code 86 = .ok (.bipush 50, 2) := by decide +kernel
theorem d_m_init_88 : decode prog_7_method_1_code 88 = .ok (.newarray .int, 2) := by decide +kernel
theorem d_m_init_90 : decode prog_7_method_1_code 90 = .ok (.putfield 41, 3) := by decide +kernel
theorem d_m_init_93 : decode prog_7_method_1_code 93 = .ok (.aload_n 0, 1) := by decide +kernel
theorem d_m_init_94 : decode prog_7_method_1_code 94 = .ok (.bipush 50, 2) := by decide +kernel
theorem d_m_init_96 : decode prog_7_method_1_code 96 = .ok (.newarray .int, 2) := by decide +kernel
theorem d_m_init_98 : decode prog_7_method_1_code 98 = .ok (.putfield 44, 3) := by decide +kernel
theorem d_m_init_101 : decode prog_7_method_1_code 101 = .ok (.aload_n 0, 1) := by decide +kernel
theorem d_m_init_102 : decode prog_7_method_1_code 102 = .ok (.bipush 50, 2) := by decide +kernel
theorem d_m_init_104 : decode prog_7_method_1_code 104 = .ok (.newarray .int, 2) := by decide +kernel
theorem d_m_init_106 : decode prog_7_method_1_code 106 = .ok (.putfield 47, 3) := by decide +kernel
theorem d_m_init_109 : decode prog_7_method_1_code 109 = .ok (.aload_n 0, 1) := by decide +kernel
theorem d_m_init_110 : decode prog_7_method_1_code 110 = .ok (.bipush 50, 2) := by decide +kernel
theorem d_m_init_112 : decode prog_7_method_1_code 112 = .ok (.newarray .int, 2) := by decide +kernel
theorem d_m_init_114 : decode prog_7_method_1_code 114 = .ok (.putfield 50, 3) := by decide +kernel
theorem d_m_init_117 : decode prog_7_method_1_code 117 = .ok (.aload_n 0, 1) := by decide +kernel
theorem d_m_init_118 : decode prog_7_method_1_code 118 = .ok (.bipush 50, 2) := by decide +kernel
theorem d_m_init_120 : decode prog_7_method_1_code 120 = .ok (.newarray .int, 2) := by decide +kernel
theorem d_m_init_122 : decode prog_7_method_1_code 122 = .ok (.putfield 53, 3) := by decide +kernel
theorem d_m_init_125 : decode prog_7_method_1_code 125 = .ok (.aload_n 0, 1) := by decide +kernel
theorem d_m_init_126 : decode prog_7_method_1_code 126 = .ok (.sipush 300, 3) := by decide +kernel
theorem d_m_init_129 : decode prog_7_method_1_code 129 = .ok (.newarray .int, 2) := by decide +kernel
theorem d_m_init_131 : decode prog_7_method_1_code 131 = .ok (.putfield 56, 3) := by decide +kernel
theorem d_m_init_134 : decode prog_7_method_1_code 134 = .ok (.aload_n 0, 1) := by decide +kernel
theorem d_m_init_135 : decode prog_7_method_1_code 135 = .ok (.sipush 300, 3) := by decide +kernel
theorem d_m_init_138 : decode prog_7_method_1_code 138 = .ok (.newarray .int, 2) := by decide +kernel
theorem d_m_init_140 : decode prog_7_method_1_code 140 = .ok (.putfield 59, 3) := by decide +kernel
theorem d_m_init_143 : decode prog_7_method_1_code 143 = .ok (.aload_n 0, 1) := by decide +kernel
theorem d_m_init_144 : decode prog_7_method_1_code 144 = .ok (.sipush 300, 3) := by decide +kernel
theorem d_m_init_147 : decode prog_7_method_1_code 147 = .ok (.newarray .int, 2) := by decide +kernel
theorem d_m_init_149 : decode prog_7_method_1_code 149 = .ok (.putfield 62, 3) := by decide +kernel
theorem d_m_init_152 : decode prog_7_method_1_code 152 = .ok (.aload_n 0, 1) := by decide +kernel
theorem d_m_init_153 : decode prog_7_method_1_code 153 = .ok (.sipush 300, 3) := by decide +kernel
theorem d_m_init_156 : decode prog_7_method_1_code 156 = .ok (.newarray .int, 2) := by decide +kernel
theorem d_m_init_158 : decode prog_7_method_1_code 158 = .ok (.putfield 65, 3) := by decide +kernel
theorem d_m_init_161 : decode prog_7_method_1_code 161 = .ok (.aload_n 0, 1) := by decide +kernel
theorem d_m_init_162 : decode prog_7_method_1_code 162 = .ok (.sipush 300, 3) := by decide +kernel
theorem d_m_init_165 : decode prog_7_method_1_code 165 = .ok (.newarray .int, 2) := by decide +kernel
theorem d_m_init_167 : decode prog_7_method_1_code 167 = .ok (.putfield 68, 3) := by decide +kernel
theorem d_m_init_170 : decode prog_7_method_1_code 170 = .ok (.aload_n 0, 1) := by decide +kernel
theorem d_m_init_171 : decode prog_7_method_1_code 171 = .ok (.sipush 300, 3) := by decide +kernel
theorem d_m_init_174 : decode prog_7_method_1_code 174 = .ok (.newarray .int, 2) := by decide +kernel
theorem d_m_init_176 : decode prog_7_method_1_code 176 = .ok (.putfield 71, 3) := by decide +kernel
theorem d_m_init_179 : decode prog_7_method_1_code 179 = .ok (.aload_n 0, 1) := by decide +kernel
theorem d_m_init_180 : decode prog_7_method_1_code 180 = .ok (.sipush 300, 3) := by decide +kernel
theorem d_m_init_183 : decode prog_7_method_1_code 183 = .ok (.newarray .int, 2) := by decide +kernel
theorem d_m_init_185 : decode prog_7_method_1_code 185 = .ok (.putfield 74, 3) := by decide +kernel
theorem d_m_init_188 : decode prog_7_method_1_code 188 = .ok (.aload_n 0, 1) := by decide +kernel
theorem d_m_init_189 : decode prog_7_method_1_code 189 = .ok (.sipush 300, 3) := by decide +kernel
theorem d_m_init_192 : decode prog_7_method_1_code 192 = .ok (.newarray .int, 2) := by decide +kernel
theorem d_m_init_194 : decode prog_7_method_1_code 194 = .ok (.putfield 77, 3) := by decide +kernel
theorem d_m_init_197 : decode prog_7_method_1_code 197 = .ok (.aload_n 0, 1) := by decide +kernel
theorem d_m_init_198 : decode prog_7_method_1_code 198 = .ok (.sipush 300, 3) := by decide +kernel
theorem d_m_init_201 : decode prog_7_method_1_code 201 = .ok (.newarray .int, 2) := by decide +kernel
theorem d_m_init_203 : decode prog_7_method_1_code 203 = .ok (.putfield 80, 3) := by decide +kernel
theorem d_m_init_206 : decode prog_7_method_1_code 206 = .ok (.aload_n 0, 1) := by decide +kernel
theorem d_m_init_207 : decode prog_7_method_1_code 207 = .ok (.sipush 300, 3) := by decide +kernel
theorem d_m_init_210 : decode prog_7_method_1_code 210 = .ok (.newarray .int, 2) := by decide +kernel
theorem d_m_init_212 : decode prog_7_method_1_code 212 = .ok (.putfield 83, 3) := by decide +kernel
theorem d_m_init_215 : decode prog_7_method_1_code 215 = .ok (.aload_n 0, 1) := by decide +kernel
theorem d_m_init_216 : decode prog_7_method_1_code 216 = .ok (.sipush 300, 3) := by decide +kernel
theorem d_m_init_219 : decode prog_7_method_1_code 219 = .ok (.newarray .int, 2) := by decide +kernel
theorem d_m_init_221 : decode prog_7_method_1_code 221 = .ok (.putfield 86, 3) := by decide +kernel
theorem d_m_init_224 : decode prog_7_method_1_code 224 = .ok (.aload_n 0, 1) := by decide +kernel
theorem d_m_init_225 : decode prog_7_method_1_code 225 = .ok (.iconst (-1), 1) := by decide +kernel
theorem d_m_init_226 : decode prog_7_method_1_code 226 = .ok (.putfield 89, 3) := by decide +kernel
theorem d_m_init_229 : decode prog_7_method_1_code 229 = .ok (.return_, 1) := by decide +kernel
theorem d_m_ask_0 : decode prog_7_method_15_code 0 = .ok (.aload_n 0, 1) := by decide +kernel
theorem d_m_ask_1 : decode prog_7_method_15_code 1 = .ok (.iconst 0, 1) := by decide +kernel
theorem d_m_ask_2 : decode prog_7_method_15_code 2 = .ok (.putfield 93, 3) := by decide +kernel
theorem d_m_ask_5 : decode prog_7_method_15_code 5 = .ok (.aload_n 0, 1) := by decide +kernel
theorem d_m_ask_6 : decode prog_7_method_15_code 6 = .ok (.iload_n 2, 1) := by decide +kernel
theorem d_m_ask_7 : decode prog_7_method_15_code 7 = .ok (.invokevirtual 107, 3) := by decide +kernel
theorem d_m_ask_10 : decode prog_7_method_15_code 10 = .ok (.ifCond .ne 5, 3) := by decide +kernel
theorem d_m_ask_13 : decode prog_7_method_15_code 13 = .ok (.iconst (-1), 1) := by decide +kernel
theorem d_m_ask_14 : decode prog_7_method_15_code 14 = .ok (.ireturn, 1) := by decide +kernel
theorem d_m_ask_15 : decode prog_7_method_15_code 15 = .ok (.iload_n 1, 1) := by decide +kernel
theorem d_m_ask_16 : decode prog_7_method_15_code 16 = .ok (.iconst 0, 1) := by decide +kernel
theorem d_m_ask_17 : decode prog_7_method_15_code 17 = .ok (.bipush 99, 2) := by decide +kernel
theorem d_m_ask_19 : decode prog_7_method_15_code 19 = .ok (.invokestatic 99, 3) := by decide +kernel
theorem d_m_ask_22 : decode prog_7_method_15_code 22 = .ok (.ifCond .eq 33, 3) := by decide +kernel
theorem d_m_ask_25 : decode prog_7_method_15_code 25 = .ok (.iload_n 3, 1) := by decide +kernel
theorem d_m_ask_26 : decode prog_7_method_15_code 26 = .ok (.iconst 0, 1) := by decide +kernel
theorem d_m_ask_27 : decode prog_7_method_15_code 27 = .ok (.iconst 1, 1) := by decide +kernel
theorem d_m_ask_28 : decode prog_7_method_15_code 28 = .ok (.invokestatic 99, 3) := by decide +kernel
theorem d_m_ask_31 : decode prog_7_method_15_code 31 = .ok (.ifCond .eq 24, 3) := by decide +kernel
theorem d_m_ask_34 : decode prog_7_method_15_code 34 = .ok (.iload 4, 2) := by decide +kernel
theorem d_m_ask_36 : decode prog_7_method_15_code 36 = .ok (.iconst 1, 1) := by decide +kernel
theorem d_m_ask_37 : decode prog_7_method_15_code 37 = .ok (.sipush 1000, 3) := by decide +kernel
theorem d_m_ask_40 : decode prog_7_method_15_code 40 = .ok (.invokestatic 99, 3) := by decide +kernel
theorem d_m_ask_43 : decode prog_7_method_15_code 43 = .ok (.ifCond .eq 12, 3) := by decide +kernel
theorem d_m_ask_46 : decode prog_7_method_15_code 46 = .ok (.aload_n 0, 1) := by decide +kernel
theorem d_m_ask_47 : decode prog_7_method_15_code 47 = .ok (.iload 5, 2) := by decide +kernel
theorem d_m_ask_49 : decode prog_7_method_15_code 49 = .ok (.invokevirtual 133, 3) := by decide +kernel
theorem d_m_ask_52 : decode prog_7_method_15_code 52 = .ok (.ifCond .ne 6, 3) := by decide +kernel
theorem d_m_ask_55 : decode prog_7_method_15_code 55 = .ok (.bipush (-2), 2) := by decide +kernel
theorem d_m_ask_57 : decode prog_7_method_15_code 57 = .ok (.ireturn, 1) := by decide +kernel
theorem d_m_ask_58 : decode prog_7_method_15_code 58 = .ok (.aload_n 0, 1) := by decide +kernel
theorem d_m_ask_59 : decode prog_7_method_15_code 59 = .ok (.getfield 117, 3) := by decide +kernel
theorem d_m_ask_62 : decode prog_7_method_15_code 62 = .ok (.sipush 300, 3) := by decide +kernel
theorem d_m_ask_65 : decode prog_7_method_15_code 65 = .ok (.if_icmp .ne 6, 3) := by decide +kernel
theorem d_m_ask_68 : decode prog_7_method_15_code 68 = .ok (.bipush (-4), 2) := by decide +kernel
theorem d_m_ask_70 : decode prog_7_method_15_code 70 = .ok (.ireturn, 1) := by decide +kernel
theorem d_m_ask_71 : decode prog_7_method_15_code 71 = .ok (.aload_n 0, 1) := by decide +kernel
theorem d_m_ask_72 : decode prog_7_method_15_code 72 = .ok (.iload 5, 2) := by decide +kernel
theorem d_m_ask_74 : decode prog_7_method_15_code 74 = .ok (.putfield 103, 3) := by decide +kernel
theorem d_m_ask_77 : decode prog_7_method_15_code 77 = .ok (.aload_n 0, 1) := by decide +kernel
theorem d_m_ask_78 : decode prog_7_method_15_code 78 = .ok (.getfield 117, 3) := by decide +kernel
theorem d_m_ask_81 : decode prog_7_method_15_code 81 = .ok (.istore 6, 2) := by decide +kernel
theorem d_m_ask_83 : decode prog_7_method_15_code 83 = .ok (.aload_n 0, 1) := by decide +kernel
theorem d_m_ask_84 : decode prog_7_method_15_code 84 = .ok (.iload_n 2, 1) := by decide +kernel
theorem d_m_ask_85 : decode prog_7_method_15_code 85 = .ok (.iload_n 3, 1) := by decide +kernel
theorem d_m_ask_86 : decode prog_7_method_15_code 86 = .ok (.iload 5, 2) := by decide +kernel
theorem d_m_ask_88 : decode prog_7_method_15_code 88 = .ok (.invokevirtual 136, 3) := by decide +kernel
theorem d_m_ask_91 : decode prog_7_method_15_code 91 = .ok (.istore 7, 2) := by decide +kernel
theorem d_m_ask_93 : decode prog_7_method_15_code 93 = .ok (.aload_n 0, 1) := by decide +kernel
theorem d_m_ask_94 : decode prog_7_method_15_code 94 = .ok (.getfield 56, 3) := by decide +kernel
theorem d_m_ask_97 : decode prog_7_method_15_code 97 = .ok (.iload 6, 2) := by decide +kernel
theorem d_m_ask_99 : decode prog_7_method_15_code 99 = .ok (.iload_n 1, 1) := by decide +kernel
theorem d_m_ask_100 : decode prog_7_method_15_code 100 = .ok (.iastore, 1) := by decide +kernel
theorem d_m_ask_101 : decode prog_7_method_15_code 101 = .ok (.aload_n 0, 1) := by decide +kernel
theorem d_m_ask_102 : decode prog_7_method_15_code 102 = .ok (.getfield 59, 3) := by decide +kernel
theorem d_m_ask_105 : decode prog_7_method_15_code 105 = .ok (.iload 6, 2) := by decide +kernel
theorem d_m_ask_107 : decode prog_7_method_15_code 107 = .ok (.iload_n 2, 1) := by decide +kernel
theorem d_m_ask_108 : decode prog_7_method_15_code 108 = .ok (.iastore, 1) := by decide +kernel
theorem d_m_ask_109 : decode prog_7_method_15_code 109 = .ok (.aload_n 0, 1) := by decide +kernel
theorem d_m_ask_110 : decode prog_7_method_15_code 110 = .ok (.getfield 62, 3) := by decide +kernel
theorem d_m_ask_113 : decode prog_7_method_15_code 113 = .ok (.iload 6, 2) := by decide +kernel
theorem d_m_ask_115 : decode prog_7_method_15_code 115 = .ok (.iload_n 3, 1) := by decide +kernel
theorem d_m_ask_116 : decode prog_7_method_15_code 116 = .ok (.iastore, 1) := by decide +kernel
theorem d_m_ask_117 : decode prog_7_method_15_code 117 = .ok (.aload_n 0, 1) := by decide +kernel
theorem d_m_ask_118 : decode prog_7_method_15_code 118 = .ok (.getfield 65, 3) := by decide +kernel
theorem d_m_ask_121 : decode prog_7_method_15_code 121 = .ok (.iload 6, 2) := by decide +kernel
theorem d_m_ask_123 : decode prog_7_method_15_code 123 = .ok (.iload 4, 2) := by decide +kernel
theorem d_m_ask_125 : decode prog_7_method_15_code 125 = .ok (.iastore, 1) := by decide +kernel
theorem d_m_ask_126 : decode prog_7_method_15_code 126 = .ok (.aload_n 0, 1) := by decide +kernel
theorem d_m_ask_127 : decode prog_7_method_15_code 127 = .ok (.getfield 68, 3) := by decide +kernel
theorem d_m_ask_130 : decode prog_7_method_15_code 130 = .ok (.iload 6, 2) := by decide +kernel
theorem d_m_ask_132 : decode prog_7_method_15_code 132 = .ok (.iload 5, 2) := by decide +kernel
theorem d_m_ask_134 : decode prog_7_method_15_code 134 = .ok (.iastore, 1) := by decide +kernel
theorem d_m_ask_135 : decode prog_7_method_15_code 135 = .ok (.aload_n 0, 1) := by decide +kernel
theorem d_m_ask_136 : decode prog_7_method_15_code 136 = .ok (.getfield 71, 3) := by decide +kernel
theorem d_m_ask_139 : decode prog_7_method_15_code 139 = .ok (.iload 6, 2) := by decide +kernel
theorem d_m_ask_141 : decode prog_7_method_15_code 141 = .ok (.iload 7, 2) := by decide +kernel
theorem d_m_ask_143 : decode prog_7_method_15_code 143 = .ok (.iastore, 1) := by decide +kernel
theorem d_m_ask_144 : decode prog_7_method_15_code 144 = .ok (.aload_n 0, 1) := by decide +kernel
theorem d_m_ask_145 : decode prog_7_method_15_code 145 = .ok (.getfield 74, 3) := by decide +kernel
theorem d_m_ask_148 : decode prog_7_method_15_code 148 = .ok (.iload 6, 2) := by decide +kernel
theorem d_m_ask_150 : decode prog_7_method_15_code 150 = .ok (.iload 7, 2) := by decide +kernel
theorem d_m_ask_152 : decode prog_7_method_15_code 152 = .ok (.iconst 2, 1) := by decide +kernel
theorem d_m_ask_153 : decode prog_7_method_15_code 153 = .ok (.if_icmp .ne 14, 3) := by decide +kernel
theorem d_m_ask_156 : decode prog_7_method_15_code 156 = .ok (.aload_n 0, 1) := by decide +kernel
theorem d_m_ask_157 : decode prog_7_method_15_code 157 = .ok (.iload_n 2, 1) := by decide +kernel
theorem d_m_ask_158 : decode prog_7_method_15_code 158 = .ok (.iload_n 3, 1) := by decide +kernel
theorem d_m_ask_159 : decode prog_7_method_15_code 159 = .ok (.iload 5, 2) := by decide +kernel
theorem d_m_ask_161 : decode prog_7_method_15_code 161 = .ok (.invokevirtual 126, 3) := by decide +kernel
theorem d_m_ask_164 : decode prog_7_method_15_code 164 = .ok (.goto 4, 3) := by decide +kernel
theorem d_m_ask_167 : decode prog_7_method_15_code 167 = .ok (.iconst (-1), 1) := by decide +kernel
theorem d_m_ask_168 : decode prog_7_method_15_code 168 = .ok (.iastore, 1) := by decide +kernel
theorem d_m_ask_169 : decode prog_7_method_15_code 169 = .ok (.aload_n 0, 1) := by decide +kernel
theorem d_m_ask_170 : decode prog_7_method_15_code 170 = .ok (.getfield 77, 3) := by decide +kernel
theorem d_m_ask_173 : decode prog_7_method_15_code 173 = .ok (.iload 6, 2) := by decide +kernel
theorem d_m_ask_175 : decode prog_7_method_15_code 175 = .ok (.iload 7, 2) := by decide +kernel
theorem d_m_ask_177 : decode prog_7_method_15_code 177 = .ok (.iconst 5, 1) := by decide +kernel
theorem d_m_ask_178 : decode prog_7_method_15_code 178 = .ok (.if_icmp .ne 20, 3) := by decide +kernel
theorem d_m_ask_181 : decode prog_7_method_15_code 181 = .ok (.iload 4, 2) := by decide +kernel
theorem d_m_ask_183 : decode prog_7_method_15_code 183 = .ok (.aload_n 0, 1) := by decide +kernel
theorem d_m_ask_184 : decode prog_7_method_15_code 184 = .ok (.getfield 23, 3) := by decide +kernel
theorem d_m_ask_187 : decode prog_7_method_15_code 187 = .ok (.aload_n 0, 1) := by decide +kernel
theorem d_m_ask_188 : decode prog_7_method_15_code 188 = .ok (.getfield 7, 3) := by decide +kernel
theorem d_m_ask_191 : decode prog_7_method_15_code 191 = .ok (.iload_n 2, 1) := by decide +kernel
theorem d_m_ask_192 : decode prog_7_method_15_code 192 = .ok (.iaload, 1) := by decide +kernel
theorem d_m_ask_193 : decode prog_7_method_15_code 193 = .ok (.iaload, 1) := by decide +kernel
theorem d_m_ask_194 : decode prog_7_method_15_code 194 = .ok (.imul, 1) := by decide +kernel
theorem d_m_ask_195 : decode prog_7_method_15_code 195 = .ok (.goto 4, 3) := by decide +kernel
theorem d_m_ask_198 : decode prog_7_method_15_code 198 = .ok (.iconst 0, 1) := by decide +kernel
theorem d_m_ask_199 : decode prog_7_method_15_code 199 = .ok (.iastore, 1) := by decide +kernel
theorem d_m_ask_200 : decode prog_7_method_15_code 200 = .ok (.aload_n 0, 1) := by decide +kernel
theorem d_m_ask_201 : decode prog_7_method_15_code 201 = .ok (.getfield 80, 3) := by decide +kernel
theorem d_m_ask_204 : decode prog_7_method_15_code 204 = .ok (.iload 6, 2) := by decide +kernel
theorem d_m_ask_206 : decode prog_7_method_15_code 206 = .ok (.iload 7, 2) := by decide +kernel
theorem d_m_ask_208 : decode prog_7_method_15_code 208 = .ok (.ifCond .ne 7, 3) := by decide +kernel
theorem d_m_ask_211 : decode prog_7_method_15_code 211 = .ok (.iconst (-1), 1) := by decide +kernel
theorem d_m_ask_212 : decode prog_7_method_15_code 212 = .ok (.goto 8, 3) := by decide +kernel
theorem d_m_ask_215 : decode prog_7_method_15_code 215 = .ok (.iload 5, 2) := by decide +kernel
theorem d_m_ask_217 : decode prog_7_method_15_code 217 = .ok (.ldc 139, 2) := by decide +kernel
theorem d_m_ask_219 : decode prog_7_method_15_code 219 = .ok (.iadd, 1) := by decide +kernel
theorem d_m_ask_220 : decode prog_7_method_15_code 220 = .ok (.iastore, 1) := by decide +kernel
theorem d_m_ask_221 : decode prog_7_method_15_code 221 = .ok (.aload_n 0, 1) := by decide +kernel
theorem d_m_ask_222 : decode prog_7_method_15_code 222 = .ok (.getfield 83, 3) := by decide +kernel
theorem d_m_ask_225 : decode prog_7_method_15_code 225 = .ok (.iload 6, 2) := by decide +kernel
theorem d_m_ask_227 : decode prog_7_method_15_code 227 = .ok (.iconst 0, 1) := by decide +kernel
theorem d_m_ask_228 : decode prog_7_method_15_code 228 = .ok (.iastore, 1) := by decide +kernel
theorem d_m_ask_229 : decode prog_7_method_15_code 229 = .ok (.aload_n 0, 1) := by decide +kernel
theorem d_m_ask_230 : decode prog_7_method_15_code 230 = .ok (.getfield 86, 3) := by decide +kernel
theorem d_m_ask_233 : decode prog_7_method_15_code 233 = .ok (.iload 6, 2) := by decide +kernel
theorem d_m_ask_235 : decode prog_7_method_15_code 235 = .ok (.iconst (-1), 1) := by decide +kernel
theorem d_m_ask_236 : decode prog_7_method_15_code 236 = .ok (.iastore, 1) := by decide +kernel
theorem d_m_ask_237 : decode prog_7_method_15_code 237 = .ok (.iload 7, 2) := by decide +kernel
theorem d_m_ask_239 : decode prog_7_method_15_code 239 = .ok (.iconst 2, 1) := by decide +kernel
theorem d_m_ask_240 : decode prog_7_method_15_code 240 = .ok (.if_icmp .ne 19, 3) := by decide +kernel
theorem d_m_ask_243 : decode prog_7_method_15_code 243 = .ok (.aload_n 0, 1) := by decide +kernel
theorem d_m_ask_244 : decode prog_7_method_15_code 244 = .ok (.getfield 47, 3) := by decide +kernel
theorem d_m_ask_247 : decode prog_7_method_15_code 247 = .ok (.aload_n 0, 1) := by decide +kernel
theorem d_m_ask_248 : decode prog_7_method_15_code 248 = .ok (.getfield 74, 3) := by decide +kernel
theorem d_m_ask_251 : decode prog_7_method_15_code 251 = .ok (.iload 6, 2) := by decide +kernel
theorem d_m_ask_253 : decode prog_7_method_15_code 253 = .ok (.iaload, 1) := by decide +kernel
theorem d_m_ask_254 : decode prog_7_method_15_code 254 = .ok (.dup2, 1) := by decide +kernel
theorem d_m_ask_255 : decode prog_7_method_15_code 255 = .ok (.iaload, 1) := by decide +kernel
theorem d_m_ask_256 : decode prog_7_method_15_code 256 = .ok (.iconst 1, 1) := by decide +kernel
theorem d_m_ask_257 : decode prog_7_method_15_code 257 = .ok (.isub, 1) := by decide +kernel
theorem d_m_ask_258 : decode prog_7_method_15_code 258 = .ok (.iastore, 1) := by decide +kernel
theorem d_m_ask_259 : decode prog_7_method_15_code 259 = .ok (.iload 7, 2) := by decide +kernel
theorem d_m_ask_261 : decode prog_7_method_15_code 261 = .ok (.iconst 4, 1) := by decide +kernel
theorem d_m_ask_262 : decode prog_7_method_15_code 262 = .ok (.if_icmp .ne 13, 3) := by decide +kernel
theorem d_m_ask_265 : decode prog_7_method_15_code 265 = .ok (.aload_n 0, 1) := by decide +kernel
theorem d_m_ask_266 : decode prog_7_method_15_code 266 = .ok (.getfield 20, 3) := by decide +kernel
theorem d_m_ask_269 : decode prog_7_method_15_code 269 = .ok (.iload_n 2, 1) := by decide +kernel
theorem d_m_ask_270 : decode prog_7_method_15_code 270 = .ok (.dup2, 1) := by decide +kernel
theorem d_m_ask_271 : decode prog_7_method_15_code 271 = .ok (.iaload, 1) := by decide +kernel
theorem d_m_ask_272 : decode prog_7_method_15_code 272 = .ok (.iconst 1, 1) := by decide +kernel
theorem d_m_ask_273 : decode prog_7_method_15_code 273 = .ok (.isub, 1) := by decide +kernel
theorem d_m_ask_274 : decode prog_7_method_15_code 274 = .ok (.iastore, 1) := by decide +kernel
theorem d_m_ask_275 : decode prog_7_method_15_code 275 = .ok (.iload 7, 2) := by decide +kernel
theorem d_m_ask_277 : decode prog_7_method_15_code 277 = .ok (.ifCond .ne 15, 3) := by decide +kernel
theorem d_m_ask_280 : decode prog_7_method_15_code 280 = .ok (.aload_n 0, 1) := by decide +kernel
theorem d_m_ask_281 : decode prog_7_method_15_code 281 = .ok (.aload_n 0, 1) := by decide +kernel
theorem d_m_ask_282 : decode prog_7_method_15_code 282 = .ok (.iload_n 2, 1) := by decide +kernel
theorem d_m_ask_283 : decode prog_7_method_15_code 283 = .ok (.iload_n 3, 1) := by decide +kernel
theorem d_m_ask_284 : decode prog_7_method_15_code 284 = .ok (.iload 5, 2) := by decide +kernel
theorem d_m_ask_286 : decode prog_7_method_15_code 286 = .ok (.invokevirtual 130, 3) := by decide +kernel
theorem d_m_ask_289 : decode prog_7_method_15_code 289 = .ok (.putfield 89, 3) := by decide +kernel
theorem d_m_ask_292 : decode prog_7_method_15_code 292 = .ok (.aload_n 0, 1) := by decide +kernel
theorem d_m_ask_293 : decode prog_7_method_15_code 293 = .ok (.dup, 1) := by decide +kernel
theorem d_m_ask_294 : decode prog_7_method_15_code 294 = .ok (.getfield 117, 3) := by decide +kernel
theorem d_m_ask_297 : decode prog_7_method_15_code 297 = .ok (.iconst 1, 1) := by decide +kernel
theorem d_m_ask_298 : decode prog_7_method_15_code 298 = .ok (.iadd, 1) := by decide +kernel
theorem d_m_ask_299 : decode prog_7_method_15_code 299 = .ok (.putfield 117, 3) := by decide +kernel
theorem d_m_ask_302 : decode prog_7_method_15_code 302 = .ok (.iload 7, 2) := by decide +kernel
theorem d_m_ask_304 : decode prog_7_method_15_code 304 = .ok (.ifCond .ne 11, 3) := by decide +kernel
theorem d_m_ask_307 : decode prog_7_method_15_code 307 = .ok (.bipush (-10), 2) := by decide +kernel
theorem d_m_ask_309 : decode prog_7_method_15_code 309 = .ok (.iload 6, 2) := by decide +kernel
theorem d_m_ask_311 : decode prog_7_method_15_code 311 = .ok (.isub, 1) := by decide +kernel
theorem d_m_ask_312 : decode prog_7_method_15_code 312 = .ok (.goto 5, 3) := by decide +kernel
theorem d_m_ask_315 : decode prog_7_method_15_code 315 = .ok (.iload 6, 2) := by decide +kernel
theorem d_m_ask_317 : decode prog_7_method_15_code 317 = .ok (.ireturn, 1) := by decide +kernel
theorem d_m_barrier_0 : decode prog_7_method_12_code 0 = .ok (.iconst 0, 1) := by decide +kernel
theorem d_m_barrier_1 : decode prog_7_method_12_code 1 = .ok (.istore 4, 2) := by decide +kernel
theorem d_m_barrier_3 : decode prog_7_method_12_code 3 = .ok (.iload 4, 2) := by decide +kernel
theorem d_m_barrier_5 : decode prog_7_method_12_code 5 = .ok (.aload_n 0, 1) := by decide +kernel
theorem d_m_barrier_6 : decode prog_7_method_12_code 6 = .ok (.getfield 111, 3) := by decide +kernel
theorem d_m_barrier_9 : decode prog_7_method_12_code 9 = .ok (.if_icmp .ge 61, 3) := by decide +kernel
theorem d_m_barrier_12 : decode prog_7_method_12_code 12 = .ok (.aload_n 0, 1) := by decide +kernel
theorem d_m_barrier_13 : decode prog_7_method_12_code 13 = .ok (.getfield 29, 3) := by decide +kernel
theorem d_m_barrier_16 : decode prog_7_method_12_code 16 = .ok (.iload 4, 2) := by decide +kernel
theorem d_m_barrier_18 : decode prog_7_method_12_code 18 = .ok (.iaload, 1) := by decide +kernel
theorem d_m_barrier_19 : decode prog_7_method_12_code 19 = .ok (.iload_n 1, 1) := by decide +kernel
theorem d_m_barrier_20 : decode prog_7_method_12_code 20 = .ok (.if_icmp .ne 44, 3) := by decide +kernel
theorem d_m_barrier_23 : decode prog_7_method_12_code 23 = .ok (.aload_n 0, 1) := by decide +kernel
theorem d_m_barrier_24 : decode prog_7_method_12_code 24 = .ok (.getfield 32, 3) := by decide +kernel
theorem d_m_barrier_27 : decode prog_7_method_12_code 27 = .ok (.iload 4, 2) := by decide +kernel
theorem d_m_barrier_29 : decode prog_7_method_12_code 29 = .ok (.iaload, 1) := by decide +kernel
theorem d_m_barrier_30 : decode prog_7_method_12_code 30 = .ok (.iload_n 2, 1) := by decide +kernel
theorem d_m_barrier_31 : decode prog_7_method_12_code 31 = .ok (.if_icmp .eq 6, 3) := by decide +kernel
theorem d_m_barrier_34 : decode prog_7_method_12_code 34 = .ok (.goto 30, 3) := by decide +kernel
theorem d_m_barrier_37 : decode prog_7_method_12_code 37 = .ok (.aload_n 0, 1) := by decide +kernel
theorem d_m_barrier_38 : decode prog_7_method_12_code 38 = .ok (.iload_n 1, 1) := by decide +kernel
theorem d_m_barrier_39 : decode prog_7_method_12_code 39 = .ok (.iload_n 2, 1) := by decide +kernel
theorem d_m_barrier_40 : decode prog_7_method_12_code 40 = .ok (.aload_n 0, 1) := by decide +kernel
theorem d_m_barrier_41 : decode prog_7_method_12_code 41 = .ok (.getfield 35, 3) := by decide +kernel
theorem d_m_barrier_44 : decode prog_7_method_12_code 44 = .ok (.iload 4, 2) := by decide +kernel
theorem d_m_barrier_46 : decode prog_7_method_12_code 46 = .ok (.iaload, 1) := by decide +kernel
theorem d_m_barrier_47 : decode prog_7_method_12_code 47 = .ok (.iload_n 3, 1) := by decide +kernel
theorem d_m_barrier_48 : decode prog_7_method_12_code 48 = .ok (.invokevirtual 122, 3) := by decide +kernel
theorem d_m_barrier_51 : decode prog_7_method_12_code 51 = .ok (.aload_n 0, 1) := by decide +kernel
theorem d_m_barrier_52 : decode prog_7_method_12_code 52 = .ok (.getfield 38, 3) := by decide +kernel
theorem d_m_barrier_55 : decode prog_7_method_12_code 55 = .ok (.iload 4, 2) := by decide +kernel
theorem d_m_barrier_57 : decode prog_7_method_12_code 57 = .ok (.iaload, 1) := by decide +kernel
theorem d_m_barrier_58 : decode prog_7_method_12_code 58 = .ok (.if_icmp .lt 6, 3) := by decide +kernel
theorem d_m_barrier_61 : decode prog_7_method_12_code 61 = .ok (.iload 4, 2) := by decide +kernel
theorem d_m_barrier_63 : decode prog_7_method_12_code 63 = .ok (.ireturn, 1) := by decide +kernel
theorem d_m_barrier_64 : decode prog_7_method_12_code 64 = .ok (.iinc 4 1, 3) := by decide +kernel
theorem d_m_barrier_67 : decode prog_7_method_12_code 67 = .ok (.goto (-64), 3) := by decide +kernel
theorem d_m_barrier_70 : decode prog_7_method_12_code 70 = .ok (.iconst (-1), 1) := by decide +kernel
theorem d_m_barrier_71 : decode prog_7_method_12_code 71 = .ok (.ireturn, 1) := by decide +kernel
theorem d_m_cents_0 : decode prog_7_method_23_code 0 = .ok (.aload_n 0, 1) := by decide +kernel
theorem d_m_cents_1 : decode prog_7_method_23_code 1 = .ok (.getfield 77, 3) := by decide +kernel
theorem d_m_cents_4 : decode prog_7_method_23_code 4 = .ok (.iload_n 1, 1) := by decide +kernel
theorem d_m_cents_5 : decode prog_7_method_23_code 5 = .ok (.iaload, 1) := by decide +kernel
theorem d_m_cents_6 : decode prog_7_method_23_code 6 = .ok (.iconst 1, 1) := by decide +kernel
theorem d_m_cents_7 : decode prog_7_method_23_code 7 = .ok (.aload_n 0, 1) := by decide +kernel
theorem d_m_cents_8 : decode prog_7_method_23_code 8 = .ok (.getfield 83, 3) := by decide +kernel
theorem d_m_cents_11 : decode prog_7_method_23_code 11 = .ok (.iload_n 1, 1) := by decide +kernel
theorem d_m_cents_12 : decode prog_7_method_23_code 12 = .ok (.iaload, 1) := by decide +kernel
theorem d_m_cents_13 : decode prog_7_method_23_code 13 = .ok (.iadd, 1) := by decide +kernel
theorem d_m_cents_14 : decode prog_7_method_23_code 14 = .ok (.imul, 1) := by decide +kernel
theorem d_m_cents_15 : decode prog_7_method_23_code 15 = .ok (.ireturn, 1) := by decide +kernel
theorem d_m_count_0 : decode prog_7_method_11_code 0 = .ok (.iconst 0, 1) := by decide +kernel
theorem d_m_count_1 : decode prog_7_method_11_code 1 = .ok (.istore 5, 2) := by decide +kernel
theorem d_m_count_3 : decode prog_7_method_11_code 3 = .ok (.iconst 0, 1) := by decide +kernel
theorem d_m_count_4 : decode prog_7_method_11_code 4 = .ok (.istore 6, 2) := by decide +kernel
theorem d_m_count_6 : decode prog_7_method_11_code 6 = .ok (.iload 6, 2) := by decide +kernel
theorem d_m_count_8 : decode prog_7_method_11_code 8 = .ok (.aload_n 0, 1) := by decide +kernel
theorem d_m_count_9 : decode prog_7_method_11_code 9 = .ok (.getfield 117, 3) := by decide +kernel
theorem d_m_count_12 : decode prog_7_method_11_code 12 = .ok (.if_icmp .ge 89, 3) := by decide +kernel
theorem d_m_count_15 : decode prog_7_method_11_code 15 = .ok (.aload_n 0, 1) := by decide +kernel
theorem d_m_count_16 : decode prog_7_method_11_code 16 = .ok (.getfield 59, 3) := by decide +kernel
theorem d_m_count_19 : decode prog_7_method_11_code 19 = .ok (.iload 6, 2) := by decide +kernel
theorem d_m_count_21 : decode prog_7_method_11_code 21 = .ok (.iaload, 1) := by decide +kernel
theorem d_m_count_22 : decode prog_7_method_11_code 22 = .ok (.iload_n 1, 1) := by decide +kernel
theorem d_m_count_23 : decode prog_7_method_11_code 23 = .ok (.if_icmp .ne 72, 3) := by decide +kernel
theorem d_m_count_26 : decode prog_7_method_11_code 26 = .ok (.aload_n 0, 1) := by decide +kernel
theorem d_m_count_27 : decode prog_7_method_11_code 27 = .ok (.getfield 62, 3) := by decide +kernel
theorem d_m_count_30 : decode prog_7_method_11_code 30 = .ok (.iload 6, 2) := by decide +kernel
theorem d_m_count_32 : decode prog_7_method_11_code 32 = .ok (.iaload, 1) := by decide +kernel
theorem d_m_count_33 : decode prog_7_method_11_code 33 = .ok (.iload_n 2, 1) := by decide +kernel
theorem d_m_count_34 : decode prog_7_method_11_code 34 = .ok (.if_icmp .ne 61, 3) := by decide +kernel
theorem d_m_count_37 : decode prog_7_method_11_code 37 = .ok (.aload_n 0, 1) := by decide +kernel
theorem d_m_count_38 : decode prog_7_method_11_code 38 = .ok (.getfield 71, 3) := by decide +kernel
theorem d_m_count_41 : decode prog_7_method_11_code 41 = .ok (.iload 6, 2) := by decide +kernel
theorem d_m_count_43 : decode prog_7_method_11_code 43 = .ok (.iaload, 1) := by decide +kernel
theorem d_m_count_44 : decode prog_7_method_11_code 44 = .ok (.iconst 3, 1) := by decide +kernel
theorem d_m_count_45 : decode prog_7_method_11_code 45 = .ok (.if_icmp .ge 6, 3) := by decide +kernel
theorem d_m_count_48 : decode prog_7_method_11_code 48 = .ok (.goto 47, 3) := by decide +kernel
theorem d_m_count_51 : decode prog_7_method_11_code 51 = .ok (.iload 5, 2) := by decide +kernel
theorem d_m_count_53 : decode prog_7_method_11_code 53 = .ok (.aload_n 0, 1) := by decide +kernel
theorem d_m_count_54 : decode prog_7_method_11_code 54 = .ok (.getfield 68, 3) := by decide +kernel
theorem d_m_count_57 : decode prog_7_method_11_code 57 = .ok (.iload 6, 2) := by decide +kernel
theorem d_m_count_59 : decode prog_7_method_11_code 59 = .ok (.iaload, 1) := by decide +kernel
theorem d_m_count_60 : decode prog_7_method_11_code 60 = .ok (.iload 4, 2) := by decide +kernel
theorem d_m_count_62 : decode prog_7_method_11_code 62 = .ok (.if_icmp .gt 29, 3) := by decide +kernel
theorem d_m_count_65 : decode prog_7_method_11_code 65 = .ok (.aload_n 0, 1) := by decide +kernel
theorem d_m_count_66 : decode prog_7_method_11_code 66 = .ok (.getfield 68, 3) := by decide +kernel
theorem d_m_count_69 : decode prog_7_method_11_code 69 = .ok (.iload 6, 2) := by decide +kernel
theorem d_m_count_71 : decode prog_7_method_11_code 71 = .ok (.iaload, 1) := by decide +kernel
theorem d_m_count_72 : decode prog_7_method_11_code 72 = .ok (.i2l, 1) := by decide +kernel
theorem d_m_count_73 : decode prog_7_method_11_code 73 = .ok (.iload 4, 2) := by decide +kernel
theorem d_m_count_75 : decode prog_7_method_11_code 75 = .ok (.i2l, 1) := by decide +kernel
theorem d_m_count_76 : decode prog_7_method_11_code 76 = .ok (.iload_n 3, 1) := by decide +kernel
theorem d_m_count_77 : decode prog_7_method_11_code 77 = .ok (.i2l, 1) := by decide +kernel
theorem d_m_count_78 : decode prog_7_method_11_code 78 = .ok (.ldc2_w 120, 3) := by decide +kernel
theorem d_m_count_81 : decode prog_7_method_11_code 81 = .ok (.lmul, 1) := by decide +kernel
theorem d_m_count_82 : decode prog_7_method_11_code 82 = .ok (.lsub, 1) := by decide +kernel
theorem d_m_count_83 : decode prog_7_method_11_code 83 = .ok (.lcmp, 1) := by decide +kernel
theorem d_m_count_84 : decode prog_7_method_11_code 84 = .ok (.ifCond .lt 7, 3) := by decide +kernel
theorem d_m_count_87 : decode prog_7_method_11_code 87 = .ok (.iconst 1, 1) := by decide +kernel
theorem d_m_count_88 : decode prog_7_method_11_code 88 = .ok (.goto 4, 3) := by decide +kernel
theorem d_m_count_91 : decode prog_7_method_11_code 91 = .ok (.iconst 0, 1) := by decide +kernel
theorem d_m_count_92 : decode prog_7_method_11_code 92 = .ok (.iadd, 1) := by decide +kernel
theorem d_m_count_93 : decode prog_7_method_11_code 93 = .ok (.istore 5, 2) := by decide +kernel
theorem d_m_count_95 : decode prog_7_method_11_code 95 = .ok (.iinc 6 1, 3) := by decide +kernel
theorem d_m_count_98 : decode prog_7_method_11_code 98 = .ok (.goto (-92), 3) := by decide +kernel
theorem d_m_count_101 : decode prog_7_method_11_code 101 = .ok (.iload 5, 2) := by decide +kernel
theorem d_m_count_103 : decode prog_7_method_11_code 103 = .ok (.ireturn, 1) := by decide +kernel
theorem d_m_counted_0 : decode prog_7_method_22_code 0 = .ok (.aload_n 0, 1) := by decide +kernel
theorem d_m_counted_1 : decode prog_7_method_22_code 1 = .ok (.iconst 0, 1) := by decide +kernel
theorem d_m_counted_2 : decode prog_7_method_22_code 2 = .ok (.putfield 93, 3) := by decide +kernel
theorem d_m_counted_5 : decode prog_7_method_22_code 5 = .ok (.aload_n 0, 1) := by decide +kernel
theorem d_m_counted_6 : decode prog_7_method_22_code 6 = .ok (.iload_n 1, 1) := by decide +kernel
theorem d_m_counted_7 : decode prog_7_method_22_code 7 = .ok (.invokevirtual 107, 3) := by decide +kernel
theorem d_m_counted_10 : decode prog_7_method_22_code 10 = .ok (.ifCond .ne 5, 3) := by decide +kernel
theorem d_m_counted_13 : decode prog_7_method_22_code 13 = .ok (.iconst (-1), 1) := by decide +kernel
theorem d_m_counted_14 : decode prog_7_method_22_code 14 = .ok (.ireturn, 1) := by decide +kernel
theorem d_m_counted_15 : decode prog_7_method_22_code 15 = .ok (.iload_n 2, 1) := by decide +kernel
theorem d_m_counted_16 : decode prog_7_method_22_code 16 = .ok (.iconst 0, 1) := by decide +kernel
theorem d_m_counted_17 : decode prog_7_method_22_code 17 = .ok (.iconst 1, 1) := by decide +kernel
theorem d_m_counted_18 : decode prog_7_method_22_code 18 = .ok (.invokestatic 99, 3) := by decide +kernel
theorem d_m_counted_21 : decode prog_7_method_22_code 21 = .ok (.ifCond .eq 25, 3) := by decide +kernel
theorem d_m_counted_24 : decode prog_7_method_22_code 24 = .ok (.iload_n 3, 1) := by decide +kernel
theorem d_m_counted_25 : decode prog_7_method_22_code 25 = .ok (.iconst 1, 1) := by decide +kernel
theorem d_m_counted_26 : decode prog_7_method_22_code 26 = .ok (.sipush 5000, 3) := by decide +kernel
theorem d_m_counted_29 : decode prog_7_method_22_code 29 = .ok (.invokestatic 99, 3) := by decide +kernel
theorem d_m_counted_32 : decode prog_7_method_22_code 32 = .ok (.ifCond .eq 14, 3) := by decide +kernel
theorem d_m_counted_35 : decode prog_7_method_22_code 35 = .ok (.iload 4, 2) := by decide +kernel
theorem d_m_counted_37 : decode prog_7_method_22_code 37 = .ok (.iconst 0, 1) := by decide +kernel
theorem d_m_counted_38 : decode prog_7_method_22_code 38 = .ok (.ldc 106, 2) := by decide +kernel
theorem d_m_counted_40 : decode prog_7_method_22_code 40 = .ok (.invokestatic 99, 3) := by decide +kernel
theorem d_m_counted_43 : decode prog_7_method_22_code 43 = .ok (.ifCond .ne 6, 3) := by decide +kernel
theorem d_m_counted_46 : decode prog_7_method_22_code 46 = .ok (.bipush (-2), 2) := by decide +kernel
theorem d_m_counted_48 : decode prog_7_method_22_code 48 = .ok (.ireturn, 1) := by decide +kernel
theorem d_m_counted_49 : decode prog_7_method_22_code 49 = .ok (.aload_n 0, 1) := by decide +kernel
theorem d_m_counted_50 : decode prog_7_method_22_code 50 = .ok (.iload_n 1, 1) := by decide +kernel
theorem d_m_counted_51 : decode prog_7_method_22_code 51 = .ok (.iload_n 2, 1) := by decide +kernel
theorem d_m_counted_52 : decode prog_7_method_22_code 52 = .ok (.iload_n 3, 1) := by decide +kernel
theorem d_m_counted_53 : decode prog_7_method_22_code 53 = .ok (.iload 4, 2) := by decide +kernel
theorem d_m_counted_55 : decode prog_7_method_22_code 55 = .ok (.invokevirtual 122, 3) := by decide +kernel
theorem d_m_counted_58 : decode prog_7_method_22_code 58 = .ok (.ireturn, 1) := by decide +kernel
theorem d_m_decide_0 : decode prog_7_method_14_code 0 = .ok (.aload_n 0, 1) := by decide +kernel
theorem d_m_decide_1 : decode prog_7_method_14_code 1 = .ok (.getfield 13, 3) := by decide +kernel
theorem d_m_decide_4 : decode prog_7_method_14_code 4 = .ok (.iload_n 1, 1) := by decide +kernel
theorem d_m_decide_5 : decode prog_7_method_14_code 5 = .ok (.baload, 1) := by decide +kernel
theorem d_m_decide_6 : decode prog_7_method_14_code 6 = .ok (.ifCond .eq 5, 3) := by decide +kernel
theorem d_m_decide_9 : decode prog_7_method_14_code 9 = .ok (.iconst 1, 1) := by decide +kernel
theorem d_m_decide_10 : decode prog_7_method_14_code 10 = .ok (.ireturn, 1) := by decide +kernel
theorem d_m_decide_11 : decode prog_7_method_14_code 11 = .ok (.aload_n 0, 1) := by decide +kernel
theorem d_m_decide_12 : decode prog_7_method_14_code 12 = .ok (.iload_n 1, 1) := by decide +kernel
theorem d_m_decide_13 : decode prog_7_method_14_code 13 = .ok (.iload_n 2, 1) := by decide +kernel
theorem d_m_decide_14 : decode prog_7_method_14_code 14 = .ok (.iload_n 3, 1) := by decide +kernel
theorem d_m_decide_15 : decode prog_7_method_14_code 15 = .ok (.invokevirtual 126, 3) := by decide +kernel
theorem d_m_decide_18 : decode prog_7_method_14_code 18 = .ok (.ifCond .lt 5, 3) := by decide +kernel
theorem d_m_decide_21 : decode prog_7_method_14_code 21 = .ok (.iconst 2, 1) := by decide +kernel
theorem d_m_decide_22 : decode prog_7_method_14_code 22 = .ok (.ireturn, 1) := by decide +kernel
theorem d_m_decide_23 : decode prog_7_method_14_code 23 = .ok (.aload_n 0, 1) := by decide +kernel
theorem d_m_decide_24 : decode prog_7_method_14_code 24 = .ok (.iload_n 1, 1) := by decide +kernel
theorem d_m_decide_25 : decode prog_7_method_14_code 25 = .ok (.iload_n 2, 1) := by decide +kernel
theorem d_m_decide_26 : decode prog_7_method_14_code 26 = .ok (.iload_n 3, 1) := by decide +kernel
theorem d_m_decide_27 : decode prog_7_method_14_code 27 = .ok (.invokevirtual 130, 3) := by decide +kernel
theorem d_m_decide_30 : decode prog_7_method_14_code 30 = .ok (.ifCond .ge 5, 3) := by decide +kernel
theorem d_m_decide_33 : decode prog_7_method_14_code 33 = .ok (.iconst 3, 1) := by decide +kernel
theorem d_m_decide_34 : decode prog_7_method_14_code 34 = .ok (.ireturn, 1) := by decide +kernel
theorem d_m_decide_35 : decode prog_7_method_14_code 35 = .ok (.aload_n 0, 1) := by decide +kernel
theorem d_m_decide_36 : decode prog_7_method_14_code 36 = .ok (.getfield 20, 3) := by decide +kernel
theorem d_m_decide_39 : decode prog_7_method_14_code 39 = .ok (.iload_n 1, 1) := by decide +kernel
theorem d_m_decide_40 : decode prog_7_method_14_code 40 = .ok (.iaload, 1) := by decide +kernel
theorem d_m_decide_41 : decode prog_7_method_14_code 41 = .ok (.ifCond .le 5, 3) := by decide +kernel
theorem d_m_decide_44 : decode prog_7_method_14_code 44 = .ok (.iconst 4, 1) := by decide +kernel
theorem d_m_decide_45 : decode prog_7_method_14_code 45 = .ok (.ireturn, 1) := by decide +kernel
theorem d_m_decide_46 : decode prog_7_method_14_code 46 = .ok (.aload_n 0, 1) := by decide +kernel
theorem d_m_decide_47 : decode prog_7_method_14_code 47 = .ok (.getfield 23, 3) := by decide +kernel
theorem d_m_decide_50 : decode prog_7_method_14_code 50 = .ok (.aload_n 0, 1) := by decide +kernel
theorem d_m_decide_51 : decode prog_7_method_14_code 51 = .ok (.getfield 7, 3) := by decide +kernel
theorem d_m_decide_54 : decode prog_7_method_14_code 54 = .ok (.iload_n 1, 1) := by decide +kernel
theorem d_m_decide_55 : decode prog_7_method_14_code 55 = .ok (.iaload, 1) := by decide +kernel
theorem d_m_decide_56 : decode prog_7_method_14_code 56 = .ok (.iaload, 1) := by decide +kernel
theorem d_m_decide_57 : decode prog_7_method_14_code 57 = .ok (.ifCond .le 7, 3) := by decide +kernel
theorem d_m_decide_60 : decode prog_7_method_14_code 60 = .ok (.iconst 5, 1) := by decide +kernel
theorem d_m_decide_61 : decode prog_7_method_14_code 61 = .ok (.goto 4, 3) := by decide +kernel
theorem d_m_decide_64 : decode prog_7_method_14_code 64 = .ok (.iconst 0, 1) := by decide +kernel
theorem d_m_decide_65 : decode prog_7_method_14_code 65 = .ok (.ireturn, 1) := by decide +kernel
theorem d_m_delete_0 : decode prog_7_method_21_code 0 = .ok (.aload_n 0, 1) := by decide +kernel
theorem d_m_delete_1 : decode prog_7_method_21_code 1 = .ok (.iconst 0, 1) := by decide +kernel
theorem d_m_delete_2 : decode prog_7_method_21_code 2 = .ok (.putfield 93, 3) := by decide +kernel
theorem d_m_delete_5 : decode prog_7_method_21_code 5 = .ok (.iload_n 1, 1) := by decide +kernel
theorem d_m_delete_6 : decode prog_7_method_21_code 6 = .ok (.iconst 0, 1) := by decide +kernel
theorem d_m_delete_7 : decode prog_7_method_21_code 7 = .ok (.aload_n 0, 1) := by decide +kernel
theorem d_m_delete_8 : decode prog_7_method_21_code 8 = .ok (.getfield 117, 3) := by decide +kernel
theorem d_m_delete_11 : decode prog_7_method_21_code 11 = .ok (.iconst 1, 1) := by decide +kernel
theorem d_m_delete_12 : decode prog_7_method_21_code 12 = .ok (.isub, 1) := by decide +kernel
theorem d_m_delete_13 : decode prog_7_method_21_code 13 = .ok (.invokestatic 99, 3) := by decide +kernel
theorem d_m_delete_16 : decode prog_7_method_21_code 16 = .ok (.ifCond .ne 5, 3) := by decide +kernel
theorem d_m_delete_19 : decode prog_7_method_21_code 19 = .ok (.iconst (-1), 1) := by decide +kernel
theorem d_m_delete_20 : decode prog_7_method_21_code 20 = .ok (.ireturn, 1) := by decide +kernel
theorem d_m_delete_21 : decode prog_7_method_21_code 21 = .ok (.aload_n 0, 1) := by decide +kernel
theorem d_m_delete_22 : decode prog_7_method_21_code 22 = .ok (.iload_n 2, 1) := by decide +kernel
theorem d_m_delete_23 : decode prog_7_method_21_code 23 = .ok (.invokevirtual 133, 3) := by decide +kernel
theorem d_m_delete_26 : decode prog_7_method_21_code 26 = .ok (.ifCond .ne 6, 3) := by decide +kernel
theorem d_m_delete_29 : decode prog_7_method_21_code 29 = .ok (.bipush (-2), 2) := by decide +kernel
theorem d_m_delete_31 : decode prog_7_method_21_code 31 = .ok (.ireturn, 1) := by decide +kernel
theorem d_m_delete_32 : decode prog_7_method_21_code 32 = .ok (.aload_n 0, 1) := by decide +kernel
theorem d_m_delete_33 : decode prog_7_method_21_code 33 = .ok (.getfield 71, 3) := by decide +kernel
theorem d_m_delete_36 : decode prog_7_method_21_code 36 = .ok (.iload_n 1, 1) := by decide +kernel
theorem d_m_delete_37 : decode prog_7_method_21_code 37 = .ok (.iaload, 1) := by decide +kernel
theorem d_m_delete_38 : decode prog_7_method_21_code 38 = .ok (.ifCond .eq 12, 3) := by decide +kernel
theorem d_m_delete_41 : decode prog_7_method_21_code 41 = .ok (.aload_n 0, 1) := by decide +kernel
theorem d_m_delete_42 : decode prog_7_method_21_code 42 = .ok (.getfield 86, 3) := by decide +kernel
theorem d_m_delete_45 : decode prog_7_method_21_code 45 = .ok (.iload_n 1, 1) := by decide +kernel
theorem d_m_delete_46 : decode prog_7_method_21_code 46 = .ok (.iaload, 1) := by decide +kernel
theorem d_m_delete_47 : decode prog_7_method_21_code 47 = .ok (.ifCond .lt 6, 3) := by decide +kernel
theorem d_m_delete_50 : decode prog_7_method_21_code 50 = .ok (.bipush (-3), 2) := by decide +kernel
theorem d_m_delete_52 : decode prog_7_method_21_code 52 = .ok (.ireturn, 1) := by decide +kernel
theorem d_m_delete_53 : decode prog_7_method_21_code 53 = .ok (.aload_n 0, 1) := by decide +kernel
theorem d_m_delete_54 : decode prog_7_method_21_code 54 = .ok (.iload_n 2, 1) := by decide +kernel
theorem d_m_delete_55 : decode prog_7_method_21_code 55 = .ok (.putfield 103, 3) := by decide +kernel
theorem d_m_delete_58 : decode prog_7_method_21_code 58 = .ok (.aload_n 0, 1) := by decide +kernel
theorem d_m_delete_59 : decode prog_7_method_21_code 59 = .ok (.getfield 86, 3) := by decide +kernel
theorem d_m_delete_62 : decode prog_7_method_21_code 62 = .ok (.iload_n 1, 1) := by decide +kernel
theorem d_m_delete_63 : decode prog_7_method_21_code 63 = .ok (.iload_n 2, 1) := by decide +kernel
theorem d_m_delete_64 : decode prog_7_method_21_code 64 = .ok (.iastore, 1) := by decide +kernel
theorem d_m_delete_65 : decode prog_7_method_21_code 65 = .ok (.iload_n 2, 1) := by decide +kernel
theorem d_m_delete_66 : decode prog_7_method_21_code 66 = .ok (.aload_n 0, 1) := by decide +kernel
theorem d_m_delete_67 : decode prog_7_method_21_code 67 = .ok (.getfield 80, 3) := by decide +kernel
theorem d_m_delete_70 : decode prog_7_method_21_code 70 = .ok (.iload_n 1, 1) := by decide +kernel
theorem d_m_delete_71 : decode prog_7_method_21_code 71 = .ok (.iaload, 1) := by decide +kernel
theorem d_m_delete_72 : decode prog_7_method_21_code 72 = .ok (.if_icmp .lt 7, 3) := by decide +kernel
theorem d_m_delete_75 : decode prog_7_method_21_code 75 = .ok (.iconst 0, 1) := by decide +kernel
theorem d_m_delete_76 : decode prog_7_method_21_code 76 = .ok (.goto 4, 3) := by decide +kernel
theorem d_m_delete_79 : decode prog_7_method_21_code 79 = .ok (.iconst 1, 1) := by decide +kernel
theorem d_m_delete_80 : decode prog_7_method_21_code 80 = .ok (.ireturn, 1) := by decide +kernel
theorem d_m_fee_0 : decode prog_7_method_10_code 0 = .ok (.aload_n 0, 1) := by decide +kernel
theorem d_m_fee_1 : decode prog_7_method_10_code 1 = .ok (.iconst 0, 1) := by decide +kernel
theorem d_m_fee_2 : decode prog_7_method_10_code 2 = .ok (.putfield 93, 3) := by decide +kernel
theorem d_m_fee_5 : decode prog_7_method_10_code 5 = .ok (.iload_n 1, 1) := by decide +kernel
theorem d_m_fee_6 : decode prog_7_method_10_code 6 = .ok (.iconst 0, 1) := by decide +kernel
theorem d_m_fee_7 : decode prog_7_method_10_code 7 = .ok (.bipush 99, 2) := by decide +kernel
theorem d_m_fee_9 : decode prog_7_method_10_code 9 = .ok (.invokestatic 99, 3) := by decide +kernel
theorem d_m_fee_12 : decode prog_7_method_10_code 12 = .ok (.ifCond .eq 14, 3) := by decide +kernel
theorem d_m_fee_15 : decode prog_7_method_10_code 15 = .ok (.iload_n 2, 1) := by decide +kernel
theorem d_m_fee_16 : decode prog_7_method_10_code 16 = .ok (.iconst 0, 1) := by decide +kernel
theorem d_m_fee_17 : decode prog_7_method_10_code 17 = .ok (.sipush 10000, 3) := by decide +kernel
theorem d_m_fee_20 : decode prog_7_method_10_code 20 = .ok (.invokestatic 99, 3) := by decide +kernel
theorem d_m_fee_23 : decode prog_7_method_10_code 23 = .ok (.ifCond .ne 6, 3) := by decide +kernel
theorem d_m_fee_26 : decode prog_7_method_10_code 26 = .ok (.bipush (-2), 2) := by decide +kernel
theorem d_m_fee_28 : decode prog_7_method_10_code 28 = .ok (.ireturn, 1) := by decide +kernel
theorem d_m_fee_29 : decode prog_7_method_10_code 29 = .ok (.aload_n 0, 1) := by decide +kernel
theorem d_m_fee_30 : decode prog_7_method_10_code 30 = .ok (.getfield 23, 3) := by decide +kernel
theorem d_m_fee_33 : decode prog_7_method_10_code 33 = .ok (.iload_n 1, 1) := by decide +kernel
theorem d_m_fee_34 : decode prog_7_method_10_code 34 = .ok (.iload_n 2, 1) := by decide +kernel
theorem d_m_fee_35 : decode prog_7_method_10_code 35 = .ok (.iastore, 1) := by decide +kernel
theorem d_m_fee_36 : decode prog_7_method_10_code 36 = .ok (.iconst 1, 1) := by decide +kernel
theorem d_m_fee_37 : decode prog_7_method_10_code 37 = .ok (.ireturn, 1) := by decide +kernel
theorem d_m_give_0 : decode prog_7_method_17_code 0 = .ok (.aload_n 0, 1) := by decide +kernel
theorem d_m_give_1 : decode prog_7_method_17_code 1 = .ok (.iconst 0, 1) := by decide +kernel
theorem d_m_give_2 : decode prog_7_method_17_code 2 = .ok (.putfield 93, 3) := by decide +kernel
theorem d_m_give_5 : decode prog_7_method_17_code 5 = .ok (.iload_n 1, 1) := by decide +kernel
theorem d_m_give_6 : decode prog_7_method_17_code 6 = .ok (.iconst 0, 1) := by decide +kernel
theorem d_m_give_7 : decode prog_7_method_17_code 7 = .ok (.bipush 99, 2) := by decide +kernel
theorem d_m_give_9 : decode prog_7_method_17_code 9 = .ok (.invokestatic 99, 3) := by decide +kernel
theorem d_m_give_12 : decode prog_7_method_17_code 12 = .ok (.ifCond .eq 13, 3) := by decide +kernel
theorem d_m_give_15 : decode prog_7_method_17_code 15 = .ok (.iload_n 2, 1) := by decide +kernel
theorem d_m_give_16 : decode prog_7_method_17_code 16 = .ok (.iconst 1, 1) := by decide +kernel
theorem d_m_give_17 : decode prog_7_method_17_code 17 = .ok (.bipush 9, 2) := by decide +kernel
theorem d_m_give_19 : decode prog_7_method_17_code 19 = .ok (.invokestatic 99, 3) := by decide +kernel
theorem d_m_give_22 : decode prog_7_method_17_code 22 = .ok (.ifCond .ne 6, 3) := by decide +kernel
theorem d_m_give_25 : decode prog_7_method_17_code 25 = .ok (.bipush (-2), 2) := by decide +kernel
theorem d_m_give_27 : decode prog_7_method_17_code 27 = .ok (.ireturn, 1) := by decide +kernel
theorem d_m_give_28 : decode prog_7_method_17_code 28 = .ok (.aload_n 0, 1) := by decide +kernel
theorem d_m_give_29 : decode prog_7_method_17_code 29 = .ok (.getfield 26, 3) := by decide +kernel
theorem d_m_give_32 : decode prog_7_method_17_code 32 = .ok (.bipush 10, 2) := by decide +kernel
theorem d_m_give_34 : decode prog_7_method_17_code 34 = .ok (.iload_n 1, 1) := by decide +kernel
theorem d_m_give_35 : decode prog_7_method_17_code 35 = .ok (.imul, 1) := by decide +kernel
theorem d_m_give_36 : decode prog_7_method_17_code 36 = .ok (.iload_n 2, 1) := by decide +kernel
theorem d_m_give_37 : decode prog_7_method_17_code 37 = .ok (.iadd, 1) := by decide +kernel
theorem d_m_give_38 : decode prog_7_method_17_code 38 = .ok (.iload_n 3, 1) := by decide +kernel
theorem d_m_give_39 : decode prog_7_method_17_code 39 = .ok (.bastore, 1) := by decide +kernel
theorem d_m_give_40 : decode prog_7_method_17_code 40 = .ok (.iconst 1, 1) := by decide +kernel
theorem d_m_give_41 : decode prog_7_method_17_code 41 = .ok (.ireturn, 1) := by decide +kernel
theorem d_m_in_0 : decode prog_7_method_3_code 0 = .ok (.iload_n 0, 1) := by decide +kernel
theorem d_m_in_1 : decode prog_7_method_3_code 1 = .ok (.iload_n 1, 1) := by decide +kernel
theorem d_m_in_2 : decode prog_7_method_3_code 2 = .ok (.if_icmp .lt 12, 3) := by decide +kernel
theorem d_m_in_5 : decode prog_7_method_3_code 5 = .ok (.iload_n 0, 1) := by decide +kernel
theorem d_m_in_6 : decode prog_7_method_3_code 6 = .ok (.iload_n 2, 1) := by decide +kernel
theorem d_m_in_7 : decode prog_7_method_3_code 7 = .ok (.if_icmp .gt 7, 3) := by decide +kernel
theorem d_m_in_10 : decode prog_7_method_3_code 10 = .ok (.iconst 1, 1) := by decide +kernel
theorem d_m_in_11 : decode prog_7_method_3_code 11 = .ok (.goto 4, 3) := by decide +kernel
theorem d_m_in_14 : decode prog_7_method_3_code 14 = .ok (.iconst 0, 1) := by decide +kernel
theorem d_m_in_15 : decode prog_7_method_3_code 15 = .ok (.ireturn, 1) := by decide +kernel
theorem d_m_isNow_0 : decode prog_7_method_5_code 0 = .ok (.iload_n 1, 1) := by decide +kernel
theorem d_m_isNow_1 : decode prog_7_method_5_code 1 = .ok (.aload_n 0, 1) := by decide +kernel
theorem d_m_isNow_2 : decode prog_7_method_5_code 2 = .ok (.getfield 103, 3) := by decide +kernel
theorem d_m_isNow_5 : decode prog_7_method_5_code 5 = .ok (.ldc 106, 2) := by decide +kernel
theorem d_m_isNow_7 : decode prog_7_method_5_code 7 = .ok (.invokestatic 99, 3) := by decide +kernel
theorem d_m_isNow_10 : decode prog_7_method_5_code 10 = .ok (.ireturn, 1) := by decide +kernel
theorem d_m_isTitle_0 : decode prog_7_method_4_code 0 = .ok (.iload_n 1, 1) := by decide +kernel
theorem d_m_isTitle_1 : decode prog_7_method_4_code 1 = .ok (.iconst 0, 1) := by decide +kernel
theorem d_m_isTitle_2 : decode prog_7_method_4_code 2 = .ok (.aload_n 0, 1) := by decide +kernel
theorem d_m_isTitle_3 : decode prog_7_method_4_code 3 = .ok (.getfield 96, 3) := by decide +kernel
theorem d_m_isTitle_6 : decode prog_7_method_4_code 6 = .ok (.iconst 1, 1) := by decide +kernel
theorem d_m_isTitle_7 : decode prog_7_method_4_code 7 = .ok (.isub, 1) := by decide +kernel
theorem d_m_isTitle_8 : decode prog_7_method_4_code 8 = .ok (.invokestatic 99, 3) := by decide +kernel
theorem d_m_isTitle_11 : decode prog_7_method_4_code 11 = .ok (.ireturn, 1) := by decide +kernel
theorem d_m_left_0 : decode prog_7_method_25_code 0 = .ok (.aload_n 0, 1) := by decide +kernel
theorem d_m_left_1 : decode prog_7_method_25_code 1 = .ok (.iconst 0, 1) := by decide +kernel
theorem d_m_left_2 : decode prog_7_method_25_code 2 = .ok (.putfield 93, 3) := by decide +kernel
theorem d_m_left_5 : decode prog_7_method_25_code 5 = .ok (.iload_n 1, 1) := by decide +kernel
theorem d_m_left_6 : decode prog_7_method_25_code 6 = .ok (.iconst 0, 1) := by decide +kernel
theorem d_m_left_7 : decode prog_7_method_25_code 7 = .ok (.aload_n 0, 1) := by decide +kernel
theorem d_m_left_8 : decode prog_7_method_25_code 8 = .ok (.getfield 114, 3) := by decide +kernel
theorem d_m_left_11 : decode prog_7_method_25_code 11 = .ok (.iconst 1, 1) := by decide +kernel
theorem d_m_left_12 : decode prog_7_method_25_code 12 = .ok (.isub, 1) := by decide +kernel
theorem d_m_left_13 : decode prog_7_method_25_code 13 = .ok (.invokestatic 99, 3) := by decide +kernel
theorem d_m_left_16 : decode prog_7_method_25_code 16 = .ok (.ifCond .eq 12, 3) := by decide +kernel
theorem d_m_left_19 : decode prog_7_method_25_code 19 = .ok (.aload_n 0, 1) := by decide +kernel
theorem d_m_left_20 : decode prog_7_method_25_code 20 = .ok (.getfield 47, 3) := by decide +kernel
theorem d_m_left_23 : decode prog_7_method_25_code 23 = .ok (.iload_n 1, 1) := by decide +kernel
theorem d_m_left_24 : decode prog_7_method_25_code 24 = .ok (.iaload, 1) := by decide +kernel
theorem d_m_left_25 : decode prog_7_method_25_code 25 = .ok (.goto 4, 3) := by decide +kernel
theorem d_m_left_28 : decode prog_7_method_25_code 28 = .ok (.iconst (-1), 1) := by decide +kernel
theorem d_m_left_29 : decode prog_7_method_25_code 29 = .ok (.ireturn, 1) := by decide +kernel
theorem d_m_licence_0 : decode prog_7_method_9_code 0 = .ok (.aload_n 0, 1) := by decide +kernel
theorem d_m_licence_1 : decode prog_7_method_9_code 1 = .ok (.iconst 0, 1) := by decide +kernel
theorem d_m_licence_2 : decode prog_7_method_9_code 2 = .ok (.putfield 93, 3) := by decide +kernel
theorem d_m_licence_5 : decode prog_7_method_9_code 5 = .ok (.aload_n 0, 1) := by decide +kernel
theorem d_m_licence_6 : decode prog_7_method_9_code 6 = .ok (.iload_n 1, 1) := by decide +kernel
theorem d_m_licence_7 : decode prog_7_method_9_code 7 = .ok (.invokevirtual 107, 3) := by decide +kernel
theorem d_m_licence_10 : decode prog_7_method_9_code 10 = .ok (.ifCond .ne 5, 3) := by decide +kernel
theorem d_m_licence_13 : decode prog_7_method_9_code 13 = .ok (.iconst (-1), 1) := by decide +kernel
theorem d_m_licence_14 : decode prog_7_method_9_code 14 = .ok (.ireturn, 1) := by decide +kernel
theorem d_m_licence_15 : decode prog_7_method_9_code 15 = .ok (.iload_n 2, 1) := by decide +kernel
theorem d_m_licence_16 : decode prog_7_method_9_code 16 = .ok (.iconst 0, 1) := by decide +kernel
theorem d_m_licence_17 : decode prog_7_method_9_code 17 = .ok (.iconst 1, 1) := by decide +kernel
theorem d_m_licence_18 : decode prog_7_method_9_code 18 = .ok (.invokestatic 99, 3) := by decide +kernel
theorem d_m_licence_21 : decode prog_7_method_9_code 21 = .ok (.ifCond .eq 37, 3) := by decide +kernel
theorem d_m_licence_24 : decode prog_7_method_9_code 24 = .ok (.iload_n 3, 1) := by decide +kernel
theorem d_m_licence_25 : decode prog_7_method_9_code 25 = .ok (.iconst 0, 1) := by decide +kernel
theorem d_m_licence_26 : decode prog_7_method_9_code 26 = .ok (.sipush 1000, 3) := by decide +kernel
theorem d_m_licence_29 : decode prog_7_method_9_code 29 = .ok (.invokestatic 99, 3) := by decide +kernel
theorem d_m_licence_32 : decode prog_7_method_9_code 32 = .ok (.ifCond .eq 26, 3) := by decide +kernel
theorem d_m_licence_35 : decode prog_7_method_9_code 35 = .ok (.iload 4, 2) := by decide +kernel
theorem d_m_licence_37 : decode prog_7_method_9_code 37 = .ok (.iconst 0, 1) := by decide +kernel
theorem d_m_licence_38 : decode prog_7_method_9_code 38 = .ok (.ldc 106, 2) := by decide +kernel
theorem d_m_licence_40 : decode prog_7_method_9_code 40 = .ok (.invokestatic 99, 3) := by decide +kernel
theorem d_m_licence_43 : decode prog_7_method_9_code 43 = .ok (.ifCond .eq 15, 3) := by decide +kernel
theorem d_m_licence_46 : decode prog_7_method_9_code 46 = .ok (.iload 5, 2) := by decide +kernel
theorem d_m_licence_48 : decode prog_7_method_9_code 48 = .ok (.iload 4, 2) := by decide +kernel
theorem d_m_licence_50 : decode prog_7_method_9_code 50 = .ok (.ldc 106, 2) := by decide +kernel
theorem d_m_licence_52 : decode prog_7_method_9_code 52 = .ok (.invokestatic 99, 3) := by decide +kernel
theorem d_m_licence_55 : decode prog_7_method_9_code 55 = .ok (.ifCond .ne 6, 3) := by decide +kernel
theorem d_m_licence_58 : decode prog_7_method_9_code 58 = .ok (.bipush (-2), 2) := by decide +kernel
theorem d_m_licence_60 : decode prog_7_method_9_code 60 = .ok (.ireturn, 1) := by decide +kernel
theorem d_m_licence_61 : decode prog_7_method_9_code 61 = .ok (.aload_n 0, 1) := by decide +kernel
theorem d_m_licence_62 : decode prog_7_method_9_code 62 = .ok (.getfield 114, 3) := by decide +kernel
theorem d_m_licence_65 : decode prog_7_method_9_code 65 = .ok (.bipush 50, 2) := by decide +kernel
theorem d_m_licence_67 : decode prog_7_method_9_code 67 = .ok (.if_icmp .ne 6, 3) := by decide +kernel
theorem d_m_licence_70 : decode prog_7_method_9_code 70 = .ok (.bipush (-4), 2) := by decide +kernel
theorem d_m_licence_72 : decode prog_7_method_9_code 72 = .ok (.ireturn, 1) := by decide +kernel
theorem d_m_licence_73 : decode prog_7_method_9_code 73 = .ok (.aload_n 0, 1) := by decide +kernel
theorem d_m_licence_74 : decode prog_7_method_9_code 74 = .ok (.getfield 41, 3) := by decide +kernel
theorem d_m_licence_77 : decode prog_7_method_9_code 77 = .ok (.aload_n 0, 1) := by decide +kernel
theorem d_m_licence_78 : decode prog_7_method_9_code 78 = .ok (.getfield 114, 3) := by decide +kernel
theorem d_m_licence_81 : decode prog_7_method_9_code 81 = .ok (.iload_n 1, 1) := by decide +kernel
theorem d_m_licence_82 : decode prog_7_method_9_code 82 = .ok (.iastore, 1) := by decide +kernel
theorem d_m_licence_83 : decode prog_7_method_9_code 83 = .ok (.aload_n 0, 1) := by decide +kernel
theorem d_m_licence_84 : decode prog_7_method_9_code 84 = .ok (.getfield 44, 3) := by decide +kernel
theorem d_m_licence_87 : decode prog_7_method_9_code 87 = .ok (.aload_n 0, 1) := by decide +kernel
theorem d_m_licence_88 : decode prog_7_method_9_code 88 = .ok (.getfield 114, 3) := by decide +kernel
theorem d_m_licence_91 : decode prog_7_method_9_code 91 = .ok (.iload_n 2, 1) := by decide +kernel
theorem d_m_licence_92 : decode prog_7_method_9_code 92 = .ok (.iastore, 1) := by decide +kernel
theorem d_m_licence_93 : decode prog_7_method_9_code 93 = .ok (.aload_n 0, 1) := by decide +kernel
theorem d_m_licence_94 : decode prog_7_method_9_code 94 = .ok (.getfield 47, 3) := by decide +kernel
theorem d_m_licence_97 : decode prog_7_method_9_code 97 = .ok (.aload_n 0, 1) := by decide +kernel
theorem d_m_licence_98 : decode prog_7_method_9_code 98 = .ok (.getfield 114, 3) := by decide +kernel
theorem d_m_licence_101 : decode prog_7_method_9_code 101 = .ok (.iload_n 3, 1) := by decide +kernel
theorem d_m_licence_102 : decode prog_7_method_9_code 102 = .ok (.iastore, 1) := by decide +kernel
theorem d_m_licence_103 : decode prog_7_method_9_code 103 = .ok (.aload_n 0, 1) := by decide +kernel
theorem d_m_licence_104 : decode prog_7_method_9_code 104 = .ok (.getfield 50, 3) := by decide +kernel
theorem d_m_licence_107 : decode prog_7_method_9_code 107 = .ok (.aload_n 0, 1) := by decide +kernel
theorem d_m_licence_108 : decode prog_7_method_9_code 108 = .ok (.getfield 114, 3) := by decide +kernel
theorem d_m_licence_111 : decode prog_7_method_9_code 111 = .ok (.iload 4, 2) := by decide +kernel
theorem d_m_licence_113 : decode prog_7_method_9_code 113 = .ok (.iastore, 1) := by decide +kernel
theorem d_m_licence_114 : decode prog_7_method_9_code 114 = .ok (.aload_n 0, 1) := by decide +kernel
theorem d_m_licence_115 : decode prog_7_method_9_code 115 = .ok (.getfield 53, 3) := by decide +kernel
theorem d_m_licence_118 : decode prog_7_method_9_code 118 = .ok (.aload_n 0, 1) := by decide +kernel
theorem d_m_licence_119 : decode prog_7_method_9_code 119 = .ok (.getfield 114, 3) := by decide +kernel
theorem d_m_licence_122 : decode prog_7_method_9_code 122 = .ok (.iload 5, 2) := by decide +kernel
theorem d_m_licence_124 : decode prog_7_method_9_code 124 = .ok (.iastore, 1) := by decide +kernel
theorem d_m_licence_125 : decode prog_7_method_9_code 125 = .ok (.aload_n 0, 1) := by decide +kernel
theorem d_m_licence_126 : decode prog_7_method_9_code 126 = .ok (.dup, 1) := by decide +kernel
theorem d_m_licence_127 : decode prog_7_method_9_code 127 = .ok (.getfield 114, 3) := by decide +kernel
theorem d_m_licence_130 : decode prog_7_method_9_code 130 = .ok (.iconst 1, 1) := by decide +kernel
theorem d_m_licence_131 : decode prog_7_method_9_code 131 = .ok (.iadd, 1) := by decide +kernel
theorem d_m_licence_132 : decode prog_7_method_9_code 132 = .ok (.putfield 114, 3) := by decide +kernel
theorem d_m_licence_135 : decode prog_7_method_9_code 135 = .ok (.aload_n 0, 1) := by decide +kernel
theorem d_m_licence_136 : decode prog_7_method_9_code 136 = .ok (.getfield 114, 3) := by decide +kernel
theorem d_m_licence_139 : decode prog_7_method_9_code 139 = .ok (.iconst 1, 1) := by decide +kernel
theorem d_m_licence_140 : decode prog_7_method_9_code 140 = .ok (.isub, 1) := by decide +kernel
theorem d_m_licence_141 : decode prog_7_method_9_code 141 = .ok (.ireturn, 1) := by decide +kernel
theorem d_m_licenceFor_0 : decode prog_7_method_13_code 0 = .ok (.iconst 0, 1) := by decide +kernel
theorem d_m_licenceFor_1 : decode prog_7_method_13_code 1 = .ok (.istore 4, 2) := by decide +kernel
theorem d_m_licenceFor_3 : decode prog_7_method_13_code 3 = .ok (.iload 4, 2) := by decide +kernel
theorem d_m_licenceFor_5 : decode prog_7_method_13_code 5 = .ok (.aload_n 0, 1) := by decide +kernel
theorem d_m_licenceFor_6 : decode prog_7_method_13_code 6 = .ok (.getfield 114, 3) := by decide +kernel
theorem d_m_licenceFor_9 : decode prog_7_method_13_code 9 = .ok (.if_icmp .ge 65, 3) := by decide +kernel
theorem d_m_licenceFor_12 : decode prog_7_method_13_code 12 = .ok (.aload_n 0, 1) := by decide +kernel
theorem d_m_licenceFor_13 : decode prog_7_method_13_code 13 = .ok (.getfield 41, 3) := by decide +kernel
theorem d_m_licenceFor_16 : decode prog_7_method_13_code 16 = .ok (.iload 4, 2) := by decide +kernel
theorem d_m_licenceFor_18 : decode prog_7_method_13_code 18 = .ok (.iaload, 1) := by decide +kernel
theorem d_m_licenceFor_19 : decode prog_7_method_13_code 19 = .ok (.iload_n 1, 1) := by decide +kernel
theorem d_m_licenceFor_20 : decode prog_7_method_13_code 20 = .ok (.if_icmp .ne 48, 3) := by decide +kernel
theorem d_m_licenceFor_23 : decode prog_7_method_13_code 23 = .ok (.aload_n 0, 1) := by decide +kernel
theorem d_m_licenceFor_24 : decode prog_7_method_13_code 24 = .ok (.getfield 44, 3) := by decide +kernel
theorem d_m_licenceFor_27 : decode prog_7_method_13_code 27 = .ok (.iload 4, 2) := by decide +kernel
theorem d_m_licenceFor_29 : decode prog_7_method_13_code 29 = .ok (.iaload, 1) := by decide +kernel
theorem d_m_licenceFor_30 : decode prog_7_method_13_code 30 = .ok (.iload_n 2, 1) := by decide +kernel
theorem d_m_licenceFor_31 : decode prog_7_method_13_code 31 = .ok (.if_icmp .ne 37, 3) := by decide +kernel
theorem d_m_licenceFor_34 : decode prog_7_method_13_code 34 = .ok (.iload_n 3, 1) := by decide +kernel
theorem d_m_licenceFor_35 : decode prog_7_method_13_code 35 = .ok (.aload_n 0, 1) := by decide +kernel
theorem d_m_licenceFor_36 : decode prog_7_method_13_code 36 = .ok (.getfield 50, 3) := by decide +kernel
theorem d_m_licenceFor_39 : decode prog_7_method_13_code 39 = .ok (.iload 4, 2) := by decide +kernel
theorem d_m_licenceFor_41 : decode prog_7_method_13_code 41 = .ok (.iaload, 1) := by decide +kernel
theorem d_m_licenceFor_42 : decode prog_7_method_13_code 42 = .ok (.aload_n 0, 1) := by decide +kernel
theorem d_m_licenceFor_43 : decode prog_7_method_13_code 43 = .ok (.getfield 53, 3) := by decide +kernel
theorem d_m_licenceFor_46 : decode prog_7_method_13_code 46 = .ok (.iload 4, 2) := by decide +kernel
theorem d_m_licenceFor_48 : decode prog_7_method_13_code 48 = .ok (.iaload, 1) := by decide +kernel
theorem d_m_licenceFor_49 : decode prog_7_method_13_code 49 = .ok (.invokestatic 99, 3) := by decide +kernel
theorem d_m_licenceFor_52 : decode prog_7_method_13_code 52 = .ok (.ifCond .eq 16, 3) := by decide +kernel
theorem d_m_licenceFor_55 : decode prog_7_method_13_code 55 = .ok (.aload_n 0, 1) := by decide +kernel
theorem d_m_licenceFor_56 : decode prog_7_method_13_code 56 = .ok (.getfield 47, 3) := by decide +kernel
theorem d_m_licenceFor_59 : decode prog_7_method_13_code 59 = .ok (.iload 4, 2) := by decide +kernel
theorem d_m_licenceFor_61 : decode prog_7_method_13_code 61 = .ok (.iaload, 1) := by decide +kernel
theorem d_m_licenceFor_62 : decode prog_7_method_13_code 62 = .ok (.ifCond .le 6, 3) := by decide +kernel
theorem d_m_licenceFor_65 : decode prog_7_method_13_code 65 = .ok (.iload 4, 2) := by decide +kernel
theorem d_m_licenceFor_67 : decode prog_7_method_13_code 67 = .ok (.ireturn, 1) := by decide +kernel
theorem d_m_licenceFor_68 : decode prog_7_method_13_code 68 = .ok (.iinc 4 1, 3) := by decide +kernel
theorem d_m_licenceFor_71 : decode prog_7_method_13_code 71 = .ok (.goto (-68), 3) := by decide +kernel
theorem d_m_licenceFor_74 : decode prog_7_method_13_code 74 = .ok (.iconst (-1), 1) := by decide +kernel
theorem d_m_licenceFor_75 : decode prog_7_method_13_code 75 = .ok (.ireturn, 1) := by decide +kernel
theorem d_m_limit_0 : decode prog_7_method_8_code 0 = .ok (.aload_n 0, 1) := by decide +kernel
theorem d_m_limit_1 : decode prog_7_method_8_code 1 = .ok (.iconst 0, 1) := by decide +kernel
theorem d_m_limit_2 : decode prog_7_method_8_code 2 = .ok (.putfield 93, 3) := by decide +kernel
theorem d_m_limit_5 : decode prog_7_method_8_code 5 = .ok (.aload_n 0, 1) := by decide +kernel
theorem d_m_limit_6 : decode prog_7_method_8_code 6 = .ok (.iload_n 1, 1) := by decide +kernel
theorem d_m_limit_7 : decode prog_7_method_8_code 7 = .ok (.invokevirtual 107, 3) := by decide +kernel
theorem d_m_limit_10 : decode prog_7_method_8_code 10 = .ok (.ifCond .ne 5, 3) := by decide +kernel
theorem d_m_limit_13 : decode prog_7_method_8_code 13 = .ok (.iconst (-1), 1) := by decide +kernel
theorem d_m_limit_14 : decode prog_7_method_8_code 14 = .ok (.ireturn, 1) := by decide +kernel
theorem d_m_limit_15 : decode prog_7_method_8_code 15 = .ok (.iload_n 2, 1) := by decide +kernel
theorem d_m_limit_16 : decode prog_7_method_8_code 16 = .ok (.iconst 0, 1) := by decide +kernel
theorem d_m_limit_17 : decode prog_7_method_8_code 17 = .ok (.iconst 1, 1) := by decide +kernel
theorem d_m_limit_18 : decode prog_7_method_8_code 18 = .ok (.invokestatic 99, 3) := by decide +kernel
theorem d_m_limit_21 : decode prog_7_method_8_code 21 = .ok (.ifCond .eq 26, 3) := by decide +kernel
theorem d_m_limit_24 : decode prog_7_method_8_code 24 = .ok (.iload_n 3, 1) := by decide +kernel
theorem d_m_limit_25 : decode prog_7_method_8_code 25 = .ok (.iconst 1, 1) := by decide +kernel
theorem d_m_limit_26 : decode prog_7_method_8_code 26 = .ok (.sipush 5000, 3) := by decide +kernel
theorem d_m_limit_29 : decode prog_7_method_8_code 29 = .ok (.invokestatic 99, 3) := by decide +kernel
theorem d_m_limit_32 : decode prog_7_method_8_code 32 = .ok (.ifCond .eq 15, 3) := by decide +kernel
theorem d_m_limit_35 : decode prog_7_method_8_code 35 = .ok (.iload 4, 2) := by decide +kernel
theorem d_m_limit_37 : decode prog_7_method_8_code 37 = .ok (.iconst 0, 1) := by decide +kernel
theorem d_m_limit_38 : decode prog_7_method_8_code 38 = .ok (.sipush 1000, 3) := by decide +kernel
theorem d_m_limit_41 : decode prog_7_method_8_code 41 = .ok (.invokestatic 99, 3) := by decide +kernel
theorem d_m_limit_44 : decode prog_7_method_8_code 44 = .ok (.ifCond .ne 6, 3) := by decide +kernel
theorem d_m_limit_47 : decode prog_7_method_8_code 47 = .ok (.bipush (-2), 2) := by decide +kernel
theorem d_m_limit_49 : decode prog_7_method_8_code 49 = .ok (.ireturn, 1) := by decide +kernel
theorem d_m_limit_50 : decode prog_7_method_8_code 50 = .ok (.aload_n 0, 1) := by decide +kernel
theorem d_m_limit_51 : decode prog_7_method_8_code 51 = .ok (.getfield 111, 3) := by decide +kernel
theorem d_m_limit_54 : decode prog_7_method_8_code 54 = .ok (.bipush 100, 2) := by decide +kernel
theorem d_m_limit_56 : decode prog_7_method_8_code 56 = .ok (.if_icmp .ne 6, 3) := by decide +kernel
theorem d_m_limit_59 : decode prog_7_method_8_code 59 = .ok (.bipush (-4), 2) := by decide +kernel
theorem d_m_limit_61 : decode prog_7_method_8_code 61 = .ok (.ireturn, 1) := by decide +kernel
theorem d_m_limit_62 : decode prog_7_method_8_code 62 = .ok (.aload_n 0, 1) := by decide +kernel
theorem d_m_limit_63 : decode prog_7_method_8_code 63 = .ok (.getfield 29, 3) := by decide +kernel
theorem d_m_limit_66 : decode prog_7_method_8_code 66 = .ok (.aload_n 0, 1) := by decide +kernel
theorem d_m_limit_67 : decode prog_7_method_8_code 67 = .ok (.getfield 111, 3) := by decide +kernel
theorem d_m_limit_70 : decode prog_7_method_8_code 70 = .ok (.iload_n 1, 1) := by decide +kernel
theorem d_m_limit_71 : decode prog_7_method_8_code 71 = .ok (.iastore, 1) := by decide +kernel
theorem d_m_limit_72 : decode prog_7_method_8_code 72 = .ok (.aload_n 0, 1) := by decide +kernel
theorem d_m_limit_73 : decode prog_7_method_8_code 73 = .ok (.getfield 32, 3) := by decide +kernel
theorem d_m_limit_76 : decode prog_7_method_8_code 76 = .ok (.aload_n 0, 1) := by decide +kernel
theorem d_m_limit_77 : decode prog_7_method_8_code 77 = .ok (.getfield 111, 3) := by decide +kernel
theorem d_m_limit_80 : decode prog_7_method_8_code 80 = .ok (.iload_n 2, 1) := by decide +kernel
theorem d_m_limit_81 : decode prog_7_method_8_code 81 = .ok (.iastore, 1) := by decide +kernel
theorem d_m_limit_82 : decode prog_7_method_8_code 82 = .ok (.aload_n 0, 1) := by decide +kernel
theorem d_m_limit_83 : decode prog_7_method_8_code 83 = .ok (.getfield 35, 3) := by decide +kernel
theorem d_m_limit_86 : decode prog_7_method_8_code 86 = .ok (.aload_n 0, 1) := by decide +kernel
theorem d_m_limit_87 : decode prog_7_method_8_code 87 = .ok (.getfield 111, 3) := by decide +kernel
theorem d_m_limit_90 : decode prog_7_method_8_code 90 = .ok (.iload_n 3, 1) := by decide +kernel
theorem d_m_limit_91 : decode prog_7_method_8_code 91 = .ok (.iastore, 1) := by decide +kernel
theorem d_m_limit_92 : decode prog_7_method_8_code 92 = .ok (.aload_n 0, 1) := by decide +kernel
theorem d_m_limit_93 : decode prog_7_method_8_code 93 = .ok (.getfield 38, 3) := by decide +kernel
theorem d_m_limit_96 : decode prog_7_method_8_code 96 = .ok (.aload_n 0, 1) := by decide +kernel
theorem d_m_limit_97 : decode prog_7_method_8_code 97 = .ok (.getfield 111, 3) := by decide +kernel
theorem d_m_limit_100 : decode prog_7_method_8_code 100 = .ok (.iload 4, 2) := by decide +kernel
theorem d_m_limit_102 : decode prog_7_method_8_code 102 = .ok (.iastore, 1) := by decide +kernel
theorem d_m_limit_103 : decode prog_7_method_8_code 103 = .ok (.aload_n 0, 1) := by decide +kernel
theorem d_m_limit_104 : decode prog_7_method_8_code 104 = .ok (.dup, 1) := by decide +kernel
theorem d_m_limit_105 : decode prog_7_method_8_code 105 = .ok (.getfield 111, 3) := by decide +kernel
theorem d_m_limit_108 : decode prog_7_method_8_code 108 = .ok (.iconst 1, 1) := by decide +kernel
theorem d_m_limit_109 : decode prog_7_method_8_code 109 = .ok (.iadd, 1) := by decide +kernel
theorem d_m_limit_110 : decode prog_7_method_8_code 110 = .ok (.putfield 111, 3) := by decide +kernel
theorem d_m_limit_113 : decode prog_7_method_8_code 113 = .ok (.aload_n 0, 1) := by decide +kernel
theorem d_m_limit_114 : decode prog_7_method_8_code 114 = .ok (.getfield 111, 3) := by decide +kernel
theorem d_m_limit_117 : decode prog_7_method_8_code 117 = .ok (.iconst 1, 1) := by decide +kernel
theorem d_m_limit_118 : decode prog_7_method_8_code 118 = .ok (.isub, 1) := by decide +kernel
theorem d_m_limit_119 : decode prog_7_method_8_code 119 = .ok (.ireturn, 1) := by decide +kernel
theorem d_m_open_0 : decode prog_7_method_7_code 0 = .ok (.aload_n 0, 1) := by decide +kernel
theorem d_m_open_1 : decode prog_7_method_7_code 1 = .ok (.iconst 0, 1) := by decide +kernel
theorem d_m_open_2 : decode prog_7_method_7_code 2 = .ok (.putfield 93, 3) := by decide +kernel
theorem d_m_open_5 : decode prog_7_method_7_code 5 = .ok (.aload_n 0, 1) := by decide +kernel
theorem d_m_open_6 : decode prog_7_method_7_code 6 = .ok (.iload_n 1, 1) := by decide +kernel
theorem d_m_open_7 : decode prog_7_method_7_code 7 = .ok (.invokevirtual 107, 3) := by decide +kernel
theorem d_m_open_10 : decode prog_7_method_7_code 10 = .ok (.ifCond .ne 5, 3) := by decide +kernel
theorem d_m_open_13 : decode prog_7_method_7_code 13 = .ok (.iconst (-1), 1) := by decide +kernel
theorem d_m_open_14 : decode prog_7_method_7_code 14 = .ok (.ireturn, 1) := by decide +kernel
theorem d_m_open_15 : decode prog_7_method_7_code 15 = .ok (.aload_n 0, 1) := by decide +kernel
theorem d_m_open_16 : decode prog_7_method_7_code 16 = .ok (.getfield 13, 3) := by decide +kernel
theorem d_m_open_19 : decode prog_7_method_7_code 19 = .ok (.iload_n 1, 1) := by decide +kernel
theorem d_m_open_20 : decode prog_7_method_7_code 20 = .ok (.iload_n 2, 1) := by decide +kernel
theorem d_m_open_21 : decode prog_7_method_7_code 21 = .ok (.bastore, 1) := by decide +kernel
theorem d_m_open_22 : decode prog_7_method_7_code 22 = .ok (.iconst 1, 1) := by decide +kernel
theorem d_m_open_23 : decode prog_7_method_7_code 23 = .ok (.ireturn, 1) := by decide +kernel
theorem d_m_past_0 : decode prog_7_method_27_code 0 = .ok (.iload_n 2, 1) := by decide +kernel
theorem d_m_past_1 : decode prog_7_method_27_code 1 = .ok (.istore_n 3, 1) := by decide +kernel
theorem d_m_past_2 : decode prog_7_method_27_code 2 = .ok (.iconst 0, 1) := by decide +kernel
theorem d_m_past_3 : decode prog_7_method_27_code 3 = .ok (.istore 4, 2) := by decide +kernel
theorem d_m_past_5 : decode prog_7_method_27_code 5 = .ok (.iload 4, 2) := by decide +kernel
theorem d_m_past_7 : decode prog_7_method_27_code 7 = .ok (.aload_n 0, 1) := by decide +kernel
theorem d_m_past_8 : decode prog_7_method_27_code 8 = .ok (.getfield 117, 3) := by decide +kernel
theorem d_m_past_11 : decode prog_7_method_27_code 11 = .ok (.if_icmp .ge 58, 3) := by decide +kernel
theorem d_m_past_14 : decode prog_7_method_27_code 14 = .ok (.aload_n 0, 1) := by decide +kernel
theorem d_m_past_15 : decode prog_7_method_27_code 15 = .ok (.getfield 71, 3) := by decide +kernel
theorem d_m_past_18 : decode prog_7_method_27_code 18 = .ok (.iload 4, 2) := by decide +kernel
theorem d_m_past_20 : decode prog_7_method_27_code 20 = .ok (.iaload, 1) := by decide +kernel
theorem d_m_past_21 : decode prog_7_method_27_code 21 = .ok (.ifCond .eq 42, 3) := by decide +kernel
theorem d_m_past_24 : decode prog_7_method_27_code 24 = .ok (.aload_n 0, 1) := by decide +kernel
theorem d_m_past_25 : decode prog_7_method_27_code 25 = .ok (.getfield 86, 3) := by decide +kernel
theorem d_m_past_28 : decode prog_7_method_27_code 28 = .ok (.iload 4, 2) := by decide +kernel
theorem d_m_past_30 : decode prog_7_method_27_code 30 = .ok (.iaload, 1) := by decide +kernel
theorem d_m_past_31 : decode prog_7_method_27_code 31 = .ok (.ifCond .ge 32, 3) := by decide +kernel
theorem d_m_past_34 : decode prog_7_method_27_code 34 = .ok (.aload_n 0, 1) := by decide +kernel
theorem d_m_past_35 : decode prog_7_method_27_code 35 = .ok (.getfield 80, 3) := by decide +kernel
theorem d_m_past_38 : decode prog_7_method_27_code 38 = .ok (.iload 4, 2) := by decide +kernel
theorem d_m_past_40 : decode prog_7_method_27_code 40 = .ok (.iaload, 1) := by decide +kernel
theorem d_m_past_41 : decode prog_7_method_27_code 41 = .ok (.iload_n 1, 1) := by decide +kernel
theorem d_m_past_42 : decode prog_7_method_27_code 42 = .ok (.if_icmp .le 6, 3) := by decide +kernel
theorem d_m_past_45 : decode prog_7_method_27_code 45 = .ok (.goto 18, 3) := by decide +kernel
theorem d_m_past_48 : decode prog_7_method_27_code 48 = .ok (.iload_n 3, 1) := by decide +kernel
theorem d_m_past_49 : decode prog_7_method_27_code 49 = .ok (.ifCond .ne 11, 3) := by decide +kernel
theorem d_m_past_52 : decode prog_7_method_27_code 52 = .ok (.aload_n 0, 1) := by decide +kernel
theorem d_m_past_53 : decode prog_7_method_27_code 53 = .ok (.iconst 0, 1) := by decide +kernel
theorem d_m_past_54 : decode prog_7_method_27_code 54 = .ok (.putfield 93, 3) := by decide +kernel
theorem d_m_past_57 : decode prog_7_method_27_code 57 = .ok (.iload 4, 2) := by decide +kernel
theorem d_m_past_59 : decode prog_7_method_27_code 59 = .ok (.ireturn, 1) := by decide +kernel
theorem d_m_past_60 : decode prog_7_method_27_code 60 = .ok (.iinc 3 (-1), 3) := by decide +kernel
theorem d_m_past_63 : decode prog_7_method_27_code 63 = .ok (.iinc 4 1, 3) := by decide +kernel
theorem d_m_past_66 : decode prog_7_method_27_code 66 = .ok (.goto (-61), 3) := by decide +kernel
theorem d_m_past_69 : decode prog_7_method_27_code 69 = .ok (.aload_n 0, 1) := by decide +kernel
theorem d_m_past_70 : decode prog_7_method_27_code 70 = .ok (.iconst 1, 1) := by decide +kernel
theorem d_m_past_71 : decode prog_7_method_27_code 71 = .ok (.putfield 93, 3) := by decide +kernel
theorem d_m_past_74 : decode prog_7_method_27_code 74 = .ok (.iconst 0, 1) := by decide +kernel
theorem d_m_past_75 : decode prog_7_method_27_code 75 = .ok (.ireturn, 1) := by decide +kernel
theorem d_m_renew_0 : decode prog_7_method_20_code 0 = .ok (.aload_n 0, 1) := by decide +kernel
theorem d_m_renew_1 : decode prog_7_method_20_code 1 = .ok (.iconst 0, 1) := by decide +kernel
theorem d_m_renew_2 : decode prog_7_method_20_code 2 = .ok (.putfield 93, 3) := by decide +kernel
theorem d_m_renew_5 : decode prog_7_method_20_code 5 = .ok (.iload_n 1, 1) := by decide +kernel
theorem d_m_renew_6 : decode prog_7_method_20_code 6 = .ok (.iconst 0, 1) := by decide +kernel
theorem d_m_renew_7 : decode prog_7_method_20_code 7 = .ok (.aload_n 0, 1) := by decide +kernel
theorem d_m_renew_8 : decode prog_7_method_20_code 8 = .ok (.getfield 117, 3) := by decide +kernel
theorem d_m_renew_11 : decode prog_7_method_20_code 11 = .ok (.iconst 1, 1) := by decide +kernel
theorem d_m_renew_12 : decode prog_7_method_20_code 12 = .ok (.isub, 1) := by decide +kernel
theorem d_m_renew_13 : decode prog_7_method_20_code 13 = .ok (.invokestatic 99, 3) := by decide +kernel
theorem d_m_renew_16 : decode prog_7_method_20_code 16 = .ok (.ifCond .ne 5, 3) := by decide +kernel
theorem d_m_renew_19 : decode prog_7_method_20_code 19 = .ok (.iconst (-1), 1) := by decide +kernel
theorem d_m_renew_20 : decode prog_7_method_20_code 20 = .ok (.ireturn, 1) := by decide +kernel
theorem d_m_renew_21 : decode prog_7_method_20_code 21 = .ok (.aload_n 0, 1) := by decide +kernel
theorem d_m_renew_22 : decode prog_7_method_20_code 22 = .ok (.iload_n 2, 1) := by decide +kernel
theorem d_m_renew_23 : decode prog_7_method_20_code 23 = .ok (.invokevirtual 133, 3) := by decide +kernel
theorem d_m_renew_26 : decode prog_7_method_20_code 26 = .ok (.ifCond .ne 6, 3) := by decide +kernel
theorem d_m_renew_29 : decode prog_7_method_20_code 29 = .ok (.bipush (-2), 2) := by decide +kernel
theorem d_m_renew_31 : decode prog_7_method_20_code 31 = .ok (.ireturn, 1) := by decide +kernel
theorem d_m_renew_32 : decode prog_7_method_20_code 32 = .ok (.aload_n 0, 1) := by decide +kernel
theorem d_m_renew_33 : decode prog_7_method_20_code 33 = .ok (.getfield 71, 3) := by decide +kernel
theorem d_m_renew_36 : decode prog_7_method_20_code 36 = .ok (.iload_n 1, 1) := by decide +kernel
theorem d_m_renew_37 : decode prog_7_method_20_code 37 = .ok (.iaload, 1) := by decide +kernel
theorem d_m_renew_38 : decode prog_7_method_20_code 38 = .ok (.ifCond .eq 32, 3) := by decide +kernel
theorem d_m_renew_41 : decode prog_7_method_20_code 41 = .ok (.aload_n 0, 1) := by decide +kernel
theorem d_m_renew_42 : decode prog_7_method_20_code 42 = .ok (.getfield 83, 3) := by decide +kernel
theorem d_m_renew_45 : decode prog_7_method_20_code 45 = .ok (.iload_n 1, 1) := by decide +kernel
theorem d_m_renew_46 : decode prog_7_method_20_code 46 = .ok (.iaload, 1) := by decide +kernel
theorem d_m_renew_47 : decode prog_7_method_20_code 47 = .ok (.iconst 2, 1) := by decide +kernel
theorem d_m_renew_48 : decode prog_7_method_20_code 48 = .ok (.if_icmp .eq 22, 3) := by decide +kernel
theorem d_m_renew_51 : decode prog_7_method_20_code 51 = .ok (.aload_n 0, 1) := by decide +kernel
theorem d_m_renew_52 : decode prog_7_method_20_code 52 = .ok (.getfield 86, 3) := by decide +kernel
theorem d_m_renew_55 : decode prog_7_method_20_code 55 = .ok (.iload_n 1, 1) := by decide +kernel
theorem d_m_renew_56 : decode prog_7_method_20_code 56 = .ok (.iaload, 1) := by decide +kernel
theorem d_m_renew_57 : decode prog_7_method_20_code 57 = .ok (.ifCond .ge 13, 3) := by decide +kernel
theorem d_m_renew_60 : decode prog_7_method_20_code 60 = .ok (.iload_n 2, 1) := by decide +kernel
theorem d_m_renew_61 : decode prog_7_method_20_code 61 = .ok (.aload_n 0, 1) := by decide +kernel
theorem d_m_renew_62 : decode prog_7_method_20_code 62 = .ok (.getfield 80, 3) := by decide +kernel
theorem d_m_renew_65 : decode prog_7_method_20_code 65 = .ok (.iload_n 1, 1) := by decide +kernel
theorem d_m_renew_66 : decode prog_7_method_20_code 66 = .ok (.iaload, 1) := by decide +kernel
theorem d_m_renew_67 : decode prog_7_method_20_code 67 = .ok (.if_icmp .lt 6, 3) := by decide +kernel
theorem d_m_renew_70 : decode prog_7_method_20_code 70 = .ok (.bipush (-3), 2) := by decide +kernel
theorem d_m_renew_72 : decode prog_7_method_20_code 72 = .ok (.ireturn, 1) := by decide +kernel
theorem d_m_renew_73 : decode prog_7_method_20_code 73 = .ok (.aload_n 0, 1) := by decide +kernel
theorem d_m_renew_74 : decode prog_7_method_20_code 74 = .ok (.iload_n 2, 1) := by decide +kernel
theorem d_m_renew_75 : decode prog_7_method_20_code 75 = .ok (.putfield 103, 3) := by decide +kernel
theorem d_m_renew_78 : decode prog_7_method_20_code 78 = .ok (.aload_n 0, 1) := by decide +kernel
theorem d_m_renew_79 : decode prog_7_method_20_code 79 = .ok (.getfield 83, 3) := by decide +kernel
theorem d_m_renew_82 : decode prog_7_method_20_code 82 = .ok (.iload_n 1, 1) := by decide +kernel
theorem d_m_renew_83 : decode prog_7_method_20_code 83 = .ok (.dup2, 1) := by decide +kernel
theorem d_m_renew_84 : decode prog_7_method_20_code 84 = .ok (.iaload, 1) := by decide +kernel
theorem d_m_renew_85 : decode prog_7_method_20_code 85 = .ok (.iconst 1, 1) := by decide +kernel
theorem d_m_renew_86 : decode prog_7_method_20_code 86 = .ok (.iadd, 1) := by decide +kernel
theorem d_m_renew_87 : decode prog_7_method_20_code 87 = .ok (.iastore, 1) := by decide +kernel
theorem d_m_renew_88 : decode prog_7_method_20_code 88 = .ok (.aload_n 0, 1) := by decide +kernel
theorem d_m_renew_89 : decode prog_7_method_20_code 89 = .ok (.getfield 80, 3) := by decide +kernel
theorem d_m_renew_92 : decode prog_7_method_20_code 92 = .ok (.iload_n 1, 1) := by decide +kernel
theorem d_m_renew_93 : decode prog_7_method_20_code 93 = .ok (.dup2, 1) := by decide +kernel
theorem d_m_renew_94 : decode prog_7_method_20_code 94 = .ok (.iaload, 1) := by decide +kernel
theorem d_m_renew_95 : decode prog_7_method_20_code 95 = .ok (.ldc 139, 2) := by decide +kernel
theorem d_m_renew_97 : decode prog_7_method_20_code 97 = .ok (.iadd, 1) := by decide +kernel
theorem d_m_renew_98 : decode prog_7_method_20_code 98 = .ok (.iastore, 1) := by decide +kernel
theorem d_m_renew_99 : decode prog_7_method_20_code 99 = .ok (.aload_n 0, 1) := by decide +kernel
theorem d_m_renew_100 : decode prog_7_method_20_code 100 = .ok (.getfield 80, 3) := by decide +kernel
theorem d_m_renew_103 : decode prog_7_method_20_code 103 = .ok (.iload_n 1, 1) := by decide +kernel
theorem d_m_renew_104 : decode prog_7_method_20_code 104 = .ok (.iaload, 1) := by decide +kernel
theorem d_m_renew_105 : decode prog_7_method_20_code 105 = .ok (.ireturn, 1) := by decide +kernel
theorem d_m_request_0 : decode prog_7_method_24_code 0 = .ok (.aload_n 0, 1) := by decide +kernel
theorem d_m_request_1 : decode prog_7_method_24_code 1 = .ok (.iload_n 1, 1) := by decide +kernel
theorem d_m_request_2 : decode prog_7_method_24_code 2 = .ok (.iconst 0, 1) := by decide +kernel
theorem d_m_request_3 : decode prog_7_method_24_code 3 = .ok (.aload_n 0, 1) := by decide +kernel
theorem d_m_request_4 : decode prog_7_method_24_code 4 = .ok (.getfield 117, 3) := by decide +kernel
theorem d_m_request_7 : decode prog_7_method_24_code 7 = .ok (.iconst 1, 1) := by decide +kernel
theorem d_m_request_8 : decode prog_7_method_24_code 8 = .ok (.isub, 1) := by decide +kernel
theorem d_m_request_9 : decode prog_7_method_24_code 9 = .ok (.invokestatic 99, 3) := by decide +kernel
theorem d_m_request_12 : decode prog_7_method_24_code 12 = .ok (.ifCond .eq 13, 3) := by decide +kernel
theorem d_m_request_15 : decode prog_7_method_24_code 15 = .ok (.iload_n 2, 1) := by decide +kernel
theorem d_m_request_16 : decode prog_7_method_24_code 16 = .ok (.iconst 0, 1) := by decide +kernel
theorem d_m_request_17 : decode prog_7_method_24_code 17 = .ok (.bipush 10, 2) := by decide +kernel
theorem d_m_request_19 : decode prog_7_method_24_code 19 = .ok (.invokestatic 99, 3) := by decide +kernel
theorem d_m_request_22 : decode prog_7_method_24_code 22 = .ok (.ifCond .ne 7, 3) := by decide +kernel
theorem d_m_request_25 : decode prog_7_method_24_code 25 = .ok (.iconst 1, 1) := by decide +kernel
theorem d_m_request_26 : decode prog_7_method_24_code 26 = .ok (.goto 4, 3) := by decide +kernel
theorem d_m_request_29 : decode prog_7_method_24_code 29 = .ok (.iconst 0, 1) := by decide +kernel
theorem d_m_request_30 : decode prog_7_method_24_code 30 = .ok (.putfield 93, 3) := by decide +kernel
theorem d_m_request_33 : decode prog_7_method_24_code 33 = .ok (.aload_n 0, 1) := by decide +kernel
theorem d_m_request_34 : decode prog_7_method_24_code 34 = .ok (.getfield 93, 3) := by decide +kernel
theorem d_m_request_37 : decode prog_7_method_24_code 37 = .ok (.ifCond .le 5, 3) := by decide +kernel
theorem d_m_request_40 : decode prog_7_method_24_code 40 = .ok (.iconst 0, 1) := by decide +kernel
theorem d_m_request_41 : decode prog_7_method_24_code 41 = .ok (.ireturn, 1) := by decide +kernel
theorem d_m_request_42 : decode prog_7_method_24_code 42 = .ok (.iload_n 2, 1) := by decide +kernel
theorem d_m_request_43 : decode prog_7_method_24_code 43 = .ok (.tableswitch 122 0 9 #[53, 60, 67, 74, 81, 88, 95, 102, 108, 115], 53) := by decide +kernel
theorem d_m_request_96 : decode prog_7_method_24_code 96 = .ok (.aload_n 0, 1) := by decide +kernel
theorem d_m_request_97 : decode prog_7_method_24_code 97 = .ok (.getfield 56, 3) := by decide +kernel
theorem d_m_request_100 : decode prog_7_method_24_code 100 = .ok (.iload_n 1, 1) := by decide +kernel
theorem d_m_request_101 : decode prog_7_method_24_code 101 = .ok (.iaload, 1) := by decide +kernel
theorem d_m_request_102 : decode prog_7_method_24_code 102 = .ok (.ireturn, 1) := by decide +kernel
theorem d_m_request_103 : decode prog_7_method_24_code 103 = .ok (.aload_n 0, 1) := by decide +kernel
theorem d_m_request_104 : decode prog_7_method_24_code 104 = .ok (.getfield 59, 3) := by decide +kernel
theorem d_m_request_107 : decode prog_7_method_24_code 107 = .ok (.iload_n 1, 1) := by decide +kernel
theorem d_m_request_108 : decode prog_7_method_24_code 108 = .ok (.iaload, 1) := by decide +kernel
theorem d_m_request_109 : decode prog_7_method_24_code 109 = .ok (.ireturn, 1) := by decide +kernel
theorem d_m_request_110 : decode prog_7_method_24_code 110 = .ok (.aload_n 0, 1) := by decide +kernel
theorem d_m_request_111 : decode prog_7_method_24_code 111 = .ok (.getfield 62, 3) := by decide +kernel
theorem d_m_request_114 : decode prog_7_method_24_code 114 = .ok (.iload_n 1, 1) := by decide +kernel
theorem d_m_request_115 : decode prog_7_method_24_code 115 = .ok (.iaload, 1) := by decide +kernel
theorem d_m_request_116 : decode prog_7_method_24_code 116 = .ok (.ireturn, 1) := by decide +kernel
theorem d_m_request_117 : decode prog_7_method_24_code 117 = .ok (.aload_n 0, 1) := by decide +kernel
theorem d_m_request_118 : decode prog_7_method_24_code 118 = .ok (.getfield 65, 3) := by decide +kernel
theorem d_m_request_121 : decode prog_7_method_24_code 121 = .ok (.iload_n 1, 1) := by decide +kernel
theorem d_m_request_122 : decode prog_7_method_24_code 122 = .ok (.iaload, 1) := by decide +kernel
theorem d_m_request_123 : decode prog_7_method_24_code 123 = .ok (.ireturn, 1) := by decide +kernel
theorem d_m_request_124 : decode prog_7_method_24_code 124 = .ok (.aload_n 0, 1) := by decide +kernel
theorem d_m_request_125 : decode prog_7_method_24_code 125 = .ok (.getfield 68, 3) := by decide +kernel
theorem d_m_request_128 : decode prog_7_method_24_code 128 = .ok (.iload_n 1, 1) := by decide +kernel
theorem d_m_request_129 : decode prog_7_method_24_code 129 = .ok (.iaload, 1) := by decide +kernel
theorem d_m_request_130 : decode prog_7_method_24_code 130 = .ok (.ireturn, 1) := by decide +kernel
theorem d_m_request_131 : decode prog_7_method_24_code 131 = .ok (.aload_n 0, 1) := by decide +kernel
theorem d_m_request_132 : decode prog_7_method_24_code 132 = .ok (.getfield 71, 3) := by decide +kernel
theorem d_m_request_135 : decode prog_7_method_24_code 135 = .ok (.iload_n 1, 1) := by decide +kernel
theorem d_m_request_136 : decode prog_7_method_24_code 136 = .ok (.iaload, 1) := by decide +kernel
theorem d_m_request_137 : decode prog_7_method_24_code 137 = .ok (.ireturn, 1) := by decide +kernel
theorem d_m_request_138 : decode prog_7_method_24_code 138 = .ok (.aload_n 0, 1) := by decide +kernel
theorem d_m_request_139 : decode prog_7_method_24_code 139 = .ok (.getfield 74, 3) := by decide +kernel
theorem d_m_request_142 : decode prog_7_method_24_code 142 = .ok (.iload_n 1, 1) := by decide +kernel
theorem d_m_request_143 : decode prog_7_method_24_code 143 = .ok (.iaload, 1) := by decide +kernel
theorem d_m_request_144 : decode prog_7_method_24_code 144 = .ok (.ireturn, 1) := by decide +kernel
theorem d_m_request_145 : decode prog_7_method_24_code 145 = .ok (.aload_n 0, 1) := by decide +kernel
theorem d_m_request_146 : decode prog_7_method_24_code 146 = .ok (.iload_n 1, 1) := by decide +kernel
theorem d_m_request_147 : decode prog_7_method_24_code 147 = .ok (.invokevirtual 140, 3) := by decide +kernel
theorem d_m_request_150 : decode prog_7_method_24_code 150 = .ok (.ireturn, 1) := by decide +kernel
theorem d_m_request_151 : decode prog_7_method_24_code 151 = .ok (.aload_n 0, 1) := by decide +kernel
theorem d_m_request_152 : decode prog_7_method_24_code 152 = .ok (.getfield 80, 3) := by decide +kernel
theorem d_m_request_155 : decode prog_7_method_24_code 155 = .ok (.iload_n 1, 1) := by decide +kernel
theorem d_m_request_156 : decode prog_7_method_24_code 156 = .ok (.iaload, 1) := by decide +kernel
theorem d_m_request_157 : decode prog_7_method_24_code 157 = .ok (.ireturn, 1) := by decide +kernel
theorem d_m_request_158 : decode prog_7_method_24_code 158 = .ok (.aload_n 0, 1) := by decide +kernel
theorem d_m_request_159 : decode prog_7_method_24_code 159 = .ok (.getfield 83, 3) := by decide +kernel
theorem d_m_request_162 : decode prog_7_method_24_code 162 = .ok (.iload_n 1, 1) := by decide +kernel
theorem d_m_request_163 : decode prog_7_method_24_code 163 = .ok (.iaload, 1) := by decide +kernel
theorem d_m_request_164 : decode prog_7_method_24_code 164 = .ok (.ireturn, 1) := by decide +kernel
theorem d_m_request_165 : decode prog_7_method_24_code 165 = .ok (.aload_n 0, 1) := by decide +kernel
theorem d_m_request_166 : decode prog_7_method_24_code 166 = .ok (.getfield 86, 3) := by decide +kernel
theorem d_m_request_169 : decode prog_7_method_24_code 169 = .ok (.iload_n 1, 1) := by decide +kernel
theorem d_m_request_170 : decode prog_7_method_24_code 170 = .ok (.iaload, 1) := by decide +kernel
theorem d_m_request_171 : decode prog_7_method_24_code 171 = .ok (.ireturn, 1) := by decide +kernel
theorem d_m_right_0 : decode prog_7_method_18_code 0 = .ok (.aload_n 0, 1) := by decide +kernel
theorem d_m_right_1 : decode prog_7_method_18_code 1 = .ok (.iconst 0, 1) := by decide +kernel
theorem d_m_right_2 : decode prog_7_method_18_code 2 = .ok (.putfield 93, 3) := by decide +kernel
theorem d_m_right_5 : decode prog_7_method_18_code 5 = .ok (.aload_n 0, 1) := by decide +kernel
theorem d_m_right_6 : decode prog_7_method_18_code 6 = .ok (.iload_n 1, 1) := by decide +kernel
theorem d_m_right_7 : decode prog_7_method_18_code 7 = .ok (.invokevirtual 107, 3) := by decide +kernel
theorem d_m_right_10 : decode prog_7_method_18_code 10 = .ok (.ifCond .ne 5, 3) := by decide +kernel
theorem d_m_right_13 : decode prog_7_method_18_code 13 = .ok (.iconst (-1), 1) := by decide +kernel
theorem d_m_right_14 : decode prog_7_method_18_code 14 = .ok (.ireturn, 1) := by decide +kernel
theorem d_m_right_15 : decode prog_7_method_18_code 15 = .ok (.iload_n 2, 1) := by decide +kernel
theorem d_m_right_16 : decode prog_7_method_18_code 16 = .ok (.iconst 0, 1) := by decide +kernel
theorem d_m_right_17 : decode prog_7_method_18_code 17 = .ok (.bipush 9, 2) := by decide +kernel
theorem d_m_right_19 : decode prog_7_method_18_code 19 = .ok (.invokestatic 99, 3) := by decide +kernel
theorem d_m_right_22 : decode prog_7_method_18_code 22 = .ok (.ifCond .ne 6, 3) := by decide +kernel
theorem d_m_right_25 : decode prog_7_method_18_code 25 = .ok (.bipush (-2), 2) := by decide +kernel
theorem d_m_right_27 : decode prog_7_method_18_code 27 = .ok (.ireturn, 1) := by decide +kernel
theorem d_m_right_28 : decode prog_7_method_18_code 28 = .ok (.aload_n 0, 1) := by decide +kernel
theorem d_m_right_29 : decode prog_7_method_18_code 29 = .ok (.getfield 17, 3) := by decide +kernel
theorem d_m_right_32 : decode prog_7_method_18_code 32 = .ok (.iload_n 1, 1) := by decide +kernel
theorem d_m_right_33 : decode prog_7_method_18_code 33 = .ok (.iload_n 2, 1) := by decide +kernel
theorem d_m_right_34 : decode prog_7_method_18_code 34 = .ok (.iastore, 1) := by decide +kernel
theorem d_m_right_35 : decode prog_7_method_18_code 35 = .ok (.iconst 1, 1) := by decide +kernel
theorem d_m_right_36 : decode prog_7_method_18_code 36 = .ok (.ireturn, 1) := by decide +kernel
theorem d_m_statistics_0 : decode prog_7_method_26_code 0 = .ok (.aload_n 0, 1) := by decide +kernel
theorem d_m_statistics_1 : decode prog_7_method_26_code 1 = .ok (.iconst 0, 1) := by decide +kernel
theorem d_m_statistics_2 : decode prog_7_method_26_code 2 = .ok (.putfield 93, 3) := by decide +kernel
theorem d_m_statistics_5 : decode prog_7_method_26_code 5 = .ok (.iload_n 1, 1) := by decide +kernel
theorem d_m_statistics_6 : decode prog_7_method_26_code 6 = .ok (.iconst 0, 1) := by decide +kernel
theorem d_m_statistics_7 : decode prog_7_method_26_code 7 = .ok (.bipush 99, 2) := by decide +kernel
theorem d_m_statistics_9 : decode prog_7_method_26_code 9 = .ok (.invokestatic 99, 3) := by decide +kernel
theorem d_m_statistics_12 : decode prog_7_method_26_code 12 = .ok (.ifCond .eq 12, 3) := by decide +kernel
theorem d_m_statistics_15 : decode prog_7_method_26_code 15 = .ok (.iload_n 2, 1) := by decide +kernel
theorem d_m_statistics_16 : decode prog_7_method_26_code 16 = .ok (.iconst 0, 1) := by decide +kernel
theorem d_m_statistics_17 : decode prog_7_method_26_code 17 = .ok (.iconst 3, 1) := by decide +kernel
theorem d_m_statistics_18 : decode prog_7_method_26_code 18 = .ok (.invokestatic 99, 3) := by decide +kernel
theorem d_m_statistics_21 : decode prog_7_method_26_code 21 = .ok (.ifCond .ne 5, 3) := by decide +kernel
theorem d_m_statistics_24 : decode prog_7_method_26_code 24 = .ok (.iconst (-1), 1) := by decide +kernel
theorem d_m_statistics_25 : decode prog_7_method_26_code 25 = .ok (.ireturn, 1) := by decide +kernel
theorem d_m_statistics_26 : decode prog_7_method_26_code 26 = .ok (.iconst 0, 1) := by decide +kernel
theorem d_m_statistics_27 : decode prog_7_method_26_code 27 = .ok (.istore_n 3, 1) := by decide +kernel
theorem d_m_statistics_28 : decode prog_7_method_26_code 28 = .ok (.iconst 0, 1) := by decide +kernel
theorem d_m_statistics_29 : decode prog_7_method_26_code 29 = .ok (.istore 4, 2) := by decide +kernel
theorem d_m_statistics_31 : decode prog_7_method_26_code 31 = .ok (.iload 4, 2) := by decide +kernel
theorem d_m_statistics_33 : decode prog_7_method_26_code 33 = .ok (.aload_n 0, 1) := by decide +kernel
theorem d_m_statistics_34 : decode prog_7_method_26_code 34 = .ok (.getfield 117, 3) := by decide +kernel
theorem d_m_statistics_37 : decode prog_7_method_26_code 37 = .ok (.if_icmp .ge 92, 3) := by decide +kernel
theorem d_m_statistics_40 : decode prog_7_method_26_code 40 = .ok (.aload_n 0, 1) := by decide +kernel
theorem d_m_statistics_41 : decode prog_7_method_26_code 41 = .ok (.getfield 56, 3) := by decide +kernel
theorem d_m_statistics_44 : decode prog_7_method_26_code 44 = .ok (.iload 4, 2) := by decide +kernel
theorem d_m_statistics_46 : decode prog_7_method_26_code 46 = .ok (.iaload, 1) := by decide +kernel
theorem d_m_statistics_47 : decode prog_7_method_26_code 47 = .ok (.iload_n 1, 1) := by decide +kernel
theorem d_m_statistics_48 : decode prog_7_method_26_code 48 = .ok (.if_icmp .eq 6, 3) := by decide +kernel
theorem d_m_statistics_51 : decode prog_7_method_26_code 51 = .ok (.goto 72, 3) := by decide +kernel
theorem d_m_statistics_54 : decode prog_7_method_26_code 54 = .ok (.iload_n 3, 1) := by decide +kernel
theorem d_m_statistics_55 : decode prog_7_method_26_code 55 = .ok (.iload_n 2, 1) := by decide +kernel
theorem d_m_statistics_56 : decode prog_7_method_26_code 56 = .ok (.ifCond .ne 7, 3) := by decide +kernel
theorem d_m_statistics_59 : decode prog_7_method_26_code 59 = .ok (.iconst 1, 1) := by decide +kernel
theorem d_m_statistics_60 : decode prog_7_method_26_code 60 = .ok (.goto 61, 3) := by decide +kernel
theorem d_m_statistics_63 : decode prog_7_method_26_code 63 = .ok (.iload_n 2, 1) := by decide +kernel
theorem d_m_statistics_64 : decode prog_7_method_26_code 64 = .ok (.iconst 1, 1) := by decide +kernel
theorem d_m_statistics_65 : decode prog_7_method_26_code 65 = .ok (.if_icmp .ne 21, 3) := by decide +kernel
theorem d_m_statistics_68 : decode prog_7_method_26_code 68 = .ok (.aload_n 0, 1) := by decide +kernel
theorem d_m_statistics_69 : decode prog_7_method_26_code 69 = .ok (.getfield 71, 3) := by decide +kernel
theorem d_m_statistics_72 : decode prog_7_method_26_code 72 = .ok (.iload 4, 2) := by decide +kernel
theorem d_m_statistics_74 : decode prog_7_method_26_code 74 = .ok (.iaload, 1) := by decide +kernel
theorem d_m_statistics_75 : decode prog_7_method_26_code 75 = .ok (.ifCond .ne 7, 3) := by decide +kernel
theorem d_m_statistics_78 : decode prog_7_method_26_code 78 = .ok (.iconst 1, 1) := by decide +kernel
theorem d_m_statistics_79 : decode prog_7_method_26_code 79 = .ok (.goto 42, 3) := by decide +kernel
theorem d_m_statistics_82 : decode prog_7_method_26_code 82 = .ok (.iconst 0, 1) := by decide +kernel
theorem d_m_statistics_83 : decode prog_7_method_26_code 83 = .ok (.goto 38, 3) := by decide +kernel
theorem d_m_statistics_86 : decode prog_7_method_26_code 86 = .ok (.iload_n 2, 1) := by decide +kernel
theorem d_m_statistics_87 : decode prog_7_method_26_code 87 = .ok (.iconst 2, 1) := by decide +kernel
theorem d_m_statistics_88 : decode prog_7_method_26_code 88 = .ok (.if_icmp .ne 27, 3) := by decide +kernel
theorem d_m_statistics_91 : decode prog_7_method_26_code 91 = .ok (.aload_n 0, 1) := by decide +kernel
theorem d_m_statistics_92 : decode prog_7_method_26_code 92 = .ok (.getfield 71, 3) := by decide +kernel
theorem d_m_statistics_95 : decode prog_7_method_26_code 95 = .ok (.iload 4, 2) := by decide +kernel
theorem d_m_statistics_97 : decode prog_7_method_26_code 97 = .ok (.iaload, 1) := by decide +kernel
theorem d_m_statistics_98 : decode prog_7_method_26_code 98 = .ok (.ifCond .ne 7, 3) := by decide +kernel
theorem d_m_statistics_101 : decode prog_7_method_26_code 101 = .ok (.iconst 0, 1) := by decide +kernel
theorem d_m_statistics_102 : decode prog_7_method_26_code 102 = .ok (.goto 19, 3) := by decide +kernel
theorem d_m_statistics_105 : decode prog_7_method_26_code 105 = .ok (.aload_n 0, 1) := by decide +kernel
theorem d_m_statistics_106 : decode prog_7_method_26_code 106 = .ok (.getfield 65, 3) := by decide +kernel
theorem d_m_statistics_109 : decode prog_7_method_26_code 109 = .ok (.iload 4, 2) := by decide +kernel
theorem d_m_statistics_111 : decode prog_7_method_26_code 111 = .ok (.iaload, 1) := by decide +kernel
theorem d_m_statistics_112 : decode prog_7_method_26_code 112 = .ok (.goto 9, 3) := by decide +kernel
theorem d_m_statistics_115 : decode prog_7_method_26_code 115 = .ok (.aload_n 0, 1) := by decide +kernel
theorem d_m_statistics_116 : decode prog_7_method_26_code 116 = .ok (.iload 4, 2) := by decide +kernel
theorem d_m_statistics_118 : decode prog_7_method_26_code 118 = .ok (.invokevirtual 140, 3) := by decide +kernel
theorem d_m_statistics_121 : decode prog_7_method_26_code 121 = .ok (.iadd, 1) := by decide +kernel
theorem d_m_statistics_122 : decode prog_7_method_26_code 122 = .ok (.istore_n 3, 1) := by decide +kernel
theorem d_m_statistics_123 : decode prog_7_method_26_code 123 = .ok (.iinc 4 1, 3) := by decide +kernel
theorem d_m_statistics_126 : decode prog_7_method_26_code 126 = .ok (.goto (-95), 3) := by decide +kernel
theorem d_m_statistics_129 : decode prog_7_method_26_code 129 = .ok (.iload_n 3, 1) := by decide +kernel
theorem d_m_statistics_130 : decode prog_7_method_26_code 130 = .ok (.ireturn, 1) := by decide +kernel
theorem d_m_title_0 : decode prog_7_method_6_code 0 = .ok (.aload_n 0, 1) := by decide +kernel
theorem d_m_title_1 : decode prog_7_method_6_code 1 = .ok (.iconst 0, 1) := by decide +kernel
theorem d_m_title_2 : decode prog_7_method_6_code 2 = .ok (.putfield 93, 3) := by decide +kernel
theorem d_m_title_5 : decode prog_7_method_6_code 5 = .ok (.iload_n 1, 1) := by decide +kernel
theorem d_m_title_6 : decode prog_7_method_6_code 6 = .ok (.iconst 0, 1) := by decide +kernel
theorem d_m_title_7 : decode prog_7_method_6_code 7 = .ok (.bipush 99, 2) := by decide +kernel
theorem d_m_title_9 : decode prog_7_method_6_code 9 = .ok (.invokestatic 99, 3) := by decide +kernel
theorem d_m_title_12 : decode prog_7_method_6_code 12 = .ok (.ifCond .ne 6, 3) := by decide +kernel
theorem d_m_title_15 : decode prog_7_method_6_code 15 = .ok (.bipush (-2), 2) := by decide +kernel
theorem d_m_title_17 : decode prog_7_method_6_code 17 = .ok (.ireturn, 1) := by decide +kernel
theorem d_m_title_18 : decode prog_7_method_6_code 18 = .ok (.aload_n 0, 1) := by decide +kernel
theorem d_m_title_19 : decode prog_7_method_6_code 19 = .ok (.getfield 96, 3) := by decide +kernel
theorem d_m_title_22 : decode prog_7_method_6_code 22 = .ok (.bipush 50, 2) := by decide +kernel
theorem d_m_title_24 : decode prog_7_method_6_code 24 = .ok (.if_icmp .ne 6, 3) := by decide +kernel
theorem d_m_title_27 : decode prog_7_method_6_code 27 = .ok (.bipush (-4), 2) := by decide +kernel
theorem d_m_title_29 : decode prog_7_method_6_code 29 = .ok (.ireturn, 1) := by decide +kernel
theorem d_m_title_30 : decode prog_7_method_6_code 30 = .ok (.aload_n 0, 1) := by decide +kernel
theorem d_m_title_31 : decode prog_7_method_6_code 31 = .ok (.getfield 7, 3) := by decide +kernel
theorem d_m_title_34 : decode prog_7_method_6_code 34 = .ok (.aload_n 0, 1) := by decide +kernel
theorem d_m_title_35 : decode prog_7_method_6_code 35 = .ok (.getfield 96, 3) := by decide +kernel
theorem d_m_title_38 : decode prog_7_method_6_code 38 = .ok (.iload_n 1, 1) := by decide +kernel
theorem d_m_title_39 : decode prog_7_method_6_code 39 = .ok (.iastore, 1) := by decide +kernel
theorem d_m_title_40 : decode prog_7_method_6_code 40 = .ok (.aload_n 0, 1) := by decide +kernel
theorem d_m_title_41 : decode prog_7_method_6_code 41 = .ok (.dup, 1) := by decide +kernel
theorem d_m_title_42 : decode prog_7_method_6_code 42 = .ok (.getfield 96, 3) := by decide +kernel
theorem d_m_title_45 : decode prog_7_method_6_code 45 = .ok (.iconst 1, 1) := by decide +kernel
theorem d_m_title_46 : decode prog_7_method_6_code 46 = .ok (.iadd, 1) := by decide +kernel
theorem d_m_title_47 : decode prog_7_method_6_code 47 = .ok (.putfield 96, 3) := by decide +kernel
theorem d_m_title_50 : decode prog_7_method_6_code 50 = .ok (.aload_n 0, 1) := by decide +kernel
theorem d_m_title_51 : decode prog_7_method_6_code 51 = .ok (.getfield 96, 3) := by decide +kernel
theorem d_m_title_54 : decode prog_7_method_6_code 54 = .ok (.iconst 1, 1) := by decide +kernel
theorem d_m_title_55 : decode prog_7_method_6_code 55 = .ok (.isub, 1) := by decide +kernel
theorem d_m_title_56 : decode prog_7_method_6_code 56 = .ok (.ireturn, 1) := by decide +kernel
theorem d_m_waive_0 : decode prog_7_method_19_code 0 = .ok (.aload_n 0, 1) := by decide +kernel
theorem d_m_waive_1 : decode prog_7_method_19_code 1 = .ok (.iconst 0, 1) := by decide +kernel
theorem d_m_waive_2 : decode prog_7_method_19_code 2 = .ok (.putfield 93, 3) := by decide +kernel
theorem d_m_waive_5 : decode prog_7_method_19_code 5 = .ok (.aload_n 0, 1) := by decide +kernel
theorem d_m_waive_6 : decode prog_7_method_19_code 6 = .ok (.iload_n 1, 1) := by decide +kernel
theorem d_m_waive_7 : decode prog_7_method_19_code 7 = .ok (.invokevirtual 107, 3) := by decide +kernel
theorem d_m_waive_10 : decode prog_7_method_19_code 10 = .ok (.ifCond .ne 5, 3) := by decide +kernel
theorem d_m_waive_13 : decode prog_7_method_19_code 13 = .ok (.iconst (-1), 1) := by decide +kernel
theorem d_m_waive_14 : decode prog_7_method_19_code 14 = .ok (.ireturn, 1) := by decide +kernel
theorem d_m_waive_15 : decode prog_7_method_19_code 15 = .ok (.iload_n 2, 1) := by decide +kernel
theorem d_m_waive_16 : decode prog_7_method_19_code 16 = .ok (.iconst 0, 1) := by decide +kernel
theorem d_m_waive_17 : decode prog_7_method_19_code 17 = .ok (.bipush 99, 2) := by decide +kernel
theorem d_m_waive_19 : decode prog_7_method_19_code 19 = .ok (.invokestatic 99, 3) := by decide +kernel
theorem d_m_waive_22 : decode prog_7_method_19_code 22 = .ok (.ifCond .ne 6, 3) := by decide +kernel
theorem d_m_waive_25 : decode prog_7_method_19_code 25 = .ok (.bipush (-2), 2) := by decide +kernel
theorem d_m_waive_27 : decode prog_7_method_19_code 27 = .ok (.ireturn, 1) := by decide +kernel
theorem d_m_waive_28 : decode prog_7_method_19_code 28 = .ok (.aload_n 0, 1) := by decide +kernel
theorem d_m_waive_29 : decode prog_7_method_19_code 29 = .ok (.getfield 17, 3) := by decide +kernel
theorem d_m_waive_32 : decode prog_7_method_19_code 32 = .ok (.iload_n 1, 1) := by decide +kernel
theorem d_m_waive_33 : decode prog_7_method_19_code 33 = .ok (.iaload, 1) := by decide +kernel
theorem d_m_waive_34 : decode prog_7_method_19_code 34 = .ok (.ifCond .eq 22, 3) := by decide +kernel
theorem d_m_waive_37 : decode prog_7_method_19_code 37 = .ok (.aload_n 0, 1) := by decide +kernel
theorem d_m_waive_38 : decode prog_7_method_19_code 38 = .ok (.getfield 26, 3) := by decide +kernel
theorem d_m_waive_41 : decode prog_7_method_19_code 41 = .ok (.bipush 10, 2) := by decide +kernel
theorem d_m_waive_43 : decode prog_7_method_19_code 43 = .ok (.iload_n 2, 1) := by decide +kernel
theorem d_m_waive_44 : decode prog_7_method_19_code 44 = .ok (.imul, 1) := by decide +kernel
theorem d_m_waive_45 : decode prog_7_method_19_code 45 = .ok (.aload_n 0, 1) := by decide +kernel
theorem d_m_waive_46 : decode prog_7_method_19_code 46 = .ok (.getfield 17, 3) := by decide +kernel
theorem d_m_waive_49 : decode prog_7_method_19_code 49 = .ok (.iload_n 1, 1) := by decide +kernel
theorem d_m_waive_50 : decode prog_7_method_19_code 50 = .ok (.iaload, 1) := by decide +kernel
theorem d_m_waive_51 : decode prog_7_method_19_code 51 = .ok (.iadd, 1) := by decide +kernel
theorem d_m_waive_52 : decode prog_7_method_19_code 52 = .ok (.baload, 1) := by decide +kernel
theorem d_m_waive_53 : decode prog_7_method_19_code 53 = .ok (.ifCond .ne 6, 3) := by decide +kernel
theorem d_m_waive_56 : decode prog_7_method_19_code 56 = .ok (.bipush (-3), 2) := by decide +kernel
theorem d_m_waive_58 : decode prog_7_method_19_code 58 = .ok (.ireturn, 1) := by decide +kernel
theorem d_m_waive_59 : decode prog_7_method_19_code 59 = .ok (.aload_n 0, 1) := by decide +kernel
theorem d_m_waive_60 : decode prog_7_method_19_code 60 = .ok (.getfield 20, 3) := by decide +kernel
theorem d_m_waive_63 : decode prog_7_method_19_code 63 = .ok (.iload_n 1, 1) := by decide +kernel
theorem d_m_waive_64 : decode prog_7_method_19_code 64 = .ok (.iaload, 1) := by decide +kernel
theorem d_m_waive_65 : decode prog_7_method_19_code 65 = .ok (.bipush 20, 2) := by decide +kernel
theorem d_m_waive_67 : decode prog_7_method_19_code 67 = .ok (.if_icmp .ne 6, 3) := by decide +kernel
theorem d_m_waive_70 : decode prog_7_method_19_code 70 = .ok (.bipush (-4), 2) := by decide +kernel
theorem d_m_waive_72 : decode prog_7_method_19_code 72 = .ok (.ireturn, 1) := by decide +kernel
theorem d_m_waive_73 : decode prog_7_method_19_code 73 = .ok (.aload_n 0, 1) := by decide +kernel
theorem d_m_waive_74 : decode prog_7_method_19_code 74 = .ok (.getfield 20, 3) := by decide +kernel
theorem d_m_waive_77 : decode prog_7_method_19_code 77 = .ok (.iload_n 1, 1) := by decide +kernel
theorem d_m_waive_78 : decode prog_7_method_19_code 78 = .ok (.dup2, 1) := by decide +kernel
theorem d_m_waive_79 : decode prog_7_method_19_code 79 = .ok (.iaload, 1) := by decide +kernel
theorem d_m_waive_80 : decode prog_7_method_19_code 80 = .ok (.iconst 1, 1) := by decide +kernel
theorem d_m_waive_81 : decode prog_7_method_19_code 81 = .ok (.iadd, 1) := by decide +kernel
theorem d_m_waive_82 : decode prog_7_method_19_code 82 = .ok (.iastore, 1) := by decide +kernel
theorem d_m_waive_83 : decode prog_7_method_19_code 83 = .ok (.aload_n 0, 1) := by decide +kernel
theorem d_m_waive_84 : decode prog_7_method_19_code 84 = .ok (.getfield 20, 3) := by decide +kernel
theorem d_m_waive_87 : decode prog_7_method_19_code 87 = .ok (.iload_n 1, 1) := by decide +kernel
theorem d_m_waive_88 : decode prog_7_method_19_code 88 = .ok (.iaload, 1) := by decide +kernel
theorem d_m_waive_89 : decode prog_7_method_19_code 89 = .ok (.ireturn, 1) := by decide +kernel
theorem d_m_why_0 : decode prog_7_method_16_code 0 = .ok (.aload_n 0, 1) := by decide +kernel
theorem d_m_why_1 : decode prog_7_method_16_code 1 = .ok (.iconst 0, 1) := by decide +kernel
theorem d_m_why_2 : decode prog_7_method_16_code 2 = .ok (.putfield 93, 3) := by decide +kernel
theorem d_m_why_5 : decode prog_7_method_16_code 5 = .ok (.aload_n 0, 1) := by decide +kernel
theorem d_m_why_6 : decode prog_7_method_16_code 6 = .ok (.getfield 89, 3) := by decide +kernel
theorem d_m_why_9 : decode prog_7_method_16_code 9 = .ok (.ireturn, 1) := by decide +kernel
