theorem dX7_init_0 : decode cX7_init 0 = .ok (.aload_n 0, 1) := by decide +kernel
theorem dX7_init_1 : decode cX7_init 1 = .ok (.invokespecial 1, 3) := by decide +kernel
theorem dX7_init_4 : decode cX7_init 4 = .ok (.aload_n 0, 1) := by decide +kernel
theorem dX7_init_5 : decode cX7_init 5 = .ok (.iconst 3, 1) := by decide +kernel
theorem dX7_init_6 : decode cX7_init 6 = .ok (.newarray .int, 2) := by decide +kernel
theorem dX7_init_8 : decode cX7_init 8 = .ok (.putfield 7, 3) := by decide +kernel
theorem dX7_init_11 : decode cX7_init 11 = .ok (.aload_n 0, 1) := by decide +kernel
theorem dX7_init_12 : decode cX7_init 12 = .ok (.bipush 96, 2) := by decide +kernel
theorem dX7_init_14 : decode cX7_init 14 = .ok (.newarray .int, 2) := by decide +kernel
theorem dX7_init_16 : decode cX7_init 16 = .ok (.dup, 1) := by decide +kernel
theorem dX7_init_17 : decode cX7_init 17 = .ok (.iconst 0, 1) := by decide +kernel
theorem dX7_init_18 : decode cX7_init 18 = .ok (.iconst 1, 1) := by decide +kernel
theorem dX7_init_19 : decode cX7_init 19 = .ok (.iastore, 1) := by decide +kernel
theorem dX7_init_20 : decode cX7_init 20 = .ok (.dup, 1) := by decide +kernel
theorem dX7_init_21 : decode cX7_init 21 = .ok (.iconst 1, 1) := by decide +kernel
theorem dX7_init_22 : decode cX7_init 22 = .ok (.iconst 1, 1) := by decide +kernel
theorem dX7_init_23 : decode cX7_init 23 = .ok (.iastore, 1) := by decide +kernel
theorem dX7_init_24 : decode cX7_init 24 = .ok (.dup, 1) := by decide +kernel
theorem dX7_init_25 : decode cX7_init 25 = .ok (.iconst 2, 1) := by decide +kernel
theorem dX7_init_26 : decode cX7_init 26 = .ok (.iconst 1, 1) := by decide +kernel
theorem dX7_init_27 : decode cX7_init 27 = .ok (.iastore, 1) := by decide +kernel
theorem dX7_init_28 : decode cX7_init 28 = .ok (.dup, 1) := by decide +kernel
theorem dX7_init_29 : decode cX7_init 29 = .ok (.iconst 3, 1) := by decide +kernel
theorem dX7_init_30 : decode cX7_init 30 = .ok (.iconst 1, 1) := by decide +kernel
theorem dX7_init_31 : decode cX7_init 31 = .ok (.iastore, 1) := by decide +kernel
theorem dX7_init_32 : decode cX7_init 32 = .ok (.dup, 1) := by decide +kernel
theorem dX7_init_33 : decode cX7_init 33 = .ok (.iconst 4, 1) := by decide +kernel
theorem dX7_init_34 : decode cX7_init 34 = .ok (.iconst 1, 1) := by decide +kernel
theorem dX7_init_35 : decode cX7_init 35 = .ok (.iastore, 1) := by decide +kernel
theorem dX7_init_36 : decode cX7_init 36 = .ok (.dup, 1) := by decide +kernel
theorem dX7_init_37 : decode cX7_init 37 = .ok (.iconst 5, 1) := by decide +kernel
theorem dX7_init_38 : decode cX7_init 38 = .ok (.iconst 1, 1) := by decide +kernel
theorem dX7_init_39 : decode cX7_init 39 = .ok (.iastore, 1) := by decide +kernel
theorem dX7_init_40 : decode cX7_init 40 = .ok (.dup, 1) := by decide +kernel
theorem dX7_init_41 : decode cX7_init 41 = .ok (.bipush 6, 2) := by decide +kernel
theorem dX7_init_43 : decode cX7_init 43 = .ok (.iconst 1, 1) := by decide +kernel
theorem dX7_init_44 : decode cX7_init 44 = .ok (.iastore, 1) := by decide +kernel
theorem dX7_init_45 : decode cX7_init 45 = .ok (.dup, 1) := by decide +kernel
theorem dX7_init_46 : decode cX7_init 46 = .ok (.bipush 7, 2) := by decide +kernel
theorem dX7_init_48 : decode cX7_init 48 = .ok (.iconst 1, 1) := by decide +kernel
theorem dX7_init_49 : decode cX7_init 49 = .ok (.iastore, 1) := by decide +kernel
theorem dX7_init_50 : decode cX7_init 50 = .ok (.dup, 1) := by decide +kernel
theorem dX7_init_51 : decode cX7_init 51 = .ok (.bipush 8, 2) := by decide +kernel
theorem dX7_init_53 : decode cX7_init 53 = .ok (.iconst 1, 1) := by decide +kernel
theorem dX7_init_54 : decode cX7_init 54 = .ok (.iastore, 1) := by decide +kernel
theorem dX7_init_55 : decode cX7_init 55 = .ok (.dup, 1) := by decide +kernel
theorem dX7_init_56 : decode cX7_init 56 = .ok (.bipush 9, 2) := by decide +kernel
theorem dX7_init_58 : decode cX7_init 58 = .ok (.iconst 1, 1) := by decide +kernel
theorem dX7_init_59 : decode cX7_init 59 = .ok (.iastore, 1) := by decide +kernel
theorem dX7_init_60 : decode cX7_init 60 = .ok (.dup, 1) := by decide +kernel
theorem dX7_init_61 : decode cX7_init 61 = .ok (.bipush 10, 2) := by decide +kernel
theorem dX7_init_63 : decode cX7_init 63 = .ok (.iconst 1, 1) := by decide +kernel
theorem dX7_init_64 : decode cX7_init 64 = .ok (.iastore, 1) := by decide +kernel
theorem dX7_init_65 : decode cX7_init 65 = .ok (.dup, 1) := by decide +kernel
theorem dX7_init_66 : decode cX7_init 66 = .ok (.bipush 11, 2) := by decide +kernel
theorem dX7_init_68 : decode cX7_init 68 = .ok (.iconst 1, 1) := by decide +kernel
theorem dX7_init_69 : decode cX7_init 69 = .ok (.iastore, 1) := by decide +kernel
theorem dX7_init_70 : decode cX7_init 70 = .ok (.dup, 1) := by decide +kernel
theorem dX7_init_71 : decode cX7_init 71 = .ok (.bipush 12, 2) := by decide +kernel
theorem dX7_init_73 : decode cX7_init 73 = .ok (.iconst 1, 1) := by decide +kernel
theorem dX7_init_74 : decode cX7_init 74 = .ok (.iastore, 1) := by decide +kernel
theorem dX7_init_75 : decode cX7_init 75 = .ok (.dup, 1) := by decide +kernel
theorem dX7_init_76 : decode cX7_init 76 = .ok (.bipush 13, 2) := by decide +kernel
theorem dX7_init_78 : decode cX7_init 78 = .ok (.iconst 1, 1) := by decide +kernel
theorem dX7_init_79 : decode cX7_init 79 = .ok (.iastore, 1) := by decide +kernel
theorem dX7_init_80 : decode cX7_init 80 = .ok (.dup, 1) := by decide +kernel
theorem dX7_init_81 : decode cX7_init 81 = .ok (.bipush 14, 2) := by decide +kernel
theorem dX7_init_83 : decode cX7_init 83 = .ok (.iconst 1, 1) := by decide +kernel
theorem dX7_init_84 : decode cX7_init 84 = .ok (.iastore, 1) := by decide +kernel
theorem dX7_init_85 : decode cX7_init 85 = .ok (.dup, 1) := by decide +kernel
theorem dX7_init_86 : decode cX7_init 86 = .ok (.bipush 15, 2) := by decide +kernel
theorem dX7_init_88 : decode cX7_init 88 = .ok (.iconst 1, 1) := by decide +kernel
theorem dX7_init_89 : decode cX7_init 89 = .ok (.iastore, 1) := by decide +kernel
theorem dX7_init_90 : decode cX7_init 90 = .ok (.dup, 1) := by decide +kernel
theorem dX7_init_91 : decode cX7_init 91 = .ok (.bipush 16, 2) := by decide +kernel
theorem dX7_init_93 : decode cX7_init 93 = .ok (.iconst 1, 1) := by decide +kernel
theorem dX7_init_94 : decode cX7_init 94 = .ok (.iastore, 1) := by decide +kernel
theorem dX7_init_95 : decode cX7_init 95 = .ok (.dup, 1) := by decide +kernel
theorem dX7_init_96 : decode cX7_init 96 = .ok (.bipush 17, 2) := by decide +kernel
theorem dX7_init_98 : decode cX7_init 98 = .ok (.iconst 1, 1) := by decide +kernel
theorem dX7_init_99 : decode cX7_init 99 = .ok (.iastore, 1) := by decide +kernel
theorem dX7_init_100 : decode cX7_init 100 = .ok (.dup, 1) := by decide +kernel
theorem dX7_init_101 : decode cX7_init 101 = .ok (.bipush 18, 2) := by decide +kernel
theorem dX7_init_103 : decode cX7_init 103 = .ok (.iconst 1, 1) := by decide +kernel
theorem dX7_init_104 : decode cX7_init 104 = .ok (.iastore, 1) := by decide +kernel
theorem dX7_init_105 : decode cX7_init 105 = .ok (.dup, 1) := by decide +kernel
theorem dX7_init_106 : decode cX7_init 106 = .ok (.bipush 19, 2) := by decide +kernel
theorem dX7_init_108 : decode cX7_init 108 = .ok (.iconst 1, 1) := by decide +kernel
theorem dX7_init_109 : decode cX7_init 109 = .ok (.iastore, 1) := by decide +kernel
theorem dX7_init_110 : decode cX7_init 110 = .ok (.dup, 1) := by decide +kernel
theorem dX7_init_111 : decode cX7_init 111 = .ok (.bipush 20, 2) := by decide +kernel
theorem dX7_init_113 : decode cX7_init 113 = .ok (.iconst 1, 1) := by decide +kernel
theorem dX7_init_114 : decode cX7_init 114 = .ok (.iastore, 1) := by decide +kernel
theorem dX7_init_115 : decode cX7_init 115 = .ok (.dup, 1) := by decide +kernel
theorem dX7_init_116 : decode cX7_init 116 = .ok (.bipush 21, 2) := by decide +kernel
theorem dX7_init_118 : decode cX7_init 118 = .ok (.iconst 1, 1) := by decide +kernel
theorem dX7_init_119 : decode cX7_init 119 = .ok (.iastore, 1) := by decide +kernel
theorem dX7_init_120 : decode cX7_init 120 = .ok (.dup, 1) := by decide +kernel
theorem dX7_init_121 : decode cX7_init 121 = .ok (.bipush 22, 2) := by decide +kernel
theorem dX7_init_123 : decode cX7_init 123 = .ok (.iconst 1, 1) := by decide +kernel
theorem dX7_init_124 : decode cX7_init 124 = .ok (.iastore, 1) := by decide +kernel
theorem dX7_init_125 : decode cX7_init 125 = .ok (.dup, 1) := by decide +kernel
theorem dX7_init_126 : decode cX7_init 126 = .ok (.bipush 23, 2) := by decide +kernel
theorem dX7_init_128 : decode cX7_init 128 = .ok (.iconst 1, 1) := by decide +kernel
theorem dX7_init_129 : decode cX7_init 129 = .ok (.iastore, 1) := by decide +kernel
theorem dX7_init_130 : decode cX7_init 130 = .ok (.dup, 1) := by decide +kernel
theorem dX7_init_131 : decode cX7_init 131 = .ok (.bipush 24, 2) := by decide +kernel
theorem dX7_init_133 : decode cX7_init 133 = .ok (.iconst 1, 1) := by decide +kernel
theorem dX7_init_134 : decode cX7_init 134 = .ok (.iastore, 1) := by decide +kernel
theorem dX7_init_135 : decode cX7_init 135 = .ok (.dup, 1) := by decide +kernel
theorem dX7_init_136 : decode cX7_init 136 = .ok (.bipush 25, 2) := by decide +kernel
theorem dX7_init_138 : decode cX7_init 138 = .ok (.iconst 1, 1) := by decide +kernel
theorem dX7_init_139 : decode cX7_init 139 = .ok (.iastore, 1) := by decide +kernel
theorem dX7_init_140 : decode cX7_init 140 = .ok (.dup, 1) := by decide +kernel
theorem dX7_init_141 : decode cX7_init 141 = .ok (.bipush 26, 2) := by decide +kernel
theorem dX7_init_143 : decode cX7_init 143 = .ok (.iconst 1, 1) := by decide +kernel
theorem dX7_init_144 : decode cX7_init 144 = .ok (.iastore, 1) := by decide +kernel
theorem dX7_init_145 : decode cX7_init 145 = .ok (.dup, 1) := by decide +kernel
theorem dX7_init_146 : decode cX7_init 146 = .ok (.bipush 27, 2) := by decide +kernel
theorem dX7_init_148 : decode cX7_init 148 = .ok (.iconst 1, 1) := by decide +kernel
theorem dX7_init_149 : decode cX7_init 149 = .ok (.iastore, 1) := by decide +kernel
theorem dX7_init_150 : decode cX7_init 150 = .ok (.dup, 1) := by decide +kernel
theorem dX7_init_151 : decode cX7_init 151 = .ok (.bipush 28, 2) := by decide +kernel
theorem dX7_init_153 : decode cX7_init 153 = .ok (.iconst 1, 1) := by decide +kernel
theorem dX7_init_154 : decode cX7_init 154 = .ok (.iastore, 1) := by decide +kernel
theorem dX7_init_155 : decode cX7_init 155 = .ok (.dup, 1) := by decide +kernel
theorem dX7_init_156 : decode cX7_init 156 = .ok (.bipush 29, 2) := by decide +kernel
theorem dX7_init_158 : decode cX7_init 158 = .ok (.iconst 1, 1) := by decide +kernel
theorem dX7_init_159 : decode cX7_init 159 = .ok (.iastore, 1) := by decide +kernel
theorem dX7_init_160 : decode cX7_init 160 = .ok (.dup, 1) := by decide +kernel
theorem dX7_init_161 : decode cX7_init 161 = .ok (.bipush 30, 2) := by decide +kernel
theorem dX7_init_163 : decode cX7_init 163 = .ok (.iconst 1, 1) := by decide +kernel
theorem dX7_init_164 : decode cX7_init 164 = .ok (.iastore, 1) := by decide +kernel
theorem dX7_init_165 : decode cX7_init 165 = .ok (.dup, 1) := by decide +kernel
theorem dX7_init_166 : decode cX7_init 166 = .ok (.bipush 31, 2) := by decide +kernel
theorem dX7_init_168 : decode cX7_init 168 = .ok (.iconst 1, 1) := by decide +kernel
theorem dX7_init_169 : decode cX7_init 169 = .ok (.iastore, 1) := by decide +kernel
theorem dX7_init_170 : decode cX7_init 170 = .ok (.dup, 1) := by decide +kernel
theorem dX7_init_171 : decode cX7_init 171 = .ok (.bipush 32, 2) := by decide +kernel
theorem dX7_init_173 : decode cX7_init 173 = .ok (.iconst 1, 1) := by decide +kernel
theorem dX7_init_174 : decode cX7_init 174 = .ok (.iastore, 1) := by decide +kernel
theorem dX7_init_175 : decode cX7_init 175 = .ok (.dup, 1) := by decide +kernel
theorem dX7_init_176 : decode cX7_init 176 = .ok (.bipush 33, 2) := by decide +kernel
theorem dX7_init_178 : decode cX7_init 178 = .ok (.iconst 1, 1) := by decide +kernel
theorem dX7_init_179 : decode cX7_init 179 = .ok (.iastore, 1) := by decide +kernel
theorem dX7_init_180 : decode cX7_init 180 = .ok (.dup, 1) := by decide +kernel
theorem dX7_init_181 : decode cX7_init 181 = .ok (.bipush 34, 2) := by decide +kernel
theorem dX7_init_183 : decode cX7_init 183 = .ok (.iconst 1, 1) := by decide +kernel
theorem dX7_init_184 : decode cX7_init 184 = .ok (.iastore, 1) := by decide +kernel
theorem dX7_init_185 : decode cX7_init 185 = .ok (.dup, 1) := by decide +kernel
theorem dX7_init_186 : decode cX7_init 186 = .ok (.bipush 35, 2) := by decide +kernel
theorem dX7_init_188 : decode cX7_init 188 = .ok (.iconst 1, 1) := by decide +kernel
theorem dX7_init_189 : decode cX7_init 189 = .ok (.iastore, 1) := by decide +kernel
theorem dX7_init_190 : decode cX7_init 190 = .ok (.dup, 1) := by decide +kernel
theorem dX7_init_191 : decode cX7_init 191 = .ok (.bipush 36, 2) := by decide +kernel
theorem dX7_init_193 : decode cX7_init 193 = .ok (.iconst 1, 1) := by decide +kernel
theorem dX7_init_194 : decode cX7_init 194 = .ok (.iastore, 1) := by decide +kernel
theorem dX7_init_195 : decode cX7_init 195 = .ok (.dup, 1) := by decide +kernel
theorem dX7_init_196 : decode cX7_init 196 = .ok (.bipush 37, 2) := by decide +kernel
theorem dX7_init_198 : decode cX7_init 198 = .ok (.iconst 1, 1) := by decide +kernel
theorem dX7_init_199 : decode cX7_init 199 = .ok (.iastore, 1) := by decide +kernel
theorem dX7_init_200 : decode cX7_init 200 = .ok (.dup, 1) := by decide +kernel
theorem dX7_init_201 : decode cX7_init 201 = .ok (.bipush 38, 2) := by decide +kernel
theorem dX7_init_203 : decode cX7_init 203 = .ok (.iconst 1, 1) := by decide +kernel
theorem dX7_init_204 : decode cX7_init 204 = .ok (.iastore, 1) := by decide +kernel
theorem dX7_init_205 : decode cX7_init 205 = .ok (.dup, 1) := by decide +kernel
theorem dX7_init_206 : decode cX7_init 206 = .ok (.bipush 39, 2) := by decide +kernel
theorem dX7_init_208 : decode cX7_init 208 = .ok (.iconst 1, 1) := by decide +kernel
theorem dX7_init_209 : decode cX7_init 209 = .ok (.iastore, 1) := by decide +kernel
theorem dX7_init_210 : decode cX7_init 210 = .ok (.dup, 1) := by decide +kernel
theorem dX7_init_211 : decode cX7_init 211 = .ok (.bipush 40, 2) := by decide +kernel
theorem dX7_init_213 : decode cX7_init 213 = .ok (.iconst 1, 1) := by decide +kernel
theorem dX7_init_214 : decode cX7_init 214 = .ok (.iastore, 1) := by decide +kernel
theorem dX7_init_215 : decode cX7_init 215 = .ok (.dup, 1) := by decide +kernel
theorem dX7_init_216 : decode cX7_init 216 = .ok (.bipush 41, 2) := by decide +kernel
theorem dX7_init_218 : decode cX7_init 218 = .ok (.iconst 1, 1) := by decide +kernel
theorem dX7_init_219 : decode cX7_init 219 = .ok (.iastore, 1) := by decide +kernel
theorem dX7_init_220 : decode cX7_init 220 = .ok (.dup, 1) := by decide +kernel
theorem dX7_init_221 : decode cX7_init 221 = .ok (.bipush 42, 2) := by decide +kernel
theorem dX7_init_223 : decode cX7_init 223 = .ok (.iconst 1, 1) := by decide +kernel
theorem dX7_init_224 : decode cX7_init 224 = .ok (.iastore, 1) := by decide +kernel
theorem dX7_init_225 : decode cX7_init 225 = .ok (.dup, 1) := by decide +kernel
theorem dX7_init_226 : decode cX7_init 226 = .ok (.bipush 43, 2) := by decide +kernel
theorem dX7_init_228 : decode cX7_init 228 = .ok (.iconst 1, 1) := by decide +kernel
theorem dX7_init_229 : decode cX7_init 229 = .ok (.iastore, 1) := by decide +kernel
theorem dX7_init_230 : decode cX7_init 230 = .ok (.dup, 1) := by decide +kernel
theorem dX7_init_231 : decode cX7_init 231 = .ok (.bipush 44, 2) := by decide +kernel
theorem dX7_init_233 : decode cX7_init 233 = .ok (.iconst 1, 1) := by decide +kernel
theorem dX7_init_234 : decode cX7_init 234 = .ok (.iastore, 1) := by decide +kernel
theorem dX7_init_235 : decode cX7_init 235 = .ok (.dup, 1) := by decide +kernel
theorem dX7_init_236 : decode cX7_init 236 = .ok (.bipush 45, 2) := by decide +kernel
theorem dX7_init_238 : decode cX7_init 238 = .ok (.iconst 1, 1) := by decide +kernel
theorem dX7_init_239 : decode cX7_init 239 = .ok (.iastore, 1) := by decide +kernel
theorem dX7_init_240 : decode cX7_init 240 = .ok (.dup, 1) := by decide +kernel
theorem dX7_init_241 : decode cX7_init 241 = .ok (.bipush 46, 2) := by decide +kernel
theorem dX7_init_243 : decode cX7_init 243 = .ok (.iconst 1, 1) := by decide +kernel
theorem dX7_init_244 : decode cX7_init 244 = .ok (.iastore, 1) := by decide +kernel
theorem dX7_init_245 : decode cX7_init 245 = .ok (.dup, 1) := by decide +kernel
theorem dX7_init_246 : decode cX7_init 246 = .ok (.bipush 47, 2) := by decide +kernel
theorem dX7_init_248 : decode cX7_init 248 = .ok (.iconst 1, 1) := by decide +kernel
theorem dX7_init_249 : decode cX7_init 249 = .ok (.iastore, 1) := by decide +kernel
theorem dX7_init_250 : decode cX7_init 250 = .ok (.dup, 1) := by decide +kernel
theorem dX7_init_251 : decode cX7_init 251 = .ok (.bipush 48, 2) := by decide +kernel
theorem dX7_init_253 : decode cX7_init 253 = .ok (.iconst 1, 1) := by decide +kernel
theorem dX7_init_254 : decode cX7_init 254 = .ok (.iastore, 1) := by decide +kernel
theorem dX7_init_255 : decode cX7_init 255 = .ok (.dup, 1) := by decide +kernel
theorem dX7_init_256 : decode cX7_init 256 = .ok (.bipush 49, 2) := by decide +kernel
theorem dX7_init_258 : decode cX7_init 258 = .ok (.iconst 1, 1) := by decide +kernel
theorem dX7_init_259 : decode cX7_init 259 = .ok (.iastore, 1) := by decide +kernel
theorem dX7_init_260 : decode cX7_init 260 = .ok (.dup, 1) := by decide +kernel
theorem dX7_init_261 : decode cX7_init 261 = .ok (.bipush 50, 2) := by decide +kernel
theorem dX7_init_263 : decode cX7_init 263 = .ok (.iconst 1, 1) := by decide +kernel
theorem dX7_init_264 : decode cX7_init 264 = .ok (.iastore, 1) := by decide +kernel
theorem dX7_init_265 : decode cX7_init 265 = .ok (.dup, 1) := by decide +kernel
theorem dX7_init_266 : decode cX7_init 266 = .ok (.bipush 51, 2) := by decide +kernel
theorem dX7_init_268 : decode cX7_init 268 = .ok (.iconst 1, 1) := by decide +kernel
theorem dX7_init_269 : decode cX7_init 269 = .ok (.iastore, 1) := by decide +kernel
theorem dX7_init_270 : decode cX7_init 270 = .ok (.dup, 1) := by decide +kernel
theorem dX7_init_271 : decode cX7_init 271 = .ok (.bipush 52, 2) := by decide +kernel
theorem dX7_init_273 : decode cX7_init 273 = .ok (.iconst 1, 1) := by decide +kernel
theorem dX7_init_274 : decode cX7_init 274 = .ok (.iastore, 1) := by decide +kernel
theorem dX7_init_275 : decode cX7_init 275 = .ok (.dup, 1) := by decide +kernel
theorem dX7_init_276 : decode cX7_init 276 = .ok (.bipush 53, 2) := by decide +kernel
theorem dX7_init_278 : decode cX7_init 278 = .ok (.iconst 1, 1) := by decide +kernel
theorem dX7_init_279 : decode cX7_init 279 = .ok (.iastore, 1) := by decide +kernel
theorem dX7_init_280 : decode cX7_init 280 = .ok (.dup, 1) := by decide +kernel
theorem dX7_init_281 : decode cX7_init 281 = .ok (.bipush 54, 2) := by decide +kernel
theorem dX7_init_283 : decode cX7_init 283 = .ok (.iconst 1, 1) := by decide +kernel
theorem dX7_init_284 : decode cX7_init 284 = .ok (.iastore, 1) := by decide +kernel
theorem dX7_init_285 : decode cX7_init 285 = .ok (.dup, 1) := by decide +kernel
theorem dX7_init_286 : decode cX7_init 286 = .ok (.bipush 55, 2) := by decide +kernel
theorem dX7_init_288 : decode cX7_init 288 = .ok (.iconst 1, 1) := by decide +kernel
theorem dX7_init_289 : decode cX7_init 289 = .ok (.iastore, 1) := by decide +kernel
theorem dX7_init_290 : decode cX7_init 290 = .ok (.dup, 1) := by decide +kernel
theorem dX7_init_291 : decode cX7_init 291 = .ok (.bipush 56, 2) := by decide +kernel
theorem dX7_init_293 : decode cX7_init 293 = .ok (.iconst 1, 1) := by decide +kernel
theorem dX7_init_294 : decode cX7_init 294 = .ok (.iastore, 1) := by decide +kernel
theorem dX7_init_295 : decode cX7_init 295 = .ok (.dup, 1) := by decide +kernel
theorem dX7_init_296 : decode cX7_init 296 = .ok (.bipush 57, 2) := by decide +kernel
theorem dX7_init_298 : decode cX7_init 298 = .ok (.iconst 1, 1) := by decide +kernel
theorem dX7_init_299 : decode cX7_init 299 = .ok (.iastore, 1) := by decide +kernel
theorem dX7_init_300 : decode cX7_init 300 = .ok (.dup, 1) := by decide +kernel
theorem dX7_init_301 : decode cX7_init 301 = .ok (.bipush 58, 2) := by decide +kernel
theorem dX7_init_303 : decode cX7_init 303 = .ok (.iconst 1, 1) := by decide +kernel
theorem dX7_init_304 : decode cX7_init 304 = .ok (.iastore, 1) := by decide +kernel
theorem dX7_init_305 : decode cX7_init 305 = .ok (.dup, 1) := by decide +kernel
theorem dX7_init_306 : decode cX7_init 306 = .ok (.bipush 59, 2) := by decide +kernel
theorem dX7_init_308 : decode cX7_init 308 = .ok (.iconst 1, 1) := by decide +kernel
theorem dX7_init_309 : decode cX7_init 309 = .ok (.iastore, 1) := by decide +kernel
theorem dX7_init_310 : decode cX7_init 310 = .ok (.dup, 1) := by decide +kernel
theorem dX7_init_311 : decode cX7_init 311 = .ok (.bipush 60, 2) := by decide +kernel
theorem dX7_init_313 : decode cX7_init 313 = .ok (.iconst 1, 1) := by decide +kernel
theorem dX7_init_314 : decode cX7_init 314 = .ok (.iastore, 1) := by decide +kernel
theorem dX7_init_315 : decode cX7_init 315 = .ok (.dup, 1) := by decide +kernel
theorem dX7_init_316 : decode cX7_init 316 = .ok (.bipush 61, 2) := by decide +kernel
theorem dX7_init_318 : decode cX7_init 318 = .ok (.iconst 1, 1) := by decide +kernel
theorem dX7_init_319 : decode cX7_init 319 = .ok (.iastore, 1) := by decide +kernel
theorem dX7_init_320 : decode cX7_init 320 = .ok (.dup, 1) := by decide +kernel
theorem dX7_init_321 : decode cX7_init 321 = .ok (.bipush 62, 2) := by decide +kernel
theorem dX7_init_323 : decode cX7_init 323 = .ok (.iconst 1, 1) := by decide +kernel
theorem dX7_init_324 : decode cX7_init 324 = .ok (.iastore, 1) := by decide +kernel
theorem dX7_init_325 : decode cX7_init 325 = .ok (.dup, 1) := by decide +kernel
theorem dX7_init_326 : decode cX7_init 326 = .ok (.bipush 63, 2) := by decide +kernel
theorem dX7_init_328 : decode cX7_init 328 = .ok (.iconst 1, 1) := by decide +kernel
theorem dX7_init_329 : decode cX7_init 329 = .ok (.iastore, 1) := by decide +kernel
theorem dX7_init_330 : decode cX7_init 330 = .ok (.dup, 1) := by decide +kernel
theorem dX7_init_331 : decode cX7_init 331 = .ok (.bipush 64, 2) := by decide +kernel
theorem dX7_init_333 : decode cX7_init 333 = .ok (.iconst 1, 1) := by decide +kernel
theorem dX7_init_334 : decode cX7_init 334 = .ok (.iastore, 1) := by decide +kernel
theorem dX7_init_335 : decode cX7_init 335 = .ok (.dup, 1) := by decide +kernel
theorem dX7_init_336 : decode cX7_init 336 = .ok (.bipush 65, 2) := by decide +kernel
theorem dX7_init_338 : decode cX7_init 338 = .ok (.iconst 1, 1) := by decide +kernel
theorem dX7_init_339 : decode cX7_init 339 = .ok (.iastore, 1) := by decide +kernel
theorem dX7_init_340 : decode cX7_init 340 = .ok (.dup, 1) := by decide +kernel
theorem dX7_init_341 : decode cX7_init 341 = .ok (.bipush 66, 2) := by decide +kernel
theorem dX7_init_343 : decode cX7_init 343 = .ok (.iconst 1, 1) := by decide +kernel
theorem dX7_init_344 : decode cX7_init 344 = .ok (.iastore, 1) := by decide +kernel
theorem dX7_init_345 : decode cX7_init 345 = .ok (.dup, 1) := by decide +kernel
theorem dX7_init_346 : decode cX7_init 346 = .ok (.bipush 67, 2) := by decide +kernel
theorem dX7_init_348 : decode cX7_init 348 = .ok (.iconst 1, 1) := by decide +kernel
theorem dX7_init_349 : decode cX7_init 349 = .ok (.iastore, 1) := by decide +kernel
theorem dX7_init_350 : decode cX7_init 350 = .ok (.dup, 1) := by decide +kernel
theorem dX7_init_351 : decode cX7_init 351 = .ok (.bipush 68, 2) := by decide +kernel
theorem dX7_init_353 : decode cX7_init 353 = .ok (.iconst 1, 1) := by decide +kernel
theorem dX7_init_354 : decode cX7_init 354 = .ok (.iastore, 1) := by decide +kernel
theorem dX7_init_355 : decode cX7_init 355 = .ok (.dup, 1) := by decide +kernel
theorem dX7_init_356 : decode cX7_init 356 = .ok (.bipush 69, 2) := by decide +kernel
theorem dX7_init_358 : decode cX7_init 358 = .ok (.iconst 1, 1) := by decide +kernel
theorem dX7_init_359 : decode cX7_init 359 = .ok (.iastore, 1) := by decide +kernel
theorem dX7_init_360 : decode cX7_init 360 = .ok (.dup, 1) := by decide +kernel
theorem dX7_init_361 : decode cX7_init 361 = .ok (.bipush 70, 2) := by decide +kernel
theorem dX7_init_363 : decode cX7_init 363 = .ok (.iconst 1, 1) := by decide +kernel
theorem dX7_init_364 : decode cX7_init 364 = .ok (.iastore, 1) := by decide +kernel
theorem dX7_init_365 : decode cX7_init 365 = .ok (.dup, 1) := by decide +kernel
theorem dX7_init_366 : decode cX7_init 366 = .ok (.bipush 71, 2) := by decide +kernel
theorem dX7_init_368 : decode cX7_init 368 = .ok (.iconst 1, 1) := by decide +kernel
theorem dX7_init_369 : decode cX7_init 369 = .ok (.iastore, 1) := by decide +kernel
theorem dX7_init_370 : decode cX7_init 370 = .ok (.dup, 1) := by decide +kernel
theorem dX7_init_371 : decode cX7_init 371 = .ok (.bipush 72, 2) := by decide +kernel
theorem dX7_init_373 : decode cX7_init 373 = .ok (.iconst 1, 1) := by decide +kernel
theorem dX7_init_374 : decode cX7_init 374 = .ok (.iastore, 1) := by decide +kernel
theorem dX7_init_375 : decode cX7_init 375 = .ok (.dup, 1) := by decide +kernel
theorem dX7_init_376 : decode cX7_init 376 = .ok (.bipush 73, 2) := by decide +kernel
theorem dX7_init_378 : decode cX7_init 378 = .ok (.iconst 1, 1) := by decide +kernel
theorem dX7_init_379 : decode cX7_init 379 = .ok (.iastore, 1) := by decide +kernel
theorem dX7_init_380 : decode cX7_init 380 = .ok (.dup, 1) := by decide +kernel
theorem dX7_init_381 : decode cX7_init 381 = .ok (.bipush 74, 2) := by decide +kernel
theorem dX7_init_383 : decode cX7_init 383 = .ok (.iconst 1, 1) := by decide +kernel
theorem dX7_init_384 : decode cX7_init 384 = .ok (.iastore, 1) := by decide +kernel
theorem dX7_init_385 : decode cX7_init 385 = .ok (.dup, 1) := by decide +kernel
theorem dX7_init_386 : decode cX7_init 386 = .ok (.bipush 75, 2) := by decide +kernel
theorem dX7_init_388 : decode cX7_init 388 = .ok (.iconst 1, 1) := by decide +kernel
theorem dX7_init_389 : decode cX7_init 389 = .ok (.iastore, 1) := by decide +kernel
theorem dX7_init_390 : decode cX7_init 390 = .ok (.dup, 1) := by decide +kernel
theorem dX7_init_391 : decode cX7_init 391 = .ok (.bipush 76, 2) := by decide +kernel
theorem dX7_init_393 : decode cX7_init 393 = .ok (.iconst 1, 1) := by decide +kernel
theorem dX7_init_394 : decode cX7_init 394 = .ok (.iastore, 1) := by decide +kernel
theorem dX7_init_395 : decode cX7_init 395 = .ok (.dup, 1) := by decide +kernel
theorem dX7_init_396 : decode cX7_init 396 = .ok (.bipush 77, 2) := by decide +kernel
theorem dX7_init_398 : decode cX7_init 398 = .ok (.iconst 1, 1) := by decide +kernel
theorem dX7_init_399 : decode cX7_init 399 = .ok (.iastore, 1) := by decide +kernel
theorem dX7_init_400 : decode cX7_init 400 = .ok (.dup, 1) := by decide +kernel
theorem dX7_init_401 : decode cX7_init 401 = .ok (.bipush 78, 2) := by decide +kernel
theorem dX7_init_403 : decode cX7_init 403 = .ok (.iconst 1, 1) := by decide +kernel
theorem dX7_init_404 : decode cX7_init 404 = .ok (.iastore, 1) := by decide +kernel
theorem dX7_init_405 : decode cX7_init 405 = .ok (.dup, 1) := by decide +kernel
theorem dX7_init_406 : decode cX7_init 406 = .ok (.bipush 79, 2) := by decide +kernel
theorem dX7_init_408 : decode cX7_init 408 = .ok (.iconst 1, 1) := by decide +kernel
theorem dX7_init_409 : decode cX7_init 409 = .ok (.iastore, 1) := by decide +kernel
theorem dX7_init_410 : decode cX7_init 410 = .ok (.dup, 1) := by decide +kernel
theorem dX7_init_411 : decode cX7_init 411 = .ok (.bipush 80, 2) := by decide +kernel
theorem dX7_init_413 : decode cX7_init 413 = .ok (.iconst 1, 1) := by decide +kernel
theorem dX7_init_414 : decode cX7_init 414 = .ok (.iastore, 1) := by decide +kernel
theorem dX7_init_415 : decode cX7_init 415 = .ok (.dup, 1) := by decide +kernel
theorem dX7_init_416 : decode cX7_init 416 = .ok (.bipush 81, 2) := by decide +kernel
theorem dX7_init_418 : decode cX7_init 418 = .ok (.iconst 1, 1) := by decide +kernel
theorem dX7_init_419 : decode cX7_init 419 = .ok (.iastore, 1) := by decide +kernel
theorem dX7_init_420 : decode cX7_init 420 = .ok (.dup, 1) := by decide +kernel
theorem dX7_init_421 : decode cX7_init 421 = .ok (.bipush 82, 2) := by decide +kernel
theorem dX7_init_423 : decode cX7_init 423 = .ok (.iconst 1, 1) := by decide +kernel
theorem dX7_init_424 : decode cX7_init 424 = .ok (.iastore, 1) := by decide +kernel
theorem dX7_init_425 : decode cX7_init 425 = .ok (.dup, 1) := by decide +kernel
theorem dX7_init_426 : decode cX7_init 426 = .ok (.bipush 83, 2) := by decide +kernel
theorem dX7_init_428 : decode cX7_init 428 = .ok (.iconst 1, 1) := by decide +kernel
theorem dX7_init_429 : decode cX7_init 429 = .ok (.iastore, 1) := by decide +kernel
theorem dX7_init_430 : decode cX7_init 430 = .ok (.dup, 1) := by decide +kernel
theorem dX7_init_431 : decode cX7_init 431 = .ok (.bipush 84, 2) := by decide +kernel
theorem dX7_init_433 : decode cX7_init 433 = .ok (.iconst 1, 1) := by decide +kernel
theorem dX7_init_434 : decode cX7_init 434 = .ok (.iastore, 1) := by decide +kernel
theorem dX7_init_435 : decode cX7_init 435 = .ok (.dup, 1) := by decide +kernel
theorem dX7_init_436 : decode cX7_init 436 = .ok (.bipush 85, 2) := by decide +kernel
theorem dX7_init_438 : decode cX7_init 438 = .ok (.iconst 1, 1) := by decide +kernel
theorem dX7_init_439 : decode cX7_init 439 = .ok (.iastore, 1) := by decide +kernel
theorem dX7_init_440 : decode cX7_init 440 = .ok (.dup, 1) := by decide +kernel
theorem dX7_init_441 : decode cX7_init 441 = .ok (.bipush 86, 2) := by decide +kernel
theorem dX7_init_443 : decode cX7_init 443 = .ok (.iconst 1, 1) := by decide +kernel
theorem dX7_init_444 : decode cX7_init 444 = .ok (.iastore, 1) := by decide +kernel
theorem dX7_init_445 : decode cX7_init 445 = .ok (.dup, 1) := by decide +kernel
theorem dX7_init_446 : decode cX7_init 446 = .ok (.bipush 87, 2) := by decide +kernel
theorem dX7_init_448 : decode cX7_init 448 = .ok (.iconst 1, 1) := by decide +kernel
theorem dX7_init_449 : decode cX7_init 449 = .ok (.iastore, 1) := by decide +kernel
theorem dX7_init_450 : decode cX7_init 450 = .ok (.dup, 1) := by decide +kernel
theorem dX7_init_451 : decode cX7_init 451 = .ok (.bipush 88, 2) := by decide +kernel
theorem dX7_init_453 : decode cX7_init 453 = .ok (.iconst 1, 1) := by decide +kernel
theorem dX7_init_454 : decode cX7_init 454 = .ok (.iastore, 1) := by decide +kernel
theorem dX7_init_455 : decode cX7_init 455 = .ok (.dup, 1) := by decide +kernel
theorem dX7_init_456 : decode cX7_init 456 = .ok (.bipush 89, 2) := by decide +kernel
theorem dX7_init_458 : decode cX7_init 458 = .ok (.iconst 1, 1) := by decide +kernel
theorem dX7_init_459 : decode cX7_init 459 = .ok (.iastore, 1) := by decide +kernel
theorem dX7_init_460 : decode cX7_init 460 = .ok (.dup, 1) := by decide +kernel
theorem dX7_init_461 : decode cX7_init 461 = .ok (.bipush 90, 2) := by decide +kernel
theorem dX7_init_463 : decode cX7_init 463 = .ok (.iconst 1, 1) := by decide +kernel
theorem dX7_init_464 : decode cX7_init 464 = .ok (.iastore, 1) := by decide +kernel
theorem dX7_init_465 : decode cX7_init 465 = .ok (.dup, 1) := by decide +kernel
theorem dX7_init_466 : decode cX7_init 466 = .ok (.bipush 91, 2) := by decide +kernel
theorem dX7_init_468 : decode cX7_init 468 = .ok (.iconst 1, 1) := by decide +kernel
theorem dX7_init_469 : decode cX7_init 469 = .ok (.iastore, 1) := by decide +kernel
theorem dX7_init_470 : decode cX7_init 470 = .ok (.dup, 1) := by decide +kernel
theorem dX7_init_471 : decode cX7_init 471 = .ok (.bipush 92, 2) := by decide +kernel
theorem dX7_init_473 : decode cX7_init 473 = .ok (.iconst 1, 1) := by decide +kernel
theorem dX7_init_474 : decode cX7_init 474 = .ok (.iastore, 1) := by decide +kernel
theorem dX7_init_475 : decode cX7_init 475 = .ok (.dup, 1) := by decide +kernel
theorem dX7_init_476 : decode cX7_init 476 = .ok (.bipush 93, 2) := by decide +kernel
theorem dX7_init_478 : decode cX7_init 478 = .ok (.iconst 1, 1) := by decide +kernel
theorem dX7_init_479 : decode cX7_init 479 = .ok (.iastore, 1) := by decide +kernel
theorem dX7_init_480 : decode cX7_init 480 = .ok (.dup, 1) := by decide +kernel
theorem dX7_init_481 : decode cX7_init 481 = .ok (.bipush 94, 2) := by decide +kernel
theorem dX7_init_483 : decode cX7_init 483 = .ok (.iconst 1, 1) := by decide +kernel
theorem dX7_init_484 : decode cX7_init 484 = .ok (.iastore, 1) := by decide +kernel
theorem dX7_init_485 : decode cX7_init 485 = .ok (.dup, 1) := by decide +kernel
theorem dX7_init_486 : decode cX7_init 486 = .ok (.bipush 95, 2) := by decide +kernel
theorem dX7_init_488 : decode cX7_init 488 = .ok (.iconst 1, 1) := by decide +kernel
theorem dX7_init_489 : decode cX7_init 489 = .ok (.iastore, 1) := by decide +kernel
theorem dX7_init_490 : decode cX7_init 490 = .ok (.putfield 13, 3) := by decide +kernel
theorem dX7_init_493 : decode cX7_init 493 = .ok (.aload_n 0, 1) := by decide +kernel
theorem dX7_init_494 : decode cX7_init 494 = .ok (.bipush 13, 2) := by decide +kernel
theorem dX7_init_496 : decode cX7_init 496 = .ok (.newarray .int, 2) := by decide +kernel
theorem dX7_init_498 : decode cX7_init 498 = .ok (.putfield 16, 3) := by decide +kernel
theorem dX7_init_501 : decode cX7_init 501 = .ok (.aload_n 0, 1) := by decide +kernel
theorem dX7_init_502 : decode cX7_init 502 = .ok (.bipush 13, 2) := by decide +kernel
theorem dX7_init_504 : decode cX7_init 504 = .ok (.newarray .int, 2) := by decide +kernel
theorem dX7_init_506 : decode cX7_init 506 = .ok (.putfield 19, 3) := by decide +kernel
theorem dX7_init_509 : decode cX7_init 509 = .ok (.aload_n 0, 1) := by decide +kernel
theorem dX7_init_510 : decode cX7_init 510 = .ok (.sipush 840, 3) := by decide +kernel
theorem dX7_init_513 : decode cX7_init 513 = .ok (.newarray .int, 2) := by decide +kernel
theorem dX7_init_515 : decode cX7_init 515 = .ok (.putfield 22, 3) := by decide +kernel
theorem dX7_init_518 : decode cX7_init 518 = .ok (.aload_n 0, 1) := by decide +kernel
theorem dX7_init_519 : decode cX7_init 519 = .ok (.bipush 8, 2) := by decide +kernel
theorem dX7_init_521 : decode cX7_init 521 = .ok (.newarray .int, 2) := by decide +kernel
theorem dX7_init_523 : decode cX7_init 523 = .ok (.putfield 25, 3) := by decide +kernel
theorem dX7_init_526 : decode cX7_init 526 = .ok (.aload_n 0, 1) := by decide +kernel
theorem dX7_init_527 : decode cX7_init 527 = .ok (.bipush 12, 2) := by decide +kernel
theorem dX7_init_529 : decode cX7_init 529 = .ok (.newarray .int, 2) := by decide +kernel
theorem dX7_init_531 : decode cX7_init 531 = .ok (.putfield 28, 3) := by decide +kernel
theorem dX7_init_534 : decode cX7_init 534 = .ok (.aload_n 0, 1) := by decide +kernel
theorem dX7_init_535 : decode cX7_init 535 = .ok (.bipush 14, 2) := by decide +kernel
theorem dX7_init_537 : decode cX7_init 537 = .ok (.newarray .int, 2) := by decide +kernel
theorem dX7_init_539 : decode cX7_init 539 = .ok (.putfield 31, 3) := by decide +kernel
theorem dX7_init_542 : decode cX7_init 542 = .ok (.aload_n 0, 1) := by decide +kernel
theorem dX7_init_543 : decode cX7_init 543 = .ok (.bipush 14, 2) := by decide +kernel
theorem dX7_init_545 : decode cX7_init 545 = .ok (.newarray .int, 2) := by decide +kernel
theorem dX7_init_547 : decode cX7_init 547 = .ok (.putfield 34, 3) := by decide +kernel
theorem dX7_init_550 : decode cX7_init 550 = .ok (.aload_n 0, 1) := by decide +kernel
theorem dX7_init_551 : decode cX7_init 551 = .ok (.bipush 13, 2) := by decide +kernel
theorem dX7_init_553 : decode cX7_init 553 = .ok (.newarray .int, 2) := by decide +kernel
theorem dX7_init_555 : decode cX7_init 555 = .ok (.putfield 37, 3) := by decide +kernel
theorem dX7_init_558 : decode cX7_init 558 = .ok (.aload_n 0, 1) := by decide +kernel
theorem dX7_init_559 : decode cX7_init 559 = .ok (.bipush 120, 2) := by decide +kernel
theorem dX7_init_561 : decode cX7_init 561 = .ok (.newarray .int, 2) := by decide +kernel
theorem dX7_init_563 : decode cX7_init 563 = .ok (.putfield 40, 3) := by decide +kernel
theorem dX7_init_566 : decode cX7_init 566 = .ok (.aload_n 0, 1) := by decide +kernel
theorem dX7_init_567 : decode cX7_init 567 = .ok (.bipush 13, 2) := by decide +kernel
theorem dX7_init_569 : decode cX7_init 569 = .ok (.newarray .int, 2) := by decide +kernel
theorem dX7_init_571 : decode cX7_init 571 = .ok (.putfield 43, 3) := by decide +kernel
theorem dX7_init_574 : decode cX7_init 574 = .ok (.aload_n 0, 1) := by decide +kernel
theorem dX7_init_575 : decode cX7_init 575 = .ok (.sipush 140, 3) := by decide +kernel
theorem dX7_init_578 : decode cX7_init 578 = .ok (.newarray .int, 2) := by decide +kernel
theorem dX7_init_580 : decode cX7_init 580 = .ok (.putfield 46, 3) := by decide +kernel
theorem dX7_init_583 : decode cX7_init 583 = .ok (.return_, 1) := by decide +kernel
theorem dX7_bad_0 : decode cX7_bad 0 = .ok (.aload_n 0, 1) := by decide +kernel
theorem dX7_bad_1 : decode cX7_bad 1 = .ok (.getfield 7, 3) := by decide +kernel
theorem dX7_bad_4 : decode cX7_bad 4 = .ok (.iconst 0, 1) := by decide +kernel
theorem dX7_bad_5 : decode cX7_bad 5 = .ok (.dup2, 1) := by decide +kernel
theorem dX7_bad_6 : decode cX7_bad 6 = .ok (.iaload, 1) := by decide +kernel
theorem dX7_bad_7 : decode cX7_bad 7 = .ok (.iconst 1, 1) := by decide +kernel
theorem dX7_bad_8 : decode cX7_bad 8 = .ok (.iadd, 1) := by decide +kernel
theorem dX7_bad_9 : decode cX7_bad 9 = .ok (.iastore, 1) := by decide +kernel
theorem dX7_bad_10 : decode cX7_bad 10 = .ok (.bipush (-2), 2) := by decide +kernel
theorem dX7_bad_12 : decode cX7_bad 12 = .ok (.ireturn, 1) := by decide +kernel
theorem dX7_no_0 : decode cX7_no 0 = .ok (.aload_n 0, 1) := by decide +kernel
theorem dX7_no_1 : decode cX7_no 1 = .ok (.getfield 7, 3) := by decide +kernel
theorem dX7_no_4 : decode cX7_no 4 = .ok (.iconst 1, 1) := by decide +kernel
theorem dX7_no_5 : decode cX7_no 5 = .ok (.dup2, 1) := by decide +kernel
theorem dX7_no_6 : decode cX7_no 6 = .ok (.iaload, 1) := by decide +kernel
theorem dX7_no_7 : decode cX7_no 7 = .ok (.iconst 1, 1) := by decide +kernel
theorem dX7_no_8 : decode cX7_no 8 = .ok (.iadd, 1) := by decide +kernel
theorem dX7_no_9 : decode cX7_no 9 = .ok (.iastore, 1) := by decide +kernel
theorem dX7_no_10 : decode cX7_no 10 = .ok (.bipush (-3), 2) := by decide +kernel
theorem dX7_no_12 : decode cX7_no 12 = .ok (.ireturn, 1) := by decide +kernel
theorem dX7_full_0 : decode cX7_full 0 = .ok (.aload_n 0, 1) := by decide +kernel
theorem dX7_full_1 : decode cX7_full 1 = .ok (.getfield 7, 3) := by decide +kernel
theorem dX7_full_4 : decode cX7_full 4 = .ok (.iconst 2, 1) := by decide +kernel
theorem dX7_full_5 : decode cX7_full 5 = .ok (.dup2, 1) := by decide +kernel
theorem dX7_full_6 : decode cX7_full 6 = .ok (.iaload, 1) := by decide +kernel
theorem dX7_full_7 : decode cX7_full 7 = .ok (.iconst 1, 1) := by decide +kernel
theorem dX7_full_8 : decode cX7_full 8 = .ok (.iadd, 1) := by decide +kernel
theorem dX7_full_9 : decode cX7_full 9 = .ok (.iastore, 1) := by decide +kernel
theorem dX7_full_10 : decode cX7_full 10 = .ok (.bipush (-4), 2) := by decide +kernel
theorem dX7_full_12 : decode cX7_full 12 = .ok (.ireturn, 1) := by decide +kernel
theorem dX7_in_0 : decode cX7_in 0 = .ok (.iload_n 0, 1) := by decide +kernel
theorem dX7_in_1 : decode cX7_in 1 = .ok (.iload_n 1, 1) := by decide +kernel
theorem dX7_in_2 : decode cX7_in 2 = .ok (.if_icmp .lt 12, 3) := by decide +kernel
theorem dX7_in_5 : decode cX7_in 5 = .ok (.iload_n 0, 1) := by decide +kernel
theorem dX7_in_6 : decode cX7_in 6 = .ok (.iload_n 2, 1) := by decide +kernel
theorem dX7_in_7 : decode cX7_in 7 = .ok (.if_icmp .gt 7, 3) := by decide +kernel
theorem dX7_in_10 : decode cX7_in 10 = .ok (.iconst 1, 1) := by decide +kernel
theorem dX7_in_11 : decode cX7_in 11 = .ok (.goto 4, 3) := by decide +kernel
theorem dX7_in_14 : decode cX7_in 14 = .ok (.iconst 0, 1) := by decide +kernel
theorem dX7_in_15 : decode cX7_in 15 = .ok (.ireturn, 1) := by decide +kernel
theorem dX7_ones_0 : decode cX7_ones 0 = .ok (.iconst 0, 1) := by decide +kernel
theorem dX7_ones_1 : decode cX7_ones 1 = .ok (.istore_n 1, 1) := by decide +kernel
theorem dX7_ones_2 : decode cX7_ones 2 = .ok (.iconst 0, 1) := by decide +kernel
theorem dX7_ones_3 : decode cX7_ones 3 = .ok (.istore_n 2, 1) := by decide +kernel
theorem dX7_ones_4 : decode cX7_ones 4 = .ok (.iload_n 2, 1) := by decide +kernel
theorem dX7_ones_5 : decode cX7_ones 5 = .ok (.bipush 12, 2) := by decide +kernel
theorem dX7_ones_7 : decode cX7_ones 7 = .ok (.if_icmp .ge 17, 3) := by decide +kernel
theorem dX7_ones_10 : decode cX7_ones 10 = .ok (.iload_n 1, 1) := by decide +kernel
theorem dX7_ones_11 : decode cX7_ones 11 = .ok (.iload_n 0, 1) := by decide +kernel
theorem dX7_ones_12 : decode cX7_ones 12 = .ok (.iload_n 2, 1) := by decide +kernel
theorem dX7_ones_13 : decode cX7_ones 13 = .ok (.ishr, 1) := by decide +kernel
theorem dX7_ones_14 : decode cX7_ones 14 = .ok (.iconst 1, 1) := by decide +kernel
theorem dX7_ones_15 : decode cX7_ones 15 = .ok (.iand, 1) := by decide +kernel
theorem dX7_ones_16 : decode cX7_ones 16 = .ok (.iadd, 1) := by decide +kernel
theorem dX7_ones_17 : decode cX7_ones 17 = .ok (.istore_n 1, 1) := by decide +kernel
theorem dX7_ones_18 : decode cX7_ones 18 = .ok (.iinc 2 1, 3) := by decide +kernel
theorem dX7_ones_21 : decode cX7_ones 21 = .ok (.goto (-17), 3) := by decide +kernel
theorem dX7_ones_24 : decode cX7_ones 24 = .ok (.iload_n 1, 1) := by decide +kernel
theorem dX7_ones_25 : decode cX7_ones 25 = .ok (.ireturn, 1) := by decide +kernel
theorem dX7_writes_0 : decode cX7_writes 0 = .ok (.aload_n 0, 1) := by decide +kernel
theorem dX7_writes_1 : decode cX7_writes 1 = .ok (.getfield 22, 3) := by decide +kernel
theorem dX7_writes_4 : decode cX7_writes 4 = .ok (.iload_n 1, 1) := by decide +kernel
theorem dX7_writes_5 : decode cX7_writes 5 = .ok (.aload_n 0, 1) := by decide +kernel
theorem dX7_writes_6 : decode cX7_writes 6 = .ok (.getfield 49, 3) := by decide +kernel
theorem dX7_writes_9 : decode cX7_writes 9 = .ok (.iastore, 1) := by decide +kernel
theorem dX7_writes_10 : decode cX7_writes 10 = .ok (.aload_n 0, 1) := by decide +kernel
theorem dX7_writes_11 : decode cX7_writes 11 = .ok (.getfield 22, 3) := by decide +kernel
theorem dX7_writes_14 : decode cX7_writes 14 = .ok (.iload_n 1, 1) := by decide +kernel
theorem dX7_writes_15 : decode cX7_writes 15 = .ok (.iconst 1, 1) := by decide +kernel
theorem dX7_writes_16 : decode cX7_writes 16 = .ok (.iadd, 1) := by decide +kernel
theorem dX7_writes_17 : decode cX7_writes 17 = .ok (.aload_n 0, 1) := by decide +kernel
theorem dX7_writes_18 : decode cX7_writes 18 = .ok (.getfield 53, 3) := by decide +kernel
theorem dX7_writes_21 : decode cX7_writes 21 = .ok (.iastore, 1) := by decide +kernel
theorem dX7_writes_22 : decode cX7_writes 22 = .ok (.aload_n 0, 1) := by decide +kernel
theorem dX7_writes_23 : decode cX7_writes 23 = .ok (.getfield 22, 3) := by decide +kernel
theorem dX7_writes_26 : decode cX7_writes 26 = .ok (.iload_n 1, 1) := by decide +kernel
theorem dX7_writes_27 : decode cX7_writes 27 = .ok (.iconst 2, 1) := by decide +kernel
theorem dX7_writes_28 : decode cX7_writes 28 = .ok (.iadd, 1) := by decide +kernel
theorem dX7_writes_29 : decode cX7_writes 29 = .ok (.aload_n 0, 1) := by decide +kernel
theorem dX7_writes_30 : decode cX7_writes 30 = .ok (.getfield 56, 3) := by decide +kernel
theorem dX7_writes_33 : decode cX7_writes 33 = .ok (.iastore, 1) := by decide +kernel
theorem dX7_writes_34 : decode cX7_writes 34 = .ok (.iconst 0, 1) := by decide +kernel
theorem dX7_writes_35 : decode cX7_writes 35 = .ok (.istore_n 2, 1) := by decide +kernel
theorem dX7_writes_36 : decode cX7_writes 36 = .ok (.iload_n 2, 1) := by decide +kernel
theorem dX7_writes_37 : decode cX7_writes 37 = .ok (.bipush 12, 2) := by decide +kernel
theorem dX7_writes_39 : decode cX7_writes 39 = .ok (.if_icmp .ge 42, 3) := by decide +kernel
theorem dX7_writes_42 : decode cX7_writes 42 = .ok (.aload_n 0, 1) := by decide +kernel
theorem dX7_writes_43 : decode cX7_writes 43 = .ok (.getfield 22, 3) := by decide +kernel
theorem dX7_writes_46 : decode cX7_writes 46 = .ok (.iload_n 1, 1) := by decide +kernel
theorem dX7_writes_47 : decode cX7_writes 47 = .ok (.iconst 4, 1) := by decide +kernel
theorem dX7_writes_48 : decode cX7_writes 48 = .ok (.iadd, 1) := by decide +kernel
theorem dX7_writes_49 : decode cX7_writes 49 = .ok (.iload_n 2, 1) := by decide +kernel
theorem dX7_writes_50 : decode cX7_writes 50 = .ok (.iadd, 1) := by decide +kernel
theorem dX7_writes_51 : decode cX7_writes 51 = .ok (.aload_n 0, 1) := by decide +kernel
theorem dX7_writes_52 : decode cX7_writes 52 = .ok (.getfield 16, 3) := by decide +kernel
theorem dX7_writes_55 : decode cX7_writes 55 = .ok (.iload_n 2, 1) := by decide +kernel
theorem dX7_writes_56 : decode cX7_writes 56 = .ok (.iaload, 1) := by decide +kernel
theorem dX7_writes_57 : decode cX7_writes 57 = .ok (.iastore, 1) := by decide +kernel
theorem dX7_writes_58 : decode cX7_writes 58 = .ok (.aload_n 0, 1) := by decide +kernel
theorem dX7_writes_59 : decode cX7_writes 59 = .ok (.getfield 22, 3) := by decide +kernel
theorem dX7_writes_62 : decode cX7_writes 62 = .ok (.iload_n 1, 1) := by decide +kernel
theorem dX7_writes_63 : decode cX7_writes 63 = .ok (.bipush 16, 2) := by decide +kernel
theorem dX7_writes_65 : decode cX7_writes 65 = .ok (.iadd, 1) := by decide +kernel
theorem dX7_writes_66 : decode cX7_writes 66 = .ok (.iload_n 2, 1) := by decide +kernel
theorem dX7_writes_67 : decode cX7_writes 67 = .ok (.iadd, 1) := by decide +kernel
theorem dX7_writes_68 : decode cX7_writes 68 = .ok (.aload_n 0, 1) := by decide +kernel
theorem dX7_writes_69 : decode cX7_writes 69 = .ok (.getfield 19, 3) := by decide +kernel
theorem dX7_writes_72 : decode cX7_writes 72 = .ok (.iload_n 2, 1) := by decide +kernel
theorem dX7_writes_73 : decode cX7_writes 73 = .ok (.iaload, 1) := by decide +kernel
theorem dX7_writes_74 : decode cX7_writes 74 = .ok (.iastore, 1) := by decide +kernel
theorem dX7_writes_75 : decode cX7_writes 75 = .ok (.iinc 2 1, 3) := by decide +kernel
theorem dX7_writes_78 : decode cX7_writes 78 = .ok (.goto (-42), 3) := by decide +kernel
theorem dX7_writes_81 : decode cX7_writes 81 = .ok (.iconst 0, 1) := by decide +kernel
theorem dX7_writes_82 : decode cX7_writes 82 = .ok (.istore_n 2, 1) := by decide +kernel
theorem dX7_writes_83 : decode cX7_writes 83 = .ok (.iload_n 2, 1) := by decide +kernel
theorem dX7_writes_84 : decode cX7_writes 84 = .ok (.bipush 96, 2) := by decide +kernel
theorem dX7_writes_86 : decode cX7_writes 86 = .ok (.if_icmp .ge 26, 3) := by decide +kernel
theorem dX7_writes_89 : decode cX7_writes 89 = .ok (.aload_n 0, 1) := by decide +kernel
theorem dX7_writes_90 : decode cX7_writes 90 = .ok (.getfield 22, 3) := by decide +kernel
theorem dX7_writes_93 : decode cX7_writes 93 = .ok (.iload_n 1, 1) := by decide +kernel
theorem dX7_writes_94 : decode cX7_writes 94 = .ok (.bipush 28, 2) := by decide +kernel
theorem dX7_writes_96 : decode cX7_writes 96 = .ok (.iadd, 1) := by decide +kernel
theorem dX7_writes_97 : decode cX7_writes 97 = .ok (.iload_n 2, 1) := by decide +kernel
theorem dX7_writes_98 : decode cX7_writes 98 = .ok (.iadd, 1) := by decide +kernel
theorem dX7_writes_99 : decode cX7_writes 99 = .ok (.aload_n 0, 1) := by decide +kernel
theorem dX7_writes_100 : decode cX7_writes 100 = .ok (.getfield 13, 3) := by decide +kernel
theorem dX7_writes_103 : decode cX7_writes 103 = .ok (.iload_n 2, 1) := by decide +kernel
theorem dX7_writes_104 : decode cX7_writes 104 = .ok (.iaload, 1) := by decide +kernel
theorem dX7_writes_105 : decode cX7_writes 105 = .ok (.iastore, 1) := by decide +kernel
theorem dX7_writes_106 : decode cX7_writes 106 = .ok (.iinc 2 1, 3) := by decide +kernel
theorem dX7_writes_109 : decode cX7_writes 109 = .ok (.goto (-26), 3) := by decide +kernel
theorem dX7_writes_112 : decode cX7_writes 112 = .ok (.return_, 1) := by decide +kernel
theorem dX7_leavesState_0 : decode cX7_leavesState 0 = .ok (.aload_n 0, 1) := by decide +kernel
theorem dX7_leavesState_1 : decode cX7_leavesState 1 = .ok (.getfield 59, 3) := by decide +kernel
theorem dX7_leavesState_4 : decode cX7_leavesState 4 = .ok (.bipush 6, 2) := by decide +kernel
theorem dX7_leavesState_6 : decode cX7_leavesState 6 = .ok (.if_icmp .ne 44, 3) := by decide +kernel
theorem dX7_leavesState_9 : decode cX7_leavesState 9 = .ok (.iconst 0, 1) := by decide +kernel
theorem dX7_leavesState_10 : decode cX7_leavesState 10 = .ok (.istore_n 1, 1) := by decide +kernel
theorem dX7_leavesState_11 : decode cX7_leavesState 11 = .ok (.iload_n 1, 1) := by decide +kernel
theorem dX7_leavesState_12 : decode cX7_leavesState 12 = .ok (.sipush 700, 3) := by decide +kernel
theorem dX7_leavesState_15 : decode cX7_leavesState 15 = .ok (.if_icmp .ge 25, 3) := by decide +kernel
theorem dX7_leavesState_18 : decode cX7_leavesState 18 = .ok (.aload_n 0, 1) := by decide +kernel
theorem dX7_leavesState_19 : decode cX7_leavesState 19 = .ok (.getfield 22, 3) := by decide +kernel
theorem dX7_leavesState_22 : decode cX7_leavesState 22 = .ok (.iload_n 1, 1) := by decide +kernel
theorem dX7_leavesState_23 : decode cX7_leavesState 23 = .ok (.aload_n 0, 1) := by decide +kernel
theorem dX7_leavesState_24 : decode cX7_leavesState 24 = .ok (.getfield 22, 3) := by decide +kernel
theorem dX7_leavesState_27 : decode cX7_leavesState 27 = .ok (.iload_n 1, 1) := by decide +kernel
theorem dX7_leavesState_28 : decode cX7_leavesState 28 = .ok (.sipush 140, 3) := by decide +kernel
theorem dX7_leavesState_31 : decode cX7_leavesState 31 = .ok (.iadd, 1) := by decide +kernel
theorem dX7_leavesState_32 : decode cX7_leavesState 32 = .ok (.iaload, 1) := by decide +kernel
theorem dX7_leavesState_33 : decode cX7_leavesState 33 = .ok (.iastore, 1) := by decide +kernel
theorem dX7_leavesState_34 : decode cX7_leavesState 34 = .ok (.iinc 1 1, 3) := by decide +kernel
theorem dX7_leavesState_37 : decode cX7_leavesState 37 = .ok (.goto (-26), 3) := by decide +kernel
theorem dX7_leavesState_40 : decode cX7_leavesState 40 = .ok (.aload_n 0, 1) := by decide +kernel
theorem dX7_leavesState_41 : decode cX7_leavesState 41 = .ok (.dup, 1) := by decide +kernel
theorem dX7_leavesState_42 : decode cX7_leavesState 42 = .ok (.getfield 59, 3) := by decide +kernel
theorem dX7_leavesState_45 : decode cX7_leavesState 45 = .ok (.iconst 1, 1) := by decide +kernel
theorem dX7_leavesState_46 : decode cX7_leavesState 46 = .ok (.isub, 1) := by decide +kernel
theorem dX7_leavesState_47 : decode cX7_leavesState 47 = .ok (.putfield 59, 3) := by decide +kernel
theorem dX7_leavesState_50 : decode cX7_leavesState 50 = .ok (.aload_n 0, 1) := by decide +kernel
theorem dX7_leavesState_51 : decode cX7_leavesState 51 = .ok (.sipush 140, 3) := by decide +kernel
theorem dX7_leavesState_54 : decode cX7_leavesState 54 = .ok (.aload_n 0, 1) := by decide +kernel
theorem dX7_leavesState_55 : decode cX7_leavesState 55 = .ok (.getfield 59, 3) := by decide +kernel
theorem dX7_leavesState_58 : decode cX7_leavesState 58 = .ok (.imul, 1) := by decide +kernel
theorem dX7_leavesState_59 : decode cX7_leavesState 59 = .ok (.invokevirtual 62, 3) := by decide +kernel
theorem dX7_leavesState_62 : decode cX7_leavesState 62 = .ok (.aload_n 0, 1) := by decide +kernel
theorem dX7_leavesState_63 : decode cX7_leavesState 63 = .ok (.dup, 1) := by decide +kernel
theorem dX7_leavesState_64 : decode cX7_leavesState 64 = .ok (.getfield 59, 3) := by decide +kernel
theorem dX7_leavesState_67 : decode cX7_leavesState 67 = .ok (.iconst 1, 1) := by decide +kernel
theorem dX7_leavesState_68 : decode cX7_leavesState 68 = .ok (.iadd, 1) := by decide +kernel
theorem dX7_leavesState_69 : decode cX7_leavesState 69 = .ok (.putfield 59, 3) := by decide +kernel
theorem dX7_leavesState_72 : decode cX7_leavesState 72 = .ok (.return_, 1) := by decide +kernel
theorem dX7_comesBack_0 : decode cX7_comesBack 0 = .ok (.aload_n 0, 1) := by decide +kernel
theorem dX7_comesBack_1 : decode cX7_comesBack 1 = .ok (.dup, 1) := by decide +kernel
theorem dX7_comesBack_2 : decode cX7_comesBack 2 = .ok (.getfield 59, 3) := by decide +kernel
theorem dX7_comesBack_5 : decode cX7_comesBack 5 = .ok (.iconst 1, 1) := by decide +kernel
theorem dX7_comesBack_6 : decode cX7_comesBack 6 = .ok (.isub, 1) := by decide +kernel
theorem dX7_comesBack_7 : decode cX7_comesBack 7 = .ok (.putfield 59, 3) := by decide +kernel
theorem dX7_comesBack_10 : decode cX7_comesBack 10 = .ok (.sipush 140, 3) := by decide +kernel
theorem dX7_comesBack_13 : decode cX7_comesBack 13 = .ok (.aload_n 0, 1) := by decide +kernel
theorem dX7_comesBack_14 : decode cX7_comesBack 14 = .ok (.getfield 59, 3) := by decide +kernel
theorem dX7_comesBack_17 : decode cX7_comesBack 17 = .ok (.imul, 1) := by decide +kernel
theorem dX7_comesBack_18 : decode cX7_comesBack 18 = .ok (.istore_n 1, 1) := by decide +kernel
theorem dX7_comesBack_19 : decode cX7_comesBack 19 = .ok (.aload_n 0, 1) := by decide +kernel
theorem dX7_comesBack_20 : decode cX7_comesBack 20 = .ok (.aload_n 0, 1) := by decide +kernel
theorem dX7_comesBack_21 : decode cX7_comesBack 21 = .ok (.getfield 22, 3) := by decide +kernel
theorem dX7_comesBack_24 : decode cX7_comesBack 24 = .ok (.iload_n 1, 1) := by decide +kernel
theorem dX7_comesBack_25 : decode cX7_comesBack 25 = .ok (.iaload, 1) := by decide +kernel
theorem dX7_comesBack_26 : decode cX7_comesBack 26 = .ok (.putfield 49, 3) := by decide +kernel
theorem dX7_comesBack_29 : decode cX7_comesBack 29 = .ok (.aload_n 0, 1) := by decide +kernel
theorem dX7_comesBack_30 : decode cX7_comesBack 30 = .ok (.aload_n 0, 1) := by decide +kernel
theorem dX7_comesBack_31 : decode cX7_comesBack 31 = .ok (.getfield 22, 3) := by decide +kernel
theorem dX7_comesBack_34 : decode cX7_comesBack 34 = .ok (.iload_n 1, 1) := by decide +kernel
theorem dX7_comesBack_35 : decode cX7_comesBack 35 = .ok (.iconst 1, 1) := by decide +kernel
theorem dX7_comesBack_36 : decode cX7_comesBack 36 = .ok (.iadd, 1) := by decide +kernel
theorem dX7_comesBack_37 : decode cX7_comesBack 37 = .ok (.iaload, 1) := by decide +kernel
theorem dX7_comesBack_38 : decode cX7_comesBack 38 = .ok (.putfield 53, 3) := by decide +kernel
theorem dX7_comesBack_41 : decode cX7_comesBack 41 = .ok (.aload_n 0, 1) := by decide +kernel
theorem dX7_comesBack_42 : decode cX7_comesBack 42 = .ok (.aload_n 0, 1) := by decide +kernel
theorem dX7_comesBack_43 : decode cX7_comesBack 43 = .ok (.getfield 22, 3) := by decide +kernel
theorem dX7_comesBack_46 : decode cX7_comesBack 46 = .ok (.iload_n 1, 1) := by decide +kernel
theorem dX7_comesBack_47 : decode cX7_comesBack 47 = .ok (.iconst 2, 1) := by decide +kernel
theorem dX7_comesBack_48 : decode cX7_comesBack 48 = .ok (.iadd, 1) := by decide +kernel
theorem dX7_comesBack_49 : decode cX7_comesBack 49 = .ok (.iaload, 1) := by decide +kernel
theorem dX7_comesBack_50 : decode cX7_comesBack 50 = .ok (.putfield 56, 3) := by decide +kernel
theorem dX7_comesBack_53 : decode cX7_comesBack 53 = .ok (.iconst 0, 1) := by decide +kernel
theorem dX7_comesBack_54 : decode cX7_comesBack 54 = .ok (.istore_n 2, 1) := by decide +kernel
theorem dX7_comesBack_55 : decode cX7_comesBack 55 = .ok (.iload_n 2, 1) := by decide +kernel
theorem dX7_comesBack_56 : decode cX7_comesBack 56 = .ok (.bipush 12, 2) := by decide +kernel
theorem dX7_comesBack_58 : decode cX7_comesBack 58 = .ok (.if_icmp .ge 42, 3) := by decide +kernel
theorem dX7_comesBack_61 : decode cX7_comesBack 61 = .ok (.aload_n 0, 1) := by decide +kernel
theorem dX7_comesBack_62 : decode cX7_comesBack 62 = .ok (.getfield 16, 3) := by decide +kernel
theorem dX7_comesBack_65 : decode cX7_comesBack 65 = .ok (.iload_n 2, 1) := by decide +kernel
theorem dX7_comesBack_66 : decode cX7_comesBack 66 = .ok (.aload_n 0, 1) := by decide +kernel
theorem dX7_comesBack_67 : decode cX7_comesBack 67 = .ok (.getfield 22, 3) := by decide +kernel
theorem dX7_comesBack_70 : decode cX7_comesBack 70 = .ok (.iload_n 1, 1) := by decide +kernel
theorem dX7_comesBack_71 : decode cX7_comesBack 71 = .ok (.iconst 4, 1) := by decide +kernel
theorem dX7_comesBack_72 : decode cX7_comesBack 72 = .ok (.iadd, 1) := by decide +kernel
theorem dX7_comesBack_73 : decode cX7_comesBack 73 = .ok (.iload_n 2, 1) := by decide +kernel
theorem dX7_comesBack_74 : decode cX7_comesBack 74 = .ok (.iadd, 1) := by decide +kernel
theorem dX7_comesBack_75 : decode cX7_comesBack 75 = .ok (.iaload, 1) := by decide +kernel
theorem dX7_comesBack_76 : decode cX7_comesBack 76 = .ok (.iastore, 1) := by decide +kernel
theorem dX7_comesBack_77 : decode cX7_comesBack 77 = .ok (.aload_n 0, 1) := by decide +kernel
theorem dX7_comesBack_78 : decode cX7_comesBack 78 = .ok (.getfield 19, 3) := by decide +kernel
theorem dX7_comesBack_81 : decode cX7_comesBack 81 = .ok (.iload_n 2, 1) := by decide +kernel
theorem dX7_comesBack_82 : decode cX7_comesBack 82 = .ok (.aload_n 0, 1) := by decide +kernel
theorem dX7_comesBack_83 : decode cX7_comesBack 83 = .ok (.getfield 22, 3) := by decide +kernel
theorem dX7_comesBack_86 : decode cX7_comesBack 86 = .ok (.iload_n 1, 1) := by decide +kernel
theorem dX7_comesBack_87 : decode cX7_comesBack 87 = .ok (.bipush 16, 2) := by decide +kernel
theorem dX7_comesBack_89 : decode cX7_comesBack 89 = .ok (.iadd, 1) := by decide +kernel
theorem dX7_comesBack_90 : decode cX7_comesBack 90 = .ok (.iload_n 2, 1) := by decide +kernel
theorem dX7_comesBack_91 : decode cX7_comesBack 91 = .ok (.iadd, 1) := by decide +kernel
theorem dX7_comesBack_92 : decode cX7_comesBack 92 = .ok (.iaload, 1) := by decide +kernel
theorem dX7_comesBack_93 : decode cX7_comesBack 93 = .ok (.iastore, 1) := by decide +kernel
theorem dX7_comesBack_94 : decode cX7_comesBack 94 = .ok (.iinc 2 1, 3) := by decide +kernel
theorem dX7_comesBack_97 : decode cX7_comesBack 97 = .ok (.goto (-42), 3) := by decide +kernel
theorem dX7_comesBack_100 : decode cX7_comesBack 100 = .ok (.iconst 0, 1) := by decide +kernel
theorem dX7_comesBack_101 : decode cX7_comesBack 101 = .ok (.istore_n 2, 1) := by decide +kernel
theorem dX7_comesBack_102 : decode cX7_comesBack 102 = .ok (.iload_n 2, 1) := by decide +kernel
theorem dX7_comesBack_103 : decode cX7_comesBack 103 = .ok (.bipush 96, 2) := by decide +kernel
theorem dX7_comesBack_105 : decode cX7_comesBack 105 = .ok (.if_icmp .ge 26, 3) := by decide +kernel
theorem dX7_comesBack_108 : decode cX7_comesBack 108 = .ok (.aload_n 0, 1) := by decide +kernel
theorem dX7_comesBack_109 : decode cX7_comesBack 109 = .ok (.getfield 13, 3) := by decide +kernel
theorem dX7_comesBack_112 : decode cX7_comesBack 112 = .ok (.iload_n 2, 1) := by decide +kernel
theorem dX7_comesBack_113 : decode cX7_comesBack 113 = .ok (.aload_n 0, 1) := by decide +kernel
theorem dX7_comesBack_114 : decode cX7_comesBack 114 = .ok (.getfield 22, 3) := by decide +kernel
theorem dX7_comesBack_117 : decode cX7_comesBack 117 = .ok (.iload_n 1, 1) := by decide +kernel
theorem dX7_comesBack_118 : decode cX7_comesBack 118 = .ok (.bipush 28, 2) := by decide +kernel
theorem dX7_comesBack_120 : decode cX7_comesBack 120 = .ok (.iadd, 1) := by decide +kernel
theorem dX7_comesBack_121 : decode cX7_comesBack 121 = .ok (.iload_n 2, 1) := by decide +kernel
theorem dX7_comesBack_122 : decode cX7_comesBack 122 = .ok (.iadd, 1) := by decide +kernel
theorem dX7_comesBack_123 : decode cX7_comesBack 123 = .ok (.iaload, 1) := by decide +kernel
theorem dX7_comesBack_124 : decode cX7_comesBack 124 = .ok (.iastore, 1) := by decide +kernel
theorem dX7_comesBack_125 : decode cX7_comesBack 125 = .ok (.iinc 2 1, 3) := by decide +kernel
theorem dX7_comesBack_128 : decode cX7_comesBack 128 = .ok (.goto (-26), 3) := by decide +kernel
theorem dX7_comesBack_131 : decode cX7_comesBack 131 = .ok (.return_, 1) := by decide +kernel
theorem dX7_back_0 : decode cX7_back 0 = .ok (.aload_n 0, 1) := by decide +kernel
theorem dX7_back_1 : decode cX7_back 1 = .ok (.getfield 59, 3) := by decide +kernel
theorem dX7_back_4 : decode cX7_back 4 = .ok (.ifCond .ne 8, 3) := by decide +kernel
theorem dX7_back_7 : decode cX7_back 7 = .ok (.aload_n 0, 1) := by decide +kernel
theorem dX7_back_8 : decode cX7_back 8 = .ok (.invokevirtual 66, 3) := by decide +kernel
theorem dX7_back_11 : decode cX7_back 11 = .ok (.ireturn, 1) := by decide +kernel
theorem dX7_back_12 : decode cX7_back 12 = .ok (.aload_n 0, 1) := by decide +kernel
theorem dX7_back_13 : decode cX7_back 13 = .ok (.invokevirtual 70, 3) := by decide +kernel
theorem dX7_back_16 : decode cX7_back 16 = .ok (.aload_n 0, 1) := by decide +kernel
theorem dX7_back_17 : decode cX7_back 17 = .ok (.invokevirtual 73, 3) := by decide +kernel
theorem dX7_back_20 : decode cX7_back 20 = .ok (.aload_n 0, 1) := by decide +kernel
theorem dX7_back_21 : decode cX7_back 21 = .ok (.getfield 59, 3) := by decide +kernel
theorem dX7_back_24 : decode cX7_back 24 = .ok (.ireturn, 1) := by decide +kernel
theorem dX7_isCell_0 : decode cX7_isCell 0 = .ok (.iload_n 0, 1) := by decide +kernel
theorem dX7_isCell_1 : decode cX7_isCell 1 = .ok (.iconst 0, 1) := by decide +kernel
theorem dX7_isCell_2 : decode cX7_isCell 2 = .ok (.bipush 95, 2) := by decide +kernel
theorem dX7_isCell_4 : decode cX7_isCell 4 = .ok (.invokestatic 76, 3) := by decide +kernel
theorem dX7_isCell_7 : decode cX7_isCell 7 = .ok (.ireturn, 1) := by decide +kernel
theorem dX7_isPillar_0 : decode cX7_isPillar 0 = .ok (.iload_n 1, 1) := by decide +kernel
theorem dX7_isPillar_1 : decode cX7_isPillar 1 = .ok (.iconst 0, 1) := by decide +kernel
theorem dX7_isPillar_2 : decode cX7_isPillar 2 = .ok (.aload_n 0, 1) := by decide +kernel
theorem dX7_isPillar_3 : decode cX7_isPillar 3 = .ok (.getfield 49, 3) := by decide +kernel
theorem dX7_isPillar_6 : decode cX7_isPillar 6 = .ok (.iconst 1, 1) := by decide +kernel
theorem dX7_isPillar_7 : decode cX7_isPillar 7 = .ok (.isub, 1) := by decide +kernel
theorem dX7_isPillar_8 : decode cX7_isPillar 8 = .ok (.invokestatic 76, 3) := by decide +kernel
theorem dX7_isPillar_11 : decode cX7_isPillar 11 = .ok (.ireturn, 1) := by decide +kernel
theorem dX7_stands_0 : decode cX7_stands 0 = .ok (.aload_n 0, 1) := by decide +kernel
theorem dX7_stands_1 : decode cX7_stands 1 = .ok (.getfield 53, 3) := by decide +kernel
theorem dX7_stands_4 : decode cX7_stands 4 = .ok (.iload_n 1, 1) := by decide +kernel
theorem dX7_stands_5 : decode cX7_stands 5 = .ok (.ishr, 1) := by decide +kernel
theorem dX7_stands_6 : decode cX7_stands 6 = .ok (.iconst 1, 1) := by decide +kernel
theorem dX7_stands_7 : decode cX7_stands 7 = .ok (.iand, 1) := by decide +kernel
theorem dX7_stands_8 : decode cX7_stands 8 = .ok (.iconst 1, 1) := by decide +kernel
theorem dX7_stands_9 : decode cX7_stands 9 = .ok (.if_icmp .ne 7, 3) := by decide +kernel
theorem dX7_stands_12 : decode cX7_stands 12 = .ok (.iconst 1, 1) := by decide +kernel
theorem dX7_stands_13 : decode cX7_stands 13 = .ok (.goto 4, 3) := by decide +kernel
theorem dX7_stands_16 : decode cX7_stands 16 = .ok (.iconst 0, 1) := by decide +kernel
theorem dX7_stands_17 : decode cX7_stands 17 = .ok (.ireturn, 1) := by decide +kernel
theorem dX7_pillarAt_0 : decode cX7_pillarAt 0 = .ok (.iconst 0, 1) := by decide +kernel
theorem dX7_pillarAt_1 : decode cX7_pillarAt 1 = .ok (.istore_n 2, 1) := by decide +kernel
theorem dX7_pillarAt_2 : decode cX7_pillarAt 2 = .ok (.iload_n 2, 1) := by decide +kernel
theorem dX7_pillarAt_3 : decode cX7_pillarAt 3 = .ok (.aload_n 0, 1) := by decide +kernel
theorem dX7_pillarAt_4 : decode cX7_pillarAt 4 = .ok (.getfield 49, 3) := by decide +kernel
theorem dX7_pillarAt_7 : decode cX7_pillarAt 7 = .ok (.if_icmp .ge 21, 3) := by decide +kernel
theorem dX7_pillarAt_10 : decode cX7_pillarAt 10 = .ok (.aload_n 0, 1) := by decide +kernel
theorem dX7_pillarAt_11 : decode cX7_pillarAt 11 = .ok (.getfield 16, 3) := by decide +kernel
theorem dX7_pillarAt_14 : decode cX7_pillarAt 14 = .ok (.iload_n 2, 1) := by decide +kernel
theorem dX7_pillarAt_15 : decode cX7_pillarAt 15 = .ok (.iaload, 1) := by decide +kernel
theorem dX7_pillarAt_16 : decode cX7_pillarAt 16 = .ok (.iload_n 1, 1) := by decide +kernel
theorem dX7_pillarAt_17 : decode cX7_pillarAt 17 = .ok (.if_icmp .ne 5, 3) := by decide +kernel
theorem dX7_pillarAt_20 : decode cX7_pillarAt 20 = .ok (.iload_n 2, 1) := by decide +kernel
theorem dX7_pillarAt_21 : decode cX7_pillarAt 21 = .ok (.ireturn, 1) := by decide +kernel
theorem dX7_pillarAt_22 : decode cX7_pillarAt 22 = .ok (.iinc 2 1, 3) := by decide +kernel
theorem dX7_pillarAt_25 : decode cX7_pillarAt 25 = .ok (.goto (-23), 3) := by decide +kernel
theorem dX7_pillarAt_28 : decode cX7_pillarAt 28 = .ok (.iconst (-1), 1) := by decide +kernel
theorem dX7_pillarAt_29 : decode cX7_pillarAt 29 = .ok (.ireturn, 1) := by decide +kernel
theorem dX7_comesPillar_0 : decode cX7_comesPillar 0 = .ok (.aload_n 0, 1) := by decide +kernel
theorem dX7_comesPillar_1 : decode cX7_comesPillar 1 = .ok (.getfield 16, 3) := by decide +kernel
theorem dX7_comesPillar_4 : decode cX7_comesPillar 4 = .ok (.aload_n 0, 1) := by decide +kernel
theorem dX7_comesPillar_5 : decode cX7_comesPillar 5 = .ok (.getfield 49, 3) := by decide +kernel
theorem dX7_comesPillar_8 : decode cX7_comesPillar 8 = .ok (.iload_n 1, 1) := by decide +kernel
theorem dX7_comesPillar_9 : decode cX7_comesPillar 9 = .ok (.iastore, 1) := by decide +kernel
theorem dX7_comesPillar_10 : decode cX7_comesPillar 10 = .ok (.aload_n 0, 1) := by decide +kernel
theorem dX7_comesPillar_11 : decode cX7_comesPillar 11 = .ok (.getfield 19, 3) := by decide +kernel
theorem dX7_comesPillar_14 : decode cX7_comesPillar 14 = .ok (.aload_n 0, 1) := by decide +kernel
theorem dX7_comesPillar_15 : decode cX7_comesPillar 15 = .ok (.getfield 49, 3) := by decide +kernel
theorem dX7_comesPillar_18 : decode cX7_comesPillar 18 = .ok (.iload_n 2, 1) := by decide +kernel
theorem dX7_comesPillar_19 : decode cX7_comesPillar 19 = .ok (.iastore, 1) := by decide +kernel
theorem dX7_comesPillar_20 : decode cX7_comesPillar 20 = .ok (.aload_n 0, 1) := by decide +kernel
theorem dX7_comesPillar_21 : decode cX7_comesPillar 21 = .ok (.dup, 1) := by decide +kernel
theorem dX7_comesPillar_22 : decode cX7_comesPillar 22 = .ok (.getfield 53, 3) := by decide +kernel
theorem dX7_comesPillar_25 : decode cX7_comesPillar 25 = .ok (.iconst 1, 1) := by decide +kernel
theorem dX7_comesPillar_26 : decode cX7_comesPillar 26 = .ok (.aload_n 0, 1) := by decide +kernel
theorem dX7_comesPillar_27 : decode cX7_comesPillar 27 = .ok (.getfield 49, 3) := by decide +kernel
theorem dX7_comesPillar_30 : decode cX7_comesPillar 30 = .ok (.ishl, 1) := by decide +kernel
theorem dX7_comesPillar_31 : decode cX7_comesPillar 31 = .ok (.ior, 1) := by decide +kernel
theorem dX7_comesPillar_32 : decode cX7_comesPillar 32 = .ok (.putfield 53, 3) := by decide +kernel
theorem dX7_comesPillar_35 : decode cX7_comesPillar 35 = .ok (.aload_n 0, 1) := by decide +kernel
theorem dX7_comesPillar_36 : decode cX7_comesPillar 36 = .ok (.dup, 1) := by decide +kernel
theorem dX7_comesPillar_37 : decode cX7_comesPillar 37 = .ok (.getfield 49, 3) := by decide +kernel
theorem dX7_comesPillar_40 : decode cX7_comesPillar 40 = .ok (.iconst 1, 1) := by decide +kernel
theorem dX7_comesPillar_41 : decode cX7_comesPillar 41 = .ok (.iadd, 1) := by decide +kernel
theorem dX7_comesPillar_42 : decode cX7_comesPillar 42 = .ok (.putfield 49, 3) := by decide +kernel
theorem dX7_comesPillar_45 : decode cX7_comesPillar 45 = .ok (.return_, 1) := by decide +kernel
theorem dX7_pillar_0 : decode cX7_pillar 0 = .ok (.iload_n 1, 1) := by decide +kernel
theorem dX7_pillar_1 : decode cX7_pillar 1 = .ok (.invokestatic 80, 3) := by decide +kernel
theorem dX7_pillar_4 : decode cX7_pillar 4 = .ok (.ifCond .eq 14, 3) := by decide +kernel
theorem dX7_pillar_7 : decode cX7_pillar 7 = .ok (.iload_n 2, 1) := by decide +kernel
theorem dX7_pillar_8 : decode cX7_pillar 8 = .ok (.iconst 0, 1) := by decide +kernel
theorem dX7_pillar_9 : decode cX7_pillar 9 = .ok (.sipush 999, 3) := by decide +kernel
theorem dX7_pillar_12 : decode cX7_pillar 12 = .ok (.invokestatic 76, 3) := by decide +kernel
theorem dX7_pillar_15 : decode cX7_pillar 15 = .ok (.ifCond .ne 8, 3) := by decide +kernel
theorem dX7_pillar_18 : decode cX7_pillar 18 = .ok (.aload_n 0, 1) := by decide +kernel
theorem dX7_pillar_19 : decode cX7_pillar 19 = .ok (.invokevirtual 84, 3) := by decide +kernel
theorem dX7_pillar_22 : decode cX7_pillar 22 = .ok (.ireturn, 1) := by decide +kernel
theorem dX7_pillar_23 : decode cX7_pillar 23 = .ok (.aload_n 0, 1) := by decide +kernel
theorem dX7_pillar_24 : decode cX7_pillar 24 = .ok (.iload_n 1, 1) := by decide +kernel
theorem dX7_pillar_25 : decode cX7_pillar 25 = .ok (.invokevirtual 87, 3) := by decide +kernel
theorem dX7_pillar_28 : decode cX7_pillar 28 = .ok (.iconst (-1), 1) := by decide +kernel
theorem dX7_pillar_29 : decode cX7_pillar 29 = .ok (.if_icmp .eq 8, 3) := by decide +kernel
theorem dX7_pillar_32 : decode cX7_pillar 32 = .ok (.aload_n 0, 1) := by decide +kernel
theorem dX7_pillar_33 : decode cX7_pillar 33 = .ok (.invokevirtual 66, 3) := by decide +kernel
theorem dX7_pillar_36 : decode cX7_pillar 36 = .ok (.ireturn, 1) := by decide +kernel
theorem dX7_pillar_37 : decode cX7_pillar 37 = .ok (.aload_n 0, 1) := by decide +kernel
theorem dX7_pillar_38 : decode cX7_pillar 38 = .ok (.getfield 49, 3) := by decide +kernel
theorem dX7_pillar_41 : decode cX7_pillar 41 = .ok (.bipush 12, 2) := by decide +kernel
theorem dX7_pillar_43 : decode cX7_pillar 43 = .ok (.if_icmp .ne 8, 3) := by decide +kernel
theorem dX7_pillar_46 : decode cX7_pillar 46 = .ok (.aload_n 0, 1) := by decide +kernel
theorem dX7_pillar_47 : decode cX7_pillar 47 = .ok (.invokevirtual 91, 3) := by decide +kernel
theorem dX7_pillar_50 : decode cX7_pillar 50 = .ok (.ireturn, 1) := by decide +kernel
theorem dX7_pillar_51 : decode cX7_pillar 51 = .ok (.aload_n 0, 1) := by decide +kernel
theorem dX7_pillar_52 : decode cX7_pillar 52 = .ok (.invokevirtual 94, 3) := by decide +kernel
theorem dX7_pillar_55 : decode cX7_pillar 55 = .ok (.aload_n 0, 1) := by decide +kernel
theorem dX7_pillar_56 : decode cX7_pillar 56 = .ok (.iload_n 1, 1) := by decide +kernel
theorem dX7_pillar_57 : decode cX7_pillar 57 = .ok (.iload_n 2, 1) := by decide +kernel
theorem dX7_pillar_58 : decode cX7_pillar 58 = .ok (.invokevirtual 97, 3) := by decide +kernel
theorem dX7_pillar_61 : decode cX7_pillar 61 = .ok (.aload_n 0, 1) := by decide +kernel
theorem dX7_pillar_62 : decode cX7_pillar 62 = .ok (.getfield 49, 3) := by decide +kernel
theorem dX7_pillar_65 : decode cX7_pillar 65 = .ok (.iconst 1, 1) := by decide +kernel
theorem dX7_pillar_66 : decode cX7_pillar 66 = .ok (.isub, 1) := by decide +kernel
theorem dX7_pillar_67 : decode cX7_pillar 67 = .ok (.ireturn, 1) := by decide +kernel
theorem dX7_weight_0 : decode cX7_weight 0 = .ok (.iload_n 1, 1) := by decide +kernel
theorem dX7_weight_1 : decode cX7_weight 1 = .ok (.invokestatic 80, 3) := by decide +kernel
theorem dX7_weight_4 : decode cX7_weight 4 = .ok (.ifCond .eq 13, 3) := by decide +kernel
theorem dX7_weight_7 : decode cX7_weight 7 = .ok (.iload_n 2, 1) := by decide +kernel
theorem dX7_weight_8 : decode cX7_weight 8 = .ok (.iconst 0, 1) := by decide +kernel
theorem dX7_weight_9 : decode cX7_weight 9 = .ok (.bipush 9, 2) := by decide +kernel
theorem dX7_weight_11 : decode cX7_weight 11 = .ok (.invokestatic 76, 3) := by decide +kernel
theorem dX7_weight_14 : decode cX7_weight 14 = .ok (.ifCond .ne 8, 3) := by decide +kernel
theorem dX7_weight_17 : decode cX7_weight 17 = .ok (.aload_n 0, 1) := by decide +kernel
theorem dX7_weight_18 : decode cX7_weight 18 = .ok (.invokevirtual 84, 3) := by decide +kernel
theorem dX7_weight_21 : decode cX7_weight 21 = .ok (.ireturn, 1) := by decide +kernel
theorem dX7_weight_22 : decode cX7_weight 22 = .ok (.aload_n 0, 1) := by decide +kernel
theorem dX7_weight_23 : decode cX7_weight 23 = .ok (.invokevirtual 94, 3) := by decide +kernel
theorem dX7_weight_26 : decode cX7_weight 26 = .ok (.aload_n 0, 1) := by decide +kernel
theorem dX7_weight_27 : decode cX7_weight 27 = .ok (.getfield 13, 3) := by decide +kernel
theorem dX7_weight_30 : decode cX7_weight 30 = .ok (.iload_n 1, 1) := by decide +kernel
theorem dX7_weight_31 : decode cX7_weight 31 = .ok (.iaload, 1) := by decide +kernel
theorem dX7_weight_32 : decode cX7_weight 32 = .ok (.istore_n 3, 1) := by decide +kernel
theorem dX7_weight_33 : decode cX7_weight 33 = .ok (.aload_n 0, 1) := by decide +kernel
theorem dX7_weight_34 : decode cX7_weight 34 = .ok (.getfield 13, 3) := by decide +kernel
theorem dX7_weight_37 : decode cX7_weight 37 = .ok (.iload_n 1, 1) := by decide +kernel
theorem dX7_weight_38 : decode cX7_weight 38 = .ok (.iload_n 2, 1) := by decide +kernel
theorem dX7_weight_39 : decode cX7_weight 39 = .ok (.iastore, 1) := by decide +kernel
theorem dX7_weight_40 : decode cX7_weight 40 = .ok (.iload_n 3, 1) := by decide +kernel
theorem dX7_weight_41 : decode cX7_weight 41 = .ok (.ireturn, 1) := by decide +kernel
theorem dX7_draw_0 : decode cX7_draw 0 = .ok (.iload_n 1, 1) := by decide +kernel
theorem dX7_draw_1 : decode cX7_draw 1 = .ok (.iconst 0, 1) := by decide +kernel
theorem dX7_draw_2 : decode cX7_draw 2 = .ok (.ldc 101, 2) := by decide +kernel
theorem dX7_draw_4 : decode cX7_draw 4 = .ok (.invokestatic 76, 3) := by decide +kernel
theorem dX7_draw_7 : decode cX7_draw 7 = .ok (.ifCond .eq 13, 3) := by decide +kernel
theorem dX7_draw_10 : decode cX7_draw 10 = .ok (.iload_n 2, 1) := by decide +kernel
theorem dX7_draw_11 : decode cX7_draw 11 = .ok (.iconst 0, 1) := by decide +kernel
theorem dX7_draw_12 : decode cX7_draw 12 = .ok (.bipush 9, 2) := by decide +kernel
theorem dX7_draw_14 : decode cX7_draw 14 = .ok (.invokestatic 76, 3) := by decide +kernel
theorem dX7_draw_17 : decode cX7_draw 17 = .ok (.ifCond .ne 8, 3) := by decide +kernel
theorem dX7_draw_20 : decode cX7_draw 20 = .ok (.aload_n 0, 1) := by decide +kernel
theorem dX7_draw_21 : decode cX7_draw 21 = .ok (.invokevirtual 84, 3) := by decide +kernel
theorem dX7_draw_24 : decode cX7_draw 24 = .ok (.ireturn, 1) := by decide +kernel
theorem dX7_draw_25 : decode cX7_draw 25 = .ok (.aload_n 0, 1) := by decide +kernel
theorem dX7_draw_26 : decode cX7_draw 26 = .ok (.invokevirtual 94, 3) := by decide +kernel
theorem dX7_draw_29 : decode cX7_draw 29 = .ok (.iload_n 1, 1) := by decide +kernel
theorem dX7_draw_30 : decode cX7_draw 30 = .ok (.i2l, 1) := by decide +kernel
theorem dX7_draw_31 : decode cX7_draw 31 = .ok (.lstore_n 3, 1) := by decide +kernel
theorem dX7_draw_32 : decode cX7_draw 32 = .ok (.iconst 0, 1) := by decide +kernel
theorem dX7_draw_33 : decode cX7_draw 33 = .ok (.istore 5, 2) := by decide +kernel
theorem dX7_draw_35 : decode cX7_draw 35 = .ok (.iconst 0, 1) := by decide +kernel
theorem dX7_draw_36 : decode cX7_draw 36 = .ok (.istore 6, 2) := by decide +kernel
theorem dX7_draw_38 : decode cX7_draw 38 = .ok (.iload 6, 2) := by decide +kernel
theorem dX7_draw_40 : decode cX7_draw 40 = .ok (.bipush 96, 2) := by decide +kernel
theorem dX7_draw_42 : decode cX7_draw 42 = .ok (.if_icmp .ge 53, 3) := by decide +kernel
theorem dX7_draw_45 : decode cX7_draw 45 = .ok (.lload_n 3, 1) := by decide +kernel
theorem dX7_draw_46 : decode cX7_draw 46 = .ok (.ldc2_w 102, 3) := by decide +kernel
theorem dX7_draw_49 : decode cX7_draw 49 = .ok (.lmul, 1) := by decide +kernel
theorem dX7_draw_50 : decode cX7_draw 50 = .ok (.ldc2_w 104, 3) := by decide +kernel
theorem dX7_draw_53 : decode cX7_draw 53 = .ok (.ladd, 1) := by decide +kernel
theorem dX7_draw_54 : decode cX7_draw 54 = .ok (.ldc2_w 106, 3) := by decide +kernel
theorem dX7_draw_57 : decode cX7_draw 57 = .ok (.lrem, 1) := by decide +kernel
theorem dX7_draw_58 : decode cX7_draw 58 = .ok (.lstore_n 3, 1) := by decide +kernel
theorem dX7_draw_59 : decode cX7_draw 59 = .ok (.aload_n 0, 1) := by decide +kernel
theorem dX7_draw_60 : decode cX7_draw 60 = .ok (.getfield 13, 3) := by decide +kernel
theorem dX7_draw_63 : decode cX7_draw 63 = .ok (.iload 6, 2) := by decide +kernel
theorem dX7_draw_65 : decode cX7_draw 65 = .ok (.lload_n 3, 1) := by decide +kernel
theorem dX7_draw_66 : decode cX7_draw 66 = .ok (.ldc2_w 108, 3) := by decide +kernel
theorem dX7_draw_69 : decode cX7_draw 69 = .ok (.ldiv, 1) := by decide +kernel
theorem dX7_draw_70 : decode cX7_draw 70 = .ok (.iload_n 2, 1) := by decide +kernel
theorem dX7_draw_71 : decode cX7_draw 71 = .ok (.i2l, 1) := by decide +kernel
theorem dX7_draw_72 : decode cX7_draw 72 = .ok (.lconst 1, 1) := by decide +kernel
theorem dX7_draw_73 : decode cX7_draw 73 = .ok (.ladd, 1) := by decide +kernel
theorem dX7_draw_74 : decode cX7_draw 74 = .ok (.lrem, 1) := by decide +kernel
theorem dX7_draw_75 : decode cX7_draw 75 = .ok (.l2i, 1) := by decide +kernel
theorem dX7_draw_76 : decode cX7_draw 76 = .ok (.iastore, 1) := by decide +kernel
theorem dX7_draw_77 : decode cX7_draw 77 = .ok (.iload 5, 2) := by decide +kernel
theorem dX7_draw_79 : decode cX7_draw 79 = .ok (.aload_n 0, 1) := by decide +kernel
theorem dX7_draw_80 : decode cX7_draw 80 = .ok (.getfield 13, 3) := by decide +kernel
theorem dX7_draw_83 : decode cX7_draw 83 = .ok (.iload 6, 2) := by decide +kernel
theorem dX7_draw_85 : decode cX7_draw 85 = .ok (.iaload, 1) := by decide +kernel
theorem dX7_draw_86 : decode cX7_draw 86 = .ok (.iadd, 1) := by decide +kernel
theorem dX7_draw_87 : decode cX7_draw 87 = .ok (.istore 5, 2) := by decide +kernel
theorem dX7_draw_89 : decode cX7_draw 89 = .ok (.iinc 6 1, 3) := by decide +kernel
theorem dX7_draw_92 : decode cX7_draw 92 = .ok (.goto (-54), 3) := by decide +kernel
theorem dX7_draw_95 : decode cX7_draw 95 = .ok (.iload 5, 2) := by decide +kernel
theorem dX7_draw_97 : decode cX7_draw 97 = .ok (.ireturn, 1) := by decide +kernel
theorem dX7_strength_0 : decode cX7_strength 0 = .ok (.aload_n 0, 1) := by decide +kernel
theorem dX7_strength_1 : decode cX7_strength 1 = .ok (.iload_n 1, 1) := by decide +kernel
theorem dX7_strength_2 : decode cX7_strength 2 = .ok (.invokevirtual 110, 3) := by decide +kernel
theorem dX7_strength_5 : decode cX7_strength 5 = .ok (.ifCond .eq 14, 3) := by decide +kernel
theorem dX7_strength_8 : decode cX7_strength 8 = .ok (.iload_n 2, 1) := by decide +kernel
theorem dX7_strength_9 : decode cX7_strength 9 = .ok (.iconst 0, 1) := by decide +kernel
theorem dX7_strength_10 : decode cX7_strength 10 = .ok (.sipush 999, 3) := by decide +kernel
theorem dX7_strength_13 : decode cX7_strength 13 = .ok (.invokestatic 76, 3) := by decide +kernel
theorem dX7_strength_16 : decode cX7_strength 16 = .ok (.ifCond .ne 8, 3) := by decide +kernel
theorem dX7_strength_19 : decode cX7_strength 19 = .ok (.aload_n 0, 1) := by decide +kernel
theorem dX7_strength_20 : decode cX7_strength 20 = .ok (.invokevirtual 84, 3) := by decide +kernel
theorem dX7_strength_23 : decode cX7_strength 23 = .ok (.ireturn, 1) := by decide +kernel
theorem dX7_strength_24 : decode cX7_strength 24 = .ok (.aload_n 0, 1) := by decide +kernel
theorem dX7_strength_25 : decode cX7_strength 25 = .ok (.invokevirtual 94, 3) := by decide +kernel
theorem dX7_strength_28 : decode cX7_strength 28 = .ok (.aload_n 0, 1) := by decide +kernel
theorem dX7_strength_29 : decode cX7_strength 29 = .ok (.getfield 19, 3) := by decide +kernel
theorem dX7_strength_32 : decode cX7_strength 32 = .ok (.iload_n 1, 1) := by decide +kernel
theorem dX7_strength_33 : decode cX7_strength 33 = .ok (.iaload, 1) := by decide +kernel
theorem dX7_strength_34 : decode cX7_strength 34 = .ok (.istore_n 3, 1) := by decide +kernel
theorem dX7_strength_35 : decode cX7_strength 35 = .ok (.aload_n 0, 1) := by decide +kernel
theorem dX7_strength_36 : decode cX7_strength 36 = .ok (.getfield 19, 3) := by decide +kernel
theorem dX7_strength_39 : decode cX7_strength 39 = .ok (.iload_n 1, 1) := by decide +kernel
theorem dX7_strength_40 : decode cX7_strength 40 = .ok (.iload_n 2, 1) := by decide +kernel
theorem dX7_strength_41 : decode cX7_strength 41 = .ok (.iastore, 1) := by decide +kernel
theorem dX7_strength_42 : decode cX7_strength 42 = .ok (.iload_n 3, 1) := by decide +kernel
theorem dX7_strength_43 : decode cX7_strength 43 = .ok (.ireturn, 1) := by decide +kernel
theorem dX7_isWall_0 : decode cX7_isWall 0 = .ok (.iload_n 0, 1) := by decide +kernel
theorem dX7_isWall_1 : decode cX7_isWall 1 = .ok (.ifCond .ne 13, 3) := by decide +kernel
theorem dX7_isWall_4 : decode cX7_isWall 4 = .ok (.iload_n 1, 1) := by decide +kernel
theorem dX7_isWall_5 : decode cX7_isWall 5 = .ok (.iconst 0, 1) := by decide +kernel
theorem dX7_isWall_6 : decode cX7_isWall 6 = .ok (.bipush 6, 2) := by decide +kernel
theorem dX7_isWall_8 : decode cX7_isWall 8 = .ok (.invokestatic 76, 3) := by decide +kernel
theorem dX7_isWall_11 : decode cX7_isWall 11 = .ok (.ifCond .ne 18, 3) := by decide +kernel
theorem dX7_isWall_14 : decode cX7_isWall 14 = .ok (.iload_n 0, 1) := by decide +kernel
theorem dX7_isWall_15 : decode cX7_isWall 15 = .ok (.iconst 1, 1) := by decide +kernel
theorem dX7_isWall_16 : decode cX7_isWall 16 = .ok (.if_icmp .ne 17, 3) := by decide +kernel
theorem dX7_isWall_19 : decode cX7_isWall 19 = .ok (.iload_n 1, 1) := by decide +kernel
theorem dX7_isWall_20 : decode cX7_isWall 20 = .ok (.iconst 0, 1) := by decide +kernel
theorem dX7_isWall_21 : decode cX7_isWall 21 = .ok (.bipush 10, 2) := by decide +kernel
theorem dX7_isWall_23 : decode cX7_isWall 23 = .ok (.invokestatic 76, 3) := by decide +kernel
theorem dX7_isWall_26 : decode cX7_isWall 26 = .ok (.ifCond .eq 7, 3) := by decide +kernel
theorem dX7_isWall_29 : decode cX7_isWall 29 = .ok (.iconst 1, 1) := by decide +kernel
theorem dX7_isWall_30 : decode cX7_isWall 30 = .ok (.goto 4, 3) := by decide +kernel
theorem dX7_isWall_33 : decode cX7_isWall 33 = .ok (.iconst 0, 1) := by decide +kernel
theorem dX7_isWall_34 : decode cX7_isWall 34 = .ok (.ireturn, 1) := by decide +kernel
theorem dX7_wall_0 : decode cX7_wall 0 = .ok (.iload_n 1, 1) := by decide +kernel
theorem dX7_wall_1 : decode cX7_wall 1 = .ok (.iload_n 2, 1) := by decide +kernel
theorem dX7_wall_2 : decode cX7_wall 2 = .ok (.invokestatic 113, 3) := by decide +kernel
theorem dX7_wall_5 : decode cX7_wall 5 = .ok (.ifCond .eq 12, 3) := by decide +kernel
theorem dX7_wall_8 : decode cX7_wall 8 = .ok (.iload_n 3, 1) := by decide +kernel
theorem dX7_wall_9 : decode cX7_wall 9 = .ok (.iconst 0, 1) := by decide +kernel
theorem dX7_wall_10 : decode cX7_wall 10 = .ok (.iconst 1, 1) := by decide +kernel
theorem dX7_wall_11 : decode cX7_wall 11 = .ok (.invokestatic 76, 3) := by decide +kernel
theorem dX7_wall_14 : decode cX7_wall 14 = .ok (.ifCond .ne 8, 3) := by decide +kernel
theorem dX7_wall_17 : decode cX7_wall 17 = .ok (.aload_n 0, 1) := by decide +kernel
theorem dX7_wall_18 : decode cX7_wall 18 = .ok (.invokevirtual 84, 3) := by decide +kernel
theorem dX7_wall_21 : decode cX7_wall 21 = .ok (.ireturn, 1) := by decide +kernel
theorem dX7_wall_22 : decode cX7_wall 22 = .ok (.aload_n 0, 1) := by decide +kernel
theorem dX7_wall_23 : decode cX7_wall 23 = .ok (.invokevirtual 94, 3) := by decide +kernel
theorem dX7_wall_26 : decode cX7_wall 26 = .ok (.iload_n 1, 1) := by decide +kernel
theorem dX7_wall_27 : decode cX7_wall 27 = .ok (.ifCond .ne 7, 3) := by decide +kernel
theorem dX7_wall_30 : decode cX7_wall 30 = .ok (.iload_n 2, 1) := by decide +kernel
theorem dX7_wall_31 : decode cX7_wall 31 = .ok (.goto 7, 3) := by decide +kernel
theorem dX7_wall_34 : decode cX7_wall 34 = .ok (.bipush 10, 2) := by decide +kernel
theorem dX7_wall_36 : decode cX7_wall 36 = .ok (.iload_n 2, 1) := by decide +kernel
theorem dX7_wall_37 : decode cX7_wall 37 = .ok (.iadd, 1) := by decide +kernel
theorem dX7_wall_38 : decode cX7_wall 38 = .ok (.istore 4, 2) := by decide +kernel
theorem dX7_wall_40 : decode cX7_wall 40 = .ok (.aload_n 0, 1) := by decide +kernel
theorem dX7_wall_41 : decode cX7_wall 41 = .ok (.getfield 56, 3) := by decide +kernel
theorem dX7_wall_44 : decode cX7_wall 44 = .ok (.iload 4, 2) := by decide +kernel
theorem dX7_wall_46 : decode cX7_wall 46 = .ok (.ishr, 1) := by decide +kernel
theorem dX7_wall_47 : decode cX7_wall 47 = .ok (.iconst 1, 1) := by decide +kernel
theorem dX7_wall_48 : decode cX7_wall 48 = .ok (.iand, 1) := by decide +kernel
theorem dX7_wall_49 : decode cX7_wall 49 = .ok (.istore 5, 2) := by decide +kernel
theorem dX7_wall_51 : decode cX7_wall 51 = .ok (.aload_n 0, 1) := by decide +kernel
theorem dX7_wall_52 : decode cX7_wall 52 = .ok (.iload_n 3, 1) := by decide +kernel
theorem dX7_wall_53 : decode cX7_wall 53 = .ok (.iconst 1, 1) := by decide +kernel
theorem dX7_wall_54 : decode cX7_wall 54 = .ok (.if_icmp .ne 15, 3) := by decide +kernel
theorem dX7_wall_57 : decode cX7_wall 57 = .ok (.aload_n 0, 1) := by decide +kernel
theorem dX7_wall_58 : decode cX7_wall 58 = .ok (.getfield 56, 3) := by decide +kernel
theorem dX7_wall_61 : decode cX7_wall 61 = .ok (.iconst 1, 1) := by decide +kernel
theorem dX7_wall_62 : decode cX7_wall 62 = .ok (.iload 4, 2) := by decide +kernel
theorem dX7_wall_64 : decode cX7_wall 64 = .ok (.ishl, 1) := by decide +kernel
theorem dX7_wall_65 : decode cX7_wall 65 = .ok (.ior, 1) := by decide +kernel
theorem dX7_wall_66 : decode cX7_wall 66 = .ok (.goto 14, 3) := by decide +kernel
theorem dX7_wall_69 : decode cX7_wall 69 = .ok (.aload_n 0, 1) := by decide +kernel
theorem dX7_wall_70 : decode cX7_wall 70 = .ok (.getfield 56, 3) := by decide +kernel
theorem dX7_wall_73 : decode cX7_wall 73 = .ok (.iconst 1, 1) := by decide +kernel
theorem dX7_wall_74 : decode cX7_wall 74 = .ok (.iload 4, 2) := by decide +kernel
theorem dX7_wall_76 : decode cX7_wall 76 = .ok (.ishl, 1) := by decide +kernel
theorem dX7_wall_77 : decode cX7_wall 77 = .ok (.iconst (-1), 1) := by decide +kernel
theorem dX7_wall_78 : decode cX7_wall 78 = .ok (.ixor, 1) := by decide +kernel
theorem dX7_wall_79 : decode cX7_wall 79 = .ok (.iand, 1) := by decide +kernel
theorem dX7_wall_80 : decode cX7_wall 80 = .ok (.putfield 56, 3) := by decide +kernel
theorem dX7_wall_83 : decode cX7_wall 83 = .ok (.iload 5, 2) := by decide +kernel
theorem dX7_wall_85 : decode cX7_wall 85 = .ok (.ireturn, 1) := by decide +kernel
theorem dX7_mends_0 : decode cX7_mends 0 = .ok (.aload_n 0, 1) := by decide +kernel
theorem dX7_mends_1 : decode cX7_mends 1 = .ok (.invokevirtual 94, 3) := by decide +kernel
theorem dX7_mends_4 : decode cX7_mends 4 = .ok (.aload_n 0, 1) := by decide +kernel
theorem dX7_mends_5 : decode cX7_mends 5 = .ok (.getfield 49, 3) := by decide +kernel
theorem dX7_mends_8 : decode cX7_mends 8 = .ok (.aload_n 0, 1) := by decide +kernel
theorem dX7_mends_9 : decode cX7_mends 9 = .ok (.getfield 53, 3) := by decide +kernel
theorem dX7_mends_12 : decode cX7_mends 12 = .ok (.invokestatic 117, 3) := by decide +kernel
theorem dX7_mends_15 : decode cX7_mends 15 = .ok (.isub, 1) := by decide +kernel
theorem dX7_mends_16 : decode cX7_mends 16 = .ok (.istore_n 1, 1) := by decide +kernel
theorem dX7_mends_17 : decode cX7_mends 17 = .ok (.aload_n 0, 1) := by decide +kernel
theorem dX7_mends_18 : decode cX7_mends 18 = .ok (.iconst 1, 1) := by decide +kernel
theorem dX7_mends_19 : decode cX7_mends 19 = .ok (.aload_n 0, 1) := by decide +kernel
theorem dX7_mends_20 : decode cX7_mends 20 = .ok (.getfield 49, 3) := by decide +kernel
theorem dX7_mends_23 : decode cX7_mends 23 = .ok (.ishl, 1) := by decide +kernel
theorem dX7_mends_24 : decode cX7_mends 24 = .ok (.iconst 1, 1) := by decide +kernel
theorem dX7_mends_25 : decode cX7_mends 25 = .ok (.isub, 1) := by decide +kernel
theorem dX7_mends_26 : decode cX7_mends 26 = .ok (.putfield 53, 3) := by decide +kernel
theorem dX7_mends_29 : decode cX7_mends 29 = .ok (.aload_n 0, 1) := by decide +kernel
theorem dX7_mends_30 : decode cX7_mends 30 = .ok (.invokevirtual 73, 3) := by decide +kernel
theorem dX7_mends_33 : decode cX7_mends 33 = .ok (.iload_n 1, 1) := by decide +kernel
theorem dX7_mends_34 : decode cX7_mends 34 = .ok (.ireturn, 1) := by decide +kernel
theorem dX7_anew_0 : decode cX7_anew 0 = .ok (.aload_n 0, 1) := by decide +kernel
theorem dX7_anew_1 : decode cX7_anew 1 = .ok (.invokevirtual 94, 3) := by decide +kernel
theorem dX7_anew_4 : decode cX7_anew 4 = .ok (.aload_n 0, 1) := by decide +kernel
theorem dX7_anew_5 : decode cX7_anew 5 = .ok (.getfield 49, 3) := by decide +kernel
theorem dX7_anew_8 : decode cX7_anew 8 = .ok (.istore_n 1, 1) := by decide +kernel
theorem dX7_anew_9 : decode cX7_anew 9 = .ok (.aload_n 0, 1) := by decide +kernel
theorem dX7_anew_10 : decode cX7_anew 10 = .ok (.iconst 0, 1) := by decide +kernel
theorem dX7_anew_11 : decode cX7_anew 11 = .ok (.putfield 49, 3) := by decide +kernel
theorem dX7_anew_14 : decode cX7_anew 14 = .ok (.aload_n 0, 1) := by decide +kernel
theorem dX7_anew_15 : decode cX7_anew 15 = .ok (.iconst 0, 1) := by decide +kernel
theorem dX7_anew_16 : decode cX7_anew 16 = .ok (.putfield 53, 3) := by decide +kernel
theorem dX7_anew_19 : decode cX7_anew 19 = .ok (.aload_n 0, 1) := by decide +kernel
theorem dX7_anew_20 : decode cX7_anew 20 = .ok (.iconst 0, 1) := by decide +kernel
theorem dX7_anew_21 : decode cX7_anew 21 = .ok (.putfield 56, 3) := by decide +kernel
theorem dX7_anew_24 : decode cX7_anew 24 = .ok (.iconst 0, 1) := by decide +kernel
theorem dX7_anew_25 : decode cX7_anew 25 = .ok (.istore_n 2, 1) := by decide +kernel
theorem dX7_anew_26 : decode cX7_anew 26 = .ok (.iload_n 2, 1) := by decide +kernel
theorem dX7_anew_27 : decode cX7_anew 27 = .ok (.bipush 96, 2) := by decide +kernel
theorem dX7_anew_29 : decode cX7_anew 29 = .ok (.if_icmp .ge 16, 3) := by decide +kernel
theorem dX7_anew_32 : decode cX7_anew 32 = .ok (.aload_n 0, 1) := by decide +kernel
theorem dX7_anew_33 : decode cX7_anew 33 = .ok (.getfield 13, 3) := by decide +kernel
theorem dX7_anew_36 : decode cX7_anew 36 = .ok (.iload_n 2, 1) := by decide +kernel
theorem dX7_anew_37 : decode cX7_anew 37 = .ok (.iconst 1, 1) := by decide +kernel
theorem dX7_anew_38 : decode cX7_anew 38 = .ok (.iastore, 1) := by decide +kernel
theorem dX7_anew_39 : decode cX7_anew 39 = .ok (.iinc 2 1, 3) := by decide +kernel
theorem dX7_anew_42 : decode cX7_anew 42 = .ok (.goto (-16), 3) := by decide +kernel
theorem dX7_anew_45 : decode cX7_anew 45 = .ok (.aload_n 0, 1) := by decide +kernel
theorem dX7_anew_46 : decode cX7_anew 46 = .ok (.invokevirtual 73, 3) := by decide +kernel
theorem dX7_anew_49 : decode cX7_anew 49 = .ok (.iload_n 1, 1) := by decide +kernel
theorem dX7_anew_50 : decode cX7_anew 50 = .ok (.ireturn, 1) := by decide +kernel
theorem dX7_gap_0 : decode cX7_gap 0 = .ok (.iload_n 0, 1) := by decide +kernel
theorem dX7_gap_1 : decode cX7_gap 1 = .ok (.iload_n 1, 1) := by decide +kernel
theorem dX7_gap_2 : decode cX7_gap 2 = .ok (.if_icmp .le 9, 3) := by decide +kernel
theorem dX7_gap_5 : decode cX7_gap 5 = .ok (.iload_n 0, 1) := by decide +kernel
theorem dX7_gap_6 : decode cX7_gap 6 = .ok (.iload_n 1, 1) := by decide +kernel
theorem dX7_gap_7 : decode cX7_gap 7 = .ok (.isub, 1) := by decide +kernel
theorem dX7_gap_8 : decode cX7_gap 8 = .ok (.goto 6, 3) := by decide +kernel
theorem dX7_gap_11 : decode cX7_gap 11 = .ok (.iload_n 1, 1) := by decide +kernel
theorem dX7_gap_12 : decode cX7_gap 12 = .ok (.iload_n 0, 1) := by decide +kernel
theorem dX7_gap_13 : decode cX7_gap 13 = .ok (.isub, 1) := by decide +kernel
theorem dX7_gap_14 : decode cX7_gap 14 = .ok (.ireturn, 1) := by decide +kernel
theorem dX7_wallsAhead_0 : decode cX7_wallsAhead 0 = .ok (.iconst 0, 1) := by decide +kernel
theorem dX7_wallsAhead_1 : decode cX7_wallsAhead 1 = .ok (.istore_n 3, 1) := by decide +kernel
theorem dX7_wallsAhead_2 : decode cX7_wallsAhead 2 = .ok (.iconst 0, 1) := by decide +kernel
theorem dX7_wallsAhead_3 : decode cX7_wallsAhead 3 = .ok (.istore 4, 2) := by decide +kernel
theorem dX7_wallsAhead_5 : decode cX7_wallsAhead 5 = .ok (.iload 4, 2) := by decide +kernel
theorem dX7_wallsAhead_7 : decode cX7_wallsAhead 7 = .ok (.iload_n 2, 1) := by decide +kernel
theorem dX7_wallsAhead_8 : decode cX7_wallsAhead 8 = .ok (.if_icmp .ge 23, 3) := by decide +kernel
theorem dX7_wallsAhead_11 : decode cX7_wallsAhead 11 = .ok (.iload_n 3, 1) := by decide +kernel
theorem dX7_wallsAhead_12 : decode cX7_wallsAhead 12 = .ok (.aload_n 0, 1) := by decide +kernel
theorem dX7_wallsAhead_13 : decode cX7_wallsAhead 13 = .ok (.getfield 56, 3) := by decide +kernel
theorem dX7_wallsAhead_16 : decode cX7_wallsAhead 16 = .ok (.iload_n 1, 1) := by decide +kernel
theorem dX7_wallsAhead_17 : decode cX7_wallsAhead 17 = .ok (.iload 4, 2) := by decide +kernel
theorem dX7_wallsAhead_19 : decode cX7_wallsAhead 19 = .ok (.iadd, 1) := by decide +kernel
theorem dX7_wallsAhead_20 : decode cX7_wallsAhead 20 = .ok (.ishr, 1) := by decide +kernel
theorem dX7_wallsAhead_21 : decode cX7_wallsAhead 21 = .ok (.iconst 1, 1) := by decide +kernel
theorem dX7_wallsAhead_22 : decode cX7_wallsAhead 22 = .ok (.iand, 1) := by decide +kernel
theorem dX7_wallsAhead_23 : decode cX7_wallsAhead 23 = .ok (.iadd, 1) := by decide +kernel
theorem dX7_wallsAhead_24 : decode cX7_wallsAhead 24 = .ok (.istore_n 3, 1) := by decide +kernel
theorem dX7_wallsAhead_25 : decode cX7_wallsAhead 25 = .ok (.iinc 4 1, 3) := by decide +kernel
theorem dX7_wallsAhead_28 : decode cX7_wallsAhead 28 = .ok (.goto (-23), 3) := by decide +kernel
theorem dX7_wallsAhead_31 : decode cX7_wallsAhead 31 = .ok (.iload_n 3, 1) := by decide +kernel
theorem dX7_wallsAhead_32 : decode cX7_wallsAhead 32 = .ok (.ireturn, 1) := by decide +kernel
theorem dX7_setRooms_0 : decode cX7_setRooms 0 = .ok (.iconst 0, 1) := by decide +kernel
theorem dX7_setRooms_1 : decode cX7_setRooms 1 = .ok (.istore_n 1, 1) := by decide +kernel
theorem dX7_setRooms_2 : decode cX7_setRooms 2 = .ok (.iload_n 1, 1) := by decide +kernel
theorem dX7_setRooms_3 : decode cX7_setRooms 3 = .ok (.bipush 8, 2) := by decide +kernel
theorem dX7_setRooms_5 : decode cX7_setRooms 5 = .ok (.if_icmp .ge 21, 3) := by decide +kernel
theorem dX7_setRooms_8 : decode cX7_setRooms 8 = .ok (.aload_n 0, 1) := by decide +kernel
theorem dX7_setRooms_9 : decode cX7_setRooms 9 = .ok (.getfield 25, 3) := by decide +kernel
theorem dX7_setRooms_12 : decode cX7_setRooms 12 = .ok (.iload_n 1, 1) := by decide +kernel
theorem dX7_setRooms_13 : decode cX7_setRooms 13 = .ok (.aload_n 0, 1) := by decide +kernel
theorem dX7_setRooms_14 : decode cX7_setRooms 14 = .ok (.iconst 0, 1) := by decide +kernel
theorem dX7_setRooms_15 : decode cX7_setRooms 15 = .ok (.iload_n 1, 1) := by decide +kernel
theorem dX7_setRooms_16 : decode cX7_setRooms 16 = .ok (.invokevirtual 120, 3) := by decide +kernel
theorem dX7_setRooms_19 : decode cX7_setRooms 19 = .ok (.iastore, 1) := by decide +kernel
theorem dX7_setRooms_20 : decode cX7_setRooms 20 = .ok (.iinc 1 1, 3) := by decide +kernel
theorem dX7_setRooms_23 : decode cX7_setRooms 23 = .ok (.goto (-21), 3) := by decide +kernel
theorem dX7_setRooms_26 : decode cX7_setRooms 26 = .ok (.iconst 0, 1) := by decide +kernel
theorem dX7_setRooms_27 : decode cX7_setRooms 27 = .ok (.istore_n 1, 1) := by decide +kernel
theorem dX7_setRooms_28 : decode cX7_setRooms 28 = .ok (.iload_n 1, 1) := by decide +kernel
theorem dX7_setRooms_29 : decode cX7_setRooms 29 = .ok (.bipush 12, 2) := by decide +kernel
theorem dX7_setRooms_31 : decode cX7_setRooms 31 = .ok (.if_icmp .ge 22, 3) := by decide +kernel
theorem dX7_setRooms_34 : decode cX7_setRooms 34 = .ok (.aload_n 0, 1) := by decide +kernel
theorem dX7_setRooms_35 : decode cX7_setRooms 35 = .ok (.getfield 28, 3) := by decide +kernel
theorem dX7_setRooms_38 : decode cX7_setRooms 38 = .ok (.iload_n 1, 1) := by decide +kernel
theorem dX7_setRooms_39 : decode cX7_setRooms 39 = .ok (.aload_n 0, 1) := by decide +kernel
theorem dX7_setRooms_40 : decode cX7_setRooms 40 = .ok (.bipush 10, 2) := by decide +kernel
theorem dX7_setRooms_42 : decode cX7_setRooms 42 = .ok (.iload_n 1, 1) := by decide +kernel
theorem dX7_setRooms_43 : decode cX7_setRooms 43 = .ok (.invokevirtual 120, 3) := by decide +kernel
theorem dX7_setRooms_46 : decode cX7_setRooms 46 = .ok (.iastore, 1) := by decide +kernel
theorem dX7_setRooms_47 : decode cX7_setRooms 47 = .ok (.iinc 1 1, 3) := by decide +kernel
theorem dX7_setRooms_50 : decode cX7_setRooms 50 = .ok (.goto (-22), 3) := by decide +kernel
theorem dX7_setRooms_53 : decode cX7_setRooms 53 = .ok (.return_, 1) := by decide +kernel
theorem dX7_roomOf_0 : decode cX7_roomOf 0 = .ok (.bipush 12, 2) := by decide +kernel
theorem dX7_roomOf_2 : decode cX7_roomOf 2 = .ok (.aload_n 0, 1) := by decide +kernel
theorem dX7_roomOf_3 : decode cX7_roomOf 3 = .ok (.getfield 25, 3) := by decide +kernel
theorem dX7_roomOf_6 : decode cX7_roomOf 6 = .ok (.iload_n 1, 1) := by decide +kernel
theorem dX7_roomOf_7 : decode cX7_roomOf 7 = .ok (.bipush 12, 2) := by decide +kernel
theorem dX7_roomOf_9 : decode cX7_roomOf 9 = .ok (.idiv, 1) := by decide +kernel
theorem dX7_roomOf_10 : decode cX7_roomOf 10 = .ok (.iaload, 1) := by decide +kernel
theorem dX7_roomOf_11 : decode cX7_roomOf 11 = .ok (.imul, 1) := by decide +kernel
theorem dX7_roomOf_12 : decode cX7_roomOf 12 = .ok (.aload_n 0, 1) := by decide +kernel
theorem dX7_roomOf_13 : decode cX7_roomOf 13 = .ok (.getfield 28, 3) := by decide +kernel
theorem dX7_roomOf_16 : decode cX7_roomOf 16 = .ok (.iload_n 1, 1) := by decide +kernel
theorem dX7_roomOf_17 : decode cX7_roomOf 17 = .ok (.bipush 12, 2) := by decide +kernel
theorem dX7_roomOf_19 : decode cX7_roomOf 19 = .ok (.irem, 1) := by decide +kernel
theorem dX7_roomOf_20 : decode cX7_roomOf 20 = .ok (.iaload, 1) := by decide +kernel
theorem dX7_roomOf_21 : decode cX7_roomOf 21 = .ok (.iadd, 1) := by decide +kernel
theorem dX7_roomOf_22 : decode cX7_roomOf 22 = .ok (.ireturn, 1) := by decide +kernel
theorem dX7_bearer_0 : decode cX7_bearer 0 = .ok (.iconst (-1), 1) := by decide +kernel
theorem dX7_bearer_1 : decode cX7_bearer 1 = .ok (.istore_n 3, 1) := by decide +kernel
theorem dX7_bearer_2 : decode cX7_bearer 2 = .ok (.sipush 999, 3) := by decide +kernel
theorem dX7_bearer_5 : decode cX7_bearer 5 = .ok (.istore 4, 2) := by decide +kernel
theorem dX7_bearer_7 : decode cX7_bearer 7 = .ok (.iconst 0, 1) := by decide +kernel
theorem dX7_bearer_8 : decode cX7_bearer 8 = .ok (.istore 5, 2) := by decide +kernel
theorem dX7_bearer_10 : decode cX7_bearer 10 = .ok (.iload 5, 2) := by decide +kernel
theorem dX7_bearer_12 : decode cX7_bearer 12 = .ok (.bipush 13, 2) := by decide +kernel
theorem dX7_bearer_14 : decode cX7_bearer 14 = .ok (.if_icmp .ge 105, 3) := by decide +kernel
theorem dX7_bearer_17 : decode cX7_bearer 17 = .ok (.iload_n 1, 1) := by decide +kernel
theorem dX7_bearer_18 : decode cX7_bearer 18 = .ok (.iload 5, 2) := by decide +kernel
theorem dX7_bearer_20 : decode cX7_bearer 20 = .ok (.ishr, 1) := by decide +kernel
theorem dX7_bearer_21 : decode cX7_bearer 21 = .ok (.iconst 1, 1) := by decide +kernel
theorem dX7_bearer_22 : decode cX7_bearer 22 = .ok (.iand, 1) := by decide +kernel
theorem dX7_bearer_23 : decode cX7_bearer 23 = .ok (.iconst 1, 1) := by decide +kernel
theorem dX7_bearer_24 : decode cX7_bearer 24 = .ok (.if_icmp .ne 89, 3) := by decide +kernel
theorem dX7_bearer_27 : decode cX7_bearer 27 = .ok (.aload_n 0, 1) := by decide +kernel
theorem dX7_bearer_28 : decode cX7_bearer 28 = .ok (.aload_n 0, 1) := by decide +kernel
theorem dX7_bearer_29 : decode cX7_bearer 29 = .ok (.getfield 16, 3) := by decide +kernel
theorem dX7_bearer_32 : decode cX7_bearer 32 = .ok (.iload 5, 2) := by decide +kernel
theorem dX7_bearer_34 : decode cX7_bearer 34 = .ok (.iaload, 1) := by decide +kernel
theorem dX7_bearer_35 : decode cX7_bearer 35 = .ok (.invokevirtual 124, 3) := by decide +kernel
theorem dX7_bearer_38 : decode cX7_bearer 38 = .ok (.aload_n 0, 1) := by decide +kernel
theorem dX7_bearer_39 : decode cX7_bearer 39 = .ok (.iload_n 2, 1) := by decide +kernel
theorem dX7_bearer_40 : decode cX7_bearer 40 = .ok (.invokevirtual 124, 3) := by decide +kernel
theorem dX7_bearer_43 : decode cX7_bearer 43 = .ok (.if_icmp .ne 70, 3) := by decide +kernel
theorem dX7_bearer_46 : decode cX7_bearer 46 = .ok (.aload_n 0, 1) := by decide +kernel
theorem dX7_bearer_47 : decode cX7_bearer 47 = .ok (.getfield 16, 3) := by decide +kernel
theorem dX7_bearer_50 : decode cX7_bearer 50 = .ok (.iload 5, 2) := by decide +kernel
theorem dX7_bearer_52 : decode cX7_bearer 52 = .ok (.iaload, 1) := by decide +kernel
theorem dX7_bearer_53 : decode cX7_bearer 53 = .ok (.bipush 12, 2) := by decide +kernel
theorem dX7_bearer_55 : decode cX7_bearer 55 = .ok (.idiv, 1) := by decide +kernel
theorem dX7_bearer_56 : decode cX7_bearer 56 = .ok (.iload_n 2, 1) := by decide +kernel
theorem dX7_bearer_57 : decode cX7_bearer 57 = .ok (.bipush 12, 2) := by decide +kernel
theorem dX7_bearer_59 : decode cX7_bearer 59 = .ok (.idiv, 1) := by decide +kernel
theorem dX7_bearer_60 : decode cX7_bearer 60 = .ok (.invokestatic 127, 3) := by decide +kernel
theorem dX7_bearer_63 : decode cX7_bearer 63 = .ok (.aload_n 0, 1) := by decide +kernel
theorem dX7_bearer_64 : decode cX7_bearer 64 = .ok (.getfield 16, 3) := by decide +kernel
theorem dX7_bearer_67 : decode cX7_bearer 67 = .ok (.iload 5, 2) := by decide +kernel
theorem dX7_bearer_69 : decode cX7_bearer 69 = .ok (.iaload, 1) := by decide +kernel
theorem dX7_bearer_70 : decode cX7_bearer 70 = .ok (.bipush 12, 2) := by decide +kernel
theorem dX7_bearer_72 : decode cX7_bearer 72 = .ok (.irem, 1) := by decide +kernel
theorem dX7_bearer_73 : decode cX7_bearer 73 = .ok (.iload_n 2, 1) := by decide +kernel
theorem dX7_bearer_74 : decode cX7_bearer 74 = .ok (.bipush 12, 2) := by decide +kernel
theorem dX7_bearer_76 : decode cX7_bearer 76 = .ok (.irem, 1) := by decide +kernel
theorem dX7_bearer_77 : decode cX7_bearer 77 = .ok (.invokestatic 127, 3) := by decide +kernel
theorem dX7_bearer_80 : decode cX7_bearer 80 = .ok (.iadd, 1) := by decide +kernel
theorem dX7_bearer_81 : decode cX7_bearer 81 = .ok (.istore 6, 2) := by decide +kernel
theorem dX7_bearer_83 : decode cX7_bearer 83 = .ok (.iload 6, 2) := by decide +kernel
theorem dX7_bearer_85 : decode cX7_bearer 85 = .ok (.iload 4, 2) := by decide +kernel
theorem dX7_bearer_87 : decode cX7_bearer 87 = .ok (.if_icmp .ge 8, 3) := by decide +kernel
theorem dX7_bearer_90 : decode cX7_bearer 90 = .ok (.iload 5, 2) := by decide +kernel
theorem dX7_bearer_92 : decode cX7_bearer 92 = .ok (.goto 4, 3) := by decide +kernel
theorem dX7_bearer_95 : decode cX7_bearer 95 = .ok (.iload_n 3, 1) := by decide +kernel
theorem dX7_bearer_96 : decode cX7_bearer 96 = .ok (.istore_n 3, 1) := by decide +kernel
theorem dX7_bearer_97 : decode cX7_bearer 97 = .ok (.iload 6, 2) := by decide +kernel
theorem dX7_bearer_99 : decode cX7_bearer 99 = .ok (.iload 4, 2) := by decide +kernel
theorem dX7_bearer_101 : decode cX7_bearer 101 = .ok (.if_icmp .ge 8, 3) := by decide +kernel
theorem dX7_bearer_104 : decode cX7_bearer 104 = .ok (.iload 6, 2) := by decide +kernel
theorem dX7_bearer_106 : decode cX7_bearer 106 = .ok (.goto 5, 3) := by decide +kernel
theorem dX7_bearer_109 : decode cX7_bearer 109 = .ok (.iload 4, 2) := by decide +kernel
theorem dX7_bearer_111 : decode cX7_bearer 111 = .ok (.istore 4, 2) := by decide +kernel
theorem dX7_bearer_113 : decode cX7_bearer 113 = .ok (.iinc 5 1, 3) := by decide +kernel
theorem dX7_bearer_116 : decode cX7_bearer 116 = .ok (.goto (-106), 3) := by decide +kernel
theorem dX7_bearer_119 : decode cX7_bearer 119 = .ok (.iload_n 3, 1) := by decide +kernel
theorem dX7_bearer_120 : decode cX7_bearer 120 = .ok (.ireturn, 1) := by decide +kernel
theorem dX7_bears_0 : decode cX7_bears 0 = .ok (.aload_n 0, 1) := by decide +kernel
theorem dX7_bears_1 : decode cX7_bears 1 = .ok (.invokevirtual 130, 3) := by decide +kernel
theorem dX7_bears_4 : decode cX7_bears 4 = .ok (.iconst 0, 1) := by decide +kernel
theorem dX7_bears_5 : decode cX7_bears 5 = .ok (.istore_n 2, 1) := by decide +kernel
theorem dX7_bears_6 : decode cX7_bears 6 = .ok (.iload_n 2, 1) := by decide +kernel
theorem dX7_bears_7 : decode cX7_bears 7 = .ok (.bipush 14, 2) := by decide +kernel
theorem dX7_bears_9 : decode cX7_bears 9 = .ok (.if_icmp .ge 23, 3) := by decide +kernel
theorem dX7_bears_12 : decode cX7_bears 12 = .ok (.aload_n 0, 1) := by decide +kernel
theorem dX7_bears_13 : decode cX7_bears 13 = .ok (.getfield 31, 3) := by decide +kernel
theorem dX7_bears_16 : decode cX7_bears 16 = .ok (.iload_n 2, 1) := by decide +kernel
theorem dX7_bears_17 : decode cX7_bears 17 = .ok (.iconst 0, 1) := by decide +kernel
theorem dX7_bears_18 : decode cX7_bears 18 = .ok (.iastore, 1) := by decide +kernel
theorem dX7_bears_19 : decode cX7_bears 19 = .ok (.aload_n 0, 1) := by decide +kernel
theorem dX7_bears_20 : decode cX7_bears 20 = .ok (.getfield 34, 3) := by decide +kernel
theorem dX7_bears_23 : decode cX7_bears 23 = .ok (.iload_n 2, 1) := by decide +kernel
theorem dX7_bears_24 : decode cX7_bears 24 = .ok (.iconst 0, 1) := by decide +kernel
theorem dX7_bears_25 : decode cX7_bears 25 = .ok (.iastore, 1) := by decide +kernel
theorem dX7_bears_26 : decode cX7_bears 26 = .ok (.iinc 2 1, 3) := by decide +kernel
theorem dX7_bears_29 : decode cX7_bears 29 = .ok (.goto (-23), 3) := by decide +kernel
theorem dX7_bears_32 : decode cX7_bears 32 = .ok (.iconst 0, 1) := by decide +kernel
theorem dX7_bears_33 : decode cX7_bears 33 = .ok (.istore_n 2, 1) := by decide +kernel
theorem dX7_bears_34 : decode cX7_bears 34 = .ok (.iload_n 2, 1) := by decide +kernel
theorem dX7_bears_35 : decode cX7_bears 35 = .ok (.bipush 96, 2) := by decide +kernel
theorem dX7_bears_37 : decode cX7_bears 37 = .ok (.if_icmp .ge 56, 3) := by decide +kernel
theorem dX7_bears_40 : decode cX7_bears 40 = .ok (.aload_n 0, 1) := by decide +kernel
theorem dX7_bears_41 : decode cX7_bears 41 = .ok (.iload_n 1, 1) := by decide +kernel
theorem dX7_bears_42 : decode cX7_bears 42 = .ok (.iload_n 2, 1) := by decide +kernel
theorem dX7_bears_43 : decode cX7_bears 43 = .ok (.invokevirtual 133, 3) := by decide +kernel
theorem dX7_bears_46 : decode cX7_bears 46 = .ok (.istore_n 3, 1) := by decide +kernel
theorem dX7_bears_47 : decode cX7_bears 47 = .ok (.iload_n 3, 1) := by decide +kernel
theorem dX7_bears_48 : decode cX7_bears 48 = .ok (.iconst (-1), 1) := by decide +kernel
theorem dX7_bears_49 : decode cX7_bears 49 = .ok (.if_icmp .ne 8, 3) := by decide +kernel
theorem dX7_bears_52 : decode cX7_bears 52 = .ok (.bipush 13, 2) := by decide +kernel
theorem dX7_bears_54 : decode cX7_bears 54 = .ok (.goto 4, 3) := by decide +kernel
theorem dX7_bears_57 : decode cX7_bears 57 = .ok (.iload_n 3, 1) := by decide +kernel
theorem dX7_bears_58 : decode cX7_bears 58 = .ok (.istore 4, 2) := by decide +kernel
theorem dX7_bears_60 : decode cX7_bears 60 = .ok (.aload_n 0, 1) := by decide +kernel
theorem dX7_bears_61 : decode cX7_bears 61 = .ok (.getfield 31, 3) := by decide +kernel
theorem dX7_bears_64 : decode cX7_bears 64 = .ok (.iload 4, 2) := by decide +kernel
theorem dX7_bears_66 : decode cX7_bears 66 = .ok (.dup2, 1) := by decide +kernel
theorem dX7_bears_67 : decode cX7_bears 67 = .ok (.iaload, 1) := by decide +kernel
theorem dX7_bears_68 : decode cX7_bears 68 = .ok (.aload_n 0, 1) := by decide +kernel
theorem dX7_bears_69 : decode cX7_bears 69 = .ok (.getfield 13, 3) := by decide +kernel
theorem dX7_bears_72 : decode cX7_bears 72 = .ok (.iload_n 2, 1) := by decide +kernel
theorem dX7_bears_73 : decode cX7_bears 73 = .ok (.iaload, 1) := by decide +kernel
theorem dX7_bears_74 : decode cX7_bears 74 = .ok (.iadd, 1) := by decide +kernel
theorem dX7_bears_75 : decode cX7_bears 75 = .ok (.iastore, 1) := by decide +kernel
theorem dX7_bears_76 : decode cX7_bears 76 = .ok (.aload_n 0, 1) := by decide +kernel
theorem dX7_bears_77 : decode cX7_bears 77 = .ok (.getfield 34, 3) := by decide +kernel
theorem dX7_bears_80 : decode cX7_bears 80 = .ok (.iload 4, 2) := by decide +kernel
theorem dX7_bears_82 : decode cX7_bears 82 = .ok (.dup2, 1) := by decide +kernel
theorem dX7_bears_83 : decode cX7_bears 83 = .ok (.iaload, 1) := by decide +kernel
theorem dX7_bears_84 : decode cX7_bears 84 = .ok (.iconst 1, 1) := by decide +kernel
theorem dX7_bears_85 : decode cX7_bears 85 = .ok (.iadd, 1) := by decide +kernel
theorem dX7_bears_86 : decode cX7_bears 86 = .ok (.iastore, 1) := by decide +kernel
theorem dX7_bears_87 : decode cX7_bears 87 = .ok (.iinc 2 1, 3) := by decide +kernel
theorem dX7_bears_90 : decode cX7_bears 90 = .ok (.goto (-56), 3) := by decide +kernel
theorem dX7_bears_93 : decode cX7_bears 93 = .ok (.return_, 1) := by decide +kernel
theorem dX7_tooMuch_0 : decode cX7_tooMuch 0 = .ok (.aload_n 0, 1) := by decide +kernel
theorem dX7_tooMuch_1 : decode cX7_tooMuch 1 = .ok (.iload_n 1, 1) := by decide +kernel
theorem dX7_tooMuch_2 : decode cX7_tooMuch 2 = .ok (.invokevirtual 136, 3) := by decide +kernel
theorem dX7_tooMuch_5 : decode cX7_tooMuch 5 = .ok (.iconst 0, 1) := by decide +kernel
theorem dX7_tooMuch_6 : decode cX7_tooMuch 6 = .ok (.istore_n 2, 1) := by decide +kernel
theorem dX7_tooMuch_7 : decode cX7_tooMuch 7 = .ok (.iconst 0, 1) := by decide +kernel
theorem dX7_tooMuch_8 : decode cX7_tooMuch 8 = .ok (.istore_n 3, 1) := by decide +kernel
theorem dX7_tooMuch_9 : decode cX7_tooMuch 9 = .ok (.iload_n 3, 1) := by decide +kernel
theorem dX7_tooMuch_10 : decode cX7_tooMuch 10 = .ok (.bipush 13, 2) := by decide +kernel
theorem dX7_tooMuch_12 : decode cX7_tooMuch 12 = .ok (.if_icmp .ge 43, 3) := by decide +kernel
theorem dX7_tooMuch_15 : decode cX7_tooMuch 15 = .ok (.iload_n 2, 1) := by decide +kernel
theorem dX7_tooMuch_16 : decode cX7_tooMuch 16 = .ok (.iload_n 1, 1) := by decide +kernel
theorem dX7_tooMuch_17 : decode cX7_tooMuch 17 = .ok (.iload_n 3, 1) := by decide +kernel
theorem dX7_tooMuch_18 : decode cX7_tooMuch 18 = .ok (.ishr, 1) := by decide +kernel
theorem dX7_tooMuch_19 : decode cX7_tooMuch 19 = .ok (.iconst 1, 1) := by decide +kernel
theorem dX7_tooMuch_20 : decode cX7_tooMuch 20 = .ok (.iand, 1) := by decide +kernel
theorem dX7_tooMuch_21 : decode cX7_tooMuch 21 = .ok (.iconst 1, 1) := by decide +kernel
theorem dX7_tooMuch_22 : decode cX7_tooMuch 22 = .ok (.if_icmp .ne 24, 3) := by decide +kernel
theorem dX7_tooMuch_25 : decode cX7_tooMuch 25 = .ok (.aload_n 0, 1) := by decide +kernel
theorem dX7_tooMuch_26 : decode cX7_tooMuch 26 = .ok (.getfield 31, 3) := by decide +kernel
theorem dX7_tooMuch_29 : decode cX7_tooMuch 29 = .ok (.iload_n 3, 1) := by decide +kernel
theorem dX7_tooMuch_30 : decode cX7_tooMuch 30 = .ok (.iaload, 1) := by decide +kernel
theorem dX7_tooMuch_31 : decode cX7_tooMuch 31 = .ok (.aload_n 0, 1) := by decide +kernel
theorem dX7_tooMuch_32 : decode cX7_tooMuch 32 = .ok (.getfield 19, 3) := by decide +kernel
theorem dX7_tooMuch_35 : decode cX7_tooMuch 35 = .ok (.iload_n 3, 1) := by decide +kernel
theorem dX7_tooMuch_36 : decode cX7_tooMuch 36 = .ok (.iaload, 1) := by decide +kernel
theorem dX7_tooMuch_37 : decode cX7_tooMuch 37 = .ok (.if_icmp .le 9, 3) := by decide +kernel
theorem dX7_tooMuch_40 : decode cX7_tooMuch 40 = .ok (.iconst 1, 1) := by decide +kernel
theorem dX7_tooMuch_41 : decode cX7_tooMuch 41 = .ok (.iload_n 3, 1) := by decide +kernel
theorem dX7_tooMuch_42 : decode cX7_tooMuch 42 = .ok (.ishl, 1) := by decide +kernel
theorem dX7_tooMuch_43 : decode cX7_tooMuch 43 = .ok (.goto 4, 3) := by decide +kernel
theorem dX7_tooMuch_46 : decode cX7_tooMuch 46 = .ok (.iconst 0, 1) := by decide +kernel
theorem dX7_tooMuch_47 : decode cX7_tooMuch 47 = .ok (.ior, 1) := by decide +kernel
theorem dX7_tooMuch_48 : decode cX7_tooMuch 48 = .ok (.istore_n 2, 1) := by decide +kernel
theorem dX7_tooMuch_49 : decode cX7_tooMuch 49 = .ok (.iinc 3 1, 3) := by decide +kernel
theorem dX7_tooMuch_52 : decode cX7_tooMuch 52 = .ok (.goto (-43), 3) := by decide +kernel
theorem dX7_tooMuch_55 : decode cX7_tooMuch 55 = .ok (.iload_n 2, 1) := by decide +kernel
theorem dX7_tooMuch_56 : decode cX7_tooMuch 56 = .ok (.ireturn, 1) := by decide +kernel
theorem dX7_noWaves_0 : decode cX7_noWaves 0 = .ok (.aload_n 0, 1) := by decide +kernel
theorem dX7_noWaves_1 : decode cX7_noWaves 1 = .ok (.iconst 0, 1) := by decide +kernel
theorem dX7_noWaves_2 : decode cX7_noWaves 2 = .ok (.putfield 139, 3) := by decide +kernel
theorem dX7_noWaves_5 : decode cX7_noWaves 5 = .ok (.return_, 1) := by decide +kernel
theorem dX7_left_0 : decode cX7_left 0 = .ok (.iload_n 1, 1) := by decide +kernel
theorem dX7_left_1 : decode cX7_left 1 = .ok (.istore_n 2, 1) := by decide +kernel
theorem dX7_left_2 : decode cX7_left 2 = .ok (.aload_n 0, 1) := by decide +kernel
theorem dX7_left_3 : decode cX7_left 3 = .ok (.iload_n 2, 1) := by decide +kernel
theorem dX7_left_4 : decode cX7_left 4 = .ok (.invokevirtual 142, 3) := by decide +kernel
theorem dX7_left_7 : decode cX7_left 7 = .ok (.istore_n 3, 1) := by decide +kernel
theorem dX7_left_8 : decode cX7_left 8 = .ok (.iload_n 3, 1) := by decide +kernel
theorem dX7_left_9 : decode cX7_left 9 = .ok (.ifCond .eq 18, 3) := by decide +kernel
theorem dX7_left_12 : decode cX7_left 12 = .ok (.iload_n 2, 1) := by decide +kernel
theorem dX7_left_13 : decode cX7_left 13 = .ok (.iload_n 3, 1) := by decide +kernel
theorem dX7_left_14 : decode cX7_left 14 = .ok (.iconst (-1), 1) := by decide +kernel
theorem dX7_left_15 : decode cX7_left 15 = .ok (.ixor, 1) := by decide +kernel
theorem dX7_left_16 : decode cX7_left 16 = .ok (.iand, 1) := by decide +kernel
theorem dX7_left_17 : decode cX7_left 17 = .ok (.istore_n 2, 1) := by decide +kernel
theorem dX7_left_18 : decode cX7_left 18 = .ok (.aload_n 0, 1) := by decide +kernel
theorem dX7_left_19 : decode cX7_left 19 = .ok (.iload_n 2, 1) := by decide +kernel
theorem dX7_left_20 : decode cX7_left 20 = .ok (.invokevirtual 142, 3) := by decide +kernel
theorem dX7_left_23 : decode cX7_left 23 = .ok (.istore_n 3, 1) := by decide +kernel
theorem dX7_left_24 : decode cX7_left 24 = .ok (.goto (-16), 3) := by decide +kernel
theorem dX7_left_27 : decode cX7_left 27 = .ok (.iload_n 2, 1) := by decide +kernel
theorem dX7_left_28 : decode cX7_left 28 = .ok (.ireturn, 1) := by decide +kernel
theorem dX7_goes_0 : decode cX7_goes 0 = .ok (.aload_n 0, 1) := by decide +kernel
theorem dX7_goes_1 : decode cX7_goes 1 = .ok (.invokevirtual 73, 3) := by decide +kernel
theorem dX7_goes_4 : decode cX7_goes 4 = .ok (.aload_n 0, 1) := by decide +kernel
theorem dX7_goes_5 : decode cX7_goes 5 = .ok (.aload_n 0, 1) := by decide +kernel
theorem dX7_goes_6 : decode cX7_goes 6 = .ok (.getfield 53, 3) := by decide +kernel
theorem dX7_goes_9 : decode cX7_goes 9 = .ok (.invokevirtual 142, 3) := by decide +kernel
theorem dX7_goes_12 : decode cX7_goes 12 = .ok (.istore_n 1, 1) := by decide +kernel
theorem dX7_goes_13 : decode cX7_goes 13 = .ok (.iload_n 1, 1) := by decide +kernel
theorem dX7_goes_14 : decode cX7_goes 14 = .ok (.ifCond .eq 47, 3) := by decide +kernel
theorem dX7_goes_17 : decode cX7_goes 17 = .ok (.aload_n 0, 1) := by decide +kernel
theorem dX7_goes_18 : decode cX7_goes 18 = .ok (.getfield 37, 3) := by decide +kernel
theorem dX7_goes_21 : decode cX7_goes 21 = .ok (.aload_n 0, 1) := by decide +kernel
theorem dX7_goes_22 : decode cX7_goes 22 = .ok (.getfield 139, 3) := by decide +kernel
theorem dX7_goes_25 : decode cX7_goes 25 = .ok (.iload_n 1, 1) := by decide +kernel
theorem dX7_goes_26 : decode cX7_goes 26 = .ok (.iastore, 1) := by decide +kernel
theorem dX7_goes_27 : decode cX7_goes 27 = .ok (.aload_n 0, 1) := by decide +kernel
theorem dX7_goes_28 : decode cX7_goes 28 = .ok (.dup, 1) := by decide +kernel
theorem dX7_goes_29 : decode cX7_goes 29 = .ok (.getfield 139, 3) := by decide +kernel
theorem dX7_goes_32 : decode cX7_goes 32 = .ok (.iconst 1, 1) := by decide +kernel
theorem dX7_goes_33 : decode cX7_goes 33 = .ok (.iadd, 1) := by decide +kernel
theorem dX7_goes_34 : decode cX7_goes 34 = .ok (.putfield 139, 3) := by decide +kernel
theorem dX7_goes_37 : decode cX7_goes 37 = .ok (.aload_n 0, 1) := by decide +kernel
theorem dX7_goes_38 : decode cX7_goes 38 = .ok (.dup, 1) := by decide +kernel
theorem dX7_goes_39 : decode cX7_goes 39 = .ok (.getfield 53, 3) := by decide +kernel
theorem dX7_goes_42 : decode cX7_goes 42 = .ok (.iload_n 1, 1) := by decide +kernel
theorem dX7_goes_43 : decode cX7_goes 43 = .ok (.iconst (-1), 1) := by decide +kernel
theorem dX7_goes_44 : decode cX7_goes 44 = .ok (.ixor, 1) := by decide +kernel
theorem dX7_goes_45 : decode cX7_goes 45 = .ok (.iand, 1) := by decide +kernel
theorem dX7_goes_46 : decode cX7_goes 46 = .ok (.putfield 53, 3) := by decide +kernel
theorem dX7_goes_49 : decode cX7_goes 49 = .ok (.aload_n 0, 1) := by decide +kernel
theorem dX7_goes_50 : decode cX7_goes 50 = .ok (.aload_n 0, 1) := by decide +kernel
theorem dX7_goes_51 : decode cX7_goes 51 = .ok (.getfield 53, 3) := by decide +kernel
theorem dX7_goes_54 : decode cX7_goes 54 = .ok (.invokevirtual 142, 3) := by decide +kernel
theorem dX7_goes_57 : decode cX7_goes 57 = .ok (.istore_n 1, 1) := by decide +kernel
theorem dX7_goes_58 : decode cX7_goes 58 = .ok (.goto (-45), 3) := by decide +kernel
theorem dX7_goes_61 : decode cX7_goes 61 = .ok (.return_, 1) := by decide +kernel
theorem dX7_tall_0 : decode cX7_tall 0 = .ok (.iload_n 0, 1) := by decide +kernel
theorem dX7_tall_1 : decode cX7_tall 1 = .ok (.sipush 4095, 3) := by decide +kernel
theorem dX7_tall_4 : decode cX7_tall 4 = .ok (.iand, 1) := by decide +kernel
theorem dX7_tall_5 : decode cX7_tall 5 = .ok (.invokestatic 117, 3) := by decide +kernel
theorem dX7_tall_8 : decode cX7_tall 8 = .ok (.iload_n 0, 1) := by decide +kernel
theorem dX7_tall_9 : decode cX7_tall 9 = .ok (.bipush 12, 2) := by decide +kernel
theorem dX7_tall_11 : decode cX7_tall 11 = .ok (.ishr, 1) := by decide +kernel
theorem dX7_tall_12 : decode cX7_tall 12 = .ok (.iconst 1, 1) := by decide +kernel
theorem dX7_tall_13 : decode cX7_tall 13 = .ok (.iand, 1) := by decide +kernel
theorem dX7_tall_14 : decode cX7_tall 14 = .ok (.iadd, 1) := by decide +kernel
theorem dX7_tall_15 : decode cX7_tall 15 = .ok (.ireturn, 1) := by decide +kernel
theorem dX7_ofBy_0 : decode cX7_ofBy 0 = .ok (.iload_n 2, 1) := by decide +kernel
theorem dX7_ofBy_1 : decode cX7_ofBy 1 = .ok (.tableswitch 88 0 4 #[35, 42, 49, 58, 73], 35) := by decide +kernel
theorem dX7_ofBy_36 : decode cX7_ofBy 36 = .ok (.aload_n 0, 1) := by decide +kernel
theorem dX7_ofBy_37 : decode cX7_ofBy 37 = .ok (.getfield 16, 3) := by decide +kernel
theorem dX7_ofBy_40 : decode cX7_ofBy 40 = .ok (.iload_n 1, 1) := by decide +kernel
theorem dX7_ofBy_41 : decode cX7_ofBy 41 = .ok (.iaload, 1) := by decide +kernel
theorem dX7_ofBy_42 : decode cX7_ofBy 42 = .ok (.ireturn, 1) := by decide +kernel
theorem dX7_ofBy_43 : decode cX7_ofBy 43 = .ok (.aload_n 0, 1) := by decide +kernel
theorem dX7_ofBy_44 : decode cX7_ofBy 44 = .ok (.getfield 19, 3) := by decide +kernel
theorem dX7_ofBy_47 : decode cX7_ofBy 47 = .ok (.iload_n 1, 1) := by decide +kernel
theorem dX7_ofBy_48 : decode cX7_ofBy 48 = .ok (.iaload, 1) := by decide +kernel
theorem dX7_ofBy_49 : decode cX7_ofBy 49 = .ok (.ireturn, 1) := by decide +kernel
theorem dX7_ofBy_50 : decode cX7_ofBy 50 = .ok (.aload_n 0, 1) := by decide +kernel
theorem dX7_ofBy_51 : decode cX7_ofBy 51 = .ok (.getfield 53, 3) := by decide +kernel
theorem dX7_ofBy_54 : decode cX7_ofBy 54 = .ok (.iload_n 1, 1) := by decide +kernel
theorem dX7_ofBy_55 : decode cX7_ofBy 55 = .ok (.ishr, 1) := by decide +kernel
theorem dX7_ofBy_56 : decode cX7_ofBy 56 = .ok (.iconst 1, 1) := by decide +kernel
theorem dX7_ofBy_57 : decode cX7_ofBy 57 = .ok (.iand, 1) := by decide +kernel
theorem dX7_ofBy_58 : decode cX7_ofBy 58 = .ok (.ireturn, 1) := by decide +kernel
theorem dX7_ofBy_59 : decode cX7_ofBy 59 = .ok (.aload_n 0, 1) := by decide +kernel
theorem dX7_ofBy_60 : decode cX7_ofBy 60 = .ok (.aload_n 0, 1) := by decide +kernel
theorem dX7_ofBy_61 : decode cX7_ofBy 61 = .ok (.getfield 53, 3) := by decide +kernel
theorem dX7_ofBy_64 : decode cX7_ofBy 64 = .ok (.invokevirtual 136, 3) := by decide +kernel
theorem dX7_ofBy_67 : decode cX7_ofBy 67 = .ok (.aload_n 0, 1) := by decide +kernel
theorem dX7_ofBy_68 : decode cX7_ofBy 68 = .ok (.getfield 31, 3) := by decide +kernel
theorem dX7_ofBy_71 : decode cX7_ofBy 71 = .ok (.iload_n 1, 1) := by decide +kernel
theorem dX7_ofBy_72 : decode cX7_ofBy 72 = .ok (.iaload, 1) := by decide +kernel
theorem dX7_ofBy_73 : decode cX7_ofBy 73 = .ok (.ireturn, 1) := by decide +kernel
theorem dX7_ofBy_74 : decode cX7_ofBy 74 = .ok (.aload_n 0, 1) := by decide +kernel
theorem dX7_ofBy_75 : decode cX7_ofBy 75 = .ok (.aload_n 0, 1) := by decide +kernel
theorem dX7_ofBy_76 : decode cX7_ofBy 76 = .ok (.getfield 53, 3) := by decide +kernel
theorem dX7_ofBy_79 : decode cX7_ofBy 79 = .ok (.invokevirtual 136, 3) := by decide +kernel
theorem dX7_ofBy_82 : decode cX7_ofBy 82 = .ok (.aload_n 0, 1) := by decide +kernel
theorem dX7_ofBy_83 : decode cX7_ofBy 83 = .ok (.getfield 34, 3) := by decide +kernel
theorem dX7_ofBy_86 : decode cX7_ofBy 86 = .ok (.iload_n 1, 1) := by decide +kernel
theorem dX7_ofBy_87 : decode cX7_ofBy 87 = .ok (.iaload, 1) := by decide +kernel
theorem dX7_ofBy_88 : decode cX7_ofBy 88 = .ok (.ireturn, 1) := by decide +kernel
theorem dX7_ofBy_89 : decode cX7_ofBy 89 = .ok (.aload_n 0, 1) := by decide +kernel
theorem dX7_ofBy_90 : decode cX7_ofBy 90 = .ok (.aload_n 0, 1) := by decide +kernel
theorem dX7_ofBy_91 : decode cX7_ofBy 91 = .ok (.getfield 53, 3) := by decide +kernel
theorem dX7_ofBy_94 : decode cX7_ofBy 94 = .ok (.invokevirtual 136, 3) := by decide +kernel
theorem dX7_ofBy_97 : decode cX7_ofBy 97 = .ok (.aload_n 0, 1) := by decide +kernel
theorem dX7_ofBy_98 : decode cX7_ofBy 98 = .ok (.iload_n 1, 1) := by decide +kernel
theorem dX7_ofBy_99 : decode cX7_ofBy 99 = .ok (.invokevirtual 145, 3) := by decide +kernel
theorem dX7_ofBy_102 : decode cX7_ofBy 102 = .ok (.ifCond .eq 19, 3) := by decide +kernel
theorem dX7_ofBy_105 : decode cX7_ofBy 105 = .ok (.aload_n 0, 1) := by decide +kernel
theorem dX7_ofBy_106 : decode cX7_ofBy 106 = .ok (.getfield 19, 3) := by decide +kernel
theorem dX7_ofBy_109 : decode cX7_ofBy 109 = .ok (.iload_n 1, 1) := by decide +kernel
theorem dX7_ofBy_110 : decode cX7_ofBy 110 = .ok (.iaload, 1) := by decide +kernel
theorem dX7_ofBy_111 : decode cX7_ofBy 111 = .ok (.aload_n 0, 1) := by decide +kernel
theorem dX7_ofBy_112 : decode cX7_ofBy 112 = .ok (.getfield 31, 3) := by decide +kernel
theorem dX7_ofBy_115 : decode cX7_ofBy 115 = .ok (.iload_n 1, 1) := by decide +kernel
theorem dX7_ofBy_116 : decode cX7_ofBy 116 = .ok (.iaload, 1) := by decide +kernel
theorem dX7_ofBy_117 : decode cX7_ofBy 117 = .ok (.isub, 1) := by decide +kernel
theorem dX7_ofBy_118 : decode cX7_ofBy 118 = .ok (.goto 6, 3) := by decide +kernel
theorem dX7_ofBy_121 : decode cX7_ofBy 121 = .ok (.sipush (-10000), 3) := by decide +kernel
theorem dX7_ofBy_124 : decode cX7_ofBy 124 = .ok (.ireturn, 1) := by decide +kernel
theorem dX7_of_0 : decode cX7_of 0 = .ok (.aload_n 0, 1) := by decide +kernel
theorem dX7_of_1 : decode cX7_of 1 = .ok (.iload_n 1, 1) := by decide +kernel
theorem dX7_of_2 : decode cX7_of 2 = .ok (.invokevirtual 110, 3) := by decide +kernel
theorem dX7_of_5 : decode cX7_of 5 = .ok (.ifCond .eq 21, 3) := by decide +kernel
theorem dX7_of_8 : decode cX7_of 8 = .ok (.iload_n 2, 1) := by decide +kernel
theorem dX7_of_9 : decode cX7_of 9 = .ok (.iconst 0, 1) := by decide +kernel
theorem dX7_of_10 : decode cX7_of 10 = .ok (.iconst 5, 1) := by decide +kernel
theorem dX7_of_11 : decode cX7_of 11 = .ok (.invokestatic 76, 3) := by decide +kernel
theorem dX7_of_14 : decode cX7_of 14 = .ok (.ifCond .eq 12, 3) := by decide +kernel
theorem dX7_of_17 : decode cX7_of 17 = .ok (.aload_n 0, 1) := by decide +kernel
theorem dX7_of_18 : decode cX7_of 18 = .ok (.iload_n 1, 1) := by decide +kernel
theorem dX7_of_19 : decode cX7_of 19 = .ok (.iload_n 2, 1) := by decide +kernel
theorem dX7_of_20 : decode cX7_of 20 = .ok (.invokevirtual 148, 3) := by decide +kernel
theorem dX7_of_23 : decode cX7_of 23 = .ok (.goto 7, 3) := by decide +kernel
theorem dX7_of_26 : decode cX7_of 26 = .ok (.aload_n 0, 1) := by decide +kernel
theorem dX7_of_27 : decode cX7_of 27 = .ok (.invokevirtual 84, 3) := by decide +kernel
theorem dX7_of_30 : decode cX7_of 30 = .ok (.ireturn, 1) := by decide +kernel
theorem dX7_rests_0 : decode cX7_rests 0 = .ok (.iload_n 1, 1) := by decide +kernel
theorem dX7_rests_1 : decode cX7_rests 1 = .ok (.invokestatic 80, 3) := by decide +kernel
theorem dX7_rests_4 : decode cX7_rests 4 = .ok (.ifCond .ne 8, 3) := by decide +kernel
theorem dX7_rests_7 : decode cX7_rests 7 = .ok (.aload_n 0, 1) := by decide +kernel
theorem dX7_rests_8 : decode cX7_rests 8 = .ok (.invokevirtual 84, 3) := by decide +kernel
theorem dX7_rests_11 : decode cX7_rests 11 = .ok (.ireturn, 1) := by decide +kernel
theorem dX7_rests_12 : decode cX7_rests 12 = .ok (.aload_n 0, 1) := by decide +kernel
theorem dX7_rests_13 : decode cX7_rests 13 = .ok (.invokevirtual 130, 3) := by decide +kernel
theorem dX7_rests_16 : decode cX7_rests 16 = .ok (.aload_n 0, 1) := by decide +kernel
theorem dX7_rests_17 : decode cX7_rests 17 = .ok (.aload_n 0, 1) := by decide +kernel
theorem dX7_rests_18 : decode cX7_rests 18 = .ok (.getfield 53, 3) := by decide +kernel
theorem dX7_rests_21 : decode cX7_rests 21 = .ok (.iload_n 1, 1) := by decide +kernel
theorem dX7_rests_22 : decode cX7_rests 22 = .ok (.invokevirtual 133, 3) := by decide +kernel
theorem dX7_rests_25 : decode cX7_rests 25 = .ok (.ireturn, 1) := by decide +kernel
theorem dX7_allWeight_0 : decode cX7_allWeight 0 = .ok (.iconst 0, 1) := by decide +kernel
theorem dX7_allWeight_1 : decode cX7_allWeight 1 = .ok (.istore_n 1, 1) := by decide +kernel
theorem dX7_allWeight_2 : decode cX7_allWeight 2 = .ok (.iconst 0, 1) := by decide +kernel
theorem dX7_allWeight_3 : decode cX7_allWeight 3 = .ok (.istore_n 2, 1) := by decide +kernel
theorem dX7_allWeight_4 : decode cX7_allWeight 4 = .ok (.iload_n 2, 1) := by decide +kernel
theorem dX7_allWeight_5 : decode cX7_allWeight 5 = .ok (.bipush 96, 2) := by decide +kernel
theorem dX7_allWeight_7 : decode cX7_allWeight 7 = .ok (.if_icmp .ge 18, 3) := by decide +kernel
theorem dX7_allWeight_10 : decode cX7_allWeight 10 = .ok (.iload_n 1, 1) := by decide +kernel
theorem dX7_allWeight_11 : decode cX7_allWeight 11 = .ok (.aload_n 0, 1) := by decide +kernel
theorem dX7_allWeight_12 : decode cX7_allWeight 12 = .ok (.getfield 13, 3) := by decide +kernel
theorem dX7_allWeight_15 : decode cX7_allWeight 15 = .ok (.iload_n 2, 1) := by decide +kernel
theorem dX7_allWeight_16 : decode cX7_allWeight 16 = .ok (.iaload, 1) := by decide +kernel
theorem dX7_allWeight_17 : decode cX7_allWeight 17 = .ok (.iadd, 1) := by decide +kernel
theorem dX7_allWeight_18 : decode cX7_allWeight 18 = .ok (.istore_n 1, 1) := by decide +kernel
theorem dX7_allWeight_19 : decode cX7_allWeight 19 = .ok (.iinc 2 1, 3) := by decide +kernel
theorem dX7_allWeight_22 : decode cX7_allWeight 22 = .ok (.goto (-18), 3) := by decide +kernel
theorem dX7_allWeight_25 : decode cX7_allWeight 25 = .ok (.iload_n 1, 1) := by decide +kernel
theorem dX7_allWeight_26 : decode cX7_allWeight 26 = .ok (.ireturn, 1) := by decide +kernel
theorem dX7_rooms_0 : decode cX7_rooms 0 = .ok (.aload_n 0, 1) := by decide +kernel
theorem dX7_rooms_1 : decode cX7_rooms 1 = .ok (.iconst 0, 1) := by decide +kernel
theorem dX7_rooms_2 : decode cX7_rooms 2 = .ok (.bipush 7, 2) := by decide +kernel
theorem dX7_rooms_4 : decode cX7_rooms 4 = .ok (.invokevirtual 120, 3) := by decide +kernel
theorem dX7_rooms_7 : decode cX7_rooms 7 = .ok (.iconst 1, 1) := by decide +kernel
theorem dX7_rooms_8 : decode cX7_rooms 8 = .ok (.iadd, 1) := by decide +kernel
theorem dX7_rooms_9 : decode cX7_rooms 9 = .ok (.aload_n 0, 1) := by decide +kernel
theorem dX7_rooms_10 : decode cX7_rooms 10 = .ok (.bipush 10, 2) := by decide +kernel
theorem dX7_rooms_12 : decode cX7_rooms 12 = .ok (.bipush 11, 2) := by decide +kernel
theorem dX7_rooms_14 : decode cX7_rooms 14 = .ok (.invokevirtual 120, 3) := by decide +kernel
theorem dX7_rooms_17 : decode cX7_rooms 17 = .ok (.iconst 1, 1) := by decide +kernel
theorem dX7_rooms_18 : decode cX7_rooms 18 = .ok (.iadd, 1) := by decide +kernel
theorem dX7_rooms_19 : decode cX7_rooms 19 = .ok (.imul, 1) := by decide +kernel
theorem dX7_rooms_20 : decode cX7_rooms 20 = .ok (.ireturn, 1) := by decide +kernel
theorem dX7_heldRooms_0 : decode cX7_heldRooms 0 = .ok (.aload_n 0, 1) := by decide +kernel
theorem dX7_heldRooms_1 : decode cX7_heldRooms 1 = .ok (.invokevirtual 130, 3) := by decide +kernel
theorem dX7_heldRooms_4 : decode cX7_heldRooms 4 = .ok (.iconst 0, 1) := by decide +kernel
theorem dX7_heldRooms_5 : decode cX7_heldRooms 5 = .ok (.istore_n 1, 1) := by decide +kernel
theorem dX7_heldRooms_6 : decode cX7_heldRooms 6 = .ok (.iconst 0, 1) := by decide +kernel
theorem dX7_heldRooms_7 : decode cX7_heldRooms 7 = .ok (.istore_n 2, 1) := by decide +kernel
theorem dX7_heldRooms_8 : decode cX7_heldRooms 8 = .ok (.iload_n 2, 1) := by decide +kernel
theorem dX7_heldRooms_9 : decode cX7_heldRooms 9 = .ok (.aload_n 0, 1) := by decide +kernel
theorem dX7_heldRooms_10 : decode cX7_heldRooms 10 = .ok (.getfield 49, 3) := by decide +kernel
theorem dX7_heldRooms_13 : decode cX7_heldRooms 13 = .ok (.if_icmp .ge 85, 3) := by decide +kernel
theorem dX7_heldRooms_16 : decode cX7_heldRooms 16 = .ok (.aload_n 0, 1) := by decide +kernel
theorem dX7_heldRooms_17 : decode cX7_heldRooms 17 = .ok (.iload_n 2, 1) := by decide +kernel
theorem dX7_heldRooms_18 : decode cX7_heldRooms 18 = .ok (.invokevirtual 145, 3) := by decide +kernel
theorem dX7_heldRooms_21 : decode cX7_heldRooms 21 = .ok (.istore_n 3, 1) := by decide +kernel
theorem dX7_heldRooms_22 : decode cX7_heldRooms 22 = .ok (.iconst 0, 1) := by decide +kernel
theorem dX7_heldRooms_23 : decode cX7_heldRooms 23 = .ok (.istore 4, 2) := by decide +kernel
theorem dX7_heldRooms_25 : decode cX7_heldRooms 25 = .ok (.iload 4, 2) := by decide +kernel
theorem dX7_heldRooms_27 : decode cX7_heldRooms 27 = .ok (.iload_n 2, 1) := by decide +kernel
theorem dX7_heldRooms_28 : decode cX7_heldRooms 28 = .ok (.if_icmp .ge 52, 3) := by decide +kernel
theorem dX7_heldRooms_31 : decode cX7_heldRooms 31 = .ok (.iload_n 3, 1) := by decide +kernel
theorem dX7_heldRooms_32 : decode cX7_heldRooms 32 = .ok (.ifCond .eq 40, 3) := by decide +kernel
theorem dX7_heldRooms_35 : decode cX7_heldRooms 35 = .ok (.aload_n 0, 1) := by decide +kernel
theorem dX7_heldRooms_36 : decode cX7_heldRooms 36 = .ok (.iload 4, 2) := by decide +kernel
theorem dX7_heldRooms_38 : decode cX7_heldRooms 38 = .ok (.invokevirtual 145, 3) := by decide +kernel
theorem dX7_heldRooms_41 : decode cX7_heldRooms 41 = .ok (.ifCond .eq 27, 3) := by decide +kernel
theorem dX7_heldRooms_44 : decode cX7_heldRooms 44 = .ok (.aload_n 0, 1) := by decide +kernel
theorem dX7_heldRooms_45 : decode cX7_heldRooms 45 = .ok (.aload_n 0, 1) := by decide +kernel
theorem dX7_heldRooms_46 : decode cX7_heldRooms 46 = .ok (.getfield 16, 3) := by decide +kernel
theorem dX7_heldRooms_49 : decode cX7_heldRooms 49 = .ok (.iload 4, 2) := by decide +kernel
theorem dX7_heldRooms_51 : decode cX7_heldRooms 51 = .ok (.iaload, 1) := by decide +kernel
theorem dX7_heldRooms_52 : decode cX7_heldRooms 52 = .ok (.invokevirtual 124, 3) := by decide +kernel
theorem dX7_heldRooms_55 : decode cX7_heldRooms 55 = .ok (.aload_n 0, 1) := by decide +kernel
theorem dX7_heldRooms_56 : decode cX7_heldRooms 56 = .ok (.aload_n 0, 1) := by decide +kernel
theorem dX7_heldRooms_57 : decode cX7_heldRooms 57 = .ok (.getfield 16, 3) := by decide +kernel
theorem dX7_heldRooms_60 : decode cX7_heldRooms 60 = .ok (.iload_n 2, 1) := by decide +kernel
theorem dX7_heldRooms_61 : decode cX7_heldRooms 61 = .ok (.iaload, 1) := by decide +kernel
theorem dX7_heldRooms_62 : decode cX7_heldRooms 62 = .ok (.invokevirtual 124, 3) := by decide +kernel
theorem dX7_heldRooms_65 : decode cX7_heldRooms 65 = .ok (.if_icmp .eq 7, 3) := by decide +kernel
theorem dX7_heldRooms_68 : decode cX7_heldRooms 68 = .ok (.iconst 1, 1) := by decide +kernel
theorem dX7_heldRooms_69 : decode cX7_heldRooms 69 = .ok (.goto 4, 3) := by decide +kernel
theorem dX7_heldRooms_72 : decode cX7_heldRooms 72 = .ok (.iconst 0, 1) := by decide +kernel
theorem dX7_heldRooms_73 : decode cX7_heldRooms 73 = .ok (.istore_n 3, 1) := by decide +kernel
theorem dX7_heldRooms_74 : decode cX7_heldRooms 74 = .ok (.iinc 4 1, 3) := by decide +kernel
theorem dX7_heldRooms_77 : decode cX7_heldRooms 77 = .ok (.goto (-52), 3) := by decide +kernel
theorem dX7_heldRooms_80 : decode cX7_heldRooms 80 = .ok (.iload_n 1, 1) := by decide +kernel
theorem dX7_heldRooms_81 : decode cX7_heldRooms 81 = .ok (.iload_n 3, 1) := by decide +kernel
theorem dX7_heldRooms_82 : decode cX7_heldRooms 82 = .ok (.ifCond .eq 7, 3) := by decide +kernel
theorem dX7_heldRooms_85 : decode cX7_heldRooms 85 = .ok (.iconst 1, 1) := by decide +kernel
theorem dX7_heldRooms_86 : decode cX7_heldRooms 86 = .ok (.goto 4, 3) := by decide +kernel
theorem dX7_heldRooms_89 : decode cX7_heldRooms 89 = .ok (.iconst 0, 1) := by decide +kernel
theorem dX7_heldRooms_90 : decode cX7_heldRooms 90 = .ok (.iadd, 1) := by decide +kernel
theorem dX7_heldRooms_91 : decode cX7_heldRooms 91 = .ok (.istore_n 1, 1) := by decide +kernel
theorem dX7_heldRooms_92 : decode cX7_heldRooms 92 = .ok (.iinc 2 1, 3) := by decide +kernel
theorem dX7_heldRooms_95 : decode cX7_heldRooms 95 = .ok (.goto (-87), 3) := by decide +kernel
theorem dX7_heldRooms_98 : decode cX7_heldRooms 98 = .ok (.iload_n 1, 1) := by decide +kernel
theorem dX7_heldRooms_99 : decode cX7_heldRooms 99 = .ok (.ireturn, 1) := by decide +kernel
theorem dX7_allBy_0 : decode cX7_allBy 0 = .ok (.iload_n 1, 1) := by decide +kernel
theorem dX7_allBy_1 : decode cX7_allBy 1 = .ok (.tableswitch 110 0 6 #[43, 48, 56, 68, 84, 100, 105], 43) := by decide +kernel
theorem dX7_allBy_44 : decode cX7_allBy 44 = .ok (.aload_n 0, 1) := by decide +kernel
theorem dX7_allBy_45 : decode cX7_allBy 45 = .ok (.getfield 49, 3) := by decide +kernel
theorem dX7_allBy_48 : decode cX7_allBy 48 = .ok (.ireturn, 1) := by decide +kernel
theorem dX7_allBy_49 : decode cX7_allBy 49 = .ok (.aload_n 0, 1) := by decide +kernel
theorem dX7_allBy_50 : decode cX7_allBy 50 = .ok (.getfield 53, 3) := by decide +kernel
theorem dX7_allBy_53 : decode cX7_allBy 53 = .ok (.invokestatic 117, 3) := by decide +kernel
theorem dX7_allBy_56 : decode cX7_allBy 56 = .ok (.ireturn, 1) := by decide +kernel
theorem dX7_allBy_57 : decode cX7_allBy 57 = .ok (.aload_n 0, 1) := by decide +kernel
theorem dX7_allBy_58 : decode cX7_allBy 58 = .ok (.aload_n 0, 1) := by decide +kernel
theorem dX7_allBy_59 : decode cX7_allBy 59 = .ok (.getfield 53, 3) := by decide +kernel
theorem dX7_allBy_62 : decode cX7_allBy 62 = .ok (.invokevirtual 142, 3) := by decide +kernel
theorem dX7_allBy_65 : decode cX7_allBy 65 = .ok (.invokestatic 117, 3) := by decide +kernel
theorem dX7_allBy_68 : decode cX7_allBy 68 = .ok (.ireturn, 1) := by decide +kernel
theorem dX7_allBy_69 : decode cX7_allBy 69 = .ok (.aload_n 0, 1) := by decide +kernel
theorem dX7_allBy_70 : decode cX7_allBy 70 = .ok (.aload_n 0, 1) := by decide +kernel
theorem dX7_allBy_71 : decode cX7_allBy 71 = .ok (.getfield 53, 3) := by decide +kernel
theorem dX7_allBy_74 : decode cX7_allBy 74 = .ok (.invokevirtual 136, 3) := by decide +kernel
theorem dX7_allBy_77 : decode cX7_allBy 77 = .ok (.aload_n 0, 1) := by decide +kernel
theorem dX7_allBy_78 : decode cX7_allBy 78 = .ok (.getfield 34, 3) := by decide +kernel
theorem dX7_allBy_81 : decode cX7_allBy 81 = .ok (.bipush 13, 2) := by decide +kernel
theorem dX7_allBy_83 : decode cX7_allBy 83 = .ok (.iaload, 1) := by decide +kernel
theorem dX7_allBy_84 : decode cX7_allBy 84 = .ok (.ireturn, 1) := by decide +kernel
theorem dX7_allBy_85 : decode cX7_allBy 85 = .ok (.aload_n 0, 1) := by decide +kernel
theorem dX7_allBy_86 : decode cX7_allBy 86 = .ok (.aload_n 0, 1) := by decide +kernel
theorem dX7_allBy_87 : decode cX7_allBy 87 = .ok (.getfield 53, 3) := by decide +kernel
theorem dX7_allBy_90 : decode cX7_allBy 90 = .ok (.invokevirtual 136, 3) := by decide +kernel
theorem dX7_allBy_93 : decode cX7_allBy 93 = .ok (.aload_n 0, 1) := by decide +kernel
theorem dX7_allBy_94 : decode cX7_allBy 94 = .ok (.getfield 31, 3) := by decide +kernel
theorem dX7_allBy_97 : decode cX7_allBy 97 = .ok (.bipush 13, 2) := by decide +kernel
theorem dX7_allBy_99 : decode cX7_allBy 99 = .ok (.iaload, 1) := by decide +kernel
theorem dX7_allBy_100 : decode cX7_allBy 100 = .ok (.ireturn, 1) := by decide +kernel
theorem dX7_allBy_101 : decode cX7_allBy 101 = .ok (.aload_n 0, 1) := by decide +kernel
theorem dX7_allBy_102 : decode cX7_allBy 102 = .ok (.invokevirtual 151, 3) := by decide +kernel
theorem dX7_allBy_105 : decode cX7_allBy 105 = .ok (.ireturn, 1) := by decide +kernel
theorem dX7_allBy_106 : decode cX7_allBy 106 = .ok (.aload_n 0, 1) := by decide +kernel
theorem dX7_allBy_107 : decode cX7_allBy 107 = .ok (.invokevirtual 154, 3) := by decide +kernel
theorem dX7_allBy_110 : decode cX7_allBy 110 = .ok (.ireturn, 1) := by decide +kernel
theorem dX7_allBy_111 : decode cX7_allBy 111 = .ok (.aload_n 0, 1) := by decide +kernel
theorem dX7_allBy_112 : decode cX7_allBy 112 = .ok (.invokevirtual 157, 3) := by decide +kernel
theorem dX7_allBy_115 : decode cX7_allBy 115 = .ok (.ireturn, 1) := by decide +kernel
theorem dX7_all_0 : decode cX7_all 0 = .ok (.iload_n 1, 1) := by decide +kernel
theorem dX7_all_1 : decode cX7_all 1 = .ok (.iconst 0, 1) := by decide +kernel
theorem dX7_all_2 : decode cX7_all 2 = .ok (.bipush 7, 2) := by decide +kernel
theorem dX7_all_4 : decode cX7_all 4 = .ok (.invokestatic 76, 3) := by decide +kernel
theorem dX7_all_7 : decode cX7_all 7 = .ok (.ifCond .eq 11, 3) := by decide +kernel
theorem dX7_all_10 : decode cX7_all 10 = .ok (.aload_n 0, 1) := by decide +kernel
theorem dX7_all_11 : decode cX7_all 11 = .ok (.iload_n 1, 1) := by decide +kernel
theorem dX7_all_12 : decode cX7_all 12 = .ok (.invokevirtual 160, 3) := by decide +kernel
theorem dX7_all_15 : decode cX7_all 15 = .ok (.goto 7, 3) := by decide +kernel
theorem dX7_all_18 : decode cX7_all 18 = .ok (.aload_n 0, 1) := by decide +kernel
theorem dX7_all_19 : decode cX7_all 19 = .ok (.invokevirtual 84, 3) := by decide +kernel
theorem dX7_all_22 : decode cX7_all 22 = .ok (.ireturn, 1) := by decide +kernel
theorem dX7_isSide_0 : decode cX7_isSide 0 = .ok (.aload_n 0, 1) := by decide +kernel
theorem dX7_isSide_1 : decode cX7_isSide 1 = .ok (.aload_n 0, 1) := by decide +kernel
theorem dX7_isSide_2 : decode cX7_isSide 2 = .ok (.getfield 53, 3) := by decide +kernel
theorem dX7_isSide_5 : decode cX7_isSide 5 = .ok (.iload_n 1, 1) := by decide +kernel
theorem dX7_isSide_6 : decode cX7_isSide 6 = .ok (.invokevirtual 133, 3) := by decide +kernel
theorem dX7_isSide_9 : decode cX7_isSide 9 = .ok (.istore 5, 2) := by decide +kernel
theorem dX7_isSide_11 : decode cX7_isSide 11 = .ok (.aload_n 0, 1) := by decide +kernel
theorem dX7_isSide_12 : decode cX7_isSide 12 = .ok (.aload_n 0, 1) := by decide +kernel
theorem dX7_isSide_13 : decode cX7_isSide 13 = .ok (.getfield 53, 3) := by decide +kernel
theorem dX7_isSide_16 : decode cX7_isSide 16 = .ok (.iload_n 2, 1) := by decide +kernel
theorem dX7_isSide_17 : decode cX7_isSide 17 = .ok (.invokevirtual 133, 3) := by decide +kernel
theorem dX7_isSide_20 : decode cX7_isSide 20 = .ok (.istore 6, 2) := by decide +kernel
theorem dX7_isSide_22 : decode cX7_isSide 22 = .ok (.aload_n 0, 1) := by decide +kernel
theorem dX7_isSide_23 : decode cX7_isSide 23 = .ok (.iload_n 1, 1) := by decide +kernel
theorem dX7_isSide_24 : decode cX7_isSide 24 = .ok (.invokevirtual 124, 3) := by decide +kernel
theorem dX7_isSide_27 : decode cX7_isSide 27 = .ok (.aload_n 0, 1) := by decide +kernel
theorem dX7_isSide_28 : decode cX7_isSide 28 = .ok (.iload_n 2, 1) := by decide +kernel
theorem dX7_isSide_29 : decode cX7_isSide 29 = .ok (.invokevirtual 124, 3) := by decide +kernel
theorem dX7_isSide_32 : decode cX7_isSide 32 = .ok (.if_icmp .ne 33, 3) := by decide +kernel
theorem dX7_isSide_35 : decode cX7_isSide 35 = .ok (.iload 5, 2) := by decide +kernel
theorem dX7_isSide_37 : decode cX7_isSide 37 = .ok (.iload_n 3, 1) := by decide +kernel
theorem dX7_isSide_38 : decode cX7_isSide 38 = .ok (.if_icmp .ne 10, 3) := by decide +kernel
theorem dX7_isSide_41 : decode cX7_isSide 41 = .ok (.iload 6, 2) := by decide +kernel
theorem dX7_isSide_43 : decode cX7_isSide 43 = .ok (.iload 4, 2) := by decide +kernel
theorem dX7_isSide_45 : decode cX7_isSide 45 = .ok (.if_icmp .eq 16, 3) := by decide +kernel
theorem dX7_isSide_48 : decode cX7_isSide 48 = .ok (.iload 5, 2) := by decide +kernel
theorem dX7_isSide_50 : decode cX7_isSide 50 = .ok (.iload 4, 2) := by decide +kernel
theorem dX7_isSide_52 : decode cX7_isSide 52 = .ok (.if_icmp .ne 13, 3) := by decide +kernel
theorem dX7_isSide_55 : decode cX7_isSide 55 = .ok (.iload 6, 2) := by decide +kernel
theorem dX7_isSide_57 : decode cX7_isSide 57 = .ok (.iload_n 3, 1) := by decide +kernel
theorem dX7_isSide_58 : decode cX7_isSide 58 = .ok (.if_icmp .ne 7, 3) := by decide +kernel
theorem dX7_isSide_61 : decode cX7_isSide 61 = .ok (.iconst 1, 1) := by decide +kernel
theorem dX7_isSide_62 : decode cX7_isSide 62 = .ok (.goto 4, 3) := by decide +kernel
theorem dX7_isSide_65 : decode cX7_isSide 65 = .ok (.iconst 0, 1) := by decide +kernel
theorem dX7_isSide_66 : decode cX7_isSide 66 = .ok (.ireturn, 1) := by decide +kernel
theorem dX7_beside_0 : decode cX7_beside 0 = .ok (.aload_n 0, 1) := by decide +kernel
theorem dX7_beside_1 : decode cX7_beside 1 = .ok (.iload_n 1, 1) := by decide +kernel
theorem dX7_beside_2 : decode cX7_beside 2 = .ok (.invokevirtual 110, 3) := by decide +kernel
theorem dX7_beside_5 : decode cX7_beside 5 = .ok (.ifCond .eq 32, 3) := by decide +kernel
theorem dX7_beside_8 : decode cX7_beside 8 = .ok (.aload_n 0, 1) := by decide +kernel
theorem dX7_beside_9 : decode cX7_beside 9 = .ok (.iload_n 2, 1) := by decide +kernel
theorem dX7_beside_10 : decode cX7_beside 10 = .ok (.invokevirtual 110, 3) := by decide +kernel
theorem dX7_beside_13 : decode cX7_beside 13 = .ok (.ifCond .eq 24, 3) := by decide +kernel
theorem dX7_beside_16 : decode cX7_beside 16 = .ok (.iload_n 1, 1) := by decide +kernel
theorem dX7_beside_17 : decode cX7_beside 17 = .ok (.iload_n 2, 1) := by decide +kernel
theorem dX7_beside_18 : decode cX7_beside 18 = .ok (.if_icmp .eq 19, 3) := by decide +kernel
theorem dX7_beside_21 : decode cX7_beside 21 = .ok (.aload_n 0, 1) := by decide +kernel
theorem dX7_beside_22 : decode cX7_beside 22 = .ok (.iload_n 1, 1) := by decide +kernel
theorem dX7_beside_23 : decode cX7_beside 23 = .ok (.invokevirtual 145, 3) := by decide +kernel
theorem dX7_beside_26 : decode cX7_beside 26 = .ok (.ifCond .eq 11, 3) := by decide +kernel
theorem dX7_beside_29 : decode cX7_beside 29 = .ok (.aload_n 0, 1) := by decide +kernel
theorem dX7_beside_30 : decode cX7_beside 30 = .ok (.iload_n 2, 1) := by decide +kernel
theorem dX7_beside_31 : decode cX7_beside 31 = .ok (.invokevirtual 145, 3) := by decide +kernel
theorem dX7_beside_34 : decode cX7_beside 34 = .ok (.ifCond .ne 8, 3) := by decide +kernel
theorem dX7_beside_37 : decode cX7_beside 37 = .ok (.aload_n 0, 1) := by decide +kernel
theorem dX7_beside_38 : decode cX7_beside 38 = .ok (.invokevirtual 84, 3) := by decide +kernel
theorem dX7_beside_41 : decode cX7_beside 41 = .ok (.ireturn, 1) := by decide +kernel
theorem dX7_beside_42 : decode cX7_beside 42 = .ok (.aload_n 0, 1) := by decide +kernel
theorem dX7_beside_43 : decode cX7_beside 43 = .ok (.invokevirtual 130, 3) := by decide +kernel
theorem dX7_beside_46 : decode cX7_beside 46 = .ok (.iconst 0, 1) := by decide +kernel
theorem dX7_beside_47 : decode cX7_beside 47 = .ok (.istore_n 3, 1) := by decide +kernel
theorem dX7_beside_48 : decode cX7_beside 48 = .ok (.iconst 0, 1) := by decide +kernel
theorem dX7_beside_49 : decode cX7_beside 49 = .ok (.istore 4, 2) := by decide +kernel
theorem dX7_beside_51 : decode cX7_beside 51 = .ok (.iload 4, 2) := by decide +kernel
theorem dX7_beside_53 : decode cX7_beside 53 = .ok (.bipush 96, 2) := by decide +kernel
theorem dX7_beside_55 : decode cX7_beside 55 = .ok (.if_icmp .ge 67, 3) := by decide +kernel
theorem dX7_beside_58 : decode cX7_beside 58 = .ok (.iload_n 3, 1) := by decide +kernel
theorem dX7_beside_59 : decode cX7_beside 59 = .ok (.ifCond .ne 63, 3) := by decide +kernel
theorem dX7_beside_62 : decode cX7_beside 62 = .ok (.iload 4, 2) := by decide +kernel
theorem dX7_beside_64 : decode cX7_beside 64 = .ok (.bipush 12, 2) := by decide +kernel
theorem dX7_beside_66 : decode cX7_beside 66 = .ok (.irem, 1) := by decide +kernel
theorem dX7_beside_67 : decode cX7_beside 67 = .ok (.bipush 11, 2) := by decide +kernel
theorem dX7_beside_69 : decode cX7_beside 69 = .ok (.if_icmp .ge 18, 3) := by decide +kernel
theorem dX7_beside_72 : decode cX7_beside 72 = .ok (.aload_n 0, 1) := by decide +kernel
theorem dX7_beside_73 : decode cX7_beside 73 = .ok (.iload 4, 2) := by decide +kernel
theorem dX7_beside_75 : decode cX7_beside 75 = .ok (.iload 4, 2) := by decide +kernel
theorem dX7_beside_77 : decode cX7_beside 77 = .ok (.iconst 1, 1) := by decide +kernel
theorem dX7_beside_78 : decode cX7_beside 78 = .ok (.iadd, 1) := by decide +kernel
theorem dX7_beside_79 : decode cX7_beside 79 = .ok (.iload_n 1, 1) := by decide +kernel
theorem dX7_beside_80 : decode cX7_beside 80 = .ok (.iload_n 2, 1) := by decide +kernel
theorem dX7_beside_81 : decode cX7_beside 81 = .ok (.invokevirtual 163, 3) := by decide +kernel
theorem dX7_beside_84 : decode cX7_beside 84 = .ok (.ifCond .ne 26, 3) := by decide +kernel
theorem dX7_beside_87 : decode cX7_beside 87 = .ok (.iload 4, 2) := by decide +kernel
theorem dX7_beside_89 : decode cX7_beside 89 = .ok (.bipush 84, 2) := by decide +kernel
theorem dX7_beside_91 : decode cX7_beside 91 = .ok (.if_icmp .ge 23, 3) := by decide +kernel
theorem dX7_beside_94 : decode cX7_beside 94 = .ok (.aload_n 0, 1) := by decide +kernel
theorem dX7_beside_95 : decode cX7_beside 95 = .ok (.iload 4, 2) := by decide +kernel
theorem dX7_beside_97 : decode cX7_beside 97 = .ok (.iload 4, 2) := by decide +kernel
theorem dX7_beside_99 : decode cX7_beside 99 = .ok (.bipush 12, 2) := by decide +kernel
theorem dX7_beside_101 : decode cX7_beside 101 = .ok (.iadd, 1) := by decide +kernel
theorem dX7_beside_102 : decode cX7_beside 102 = .ok (.iload_n 1, 1) := by decide +kernel
theorem dX7_beside_103 : decode cX7_beside 103 = .ok (.iload_n 2, 1) := by decide +kernel
theorem dX7_beside_104 : decode cX7_beside 104 = .ok (.invokevirtual 163, 3) := by decide +kernel
theorem dX7_beside_107 : decode cX7_beside 107 = .ok (.ifCond .eq 7, 3) := by decide +kernel
theorem dX7_beside_110 : decode cX7_beside 110 = .ok (.iconst 1, 1) := by decide +kernel
theorem dX7_beside_111 : decode cX7_beside 111 = .ok (.goto 4, 3) := by decide +kernel
theorem dX7_beside_114 : decode cX7_beside 114 = .ok (.iconst 0, 1) := by decide +kernel
theorem dX7_beside_115 : decode cX7_beside 115 = .ok (.istore_n 3, 1) := by decide +kernel
theorem dX7_beside_116 : decode cX7_beside 116 = .ok (.iinc 4 1, 3) := by decide +kernel
theorem dX7_beside_119 : decode cX7_beside 119 = .ok (.goto (-68), 3) := by decide +kernel
theorem dX7_beside_122 : decode cX7_beside 122 = .ok (.iload_n 3, 1) := by decide +kernel
theorem dX7_beside_123 : decode cX7_beside 123 = .ok (.ifCond .eq 7, 3) := by decide +kernel
theorem dX7_beside_126 : decode cX7_beside 126 = .ok (.iconst 1, 1) := by decide +kernel
theorem dX7_beside_127 : decode cX7_beside 127 = .ok (.goto 4, 3) := by decide +kernel
theorem dX7_beside_130 : decode cX7_beside 130 = .ok (.iconst 0, 1) := by decide +kernel
theorem dX7_beside_131 : decode cX7_beside 131 = .ok (.ireturn, 1) := by decide +kernel
theorem dX7_runs_0 : decode cX7_runs 0 = .ok (.aload_n 0, 1) := by decide +kernel
theorem dX7_runs_1 : decode cX7_runs 1 = .ok (.invokevirtual 94, 3) := by decide +kernel
theorem dX7_runs_4 : decode cX7_runs 4 = .ok (.aload_n 0, 1) := by decide +kernel
theorem dX7_runs_5 : decode cX7_runs 5 = .ok (.getfield 53, 3) := by decide +kernel
theorem dX7_runs_8 : decode cX7_runs 8 = .ok (.invokestatic 117, 3) := by decide +kernel
theorem dX7_runs_11 : decode cX7_runs 11 = .ok (.istore_n 1, 1) := by decide +kernel
theorem dX7_runs_12 : decode cX7_runs 12 = .ok (.aload_n 0, 1) := by decide +kernel
theorem dX7_runs_13 : decode cX7_runs 13 = .ok (.invokevirtual 167, 3) := by decide +kernel
theorem dX7_runs_16 : decode cX7_runs 16 = .ok (.iload_n 1, 1) := by decide +kernel
theorem dX7_runs_17 : decode cX7_runs 17 = .ok (.aload_n 0, 1) := by decide +kernel
theorem dX7_runs_18 : decode cX7_runs 18 = .ok (.getfield 53, 3) := by decide +kernel
theorem dX7_runs_21 : decode cX7_runs 21 = .ok (.invokestatic 117, 3) := by decide +kernel
theorem dX7_runs_24 : decode cX7_runs 24 = .ok (.isub, 1) := by decide +kernel
theorem dX7_runs_25 : decode cX7_runs 25 = .ok (.ireturn, 1) := by decide +kernel
theorem dX7_loses_0 : decode cX7_loses 0 = .ok (.aload_n 0, 1) := by decide +kernel
theorem dX7_loses_1 : decode cX7_loses 1 = .ok (.iload_n 1, 1) := by decide +kernel
theorem dX7_loses_2 : decode cX7_loses 2 = .ok (.invokevirtual 110, 3) := by decide +kernel
theorem dX7_loses_5 : decode cX7_loses 5 = .ok (.ifCond .ne 8, 3) := by decide +kernel
theorem dX7_loses_8 : decode cX7_loses 8 = .ok (.aload_n 0, 1) := by decide +kernel
theorem dX7_loses_9 : decode cX7_loses 9 = .ok (.invokevirtual 84, 3) := by decide +kernel
theorem dX7_loses_12 : decode cX7_loses 12 = .ok (.ireturn, 1) := by decide +kernel
theorem dX7_loses_13 : decode cX7_loses 13 = .ok (.aload_n 0, 1) := by decide +kernel
theorem dX7_loses_14 : decode cX7_loses 14 = .ok (.iload_n 1, 1) := by decide +kernel
theorem dX7_loses_15 : decode cX7_loses 15 = .ok (.invokevirtual 145, 3) := by decide +kernel
theorem dX7_loses_18 : decode cX7_loses 18 = .ok (.ifCond .ne 8, 3) := by decide +kernel
theorem dX7_loses_21 : decode cX7_loses 21 = .ok (.aload_n 0, 1) := by decide +kernel
theorem dX7_loses_22 : decode cX7_loses 22 = .ok (.invokevirtual 66, 3) := by decide +kernel
theorem dX7_loses_25 : decode cX7_loses 25 = .ok (.ireturn, 1) := by decide +kernel
theorem dX7_loses_26 : decode cX7_loses 26 = .ok (.aload_n 0, 1) := by decide +kernel
theorem dX7_loses_27 : decode cX7_loses 27 = .ok (.invokevirtual 94, 3) := by decide +kernel
theorem dX7_loses_30 : decode cX7_loses 30 = .ok (.aload_n 0, 1) := by decide +kernel
theorem dX7_loses_31 : decode cX7_loses 31 = .ok (.getfield 53, 3) := by decide +kernel
theorem dX7_loses_34 : decode cX7_loses 34 = .ok (.invokestatic 117, 3) := by decide +kernel
theorem dX7_loses_37 : decode cX7_loses 37 = .ok (.istore_n 2, 1) := by decide +kernel
theorem dX7_loses_38 : decode cX7_loses 38 = .ok (.aload_n 0, 1) := by decide +kernel
theorem dX7_loses_39 : decode cX7_loses 39 = .ok (.dup, 1) := by decide +kernel
theorem dX7_loses_40 : decode cX7_loses 40 = .ok (.getfield 53, 3) := by decide +kernel
theorem dX7_loses_43 : decode cX7_loses 43 = .ok (.iconst 1, 1) := by decide +kernel
theorem dX7_loses_44 : decode cX7_loses 44 = .ok (.iload_n 1, 1) := by decide +kernel
theorem dX7_loses_45 : decode cX7_loses 45 = .ok (.ishl, 1) := by decide +kernel
theorem dX7_loses_46 : decode cX7_loses 46 = .ok (.iconst (-1), 1) := by decide +kernel
theorem dX7_loses_47 : decode cX7_loses 47 = .ok (.ixor, 1) := by decide +kernel
theorem dX7_loses_48 : decode cX7_loses 48 = .ok (.iand, 1) := by decide +kernel
theorem dX7_loses_49 : decode cX7_loses 49 = .ok (.putfield 53, 3) := by decide +kernel
theorem dX7_loses_52 : decode cX7_loses 52 = .ok (.aload_n 0, 1) := by decide +kernel
theorem dX7_loses_53 : decode cX7_loses 53 = .ok (.invokevirtual 167, 3) := by decide +kernel
theorem dX7_loses_56 : decode cX7_loses 56 = .ok (.iload_n 2, 1) := by decide +kernel
theorem dX7_loses_57 : decode cX7_loses 57 = .ok (.aload_n 0, 1) := by decide +kernel
theorem dX7_loses_58 : decode cX7_loses 58 = .ok (.getfield 53, 3) := by decide +kernel
theorem dX7_loses_61 : decode cX7_loses 61 = .ok (.invokestatic 117, 3) := by decide +kernel
theorem dX7_loses_64 : decode cX7_loses 64 = .ok (.isub, 1) := by decide +kernel
theorem dX7_loses_65 : decode cX7_loses 65 = .ok (.ireturn, 1) := by decide +kernel
theorem dX7_waveOf_0 : decode cX7_waveOf 0 = .ok (.iconst 0, 1) := by decide +kernel
theorem dX7_waveOf_1 : decode cX7_waveOf 1 = .ok (.istore_n 2, 1) := by decide +kernel
theorem dX7_waveOf_2 : decode cX7_waveOf 2 = .ok (.iload_n 2, 1) := by decide +kernel
theorem dX7_waveOf_3 : decode cX7_waveOf 3 = .ok (.aload_n 0, 1) := by decide +kernel
theorem dX7_waveOf_4 : decode cX7_waveOf 4 = .ok (.getfield 139, 3) := by decide +kernel
theorem dX7_waveOf_7 : decode cX7_waveOf 7 = .ok (.if_icmp .ge 27, 3) := by decide +kernel
theorem dX7_waveOf_10 : decode cX7_waveOf 10 = .ok (.aload_n 0, 1) := by decide +kernel
theorem dX7_waveOf_11 : decode cX7_waveOf 11 = .ok (.getfield 37, 3) := by decide +kernel
theorem dX7_waveOf_14 : decode cX7_waveOf 14 = .ok (.iload_n 2, 1) := by decide +kernel
theorem dX7_waveOf_15 : decode cX7_waveOf 15 = .ok (.iaload, 1) := by decide +kernel
theorem dX7_waveOf_16 : decode cX7_waveOf 16 = .ok (.iload_n 1, 1) := by decide +kernel
theorem dX7_waveOf_17 : decode cX7_waveOf 17 = .ok (.ishr, 1) := by decide +kernel
theorem dX7_waveOf_18 : decode cX7_waveOf 18 = .ok (.iconst 1, 1) := by decide +kernel
theorem dX7_waveOf_19 : decode cX7_waveOf 19 = .ok (.iand, 1) := by decide +kernel
theorem dX7_waveOf_20 : decode cX7_waveOf 20 = .ok (.iconst 1, 1) := by decide +kernel
theorem dX7_waveOf_21 : decode cX7_waveOf 21 = .ok (.if_icmp .ne 7, 3) := by decide +kernel
theorem dX7_waveOf_24 : decode cX7_waveOf 24 = .ok (.iload_n 2, 1) := by decide +kernel
theorem dX7_waveOf_25 : decode cX7_waveOf 25 = .ok (.iconst 1, 1) := by decide +kernel
theorem dX7_waveOf_26 : decode cX7_waveOf 26 = .ok (.iadd, 1) := by decide +kernel
theorem dX7_waveOf_27 : decode cX7_waveOf 27 = .ok (.ireturn, 1) := by decide +kernel
theorem dX7_waveOf_28 : decode cX7_waveOf 28 = .ok (.iinc 2 1, 3) := by decide +kernel
theorem dX7_waveOf_31 : decode cX7_waveOf 31 = .ok (.goto (-29), 3) := by decide +kernel
theorem dX7_waveOf_34 : decode cX7_waveOf 34 = .ok (.iconst (-1), 1) := by decide +kernel
theorem dX7_waveOf_35 : decode cX7_waveOf 35 = .ok (.ireturn, 1) := by decide +kernel
theorem dX7_wave_0 : decode cX7_wave 0 = .ok (.iload_n 1, 1) := by decide +kernel
theorem dX7_wave_1 : decode cX7_wave 1 = .ok (.iconst 0, 1) := by decide +kernel
theorem dX7_wave_2 : decode cX7_wave 2 = .ok (.iconst 2, 1) := by decide +kernel
theorem dX7_wave_3 : decode cX7_wave 3 = .ok (.invokestatic 76, 3) := by decide +kernel
theorem dX7_wave_6 : decode cX7_wave 6 = .ok (.ifCond .eq 26, 3) := by decide +kernel
theorem dX7_wave_9 : decode cX7_wave 9 = .ok (.iload_n 1, 1) := by decide +kernel
theorem dX7_wave_10 : decode cX7_wave 10 = .ok (.iconst 1, 1) := by decide +kernel
theorem dX7_wave_11 : decode cX7_wave 11 = .ok (.if_icmp .ne 11, 3) := by decide +kernel
theorem dX7_wave_14 : decode cX7_wave 14 = .ok (.aload_n 0, 1) := by decide +kernel
theorem dX7_wave_15 : decode cX7_wave 15 = .ok (.iload_n 2, 1) := by decide +kernel
theorem dX7_wave_16 : decode cX7_wave 16 = .ok (.invokevirtual 110, 3) := by decide +kernel
theorem dX7_wave_19 : decode cX7_wave 19 = .ok (.ifCond .eq 13, 3) := by decide +kernel
theorem dX7_wave_22 : decode cX7_wave 22 = .ok (.iload_n 1, 1) := by decide +kernel
theorem dX7_wave_23 : decode cX7_wave 23 = .ok (.iconst 2, 1) := by decide +kernel
theorem dX7_wave_24 : decode cX7_wave 24 = .ok (.if_icmp .ne 13, 3) := by decide +kernel
theorem dX7_wave_27 : decode cX7_wave 27 = .ok (.iload_n 2, 1) := by decide +kernel
theorem dX7_wave_28 : decode cX7_wave 28 = .ok (.iconst 1, 1) := by decide +kernel
theorem dX7_wave_29 : decode cX7_wave 29 = .ok (.if_icmp .ge 8, 3) := by decide +kernel
theorem dX7_wave_32 : decode cX7_wave 32 = .ok (.aload_n 0, 1) := by decide +kernel
theorem dX7_wave_33 : decode cX7_wave 33 = .ok (.invokevirtual 84, 3) := by decide +kernel
theorem dX7_wave_36 : decode cX7_wave 36 = .ok (.ireturn, 1) := by decide +kernel
theorem dX7_wave_37 : decode cX7_wave 37 = .ok (.iload_n 1, 1) := by decide +kernel
theorem dX7_wave_38 : decode cX7_wave 38 = .ok (.ifCond .ne 8, 3) := by decide +kernel
theorem dX7_wave_41 : decode cX7_wave 41 = .ok (.aload_n 0, 1) := by decide +kernel
theorem dX7_wave_42 : decode cX7_wave 42 = .ok (.getfield 139, 3) := by decide +kernel
theorem dX7_wave_45 : decode cX7_wave 45 = .ok (.ireturn, 1) := by decide +kernel
theorem dX7_wave_46 : decode cX7_wave 46 = .ok (.iload_n 1, 1) := by decide +kernel
theorem dX7_wave_47 : decode cX7_wave 47 = .ok (.iconst 1, 1) := by decide +kernel
theorem dX7_wave_48 : decode cX7_wave 48 = .ok (.if_icmp .ne 11, 3) := by decide +kernel
theorem dX7_wave_51 : decode cX7_wave 51 = .ok (.aload_n 0, 1) := by decide +kernel
theorem dX7_wave_52 : decode cX7_wave 52 = .ok (.iload_n 2, 1) := by decide +kernel
theorem dX7_wave_53 : decode cX7_wave 53 = .ok (.invokevirtual 170, 3) := by decide +kernel
theorem dX7_wave_56 : decode cX7_wave 56 = .ok (.goto 26, 3) := by decide +kernel
theorem dX7_wave_59 : decode cX7_wave 59 = .ok (.iload_n 2, 1) := by decide +kernel
theorem dX7_wave_60 : decode cX7_wave 60 = .ok (.aload_n 0, 1) := by decide +kernel
theorem dX7_wave_61 : decode cX7_wave 61 = .ok (.getfield 139, 3) := by decide +kernel
theorem dX7_wave_64 : decode cX7_wave 64 = .ok (.if_icmp .le 7, 3) := by decide +kernel
theorem dX7_wave_67 : decode cX7_wave 67 = .ok (.iconst 0, 1) := by decide +kernel
theorem dX7_wave_68 : decode cX7_wave 68 = .ok (.goto 14, 3) := by decide +kernel
theorem dX7_wave_71 : decode cX7_wave 71 = .ok (.aload_n 0, 1) := by decide +kernel
theorem dX7_wave_72 : decode cX7_wave 72 = .ok (.getfield 37, 3) := by decide +kernel
theorem dX7_wave_75 : decode cX7_wave 75 = .ok (.iload_n 2, 1) := by decide +kernel
theorem dX7_wave_76 : decode cX7_wave 76 = .ok (.iconst 1, 1) := by decide +kernel
theorem dX7_wave_77 : decode cX7_wave 77 = .ok (.isub, 1) := by decide +kernel
theorem dX7_wave_78 : decode cX7_wave 78 = .ok (.iaload, 1) := by decide +kernel
theorem dX7_wave_79 : decode cX7_wave 79 = .ok (.invokestatic 117, 3) := by decide +kernel
theorem dX7_wave_82 : decode cX7_wave 82 = .ok (.ireturn, 1) := by decide +kernel
theorem dX7_lossOf_0 : decode cX7_lossOf 0 = .ok (.aload_n 0, 1) := by decide +kernel
theorem dX7_lossOf_1 : decode cX7_lossOf 1 = .ok (.getfield 53, 3) := by decide +kernel
theorem dX7_lossOf_4 : decode cX7_lossOf 4 = .ok (.invokestatic 117, 3) := by decide +kernel
theorem dX7_lossOf_7 : decode cX7_lossOf 7 = .ok (.aload_n 0, 1) := by decide +kernel
theorem dX7_lossOf_8 : decode cX7_lossOf 8 = .ok (.aload_n 0, 1) := by decide +kernel
theorem dX7_lossOf_9 : decode cX7_lossOf 9 = .ok (.getfield 53, 3) := by decide +kernel
theorem dX7_lossOf_12 : decode cX7_lossOf 12 = .ok (.iconst 1, 1) := by decide +kernel
theorem dX7_lossOf_13 : decode cX7_lossOf 13 = .ok (.iload_n 1, 1) := by decide +kernel
theorem dX7_lossOf_14 : decode cX7_lossOf 14 = .ok (.ishl, 1) := by decide +kernel
theorem dX7_lossOf_15 : decode cX7_lossOf 15 = .ok (.iconst (-1), 1) := by decide +kernel
theorem dX7_lossOf_16 : decode cX7_lossOf 16 = .ok (.ixor, 1) := by decide +kernel
theorem dX7_lossOf_17 : decode cX7_lossOf 17 = .ok (.iand, 1) := by decide +kernel
theorem dX7_lossOf_18 : decode cX7_lossOf 18 = .ok (.invokevirtual 173, 3) := by decide +kernel
theorem dX7_lossOf_21 : decode cX7_lossOf 21 = .ok (.invokestatic 117, 3) := by decide +kernel
theorem dX7_lossOf_24 : decode cX7_lossOf 24 = .ok (.isub, 1) := by decide +kernel
theorem dX7_lossOf_25 : decode cX7_lossOf 25 = .ok (.ireturn, 1) := by decide +kernel
theorem dX7_would_0 : decode cX7_would 0 = .ok (.aload_n 0, 1) := by decide +kernel
theorem dX7_would_1 : decode cX7_would 1 = .ok (.iload_n 1, 1) := by decide +kernel
theorem dX7_would_2 : decode cX7_would 2 = .ok (.invokevirtual 110, 3) := by decide +kernel
theorem dX7_would_5 : decode cX7_would 5 = .ok (.ifCond .eq 12, 3) := by decide +kernel
theorem dX7_would_8 : decode cX7_would 8 = .ok (.iload_n 2, 1) := by decide +kernel
theorem dX7_would_9 : decode cX7_would 9 = .ok (.iconst 0, 1) := by decide +kernel
theorem dX7_would_10 : decode cX7_would 10 = .ok (.iconst 1, 1) := by decide +kernel
theorem dX7_would_11 : decode cX7_would 11 = .ok (.invokestatic 76, 3) := by decide +kernel
theorem dX7_would_14 : decode cX7_would 14 = .ok (.ifCond .ne 8, 3) := by decide +kernel
theorem dX7_would_17 : decode cX7_would 17 = .ok (.aload_n 0, 1) := by decide +kernel
theorem dX7_would_18 : decode cX7_would 18 = .ok (.invokevirtual 84, 3) := by decide +kernel
theorem dX7_would_21 : decode cX7_would 21 = .ok (.ireturn, 1) := by decide +kernel
theorem dX7_would_22 : decode cX7_would 22 = .ok (.aload_n 0, 1) := by decide +kernel
theorem dX7_would_23 : decode cX7_would 23 = .ok (.iload_n 1, 1) := by decide +kernel
theorem dX7_would_24 : decode cX7_would 24 = .ok (.invokevirtual 145, 3) := by decide +kernel
theorem dX7_would_27 : decode cX7_would 27 = .ok (.ifCond .ne 8, 3) := by decide +kernel
theorem dX7_would_30 : decode cX7_would 30 = .ok (.aload_n 0, 1) := by decide +kernel
theorem dX7_would_31 : decode cX7_would 31 = .ok (.invokevirtual 66, 3) := by decide +kernel
theorem dX7_would_34 : decode cX7_would 34 = .ok (.ireturn, 1) := by decide +kernel
theorem dX7_would_35 : decode cX7_would 35 = .ok (.aload_n 0, 1) := by decide +kernel
theorem dX7_would_36 : decode cX7_would 36 = .ok (.iload_n 1, 1) := by decide +kernel
theorem dX7_would_37 : decode cX7_would 37 = .ok (.invokevirtual 176, 3) := by decide +kernel
theorem dX7_would_40 : decode cX7_would 40 = .ok (.istore_n 3, 1) := by decide +kernel
theorem dX7_would_41 : decode cX7_would 41 = .ok (.iload_n 2, 1) := by decide +kernel
theorem dX7_would_42 : decode cX7_would 42 = .ok (.ifCond .ne 7, 3) := by decide +kernel
theorem dX7_would_45 : decode cX7_would 45 = .ok (.iload_n 3, 1) := by decide +kernel
theorem dX7_would_46 : decode cX7_would 46 = .ok (.goto 10, 3) := by decide +kernel
theorem dX7_would_49 : decode cX7_would 49 = .ok (.aload_n 0, 1) := by decide +kernel
theorem dX7_would_50 : decode cX7_would 50 = .ok (.getfield 34, 3) := by decide +kernel
theorem dX7_would_53 : decode cX7_would 53 = .ok (.bipush 13, 2) := by decide +kernel
theorem dX7_would_55 : decode cX7_would 55 = .ok (.iaload, 1) := by decide +kernel
theorem dX7_would_56 : decode cX7_would 56 = .ok (.ireturn, 1) := by decide +kernel
theorem dX7_worst_0 : decode cX7_worst 0 = .ok (.iload_n 1, 1) := by decide +kernel
theorem dX7_worst_1 : decode cX7_worst 1 = .ok (.iconst 0, 1) := by decide +kernel
theorem dX7_worst_2 : decode cX7_worst 2 = .ok (.iconst 1, 1) := by decide +kernel
theorem dX7_worst_3 : decode cX7_worst 3 = .ok (.invokestatic 76, 3) := by decide +kernel
theorem dX7_worst_6 : decode cX7_worst 6 = .ok (.ifCond .ne 8, 3) := by decide +kernel
theorem dX7_worst_9 : decode cX7_worst 9 = .ok (.aload_n 0, 1) := by decide +kernel
theorem dX7_worst_10 : decode cX7_worst 10 = .ok (.invokevirtual 84, 3) := by decide +kernel
theorem dX7_worst_13 : decode cX7_worst 13 = .ok (.ireturn, 1) := by decide +kernel
theorem dX7_worst_14 : decode cX7_worst 14 = .ok (.iconst (-1), 1) := by decide +kernel
theorem dX7_worst_15 : decode cX7_worst 15 = .ok (.istore_n 2, 1) := by decide +kernel
theorem dX7_worst_16 : decode cX7_worst 16 = .ok (.iconst 0, 1) := by decide +kernel
theorem dX7_worst_17 : decode cX7_worst 17 = .ok (.istore_n 3, 1) := by decide +kernel
theorem dX7_worst_18 : decode cX7_worst 18 = .ok (.iconst 0, 1) := by decide +kernel
theorem dX7_worst_19 : decode cX7_worst 19 = .ok (.istore 4, 2) := by decide +kernel
theorem dX7_worst_21 : decode cX7_worst 21 = .ok (.iload 4, 2) := by decide +kernel
theorem dX7_worst_23 : decode cX7_worst 23 = .ok (.aload_n 0, 1) := by decide +kernel
theorem dX7_worst_24 : decode cX7_worst 24 = .ok (.getfield 49, 3) := by decide +kernel
theorem dX7_worst_27 : decode cX7_worst 27 = .ok (.if_icmp .ge 56, 3) := by decide +kernel
theorem dX7_worst_30 : decode cX7_worst 30 = .ok (.aload_n 0, 1) := by decide +kernel
theorem dX7_worst_31 : decode cX7_worst 31 = .ok (.iload 4, 2) := by decide +kernel
theorem dX7_worst_33 : decode cX7_worst 33 = .ok (.invokevirtual 145, 3) := by decide +kernel
theorem dX7_worst_36 : decode cX7_worst 36 = .ok (.ifCond .eq 12, 3) := by decide +kernel
theorem dX7_worst_39 : decode cX7_worst 39 = .ok (.aload_n 0, 1) := by decide +kernel
theorem dX7_worst_40 : decode cX7_worst 40 = .ok (.iload 4, 2) := by decide +kernel
theorem dX7_worst_42 : decode cX7_worst 42 = .ok (.invokevirtual 176, 3) := by decide +kernel
theorem dX7_worst_45 : decode cX7_worst 45 = .ok (.goto 4, 3) := by decide +kernel
theorem dX7_worst_48 : decode cX7_worst 48 = .ok (.iconst 0, 1) := by decide +kernel
theorem dX7_worst_49 : decode cX7_worst 49 = .ok (.istore 5, 2) := by decide +kernel
theorem dX7_worst_51 : decode cX7_worst 51 = .ok (.iload 5, 2) := by decide +kernel
theorem dX7_worst_53 : decode cX7_worst 53 = .ok (.iload_n 3, 1) := by decide +kernel
theorem dX7_worst_54 : decode cX7_worst 54 = .ok (.if_icmp .le 8, 3) := by decide +kernel
theorem dX7_worst_57 : decode cX7_worst 57 = .ok (.iload 4, 2) := by decide +kernel
theorem dX7_worst_59 : decode cX7_worst 59 = .ok (.goto 4, 3) := by decide +kernel
theorem dX7_worst_62 : decode cX7_worst 62 = .ok (.iload_n 2, 1) := by decide +kernel
theorem dX7_worst_63 : decode cX7_worst 63 = .ok (.istore_n 2, 1) := by decide +kernel
theorem dX7_worst_64 : decode cX7_worst 64 = .ok (.iload 5, 2) := by decide +kernel
theorem dX7_worst_66 : decode cX7_worst 66 = .ok (.iload_n 3, 1) := by decide +kernel
theorem dX7_worst_67 : decode cX7_worst 67 = .ok (.if_icmp .le 8, 3) := by decide +kernel
theorem dX7_worst_70 : decode cX7_worst 70 = .ok (.iload 5, 2) := by decide +kernel
theorem dX7_worst_72 : decode cX7_worst 72 = .ok (.goto 4, 3) := by decide +kernel
theorem dX7_worst_75 : decode cX7_worst 75 = .ok (.iload_n 3, 1) := by decide +kernel
theorem dX7_worst_76 : decode cX7_worst 76 = .ok (.istore_n 3, 1) := by decide +kernel
theorem dX7_worst_77 : decode cX7_worst 77 = .ok (.iinc 4 1, 3) := by decide +kernel
theorem dX7_worst_80 : decode cX7_worst 80 = .ok (.goto (-59), 3) := by decide +kernel
theorem dX7_worst_83 : decode cX7_worst 83 = .ok (.iload_n 1, 1) := by decide +kernel
theorem dX7_worst_84 : decode cX7_worst 84 = .ok (.ifCond .ne 7, 3) := by decide +kernel
theorem dX7_worst_87 : decode cX7_worst 87 = .ok (.iload_n 2, 1) := by decide +kernel
theorem dX7_worst_88 : decode cX7_worst 88 = .ok (.goto 4, 3) := by decide +kernel
theorem dX7_worst_91 : decode cX7_worst 91 = .ok (.iload_n 3, 1) := by decide +kernel
theorem dX7_worst_92 : decode cX7_worst 92 = .ok (.ireturn, 1) := by decide +kernel
theorem dX7_leftCut_0 : decode cX7_leftCut 0 = .ok (.aload_n 0, 1) := by decide +kernel
theorem dX7_leftCut_1 : decode cX7_leftCut 1 = .ok (.getfield 19, 3) := by decide +kernel
theorem dX7_leftCut_4 : decode cX7_leftCut 4 = .ok (.iload_n 1, 1) := by decide +kernel
theorem dX7_leftCut_5 : decode cX7_leftCut 5 = .ok (.dup2, 1) := by decide +kernel
theorem dX7_leftCut_6 : decode cX7_leftCut 6 = .ok (.iaload, 1) := by decide +kernel
theorem dX7_leftCut_7 : decode cX7_leftCut 7 = .ok (.iload_n 2, 1) := by decide +kernel
theorem dX7_leftCut_8 : decode cX7_leftCut 8 = .ok (.isub, 1) := by decide +kernel
theorem dX7_leftCut_9 : decode cX7_leftCut 9 = .ok (.iastore, 1) := by decide +kernel
theorem dX7_leftCut_10 : decode cX7_leftCut 10 = .ok (.aload_n 0, 1) := by decide +kernel
theorem dX7_leftCut_11 : decode cX7_leftCut 11 = .ok (.aload_n 0, 1) := by decide +kernel
theorem dX7_leftCut_12 : decode cX7_leftCut 12 = .ok (.getfield 53, 3) := by decide +kernel
theorem dX7_leftCut_15 : decode cX7_leftCut 15 = .ok (.invokevirtual 173, 3) := by decide +kernel
theorem dX7_leftCut_18 : decode cX7_leftCut 18 = .ok (.invokestatic 117, 3) := by decide +kernel
theorem dX7_leftCut_21 : decode cX7_leftCut 21 = .ok (.istore_n 3, 1) := by decide +kernel
theorem dX7_leftCut_22 : decode cX7_leftCut 22 = .ok (.aload_n 0, 1) := by decide +kernel
theorem dX7_leftCut_23 : decode cX7_leftCut 23 = .ok (.getfield 19, 3) := by decide +kernel
theorem dX7_leftCut_26 : decode cX7_leftCut 26 = .ok (.iload_n 1, 1) := by decide +kernel
theorem dX7_leftCut_27 : decode cX7_leftCut 27 = .ok (.dup2, 1) := by decide +kernel
theorem dX7_leftCut_28 : decode cX7_leftCut 28 = .ok (.iaload, 1) := by decide +kernel
theorem dX7_leftCut_29 : decode cX7_leftCut 29 = .ok (.iload_n 2, 1) := by decide +kernel
theorem dX7_leftCut_30 : decode cX7_leftCut 30 = .ok (.iadd, 1) := by decide +kernel
theorem dX7_leftCut_31 : decode cX7_leftCut 31 = .ok (.iastore, 1) := by decide +kernel
theorem dX7_leftCut_32 : decode cX7_leftCut 32 = .ok (.iload_n 3, 1) := by decide +kernel
theorem dX7_leftCut_33 : decode cX7_leftCut 33 = .ok (.ireturn, 1) := by decide +kernel
theorem dX7_cut_0 : decode cX7_cut 0 = .ok (.aload_n 0, 1) := by decide +kernel
theorem dX7_cut_1 : decode cX7_cut 1 = .ok (.iload_n 1, 1) := by decide +kernel
theorem dX7_cut_2 : decode cX7_cut 2 = .ok (.invokevirtual 110, 3) := by decide +kernel
theorem dX7_cut_5 : decode cX7_cut 5 = .ok (.ifCond .ne 8, 3) := by decide +kernel
theorem dX7_cut_8 : decode cX7_cut 8 = .ok (.aload_n 0, 1) := by decide +kernel
theorem dX7_cut_9 : decode cX7_cut 9 = .ok (.invokevirtual 84, 3) := by decide +kernel
theorem dX7_cut_12 : decode cX7_cut 12 = .ok (.ireturn, 1) := by decide +kernel
theorem dX7_cut_13 : decode cX7_cut 13 = .ok (.aload_n 0, 1) := by decide +kernel
theorem dX7_cut_14 : decode cX7_cut 14 = .ok (.iload_n 1, 1) := by decide +kernel
theorem dX7_cut_15 : decode cX7_cut 15 = .ok (.invokevirtual 145, 3) := by decide +kernel
theorem dX7_cut_18 : decode cX7_cut 18 = .ok (.ifCond .ne 8, 3) := by decide +kernel
theorem dX7_cut_21 : decode cX7_cut 21 = .ok (.aload_n 0, 1) := by decide +kernel
theorem dX7_cut_22 : decode cX7_cut 22 = .ok (.invokevirtual 66, 3) := by decide +kernel
theorem dX7_cut_25 : decode cX7_cut 25 = .ok (.ireturn, 1) := by decide +kernel
theorem dX7_cut_26 : decode cX7_cut 26 = .ok (.aload_n 0, 1) := by decide +kernel
theorem dX7_cut_27 : decode cX7_cut 27 = .ok (.iload_n 1, 1) := by decide +kernel
theorem dX7_cut_28 : decode cX7_cut 28 = .ok (.iconst 0, 1) := by decide +kernel
theorem dX7_cut_29 : decode cX7_cut 29 = .ok (.invokevirtual 179, 3) := by decide +kernel
theorem dX7_cut_32 : decode cX7_cut 32 = .ok (.istore_n 2, 1) := by decide +kernel
theorem dX7_cut_33 : decode cX7_cut 33 = .ok (.iconst 0, 1) := by decide +kernel
theorem dX7_cut_34 : decode cX7_cut 34 = .ok (.istore_n 3, 1) := by decide +kernel
theorem dX7_cut_35 : decode cX7_cut 35 = .ok (.aload_n 0, 1) := by decide +kernel
theorem dX7_cut_36 : decode cX7_cut 36 = .ok (.getfield 19, 3) := by decide +kernel
theorem dX7_cut_39 : decode cX7_cut 39 = .ok (.iload_n 1, 1) := by decide +kernel
theorem dX7_cut_40 : decode cX7_cut 40 = .ok (.iaload, 1) := by decide +kernel
theorem dX7_cut_41 : decode cX7_cut 41 = .ok (.istore 4, 2) := by decide +kernel
theorem dX7_cut_43 : decode cX7_cut 43 = .ok (.iload_n 3, 1) := by decide +kernel
theorem dX7_cut_44 : decode cX7_cut 44 = .ok (.iload 4, 2) := by decide +kernel
theorem dX7_cut_46 : decode cX7_cut 46 = .ok (.if_icmp .ge 39, 3) := by decide +kernel
theorem dX7_cut_49 : decode cX7_cut 49 = .ok (.iload_n 3, 1) := by decide +kernel
theorem dX7_cut_50 : decode cX7_cut 50 = .ok (.iload 4, 2) := by decide +kernel
theorem dX7_cut_52 : decode cX7_cut 52 = .ok (.iadd, 1) := by decide +kernel
theorem dX7_cut_53 : decode cX7_cut 53 = .ok (.iconst 1, 1) := by decide +kernel
theorem dX7_cut_54 : decode cX7_cut 54 = .ok (.iadd, 1) := by decide +kernel
theorem dX7_cut_55 : decode cX7_cut 55 = .ok (.iconst 2, 1) := by decide +kernel
theorem dX7_cut_56 : decode cX7_cut 56 = .ok (.idiv, 1) := by decide +kernel
theorem dX7_cut_57 : decode cX7_cut 57 = .ok (.istore 5, 2) := by decide +kernel
theorem dX7_cut_59 : decode cX7_cut 59 = .ok (.aload_n 0, 1) := by decide +kernel
theorem dX7_cut_60 : decode cX7_cut 60 = .ok (.iload_n 1, 1) := by decide +kernel
theorem dX7_cut_61 : decode cX7_cut 61 = .ok (.iload 5, 2) := by decide +kernel
theorem dX7_cut_63 : decode cX7_cut 63 = .ok (.invokevirtual 179, 3) := by decide +kernel
theorem dX7_cut_66 : decode cX7_cut 66 = .ok (.iload_n 2, 1) := by decide +kernel
theorem dX7_cut_67 : decode cX7_cut 67 = .ok (.if_icmp .ne 9, 3) := by decide +kernel
theorem dX7_cut_70 : decode cX7_cut 70 = .ok (.iload 5, 2) := by decide +kernel
theorem dX7_cut_72 : decode cX7_cut 72 = .ok (.istore_n 3, 1) := by decide +kernel
theorem dX7_cut_73 : decode cX7_cut 73 = .ok (.goto 9, 3) := by decide +kernel
theorem dX7_cut_76 : decode cX7_cut 76 = .ok (.iload 5, 2) := by decide +kernel
theorem dX7_cut_78 : decode cX7_cut 78 = .ok (.iconst 1, 1) := by decide +kernel
theorem dX7_cut_79 : decode cX7_cut 79 = .ok (.isub, 1) := by decide +kernel
theorem dX7_cut_80 : decode cX7_cut 80 = .ok (.istore 4, 2) := by decide +kernel
theorem dX7_cut_82 : decode cX7_cut 82 = .ok (.goto (-39), 3) := by decide +kernel
theorem dX7_cut_85 : decode cX7_cut 85 = .ok (.iload_n 3, 1) := by decide +kernel
theorem dX7_cut_86 : decode cX7_cut 86 = .ok (.ireturn, 1) := by decide +kernel
theorem dX7_mending_0 : decode cX7_mending 0 = .ok (.aload_n 0, 1) := by decide +kernel
theorem dX7_mending_1 : decode cX7_mending 1 = .ok (.aload_n 0, 1) := by decide +kernel
theorem dX7_mending_2 : decode cX7_mending 2 = .ok (.getfield 53, 3) := by decide +kernel
theorem dX7_mending_5 : decode cX7_mending 5 = .ok (.invokevirtual 136, 3) := by decide +kernel
theorem dX7_mending_8 : decode cX7_mending 8 = .ok (.iconst 0, 1) := by decide +kernel
theorem dX7_mending_9 : decode cX7_mending 9 = .ok (.istore_n 1, 1) := by decide +kernel
theorem dX7_mending_10 : decode cX7_mending 10 = .ok (.iconst 0, 1) := by decide +kernel
theorem dX7_mending_11 : decode cX7_mending 11 = .ok (.istore_n 2, 1) := by decide +kernel
theorem dX7_mending_12 : decode cX7_mending 12 = .ok (.iload_n 2, 1) := by decide +kernel
theorem dX7_mending_13 : decode cX7_mending 13 = .ok (.aload_n 0, 1) := by decide +kernel
theorem dX7_mending_14 : decode cX7_mending 14 = .ok (.getfield 49, 3) := by decide +kernel
theorem dX7_mending_17 : decode cX7_mending 17 = .ok (.if_icmp .ge 46, 3) := by decide +kernel
theorem dX7_mending_20 : decode cX7_mending 20 = .ok (.aload_n 0, 1) := by decide +kernel
theorem dX7_mending_21 : decode cX7_mending 21 = .ok (.iload_n 2, 1) := by decide +kernel
theorem dX7_mending_22 : decode cX7_mending 22 = .ok (.invokevirtual 145, 3) := by decide +kernel
theorem dX7_mending_25 : decode cX7_mending 25 = .ok (.ifCond .eq 19, 3) := by decide +kernel
theorem dX7_mending_28 : decode cX7_mending 28 = .ok (.aload_n 0, 1) := by decide +kernel
theorem dX7_mending_29 : decode cX7_mending 29 = .ok (.getfield 31, 3) := by decide +kernel
theorem dX7_mending_32 : decode cX7_mending 32 = .ok (.iload_n 2, 1) := by decide +kernel
theorem dX7_mending_33 : decode cX7_mending 33 = .ok (.iaload, 1) := by decide +kernel
theorem dX7_mending_34 : decode cX7_mending 34 = .ok (.aload_n 0, 1) := by decide +kernel
theorem dX7_mending_35 : decode cX7_mending 35 = .ok (.getfield 19, 3) := by decide +kernel
theorem dX7_mending_38 : decode cX7_mending 38 = .ok (.iload_n 2, 1) := by decide +kernel
theorem dX7_mending_39 : decode cX7_mending 39 = .ok (.iaload, 1) := by decide +kernel
theorem dX7_mending_40 : decode cX7_mending 40 = .ok (.isub, 1) := by decide +kernel
theorem dX7_mending_41 : decode cX7_mending 41 = .ok (.goto 4, 3) := by decide +kernel
theorem dX7_mending_44 : decode cX7_mending 44 = .ok (.iconst 0, 1) := by decide +kernel
theorem dX7_mending_45 : decode cX7_mending 45 = .ok (.istore_n 3, 1) := by decide +kernel
theorem dX7_mending_46 : decode cX7_mending 46 = .ok (.iload_n 3, 1) := by decide +kernel
theorem dX7_mending_47 : decode cX7_mending 47 = .ok (.iload_n 1, 1) := by decide +kernel
theorem dX7_mending_48 : decode cX7_mending 48 = .ok (.if_icmp .le 7, 3) := by decide +kernel
theorem dX7_mending_51 : decode cX7_mending 51 = .ok (.iload_n 3, 1) := by decide +kernel
theorem dX7_mending_52 : decode cX7_mending 52 = .ok (.goto 4, 3) := by decide +kernel
theorem dX7_mending_55 : decode cX7_mending 55 = .ok (.iload_n 1, 1) := by decide +kernel
theorem dX7_mending_56 : decode cX7_mending 56 = .ok (.istore_n 1, 1) := by decide +kernel
theorem dX7_mending_57 : decode cX7_mending 57 = .ok (.iinc 2 1, 3) := by decide +kernel
theorem dX7_mending_60 : decode cX7_mending 60 = .ok (.goto (-48), 3) := by decide +kernel
theorem dX7_mending_63 : decode cX7_mending 63 = .ok (.iload_n 1, 1) := by decide +kernel
theorem dX7_mending_64 : decode cX7_mending 64 = .ok (.sipush 999, 3) := by decide +kernel
theorem dX7_mending_67 : decode cX7_mending 67 = .ok (.if_icmp .gt 7, 3) := by decide +kernel
theorem dX7_mending_70 : decode cX7_mending 70 = .ok (.iload_n 1, 1) := by decide +kernel
theorem dX7_mending_71 : decode cX7_mending 71 = .ok (.goto 4, 3) := by decide +kernel
theorem dX7_mending_74 : decode cX7_mending 74 = .ok (.iconst (-1), 1) := by decide +kernel
theorem dX7_mending_75 : decode cX7_mending 75 = .ok (.ireturn, 1) := by decide +kernel
theorem dX7_bestWall_0 : decode cX7_bestWall 0 = .ok (.iload_n 1, 1) := by decide +kernel
theorem dX7_bestWall_1 : decode cX7_bestWall 1 = .ok (.iconst 0, 1) := by decide +kernel
theorem dX7_bestWall_2 : decode cX7_bestWall 2 = .ok (.iconst 1, 1) := by decide +kernel
theorem dX7_bestWall_3 : decode cX7_bestWall 3 = .ok (.invokestatic 76, 3) := by decide +kernel
theorem dX7_bestWall_6 : decode cX7_bestWall 6 = .ok (.ifCond .ne 8, 3) := by decide +kernel
theorem dX7_bestWall_9 : decode cX7_bestWall 9 = .ok (.aload_n 0, 1) := by decide +kernel
theorem dX7_bestWall_10 : decode cX7_bestWall 10 = .ok (.invokevirtual 84, 3) := by decide +kernel
theorem dX7_bestWall_13 : decode cX7_bestWall 13 = .ok (.ireturn, 1) := by decide +kernel
theorem dX7_bestWall_14 : decode cX7_bestWall 14 = .ok (.iconst (-1), 1) := by decide +kernel
theorem dX7_bestWall_15 : decode cX7_bestWall 15 = .ok (.istore_n 2, 1) := by decide +kernel
theorem dX7_bestWall_16 : decode cX7_bestWall 16 = .ok (.iconst (-1), 1) := by decide +kernel
theorem dX7_bestWall_17 : decode cX7_bestWall 17 = .ok (.istore_n 3, 1) := by decide +kernel
theorem dX7_bestWall_18 : decode cX7_bestWall 18 = .ok (.iconst 0, 1) := by decide +kernel
theorem dX7_bestWall_19 : decode cX7_bestWall 19 = .ok (.istore 4, 2) := by decide +kernel
theorem dX7_bestWall_21 : decode cX7_bestWall 21 = .ok (.iload 4, 2) := by decide +kernel
theorem dX7_bestWall_23 : decode cX7_bestWall 23 = .ok (.bipush 20, 2) := by decide +kernel
theorem dX7_bestWall_25 : decode cX7_bestWall 25 = .ok (.if_icmp .gt 109, 3) := by decide +kernel
theorem dX7_bestWall_28 : decode cX7_bestWall 28 = .ok (.iload 4, 2) := by decide +kernel
theorem dX7_bestWall_30 : decode cX7_bestWall 30 = .ok (.bipush 7, 2) := by decide +kernel
theorem dX7_bestWall_32 : decode cX7_bestWall 32 = .ok (.if_icmp .eq 96, 3) := by decide +kernel
theorem dX7_bestWall_35 : decode cX7_bestWall 35 = .ok (.iload 4, 2) := by decide +kernel
theorem dX7_bestWall_37 : decode cX7_bestWall 37 = .ok (.bipush 8, 2) := by decide +kernel
theorem dX7_bestWall_39 : decode cX7_bestWall 39 = .ok (.if_icmp .eq 89, 3) := by decide +kernel
theorem dX7_bestWall_42 : decode cX7_bestWall 42 = .ok (.iload 4, 2) := by decide +kernel
theorem dX7_bestWall_44 : decode cX7_bestWall 44 = .ok (.bipush 9, 2) := by decide +kernel
theorem dX7_bestWall_46 : decode cX7_bestWall 46 = .ok (.if_icmp .eq 82, 3) := by decide +kernel
theorem dX7_bestWall_49 : decode cX7_bestWall 49 = .ok (.aload_n 0, 1) := by decide +kernel
theorem dX7_bestWall_50 : decode cX7_bestWall 50 = .ok (.getfield 56, 3) := by decide +kernel
theorem dX7_bestWall_53 : decode cX7_bestWall 53 = .ok (.iload 4, 2) := by decide +kernel
theorem dX7_bestWall_55 : decode cX7_bestWall 55 = .ok (.ishr, 1) := by decide +kernel
theorem dX7_bestWall_56 : decode cX7_bestWall 56 = .ok (.iconst 1, 1) := by decide +kernel
theorem dX7_bestWall_57 : decode cX7_bestWall 57 = .ok (.iand, 1) := by decide +kernel
theorem dX7_bestWall_58 : decode cX7_bestWall 58 = .ok (.ifCond .ne 70, 3) := by decide +kernel
theorem dX7_bestWall_61 : decode cX7_bestWall 61 = .ok (.aload_n 0, 1) := by decide +kernel
theorem dX7_bestWall_62 : decode cX7_bestWall 62 = .ok (.dup, 1) := by decide +kernel
theorem dX7_bestWall_63 : decode cX7_bestWall 63 = .ok (.getfield 56, 3) := by decide +kernel
theorem dX7_bestWall_66 : decode cX7_bestWall 66 = .ok (.iconst 1, 1) := by decide +kernel
theorem dX7_bestWall_67 : decode cX7_bestWall 67 = .ok (.iload 4, 2) := by decide +kernel
theorem dX7_bestWall_69 : decode cX7_bestWall 69 = .ok (.ishl, 1) := by decide +kernel
theorem dX7_bestWall_70 : decode cX7_bestWall 70 = .ok (.ior, 1) := by decide +kernel
theorem dX7_bestWall_71 : decode cX7_bestWall 71 = .ok (.putfield 56, 3) := by decide +kernel
theorem dX7_bestWall_74 : decode cX7_bestWall 74 = .ok (.aload_n 0, 1) := by decide +kernel
theorem dX7_bestWall_75 : decode cX7_bestWall 75 = .ok (.aload_n 0, 1) := by decide +kernel
theorem dX7_bestWall_76 : decode cX7_bestWall 76 = .ok (.getfield 53, 3) := by decide +kernel
theorem dX7_bestWall_79 : decode cX7_bestWall 79 = .ok (.invokevirtual 173, 3) := by decide +kernel
theorem dX7_bestWall_82 : decode cX7_bestWall 82 = .ok (.invokestatic 117, 3) := by decide +kernel
theorem dX7_bestWall_85 : decode cX7_bestWall 85 = .ok (.istore 5, 2) := by decide +kernel
theorem dX7_bestWall_87 : decode cX7_bestWall 87 = .ok (.aload_n 0, 1) := by decide +kernel
theorem dX7_bestWall_88 : decode cX7_bestWall 88 = .ok (.dup, 1) := by decide +kernel
theorem dX7_bestWall_89 : decode cX7_bestWall 89 = .ok (.getfield 56, 3) := by decide +kernel
theorem dX7_bestWall_92 : decode cX7_bestWall 92 = .ok (.iconst 1, 1) := by decide +kernel
theorem dX7_bestWall_93 : decode cX7_bestWall 93 = .ok (.iload 4, 2) := by decide +kernel
theorem dX7_bestWall_95 : decode cX7_bestWall 95 = .ok (.ishl, 1) := by decide +kernel
theorem dX7_bestWall_96 : decode cX7_bestWall 96 = .ok (.iconst (-1), 1) := by decide +kernel
theorem dX7_bestWall_97 : decode cX7_bestWall 97 = .ok (.ixor, 1) := by decide +kernel
theorem dX7_bestWall_98 : decode cX7_bestWall 98 = .ok (.iand, 1) := by decide +kernel
theorem dX7_bestWall_99 : decode cX7_bestWall 99 = .ok (.putfield 56, 3) := by decide +kernel
theorem dX7_bestWall_102 : decode cX7_bestWall 102 = .ok (.iload 5, 2) := by decide +kernel
theorem dX7_bestWall_104 : decode cX7_bestWall 104 = .ok (.iload_n 3, 1) := by decide +kernel
theorem dX7_bestWall_105 : decode cX7_bestWall 105 = .ok (.if_icmp .le 8, 3) := by decide +kernel
theorem dX7_bestWall_108 : decode cX7_bestWall 108 = .ok (.iload 4, 2) := by decide +kernel
theorem dX7_bestWall_110 : decode cX7_bestWall 110 = .ok (.goto 4, 3) := by decide +kernel
theorem dX7_bestWall_113 : decode cX7_bestWall 113 = .ok (.iload_n 2, 1) := by decide +kernel
theorem dX7_bestWall_114 : decode cX7_bestWall 114 = .ok (.istore_n 2, 1) := by decide +kernel
theorem dX7_bestWall_115 : decode cX7_bestWall 115 = .ok (.iload 5, 2) := by decide +kernel
theorem dX7_bestWall_117 : decode cX7_bestWall 117 = .ok (.iload_n 3, 1) := by decide +kernel
theorem dX7_bestWall_118 : decode cX7_bestWall 118 = .ok (.if_icmp .le 8, 3) := by decide +kernel
theorem dX7_bestWall_121 : decode cX7_bestWall 121 = .ok (.iload 5, 2) := by decide +kernel
theorem dX7_bestWall_123 : decode cX7_bestWall 123 = .ok (.goto 4, 3) := by decide +kernel
theorem dX7_bestWall_126 : decode cX7_bestWall 126 = .ok (.iload_n 3, 1) := by decide +kernel
theorem dX7_bestWall_127 : decode cX7_bestWall 127 = .ok (.istore_n 3, 1) := by decide +kernel
theorem dX7_bestWall_128 : decode cX7_bestWall 128 = .ok (.iinc 4 1, 3) := by decide +kernel
theorem dX7_bestWall_131 : decode cX7_bestWall 131 = .ok (.goto (-110), 3) := by decide +kernel
theorem dX7_bestWall_134 : decode cX7_bestWall 134 = .ok (.iload_n 1, 1) := by decide +kernel
theorem dX7_bestWall_135 : decode cX7_bestWall 135 = .ok (.ifCond .ne 7, 3) := by decide +kernel
theorem dX7_bestWall_138 : decode cX7_bestWall 138 = .ok (.iload_n 2, 1) := by decide +kernel
theorem dX7_bestWall_139 : decode cX7_bestWall 139 = .ok (.goto 4, 3) := by decide +kernel
theorem dX7_bestWall_142 : decode cX7_bestWall 142 = .ok (.iload_n 3, 1) := by decide +kernel
theorem dX7_bestWall_143 : decode cX7_bestWall 143 = .ok (.ireturn, 1) := by decide +kernel
theorem dX7_bestCell_0 : decode cX7_bestCell 0 = .ok (.iload_n 1, 1) := by decide +kernel
theorem dX7_bestCell_1 : decode cX7_bestCell 1 = .ok (.iconst 0, 1) := by decide +kernel
theorem dX7_bestCell_2 : decode cX7_bestCell 2 = .ok (.sipush 999, 3) := by decide +kernel
theorem dX7_bestCell_5 : decode cX7_bestCell 5 = .ok (.invokestatic 76, 3) := by decide +kernel
theorem dX7_bestCell_8 : decode cX7_bestCell 8 = .ok (.ifCond .eq 12, 3) := by decide +kernel
theorem dX7_bestCell_11 : decode cX7_bestCell 11 = .ok (.iload_n 2, 1) := by decide +kernel
theorem dX7_bestCell_12 : decode cX7_bestCell 12 = .ok (.iconst 0, 1) := by decide +kernel
theorem dX7_bestCell_13 : decode cX7_bestCell 13 = .ok (.iconst 1, 1) := by decide +kernel
theorem dX7_bestCell_14 : decode cX7_bestCell 14 = .ok (.invokestatic 76, 3) := by decide +kernel
theorem dX7_bestCell_17 : decode cX7_bestCell 17 = .ok (.ifCond .ne 8, 3) := by decide +kernel
theorem dX7_bestCell_20 : decode cX7_bestCell 20 = .ok (.aload_n 0, 1) := by decide +kernel
theorem dX7_bestCell_21 : decode cX7_bestCell 21 = .ok (.invokevirtual 84, 3) := by decide +kernel
theorem dX7_bestCell_24 : decode cX7_bestCell 24 = .ok (.ireturn, 1) := by decide +kernel
theorem dX7_bestCell_25 : decode cX7_bestCell 25 = .ok (.aload_n 0, 1) := by decide +kernel
theorem dX7_bestCell_26 : decode cX7_bestCell 26 = .ok (.getfield 49, 3) := by decide +kernel
theorem dX7_bestCell_29 : decode cX7_bestCell 29 = .ok (.bipush 12, 2) := by decide +kernel
theorem dX7_bestCell_31 : decode cX7_bestCell 31 = .ok (.if_icmp .ne 8, 3) := by decide +kernel
theorem dX7_bestCell_34 : decode cX7_bestCell 34 = .ok (.aload_n 0, 1) := by decide +kernel
theorem dX7_bestCell_35 : decode cX7_bestCell 35 = .ok (.invokevirtual 66, 3) := by decide +kernel
theorem dX7_bestCell_38 : decode cX7_bestCell 38 = .ok (.ireturn, 1) := by decide +kernel
theorem dX7_bestCell_39 : decode cX7_bestCell 39 = .ok (.iconst (-1), 1) := by decide +kernel
theorem dX7_bestCell_40 : decode cX7_bestCell 40 = .ok (.istore_n 3, 1) := by decide +kernel
theorem dX7_bestCell_41 : decode cX7_bestCell 41 = .ok (.iconst (-1), 1) := by decide +kernel
theorem dX7_bestCell_42 : decode cX7_bestCell 42 = .ok (.istore 4, 2) := by decide +kernel
theorem dX7_bestCell_44 : decode cX7_bestCell 44 = .ok (.iconst 0, 1) := by decide +kernel
theorem dX7_bestCell_45 : decode cX7_bestCell 45 = .ok (.istore 5, 2) := by decide +kernel
theorem dX7_bestCell_47 : decode cX7_bestCell 47 = .ok (.iload 5, 2) := by decide +kernel
theorem dX7_bestCell_49 : decode cX7_bestCell 49 = .ok (.bipush 96, 2) := by decide +kernel
theorem dX7_bestCell_51 : decode cX7_bestCell 51 = .ok (.if_icmp .ge 83, 3) := by decide +kernel
theorem dX7_bestCell_54 : decode cX7_bestCell 54 = .ok (.aload_n 0, 1) := by decide +kernel
theorem dX7_bestCell_55 : decode cX7_bestCell 55 = .ok (.iload 5, 2) := by decide +kernel
theorem dX7_bestCell_57 : decode cX7_bestCell 57 = .ok (.invokevirtual 87, 3) := by decide +kernel
theorem dX7_bestCell_60 : decode cX7_bestCell 60 = .ok (.iconst (-1), 1) := by decide +kernel
theorem dX7_bestCell_61 : decode cX7_bestCell 61 = .ok (.if_icmp .ne 67, 3) := by decide +kernel
theorem dX7_bestCell_64 : decode cX7_bestCell 64 = .ok (.aload_n 0, 1) := by decide +kernel
theorem dX7_bestCell_65 : decode cX7_bestCell 65 = .ok (.getfield 16, 3) := by decide +kernel
theorem dX7_bestCell_68 : decode cX7_bestCell 68 = .ok (.bipush 12, 2) := by decide +kernel
theorem dX7_bestCell_70 : decode cX7_bestCell 70 = .ok (.iload 5, 2) := by decide +kernel
theorem dX7_bestCell_72 : decode cX7_bestCell 72 = .ok (.iastore, 1) := by decide +kernel
theorem dX7_bestCell_73 : decode cX7_bestCell 73 = .ok (.aload_n 0, 1) := by decide +kernel
theorem dX7_bestCell_74 : decode cX7_bestCell 74 = .ok (.getfield 19, 3) := by decide +kernel
theorem dX7_bestCell_77 : decode cX7_bestCell 77 = .ok (.bipush 12, 2) := by decide +kernel
theorem dX7_bestCell_79 : decode cX7_bestCell 79 = .ok (.iload_n 1, 1) := by decide +kernel
theorem dX7_bestCell_80 : decode cX7_bestCell 80 = .ok (.iastore, 1) := by decide +kernel
theorem dX7_bestCell_81 : decode cX7_bestCell 81 = .ok (.aload_n 0, 1) := by decide +kernel
theorem dX7_bestCell_82 : decode cX7_bestCell 82 = .ok (.aload_n 0, 1) := by decide +kernel
theorem dX7_bestCell_83 : decode cX7_bestCell 83 = .ok (.getfield 53, 3) := by decide +kernel
theorem dX7_bestCell_86 : decode cX7_bestCell 86 = .ok (.sipush 4096, 3) := by decide +kernel
theorem dX7_bestCell_89 : decode cX7_bestCell 89 = .ok (.ior, 1) := by decide +kernel
theorem dX7_bestCell_90 : decode cX7_bestCell 90 = .ok (.invokevirtual 173, 3) := by decide +kernel
theorem dX7_bestCell_93 : decode cX7_bestCell 93 = .ok (.invokestatic 182, 3) := by decide +kernel
theorem dX7_bestCell_96 : decode cX7_bestCell 96 = .ok (.istore 6, 2) := by decide +kernel
theorem dX7_bestCell_98 : decode cX7_bestCell 98 = .ok (.iload 6, 2) := by decide +kernel
theorem dX7_bestCell_100 : decode cX7_bestCell 100 = .ok (.iload 4, 2) := by decide +kernel
theorem dX7_bestCell_102 : decode cX7_bestCell 102 = .ok (.if_icmp .le 8, 3) := by decide +kernel
theorem dX7_bestCell_105 : decode cX7_bestCell 105 = .ok (.iload 5, 2) := by decide +kernel
theorem dX7_bestCell_107 : decode cX7_bestCell 107 = .ok (.goto 4, 3) := by decide +kernel
theorem dX7_bestCell_110 : decode cX7_bestCell 110 = .ok (.iload_n 3, 1) := by decide +kernel
theorem dX7_bestCell_111 : decode cX7_bestCell 111 = .ok (.istore_n 3, 1) := by decide +kernel
theorem dX7_bestCell_112 : decode cX7_bestCell 112 = .ok (.iload 6, 2) := by decide +kernel
theorem dX7_bestCell_114 : decode cX7_bestCell 114 = .ok (.iload 4, 2) := by decide +kernel
theorem dX7_bestCell_116 : decode cX7_bestCell 116 = .ok (.if_icmp .le 8, 3) := by decide +kernel
theorem dX7_bestCell_119 : decode cX7_bestCell 119 = .ok (.iload 6, 2) := by decide +kernel
theorem dX7_bestCell_121 : decode cX7_bestCell 121 = .ok (.goto 5, 3) := by decide +kernel
theorem dX7_bestCell_124 : decode cX7_bestCell 124 = .ok (.iload 4, 2) := by decide +kernel
theorem dX7_bestCell_126 : decode cX7_bestCell 126 = .ok (.istore 4, 2) := by decide +kernel
theorem dX7_bestCell_128 : decode cX7_bestCell 128 = .ok (.iinc 5 1, 3) := by decide +kernel
theorem dX7_bestCell_131 : decode cX7_bestCell 131 = .ok (.goto (-84), 3) := by decide +kernel
theorem dX7_bestCell_134 : decode cX7_bestCell 134 = .ok (.iload_n 2, 1) := by decide +kernel
theorem dX7_bestCell_135 : decode cX7_bestCell 135 = .ok (.ifCond .ne 7, 3) := by decide +kernel
theorem dX7_bestCell_138 : decode cX7_bestCell 138 = .ok (.iload_n 3, 1) := by decide +kernel
theorem dX7_bestCell_139 : decode cX7_bestCell 139 = .ok (.goto 5, 3) := by decide +kernel
theorem dX7_bestCell_142 : decode cX7_bestCell 142 = .ok (.iload 4, 2) := by decide +kernel
theorem dX7_bestCell_144 : decode cX7_bestCell 144 = .ok (.ireturn, 1) := by decide +kernel
theorem dX7_type_0 : decode cX7_type 0 = .ok (.iload_n 1, 1) := by decide +kernel
theorem dX7_type_1 : decode cX7_type 1 = .ok (.iconst 0, 1) := by decide +kernel
theorem dX7_type_2 : decode cX7_type 2 = .ok (.bipush 127, 2) := by decide +kernel
theorem dX7_type_4 : decode cX7_type 4 = .ok (.invokestatic 76, 3) := by decide +kernel
theorem dX7_type_7 : decode cX7_type 7 = .ok (.ifCond .ne 8, 3) := by decide +kernel
theorem dX7_type_10 : decode cX7_type 10 = .ok (.aload_n 0, 1) := by decide +kernel
theorem dX7_type_11 : decode cX7_type 11 = .ok (.invokevirtual 84, 3) := by decide +kernel
theorem dX7_type_14 : decode cX7_type 14 = .ok (.ireturn, 1) := by decide +kernel
theorem dX7_type_15 : decode cX7_type 15 = .ok (.aload_n 0, 1) := by decide +kernel
theorem dX7_type_16 : decode cX7_type 16 = .ok (.getfield 185, 3) := by decide +kernel
theorem dX7_type_19 : decode cX7_type 19 = .ok (.bipush 120, 2) := by decide +kernel
theorem dX7_type_21 : decode cX7_type 21 = .ok (.if_icmp .ne 8, 3) := by decide +kernel
theorem dX7_type_24 : decode cX7_type 24 = .ok (.aload_n 0, 1) := by decide +kernel
theorem dX7_type_25 : decode cX7_type 25 = .ok (.invokevirtual 91, 3) := by decide +kernel
theorem dX7_type_28 : decode cX7_type 28 = .ok (.ireturn, 1) := by decide +kernel
theorem dX7_type_29 : decode cX7_type 29 = .ok (.aload_n 0, 1) := by decide +kernel
theorem dX7_type_30 : decode cX7_type 30 = .ok (.getfield 40, 3) := by decide +kernel
theorem dX7_type_33 : decode cX7_type 33 = .ok (.aload_n 0, 1) := by decide +kernel
theorem dX7_type_34 : decode cX7_type 34 = .ok (.getfield 185, 3) := by decide +kernel
theorem dX7_type_37 : decode cX7_type 37 = .ok (.iload_n 1, 1) := by decide +kernel
theorem dX7_type_38 : decode cX7_type 38 = .ok (.iastore, 1) := by decide +kernel
theorem dX7_type_39 : decode cX7_type 39 = .ok (.aload_n 0, 1) := by decide +kernel
theorem dX7_type_40 : decode cX7_type 40 = .ok (.dup, 1) := by decide +kernel
theorem dX7_type_41 : decode cX7_type 41 = .ok (.getfield 185, 3) := by decide +kernel
theorem dX7_type_44 : decode cX7_type 44 = .ok (.iconst 1, 1) := by decide +kernel
theorem dX7_type_45 : decode cX7_type 45 = .ok (.iadd, 1) := by decide +kernel
theorem dX7_type_46 : decode cX7_type 46 = .ok (.putfield 185, 3) := by decide +kernel
theorem dX7_type_49 : decode cX7_type 49 = .ok (.aload_n 0, 1) := by decide +kernel
theorem dX7_type_50 : decode cX7_type 50 = .ok (.getfield 185, 3) := by decide +kernel
theorem dX7_type_53 : decode cX7_type 53 = .ok (.ireturn, 1) := by decide +kernel
theorem dX7_clear_0 : decode cX7_clear 0 = .ok (.aload_n 0, 1) := by decide +kernel
theorem dX7_clear_1 : decode cX7_clear 1 = .ok (.getfield 185, 3) := by decide +kernel
theorem dX7_clear_4 : decode cX7_clear 4 = .ok (.istore_n 1, 1) := by decide +kernel
theorem dX7_clear_5 : decode cX7_clear 5 = .ok (.aload_n 0, 1) := by decide +kernel
theorem dX7_clear_6 : decode cX7_clear 6 = .ok (.iconst 0, 1) := by decide +kernel
theorem dX7_clear_7 : decode cX7_clear 7 = .ok (.putfield 185, 3) := by decide +kernel
theorem dX7_clear_10 : decode cX7_clear 10 = .ok (.iload_n 1, 1) := by decide +kernel
theorem dX7_clear_11 : decode cX7_clear 11 = .ok (.ireturn, 1) := by decide +kernel
theorem dX7_here_0 : decode cX7_here 0 = .ok (.aload_n 0, 1) := by decide +kernel
theorem dX7_here_1 : decode cX7_here 1 = .ok (.getfield 188, 3) := by decide +kernel
theorem dX7_here_4 : decode cX7_here 4 = .ok (.aload_n 0, 1) := by decide +kernel
theorem dX7_here_5 : decode cX7_here 5 = .ok (.getfield 185, 3) := by decide +kernel
theorem dX7_here_8 : decode cX7_here 8 = .ok (.if_icmp .ge 30, 3) := by decide +kernel
theorem dX7_here_11 : decode cX7_here 11 = .ok (.aload_n 0, 1) := by decide +kernel
theorem dX7_here_12 : decode cX7_here 12 = .ok (.getfield 40, 3) := by decide +kernel
theorem dX7_here_15 : decode cX7_here 15 = .ok (.aload_n 0, 1) := by decide +kernel
theorem dX7_here_16 : decode cX7_here 16 = .ok (.getfield 188, 3) := by decide +kernel
theorem dX7_here_19 : decode cX7_here 19 = .ok (.iaload, 1) := by decide +kernel
theorem dX7_here_20 : decode cX7_here 20 = .ok (.bipush 32, 2) := by decide +kernel
theorem dX7_here_22 : decode cX7_here 22 = .ok (.if_icmp .ne 16, 3) := by decide +kernel
theorem dX7_here_25 : decode cX7_here 25 = .ok (.aload_n 0, 1) := by decide +kernel
theorem dX7_here_26 : decode cX7_here 26 = .ok (.dup, 1) := by decide +kernel
theorem dX7_here_27 : decode cX7_here 27 = .ok (.getfield 188, 3) := by decide +kernel
theorem dX7_here_30 : decode cX7_here 30 = .ok (.iconst 1, 1) := by decide +kernel
theorem dX7_here_31 : decode cX7_here 31 = .ok (.iadd, 1) := by decide +kernel
theorem dX7_here_32 : decode cX7_here 32 = .ok (.putfield 188, 3) := by decide +kernel
theorem dX7_here_35 : decode cX7_here 35 = .ok (.goto (-35), 3) := by decide +kernel
theorem dX7_here_38 : decode cX7_here 38 = .ok (.aload_n 0, 1) := by decide +kernel
theorem dX7_here_39 : decode cX7_here 39 = .ok (.getfield 188, 3) := by decide +kernel
theorem dX7_here_42 : decode cX7_here 42 = .ok (.aload_n 0, 1) := by decide +kernel
theorem dX7_here_43 : decode cX7_here 43 = .ok (.getfield 185, 3) := by decide +kernel
theorem dX7_here_46 : decode cX7_here 46 = .ok (.if_icmp .ge 15, 3) := by decide +kernel
theorem dX7_here_49 : decode cX7_here 49 = .ok (.aload_n 0, 1) := by decide +kernel
theorem dX7_here_50 : decode cX7_here 50 = .ok (.getfield 40, 3) := by decide +kernel
theorem dX7_here_53 : decode cX7_here 53 = .ok (.aload_n 0, 1) := by decide +kernel
theorem dX7_here_54 : decode cX7_here 54 = .ok (.getfield 188, 3) := by decide +kernel
theorem dX7_here_57 : decode cX7_here 57 = .ok (.iaload, 1) := by decide +kernel
theorem dX7_here_58 : decode cX7_here 58 = .ok (.goto 4, 3) := by decide +kernel
theorem dX7_here_61 : decode cX7_here 61 = .ok (.iconst (-1), 1) := by decide +kernel
theorem dX7_here_62 : decode cX7_here 62 = .ok (.ireturn, 1) := by decide +kernel
theorem dX7_readsNumber_0 : decode cX7_readsNumber 0 = .ok (.aload_n 0, 1) := by decide +kernel
theorem dX7_readsNumber_1 : decode cX7_readsNumber 1 = .ok (.invokevirtual 191, 3) := by decide +kernel
theorem dX7_readsNumber_4 : decode cX7_readsNumber 4 = .ok (.bipush 48, 2) := by decide +kernel
theorem dX7_readsNumber_6 : decode cX7_readsNumber 6 = .ok (.bipush 57, 2) := by decide +kernel
theorem dX7_readsNumber_8 : decode cX7_readsNumber 8 = .ok (.invokestatic 76, 3) := by decide +kernel
theorem dX7_readsNumber_11 : decode cX7_readsNumber 11 = .ok (.ifCond .ne 5, 3) := by decide +kernel
theorem dX7_readsNumber_14 : decode cX7_readsNumber 14 = .ok (.iconst 0, 1) := by decide +kernel
theorem dX7_readsNumber_15 : decode cX7_readsNumber 15 = .ok (.ireturn, 1) := by decide +kernel
theorem dX7_readsNumber_16 : decode cX7_readsNumber 16 = .ok (.aload_n 0, 1) := by decide +kernel
theorem dX7_readsNumber_17 : decode cX7_readsNumber 17 = .ok (.getfield 188, 3) := by decide +kernel
theorem dX7_readsNumber_20 : decode cX7_readsNumber 20 = .ok (.istore_n 2, 1) := by decide +kernel
theorem dX7_readsNumber_21 : decode cX7_readsNumber 21 = .ok (.iconst 0, 1) := by decide +kernel
theorem dX7_readsNumber_22 : decode cX7_readsNumber 22 = .ok (.istore_n 3, 1) := by decide +kernel
theorem dX7_readsNumber_23 : decode cX7_readsNumber 23 = .ok (.aload_n 0, 1) := by decide +kernel
theorem dX7_readsNumber_24 : decode cX7_readsNumber 24 = .ok (.iconst 0, 1) := by decide +kernel
theorem dX7_readsNumber_25 : decode cX7_readsNumber 25 = .ok (.putfield 194, 3) := by decide +kernel
theorem dX7_readsNumber_28 : decode cX7_readsNumber 28 = .ok (.aload_n 0, 1) := by decide +kernel
theorem dX7_readsNumber_29 : decode cX7_readsNumber 29 = .ok (.getfield 188, 3) := by decide +kernel
theorem dX7_readsNumber_32 : decode cX7_readsNumber 32 = .ok (.aload_n 0, 1) := by decide +kernel
theorem dX7_readsNumber_33 : decode cX7_readsNumber 33 = .ok (.getfield 185, 3) := by decide +kernel
theorem dX7_readsNumber_36 : decode cX7_readsNumber 36 = .ok (.if_icmp .ge 74, 3) := by decide +kernel
theorem dX7_readsNumber_39 : decode cX7_readsNumber 39 = .ok (.aload_n 0, 1) := by decide +kernel
theorem dX7_readsNumber_40 : decode cX7_readsNumber 40 = .ok (.getfield 40, 3) := by decide +kernel
theorem dX7_readsNumber_43 : decode cX7_readsNumber 43 = .ok (.aload_n 0, 1) := by decide +kernel
theorem dX7_readsNumber_44 : decode cX7_readsNumber 44 = .ok (.getfield 188, 3) := by decide +kernel
theorem dX7_readsNumber_47 : decode cX7_readsNumber 47 = .ok (.iaload, 1) := by decide +kernel
theorem dX7_readsNumber_48 : decode cX7_readsNumber 48 = .ok (.bipush 48, 2) := by decide +kernel
theorem dX7_readsNumber_50 : decode cX7_readsNumber 50 = .ok (.bipush 57, 2) := by decide +kernel
theorem dX7_readsNumber_52 : decode cX7_readsNumber 52 = .ok (.invokestatic 76, 3) := by decide +kernel
theorem dX7_readsNumber_55 : decode cX7_readsNumber 55 = .ok (.ifCond .eq 55, 3) := by decide +kernel
theorem dX7_readsNumber_58 : decode cX7_readsNumber 58 = .ok (.aload_n 0, 1) := by decide +kernel
theorem dX7_readsNumber_59 : decode cX7_readsNumber 59 = .ok (.iload_n 3, 1) := by decide +kernel
theorem dX7_readsNumber_60 : decode cX7_readsNumber 60 = .ok (.iconst 3, 1) := by decide +kernel
theorem dX7_readsNumber_61 : decode cX7_readsNumber 61 = .ok (.if_icmp .ge 26, 3) := by decide +kernel
theorem dX7_readsNumber_64 : decode cX7_readsNumber 64 = .ok (.bipush 10, 2) := by decide +kernel
theorem dX7_readsNumber_66 : decode cX7_readsNumber 66 = .ok (.aload_n 0, 1) := by decide +kernel
theorem dX7_readsNumber_67 : decode cX7_readsNumber 67 = .ok (.getfield 194, 3) := by decide +kernel
theorem dX7_readsNumber_70 : decode cX7_readsNumber 70 = .ok (.imul, 1) := by decide +kernel
theorem dX7_readsNumber_71 : decode cX7_readsNumber 71 = .ok (.aload_n 0, 1) := by decide +kernel
theorem dX7_readsNumber_72 : decode cX7_readsNumber 72 = .ok (.getfield 40, 3) := by decide +kernel
theorem dX7_readsNumber_75 : decode cX7_readsNumber 75 = .ok (.aload_n 0, 1) := by decide +kernel
theorem dX7_readsNumber_76 : decode cX7_readsNumber 76 = .ok (.getfield 188, 3) := by decide +kernel
theorem dX7_readsNumber_79 : decode cX7_readsNumber 79 = .ok (.iaload, 1) := by decide +kernel
theorem dX7_readsNumber_80 : decode cX7_readsNumber 80 = .ok (.iadd, 1) := by decide +kernel
theorem dX7_readsNumber_81 : decode cX7_readsNumber 81 = .ok (.bipush 48, 2) := by decide +kernel
theorem dX7_readsNumber_83 : decode cX7_readsNumber 83 = .ok (.isub, 1) := by decide +kernel
theorem dX7_readsNumber_84 : decode cX7_readsNumber 84 = .ok (.goto 7, 3) := by decide +kernel
theorem dX7_readsNumber_87 : decode cX7_readsNumber 87 = .ok (.aload_n 0, 1) := by decide +kernel
theorem dX7_readsNumber_88 : decode cX7_readsNumber 88 = .ok (.getfield 194, 3) := by decide +kernel
theorem dX7_readsNumber_91 : decode cX7_readsNumber 91 = .ok (.putfield 194, 3) := by decide +kernel
theorem dX7_readsNumber_94 : decode cX7_readsNumber 94 = .ok (.iinc 3 1, 3) := by decide +kernel
theorem dX7_readsNumber_97 : decode cX7_readsNumber 97 = .ok (.aload_n 0, 1) := by decide +kernel
theorem dX7_readsNumber_98 : decode cX7_readsNumber 98 = .ok (.dup, 1) := by decide +kernel
theorem dX7_readsNumber_99 : decode cX7_readsNumber 99 = .ok (.getfield 188, 3) := by decide +kernel
theorem dX7_readsNumber_102 : decode cX7_readsNumber 102 = .ok (.iconst 1, 1) := by decide +kernel
theorem dX7_readsNumber_103 : decode cX7_readsNumber 103 = .ok (.iadd, 1) := by decide +kernel
theorem dX7_readsNumber_104 : decode cX7_readsNumber 104 = .ok (.putfield 188, 3) := by decide +kernel
theorem dX7_readsNumber_107 : decode cX7_readsNumber 107 = .ok (.goto (-79), 3) := by decide +kernel
theorem dX7_readsNumber_110 : decode cX7_readsNumber 110 = .ok (.iload_n 3, 1) := by decide +kernel
theorem dX7_readsNumber_111 : decode cX7_readsNumber 111 = .ok (.iconst 3, 1) := by decide +kernel
theorem dX7_readsNumber_112 : decode cX7_readsNumber 112 = .ok (.if_icmp .gt 11, 3) := by decide +kernel
theorem dX7_readsNumber_115 : decode cX7_readsNumber 115 = .ok (.aload_n 0, 1) := by decide +kernel
theorem dX7_readsNumber_116 : decode cX7_readsNumber 116 = .ok (.getfield 194, 3) := by decide +kernel
theorem dX7_readsNumber_119 : decode cX7_readsNumber 119 = .ok (.iload_n 1, 1) := by decide +kernel
theorem dX7_readsNumber_120 : decode cX7_readsNumber 120 = .ok (.if_icmp .le 10, 3) := by decide +kernel
theorem dX7_readsNumber_123 : decode cX7_readsNumber 123 = .ok (.aload_n 0, 1) := by decide +kernel
theorem dX7_readsNumber_124 : decode cX7_readsNumber 124 = .ok (.iload_n 2, 1) := by decide +kernel
theorem dX7_readsNumber_125 : decode cX7_readsNumber 125 = .ok (.putfield 188, 3) := by decide +kernel
theorem dX7_readsNumber_128 : decode cX7_readsNumber 128 = .ok (.iconst 0, 1) := by decide +kernel
theorem dX7_readsNumber_129 : decode cX7_readsNumber 129 = .ok (.ireturn, 1) := by decide +kernel
theorem dX7_readsNumber_130 : decode cX7_readsNumber 130 = .ok (.iconst 1, 1) := by decide +kernel
theorem dX7_readsNumber_131 : decode cX7_readsNumber 131 = .ok (.ireturn, 1) := by decide +kernel
theorem dX7_ends_0 : decode cX7_ends 0 = .ok (.aload_n 0, 1) := by decide +kernel
theorem dX7_ends_1 : decode cX7_ends 1 = .ok (.invokevirtual 191, 3) := by decide +kernel
theorem dX7_ends_4 : decode cX7_ends 4 = .ok (.bipush 59, 2) := by decide +kernel
theorem dX7_ends_6 : decode cX7_ends 6 = .ok (.if_icmp .eq 5, 3) := by decide +kernel
theorem dX7_ends_9 : decode cX7_ends 9 = .ok (.iconst 0, 1) := by decide +kernel
theorem dX7_ends_10 : decode cX7_ends 10 = .ok (.ireturn, 1) := by decide +kernel
theorem dX7_ends_11 : decode cX7_ends 11 = .ok (.aload_n 0, 1) := by decide +kernel
theorem dX7_ends_12 : decode cX7_ends 12 = .ok (.dup, 1) := by decide +kernel
theorem dX7_ends_13 : decode cX7_ends 13 = .ok (.getfield 188, 3) := by decide +kernel
theorem dX7_ends_16 : decode cX7_ends 16 = .ok (.iconst 1, 1) := by decide +kernel
theorem dX7_ends_17 : decode cX7_ends 17 = .ok (.iadd, 1) := by decide +kernel
theorem dX7_ends_18 : decode cX7_ends 18 = .ok (.putfield 188, 3) := by decide +kernel
theorem dX7_ends_21 : decode cX7_ends 21 = .ok (.iconst 1, 1) := by decide +kernel
theorem dX7_ends_22 : decode cX7_ends 22 = .ok (.ireturn, 1) := by decide +kernel
theorem dX7_readsCell_0 : decode cX7_readsCell 0 = .ok (.aload_n 0, 1) := by decide +kernel
theorem dX7_readsCell_1 : decode cX7_readsCell 1 = .ok (.bipush 7, 2) := by decide +kernel
theorem dX7_readsCell_3 : decode cX7_readsCell 3 = .ok (.invokevirtual 197, 3) := by decide +kernel
theorem dX7_readsCell_6 : decode cX7_readsCell 6 = .ok (.ifCond .ne 5, 3) := by decide +kernel
theorem dX7_readsCell_9 : decode cX7_readsCell 9 = .ok (.iconst 0, 1) := by decide +kernel
theorem dX7_readsCell_10 : decode cX7_readsCell 10 = .ok (.ireturn, 1) := by decide +kernel
theorem dX7_readsCell_11 : decode cX7_readsCell 11 = .ok (.aload_n 0, 1) := by decide +kernel
theorem dX7_readsCell_12 : decode cX7_readsCell 12 = .ok (.bipush 12, 2) := by decide +kernel
theorem dX7_readsCell_14 : decode cX7_readsCell 14 = .ok (.aload_n 0, 1) := by decide +kernel
theorem dX7_readsCell_15 : decode cX7_readsCell 15 = .ok (.getfield 194, 3) := by decide +kernel
theorem dX7_readsCell_18 : decode cX7_readsCell 18 = .ok (.imul, 1) := by decide +kernel
theorem dX7_readsCell_19 : decode cX7_readsCell 19 = .ok (.putfield 200, 3) := by decide +kernel
theorem dX7_readsCell_22 : decode cX7_readsCell 22 = .ok (.aload_n 0, 1) := by decide +kernel
theorem dX7_readsCell_23 : decode cX7_readsCell 23 = .ok (.bipush 11, 2) := by decide +kernel
theorem dX7_readsCell_25 : decode cX7_readsCell 25 = .ok (.invokevirtual 197, 3) := by decide +kernel
theorem dX7_readsCell_28 : decode cX7_readsCell 28 = .ok (.ifCond .ne 5, 3) := by decide +kernel
theorem dX7_readsCell_31 : decode cX7_readsCell 31 = .ok (.iconst 0, 1) := by decide +kernel
theorem dX7_readsCell_32 : decode cX7_readsCell 32 = .ok (.ireturn, 1) := by decide +kernel
theorem dX7_readsCell_33 : decode cX7_readsCell 33 = .ok (.aload_n 0, 1) := by decide +kernel
theorem dX7_readsCell_34 : decode cX7_readsCell 34 = .ok (.dup, 1) := by decide +kernel
theorem dX7_readsCell_35 : decode cX7_readsCell 35 = .ok (.getfield 200, 3) := by decide +kernel
theorem dX7_readsCell_38 : decode cX7_readsCell 38 = .ok (.aload_n 0, 1) := by decide +kernel
theorem dX7_readsCell_39 : decode cX7_readsCell 39 = .ok (.getfield 194, 3) := by decide +kernel
theorem dX7_readsCell_42 : decode cX7_readsCell 42 = .ok (.iadd, 1) := by decide +kernel
theorem dX7_readsCell_43 : decode cX7_readsCell 43 = .ok (.putfield 200, 3) := by decide +kernel
theorem dX7_readsCell_46 : decode cX7_readsCell 46 = .ok (.iconst 1, 1) := by decide +kernel
theorem dX7_readsCell_47 : decode cX7_readsCell 47 = .ok (.ireturn, 1) := by decide +kernel
theorem dX7_readsPillar_0 : decode cX7_readsPillar 0 = .ok (.aload_n 0, 1) := by decide +kernel
theorem dX7_readsPillar_1 : decode cX7_readsPillar 1 = .ok (.getfield 49, 3) := by decide +kernel
theorem dX7_readsPillar_4 : decode cX7_readsPillar 4 = .ok (.bipush 12, 2) := by decide +kernel
theorem dX7_readsPillar_6 : decode cX7_readsPillar 6 = .ok (.if_icmp .ne 10, 3) := by decide +kernel
theorem dX7_readsPillar_9 : decode cX7_readsPillar 9 = .ok (.aload_n 0, 1) := by decide +kernel
theorem dX7_readsPillar_10 : decode cX7_readsPillar 10 = .ok (.iload_n 1, 1) := by decide +kernel
theorem dX7_readsPillar_11 : decode cX7_readsPillar 11 = .ok (.putfield 188, 3) := by decide +kernel
theorem dX7_readsPillar_14 : decode cX7_readsPillar 14 = .ok (.iconst 0, 1) := by decide +kernel
theorem dX7_readsPillar_15 : decode cX7_readsPillar 15 = .ok (.ireturn, 1) := by decide +kernel
theorem dX7_readsPillar_16 : decode cX7_readsPillar 16 = .ok (.aload_n 0, 1) := by decide +kernel
theorem dX7_readsPillar_17 : decode cX7_readsPillar 17 = .ok (.invokevirtual 203, 3) := by decide +kernel
theorem dX7_readsPillar_20 : decode cX7_readsPillar 20 = .ok (.ifCond .eq 13, 3) := by decide +kernel
theorem dX7_readsPillar_23 : decode cX7_readsPillar 23 = .ok (.aload_n 0, 1) := by decide +kernel
theorem dX7_readsPillar_24 : decode cX7_readsPillar 24 = .ok (.sipush 999, 3) := by decide +kernel
theorem dX7_readsPillar_27 : decode cX7_readsPillar 27 = .ok (.invokevirtual 197, 3) := by decide +kernel
theorem dX7_readsPillar_30 : decode cX7_readsPillar 30 = .ok (.ifCond .ne 5, 3) := by decide +kernel
theorem dX7_readsPillar_33 : decode cX7_readsPillar 33 = .ok (.iconst 0, 1) := by decide +kernel
theorem dX7_readsPillar_34 : decode cX7_readsPillar 34 = .ok (.ireturn, 1) := by decide +kernel
theorem dX7_readsPillar_35 : decode cX7_readsPillar 35 = .ok (.aload_n 0, 1) := by decide +kernel
theorem dX7_readsPillar_36 : decode cX7_readsPillar 36 = .ok (.getfield 194, 3) := by decide +kernel
theorem dX7_readsPillar_39 : decode cX7_readsPillar 39 = .ok (.istore_n 2, 1) := by decide +kernel
theorem dX7_readsPillar_40 : decode cX7_readsPillar 40 = .ok (.aload_n 0, 1) := by decide +kernel
theorem dX7_readsPillar_41 : decode cX7_readsPillar 41 = .ok (.invokevirtual 207, 3) := by decide +kernel
theorem dX7_readsPillar_44 : decode cX7_readsPillar 44 = .ok (.ifCond .ne 5, 3) := by decide +kernel
theorem dX7_readsPillar_47 : decode cX7_readsPillar 47 = .ok (.iconst 0, 1) := by decide +kernel
theorem dX7_readsPillar_48 : decode cX7_readsPillar 48 = .ok (.ireturn, 1) := by decide +kernel
theorem dX7_readsPillar_49 : decode cX7_readsPillar 49 = .ok (.aload_n 0, 1) := by decide +kernel
theorem dX7_readsPillar_50 : decode cX7_readsPillar 50 = .ok (.aload_n 0, 1) := by decide +kernel
theorem dX7_readsPillar_51 : decode cX7_readsPillar 51 = .ok (.getfield 200, 3) := by decide +kernel
theorem dX7_readsPillar_54 : decode cX7_readsPillar 54 = .ok (.invokevirtual 87, 3) := by decide +kernel
theorem dX7_readsPillar_57 : decode cX7_readsPillar 57 = .ok (.iconst (-1), 1) := by decide +kernel
theorem dX7_readsPillar_58 : decode cX7_readsPillar 58 = .ok (.if_icmp .eq 10, 3) := by decide +kernel
theorem dX7_readsPillar_61 : decode cX7_readsPillar 61 = .ok (.aload_n 0, 1) := by decide +kernel
theorem dX7_readsPillar_62 : decode cX7_readsPillar 62 = .ok (.iload_n 1, 1) := by decide +kernel
theorem dX7_readsPillar_63 : decode cX7_readsPillar 63 = .ok (.putfield 188, 3) := by decide +kernel
theorem dX7_readsPillar_66 : decode cX7_readsPillar 66 = .ok (.iconst 0, 1) := by decide +kernel
theorem dX7_readsPillar_67 : decode cX7_readsPillar 67 = .ok (.ireturn, 1) := by decide +kernel
theorem dX7_readsPillar_68 : decode cX7_readsPillar 68 = .ok (.aload_n 0, 1) := by decide +kernel
theorem dX7_readsPillar_69 : decode cX7_readsPillar 69 = .ok (.aload_n 0, 1) := by decide +kernel
theorem dX7_readsPillar_70 : decode cX7_readsPillar 70 = .ok (.getfield 200, 3) := by decide +kernel
theorem dX7_readsPillar_73 : decode cX7_readsPillar 73 = .ok (.iload_n 2, 1) := by decide +kernel
theorem dX7_readsPillar_74 : decode cX7_readsPillar 74 = .ok (.invokevirtual 97, 3) := by decide +kernel
theorem dX7_readsPillar_77 : decode cX7_readsPillar 77 = .ok (.iconst 1, 1) := by decide +kernel
theorem dX7_readsPillar_78 : decode cX7_readsPillar 78 = .ok (.ireturn, 1) := by decide +kernel
theorem dX7_readsWeight_0 : decode cX7_readsWeight 0 = .ok (.aload_n 0, 1) := by decide +kernel
theorem dX7_readsWeight_1 : decode cX7_readsWeight 1 = .ok (.invokevirtual 203, 3) := by decide +kernel
theorem dX7_readsWeight_4 : decode cX7_readsWeight 4 = .ok (.ifCond .eq 12, 3) := by decide +kernel
theorem dX7_readsWeight_7 : decode cX7_readsWeight 7 = .ok (.aload_n 0, 1) := by decide +kernel
theorem dX7_readsWeight_8 : decode cX7_readsWeight 8 = .ok (.bipush 9, 2) := by decide +kernel
theorem dX7_readsWeight_10 : decode cX7_readsWeight 10 = .ok (.invokevirtual 197, 3) := by decide +kernel
theorem dX7_readsWeight_13 : decode cX7_readsWeight 13 = .ok (.ifCond .ne 5, 3) := by decide +kernel
theorem dX7_readsWeight_16 : decode cX7_readsWeight 16 = .ok (.iconst 0, 1) := by decide +kernel
theorem dX7_readsWeight_17 : decode cX7_readsWeight 17 = .ok (.ireturn, 1) := by decide +kernel
theorem dX7_readsWeight_18 : decode cX7_readsWeight 18 = .ok (.aload_n 0, 1) := by decide +kernel
theorem dX7_readsWeight_19 : decode cX7_readsWeight 19 = .ok (.getfield 13, 3) := by decide +kernel
theorem dX7_readsWeight_22 : decode cX7_readsWeight 22 = .ok (.aload_n 0, 1) := by decide +kernel
theorem dX7_readsWeight_23 : decode cX7_readsWeight 23 = .ok (.getfield 200, 3) := by decide +kernel
theorem dX7_readsWeight_26 : decode cX7_readsWeight 26 = .ok (.aload_n 0, 1) := by decide +kernel
theorem dX7_readsWeight_27 : decode cX7_readsWeight 27 = .ok (.getfield 194, 3) := by decide +kernel
theorem dX7_readsWeight_30 : decode cX7_readsWeight 30 = .ok (.iastore, 1) := by decide +kernel
theorem dX7_readsWeight_31 : decode cX7_readsWeight 31 = .ok (.aload_n 0, 1) := by decide +kernel
theorem dX7_readsWeight_32 : decode cX7_readsWeight 32 = .ok (.invokevirtual 207, 3) := by decide +kernel
theorem dX7_readsWeight_35 : decode cX7_readsWeight 35 = .ok (.ireturn, 1) := by decide +kernel
theorem dX7_readsWall_0 : decode cX7_readsWall 0 = .ok (.aload_n 0, 1) := by decide +kernel
theorem dX7_readsWall_1 : decode cX7_readsWall 1 = .ok (.iload_n 2, 1) := by decide +kernel
theorem dX7_readsWall_2 : decode cX7_readsWall 2 = .ok (.invokevirtual 197, 3) := by decide +kernel
theorem dX7_readsWall_5 : decode cX7_readsWall 5 = .ok (.ifCond .ne 5, 3) := by decide +kernel
theorem dX7_readsWall_8 : decode cX7_readsWall 8 = .ok (.iconst 0, 1) := by decide +kernel
theorem dX7_readsWall_9 : decode cX7_readsWall 9 = .ok (.ireturn, 1) := by decide +kernel
theorem dX7_readsWall_10 : decode cX7_readsWall 10 = .ok (.aload_n 0, 1) := by decide +kernel
theorem dX7_readsWall_11 : decode cX7_readsWall 11 = .ok (.dup, 1) := by decide +kernel
theorem dX7_readsWall_12 : decode cX7_readsWall 12 = .ok (.getfield 56, 3) := by decide +kernel
theorem dX7_readsWall_15 : decode cX7_readsWall 15 = .ok (.iconst 1, 1) := by decide +kernel
theorem dX7_readsWall_16 : decode cX7_readsWall 16 = .ok (.iload_n 1, 1) := by decide +kernel
theorem dX7_readsWall_17 : decode cX7_readsWall 17 = .ok (.aload_n 0, 1) := by decide +kernel
theorem dX7_readsWall_18 : decode cX7_readsWall 18 = .ok (.getfield 194, 3) := by decide +kernel
theorem dX7_readsWall_21 : decode cX7_readsWall 21 = .ok (.iadd, 1) := by decide +kernel
theorem dX7_readsWall_22 : decode cX7_readsWall 22 = .ok (.ishl, 1) := by decide +kernel
theorem dX7_readsWall_23 : decode cX7_readsWall 23 = .ok (.ior, 1) := by decide +kernel
theorem dX7_readsWall_24 : decode cX7_readsWall 24 = .ok (.putfield 56, 3) := by decide +kernel
theorem dX7_readsWall_27 : decode cX7_readsWall 27 = .ok (.aload_n 0, 1) := by decide +kernel
theorem dX7_readsWall_28 : decode cX7_readsWall 28 = .ok (.invokevirtual 207, 3) := by decide +kernel
theorem dX7_readsWall_31 : decode cX7_readsWall 31 = .ok (.ireturn, 1) := by decide +kernel
theorem dX7_readsCrushed_0 : decode cX7_readsCrushed 0 = .ok (.aload_n 0, 1) := by decide +kernel
theorem dX7_readsCrushed_1 : decode cX7_readsCrushed 1 = .ok (.invokevirtual 191, 3) := by decide +kernel
theorem dX7_readsCrushed_4 : decode cX7_readsCrushed 4 = .ok (.istore_n 1, 1) := by decide +kernel
theorem dX7_readsCrushed_5 : decode cX7_readsCrushed 5 = .ok (.aload_n 0, 1) := by decide +kernel
theorem dX7_readsCrushed_6 : decode cX7_readsCrushed 6 = .ok (.getfield 188, 3) := by decide +kernel
theorem dX7_readsCrushed_9 : decode cX7_readsCrushed 9 = .ok (.istore_n 2, 1) := by decide +kernel
theorem dX7_readsCrushed_10 : decode cX7_readsCrushed 10 = .ok (.iload_n 1, 1) := by decide +kernel
theorem dX7_readsCrushed_11 : decode cX7_readsCrushed 11 = .ok (.iconst (-1), 1) := by decide +kernel
theorem dX7_readsCrushed_12 : decode cX7_readsCrushed 12 = .ok (.if_icmp .eq 13, 3) := by decide +kernel
theorem dX7_readsCrushed_15 : decode cX7_readsCrushed 15 = .ok (.aload_n 0, 1) := by decide +kernel
theorem dX7_readsCrushed_16 : decode cX7_readsCrushed 16 = .ok (.sipush 999, 3) := by decide +kernel
theorem dX7_readsCrushed_19 : decode cX7_readsCrushed 19 = .ok (.invokevirtual 197, 3) := by decide +kernel
theorem dX7_readsCrushed_22 : decode cX7_readsCrushed 22 = .ok (.ifCond .ne 5, 3) := by decide +kernel
theorem dX7_readsCrushed_25 : decode cX7_readsCrushed 25 = .ok (.iconst 0, 1) := by decide +kernel
theorem dX7_readsCrushed_26 : decode cX7_readsCrushed 26 = .ok (.ireturn, 1) := by decide +kernel
theorem dX7_readsCrushed_27 : decode cX7_readsCrushed 27 = .ok (.aload_n 0, 1) := by decide +kernel
theorem dX7_readsCrushed_28 : decode cX7_readsCrushed 28 = .ok (.aload_n 0, 1) := by decide +kernel
theorem dX7_readsCrushed_29 : decode cX7_readsCrushed 29 = .ok (.getfield 194, 3) := by decide +kernel
theorem dX7_readsCrushed_32 : decode cX7_readsCrushed 32 = .ok (.invokevirtual 110, 3) := by decide +kernel
theorem dX7_readsCrushed_35 : decode cX7_readsCrushed 35 = .ok (.ifCond .eq 14, 3) := by decide +kernel
theorem dX7_readsCrushed_38 : decode cX7_readsCrushed 38 = .ok (.aload_n 0, 1) := by decide +kernel
theorem dX7_readsCrushed_39 : decode cX7_readsCrushed 39 = .ok (.aload_n 0, 1) := by decide +kernel
theorem dX7_readsCrushed_40 : decode cX7_readsCrushed 40 = .ok (.getfield 194, 3) := by decide +kernel
theorem dX7_readsCrushed_43 : decode cX7_readsCrushed 43 = .ok (.invokevirtual 145, 3) := by decide +kernel
theorem dX7_readsCrushed_46 : decode cX7_readsCrushed 46 = .ok (.ifCond .ne 10, 3) := by decide +kernel
theorem dX7_readsCrushed_49 : decode cX7_readsCrushed 49 = .ok (.aload_n 0, 1) := by decide +kernel
theorem dX7_readsCrushed_50 : decode cX7_readsCrushed 50 = .ok (.iload_n 2, 1) := by decide +kernel
theorem dX7_readsCrushed_51 : decode cX7_readsCrushed 51 = .ok (.putfield 188, 3) := by decide +kernel
theorem dX7_readsCrushed_54 : decode cX7_readsCrushed 54 = .ok (.iconst 0, 1) := by decide +kernel
theorem dX7_readsCrushed_55 : decode cX7_readsCrushed 55 = .ok (.ireturn, 1) := by decide +kernel
theorem dX7_readsCrushed_56 : decode cX7_readsCrushed 56 = .ok (.aload_n 0, 1) := by decide +kernel
theorem dX7_readsCrushed_57 : decode cX7_readsCrushed 57 = .ok (.dup, 1) := by decide +kernel
theorem dX7_readsCrushed_58 : decode cX7_readsCrushed 58 = .ok (.getfield 53, 3) := by decide +kernel
theorem dX7_readsCrushed_61 : decode cX7_readsCrushed 61 = .ok (.iconst 1, 1) := by decide +kernel
theorem dX7_readsCrushed_62 : decode cX7_readsCrushed 62 = .ok (.aload_n 0, 1) := by decide +kernel
theorem dX7_readsCrushed_63 : decode cX7_readsCrushed 63 = .ok (.getfield 194, 3) := by decide +kernel
theorem dX7_readsCrushed_66 : decode cX7_readsCrushed 66 = .ok (.ishl, 1) := by decide +kernel
theorem dX7_readsCrushed_67 : decode cX7_readsCrushed 67 = .ok (.iconst (-1), 1) := by decide +kernel
theorem dX7_readsCrushed_68 : decode cX7_readsCrushed 68 = .ok (.ixor, 1) := by decide +kernel
theorem dX7_readsCrushed_69 : decode cX7_readsCrushed 69 = .ok (.iand, 1) := by decide +kernel
theorem dX7_readsCrushed_70 : decode cX7_readsCrushed 70 = .ok (.putfield 53, 3) := by decide +kernel
theorem dX7_readsCrushed_73 : decode cX7_readsCrushed 73 = .ok (.aload_n 0, 1) := by decide +kernel
theorem dX7_readsCrushed_74 : decode cX7_readsCrushed 74 = .ok (.invokevirtual 207, 3) := by decide +kernel
theorem dX7_readsCrushed_77 : decode cX7_readsCrushed 77 = .ok (.ireturn, 1) := by decide +kernel
theorem dX7_readsRun_0 : decode cX7_readsRun 0 = .ok (.aload_n 0, 1) := by decide +kernel
theorem dX7_readsRun_1 : decode cX7_readsRun 1 = .ok (.invokevirtual 207, 3) := by decide +kernel
theorem dX7_readsRun_4 : decode cX7_readsRun 4 = .ok (.ifCond .ne 5, 3) := by decide +kernel
theorem dX7_readsRun_7 : decode cX7_readsRun 7 = .ok (.iconst 0, 1) := by decide +kernel
theorem dX7_readsRun_8 : decode cX7_readsRun 8 = .ok (.ireturn, 1) := by decide +kernel
theorem dX7_readsRun_9 : decode cX7_readsRun 9 = .ok (.aload_n 0, 1) := by decide +kernel
theorem dX7_readsRun_10 : decode cX7_readsRun 10 = .ok (.invokevirtual 167, 3) := by decide +kernel
theorem dX7_readsRun_13 : decode cX7_readsRun 13 = .ok (.iconst 1, 1) := by decide +kernel
theorem dX7_readsRun_14 : decode cX7_readsRun 14 = .ok (.ireturn, 1) := by decide +kernel
theorem dX7_readsOrder_0 : decode cX7_readsOrder 0 = .ok (.aload_n 0, 1) := by decide +kernel
theorem dX7_readsOrder_1 : decode cX7_readsOrder 1 = .ok (.invokevirtual 191, 3) := by decide +kernel
theorem dX7_readsOrder_4 : decode cX7_readsOrder 4 = .ok (.istore_n 1, 1) := by decide +kernel
theorem dX7_readsOrder_5 : decode cX7_readsOrder 5 = .ok (.aload_n 0, 1) := by decide +kernel
theorem dX7_readsOrder_6 : decode cX7_readsOrder 6 = .ok (.getfield 188, 3) := by decide +kernel
theorem dX7_readsOrder_9 : decode cX7_readsOrder 9 = .ok (.istore_n 2, 1) := by decide +kernel
theorem dX7_readsOrder_10 : decode cX7_readsOrder 10 = .ok (.aload_n 0, 1) := by decide +kernel
theorem dX7_readsOrder_11 : decode cX7_readsOrder 11 = .ok (.dup, 1) := by decide +kernel
theorem dX7_readsOrder_12 : decode cX7_readsOrder 12 = .ok (.getfield 188, 3) := by decide +kernel
theorem dX7_readsOrder_15 : decode cX7_readsOrder 15 = .ok (.iconst 1, 1) := by decide +kernel
theorem dX7_readsOrder_16 : decode cX7_readsOrder 16 = .ok (.iadd, 1) := by decide +kernel
theorem dX7_readsOrder_17 : decode cX7_readsOrder 17 = .ok (.putfield 188, 3) := by decide +kernel
theorem dX7_readsOrder_20 : decode cX7_readsOrder 20 = .ok (.iload_n 1, 1) := by decide +kernel
theorem dX7_readsOrder_21 : decode cX7_readsOrder 21 = .ok (.lookupswitch 97 #[(33, 92), (45, 70), (47, 78), (112, 59), (119, 65), (120, 87)], 59) := by decide +kernel
theorem dX7_readsOrder_80 : decode cX7_readsOrder 80 = .ok (.aload_n 0, 1) := by decide +kernel
theorem dX7_readsOrder_81 : decode cX7_readsOrder 81 = .ok (.iload_n 2, 1) := by decide +kernel
theorem dX7_readsOrder_82 : decode cX7_readsOrder 82 = .ok (.invokevirtual 210, 3) := by decide +kernel
theorem dX7_readsOrder_85 : decode cX7_readsOrder 85 = .ok (.ireturn, 1) := by decide +kernel
theorem dX7_readsOrder_86 : decode cX7_readsOrder 86 = .ok (.aload_n 0, 1) := by decide +kernel
theorem dX7_readsOrder_87 : decode cX7_readsOrder 87 = .ok (.invokevirtual 213, 3) := by decide +kernel
theorem dX7_readsOrder_90 : decode cX7_readsOrder 90 = .ok (.ireturn, 1) := by decide +kernel
theorem dX7_readsOrder_91 : decode cX7_readsOrder 91 = .ok (.aload_n 0, 1) := by decide +kernel
theorem dX7_readsOrder_92 : decode cX7_readsOrder 92 = .ok (.iconst 0, 1) := by decide +kernel
theorem dX7_readsOrder_93 : decode cX7_readsOrder 93 = .ok (.bipush 6, 2) := by decide +kernel
theorem dX7_readsOrder_95 : decode cX7_readsOrder 95 = .ok (.invokevirtual 216, 3) := by decide +kernel
theorem dX7_readsOrder_98 : decode cX7_readsOrder 98 = .ok (.ireturn, 1) := by decide +kernel
theorem dX7_readsOrder_99 : decode cX7_readsOrder 99 = .ok (.aload_n 0, 1) := by decide +kernel
theorem dX7_readsOrder_100 : decode cX7_readsOrder 100 = .ok (.bipush 10, 2) := by decide +kernel
theorem dX7_readsOrder_102 : decode cX7_readsOrder 102 = .ok (.bipush 10, 2) := by decide +kernel
theorem dX7_readsOrder_104 : decode cX7_readsOrder 104 = .ok (.invokevirtual 216, 3) := by decide +kernel
theorem dX7_readsOrder_107 : decode cX7_readsOrder 107 = .ok (.ireturn, 1) := by decide +kernel
theorem dX7_readsOrder_108 : decode cX7_readsOrder 108 = .ok (.aload_n 0, 1) := by decide +kernel
theorem dX7_readsOrder_109 : decode cX7_readsOrder 109 = .ok (.invokevirtual 219, 3) := by decide +kernel
theorem dX7_readsOrder_112 : decode cX7_readsOrder 112 = .ok (.ireturn, 1) := by decide +kernel
theorem dX7_readsOrder_113 : decode cX7_readsOrder 113 = .ok (.aload_n 0, 1) := by decide +kernel
theorem dX7_readsOrder_114 : decode cX7_readsOrder 114 = .ok (.invokevirtual 222, 3) := by decide +kernel
theorem dX7_readsOrder_117 : decode cX7_readsOrder 117 = .ok (.ireturn, 1) := by decide +kernel
theorem dX7_readsOrder_118 : decode cX7_readsOrder 118 = .ok (.aload_n 0, 1) := by decide +kernel
theorem dX7_readsOrder_119 : decode cX7_readsOrder 119 = .ok (.iload_n 2, 1) := by decide +kernel
theorem dX7_readsOrder_120 : decode cX7_readsOrder 120 = .ok (.putfield 188, 3) := by decide +kernel
theorem dX7_readsOrder_123 : decode cX7_readsOrder 123 = .ok (.iconst 0, 1) := by decide +kernel
theorem dX7_readsOrder_124 : decode cX7_readsOrder 124 = .ok (.ireturn, 1) := by decide +kernel
theorem dX7_keepsAhead_0 : decode cX7_keepsAhead 0 = .ok (.aload_n 0, 1) := by decide +kernel
theorem dX7_keepsAhead_1 : decode cX7_keepsAhead 1 = .ok (.getfield 46, 3) := by decide +kernel
theorem dX7_keepsAhead_4 : decode cX7_keepsAhead 4 = .ok (.iconst 0, 1) := by decide +kernel
theorem dX7_keepsAhead_5 : decode cX7_keepsAhead 5 = .ok (.aload_n 0, 1) := by decide +kernel
theorem dX7_keepsAhead_6 : decode cX7_keepsAhead 6 = .ok (.getfield 49, 3) := by decide +kernel
theorem dX7_keepsAhead_9 : decode cX7_keepsAhead 9 = .ok (.iastore, 1) := by decide +kernel
theorem dX7_keepsAhead_10 : decode cX7_keepsAhead 10 = .ok (.aload_n 0, 1) := by decide +kernel
theorem dX7_keepsAhead_11 : decode cX7_keepsAhead 11 = .ok (.getfield 46, 3) := by decide +kernel
theorem dX7_keepsAhead_14 : decode cX7_keepsAhead 14 = .ok (.iconst 1, 1) := by decide +kernel
theorem dX7_keepsAhead_15 : decode cX7_keepsAhead 15 = .ok (.aload_n 0, 1) := by decide +kernel
theorem dX7_keepsAhead_16 : decode cX7_keepsAhead 16 = .ok (.getfield 53, 3) := by decide +kernel
theorem dX7_keepsAhead_19 : decode cX7_keepsAhead 19 = .ok (.iastore, 1) := by decide +kernel
theorem dX7_keepsAhead_20 : decode cX7_keepsAhead 20 = .ok (.aload_n 0, 1) := by decide +kernel
theorem dX7_keepsAhead_21 : decode cX7_keepsAhead 21 = .ok (.getfield 46, 3) := by decide +kernel
theorem dX7_keepsAhead_24 : decode cX7_keepsAhead 24 = .ok (.iconst 2, 1) := by decide +kernel
theorem dX7_keepsAhead_25 : decode cX7_keepsAhead 25 = .ok (.aload_n 0, 1) := by decide +kernel
theorem dX7_keepsAhead_26 : decode cX7_keepsAhead 26 = .ok (.getfield 56, 3) := by decide +kernel
theorem dX7_keepsAhead_29 : decode cX7_keepsAhead 29 = .ok (.iastore, 1) := by decide +kernel
theorem dX7_keepsAhead_30 : decode cX7_keepsAhead 30 = .ok (.iconst 0, 1) := by decide +kernel
theorem dX7_keepsAhead_31 : decode cX7_keepsAhead 31 = .ok (.istore_n 1, 1) := by decide +kernel
theorem dX7_keepsAhead_32 : decode cX7_keepsAhead 32 = .ok (.iload_n 1, 1) := by decide +kernel
theorem dX7_keepsAhead_33 : decode cX7_keepsAhead 33 = .ok (.bipush 12, 2) := by decide +kernel
theorem dX7_keepsAhead_35 : decode cX7_keepsAhead 35 = .ok (.if_icmp .ge 38, 3) := by decide +kernel
theorem dX7_keepsAhead_38 : decode cX7_keepsAhead 38 = .ok (.aload_n 0, 1) := by decide +kernel
theorem dX7_keepsAhead_39 : decode cX7_keepsAhead 39 = .ok (.getfield 46, 3) := by decide +kernel
theorem dX7_keepsAhead_42 : decode cX7_keepsAhead 42 = .ok (.iconst 4, 1) := by decide +kernel
theorem dX7_keepsAhead_43 : decode cX7_keepsAhead 43 = .ok (.iload_n 1, 1) := by decide +kernel
theorem dX7_keepsAhead_44 : decode cX7_keepsAhead 44 = .ok (.iadd, 1) := by decide +kernel
theorem dX7_keepsAhead_45 : decode cX7_keepsAhead 45 = .ok (.aload_n 0, 1) := by decide +kernel
theorem dX7_keepsAhead_46 : decode cX7_keepsAhead 46 = .ok (.getfield 16, 3) := by decide +kernel
theorem dX7_keepsAhead_49 : decode cX7_keepsAhead 49 = .ok (.iload_n 1, 1) := by decide +kernel
theorem dX7_keepsAhead_50 : decode cX7_keepsAhead 50 = .ok (.iaload, 1) := by decide +kernel
theorem dX7_keepsAhead_51 : decode cX7_keepsAhead 51 = .ok (.iastore, 1) := by decide +kernel
theorem dX7_keepsAhead_52 : decode cX7_keepsAhead 52 = .ok (.aload_n 0, 1) := by decide +kernel
theorem dX7_keepsAhead_53 : decode cX7_keepsAhead 53 = .ok (.getfield 46, 3) := by decide +kernel
theorem dX7_keepsAhead_56 : decode cX7_keepsAhead 56 = .ok (.bipush 16, 2) := by decide +kernel
theorem dX7_keepsAhead_58 : decode cX7_keepsAhead 58 = .ok (.iload_n 1, 1) := by decide +kernel
theorem dX7_keepsAhead_59 : decode cX7_keepsAhead 59 = .ok (.iadd, 1) := by decide +kernel
theorem dX7_keepsAhead_60 : decode cX7_keepsAhead 60 = .ok (.aload_n 0, 1) := by decide +kernel
theorem dX7_keepsAhead_61 : decode cX7_keepsAhead 61 = .ok (.getfield 19, 3) := by decide +kernel
theorem dX7_keepsAhead_64 : decode cX7_keepsAhead 64 = .ok (.iload_n 1, 1) := by decide +kernel
theorem dX7_keepsAhead_65 : decode cX7_keepsAhead 65 = .ok (.iaload, 1) := by decide +kernel
theorem dX7_keepsAhead_66 : decode cX7_keepsAhead 66 = .ok (.iastore, 1) := by decide +kernel
theorem dX7_keepsAhead_67 : decode cX7_keepsAhead 67 = .ok (.iinc 1 1, 3) := by decide +kernel
theorem dX7_keepsAhead_70 : decode cX7_keepsAhead 70 = .ok (.goto (-38), 3) := by decide +kernel
theorem dX7_keepsAhead_73 : decode cX7_keepsAhead 73 = .ok (.iconst 0, 1) := by decide +kernel
theorem dX7_keepsAhead_74 : decode cX7_keepsAhead 74 = .ok (.istore_n 1, 1) := by decide +kernel
theorem dX7_keepsAhead_75 : decode cX7_keepsAhead 75 = .ok (.iload_n 1, 1) := by decide +kernel
theorem dX7_keepsAhead_76 : decode cX7_keepsAhead 76 = .ok (.bipush 96, 2) := by decide +kernel
theorem dX7_keepsAhead_78 : decode cX7_keepsAhead 78 = .ok (.if_icmp .ge 24, 3) := by decide +kernel
theorem dX7_keepsAhead_81 : decode cX7_keepsAhead 81 = .ok (.aload_n 0, 1) := by decide +kernel
theorem dX7_keepsAhead_82 : decode cX7_keepsAhead 82 = .ok (.getfield 46, 3) := by decide +kernel
theorem dX7_keepsAhead_85 : decode cX7_keepsAhead 85 = .ok (.bipush 28, 2) := by decide +kernel
theorem dX7_keepsAhead_87 : decode cX7_keepsAhead 87 = .ok (.iload_n 1, 1) := by decide +kernel
theorem dX7_keepsAhead_88 : decode cX7_keepsAhead 88 = .ok (.iadd, 1) := by decide +kernel
theorem dX7_keepsAhead_89 : decode cX7_keepsAhead 89 = .ok (.aload_n 0, 1) := by decide +kernel
theorem dX7_keepsAhead_90 : decode cX7_keepsAhead 90 = .ok (.getfield 13, 3) := by decide +kernel
theorem dX7_keepsAhead_93 : decode cX7_keepsAhead 93 = .ok (.iload_n 1, 1) := by decide +kernel
theorem dX7_keepsAhead_94 : decode cX7_keepsAhead 94 = .ok (.iaload, 1) := by decide +kernel
theorem dX7_keepsAhead_95 : decode cX7_keepsAhead 95 = .ok (.iastore, 1) := by decide +kernel
theorem dX7_keepsAhead_96 : decode cX7_keepsAhead 96 = .ok (.iinc 1 1, 3) := by decide +kernel
theorem dX7_keepsAhead_99 : decode cX7_keepsAhead 99 = .ok (.goto (-24), 3) := by decide +kernel
theorem dX7_keepsAhead_102 : decode cX7_keepsAhead 102 = .ok (.aload_n 0, 1) := by decide +kernel
theorem dX7_keepsAhead_103 : decode cX7_keepsAhead 103 = .ok (.aload_n 0, 1) := by decide +kernel
theorem dX7_keepsAhead_104 : decode cX7_keepsAhead 104 = .ok (.getfield 139, 3) := by decide +kernel
theorem dX7_keepsAhead_107 : decode cX7_keepsAhead 107 = .ok (.putfield 225, 3) := by decide +kernel
theorem dX7_keepsAhead_110 : decode cX7_keepsAhead 110 = .ok (.iconst 0, 1) := by decide +kernel
theorem dX7_keepsAhead_111 : decode cX7_keepsAhead 111 = .ok (.istore_n 1, 1) := by decide +kernel
theorem dX7_keepsAhead_112 : decode cX7_keepsAhead 112 = .ok (.iload_n 1, 1) := by decide +kernel
theorem dX7_keepsAhead_113 : decode cX7_keepsAhead 113 = .ok (.bipush 13, 2) := by decide +kernel
theorem dX7_keepsAhead_115 : decode cX7_keepsAhead 115 = .ok (.if_icmp .ge 21, 3) := by decide +kernel
theorem dX7_keepsAhead_118 : decode cX7_keepsAhead 118 = .ok (.aload_n 0, 1) := by decide +kernel
theorem dX7_keepsAhead_119 : decode cX7_keepsAhead 119 = .ok (.getfield 43, 3) := by decide +kernel
theorem dX7_keepsAhead_122 : decode cX7_keepsAhead 122 = .ok (.iload_n 1, 1) := by decide +kernel
theorem dX7_keepsAhead_123 : decode cX7_keepsAhead 123 = .ok (.aload_n 0, 1) := by decide +kernel
theorem dX7_keepsAhead_124 : decode cX7_keepsAhead 124 = .ok (.getfield 37, 3) := by decide +kernel
theorem dX7_keepsAhead_127 : decode cX7_keepsAhead 127 = .ok (.iload_n 1, 1) := by decide +kernel
theorem dX7_keepsAhead_128 : decode cX7_keepsAhead 128 = .ok (.iaload, 1) := by decide +kernel
theorem dX7_keepsAhead_129 : decode cX7_keepsAhead 129 = .ok (.iastore, 1) := by decide +kernel
theorem dX7_keepsAhead_130 : decode cX7_keepsAhead 130 = .ok (.iinc 1 1, 3) := by decide +kernel
theorem dX7_keepsAhead_133 : decode cX7_keepsAhead 133 = .ok (.goto (-21), 3) := by decide +kernel
theorem dX7_keepsAhead_136 : decode cX7_keepsAhead 136 = .ok (.return_, 1) := by decide +kernel
theorem dX7_asAhead_0 : decode cX7_asAhead 0 = .ok (.aload_n 0, 1) := by decide +kernel
theorem dX7_asAhead_1 : decode cX7_asAhead 1 = .ok (.aload_n 0, 1) := by decide +kernel
theorem dX7_asAhead_2 : decode cX7_asAhead 2 = .ok (.getfield 46, 3) := by decide +kernel
theorem dX7_asAhead_5 : decode cX7_asAhead 5 = .ok (.iconst 0, 1) := by decide +kernel
theorem dX7_asAhead_6 : decode cX7_asAhead 6 = .ok (.iaload, 1) := by decide +kernel
theorem dX7_asAhead_7 : decode cX7_asAhead 7 = .ok (.putfield 49, 3) := by decide +kernel
theorem dX7_asAhead_10 : decode cX7_asAhead 10 = .ok (.aload_n 0, 1) := by decide +kernel
theorem dX7_asAhead_11 : decode cX7_asAhead 11 = .ok (.aload_n 0, 1) := by decide +kernel
theorem dX7_asAhead_12 : decode cX7_asAhead 12 = .ok (.getfield 46, 3) := by decide +kernel
theorem dX7_asAhead_15 : decode cX7_asAhead 15 = .ok (.iconst 1, 1) := by decide +kernel
theorem dX7_asAhead_16 : decode cX7_asAhead 16 = .ok (.iaload, 1) := by decide +kernel
theorem dX7_asAhead_17 : decode cX7_asAhead 17 = .ok (.putfield 53, 3) := by decide +kernel
theorem dX7_asAhead_20 : decode cX7_asAhead 20 = .ok (.aload_n 0, 1) := by decide +kernel
theorem dX7_asAhead_21 : decode cX7_asAhead 21 = .ok (.aload_n 0, 1) := by decide +kernel
theorem dX7_asAhead_22 : decode cX7_asAhead 22 = .ok (.getfield 46, 3) := by decide +kernel
theorem dX7_asAhead_25 : decode cX7_asAhead 25 = .ok (.iconst 2, 1) := by decide +kernel
theorem dX7_asAhead_26 : decode cX7_asAhead 26 = .ok (.iaload, 1) := by decide +kernel
theorem dX7_asAhead_27 : decode cX7_asAhead 27 = .ok (.putfield 56, 3) := by decide +kernel
theorem dX7_asAhead_30 : decode cX7_asAhead 30 = .ok (.iconst 0, 1) := by decide +kernel
theorem dX7_asAhead_31 : decode cX7_asAhead 31 = .ok (.istore_n 1, 1) := by decide +kernel
theorem dX7_asAhead_32 : decode cX7_asAhead 32 = .ok (.iload_n 1, 1) := by decide +kernel
theorem dX7_asAhead_33 : decode cX7_asAhead 33 = .ok (.bipush 12, 2) := by decide +kernel
theorem dX7_asAhead_35 : decode cX7_asAhead 35 = .ok (.if_icmp .ge 38, 3) := by decide +kernel
theorem dX7_asAhead_38 : decode cX7_asAhead 38 = .ok (.aload_n 0, 1) := by decide +kernel
theorem dX7_asAhead_39 : decode cX7_asAhead 39 = .ok (.getfield 16, 3) := by decide +kernel
theorem dX7_asAhead_42 : decode cX7_asAhead 42 = .ok (.iload_n 1, 1) := by decide +kernel
theorem dX7_asAhead_43 : decode cX7_asAhead 43 = .ok (.aload_n 0, 1) := by decide +kernel
theorem dX7_asAhead_44 : decode cX7_asAhead 44 = .ok (.getfield 46, 3) := by decide +kernel
theorem dX7_asAhead_47 : decode cX7_asAhead 47 = .ok (.iconst 4, 1) := by decide +kernel
theorem dX7_asAhead_48 : decode cX7_asAhead 48 = .ok (.iload_n 1, 1) := by decide +kernel
theorem dX7_asAhead_49 : decode cX7_asAhead 49 = .ok (.iadd, 1) := by decide +kernel
theorem dX7_asAhead_50 : decode cX7_asAhead 50 = .ok (.iaload, 1) := by decide +kernel
theorem dX7_asAhead_51 : decode cX7_asAhead 51 = .ok (.iastore, 1) := by decide +kernel
theorem dX7_asAhead_52 : decode cX7_asAhead 52 = .ok (.aload_n 0, 1) := by decide +kernel
theorem dX7_asAhead_53 : decode cX7_asAhead 53 = .ok (.getfield 19, 3) := by decide +kernel
theorem dX7_asAhead_56 : decode cX7_asAhead 56 = .ok (.iload_n 1, 1) := by decide +kernel
theorem dX7_asAhead_57 : decode cX7_asAhead 57 = .ok (.aload_n 0, 1) := by decide +kernel
theorem dX7_asAhead_58 : decode cX7_asAhead 58 = .ok (.getfield 46, 3) := by decide +kernel
theorem dX7_asAhead_61 : decode cX7_asAhead 61 = .ok (.bipush 16, 2) := by decide +kernel
theorem dX7_asAhead_63 : decode cX7_asAhead 63 = .ok (.iload_n 1, 1) := by decide +kernel
theorem dX7_asAhead_64 : decode cX7_asAhead 64 = .ok (.iadd, 1) := by decide +kernel
theorem dX7_asAhead_65 : decode cX7_asAhead 65 = .ok (.iaload, 1) := by decide +kernel
theorem dX7_asAhead_66 : decode cX7_asAhead 66 = .ok (.iastore, 1) := by decide +kernel
theorem dX7_asAhead_67 : decode cX7_asAhead 67 = .ok (.iinc 1 1, 3) := by decide +kernel
theorem dX7_asAhead_70 : decode cX7_asAhead 70 = .ok (.goto (-38), 3) := by decide +kernel
theorem dX7_asAhead_73 : decode cX7_asAhead 73 = .ok (.iconst 0, 1) := by decide +kernel
theorem dX7_asAhead_74 : decode cX7_asAhead 74 = .ok (.istore_n 1, 1) := by decide +kernel
theorem dX7_asAhead_75 : decode cX7_asAhead 75 = .ok (.iload_n 1, 1) := by decide +kernel
theorem dX7_asAhead_76 : decode cX7_asAhead 76 = .ok (.bipush 96, 2) := by decide +kernel
theorem dX7_asAhead_78 : decode cX7_asAhead 78 = .ok (.if_icmp .ge 24, 3) := by decide +kernel
theorem dX7_asAhead_81 : decode cX7_asAhead 81 = .ok (.aload_n 0, 1) := by decide +kernel
theorem dX7_asAhead_82 : decode cX7_asAhead 82 = .ok (.getfield 13, 3) := by decide +kernel
theorem dX7_asAhead_85 : decode cX7_asAhead 85 = .ok (.iload_n 1, 1) := by decide +kernel
theorem dX7_asAhead_86 : decode cX7_asAhead 86 = .ok (.aload_n 0, 1) := by decide +kernel
theorem dX7_asAhead_87 : decode cX7_asAhead 87 = .ok (.getfield 46, 3) := by decide +kernel
theorem dX7_asAhead_90 : decode cX7_asAhead 90 = .ok (.bipush 28, 2) := by decide +kernel
theorem dX7_asAhead_92 : decode cX7_asAhead 92 = .ok (.iload_n 1, 1) := by decide +kernel
theorem dX7_asAhead_93 : decode cX7_asAhead 93 = .ok (.iadd, 1) := by decide +kernel
theorem dX7_asAhead_94 : decode cX7_asAhead 94 = .ok (.iaload, 1) := by decide +kernel
theorem dX7_asAhead_95 : decode cX7_asAhead 95 = .ok (.iastore, 1) := by decide +kernel
theorem dX7_asAhead_96 : decode cX7_asAhead 96 = .ok (.iinc 1 1, 3) := by decide +kernel
theorem dX7_asAhead_99 : decode cX7_asAhead 99 = .ok (.goto (-24), 3) := by decide +kernel
theorem dX7_asAhead_102 : decode cX7_asAhead 102 = .ok (.return_, 1) := by decide +kernel
theorem dX7_does_0 : decode cX7_does 0 = .ok (.aload_n 0, 1) := by decide +kernel
theorem dX7_does_1 : decode cX7_does 1 = .ok (.iconst 0, 1) := by decide +kernel
theorem dX7_does_2 : decode cX7_does 2 = .ok (.putfield 188, 3) := by decide +kernel
theorem dX7_does_5 : decode cX7_does 5 = .ok (.aload_n 0, 1) := by decide +kernel
theorem dX7_does_6 : decode cX7_does 6 = .ok (.invokevirtual 191, 3) := by decide +kernel
theorem dX7_does_9 : decode cX7_does 9 = .ok (.iconst (-1), 1) := by decide +kernel
theorem dX7_does_10 : decode cX7_does 10 = .ok (.if_icmp .ne 11, 3) := by decide +kernel
theorem dX7_does_13 : decode cX7_does 13 = .ok (.bipush (-10), 2) := by decide +kernel
theorem dX7_does_15 : decode cX7_does 15 = .ok (.aload_n 0, 1) := by decide +kernel
theorem dX7_does_16 : decode cX7_does 16 = .ok (.getfield 185, 3) := by decide +kernel
theorem dX7_does_19 : decode cX7_does 19 = .ok (.isub, 1) := by decide +kernel
theorem dX7_does_20 : decode cX7_does 20 = .ok (.ireturn, 1) := by decide +kernel
theorem dX7_does_21 : decode cX7_does 21 = .ok (.aload_n 0, 1) := by decide +kernel
theorem dX7_does_22 : decode cX7_does 22 = .ok (.invokevirtual 228, 3) := by decide +kernel
theorem dX7_does_25 : decode cX7_does 25 = .ok (.iconst 1, 1) := by decide +kernel
theorem dX7_does_26 : decode cX7_does 26 = .ok (.istore_n 1, 1) := by decide +kernel
theorem dX7_does_27 : decode cX7_does 27 = .ok (.iload_n 1, 1) := by decide +kernel
theorem dX7_does_28 : decode cX7_does 28 = .ok (.ifCond .eq 19, 3) := by decide +kernel
theorem dX7_does_31 : decode cX7_does 31 = .ok (.aload_n 0, 1) := by decide +kernel
theorem dX7_does_32 : decode cX7_does 32 = .ok (.invokevirtual 191, 3) := by decide +kernel
theorem dX7_does_35 : decode cX7_does 35 = .ok (.iconst (-1), 1) := by decide +kernel
theorem dX7_does_36 : decode cX7_does 36 = .ok (.if_icmp .eq 11, 3) := by decide +kernel
theorem dX7_does_39 : decode cX7_does 39 = .ok (.aload_n 0, 1) := by decide +kernel
theorem dX7_does_40 : decode cX7_does 40 = .ok (.invokevirtual 231, 3) := by decide +kernel
theorem dX7_does_43 : decode cX7_does 43 = .ok (.istore_n 1, 1) := by decide +kernel
theorem dX7_does_44 : decode cX7_does 44 = .ok (.goto (-17), 3) := by decide +kernel
theorem dX7_does_47 : decode cX7_does 47 = .ok (.iload_n 1, 1) := by decide +kernel
theorem dX7_does_48 : decode cX7_does 48 = .ok (.ifCond .ne 49, 3) := by decide +kernel
theorem dX7_does_51 : decode cX7_does 51 = .ok (.aload_n 0, 1) := by decide +kernel
theorem dX7_does_52 : decode cX7_does 52 = .ok (.invokevirtual 234, 3) := by decide +kernel
theorem dX7_does_55 : decode cX7_does 55 = .ok (.aload_n 0, 1) := by decide +kernel
theorem dX7_does_56 : decode cX7_does 56 = .ok (.aload_n 0, 1) := by decide +kernel
theorem dX7_does_57 : decode cX7_does 57 = .ok (.getfield 225, 3) := by decide +kernel
theorem dX7_does_60 : decode cX7_does 60 = .ok (.putfield 139, 3) := by decide +kernel
theorem dX7_does_63 : decode cX7_does 63 = .ok (.iconst 0, 1) := by decide +kernel
theorem dX7_does_64 : decode cX7_does 64 = .ok (.istore_n 2, 1) := by decide +kernel
theorem dX7_does_65 : decode cX7_does 65 = .ok (.iload_n 2, 1) := by decide +kernel
theorem dX7_does_66 : decode cX7_does 66 = .ok (.bipush 13, 2) := by decide +kernel
theorem dX7_does_68 : decode cX7_does 68 = .ok (.if_icmp .ge 21, 3) := by decide +kernel
theorem dX7_does_71 : decode cX7_does 71 = .ok (.aload_n 0, 1) := by decide +kernel
theorem dX7_does_72 : decode cX7_does 72 = .ok (.getfield 37, 3) := by decide +kernel
theorem dX7_does_75 : decode cX7_does 75 = .ok (.iload_n 2, 1) := by decide +kernel
theorem dX7_does_76 : decode cX7_does 76 = .ok (.aload_n 0, 1) := by decide +kernel
theorem dX7_does_77 : decode cX7_does 77 = .ok (.getfield 43, 3) := by decide +kernel
theorem dX7_does_80 : decode cX7_does 80 = .ok (.iload_n 2, 1) := by decide +kernel
theorem dX7_does_81 : decode cX7_does 81 = .ok (.iaload, 1) := by decide +kernel
theorem dX7_does_82 : decode cX7_does 82 = .ok (.iastore, 1) := by decide +kernel
theorem dX7_does_83 : decode cX7_does 83 = .ok (.iinc 2 1, 3) := by decide +kernel
theorem dX7_does_86 : decode cX7_does 86 = .ok (.goto (-21), 3) := by decide +kernel
theorem dX7_does_89 : decode cX7_does 89 = .ok (.bipush (-10), 2) := by decide +kernel
theorem dX7_does_91 : decode cX7_does 91 = .ok (.aload_n 0, 1) := by decide +kernel
theorem dX7_does_92 : decode cX7_does 92 = .ok (.getfield 188, 3) := by decide +kernel
theorem dX7_does_95 : decode cX7_does 95 = .ok (.isub, 1) := by decide +kernel
theorem dX7_does_96 : decode cX7_does 96 = .ok (.ireturn, 1) := by decide +kernel
theorem dX7_does_97 : decode cX7_does 97 = .ok (.aload_n 0, 1) := by decide +kernel
theorem dX7_does_98 : decode cX7_does 98 = .ok (.invokevirtual 237, 3) := by decide +kernel
theorem dX7_does_101 : decode cX7_does 101 = .ok (.aload_n 0, 1) := by decide +kernel
theorem dX7_does_102 : decode cX7_does 102 = .ok (.getfield 53, 3) := by decide +kernel
theorem dX7_does_105 : decode cX7_does 105 = .ok (.invokestatic 117, 3) := by decide +kernel
theorem dX7_does_108 : decode cX7_does 108 = .ok (.ireturn, 1) := by decide +kernel
theorem dX7_leavesAhead_0 : decode cX7_leavesAhead 0 = .ok (.aload_n 0, 1) := by decide +kernel
theorem dX7_leavesAhead_1 : decode cX7_leavesAhead 1 = .ok (.invokevirtual 94, 3) := by decide +kernel
theorem dX7_leavesAhead_4 : decode cX7_leavesAhead 4 = .ok (.iconst 0, 1) := by decide +kernel
theorem dX7_leavesAhead_5 : decode cX7_leavesAhead 5 = .ok (.istore_n 1, 1) := by decide +kernel
theorem dX7_leavesAhead_6 : decode cX7_leavesAhead 6 = .ok (.iload_n 1, 1) := by decide +kernel
theorem dX7_leavesAhead_7 : decode cX7_leavesAhead 7 = .ok (.sipush 140, 3) := by decide +kernel
theorem dX7_leavesAhead_10 : decode cX7_leavesAhead 10 = .ok (.if_icmp .ge 32, 3) := by decide +kernel
theorem dX7_leavesAhead_13 : decode cX7_leavesAhead 13 = .ok (.aload_n 0, 1) := by decide +kernel
theorem dX7_leavesAhead_14 : decode cX7_leavesAhead 14 = .ok (.getfield 22, 3) := by decide +kernel
theorem dX7_leavesAhead_17 : decode cX7_leavesAhead 17 = .ok (.sipush 140, 3) := by decide +kernel
theorem dX7_leavesAhead_20 : decode cX7_leavesAhead 20 = .ok (.aload_n 0, 1) := by decide +kernel
theorem dX7_leavesAhead_21 : decode cX7_leavesAhead 21 = .ok (.getfield 59, 3) := by decide +kernel
theorem dX7_leavesAhead_24 : decode cX7_leavesAhead 24 = .ok (.iconst 1, 1) := by decide +kernel
theorem dX7_leavesAhead_25 : decode cX7_leavesAhead 25 = .ok (.isub, 1) := by decide +kernel
theorem dX7_leavesAhead_26 : decode cX7_leavesAhead 26 = .ok (.imul, 1) := by decide +kernel
theorem dX7_leavesAhead_27 : decode cX7_leavesAhead 27 = .ok (.iload_n 1, 1) := by decide +kernel
theorem dX7_leavesAhead_28 : decode cX7_leavesAhead 28 = .ok (.iadd, 1) := by decide +kernel
theorem dX7_leavesAhead_29 : decode cX7_leavesAhead 29 = .ok (.aload_n 0, 1) := by decide +kernel
theorem dX7_leavesAhead_30 : decode cX7_leavesAhead 30 = .ok (.getfield 46, 3) := by decide +kernel
theorem dX7_leavesAhead_33 : decode cX7_leavesAhead 33 = .ok (.iload_n 1, 1) := by decide +kernel
theorem dX7_leavesAhead_34 : decode cX7_leavesAhead 34 = .ok (.iaload, 1) := by decide +kernel
theorem dX7_leavesAhead_35 : decode cX7_leavesAhead 35 = .ok (.iastore, 1) := by decide +kernel
theorem dX7_leavesAhead_36 : decode cX7_leavesAhead 36 = .ok (.iinc 1 1, 3) := by decide +kernel
theorem dX7_leavesAhead_39 : decode cX7_leavesAhead 39 = .ok (.goto (-33), 3) := by decide +kernel
theorem dX7_leavesAhead_42 : decode cX7_leavesAhead 42 = .ok (.return_, 1) := by decide +kernel
theorem dX7_toldBy_0 : decode cX7_toldBy 0 = .ok (.iload_n 1, 1) := by decide +kernel
theorem dX7_toldBy_1 : decode cX7_toldBy 1 = .ok (.iconst 3, 1) := by decide +kernel
theorem dX7_toldBy_2 : decode cX7_toldBy 2 = .ok (.if_icmp .ge 12, 3) := by decide +kernel
theorem dX7_toldBy_5 : decode cX7_toldBy 5 = .ok (.aload_n 0, 1) := by decide +kernel
theorem dX7_toldBy_6 : decode cX7_toldBy 6 = .ok (.getfield 7, 3) := by decide +kernel
theorem dX7_toldBy_9 : decode cX7_toldBy 9 = .ok (.iload_n 1, 1) := by decide +kernel
theorem dX7_toldBy_10 : decode cX7_toldBy 10 = .ok (.iaload, 1) := by decide +kernel
theorem dX7_toldBy_11 : decode cX7_toldBy 11 = .ok (.goto 43, 3) := by decide +kernel
theorem dX7_toldBy_14 : decode cX7_toldBy 14 = .ok (.iload_n 1, 1) := by decide +kernel
theorem dX7_toldBy_15 : decode cX7_toldBy 15 = .ok (.iconst 3, 1) := by decide +kernel
theorem dX7_toldBy_16 : decode cX7_toldBy 16 = .ok (.if_icmp .ne 10, 3) := by decide +kernel
theorem dX7_toldBy_19 : decode cX7_toldBy 19 = .ok (.aload_n 0, 1) := by decide +kernel
theorem dX7_toldBy_20 : decode cX7_toldBy 20 = .ok (.getfield 185, 3) := by decide +kernel
theorem dX7_toldBy_23 : decode cX7_toldBy 23 = .ok (.goto 31, 3) := by decide +kernel
theorem dX7_toldBy_26 : decode cX7_toldBy 26 = .ok (.iload_n 1, 1) := by decide +kernel
theorem dX7_toldBy_27 : decode cX7_toldBy 27 = .ok (.iconst 4, 1) := by decide +kernel
theorem dX7_toldBy_28 : decode cX7_toldBy 28 = .ok (.if_icmp .ne 22, 3) := by decide +kernel
theorem dX7_toldBy_31 : decode cX7_toldBy 31 = .ok (.aload_n 0, 1) := by decide +kernel
theorem dX7_toldBy_32 : decode cX7_toldBy 32 = .ok (.iconst 0, 1) := by decide +kernel
theorem dX7_toldBy_33 : decode cX7_toldBy 33 = .ok (.bipush 7, 2) := by decide +kernel
theorem dX7_toldBy_35 : decode cX7_toldBy 35 = .ok (.invokevirtual 120, 3) := by decide +kernel
theorem dX7_toldBy_38 : decode cX7_toldBy 38 = .ok (.aload_n 0, 1) := by decide +kernel
theorem dX7_toldBy_39 : decode cX7_toldBy 39 = .ok (.bipush 10, 2) := by decide +kernel
theorem dX7_toldBy_41 : decode cX7_toldBy 41 = .ok (.bipush 11, 2) := by decide +kernel
theorem dX7_toldBy_43 : decode cX7_toldBy 43 = .ok (.invokevirtual 120, 3) := by decide +kernel
theorem dX7_toldBy_46 : decode cX7_toldBy 46 = .ok (.iadd, 1) := by decide +kernel
theorem dX7_toldBy_47 : decode cX7_toldBy 47 = .ok (.goto 7, 3) := by decide +kernel
theorem dX7_toldBy_50 : decode cX7_toldBy 50 = .ok (.aload_n 0, 1) := by decide +kernel
theorem dX7_toldBy_51 : decode cX7_toldBy 51 = .ok (.getfield 59, 3) := by decide +kernel
theorem dX7_toldBy_54 : decode cX7_toldBy 54 = .ok (.ireturn, 1) := by decide +kernel
theorem dX7_told_0 : decode cX7_told 0 = .ok (.iload_n 1, 1) := by decide +kernel
theorem dX7_told_1 : decode cX7_told 1 = .ok (.iconst 0, 1) := by decide +kernel
theorem dX7_told_2 : decode cX7_told 2 = .ok (.iconst 5, 1) := by decide +kernel
theorem dX7_told_3 : decode cX7_told 3 = .ok (.invokestatic 76, 3) := by decide +kernel
theorem dX7_told_6 : decode cX7_told 6 = .ok (.ifCond .eq 11, 3) := by decide +kernel
theorem dX7_told_9 : decode cX7_told 9 = .ok (.aload_n 0, 1) := by decide +kernel
theorem dX7_told_10 : decode cX7_told 10 = .ok (.iload_n 1, 1) := by decide +kernel
theorem dX7_told_11 : decode cX7_told 11 = .ok (.invokevirtual 240, 3) := by decide +kernel
theorem dX7_told_14 : decode cX7_told 14 = .ok (.goto 7, 3) := by decide +kernel
theorem dX7_told_17 : decode cX7_told 17 = .ok (.aload_n 0, 1) := by decide +kernel
theorem dX7_told_18 : decode cX7_told 18 = .ok (.invokevirtual 84, 3) := by decide +kernel
theorem dX7_told_21 : decode cX7_told 21 = .ok (.ireturn, 1) := by decide +kernel
theorem dX7_digest_0 : decode cX7_digest 0 = .ok (.ldc2_w 243, 3) := by decide +kernel
theorem dX7_digest_3 : decode cX7_digest 3 = .ok (.lstore_n 1, 1) := by decide +kernel
theorem dX7_digest_4 : decode cX7_digest 4 = .ok (.iconst 0, 1) := by decide +kernel
theorem dX7_digest_5 : decode cX7_digest 5 = .ok (.istore_n 3, 1) := by decide +kernel
theorem dX7_digest_6 : decode cX7_digest 6 = .ok (.iload_n 3, 1) := by decide +kernel
theorem dX7_digest_7 : decode cX7_digest 7 = .ok (.bipush 6, 2) := by decide +kernel
theorem dX7_digest_9 : decode cX7_digest 9 = .ok (.if_icmp .ge 22, 3) := by decide +kernel
theorem dX7_digest_12 : decode cX7_digest 12 = .ok (.ldc2_w 245, 3) := by decide +kernel
theorem dX7_digest_15 : decode cX7_digest 15 = .ok (.lload_n 1, 1) := by decide +kernel
theorem dX7_digest_16 : decode cX7_digest 16 = .ok (.lmul, 1) := by decide +kernel
theorem dX7_digest_17 : decode cX7_digest 17 = .ok (.aload_n 0, 1) := by decide +kernel
theorem dX7_digest_18 : decode cX7_digest 18 = .ok (.iload_n 3, 1) := by decide +kernel
theorem dX7_digest_19 : decode cX7_digest 19 = .ok (.invokevirtual 240, 3) := by decide +kernel
theorem dX7_digest_22 : decode cX7_digest 22 = .ok (.i2l, 1) := by decide +kernel
theorem dX7_digest_23 : decode cX7_digest 23 = .ok (.ladd, 1) := by decide +kernel
theorem dX7_digest_24 : decode cX7_digest 24 = .ok (.lstore_n 1, 1) := by decide +kernel
theorem dX7_digest_25 : decode cX7_digest 25 = .ok (.iinc 3 1, 3) := by decide +kernel
theorem dX7_digest_28 : decode cX7_digest 28 = .ok (.goto (-22), 3) := by decide +kernel
theorem dX7_digest_31 : decode cX7_digest 31 = .ok (.iconst 0, 1) := by decide +kernel
theorem dX7_digest_32 : decode cX7_digest 32 = .ok (.istore_n 3, 1) := by decide +kernel
theorem dX7_digest_33 : decode cX7_digest 33 = .ok (.iload_n 3, 1) := by decide +kernel
theorem dX7_digest_34 : decode cX7_digest 34 = .ok (.bipush 8, 2) := by decide +kernel
theorem dX7_digest_36 : decode cX7_digest 36 = .ok (.if_icmp .ge 22, 3) := by decide +kernel
theorem dX7_digest_39 : decode cX7_digest 39 = .ok (.ldc2_w 245, 3) := by decide +kernel
theorem dX7_digest_42 : decode cX7_digest 42 = .ok (.lload_n 1, 1) := by decide +kernel
theorem dX7_digest_43 : decode cX7_digest 43 = .ok (.lmul, 1) := by decide +kernel
theorem dX7_digest_44 : decode cX7_digest 44 = .ok (.aload_n 0, 1) := by decide +kernel
theorem dX7_digest_45 : decode cX7_digest 45 = .ok (.iload_n 3, 1) := by decide +kernel
theorem dX7_digest_46 : decode cX7_digest 46 = .ok (.invokevirtual 160, 3) := by decide +kernel
theorem dX7_digest_49 : decode cX7_digest 49 = .ok (.i2l, 1) := by decide +kernel
theorem dX7_digest_50 : decode cX7_digest 50 = .ok (.ladd, 1) := by decide +kernel
theorem dX7_digest_51 : decode cX7_digest 51 = .ok (.lstore_n 1, 1) := by decide +kernel
theorem dX7_digest_52 : decode cX7_digest 52 = .ok (.iinc 3 1, 3) := by decide +kernel
theorem dX7_digest_55 : decode cX7_digest 55 = .ok (.goto (-22), 3) := by decide +kernel
theorem dX7_digest_58 : decode cX7_digest 58 = .ok (.iconst 0, 1) := by decide +kernel
theorem dX7_digest_59 : decode cX7_digest 59 = .ok (.istore_n 3, 1) := by decide +kernel
theorem dX7_digest_60 : decode cX7_digest 60 = .ok (.iload_n 3, 1) := by decide +kernel
theorem dX7_digest_61 : decode cX7_digest 61 = .ok (.aload_n 0, 1) := by decide +kernel
theorem dX7_digest_62 : decode cX7_digest 62 = .ok (.getfield 49, 3) := by decide +kernel
theorem dX7_digest_65 : decode cX7_digest 65 = .ok (.if_icmp .ge 39, 3) := by decide +kernel
theorem dX7_digest_68 : decode cX7_digest 68 = .ok (.iconst 0, 1) := by decide +kernel
theorem dX7_digest_69 : decode cX7_digest 69 = .ok (.istore 4, 2) := by decide +kernel
theorem dX7_digest_71 : decode cX7_digest 71 = .ok (.iload 4, 2) := by decide +kernel
theorem dX7_digest_73 : decode cX7_digest 73 = .ok (.iconst 5, 1) := by decide +kernel
theorem dX7_digest_74 : decode cX7_digest 74 = .ok (.if_icmp .ge 24, 3) := by decide +kernel
theorem dX7_digest_77 : decode cX7_digest 77 = .ok (.ldc2_w 245, 3) := by decide +kernel
theorem dX7_digest_80 : decode cX7_digest 80 = .ok (.lload_n 1, 1) := by decide +kernel
theorem dX7_digest_81 : decode cX7_digest 81 = .ok (.lmul, 1) := by decide +kernel
theorem dX7_digest_82 : decode cX7_digest 82 = .ok (.aload_n 0, 1) := by decide +kernel
theorem dX7_digest_83 : decode cX7_digest 83 = .ok (.iload_n 3, 1) := by decide +kernel
theorem dX7_digest_84 : decode cX7_digest 84 = .ok (.iload 4, 2) := by decide +kernel
theorem dX7_digest_86 : decode cX7_digest 86 = .ok (.invokevirtual 148, 3) := by decide +kernel
theorem dX7_digest_89 : decode cX7_digest 89 = .ok (.i2l, 1) := by decide +kernel
theorem dX7_digest_90 : decode cX7_digest 90 = .ok (.ladd, 1) := by decide +kernel
theorem dX7_digest_91 : decode cX7_digest 91 = .ok (.lstore_n 1, 1) := by decide +kernel
theorem dX7_digest_92 : decode cX7_digest 92 = .ok (.iinc 4 1, 3) := by decide +kernel
theorem dX7_digest_95 : decode cX7_digest 95 = .ok (.goto (-24), 3) := by decide +kernel
theorem dX7_digest_98 : decode cX7_digest 98 = .ok (.iinc 3 1, 3) := by decide +kernel
theorem dX7_digest_101 : decode cX7_digest 101 = .ok (.goto (-41), 3) := by decide +kernel
theorem dX7_digest_104 : decode cX7_digest 104 = .ok (.iconst 0, 1) := by decide +kernel
theorem dX7_digest_105 : decode cX7_digest 105 = .ok (.istore_n 3, 1) := by decide +kernel
theorem dX7_digest_106 : decode cX7_digest 106 = .ok (.iload_n 3, 1) := by decide +kernel
theorem dX7_digest_107 : decode cX7_digest 107 = .ok (.bipush 96, 2) := by decide +kernel
theorem dX7_digest_109 : decode cX7_digest 109 = .ok (.if_icmp .ge 23, 3) := by decide +kernel
theorem dX7_digest_112 : decode cX7_digest 112 = .ok (.ldc2_w 245, 3) := by decide +kernel
theorem dX7_digest_115 : decode cX7_digest 115 = .ok (.lload_n 1, 1) := by decide +kernel
theorem dX7_digest_116 : decode cX7_digest 116 = .ok (.lmul, 1) := by decide +kernel
theorem dX7_digest_117 : decode cX7_digest 117 = .ok (.aload_n 0, 1) := by decide +kernel
theorem dX7_digest_118 : decode cX7_digest 118 = .ok (.getfield 13, 3) := by decide +kernel
theorem dX7_digest_121 : decode cX7_digest 121 = .ok (.iload_n 3, 1) := by decide +kernel
theorem dX7_digest_122 : decode cX7_digest 122 = .ok (.iaload, 1) := by decide +kernel
theorem dX7_digest_123 : decode cX7_digest 123 = .ok (.i2l, 1) := by decide +kernel
theorem dX7_digest_124 : decode cX7_digest 124 = .ok (.ladd, 1) := by decide +kernel
theorem dX7_digest_125 : decode cX7_digest 125 = .ok (.lstore_n 1, 1) := by decide +kernel
theorem dX7_digest_126 : decode cX7_digest 126 = .ok (.iinc 3 1, 3) := by decide +kernel
theorem dX7_digest_129 : decode cX7_digest 129 = .ok (.goto (-23), 3) := by decide +kernel
theorem dX7_digest_132 : decode cX7_digest 132 = .ok (.lload_n 1, 1) := by decide +kernel
theorem dX7_digest_133 : decode cX7_digest 133 = .ok (.lreturn, 1) := by decide +kernel
