theorem dX9_init_0 : decode cX9_init 0 = .ok (.aload_n 0, 1) := by decide +kernel
theorem dX9_init_1 : decode cX9_init 1 = .ok (.invokespecial 1, 3) := by decide +kernel
theorem dX9_init_4 : decode cX9_init 4 = .ok (.aload_n 0, 1) := by decide +kernel
theorem dX9_init_5 : decode cX9_init 5 = .ok (.sipush 200, 3) := by decide +kernel
theorem dX9_init_8 : decode cX9_init 8 = .ok (.newarray .int, 2) := by decide +kernel
theorem dX9_init_10 : decode cX9_init 10 = .ok (.putfield 7, 3) := by decide +kernel
theorem dX9_init_13 : decode cX9_init 13 = .ok (.aload_n 0, 1) := by decide +kernel
theorem dX9_init_14 : decode cX9_init 14 = .ok (.sipush 1370, 3) := by decide +kernel
theorem dX9_init_17 : decode cX9_init 17 = .ok (.newarray .int, 2) := by decide +kernel
theorem dX9_init_19 : decode cX9_init 19 = .ok (.putfield 13, 3) := by decide +kernel
theorem dX9_init_22 : decode cX9_init 22 = .ok (.aload_n 0, 1) := by decide +kernel
theorem dX9_init_23 : decode cX9_init 23 = .ok (.sipush 1370, 3) := by decide +kernel
theorem dX9_init_26 : decode cX9_init 26 = .ok (.newarray .int, 2) := by decide +kernel
theorem dX9_init_28 : decode cX9_init 28 = .ok (.putfield 16, 3) := by decide +kernel
theorem dX9_init_31 : decode cX9_init 31 = .ok (.aload_n 0, 1) := by decide +kernel
theorem dX9_init_32 : decode cX9_init 32 = .ok (.iconst 5, 1) := by decide +kernel
theorem dX9_init_33 : decode cX9_init 33 = .ok (.newarray .int, 2) := by decide +kernel
theorem dX9_init_35 : decode cX9_init 35 = .ok (.putfield 19, 3) := by decide +kernel
theorem dX9_init_38 : decode cX9_init 38 = .ok (.aload_n 0, 1) := by decide +kernel
theorem dX9_init_39 : decode cX9_init 39 = .ok (.iconst 5, 1) := by decide +kernel
theorem dX9_init_40 : decode cX9_init 40 = .ok (.newarray .int, 2) := by decide +kernel
theorem dX9_init_42 : decode cX9_init 42 = .ok (.putfield 22, 3) := by decide +kernel
theorem dX9_init_45 : decode cX9_init 45 = .ok (.aload_n 0, 1) := by decide +kernel
theorem dX9_init_46 : decode cX9_init 46 = .ok (.iconst 5, 1) := by decide +kernel
theorem dX9_init_47 : decode cX9_init 47 = .ok (.newarray .int, 2) := by decide +kernel
theorem dX9_init_49 : decode cX9_init 49 = .ok (.putfield 25, 3) := by decide +kernel
theorem dX9_init_52 : decode cX9_init 52 = .ok (.aload_n 0, 1) := by decide +kernel
theorem dX9_init_53 : decode cX9_init 53 = .ok (.bipush 60, 2) := by decide +kernel
theorem dX9_init_55 : decode cX9_init 55 = .ok (.newarray .int, 2) := by decide +kernel
theorem dX9_init_57 : decode cX9_init 57 = .ok (.putfield 28, 3) := by decide +kernel
theorem dX9_init_60 : decode cX9_init 60 = .ok (.aload_n 0, 1) := by decide +kernel
theorem dX9_init_61 : decode cX9_init 61 = .ok (.bipush 36, 2) := by decide +kernel
theorem dX9_init_63 : decode cX9_init 63 = .ok (.newarray .int, 2) := by decide +kernel
theorem dX9_init_65 : decode cX9_init 65 = .ok (.dup, 1) := by decide +kernel
theorem dX9_init_66 : decode cX9_init 66 = .ok (.iconst 0, 1) := by decide +kernel
theorem dX9_init_67 : decode cX9_init 67 = .ok (.bipush 115, 2) := by decide +kernel
theorem dX9_init_69 : decode cX9_init 69 = .ok (.iastore, 1) := by decide +kernel
theorem dX9_init_70 : decode cX9_init 70 = .ok (.dup, 1) := by decide +kernel
theorem dX9_init_71 : decode cX9_init 71 = .ok (.iconst 1, 1) := by decide +kernel
theorem dX9_init_72 : decode cX9_init 72 = .ok (.iconst 0, 1) := by decide +kernel
theorem dX9_init_73 : decode cX9_init 73 = .ok (.iastore, 1) := by decide +kernel
theorem dX9_init_74 : decode cX9_init 74 = .ok (.dup, 1) := by decide +kernel
theorem dX9_init_75 : decode cX9_init 75 = .ok (.iconst 2, 1) := by decide +kernel
theorem dX9_init_76 : decode cX9_init 76 = .ok (.iconst 1, 1) := by decide +kernel
theorem dX9_init_77 : decode cX9_init 77 = .ok (.iastore, 1) := by decide +kernel
theorem dX9_init_78 : decode cX9_init 78 = .ok (.dup, 1) := by decide +kernel
theorem dX9_init_79 : decode cX9_init 79 = .ok (.iconst 3, 1) := by decide +kernel
theorem dX9_init_80 : decode cX9_init 80 = .ok (.bipush 99, 2) := by decide +kernel
theorem dX9_init_82 : decode cX9_init 82 = .ok (.iastore, 1) := by decide +kernel
theorem dX9_init_83 : decode cX9_init 83 = .ok (.dup, 1) := by decide +kernel
theorem dX9_init_84 : decode cX9_init 84 = .ok (.iconst 4, 1) := by decide +kernel
theorem dX9_init_85 : decode cX9_init 85 = .ok (.iconst 1, 1) := by decide +kernel
theorem dX9_init_86 : decode cX9_init 86 = .ok (.iastore, 1) := by decide +kernel
theorem dX9_init_87 : decode cX9_init 87 = .ok (.dup, 1) := by decide +kernel
theorem dX9_init_88 : decode cX9_init 88 = .ok (.iconst 5, 1) := by decide +kernel
theorem dX9_init_89 : decode cX9_init 89 = .ok (.iconst 0, 1) := by decide +kernel
theorem dX9_init_90 : decode cX9_init 90 = .ok (.iastore, 1) := by decide +kernel
theorem dX9_init_91 : decode cX9_init 91 = .ok (.dup, 1) := by decide +kernel
theorem dX9_init_92 : decode cX9_init 92 = .ok (.bipush 6, 2) := by decide +kernel
theorem dX9_init_94 : decode cX9_init 94 = .ok (.bipush 114, 2) := by decide +kernel
theorem dX9_init_96 : decode cX9_init 96 = .ok (.iastore, 1) := by decide +kernel
theorem dX9_init_97 : decode cX9_init 97 = .ok (.dup, 1) := by decide +kernel
theorem dX9_init_98 : decode cX9_init 98 = .ok (.bipush 7, 2) := by decide +kernel
theorem dX9_init_100 : decode cX9_init 100 = .ok (.iconst 0, 1) := by decide +kernel
theorem dX9_init_101 : decode cX9_init 101 = .ok (.iastore, 1) := by decide +kernel
theorem dX9_init_102 : decode cX9_init 102 = .ok (.dup, 1) := by decide +kernel
theorem dX9_init_103 : decode cX9_init 103 = .ok (.bipush 8, 2) := by decide +kernel
theorem dX9_init_105 : decode cX9_init 105 = .ok (.iconst 0, 1) := by decide +kernel
theorem dX9_init_106 : decode cX9_init 106 = .ok (.iastore, 1) := by decide +kernel
theorem dX9_init_107 : decode cX9_init 107 = .ok (.dup, 1) := by decide +kernel
theorem dX9_init_108 : decode cX9_init 108 = .ok (.bipush 9, 2) := by decide +kernel
theorem dX9_init_110 : decode cX9_init 110 = .ok (.bipush 115, 2) := by decide +kernel
theorem dX9_init_112 : decode cX9_init 112 = .ok (.iastore, 1) := by decide +kernel
theorem dX9_init_113 : decode cX9_init 113 = .ok (.dup, 1) := by decide +kernel
theorem dX9_init_114 : decode cX9_init 114 = .ok (.bipush 10, 2) := by decide +kernel
theorem dX9_init_116 : decode cX9_init 116 = .ok (.iconst 1, 1) := by decide +kernel
theorem dX9_init_117 : decode cX9_init 117 = .ok (.iastore, 1) := by decide +kernel
theorem dX9_init_118 : decode cX9_init 118 = .ok (.dup, 1) := by decide +kernel
theorem dX9_init_119 : decode cX9_init 119 = .ok (.bipush 11, 2) := by decide +kernel
theorem dX9_init_121 : decode cX9_init 121 = .ok (.iconst 2, 1) := by decide +kernel
theorem dX9_init_122 : decode cX9_init 122 = .ok (.iastore, 1) := by decide +kernel
theorem dX9_init_123 : decode cX9_init 123 = .ok (.dup, 1) := by decide +kernel
theorem dX9_init_124 : decode cX9_init 124 = .ok (.bipush 12, 2) := by decide +kernel
theorem dX9_init_126 : decode cX9_init 126 = .ok (.bipush 114, 2) := by decide +kernel
theorem dX9_init_128 : decode cX9_init 128 = .ok (.iastore, 1) := by decide +kernel
theorem dX9_init_129 : decode cX9_init 129 = .ok (.dup, 1) := by decide +kernel
theorem dX9_init_130 : decode cX9_init 130 = .ok (.bipush 13, 2) := by decide +kernel
theorem dX9_init_132 : decode cX9_init 132 = .ok (.iconst 0, 1) := by decide +kernel
theorem dX9_init_133 : decode cX9_init 133 = .ok (.iastore, 1) := by decide +kernel
theorem dX9_init_134 : decode cX9_init 134 = .ok (.dup, 1) := by decide +kernel
theorem dX9_init_135 : decode cX9_init 135 = .ok (.bipush 14, 2) := by decide +kernel
theorem dX9_init_137 : decode cX9_init 137 = .ok (.iconst 1, 1) := by decide +kernel
theorem dX9_init_138 : decode cX9_init 138 = .ok (.iastore, 1) := by decide +kernel
theorem dX9_init_139 : decode cX9_init 139 = .ok (.dup, 1) := by decide +kernel
theorem dX9_init_140 : decode cX9_init 140 = .ok (.bipush 15, 2) := by decide +kernel
theorem dX9_init_142 : decode cX9_init 142 = .ok (.bipush 99, 2) := by decide +kernel
theorem dX9_init_144 : decode cX9_init 144 = .ok (.iastore, 1) := by decide +kernel
theorem dX9_init_145 : decode cX9_init 145 = .ok (.dup, 1) := by decide +kernel
theorem dX9_init_146 : decode cX9_init 146 = .ok (.bipush 16, 2) := by decide +kernel
theorem dX9_init_148 : decode cX9_init 148 = .ok (.iconst 2, 1) := by decide +kernel
theorem dX9_init_149 : decode cX9_init 149 = .ok (.iastore, 1) := by decide +kernel
theorem dX9_init_150 : decode cX9_init 150 = .ok (.dup, 1) := by decide +kernel
theorem dX9_init_151 : decode cX9_init 151 = .ok (.bipush 17, 2) := by decide +kernel
theorem dX9_init_153 : decode cX9_init 153 = .ok (.iconst 0, 1) := by decide +kernel
theorem dX9_init_154 : decode cX9_init 154 = .ok (.iastore, 1) := by decide +kernel
theorem dX9_init_155 : decode cX9_init 155 = .ok (.dup, 1) := by decide +kernel
theorem dX9_init_156 : decode cX9_init 156 = .ok (.bipush 18, 2) := by decide +kernel
theorem dX9_init_158 : decode cX9_init 158 = .ok (.bipush 115, 2) := by decide +kernel
theorem dX9_init_160 : decode cX9_init 160 = .ok (.iastore, 1) := by decide +kernel
theorem dX9_init_161 : decode cX9_init 161 = .ok (.dup, 1) := by decide +kernel
theorem dX9_init_162 : decode cX9_init 162 = .ok (.bipush 19, 2) := by decide +kernel
theorem dX9_init_164 : decode cX9_init 164 = .ok (.iconst 2, 1) := by decide +kernel
theorem dX9_init_165 : decode cX9_init 165 = .ok (.iastore, 1) := by decide +kernel
theorem dX9_init_166 : decode cX9_init 166 = .ok (.dup, 1) := by decide +kernel
theorem dX9_init_167 : decode cX9_init 167 = .ok (.bipush 20, 2) := by decide +kernel
theorem dX9_init_169 : decode cX9_init 169 = .ok (.iconst 0, 1) := by decide +kernel
theorem dX9_init_170 : decode cX9_init 170 = .ok (.iastore, 1) := by decide +kernel
theorem dX9_init_171 : decode cX9_init 171 = .ok (.dup, 1) := by decide +kernel
theorem dX9_init_172 : decode cX9_init 172 = .ok (.bipush 21, 2) := by decide +kernel
theorem dX9_init_174 : decode cX9_init 174 = .ok (.bipush 99, 2) := by decide +kernel
theorem dX9_init_176 : decode cX9_init 176 = .ok (.iastore, 1) := by decide +kernel
theorem dX9_init_177 : decode cX9_init 177 = .ok (.dup, 1) := by decide +kernel
theorem dX9_init_178 : decode cX9_init 178 = .ok (.bipush 22, 2) := by decide +kernel
theorem dX9_init_180 : decode cX9_init 180 = .ok (.iconst 0, 1) := by decide +kernel
theorem dX9_init_181 : decode cX9_init 181 = .ok (.iastore, 1) := by decide +kernel
theorem dX9_init_182 : decode cX9_init 182 = .ok (.dup, 1) := by decide +kernel
theorem dX9_init_183 : decode cX9_init 183 = .ok (.bipush 23, 2) := by decide +kernel
theorem dX9_init_185 : decode cX9_init 185 = .ok (.iconst 0, 1) := by decide +kernel
theorem dX9_init_186 : decode cX9_init 186 = .ok (.iastore, 1) := by decide +kernel
theorem dX9_init_187 : decode cX9_init 187 = .ok (.dup, 1) := by decide +kernel
theorem dX9_init_188 : decode cX9_init 188 = .ok (.bipush 24, 2) := by decide +kernel
theorem dX9_init_190 : decode cX9_init 190 = .ok (.bipush 114, 2) := by decide +kernel
theorem dX9_init_192 : decode cX9_init 192 = .ok (.iastore, 1) := by decide +kernel
theorem dX9_init_193 : decode cX9_init 193 = .ok (.dup, 1) := by decide +kernel
theorem dX9_init_194 : decode cX9_init 194 = .ok (.bipush 25, 2) := by decide +kernel
theorem dX9_init_196 : decode cX9_init 196 = .ok (.iconst 0, 1) := by decide +kernel
theorem dX9_init_197 : decode cX9_init 197 = .ok (.iastore, 1) := by decide +kernel
theorem dX9_init_198 : decode cX9_init 198 = .ok (.dup, 1) := by decide +kernel
theorem dX9_init_199 : decode cX9_init 199 = .ok (.bipush 26, 2) := by decide +kernel
theorem dX9_init_201 : decode cX9_init 201 = .ok (.iconst 2, 1) := by decide +kernel
theorem dX9_init_202 : decode cX9_init 202 = .ok (.iastore, 1) := by decide +kernel
theorem dX9_init_203 : decode cX9_init 203 = .ok (.dup, 1) := by decide +kernel
theorem dX9_init_204 : decode cX9_init 204 = .ok (.bipush 27, 2) := by decide +kernel
theorem dX9_init_206 : decode cX9_init 206 = .ok (.bipush 115, 2) := by decide +kernel
theorem dX9_init_208 : decode cX9_init 208 = .ok (.iastore, 1) := by decide +kernel
theorem dX9_init_209 : decode cX9_init 209 = .ok (.dup, 1) := by decide +kernel
theorem dX9_init_210 : decode cX9_init 210 = .ok (.bipush 28, 2) := by decide +kernel
theorem dX9_init_212 : decode cX9_init 212 = .ok (.iconst 0, 1) := by decide +kernel
theorem dX9_init_213 : decode cX9_init 213 = .ok (.iastore, 1) := by decide +kernel
theorem dX9_init_214 : decode cX9_init 214 = .ok (.dup, 1) := by decide +kernel
theorem dX9_init_215 : decode cX9_init 215 = .ok (.bipush 29, 2) := by decide +kernel
theorem dX9_init_217 : decode cX9_init 217 = .ok (.iconst 1, 1) := by decide +kernel
theorem dX9_init_218 : decode cX9_init 218 = .ok (.iastore, 1) := by decide +kernel
theorem dX9_init_219 : decode cX9_init 219 = .ok (.dup, 1) := by decide +kernel
theorem dX9_init_220 : decode cX9_init 220 = .ok (.bipush 30, 2) := by decide +kernel
theorem dX9_init_222 : decode cX9_init 222 = .ok (.bipush 114, 2) := by decide +kernel
theorem dX9_init_224 : decode cX9_init 224 = .ok (.iastore, 1) := by decide +kernel
theorem dX9_init_225 : decode cX9_init 225 = .ok (.dup, 1) := by decide +kernel
theorem dX9_init_226 : decode cX9_init 226 = .ok (.bipush 31, 2) := by decide +kernel
theorem dX9_init_228 : decode cX9_init 228 = .ok (.iconst 0, 1) := by decide +kernel
theorem dX9_init_229 : decode cX9_init 229 = .ok (.iastore, 1) := by decide +kernel
theorem dX9_init_230 : decode cX9_init 230 = .ok (.dup, 1) := by decide +kernel
theorem dX9_init_231 : decode cX9_init 231 = .ok (.bipush 32, 2) := by decide +kernel
theorem dX9_init_233 : decode cX9_init 233 = .ok (.iconst 3, 1) := by decide +kernel
theorem dX9_init_234 : decode cX9_init 234 = .ok (.iastore, 1) := by decide +kernel
theorem dX9_init_235 : decode cX9_init 235 = .ok (.dup, 1) := by decide +kernel
theorem dX9_init_236 : decode cX9_init 236 = .ok (.bipush 33, 2) := by decide +kernel
theorem dX9_init_238 : decode cX9_init 238 = .ok (.bipush 99, 2) := by decide +kernel
theorem dX9_init_240 : decode cX9_init 240 = .ok (.iastore, 1) := by decide +kernel
theorem dX9_init_241 : decode cX9_init 241 = .ok (.dup, 1) := by decide +kernel
theorem dX9_init_242 : decode cX9_init 242 = .ok (.bipush 34, 2) := by decide +kernel
theorem dX9_init_244 : decode cX9_init 244 = .ok (.iconst 1, 1) := by decide +kernel
theorem dX9_init_245 : decode cX9_init 245 = .ok (.iastore, 1) := by decide +kernel
theorem dX9_init_246 : decode cX9_init 246 = .ok (.dup, 1) := by decide +kernel
theorem dX9_init_247 : decode cX9_init 247 = .ok (.bipush 35, 2) := by decide +kernel
theorem dX9_init_249 : decode cX9_init 249 = .ok (.iconst 0, 1) := by decide +kernel
theorem dX9_init_250 : decode cX9_init 250 = .ok (.iastore, 1) := by decide +kernel
theorem dX9_init_251 : decode cX9_init 251 = .ok (.putfield 31, 3) := by decide +kernel
theorem dX9_init_254 : decode cX9_init 254 = .ok (.aload_n 0, 1) := by decide +kernel
theorem dX9_init_255 : decode cX9_init 255 = .ok (.iconst 3, 1) := by decide +kernel
theorem dX9_init_256 : decode cX9_init 256 = .ok (.invokevirtual 34, 3) := by decide +kernel
theorem dX9_init_259 : decode cX9_init 259 = .ok (.iconst 0, 1) := by decide +kernel
theorem dX9_init_260 : decode cX9_init 260 = .ok (.istore_n 1, 1) := by decide +kernel
theorem dX9_init_261 : decode cX9_init 261 = .ok (.iload_n 1, 1) := by decide +kernel
theorem dX9_init_262 : decode cX9_init 262 = .ok (.bipush 36, 2) := by decide +kernel
theorem dX9_init_264 : decode cX9_init 264 = .ok (.if_icmp .ge 36, 3) := by decide +kernel
theorem dX9_init_267 : decode cX9_init 267 = .ok (.aload_n 0, 1) := by decide +kernel
theorem dX9_init_268 : decode cX9_init 268 = .ok (.aload_n 0, 1) := by decide +kernel
theorem dX9_init_269 : decode cX9_init 269 = .ok (.getfield 31, 3) := by decide +kernel
theorem dX9_init_272 : decode cX9_init 272 = .ok (.iload_n 1, 1) := by decide +kernel
theorem dX9_init_273 : decode cX9_init 273 = .ok (.iaload, 1) := by decide +kernel
theorem dX9_init_274 : decode cX9_init 274 = .ok (.aload_n 0, 1) := by decide +kernel
theorem dX9_init_275 : decode cX9_init 275 = .ok (.getfield 31, 3) := by decide +kernel
theorem dX9_init_278 : decode cX9_init 278 = .ok (.iload_n 1, 1) := by decide +kernel
theorem dX9_init_279 : decode cX9_init 279 = .ok (.iconst 1, 1) := by decide +kernel
theorem dX9_init_280 : decode cX9_init 280 = .ok (.iadd, 1) := by decide +kernel
theorem dX9_init_281 : decode cX9_init 281 = .ok (.iaload, 1) := by decide +kernel
theorem dX9_init_282 : decode cX9_init 282 = .ok (.aload_n 0, 1) := by decide +kernel
theorem dX9_init_283 : decode cX9_init 283 = .ok (.getfield 31, 3) := by decide +kernel
theorem dX9_init_286 : decode cX9_init 286 = .ok (.iload_n 1, 1) := by decide +kernel
theorem dX9_init_287 : decode cX9_init 287 = .ok (.iconst 2, 1) := by decide +kernel
theorem dX9_init_288 : decode cX9_init 288 = .ok (.iadd, 1) := by decide +kernel
theorem dX9_init_289 : decode cX9_init 289 = .ok (.iaload, 1) := by decide +kernel
theorem dX9_init_290 : decode cX9_init 290 = .ok (.invokevirtual 38, 3) := by decide +kernel
theorem dX9_init_293 : decode cX9_init 293 = .ok (.pop, 1) := by decide +kernel
theorem dX9_init_294 : decode cX9_init 294 = .ok (.iinc 1 3, 3) := by decide +kernel
theorem dX9_init_297 : decode cX9_init 297 = .ok (.goto (-36), 3) := by decide +kernel
theorem dX9_init_300 : decode cX9_init 300 = .ok (.aload_n 0, 1) := by decide +kernel
theorem dX9_init_301 : decode cX9_init 301 = .ok (.bipush 115, 2) := by decide +kernel
theorem dX9_init_303 : decode cX9_init 303 = .ok (.iconst 2, 1) := by decide +kernel
theorem dX9_init_304 : decode cX9_init 304 = .ok (.iconst 1, 1) := by decide +kernel
theorem dX9_init_305 : decode cX9_init 305 = .ok (.invokevirtual 38, 3) := by decide +kernel
theorem dX9_init_308 : decode cX9_init 308 = .ok (.pop, 1) := by decide +kernel
theorem dX9_init_309 : decode cX9_init 309 = .ok (.aload_n 0, 1) := by decide +kernel
theorem dX9_init_310 : decode cX9_init 310 = .ok (.bipush 99, 2) := by decide +kernel
theorem dX9_init_312 : decode cX9_init 312 = .ok (.iconst 0, 1) := by decide +kernel
theorem dX9_init_313 : decode cX9_init 313 = .ok (.iconst 0, 1) := by decide +kernel
theorem dX9_init_314 : decode cX9_init 314 = .ok (.invokevirtual 38, 3) := by decide +kernel
theorem dX9_init_317 : decode cX9_init 317 = .ok (.pop, 1) := by decide +kernel
theorem dX9_init_318 : decode cX9_init 318 = .ok (.aload_n 0, 1) := by decide +kernel
theorem dX9_init_319 : decode cX9_init 319 = .ok (.bipush 99, 2) := by decide +kernel
theorem dX9_init_321 : decode cX9_init 321 = .ok (.iconst 2, 1) := by decide +kernel
theorem dX9_init_322 : decode cX9_init 322 = .ok (.iconst 0, 1) := by decide +kernel
theorem dX9_init_323 : decode cX9_init 323 = .ok (.invokevirtual 38, 3) := by decide +kernel
theorem dX9_init_326 : decode cX9_init 326 = .ok (.pop, 1) := by decide +kernel
theorem dX9_init_327 : decode cX9_init 327 = .ok (.aload_n 0, 1) := by decide +kernel
theorem dX9_init_328 : decode cX9_init 328 = .ok (.invokevirtual 42, 3) := by decide +kernel
theorem dX9_init_331 : decode cX9_init 331 = .ok (.pop, 1) := by decide +kernel
theorem dX9_init_332 : decode cX9_init 332 = .ok (.return_, 1) := by decide +kernel
theorem dX9_begins_0 : decode cX9_begins 0 = .ok (.iconst 0, 1) := by decide +kernel
theorem dX9_begins_1 : decode cX9_begins 1 = .ok (.istore_n 2, 1) := by decide +kernel
theorem dX9_begins_2 : decode cX9_begins 2 = .ok (.iload_n 2, 1) := by decide +kernel
theorem dX9_begins_3 : decode cX9_begins 3 = .ok (.sipush 1370, 3) := by decide +kernel
theorem dX9_begins_6 : decode cX9_begins 6 = .ok (.if_icmp .ge 16, 3) := by decide +kernel
theorem dX9_begins_9 : decode cX9_begins 9 = .ok (.aload_n 0, 1) := by decide +kernel
theorem dX9_begins_10 : decode cX9_begins 10 = .ok (.getfield 13, 3) := by decide +kernel
theorem dX9_begins_13 : decode cX9_begins 13 = .ok (.iload_n 2, 1) := by decide +kernel
theorem dX9_begins_14 : decode cX9_begins 14 = .ok (.iconst 0, 1) := by decide +kernel
theorem dX9_begins_15 : decode cX9_begins 15 = .ok (.iastore, 1) := by decide +kernel
theorem dX9_begins_16 : decode cX9_begins 16 = .ok (.iinc 2 1, 3) := by decide +kernel
theorem dX9_begins_19 : decode cX9_begins 19 = .ok (.goto (-17), 3) := by decide +kernel
theorem dX9_begins_22 : decode cX9_begins 22 = .ok (.aload_n 0, 1) := by decide +kernel
theorem dX9_begins_23 : decode cX9_begins 23 = .ok (.getfield 13, 3) := by decide +kernel
theorem dX9_begins_26 : decode cX9_begins 26 = .ok (.iconst 0, 1) := by decide +kernel
theorem dX9_begins_27 : decode cX9_begins 27 = .ok (.iload_n 1, 1) := by decide +kernel
theorem dX9_begins_28 : decode cX9_begins 28 = .ok (.iastore, 1) := by decide +kernel
theorem dX9_begins_29 : decode cX9_begins 29 = .ok (.iconst 0, 1) := by decide +kernel
theorem dX9_begins_30 : decode cX9_begins 30 = .ok (.istore_n 2, 1) := by decide +kernel
theorem dX9_begins_31 : decode cX9_begins 31 = .ok (.iload_n 2, 1) := by decide +kernel
theorem dX9_begins_32 : decode cX9_begins 32 = .ok (.iconst 5, 1) := by decide +kernel
theorem dX9_begins_33 : decode cX9_begins 33 = .ok (.if_icmp .ge 67, 3) := by decide +kernel
theorem dX9_begins_36 : decode cX9_begins 36 = .ok (.iconst 0, 1) := by decide +kernel
theorem dX9_begins_37 : decode cX9_begins 37 = .ok (.istore_n 3, 1) := by decide +kernel
theorem dX9_begins_38 : decode cX9_begins 38 = .ok (.iload_n 3, 1) := by decide +kernel
theorem dX9_begins_39 : decode cX9_begins 39 = .ok (.iconst 5, 1) := by decide +kernel
theorem dX9_begins_40 : decode cX9_begins 40 = .ok (.if_icmp .ge 24, 3) := by decide +kernel
theorem dX9_begins_43 : decode cX9_begins 43 = .ok (.aload_n 0, 1) := by decide +kernel
theorem dX9_begins_44 : decode cX9_begins 44 = .ok (.getfield 13, 3) := by decide +kernel
theorem dX9_begins_47 : decode cX9_begins 47 = .ok (.bipush 20, 2) := by decide +kernel
theorem dX9_begins_49 : decode cX9_begins 49 = .ok (.iconst 5, 1) := by decide +kernel
theorem dX9_begins_50 : decode cX9_begins 50 = .ok (.iload_n 2, 1) := by decide +kernel
theorem dX9_begins_51 : decode cX9_begins 51 = .ok (.imul, 1) := by decide +kernel
theorem dX9_begins_52 : decode cX9_begins 52 = .ok (.iadd, 1) := by decide +kernel
theorem dX9_begins_53 : decode cX9_begins 53 = .ok (.iload_n 3, 1) := by decide +kernel
theorem dX9_begins_54 : decode cX9_begins 54 = .ok (.iadd, 1) := by decide +kernel
theorem dX9_begins_55 : decode cX9_begins 55 = .ok (.bipush (-4), 2) := by decide +kernel
theorem dX9_begins_57 : decode cX9_begins 57 = .ok (.iastore, 1) := by decide +kernel
theorem dX9_begins_58 : decode cX9_begins 58 = .ok (.iinc 3 1, 3) := by decide +kernel
theorem dX9_begins_61 : decode cX9_begins 61 = .ok (.goto (-23), 3) := by decide +kernel
theorem dX9_begins_64 : decode cX9_begins 64 = .ok (.aload_n 0, 1) := by decide +kernel
theorem dX9_begins_65 : decode cX9_begins 65 = .ok (.getfield 13, 3) := by decide +kernel
theorem dX9_begins_68 : decode cX9_begins 68 = .ok (.bipush 10, 2) := by decide +kernel
theorem dX9_begins_70 : decode cX9_begins 70 = .ok (.iload_n 2, 1) := by decide +kernel
theorem dX9_begins_71 : decode cX9_begins 71 = .ok (.iadd, 1) := by decide +kernel
theorem dX9_begins_72 : decode cX9_begins 72 = .ok (.iconst 1, 1) := by decide +kernel
theorem dX9_begins_73 : decode cX9_begins 73 = .ok (.iastore, 1) := by decide +kernel
theorem dX9_begins_74 : decode cX9_begins 74 = .ok (.aload_n 0, 1) := by decide +kernel
theorem dX9_begins_75 : decode cX9_begins 75 = .ok (.getfield 13, 3) := by decide +kernel
theorem dX9_begins_78 : decode cX9_begins 78 = .ok (.bipush 20, 2) := by decide +kernel
theorem dX9_begins_80 : decode cX9_begins 80 = .ok (.iconst 5, 1) := by decide +kernel
theorem dX9_begins_81 : decode cX9_begins 81 = .ok (.iload_n 2, 1) := by decide +kernel
theorem dX9_begins_82 : decode cX9_begins 82 = .ok (.imul, 1) := by decide +kernel
theorem dX9_begins_83 : decode cX9_begins 83 = .ok (.iadd, 1) := by decide +kernel
theorem dX9_begins_84 : decode cX9_begins 84 = .ok (.iload_n 2, 1) := by decide +kernel
theorem dX9_begins_85 : decode cX9_begins 85 = .ok (.iadd, 1) := by decide +kernel
theorem dX9_begins_86 : decode cX9_begins 86 = .ok (.iconst 0, 1) := by decide +kernel
theorem dX9_begins_87 : decode cX9_begins 87 = .ok (.iastore, 1) := by decide +kernel
theorem dX9_begins_88 : decode cX9_begins 88 = .ok (.aload_n 0, 1) := by decide +kernel
theorem dX9_begins_89 : decode cX9_begins 89 = .ok (.iload_n 2, 1) := by decide +kernel
theorem dX9_begins_90 : decode cX9_begins 90 = .ok (.iconst 0, 1) := by decide +kernel
theorem dX9_begins_91 : decode cX9_begins 91 = .ok (.invokevirtual 46, 3) := by decide +kernel
theorem dX9_begins_94 : decode cX9_begins 94 = .ok (.iinc 2 1, 3) := by decide +kernel
theorem dX9_begins_97 : decode cX9_begins 97 = .ok (.goto (-66), 3) := by decide +kernel
theorem dX9_begins_100 : decode cX9_begins 100 = .ok (.return_, 1) := by decide +kernel
theorem dX9_keeps_0 : decode cX9_keeps 0 = .ok (.aload_n 0, 1) := by decide +kernel
theorem dX9_keeps_1 : decode cX9_keeps 1 = .ok (.getfield 13, 3) := by decide +kernel
theorem dX9_keeps_4 : decode cX9_keeps 4 = .ok (.bipush 50, 2) := by decide +kernel
theorem dX9_keeps_6 : decode cX9_keeps 6 = .ok (.bipush 12, 2) := by decide +kernel
theorem dX9_keeps_8 : decode cX9_keeps 8 = .ok (.iload_n 1, 1) := by decide +kernel
theorem dX9_keeps_9 : decode cX9_keeps 9 = .ok (.imul, 1) := by decide +kernel
theorem dX9_keeps_10 : decode cX9_keeps 10 = .ok (.iadd, 1) := by decide +kernel
theorem dX9_keeps_11 : decode cX9_keeps 11 = .ok (.iload_n 2, 1) := by decide +kernel
theorem dX9_keeps_12 : decode cX9_keeps 12 = .ok (.iadd, 1) := by decide +kernel
theorem dX9_keeps_13 : decode cX9_keeps 13 = .ok (.aload_n 0, 1) := by decide +kernel
theorem dX9_keeps_14 : decode cX9_keeps 14 = .ok (.getfield 13, 3) := by decide +kernel
theorem dX9_keeps_17 : decode cX9_keeps 17 = .ok (.bipush 15, 2) := by decide +kernel
theorem dX9_keeps_19 : decode cX9_keeps 19 = .ok (.iload_n 1, 1) := by decide +kernel
theorem dX9_keeps_20 : decode cX9_keeps 20 = .ok (.iadd, 1) := by decide +kernel
theorem dX9_keeps_21 : decode cX9_keeps 21 = .ok (.iaload, 1) := by decide +kernel
theorem dX9_keeps_22 : decode cX9_keeps 22 = .ok (.iastore, 1) := by decide +kernel
theorem dX9_keeps_23 : decode cX9_keeps 23 = .ok (.iconst 0, 1) := by decide +kernel
theorem dX9_keeps_24 : decode cX9_keeps 24 = .ok (.istore_n 3, 1) := by decide +kernel
theorem dX9_keeps_25 : decode cX9_keeps 25 = .ok (.iload_n 3, 1) := by decide +kernel
theorem dX9_keeps_26 : decode cX9_keeps 26 = .ok (.iconst 5, 1) := by decide +kernel
theorem dX9_keeps_27 : decode cX9_keeps 27 = .ok (.if_icmp .ge 41, 3) := by decide +kernel
theorem dX9_keeps_30 : decode cX9_keeps 30 = .ok (.aload_n 0, 1) := by decide +kernel
theorem dX9_keeps_31 : decode cX9_keeps 31 = .ok (.getfield 13, 3) := by decide +kernel
theorem dX9_keeps_34 : decode cX9_keeps 34 = .ok (.sipush 230, 3) := by decide +kernel
theorem dX9_keeps_37 : decode cX9_keeps 37 = .ok (.iconst 5, 1) := by decide +kernel
theorem dX9_keeps_38 : decode cX9_keeps 38 = .ok (.bipush 12, 2) := by decide +kernel
theorem dX9_keeps_40 : decode cX9_keeps 40 = .ok (.iload_n 1, 1) := by decide +kernel
theorem dX9_keeps_41 : decode cX9_keeps 41 = .ok (.imul, 1) := by decide +kernel
theorem dX9_keeps_42 : decode cX9_keeps 42 = .ok (.iload_n 2, 1) := by decide +kernel
theorem dX9_keeps_43 : decode cX9_keeps 43 = .ok (.iadd, 1) := by decide +kernel
theorem dX9_keeps_44 : decode cX9_keeps 44 = .ok (.imul, 1) := by decide +kernel
theorem dX9_keeps_45 : decode cX9_keeps 45 = .ok (.iadd, 1) := by decide +kernel
theorem dX9_keeps_46 : decode cX9_keeps 46 = .ok (.iload_n 3, 1) := by decide +kernel
theorem dX9_keeps_47 : decode cX9_keeps 47 = .ok (.iadd, 1) := by decide +kernel
theorem dX9_keeps_48 : decode cX9_keeps 48 = .ok (.aload_n 0, 1) := by decide +kernel
theorem dX9_keeps_49 : decode cX9_keeps 49 = .ok (.getfield 13, 3) := by decide +kernel
theorem dX9_keeps_52 : decode cX9_keeps 52 = .ok (.bipush 20, 2) := by decide +kernel
theorem dX9_keeps_54 : decode cX9_keeps 54 = .ok (.iconst 5, 1) := by decide +kernel
theorem dX9_keeps_55 : decode cX9_keeps 55 = .ok (.iload_n 1, 1) := by decide +kernel
theorem dX9_keeps_56 : decode cX9_keeps 56 = .ok (.imul, 1) := by decide +kernel
theorem dX9_keeps_57 : decode cX9_keeps 57 = .ok (.iadd, 1) := by decide +kernel
theorem dX9_keeps_58 : decode cX9_keeps 58 = .ok (.iload_n 3, 1) := by decide +kernel
theorem dX9_keeps_59 : decode cX9_keeps 59 = .ok (.iadd, 1) := by decide +kernel
theorem dX9_keeps_60 : decode cX9_keeps 60 = .ok (.iaload, 1) := by decide +kernel
theorem dX9_keeps_61 : decode cX9_keeps 61 = .ok (.iastore, 1) := by decide +kernel
theorem dX9_keeps_62 : decode cX9_keeps 62 = .ok (.iinc 3 1, 3) := by decide +kernel
theorem dX9_keeps_65 : decode cX9_keeps 65 = .ok (.goto (-40), 3) := by decide +kernel
theorem dX9_keeps_68 : decode cX9_keeps 68 = .ok (.return_, 1) := by decide +kernel
theorem dX9_isIn_0 : decode cX9_isIn 0 = .ok (.iload_n 0, 1) := by decide +kernel
theorem dX9_isIn_1 : decode cX9_isIn 1 = .ok (.iload_n 1, 1) := by decide +kernel
theorem dX9_isIn_2 : decode cX9_isIn 2 = .ok (.if_icmp .lt 12, 3) := by decide +kernel
theorem dX9_isIn_5 : decode cX9_isIn 5 = .ok (.iload_n 0, 1) := by decide +kernel
theorem dX9_isIn_6 : decode cX9_isIn 6 = .ok (.iload_n 2, 1) := by decide +kernel
theorem dX9_isIn_7 : decode cX9_isIn 7 = .ok (.if_icmp .gt 7, 3) := by decide +kernel
theorem dX9_isIn_10 : decode cX9_isIn 10 = .ok (.iconst 1, 1) := by decide +kernel
theorem dX9_isIn_11 : decode cX9_isIn 11 = .ok (.goto 4, 3) := by decide +kernel
theorem dX9_isIn_14 : decode cX9_isIn 14 = .ok (.iconst 0, 1) := by decide +kernel
theorem dX9_isIn_15 : decode cX9_isIn 15 = .ok (.ireturn, 1) := by decide +kernel
theorem dX9_isProcess_0 : decode cX9_isProcess 0 = .ok (.iload_n 1, 1) := by decide +kernel
theorem dX9_isProcess_1 : decode cX9_isProcess 1 = .ok (.iconst 0, 1) := by decide +kernel
theorem dX9_isProcess_2 : decode cX9_isProcess 2 = .ok (.aload_n 0, 1) := by decide +kernel
theorem dX9_isProcess_3 : decode cX9_isProcess 3 = .ok (.getfield 13, 3) := by decide +kernel
theorem dX9_isProcess_6 : decode cX9_isProcess 6 = .ok (.iconst 0, 1) := by decide +kernel
theorem dX9_isProcess_7 : decode cX9_isProcess 7 = .ok (.iaload, 1) := by decide +kernel
theorem dX9_isProcess_8 : decode cX9_isProcess 8 = .ok (.iconst 1, 1) := by decide +kernel
theorem dX9_isProcess_9 : decode cX9_isProcess 9 = .ok (.isub, 1) := by decide +kernel
theorem dX9_isProcess_10 : decode cX9_isProcess 10 = .ok (.invokestatic 50, 3) := by decide +kernel
theorem dX9_isProcess_13 : decode cX9_isProcess 13 = .ok (.ireturn, 1) := by decide +kernel
theorem dX9_isMessage_0 : decode cX9_isMessage 0 = .ok (.iload_n 1, 1) := by decide +kernel
theorem dX9_isMessage_1 : decode cX9_isMessage 1 = .ok (.iconst 0, 1) := by decide +kernel
theorem dX9_isMessage_2 : decode cX9_isMessage 2 = .ok (.aload_n 0, 1) := by decide +kernel
theorem dX9_isMessage_3 : decode cX9_isMessage 3 = .ok (.getfield 13, 3) := by decide +kernel
theorem dX9_isMessage_6 : decode cX9_isMessage 6 = .ok (.iconst 2, 1) := by decide +kernel
theorem dX9_isMessage_7 : decode cX9_isMessage 7 = .ok (.iaload, 1) := by decide +kernel
theorem dX9_isMessage_8 : decode cX9_isMessage 8 = .ok (.iconst 1, 1) := by decide +kernel
theorem dX9_isMessage_9 : decode cX9_isMessage 9 = .ok (.isub, 1) := by decide +kernel
theorem dX9_isMessage_10 : decode cX9_isMessage 10 = .ok (.invokestatic 50, 3) := by decide +kernel
theorem dX9_isMessage_13 : decode cX9_isMessage 13 = .ok (.ireturn, 1) := by decide +kernel
theorem dX9_of_0 : decode cX9_of 0 = .ok (.aload_n 0, 1) := by decide +kernel
theorem dX9_of_1 : decode cX9_of 1 = .ok (.getfield 13, 3) := by decide +kernel
theorem dX9_of_4 : decode cX9_of 4 = .ok (.sipush 530, 3) := by decide +kernel
theorem dX9_of_7 : decode cX9_of 7 = .ok (.bipush 13, 2) := by decide +kernel
theorem dX9_of_9 : decode cX9_of 9 = .ok (.iload_n 1, 1) := by decide +kernel
theorem dX9_of_10 : decode cX9_of 10 = .ok (.imul, 1) := by decide +kernel
theorem dX9_of_11 : decode cX9_of 11 = .ok (.iadd, 1) := by decide +kernel
theorem dX9_of_12 : decode cX9_of 12 = .ok (.iload_n 2, 1) := by decide +kernel
theorem dX9_of_13 : decode cX9_of 13 = .ok (.iadd, 1) := by decide +kernel
theorem dX9_of_14 : decode cX9_of 14 = .ok (.iaload, 1) := by decide +kernel
theorem dX9_of_15 : decode cX9_of 15 = .ok (.ireturn, 1) := by decide +kernel
theorem dX9_puts_0 : decode cX9_puts 0 = .ok (.aload_n 0, 1) := by decide +kernel
theorem dX9_puts_1 : decode cX9_puts 1 = .ok (.getfield 13, 3) := by decide +kernel
theorem dX9_puts_4 : decode cX9_puts 4 = .ok (.sipush 530, 3) := by decide +kernel
theorem dX9_puts_7 : decode cX9_puts 7 = .ok (.bipush 13, 2) := by decide +kernel
theorem dX9_puts_9 : decode cX9_puts 9 = .ok (.iload_n 1, 1) := by decide +kernel
theorem dX9_puts_10 : decode cX9_puts 10 = .ok (.imul, 1) := by decide +kernel
theorem dX9_puts_11 : decode cX9_puts 11 = .ok (.iadd, 1) := by decide +kernel
theorem dX9_puts_12 : decode cX9_puts 12 = .ok (.iload_n 2, 1) := by decide +kernel
theorem dX9_puts_13 : decode cX9_puts 13 = .ok (.iadd, 1) := by decide +kernel
theorem dX9_puts_14 : decode cX9_puts 14 = .ok (.iload_n 3, 1) := by decide +kernel
theorem dX9_puts_15 : decode cX9_puts 15 = .ok (.iastore, 1) := by decide +kernel
theorem dX9_puts_16 : decode cX9_puts 16 = .ok (.return_, 1) := by decide +kernel
theorem dX9_mode_0 : decode cX9_mode 0 = .ok (.iload_n 1, 1) := by decide +kernel
theorem dX9_mode_1 : decode cX9_mode 1 = .ok (.iconst 0, 1) := by decide +kernel
theorem dX9_mode_2 : decode cX9_mode 2 = .ok (.iconst 3, 1) := by decide +kernel
theorem dX9_mode_3 : decode cX9_mode 3 = .ok (.invokestatic 50, 3) := by decide +kernel
theorem dX9_mode_6 : decode cX9_mode 6 = .ok (.ifCond .ne 5, 3) := by decide +kernel
theorem dX9_mode_9 : decode cX9_mode 9 = .ok (.iconst (-1), 1) := by decide +kernel
theorem dX9_mode_10 : decode cX9_mode 10 = .ok (.ireturn, 1) := by decide +kernel
theorem dX9_mode_11 : decode cX9_mode 11 = .ok (.aload_n 0, 1) := by decide +kernel
theorem dX9_mode_12 : decode cX9_mode 12 = .ok (.getfield 13, 3) := by decide +kernel
theorem dX9_mode_15 : decode cX9_mode 15 = .ok (.iconst 1, 1) := by decide +kernel
theorem dX9_mode_16 : decode cX9_mode 16 = .ok (.iaload, 1) := by decide +kernel
theorem dX9_mode_17 : decode cX9_mode 17 = .ok (.istore_n 2, 1) := by decide +kernel
theorem dX9_mode_18 : decode cX9_mode 18 = .ok (.iload_n 2, 1) := by decide +kernel
theorem dX9_mode_19 : decode cX9_mode 19 = .ok (.iload_n 1, 1) := by decide +kernel
theorem dX9_mode_20 : decode cX9_mode 20 = .ok (.if_icmp .ne 6, 3) := by decide +kernel
theorem dX9_mode_23 : decode cX9_mode 23 = .ok (.bipush (-2), 2) := by decide +kernel
theorem dX9_mode_25 : decode cX9_mode 25 = .ok (.ireturn, 1) := by decide +kernel
theorem dX9_mode_26 : decode cX9_mode 26 = .ok (.aload_n 0, 1) := by decide +kernel
theorem dX9_mode_27 : decode cX9_mode 27 = .ok (.getfield 13, 3) := by decide +kernel
theorem dX9_mode_30 : decode cX9_mode 30 = .ok (.iconst 1, 1) := by decide +kernel
theorem dX9_mode_31 : decode cX9_mode 31 = .ok (.iload_n 1, 1) := by decide +kernel
theorem dX9_mode_32 : decode cX9_mode 32 = .ok (.iastore, 1) := by decide +kernel
theorem dX9_mode_33 : decode cX9_mode 33 = .ok (.iload_n 2, 1) := by decide +kernel
theorem dX9_mode_34 : decode cX9_mode 34 = .ok (.ireturn, 1) := by decide +kernel
theorem dX9_saves_0 : decode cX9_saves 0 = .ok (.aload_n 0, 1) := by decide +kernel
theorem dX9_saves_1 : decode cX9_saves 1 = .ok (.getfield 13, 3) := by decide +kernel
theorem dX9_saves_4 : decode cX9_saves 4 = .ok (.bipush 10, 2) := by decide +kernel
theorem dX9_saves_6 : decode cX9_saves 6 = .ok (.iload_n 1, 1) := by decide +kernel
theorem dX9_saves_7 : decode cX9_saves 7 = .ok (.iadd, 1) := by decide +kernel
theorem dX9_saves_8 : decode cX9_saves 8 = .ok (.iaload, 1) := by decide +kernel
theorem dX9_saves_9 : decode cX9_saves 9 = .ok (.istore 4, 2) := by decide +kernel
theorem dX9_saves_11 : decode cX9_saves 11 = .ok (.aload_n 0, 1) := by decide +kernel
theorem dX9_saves_12 : decode cX9_saves 12 = .ok (.getfield 13, 3) := by decide +kernel
theorem dX9_saves_15 : decode cX9_saves 15 = .ok (.bipush 10, 2) := by decide +kernel
theorem dX9_saves_17 : decode cX9_saves 17 = .ok (.iload_n 1, 1) := by decide +kernel
theorem dX9_saves_18 : decode cX9_saves 18 = .ok (.iadd, 1) := by decide +kernel
theorem dX9_saves_19 : decode cX9_saves 19 = .ok (.iload 4, 2) := by decide +kernel
theorem dX9_saves_21 : decode cX9_saves 21 = .ok (.iconst 1, 1) := by decide +kernel
theorem dX9_saves_22 : decode cX9_saves 22 = .ok (.iadd, 1) := by decide +kernel
theorem dX9_saves_23 : decode cX9_saves 23 = .ok (.iastore, 1) := by decide +kernel
theorem dX9_saves_24 : decode cX9_saves 24 = .ok (.aload_n 0, 1) := by decide +kernel
theorem dX9_saves_25 : decode cX9_saves 25 = .ok (.getfield 13, 3) := by decide +kernel
theorem dX9_saves_28 : decode cX9_saves 28 = .ok (.bipush 15, 2) := by decide +kernel
theorem dX9_saves_30 : decode cX9_saves 30 = .ok (.iload_n 1, 1) := by decide +kernel
theorem dX9_saves_31 : decode cX9_saves 31 = .ok (.iadd, 1) := by decide +kernel
theorem dX9_saves_32 : decode cX9_saves 32 = .ok (.iload_n 2, 1) := by decide +kernel
theorem dX9_saves_33 : decode cX9_saves 33 = .ok (.iastore, 1) := by decide +kernel
theorem dX9_saves_34 : decode cX9_saves 34 = .ok (.aload_n 0, 1) := by decide +kernel
theorem dX9_saves_35 : decode cX9_saves 35 = .ok (.getfield 13, 3) := by decide +kernel
theorem dX9_saves_38 : decode cX9_saves 38 = .ok (.bipush 20, 2) := by decide +kernel
theorem dX9_saves_40 : decode cX9_saves 40 = .ok (.iconst 5, 1) := by decide +kernel
theorem dX9_saves_41 : decode cX9_saves 41 = .ok (.iload_n 1, 1) := by decide +kernel
theorem dX9_saves_42 : decode cX9_saves 42 = .ok (.imul, 1) := by decide +kernel
theorem dX9_saves_43 : decode cX9_saves 43 = .ok (.iadd, 1) := by decide +kernel
theorem dX9_saves_44 : decode cX9_saves 44 = .ok (.iload_n 1, 1) := by decide +kernel
theorem dX9_saves_45 : decode cX9_saves 45 = .ok (.iadd, 1) := by decide +kernel
theorem dX9_saves_46 : decode cX9_saves 46 = .ok (.iload 4, 2) := by decide +kernel
theorem dX9_saves_48 : decode cX9_saves 48 = .ok (.iastore, 1) := by decide +kernel
theorem dX9_saves_49 : decode cX9_saves 49 = .ok (.aload_n 0, 1) := by decide +kernel
theorem dX9_saves_50 : decode cX9_saves 50 = .ok (.getfield 13, 3) := by decide +kernel
theorem dX9_saves_53 : decode cX9_saves 53 = .ok (.bipush 110, 2) := by decide +kernel
theorem dX9_saves_55 : decode cX9_saves 55 = .ok (.bipush 12, 2) := by decide +kernel
theorem dX9_saves_57 : decode cX9_saves 57 = .ok (.iload_n 1, 1) := by decide +kernel
theorem dX9_saves_58 : decode cX9_saves 58 = .ok (.imul, 1) := by decide +kernel
theorem dX9_saves_59 : decode cX9_saves 59 = .ok (.iadd, 1) := by decide +kernel
theorem dX9_saves_60 : decode cX9_saves 60 = .ok (.iload 4, 2) := by decide +kernel
theorem dX9_saves_62 : decode cX9_saves 62 = .ok (.iadd, 1) := by decide +kernel
theorem dX9_saves_63 : decode cX9_saves 63 = .ok (.iload_n 3, 1) := by decide +kernel
theorem dX9_saves_64 : decode cX9_saves 64 = .ok (.iastore, 1) := by decide +kernel
theorem dX9_saves_65 : decode cX9_saves 65 = .ok (.aload_n 0, 1) := by decide +kernel
theorem dX9_saves_66 : decode cX9_saves 66 = .ok (.getfield 13, 3) := by decide +kernel
theorem dX9_saves_69 : decode cX9_saves 69 = .ok (.sipush 170, 3) := by decide +kernel
theorem dX9_saves_72 : decode cX9_saves 72 = .ok (.bipush 12, 2) := by decide +kernel
theorem dX9_saves_74 : decode cX9_saves 74 = .ok (.iload_n 1, 1) := by decide +kernel
theorem dX9_saves_75 : decode cX9_saves 75 = .ok (.imul, 1) := by decide +kernel
theorem dX9_saves_76 : decode cX9_saves 76 = .ok (.iadd, 1) := by decide +kernel
theorem dX9_saves_77 : decode cX9_saves 77 = .ok (.iload 4, 2) := by decide +kernel
theorem dX9_saves_79 : decode cX9_saves 79 = .ok (.iadd, 1) := by decide +kernel
theorem dX9_saves_80 : decode cX9_saves 80 = .ok (.iconst 0, 1) := by decide +kernel
theorem dX9_saves_81 : decode cX9_saves 81 = .ok (.iastore, 1) := by decide +kernel
theorem dX9_saves_82 : decode cX9_saves 82 = .ok (.aload_n 0, 1) := by decide +kernel
theorem dX9_saves_83 : decode cX9_saves 83 = .ok (.iload_n 1, 1) := by decide +kernel
theorem dX9_saves_84 : decode cX9_saves 84 = .ok (.iload 4, 2) := by decide +kernel
theorem dX9_saves_86 : decode cX9_saves 86 = .ok (.invokevirtual 46, 3) := by decide +kernel
theorem dX9_saves_89 : decode cX9_saves 89 = .ok (.return_, 1) := by decide +kernel
theorem dX9_save_0 : decode cX9_save 0 = .ok (.aload_n 0, 1) := by decide +kernel
theorem dX9_save_1 : decode cX9_save 1 = .ok (.iload_n 1, 1) := by decide +kernel
theorem dX9_save_2 : decode cX9_save 2 = .ok (.invokevirtual 54, 3) := by decide +kernel
theorem dX9_save_5 : decode cX9_save 5 = .ok (.ifCond .ne 5, 3) := by decide +kernel
theorem dX9_save_8 : decode cX9_save 8 = .ok (.iconst (-1), 1) := by decide +kernel
theorem dX9_save_9 : decode cX9_save 9 = .ok (.ireturn, 1) := by decide +kernel
theorem dX9_save_10 : decode cX9_save 10 = .ok (.aload_n 0, 1) := by decide +kernel
theorem dX9_save_11 : decode cX9_save 11 = .ok (.getfield 13, 3) := by decide +kernel
theorem dX9_save_14 : decode cX9_save 14 = .ok (.bipush 10, 2) := by decide +kernel
theorem dX9_save_16 : decode cX9_save 16 = .ok (.iload_n 1, 1) := by decide +kernel
theorem dX9_save_17 : decode cX9_save 17 = .ok (.iadd, 1) := by decide +kernel
theorem dX9_save_18 : decode cX9_save 18 = .ok (.iaload, 1) := by decide +kernel
theorem dX9_save_19 : decode cX9_save 19 = .ok (.bipush 12, 2) := by decide +kernel
theorem dX9_save_21 : decode cX9_save 21 = .ok (.if_icmp .ne 6, 3) := by decide +kernel
theorem dX9_save_24 : decode cX9_save 24 = .ok (.bipush (-3), 2) := by decide +kernel
theorem dX9_save_26 : decode cX9_save 26 = .ok (.ireturn, 1) := by decide +kernel
theorem dX9_save_27 : decode cX9_save 27 = .ok (.aload_n 0, 1) := by decide +kernel
theorem dX9_save_28 : decode cX9_save 28 = .ok (.iload_n 1, 1) := by decide +kernel
theorem dX9_save_29 : decode cX9_save 29 = .ok (.aload_n 0, 1) := by decide +kernel
theorem dX9_save_30 : decode cX9_save 30 = .ok (.getfield 13, 3) := by decide +kernel
theorem dX9_save_33 : decode cX9_save 33 = .ok (.bipush 15, 2) := by decide +kernel
theorem dX9_save_35 : decode cX9_save 35 = .ok (.iload_n 1, 1) := by decide +kernel
theorem dX9_save_36 : decode cX9_save 36 = .ok (.iadd, 1) := by decide +kernel
theorem dX9_save_37 : decode cX9_save 37 = .ok (.iaload, 1) := by decide +kernel
theorem dX9_save_38 : decode cX9_save 38 = .ok (.iconst 1, 1) := by decide +kernel
theorem dX9_save_39 : decode cX9_save 39 = .ok (.iadd, 1) := by decide +kernel
theorem dX9_save_40 : decode cX9_save 40 = .ok (.iconst 0, 1) := by decide +kernel
theorem dX9_save_41 : decode cX9_save 41 = .ok (.invokevirtual 58, 3) := by decide +kernel
theorem dX9_save_44 : decode cX9_save 44 = .ok (.aload_n 0, 1) := by decide +kernel
theorem dX9_save_45 : decode cX9_save 45 = .ok (.getfield 13, 3) := by decide +kernel
theorem dX9_save_48 : decode cX9_save 48 = .ok (.bipush 10, 2) := by decide +kernel
theorem dX9_save_50 : decode cX9_save 50 = .ok (.iload_n 1, 1) := by decide +kernel
theorem dX9_save_51 : decode cX9_save 51 = .ok (.iadd, 1) := by decide +kernel
theorem dX9_save_52 : decode cX9_save 52 = .ok (.iaload, 1) := by decide +kernel
theorem dX9_save_53 : decode cX9_save 53 = .ok (.ireturn, 1) := by decide +kernel
theorem dX9_send_0 : decode cX9_send 0 = .ok (.aload_n 0, 1) := by decide +kernel
theorem dX9_send_1 : decode cX9_send 1 = .ok (.iload_n 1, 1) := by decide +kernel
theorem dX9_send_2 : decode cX9_send 2 = .ok (.invokevirtual 54, 3) := by decide +kernel
theorem dX9_send_5 : decode cX9_send 5 = .ok (.ifCond .eq 16, 3) := by decide +kernel
theorem dX9_send_8 : decode cX9_send 8 = .ok (.aload_n 0, 1) := by decide +kernel
theorem dX9_send_9 : decode cX9_send 9 = .ok (.iload_n 2, 1) := by decide +kernel
theorem dX9_send_10 : decode cX9_send 10 = .ok (.invokevirtual 54, 3) := by decide +kernel
theorem dX9_send_13 : decode cX9_send 13 = .ok (.ifCond .eq 8, 3) := by decide +kernel
theorem dX9_send_16 : decode cX9_send 16 = .ok (.iload_n 1, 1) := by decide +kernel
theorem dX9_send_17 : decode cX9_send 17 = .ok (.iload_n 2, 1) := by decide +kernel
theorem dX9_send_18 : decode cX9_send 18 = .ok (.if_icmp .ne 5, 3) := by decide +kernel
theorem dX9_send_21 : decode cX9_send 21 = .ok (.iconst (-1), 1) := by decide +kernel
theorem dX9_send_22 : decode cX9_send 22 = .ok (.ireturn, 1) := by decide +kernel
theorem dX9_send_23 : decode cX9_send 23 = .ok (.aload_n 0, 1) := by decide +kernel
theorem dX9_send_24 : decode cX9_send 24 = .ok (.getfield 13, 3) := by decide +kernel
theorem dX9_send_27 : decode cX9_send 27 = .ok (.iconst 2, 1) := by decide +kernel
theorem dX9_send_28 : decode cX9_send 28 = .ok (.iaload, 1) := by decide +kernel
theorem dX9_send_29 : decode cX9_send 29 = .ok (.istore_n 3, 1) := by decide +kernel
theorem dX9_send_30 : decode cX9_send 30 = .ok (.iload_n 3, 1) := by decide +kernel
theorem dX9_send_31 : decode cX9_send 31 = .ok (.bipush 60, 2) := by decide +kernel
theorem dX9_send_33 : decode cX9_send 33 = .ok (.if_icmp .ne 6, 3) := by decide +kernel
theorem dX9_send_36 : decode cX9_send 36 = .ok (.bipush (-3), 2) := by decide +kernel
theorem dX9_send_38 : decode cX9_send 38 = .ok (.ireturn, 1) := by decide +kernel
theorem dX9_send_39 : decode cX9_send 39 = .ok (.aload_n 0, 1) := by decide +kernel
theorem dX9_send_40 : decode cX9_send 40 = .ok (.getfield 13, 3) := by decide +kernel
theorem dX9_send_43 : decode cX9_send 43 = .ok (.iconst 2, 1) := by decide +kernel
theorem dX9_send_44 : decode cX9_send 44 = .ok (.iload_n 3, 1) := by decide +kernel
theorem dX9_send_45 : decode cX9_send 45 = .ok (.iconst 1, 1) := by decide +kernel
theorem dX9_send_46 : decode cX9_send 46 = .ok (.iadd, 1) := by decide +kernel
theorem dX9_send_47 : decode cX9_send 47 = .ok (.iastore, 1) := by decide +kernel
theorem dX9_send_48 : decode cX9_send 48 = .ok (.aload_n 0, 1) := by decide +kernel
theorem dX9_send_49 : decode cX9_send 49 = .ok (.iload_n 3, 1) := by decide +kernel
theorem dX9_send_50 : decode cX9_send 50 = .ok (.iconst 0, 1) := by decide +kernel
theorem dX9_send_51 : decode cX9_send 51 = .ok (.iload_n 1, 1) := by decide +kernel
theorem dX9_send_52 : decode cX9_send 52 = .ok (.invokevirtual 62, 3) := by decide +kernel
theorem dX9_send_55 : decode cX9_send 55 = .ok (.aload_n 0, 1) := by decide +kernel
theorem dX9_send_56 : decode cX9_send 56 = .ok (.iload_n 3, 1) := by decide +kernel
theorem dX9_send_57 : decode cX9_send 57 = .ok (.iconst 1, 1) := by decide +kernel
theorem dX9_send_58 : decode cX9_send 58 = .ok (.iload_n 2, 1) := by decide +kernel
theorem dX9_send_59 : decode cX9_send 59 = .ok (.invokevirtual 62, 3) := by decide +kernel
theorem dX9_send_62 : decode cX9_send 62 = .ok (.aload_n 0, 1) := by decide +kernel
theorem dX9_send_63 : decode cX9_send 63 = .ok (.iload_n 3, 1) := by decide +kernel
theorem dX9_send_64 : decode cX9_send 64 = .ok (.iconst 2, 1) := by decide +kernel
theorem dX9_send_65 : decode cX9_send 65 = .ok (.aload_n 0, 1) := by decide +kernel
theorem dX9_send_66 : decode cX9_send 66 = .ok (.getfield 13, 3) := by decide +kernel
theorem dX9_send_69 : decode cX9_send 69 = .ok (.bipush 10, 2) := by decide +kernel
theorem dX9_send_71 : decode cX9_send 71 = .ok (.iload_n 1, 1) := by decide +kernel
theorem dX9_send_72 : decode cX9_send 72 = .ok (.iadd, 1) := by decide +kernel
theorem dX9_send_73 : decode cX9_send 73 = .ok (.iaload, 1) := by decide +kernel
theorem dX9_send_74 : decode cX9_send 74 = .ok (.iconst 1, 1) := by decide +kernel
theorem dX9_send_75 : decode cX9_send 75 = .ok (.isub, 1) := by decide +kernel
theorem dX9_send_76 : decode cX9_send 76 = .ok (.invokevirtual 62, 3) := by decide +kernel
theorem dX9_send_79 : decode cX9_send 79 = .ok (.aload_n 0, 1) := by decide +kernel
theorem dX9_send_80 : decode cX9_send 80 = .ok (.iload_n 3, 1) := by decide +kernel
theorem dX9_send_81 : decode cX9_send 81 = .ok (.iconst 3, 1) := by decide +kernel
theorem dX9_send_82 : decode cX9_send 82 = .ok (.bipush (-4), 2) := by decide +kernel
theorem dX9_send_84 : decode cX9_send 84 = .ok (.invokevirtual 62, 3) := by decide +kernel
theorem dX9_send_87 : decode cX9_send 87 = .ok (.aload_n 0, 1) := by decide +kernel
theorem dX9_send_88 : decode cX9_send 88 = .ok (.iload_n 3, 1) := by decide +kernel
theorem dX9_send_89 : decode cX9_send 89 = .ok (.iconst 4, 1) := by decide +kernel
theorem dX9_send_90 : decode cX9_send 90 = .ok (.aload_n 0, 1) := by decide +kernel
theorem dX9_send_91 : decode cX9_send 91 = .ok (.getfield 13, 3) := by decide +kernel
theorem dX9_send_94 : decode cX9_send 94 = .ok (.bipush 15, 2) := by decide +kernel
theorem dX9_send_96 : decode cX9_send 96 = .ok (.iload_n 1, 1) := by decide +kernel
theorem dX9_send_97 : decode cX9_send 97 = .ok (.iadd, 1) := by decide +kernel
theorem dX9_send_98 : decode cX9_send 98 = .ok (.iaload, 1) := by decide +kernel
theorem dX9_send_99 : decode cX9_send 99 = .ok (.invokevirtual 62, 3) := by decide +kernel
theorem dX9_send_102 : decode cX9_send 102 = .ok (.aload_n 0, 1) := by decide +kernel
theorem dX9_send_103 : decode cX9_send 103 = .ok (.iload_n 3, 1) := by decide +kernel
theorem dX9_send_104 : decode cX9_send 104 = .ok (.iconst 5, 1) := by decide +kernel
theorem dX9_send_105 : decode cX9_send 105 = .ok (.iconst 0, 1) := by decide +kernel
theorem dX9_send_106 : decode cX9_send 106 = .ok (.invokevirtual 62, 3) := by decide +kernel
theorem dX9_send_109 : decode cX9_send 109 = .ok (.aload_n 0, 1) := by decide +kernel
theorem dX9_send_110 : decode cX9_send 110 = .ok (.iload_n 3, 1) := by decide +kernel
theorem dX9_send_111 : decode cX9_send 111 = .ok (.bipush 6, 2) := by decide +kernel
theorem dX9_send_113 : decode cX9_send 113 = .ok (.aload_n 0, 1) := by decide +kernel
theorem dX9_send_114 : decode cX9_send 114 = .ok (.getfield 13, 3) := by decide +kernel
theorem dX9_send_117 : decode cX9_send 117 = .ok (.iconst 4, 1) := by decide +kernel
theorem dX9_send_118 : decode cX9_send 118 = .ok (.iaload, 1) := by decide +kernel
theorem dX9_send_119 : decode cX9_send 119 = .ok (.invokevirtual 62, 3) := by decide +kernel
theorem dX9_send_122 : decode cX9_send 122 = .ok (.aload_n 0, 1) := by decide +kernel
theorem dX9_send_123 : decode cX9_send 123 = .ok (.iload_n 3, 1) := by decide +kernel
theorem dX9_send_124 : decode cX9_send 124 = .ok (.bipush 7, 2) := by decide +kernel
theorem dX9_send_126 : decode cX9_send 126 = .ok (.bipush (-4), 2) := by decide +kernel
theorem dX9_send_128 : decode cX9_send 128 = .ok (.invokevirtual 62, 3) := by decide +kernel
