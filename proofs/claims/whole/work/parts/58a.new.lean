theorem dX7_init_0 : decode cX7_init 0 = .ok (.aload_n 0, 1) := by decide +kernel
theorem dX7_init_1 : decode cX7_init 1 = .ok (.invokespecial 1, 3) := by decide +kernel
theorem dX7_init_4 : decode cX7_init 4 = .ok (.aload_n 0, 1) := by decide +kernel
theorem dX7_init_5 : decode cX7_init 5 = .ok (.bipush 80, 2) := by decide +kernel
theorem dX7_init_7 : decode cX7_init 7 = .ok (.newarray .int, 2) := by decide +kernel
theorem dX7_init_9 : decode cX7_init 9 = .ok (.putfield 7, 3) := by decide +kernel
theorem dX7_init_12 : decode cX7_init 12 = .ok (.aload_n 0, 1) := by decide +kernel
theorem dX7_init_13 : decode cX7_init 13 = .ok (.bipush 6, 2) := by decide +kernel
theorem dX7_init_15 : decode cX7_init 15 = .ok (.newarray .int, 2) := by decide +kernel
theorem dX7_init_17 : decode cX7_init 17 = .ok (.putfield 13, 3) := by decide +kernel
theorem dX7_init_20 : decode cX7_init 20 = .ok (.aload_n 0, 1) := by decide +kernel
theorem dX7_init_21 : decode cX7_init 21 = .ok (.bipush 20, 2) := by decide +kernel
theorem dX7_init_23 : decode cX7_init 23 = .ok (.newarray .int, 2) := by decide +kernel
theorem dX7_init_25 : decode cX7_init 25 = .ok (.putfield 16, 3) := by decide +kernel
theorem dX7_init_28 : decode cX7_init 28 = .ok (.aload_n 0, 1) := by decide +kernel
theorem dX7_init_29 : decode cX7_init 29 = .ok (.bipush 6, 2) := by decide +kernel
theorem dX7_init_31 : decode cX7_init 31 = .ok (.newarray .int, 2) := by decide +kernel
theorem dX7_init_33 : decode cX7_init 33 = .ok (.putfield 19, 3) := by decide +kernel
theorem dX7_init_36 : decode cX7_init 36 = .ok (.aload_n 0, 1) := by decide +kernel
theorem dX7_init_37 : decode cX7_init 37 = .ok (.sipush 160, 3) := by decide +kernel
theorem dX7_init_40 : decode cX7_init 40 = .ok (.newarray .int, 2) := by decide +kernel
theorem dX7_init_42 : decode cX7_init 42 = .ok (.putfield 22, 3) := by decide +kernel
theorem dX7_init_45 : decode cX7_init 45 = .ok (.aload_n 0, 1) := by decide +kernel
theorem dX7_init_46 : decode cX7_init 46 = .ok (.bipush 12, 2) := by decide +kernel
theorem dX7_init_48 : decode cX7_init 48 = .ok (.newarray .int, 2) := by decide +kernel
theorem dX7_init_50 : decode cX7_init 50 = .ok (.dup, 1) := by decide +kernel
theorem dX7_init_51 : decode cX7_init 51 = .ok (.iconst 0, 1) := by decide +kernel
theorem dX7_init_52 : decode cX7_init 52 = .ok (.iconst 0, 1) := by decide +kernel
theorem dX7_init_53 : decode cX7_init 53 = .ok (.iastore, 1) := by decide +kernel
theorem dX7_init_54 : decode cX7_init 54 = .ok (.dup, 1) := by decide +kernel
theorem dX7_init_55 : decode cX7_init 55 = .ok (.iconst 1, 1) := by decide +kernel
theorem dX7_init_56 : decode cX7_init 56 = .ok (.iconst 4, 1) := by decide +kernel
theorem dX7_init_57 : decode cX7_init 57 = .ok (.iastore, 1) := by decide +kernel
theorem dX7_init_58 : decode cX7_init 58 = .ok (.dup, 1) := by decide +kernel
theorem dX7_init_59 : decode cX7_init 59 = .ok (.iconst 2, 1) := by decide +kernel
theorem dX7_init_60 : decode cX7_init 60 = .ok (.bipush 8, 2) := by decide +kernel
theorem dX7_init_62 : decode cX7_init 62 = .ok (.iastore, 1) := by decide +kernel
theorem dX7_init_63 : decode cX7_init 63 = .ok (.dup, 1) := by decide +kernel
theorem dX7_init_64 : decode cX7_init 64 = .ok (.iconst 3, 1) := by decide +kernel
theorem dX7_init_65 : decode cX7_init 65 = .ok (.bipush 11, 2) := by decide +kernel
theorem dX7_init_67 : decode cX7_init 67 = .ok (.iastore, 1) := by decide +kernel
theorem dX7_init_68 : decode cX7_init 68 = .ok (.dup, 1) := by decide +kernel
theorem dX7_init_69 : decode cX7_init 69 = .ok (.iconst 4, 1) := by decide +kernel
theorem dX7_init_70 : decode cX7_init 70 = .ok (.bipush 15, 2) := by decide +kernel
theorem dX7_init_72 : decode cX7_init 72 = .ok (.iastore, 1) := by decide +kernel
theorem dX7_init_73 : decode cX7_init 73 = .ok (.dup, 1) := by decide +kernel
theorem dX7_init_74 : decode cX7_init 74 = .ok (.iconst 5, 1) := by decide +kernel
theorem dX7_init_75 : decode cX7_init 75 = .ok (.bipush 20, 2) := by decide +kernel
theorem dX7_init_77 : decode cX7_init 77 = .ok (.iastore, 1) := by decide +kernel
theorem dX7_init_78 : decode cX7_init 78 = .ok (.dup, 1) := by decide +kernel
theorem dX7_init_79 : decode cX7_init 79 = .ok (.bipush 6, 2) := by decide +kernel
theorem dX7_init_81 : decode cX7_init 81 = .ok (.bipush 26, 2) := by decide +kernel
theorem dX7_init_83 : decode cX7_init 83 = .ok (.iastore, 1) := by decide +kernel
theorem dX7_init_84 : decode cX7_init 84 = .ok (.dup, 1) := by decide +kernel
theorem dX7_init_85 : decode cX7_init 85 = .ok (.bipush 7, 2) := by decide +kernel
theorem dX7_init_87 : decode cX7_init 87 = .ok (.bipush 31, 2) := by decide +kernel
theorem dX7_init_89 : decode cX7_init 89 = .ok (.iastore, 1) := by decide +kernel
theorem dX7_init_90 : decode cX7_init 90 = .ok (.dup, 1) := by decide +kernel
theorem dX7_init_91 : decode cX7_init 91 = .ok (.bipush 8, 2) := by decide +kernel
theorem dX7_init_93 : decode cX7_init 93 = .ok (.bipush 35, 2) := by decide +kernel
theorem dX7_init_95 : decode cX7_init 95 = .ok (.iastore, 1) := by decide +kernel
theorem dX7_init_96 : decode cX7_init 96 = .ok (.dup, 1) := by decide +kernel
theorem dX7_init_97 : decode cX7_init 97 = .ok (.bipush 9, 2) := by decide +kernel
theorem dX7_init_99 : decode cX7_init 99 = .ok (.bipush 39, 2) := by decide +kernel
theorem dX7_init_101 : decode cX7_init 101 = .ok (.iastore, 1) := by decide +kernel
theorem dX7_init_102 : decode cX7_init 102 = .ok (.dup, 1) := by decide +kernel
theorem dX7_init_103 : decode cX7_init 103 = .ok (.bipush 10, 2) := by decide +kernel
theorem dX7_init_105 : decode cX7_init 105 = .ok (.bipush 46, 2) := by decide +kernel
theorem dX7_init_107 : decode cX7_init 107 = .ok (.iastore, 1) := by decide +kernel
theorem dX7_init_108 : decode cX7_init 108 = .ok (.dup, 1) := by decide +kernel
theorem dX7_init_109 : decode cX7_init 109 = .ok (.bipush 11, 2) := by decide +kernel
theorem dX7_init_111 : decode cX7_init 111 = .ok (.bipush 50, 2) := by decide +kernel
theorem dX7_init_113 : decode cX7_init 113 = .ok (.iastore, 1) := by decide +kernel
theorem dX7_init_114 : decode cX7_init 114 = .ok (.putfield 25, 3) := by decide +kernel
theorem dX7_init_117 : decode cX7_init 117 = .ok (.aload_n 0, 1) := by decide +kernel
theorem dX7_init_118 : decode cX7_init 118 = .ok (.bipush 50, 2) := by decide +kernel
theorem dX7_init_120 : decode cX7_init 120 = .ok (.newarray .int, 2) := by decide +kernel
theorem dX7_init_122 : decode cX7_init 122 = .ok (.dup, 1) := by decide +kernel
theorem dX7_init_123 : decode cX7_init 123 = .ok (.iconst 0, 1) := by decide +kernel
theorem dX7_init_124 : decode cX7_init 124 = .ok (.bipush 104, 2) := by decide +kernel
theorem dX7_init_126 : decode cX7_init 126 = .ok (.iastore, 1) := by decide +kernel
theorem dX7_init_127 : decode cX7_init 127 = .ok (.dup, 1) := by decide +kernel
theorem dX7_init_128 : decode cX7_init 128 = .ok (.iconst 1, 1) := by decide +kernel
theorem dX7_init_129 : decode cX7_init 129 = .ok (.bipush 97, 2) := by decide +kernel
theorem dX7_init_131 : decode cX7_init 131 = .ok (.iastore, 1) := by decide +kernel
theorem dX7_init_132 : decode cX7_init 132 = .ok (.dup, 1) := by decide +kernel
theorem dX7_init_133 : decode cX7_init 133 = .ok (.iconst 2, 1) := by decide +kernel
theorem dX7_init_134 : decode cX7_init 134 = .ok (.bipush 105, 2) := by decide +kernel
theorem dX7_init_136 : decode cX7_init 136 = .ok (.iastore, 1) := by decide +kernel
theorem dX7_init_137 : decode cX7_init 137 = .ok (.dup, 1) := by decide +kernel
theorem dX7_init_138 : decode cX7_init 138 = .ok (.iconst 3, 1) := by decide +kernel
theorem dX7_init_139 : decode cX7_init 139 = .ok (.bipush 114, 2) := by decide +kernel
theorem dX7_init_141 : decode cX7_init 141 = .ok (.iastore, 1) := by decide +kernel
theorem dX7_init_142 : decode cX7_init 142 = .ok (.dup, 1) := by decide +kernel
theorem dX7_init_143 : decode cX7_init 143 = .ok (.iconst 4, 1) := by decide +kernel
theorem dX7_init_144 : decode cX7_init 144 = .ok (.bipush 107, 2) := by decide +kernel
theorem dX7_init_146 : decode cX7_init 146 = .ok (.iastore, 1) := by decide +kernel
theorem dX7_init_147 : decode cX7_init 147 = .ok (.dup, 1) := by decide +kernel
theorem dX7_init_148 : decode cX7_init 148 = .ok (.iconst 5, 1) := by decide +kernel
theorem dX7_init_149 : decode cX7_init 149 = .ok (.bipush 105, 2) := by decide +kernel
theorem dX7_init_151 : decode cX7_init 151 = .ok (.iastore, 1) := by decide +kernel
theorem dX7_init_152 : decode cX7_init 152 = .ok (.dup, 1) := by decide +kernel
theorem dX7_init_153 : decode cX7_init 153 = .ok (.bipush 6, 2) := by decide +kernel
theorem dX7_init_155 : decode cX7_init 155 = .ok (.bipush 110, 2) := by decide +kernel
theorem dX7_init_157 : decode cX7_init 157 = .ok (.iastore, 1) := by decide +kernel
theorem dX7_init_158 : decode cX7_init 158 = .ok (.dup, 1) := by decide +kernel
theorem dX7_init_159 : decode cX7_init 159 = .ok (.bipush 7, 2) := by decide +kernel
theorem dX7_init_161 : decode cX7_init 161 = .ok (.bipush 103, 2) := by decide +kernel
theorem dX7_init_163 : decode cX7_init 163 = .ok (.iastore, 1) := by decide +kernel
theorem dX7_init_164 : decode cX7_init 164 = .ok (.dup, 1) := by decide +kernel
theorem dX7_init_165 : decode cX7_init 165 = .ok (.bipush 8, 2) := by decide +kernel
theorem dX7_init_167 : decode cX7_init 167 = .ok (.bipush 108, 2) := by decide +kernel
theorem dX7_init_169 : decode cX7_init 169 = .ok (.iastore, 1) := by decide +kernel
theorem dX7_init_170 : decode cX7_init 170 = .ok (.dup, 1) := by decide +kernel
theorem dX7_init_171 : decode cX7_init 171 = .ok (.bipush 9, 2) := by decide +kernel
theorem dX7_init_173 : decode cX7_init 173 = .ok (.bipush 97, 2) := by decide +kernel
theorem dX7_init_175 : decode cX7_init 175 = .ok (.iastore, 1) := by decide +kernel
theorem dX7_init_176 : decode cX7_init 176 = .ok (.dup, 1) := by decide +kernel
theorem dX7_init_177 : decode cX7_init 177 = .ok (.bipush 10, 2) := by decide +kernel
theorem dX7_init_179 : decode cX7_init 179 = .ok (.bipush 119, 2) := by decide +kernel
theorem dX7_init_181 : decode cX7_init 181 = .ok (.iastore, 1) := by decide +kernel
theorem dX7_init_182 : decode cX7_init 182 = .ok (.dup, 1) := by decide +kernel
theorem dX7_init_183 : decode cX7_init 183 = .ok (.bipush 11, 2) := by decide +kernel
theorem dX7_init_185 : decode cX7_init 185 = .ok (.bipush 108, 2) := by decide +kernel
theorem dX7_init_187 : decode cX7_init 187 = .ok (.iastore, 1) := by decide +kernel
theorem dX7_init_188 : decode cX7_init 188 = .ok (.dup, 1) := by decide +kernel
theorem dX7_init_189 : decode cX7_init 189 = .ok (.bipush 12, 2) := by decide +kernel
theorem dX7_init_191 : decode cX7_init 191 = .ok (.bipush 111, 2) := by decide +kernel
theorem dX7_init_193 : decode cX7_init 193 = .ok (.iastore, 1) := by decide +kernel
theorem dX7_init_194 : decode cX7_init 194 = .ok (.dup, 1) := by decide +kernel
theorem dX7_init_195 : decode cX7_init 195 = .ok (.bipush 13, 2) := by decide +kernel
theorem dX7_init_197 : decode cX7_init 197 = .ok (.bipush 97, 2) := by decide +kernel
theorem dX7_init_199 : decode cX7_init 199 = .ok (.iastore, 1) := by decide +kernel
theorem dX7_init_200 : decode cX7_init 200 = .ok (.dup, 1) := by decide +kernel
theorem dX7_init_201 : decode cX7_init 201 = .ok (.bipush 14, 2) := by decide +kernel
theorem dX7_init_203 : decode cX7_init 203 = .ok (.bipush 100, 2) := by decide +kernel
theorem dX7_init_205 : decode cX7_init 205 = .ok (.iastore, 1) := by decide +kernel
theorem dX7_init_206 : decode cX7_init 206 = .ok (.dup, 1) := by decide +kernel
theorem dX7_init_207 : decode cX7_init 207 = .ok (.bipush 15, 2) := by decide +kernel
theorem dX7_init_209 : decode cX7_init 209 = .ok (.bipush 112, 2) := by decide +kernel
theorem dX7_init_211 : decode cX7_init 211 = .ok (.iastore, 1) := by decide +kernel
theorem dX7_init_212 : decode cX7_init 212 = .ok (.dup, 1) := by decide +kernel
theorem dX7_init_213 : decode cX7_init 213 = .ok (.bipush 16, 2) := by decide +kernel
theorem dX7_init_215 : decode cX7_init 215 = .ok (.bipush 114, 2) := by decide +kernel
theorem dX7_init_217 : decode cX7_init 217 = .ok (.iastore, 1) := by decide +kernel
theorem dX7_init_218 : decode cX7_init 218 = .ok (.dup, 1) := by decide +kernel
theorem dX7_init_219 : decode cX7_init 219 = .ok (.bipush 17, 2) := by decide +kernel
theorem dX7_init_221 : decode cX7_init 221 = .ok (.bipush 105, 2) := by decide +kernel
theorem dX7_init_223 : decode cX7_init 223 = .ok (.iastore, 1) := by decide +kernel
theorem dX7_init_224 : decode cX7_init 224 = .ok (.dup, 1) := by decide +kernel
theorem dX7_init_225 : decode cX7_init 225 = .ok (.bipush 18, 2) := by decide +kernel
theorem dX7_init_227 : decode cX7_init 227 = .ok (.bipush 122, 2) := by decide +kernel
theorem dX7_init_229 : decode cX7_init 229 = .ok (.iastore, 1) := by decide +kernel
theorem dX7_init_230 : decode cX7_init 230 = .ok (.dup, 1) := by decide +kernel
theorem dX7_init_231 : decode cX7_init 231 = .ok (.bipush 19, 2) := by decide +kernel
theorem dX7_init_233 : decode cX7_init 233 = .ok (.bipush 101, 2) := by decide +kernel
theorem dX7_init_235 : decode cX7_init 235 = .ok (.iastore, 1) := by decide +kernel
theorem dX7_init_236 : decode cX7_init 236 = .ok (.dup, 1) := by decide +kernel
theorem dX7_init_237 : decode cX7_init 237 = .ok (.bipush 20, 2) := by decide +kernel
theorem dX7_init_239 : decode cX7_init 239 = .ok (.bipush 98, 2) := by decide +kernel
theorem dX7_init_241 : decode cX7_init 241 = .ok (.iastore, 1) := by decide +kernel
theorem dX7_init_242 : decode cX7_init 242 = .ok (.dup, 1) := by decide +kernel
theorem dX7_init_243 : decode cX7_init 243 = .ok (.bipush 21, 2) := by decide +kernel
theorem dX7_init_245 : decode cX7_init 245 = .ok (.bipush 114, 2) := by decide +kernel
theorem dX7_init_247 : decode cX7_init 247 = .ok (.iastore, 1) := by decide +kernel
theorem dX7_init_248 : decode cX7_init 248 = .ok (.dup, 1) := by decide +kernel
theorem dX7_init_249 : decode cX7_init 249 = .ok (.bipush 22, 2) := by decide +kernel
theorem dX7_init_251 : decode cX7_init 251 = .ok (.bipush 111, 2) := by decide +kernel
theorem dX7_init_253 : decode cX7_init 253 = .ok (.iastore, 1) := by decide +kernel
theorem dX7_init_254 : decode cX7_init 254 = .ok (.dup, 1) := by decide +kernel
theorem dX7_init_255 : decode cX7_init 255 = .ok (.bipush 23, 2) := by decide +kernel
theorem dX7_init_257 : decode cX7_init 257 = .ok (.bipush 107, 2) := by decide +kernel
theorem dX7_init_259 : decode cX7_init 259 = .ok (.iastore, 1) := by decide +kernel
theorem dX7_init_260 : decode cX7_init 260 = .ok (.dup, 1) := by decide +kernel
theorem dX7_init_261 : decode cX7_init 261 = .ok (.bipush 24, 2) := by decide +kernel
theorem dX7_init_263 : decode cX7_init 263 = .ok (.bipush 101, 2) := by decide +kernel
theorem dX7_init_265 : decode cX7_init 265 = .ok (.iastore, 1) := by decide +kernel
theorem dX7_init_266 : decode cX7_init 266 = .ok (.dup, 1) := by decide +kernel
theorem dX7_init_267 : decode cX7_init 267 = .ok (.bipush 25, 2) := by decide +kernel
theorem dX7_init_269 : decode cX7_init 269 = .ok (.bipush 110, 2) := by decide +kernel
theorem dX7_init_271 : decode cX7_init 271 = .ok (.iastore, 1) := by decide +kernel
theorem dX7_init_272 : decode cX7_init 272 = .ok (.dup, 1) := by decide +kernel
theorem dX7_init_273 : decode cX7_init 273 = .ok (.bipush 26, 2) := by decide +kernel
theorem dX7_init_275 : decode cX7_init 275 = .ok (.bipush 112, 2) := by decide +kernel
theorem dX7_init_277 : decode cX7_init 277 = .ok (.iastore, 1) := by decide +kernel
theorem dX7_init_278 : decode cX7_init 278 = .ok (.dup, 1) := by decide +kernel
theorem dX7_init_279 : decode cX7_init 279 = .ok (.bipush 27, 2) := by decide +kernel
theorem dX7_init_281 : decode cX7_init 281 = .ok (.bipush 108, 2) := by decide +kernel
theorem dX7_init_283 : decode cX7_init 283 = .ok (.iastore, 1) := by decide +kernel
theorem dX7_init_284 : decode cX7_init 284 = .ok (.dup, 1) := by decide +kernel
theorem dX7_init_285 : decode cX7_init 285 = .ok (.bipush 28, 2) := by decide +kernel
theorem dX7_init_287 : decode cX7_init 287 = .ok (.bipush 97, 2) := by decide +kernel
theorem dX7_init_289 : decode cX7_init 289 = .ok (.iastore, 1) := by decide +kernel
theorem dX7_init_290 : decode cX7_init 290 = .ok (.dup, 1) := by decide +kernel
theorem dX7_init_291 : decode cX7_init 291 = .ok (.bipush 29, 2) := by decide +kernel
theorem dX7_init_293 : decode cX7_init 293 = .ok (.bipush 105, 2) := by decide +kernel
theorem dX7_init_295 : decode cX7_init 295 = .ok (.iastore, 1) := by decide +kernel
theorem dX7_init_296 : decode cX7_init 296 = .ok (.dup, 1) := by decide +kernel
theorem dX7_init_297 : decode cX7_init 297 = .ok (.bipush 30, 2) := by decide +kernel
theorem dX7_init_299 : decode cX7_init 299 = .ok (.bipush 110, 2) := by decide +kernel
theorem dX7_init_301 : decode cX7_init 301 = .ok (.iastore, 1) := by decide +kernel
theorem dX7_init_302 : decode cX7_init 302 = .ok (.dup, 1) := by decide +kernel
theorem dX7_init_303 : decode cX7_init 303 = .ok (.bipush 31, 2) := by decide +kernel
theorem dX7_init_305 : decode cX7_init 305 = .ok (.bipush 100, 2) := by decide +kernel
theorem dX7_init_307 : decode cX7_init 307 = .ok (.iastore, 1) := by decide +kernel
theorem dX7_init_308 : decode cX7_init 308 = .ok (.dup, 1) := by decide +kernel
theorem dX7_init_309 : decode cX7_init 309 = .ok (.bipush 32, 2) := by decide +kernel
theorem dX7_init_311 : decode cX7_init 311 = .ok (.bipush 97, 2) := by decide +kernel
theorem dX7_init_313 : decode cX7_init 313 = .ok (.iastore, 1) := by decide +kernel
theorem dX7_init_314 : decode cX7_init 314 = .ok (.dup, 1) := by decide +kernel
theorem dX7_init_315 : decode cX7_init 315 = .ok (.bipush 33, 2) := by decide +kernel
theorem dX7_init_317 : decode cX7_init 317 = .ok (.bipush 109, 2) := by decide +kernel
theorem dX7_init_319 : decode cX7_init 319 = .ok (.iastore, 1) := by decide +kernel
theorem dX7_init_320 : decode cX7_init 320 = .ok (.dup, 1) := by decide +kernel
theorem dX7_init_321 : decode cX7_init 321 = .ok (.bipush 34, 2) := by decide +kernel
theorem dX7_init_323 : decode cX7_init 323 = .ok (.bipush 112, 2) := by decide +kernel
theorem dX7_init_325 : decode cX7_init 325 = .ok (.iastore, 1) := by decide +kernel
theorem dX7_init_326 : decode cX7_init 326 = .ok (.dup, 1) := by decide +kernel
theorem dX7_init_327 : decode cX7_init 327 = .ok (.bipush 35, 2) := by decide +kernel
theorem dX7_init_329 : decode cX7_init 329 = .ok (.bipush 100, 2) := by decide +kernel
theorem dX7_init_331 : decode cX7_init 331 = .ok (.iastore, 1) := by decide +kernel
theorem dX7_init_332 : decode cX7_init 332 = .ok (.dup, 1) := by decide +kernel
theorem dX7_init_333 : decode cX7_init 333 = .ok (.bipush 36, 2) := by decide +kernel
theorem dX7_init_335 : decode cX7_init 335 = .ok (.bipush 121, 2) := by decide +kernel
theorem dX7_init_337 : decode cX7_init 337 = .ok (.iastore, 1) := by decide +kernel
theorem dX7_init_338 : decode cX7_init 338 = .ok (.dup, 1) := by decide +kernel
theorem dX7_init_339 : decode cX7_init 339 = .ok (.bipush 37, 2) := by decide +kernel
theorem dX7_init_341 : decode cX7_init 341 = .ok (.bipush 101, 2) := by decide +kernel
theorem dX7_init_343 : decode cX7_init 343 = .ok (.iastore, 1) := by decide +kernel
theorem dX7_init_344 : decode cX7_init 344 = .ok (.dup, 1) := by decide +kernel
theorem dX7_init_345 : decode cX7_init 345 = .ok (.bipush 38, 2) := by decide +kernel
theorem dX7_init_347 : decode cX7_init 347 = .ok (.bipush 100, 2) := by decide +kernel
theorem dX7_init_349 : decode cX7_init 349 = .ok (.iastore, 1) := by decide +kernel
theorem dX7_init_350 : decode cX7_init 350 = .ok (.dup, 1) := by decide +kernel
theorem dX7_init_351 : decode cX7_init 351 = .ok (.bipush 39, 2) := by decide +kernel
theorem dX7_init_353 : decode cX7_init 353 = .ok (.bipush 100, 2) := by decide +kernel
theorem dX7_init_355 : decode cX7_init 355 = .ok (.iastore, 1) := by decide +kernel
theorem dX7_init_356 : decode cX7_init 356 = .ok (.dup, 1) := by decide +kernel
theorem dX7_init_357 : decode cX7_init 357 = .ok (.bipush 40, 2) := by decide +kernel
theorem dX7_init_359 : decode cX7_init 359 = .ok (.bipush 111, 2) := by decide +kernel
theorem dX7_init_361 : decode cX7_init 361 = .ok (.iastore, 1) := by decide +kernel
theorem dX7_init_362 : decode cX7_init 362 = .ok (.dup, 1) := by decide +kernel
theorem dX7_init_363 : decode cX7_init 363 = .ok (.bipush 41, 2) := by decide +kernel
theorem dX7_init_365 : decode cX7_init 365 = .ok (.bipush 117, 2) := by decide +kernel
theorem dX7_init_367 : decode cX7_init 367 = .ok (.iastore, 1) := by decide +kernel
theorem dX7_init_368 : decode cX7_init 368 = .ok (.dup, 1) := by decide +kernel
theorem dX7_init_369 : decode cX7_init 369 = .ok (.bipush 42, 2) := by decide +kernel
theorem dX7_init_371 : decode cX7_init 371 = .ok (.bipush 98, 2) := by decide +kernel
theorem dX7_init_373 : decode cX7_init 373 = .ok (.iastore, 1) := by decide +kernel
theorem dX7_init_374 : decode cX7_init 374 = .ok (.dup, 1) := by decide +kernel
theorem dX7_init_375 : decode cX7_init 375 = .ok (.bipush 43, 2) := by decide +kernel
theorem dX7_init_377 : decode cX7_init 377 = .ok (.bipush 108, 2) := by decide +kernel
theorem dX7_init_379 : decode cX7_init 379 = .ok (.iastore, 1) := by decide +kernel
theorem dX7_init_380 : decode cX7_init 380 = .ok (.dup, 1) := by decide +kernel
theorem dX7_init_381 : decode cX7_init 381 = .ok (.bipush 44, 2) := by decide +kernel
theorem dX7_init_383 : decode cX7_init 383 = .ok (.bipush 101, 2) := by decide +kernel
theorem dX7_init_385 : decode cX7_init 385 = .ok (.iastore, 1) := by decide +kernel
theorem dX7_init_386 : decode cX7_init 386 = .ok (.dup, 1) := by decide +kernel
theorem dX7_init_387 : decode cX7_init 387 = .ok (.bipush 45, 2) := by decide +kernel
theorem dX7_init_389 : decode cX7_init 389 = .ok (.bipush 100, 2) := by decide +kernel
theorem dX7_init_391 : decode cX7_init 391 = .ok (.iastore, 1) := by decide +kernel
theorem dX7_init_392 : decode cX7_init 392 = .ok (.dup, 1) := by decide +kernel
theorem dX7_init_393 : decode cX7_init 393 = .ok (.bipush 46, 2) := by decide +kernel
theorem dX7_init_395 : decode cX7_init 395 = .ok (.bipush 115, 2) := by decide +kernel
theorem dX7_init_397 : decode cX7_init 397 = .ok (.iastore, 1) := by decide +kernel
theorem dX7_init_398 : decode cX7_init 398 = .ok (.dup, 1) := by decide +kernel
theorem dX7_init_399 : decode cX7_init 399 = .ok (.bipush 47, 2) := by decide +kernel
theorem dX7_init_401 : decode cX7_init 401 = .ok (.bipush 117, 2) := by decide +kernel
theorem dX7_init_403 : decode cX7_init 403 = .ok (.iastore, 1) := by decide +kernel
theorem dX7_init_404 : decode cX7_init 404 = .ok (.dup, 1) := by decide +kernel
theorem dX7_init_405 : decode cX7_init 405 = .ok (.bipush 48, 2) := by decide +kernel
theorem dX7_init_407 : decode cX7_init 407 = .ok (.bipush 110, 2) := by decide +kernel
theorem dX7_init_409 : decode cX7_init 409 = .ok (.iastore, 1) := by decide +kernel
theorem dX7_init_410 : decode cX7_init 410 = .ok (.dup, 1) := by decide +kernel
theorem dX7_init_411 : decode cX7_init 411 = .ok (.bipush 49, 2) := by decide +kernel
theorem dX7_init_413 : decode cX7_init 413 = .ok (.bipush 103, 2) := by decide +kernel
theorem dX7_init_415 : decode cX7_init 415 = .ok (.iastore, 1) := by decide +kernel
theorem dX7_init_416 : decode cX7_init 416 = .ok (.putfield 28, 3) := by decide +kernel
theorem dX7_init_419 : decode cX7_init 419 = .ok (.aload_n 0, 1) := by decide +kernel
theorem dX7_init_420 : decode cX7_init 420 = .ok (.iconst 3, 1) := by decide +kernel
theorem dX7_init_421 : decode cX7_init 421 = .ok (.newarray .int, 2) := by decide +kernel
theorem dX7_init_423 : decode cX7_init 423 = .ok (.putfield 31, 3) := by decide +kernel
theorem dX7_init_426 : decode cX7_init 426 = .ok (.aload_n 0, 1) := by decide +kernel
theorem dX7_init_427 : decode cX7_init 427 = .ok (.iconst 3, 1) := by decide +kernel
theorem dX7_init_428 : decode cX7_init 428 = .ok (.newarray .int, 2) := by decide +kernel
theorem dX7_init_430 : decode cX7_init 430 = .ok (.putfield 34, 3) := by decide +kernel
theorem dX7_init_433 : decode cX7_init 433 = .ok (.aload_n 0, 1) := by decide +kernel
theorem dX7_init_434 : decode cX7_init 434 = .ok (.bipush 8, 2) := by decide +kernel
theorem dX7_init_436 : decode cX7_init 436 = .ok (.newarray .long, 2) := by decide +kernel
theorem dX7_init_438 : decode cX7_init 438 = .ok (.putfield 37, 3) := by decide +kernel
theorem dX7_init_441 : decode cX7_init 441 = .ok (.aload_n 0, 1) := by decide +kernel
theorem dX7_init_442 : decode cX7_init 442 = .ok (.bipush 8, 2) := by decide +kernel
theorem dX7_init_444 : decode cX7_init 444 = .ok (.newarray .long, 2) := by decide +kernel
theorem dX7_init_446 : decode cX7_init 446 = .ok (.putfield 41, 3) := by decide +kernel
theorem dX7_init_449 : decode cX7_init 449 = .ok (.aload_n 0, 1) := by decide +kernel
theorem dX7_init_450 : decode cX7_init 450 = .ok (.bipush 8, 2) := by decide +kernel
theorem dX7_init_452 : decode cX7_init 452 = .ok (.newarray .long, 2) := by decide +kernel
theorem dX7_init_454 : decode cX7_init 454 = .ok (.putfield 44, 3) := by decide +kernel
theorem dX7_init_457 : decode cX7_init 457 = .ok (.aload_n 0, 1) := by decide +kernel
theorem dX7_init_458 : decode cX7_init 458 = .ok (.bipush 8, 2) := by decide +kernel
theorem dX7_init_460 : decode cX7_init 460 = .ok (.newarray .long, 2) := by decide +kernel
theorem dX7_init_462 : decode cX7_init 462 = .ok (.putfield 47, 3) := by decide +kernel
theorem dX7_init_465 : decode cX7_init 465 = .ok (.aload_n 0, 1) := by decide +kernel
theorem dX7_init_466 : decode cX7_init 466 = .ok (.bipush 8, 2) := by decide +kernel
theorem dX7_init_468 : decode cX7_init 468 = .ok (.newarray .long, 2) := by decide +kernel
theorem dX7_init_470 : decode cX7_init 470 = .ok (.putfield 50, 3) := by decide +kernel
theorem dX7_init_473 : decode cX7_init 473 = .ok (.aload_n 0, 1) := by decide +kernel
theorem dX7_init_474 : decode cX7_init 474 = .ok (.bipush 8, 2) := by decide +kernel
theorem dX7_init_476 : decode cX7_init 476 = .ok (.newarray .long, 2) := by decide +kernel
theorem dX7_init_478 : decode cX7_init 478 = .ok (.putfield 53, 3) := by decide +kernel
theorem dX7_init_481 : decode cX7_init 481 = .ok (.aload_n 0, 1) := by decide +kernel
theorem dX7_init_482 : decode cX7_init 482 = .ok (.bipush 12, 2) := by decide +kernel
theorem dX7_init_484 : decode cX7_init 484 = .ok (.newarray .int, 2) := by decide +kernel
theorem dX7_init_486 : decode cX7_init 486 = .ok (.putfield 56, 3) := by decide +kernel
theorem dX7_init_489 : decode cX7_init 489 = .ok (.aload_n 0, 1) := by decide +kernel
theorem dX7_init_490 : decode cX7_init 490 = .ok (.iconst 2, 1) := by decide +kernel
theorem dX7_init_491 : decode cX7_init 491 = .ok (.newarray .boolean, 2) := by decide +kernel
theorem dX7_init_493 : decode cX7_init 493 = .ok (.putfield 59, 3) := by decide +kernel
theorem dX7_init_496 : decode cX7_init 496 = .ok (.aload_n 0, 1) := by decide +kernel
theorem dX7_init_497 : decode cX7_init 497 = .ok (.iconst 4, 1) := by decide +kernel
theorem dX7_init_498 : decode cX7_init 498 = .ok (.newarray .int, 2) := by decide +kernel
theorem dX7_init_500 : decode cX7_init 500 = .ok (.dup, 1) := by decide +kernel
theorem dX7_init_501 : decode cX7_init 501 = .ok (.iconst 0, 1) := by decide +kernel
theorem dX7_init_502 : decode cX7_init 502 = .ok (.bipush (-4), 2) := by decide +kernel
theorem dX7_init_504 : decode cX7_init 504 = .ok (.iastore, 1) := by decide +kernel
theorem dX7_init_505 : decode cX7_init 505 = .ok (.dup, 1) := by decide +kernel
theorem dX7_init_506 : decode cX7_init 506 = .ok (.iconst 1, 1) := by decide +kernel
theorem dX7_init_507 : decode cX7_init 507 = .ok (.bipush (-4), 2) := by decide +kernel
theorem dX7_init_509 : decode cX7_init 509 = .ok (.iastore, 1) := by decide +kernel
theorem dX7_init_510 : decode cX7_init 510 = .ok (.dup, 1) := by decide +kernel
theorem dX7_init_511 : decode cX7_init 511 = .ok (.iconst 2, 1) := by decide +kernel
theorem dX7_init_512 : decode cX7_init 512 = .ok (.bipush (-4), 2) := by decide +kernel
theorem dX7_init_514 : decode cX7_init 514 = .ok (.iastore, 1) := by decide +kernel
theorem dX7_init_515 : decode cX7_init 515 = .ok (.dup, 1) := by decide +kernel
theorem dX7_init_516 : decode cX7_init 516 = .ok (.iconst 3, 1) := by decide +kernel
theorem dX7_init_517 : decode cX7_init 517 = .ok (.bipush (-4), 2) := by decide +kernel
theorem dX7_init_519 : decode cX7_init 519 = .ok (.iastore, 1) := by decide +kernel
theorem dX7_init_520 : decode cX7_init 520 = .ok (.putfield 63, 3) := by decide +kernel
theorem dX7_init_523 : decode cX7_init 523 = .ok (.aload_n 0, 1) := by decide +kernel
theorem dX7_init_524 : decode cX7_init 524 = .ok (.iconst 4, 1) := by decide +kernel
theorem dX7_init_525 : decode cX7_init 525 = .ok (.newarray .int, 2) := by decide +kernel
theorem dX7_init_527 : decode cX7_init 527 = .ok (.putfield 66, 3) := by decide +kernel
theorem dX7_init_530 : decode cX7_init 530 = .ok (.aload_n 0, 1) := by decide +kernel
theorem dX7_init_531 : decode cX7_init 531 = .ok (.sipush 160, 3) := by decide +kernel
theorem dX7_init_534 : decode cX7_init 534 = .ok (.newarray .int, 2) := by decide +kernel
theorem dX7_init_536 : decode cX7_init 536 = .ok (.putfield 69, 3) := by decide +kernel
theorem dX7_init_539 : decode cX7_init 539 = .ok (.return_, 1) := by decide +kernel

set_option maxRecDepth 100000 in
set_option maxHeartbeats 8000000 in
theorem mX7_init : J KX7_initA 1 (fun o B => o = none ∧ B = wM (fun _ => 0) (fun _ => 0) R0 (fun _ _ => 0) (fun _ _ => 0) (fun _ => -1) 0 (fun _ => 0) (fun _ _ => 0) 0 (fun _ _ => 0) 0 (fun _ => 0) (fun _ _ => 0)) 0 [some (.ref 0)] [] [.inr (7, [.null, .int 0, .int 0, .null, .int 0, .null, .null, .int 0, .int 0, .int 0, .int 0, .int 0, .null, .int 0, .int 0, .int 0, .int 0, .int 0, .int 0, .int 0, .int 0, .null, .null, .null, .null, .int 0, .int 0, .int 0, .null, .null, .null, .null, .int 0, .null, .null, .null, .int 0, .null, .null, .null, .null, .int 0])] 0 0 := by
  show J _ _ _ 0 _ [] [.inr (7, [.null, .int 0, .int 0, .null, .int 0, .null, .null, .int 0, .int 0, .int 0, .int 0, .int 0, .null, .int 0, .int 0, .int 0, .int 0, .int 0, .int 0, .int 0, .int 0, .null, .null, .null, .null, .int 0, .int 0, .int 0, .null, .null, .null, .null, .int 0, .null, .null, .null, .int 0, .null, .null, .null, .null, .int 0])] 0 0
  refine J.aload_n dX7_init_0 rfl rfl ?_
  refine J.objInit dX7_init_1 (jt 777 rfl rfl) (jt 21 rfl rfl) (jt 22 rfl rfl) rfl ?_
  refine J.aload_n dX7_init_4 rfl rfl ?_
  refine J.bipush (80) dX7_init_5 (by decide) ?_
  refine J.newI dX7_init_7 rfl 80 (by decide) (by decide) (by decide) (jok_b (jcl_b (by decide +kernel)) (by decide +kernel)) (Nat.le_of_ble_eq_true rfl) (Nat.le_of_ble_eq_true rfl) (jt 99 rfl rfl) ?_
  dsimp only [List.cons_append, List.nil_append]
  refine J.at (st := [.ref 1, .ref 0]) ?_ rfl rfl rfl
  refine J.putfieldF dX7_init_9 jFX7_7 jP7_0 rfl rfl (jnoN (by decide +kernel)) rfl rfl rfl (Nat.le_of_ble_eq_true rfl) ?_
  dsimp only [List.set]
  refine J.aload_n dX7_init_12 rfl rfl ?_
  refine J.bipush (6) dX7_init_13 (by decide) ?_
  refine J.newI dX7_init_15 rfl 6 (by decide) (by decide) (by decide) (jok_b (jcl_b (by decide +kernel)) (by decide +kernel)) (Nat.le_of_ble_eq_true rfl) (Nat.le_of_ble_eq_true rfl) (jt 99 rfl rfl) ?_
  dsimp only [List.cons_append, List.nil_append]
  refine J.at (st := [.ref 2, .ref 0]) ?_ rfl rfl rfl
  refine J.putfieldF dX7_init_17 jFX7_13 jP7_3 rfl rfl (jnoN (by decide +kernel)) rfl rfl rfl (Nat.le_of_ble_eq_true rfl) ?_
  dsimp only [List.set]
  refine J.aload_n dX7_init_20 rfl rfl ?_
  refine J.bipush (20) dX7_init_21 (by decide) ?_
  refine J.newI dX7_init_23 rfl 20 (by decide) (by decide) (by decide) (jok_b (jcl_b (by decide +kernel)) (by decide +kernel)) (Nat.le_of_ble_eq_true rfl) (Nat.le_of_ble_eq_true rfl) (jt 99 rfl rfl) ?_
  dsimp only [List.cons_append, List.nil_append]
  refine J.at (st := [.ref 3, .ref 0]) ?_ rfl rfl rfl
  refine J.putfieldF dX7_init_25 jFX7_16 jP7_5 rfl rfl (jnoN (by decide +kernel)) rfl rfl rfl (Nat.le_of_ble_eq_true rfl) ?_
  dsimp only [List.set]
  refine J.aload_n dX7_init_28 rfl rfl ?_
  refine J.bipush (6) dX7_init_29 (by decide) ?_
  refine J.newI dX7_init_31 rfl 6 (by decide) (by decide) (by decide) (jok_b (jcl_b (by decide +kernel)) (by decide +kernel)) (Nat.le_of_ble_eq_true rfl) (Nat.le_of_ble_eq_true rfl) (jt 99 rfl rfl) ?_
  dsimp only [List.cons_append, List.nil_append]
  refine J.at (st := [.ref 4, .ref 0]) ?_ rfl rfl rfl
  refine J.putfieldF dX7_init_33 jFX7_19 jP7_6 rfl rfl (jnoN (by decide +kernel)) rfl rfl rfl (Nat.le_of_ble_eq_true rfl) ?_
  dsimp only [List.set]
  refine J.aload_n dX7_init_36 rfl rfl ?_
  refine J.sipush (160) dX7_init_37 (by decide) ?_
  refine J.newI dX7_init_40 rfl 160 (by decide) (by decide) (by decide) (jok_b (jcl_b (by decide +kernel)) (by decide +kernel)) (Nat.le_of_ble_eq_true rfl) (Nat.le_of_ble_eq_true rfl) (jt 99 rfl rfl) ?_
  dsimp only [List.cons_append, List.nil_append]
  refine J.at (st := [.ref 5, .ref 0]) ?_ rfl rfl rfl
  refine J.putfieldF dX7_init_42 jFX7_22 jP7_12 rfl rfl (jnoN (by decide +kernel)) rfl rfl rfl (Nat.le_of_ble_eq_true rfl) ?_
  dsimp only [List.set]
  refine J.aload_n dX7_init_45 rfl rfl ?_
  refine J.bipush (12) dX7_init_46 (by decide) ?_
  refine J.newI dX7_init_48 rfl 12 (by decide) (by decide) (by decide) (jok_b (jcl_b (by decide +kernel)) (by decide +kernel)) (Nat.le_of_ble_eq_true rfl) (Nat.le_of_ble_eq_true rfl) (jt 99 rfl rfl) ?_
  dsimp only [List.cons_append, List.nil_append]
  refine J.at (st := [.ref 6, .ref 0]) ?_ rfl rfl rfl
  refine J.dup dX7_init_50 rfl ?_
  refine J.iconst (0) dX7_init_51 (by decide) ?_
  refine J.iconst (0) dX7_init_52 (by decide) ?_
  refine J.iastoreN (i := 0) dX7_init_53 rfl (by decide) ?_
  dsimp only [List.set]
  refine J.dup dX7_init_54 rfl ?_
  refine J.iconst (1) dX7_init_55 (by decide) ?_
  refine J.iconst (4) dX7_init_56 (by decide) ?_
  refine J.iastoreN (i := 1) dX7_init_57 rfl (by decide) ?_
  dsimp only [List.set]
  refine J.dup dX7_init_58 rfl ?_
  refine J.iconst (2) dX7_init_59 (by decide) ?_
  refine J.bipush (8) dX7_init_60 (by decide) ?_
  refine J.iastoreN (i := 2) dX7_init_62 rfl (by decide) ?_
  dsimp only [List.set]
  refine J.dup dX7_init_63 rfl ?_
  refine J.iconst (3) dX7_init_64 (by decide) ?_
  refine J.bipush (11) dX7_init_65 (by decide) ?_
  refine J.iastoreN (i := 3) dX7_init_67 rfl (by decide) ?_
  dsimp only [List.set]
  refine J.dup dX7_init_68 rfl ?_
  refine J.iconst (4) dX7_init_69 (by decide) ?_
  refine J.bipush (15) dX7_init_70 (by decide) ?_
  refine J.iastoreN (i := 4) dX7_init_72 rfl (by decide) ?_
  dsimp only [List.set]
  refine J.dup dX7_init_73 rfl ?_
  refine J.iconst (5) dX7_init_74 (by decide) ?_
  refine J.bipush (20) dX7_init_75 (by decide) ?_
  refine J.iastoreN (i := 5) dX7_init_77 rfl (by decide) ?_
  dsimp only [List.set]
  refine J.dup dX7_init_78 rfl ?_
  refine J.bipush (6) dX7_init_79 (by decide) ?_
  refine J.bipush (26) dX7_init_81 (by decide) ?_
  refine J.iastoreN (i := 6) dX7_init_83 rfl (by decide) ?_
  dsimp only [List.set]
  refine J.dup dX7_init_84 rfl ?_
  refine J.bipush (7) dX7_init_85 (by decide) ?_
  refine J.bipush (31) dX7_init_87 (by decide) ?_
  refine J.iastoreN (i := 7) dX7_init_89 rfl (by decide) ?_
  dsimp only [List.set]
  refine J.dup dX7_init_90 rfl ?_
  refine J.bipush (8) dX7_init_91 (by decide) ?_
  refine J.bipush (35) dX7_init_93 (by decide) ?_
  refine J.iastoreN (i := 8) dX7_init_95 rfl (by decide) ?_
  dsimp only [List.set]
  refine J.dup dX7_init_96 rfl ?_
  refine J.bipush (9) dX7_init_97 (by decide) ?_
  refine J.bipush (39) dX7_init_99 (by decide) ?_
  refine J.iastoreN (i := 9) dX7_init_101 rfl (by decide) ?_
  dsimp only [List.set]
  refine J.dup dX7_init_102 rfl ?_
  refine J.bipush (10) dX7_init_103 (by decide) ?_
  refine J.bipush (46) dX7_init_105 (by decide) ?_
  refine J.iastoreN (i := 10) dX7_init_107 rfl (by decide) ?_
  dsimp only [List.set]
  refine J.dup dX7_init_108 rfl ?_
  refine J.bipush (11) dX7_init_109 (by decide) ?_
  refine J.bipush (50) dX7_init_111 (by decide) ?_
  refine J.iastoreN (i := 11) dX7_init_113 rfl (by decide) ?_
  dsimp only [List.set]
  refine J.putfieldF dX7_init_114 jFX7_25 jP7_21 rfl rfl (jnoN (by decide +kernel)) rfl rfl rfl (Nat.le_of_ble_eq_true rfl) ?_
  dsimp only [List.set]
  refine J.aload_n dX7_init_117 rfl rfl ?_
  refine J.bipush (50) dX7_init_118 (by decide) ?_
  refine J.newI dX7_init_120 rfl 50 (by decide) (by decide) (by decide) (jok_b (jcl_b (by decide +kernel)) (by decide +kernel)) (Nat.le_of_ble_eq_true rfl) (Nat.le_of_ble_eq_true rfl) (jt 99 rfl rfl) ?_
  dsimp only [List.cons_append, List.nil_append]
  refine J.at (st := [.ref 7, .ref 0]) ?_ rfl rfl rfl
  refine J.dup dX7_init_122 rfl ?_
  refine J.iconst (0) dX7_init_123 (by decide) ?_
  refine J.bipush (104) dX7_init_124 (by decide) ?_
  refine J.iastoreN (i := 0) dX7_init_126 rfl (by decide) ?_
  dsimp only [List.set]
  refine J.dup dX7_init_127 rfl ?_
  refine J.iconst (1) dX7_init_128 (by decide) ?_
  refine J.bipush (97) dX7_init_129 (by decide) ?_
  refine J.iastoreN (i := 1) dX7_init_131 rfl (by decide) ?_
  dsimp only [List.set]
  refine J.dup dX7_init_132 rfl ?_
  refine J.iconst (2) dX7_init_133 (by decide) ?_
  refine J.bipush (105) dX7_init_134 (by decide) ?_
  refine J.iastoreN (i := 2) dX7_init_136 rfl (by decide) ?_
  dsimp only [List.set]
  refine J.dup dX7_init_137 rfl ?_
  refine J.iconst (3) dX7_init_138 (by decide) ?_
  refine J.bipush (114) dX7_init_139 (by decide) ?_
  refine J.iastoreN (i := 3) dX7_init_141 rfl (by decide) ?_
  dsimp only [List.set]
  refine J.dup dX7_init_142 rfl ?_
  refine J.iconst (4) dX7_init_143 (by decide) ?_
  refine J.bipush (107) dX7_init_144 (by decide) ?_
  refine J.iastoreN (i := 4) dX7_init_146 rfl (by decide) ?_
  dsimp only [List.set]
  refine J.dup dX7_init_147 rfl ?_
  refine J.iconst (5) dX7_init_148 (by decide) ?_
  refine J.bipush (105) dX7_init_149 (by decide) ?_
  refine J.iastoreN (i := 5) dX7_init_151 rfl (by decide) ?_
  dsimp only [List.set]
  refine J.dup dX7_init_152 rfl ?_
  refine J.bipush (6) dX7_init_153 (by decide) ?_
  refine J.bipush (110) dX7_init_155 (by decide) ?_
  refine J.iastoreN (i := 6) dX7_init_157 rfl (by decide) ?_
  dsimp only [List.set]
  refine J.dup dX7_init_158 rfl ?_
  refine J.bipush (7) dX7_init_159 (by decide) ?_
  refine J.bipush (103) dX7_init_161 (by decide) ?_
  refine J.iastoreN (i := 7) dX7_init_163 rfl (by decide) ?_
  dsimp only [List.set]
  refine J.dup dX7_init_164 rfl ?_
  refine J.bipush (8) dX7_init_165 (by decide) ?_
  refine J.bipush (108) dX7_init_167 (by decide) ?_
  refine J.iastoreN (i := 8) dX7_init_169 rfl (by decide) ?_
  dsimp only [List.set]
  refine J.dup dX7_init_170 rfl ?_
  refine J.bipush (9) dX7_init_171 (by decide) ?_
  refine J.bipush (97) dX7_init_173 (by decide) ?_
  refine J.iastoreN (i := 9) dX7_init_175 rfl (by decide) ?_
  dsimp only [List.set]
  refine J.dup dX7_init_176 rfl ?_
  refine J.bipush (10) dX7_init_177 (by decide) ?_
  refine J.bipush (119) dX7_init_179 (by decide) ?_
  refine J.iastoreN (i := 10) dX7_init_181 rfl (by decide) ?_
  dsimp only [List.set]
  refine J.dup dX7_init_182 rfl ?_
  refine J.bipush (11) dX7_init_183 (by decide) ?_
  refine J.bipush (108) dX7_init_185 (by decide) ?_
  refine J.iastoreN (i := 11) dX7_init_187 rfl (by decide) ?_
  dsimp only [List.set]
  refine J.dup dX7_init_188 rfl ?_
  refine J.bipush (12) dX7_init_189 (by decide) ?_
  refine J.bipush (111) dX7_init_191 (by decide) ?_
  refine J.iastoreN (i := 12) dX7_init_193 rfl (by decide) ?_
  dsimp only [List.set]
  refine J.dup dX7_init_194 rfl ?_
  refine J.bipush (13) dX7_init_195 (by decide) ?_
  refine J.bipush (97) dX7_init_197 (by decide) ?_
  refine J.iastoreN (i := 13) dX7_init_199 rfl (by decide) ?_
  dsimp only [List.set]
  refine J.dup dX7_init_200 rfl ?_
  refine J.bipush (14) dX7_init_201 (by decide) ?_
  refine J.bipush (100) dX7_init_203 (by decide) ?_
  refine J.iastoreN (i := 14) dX7_init_205 rfl (by decide) ?_
  dsimp only [List.set]
  refine J.dup dX7_init_206 rfl ?_
  refine J.bipush (15) dX7_init_207 (by decide) ?_
  refine J.bipush (112) dX7_init_209 (by decide) ?_
  refine J.iastoreN (i := 15) dX7_init_211 rfl (by decide) ?_
  dsimp only [List.set]
  refine J.dup dX7_init_212 rfl ?_
  refine J.bipush (16) dX7_init_213 (by decide) ?_
  refine J.bipush (114) dX7_init_215 (by decide) ?_
  refine J.iastoreN (i := 16) dX7_init_217 rfl (by decide) ?_
  dsimp only [List.set]
  refine J.dup dX7_init_218 rfl ?_
  refine J.bipush (17) dX7_init_219 (by decide) ?_
  refine J.bipush (105) dX7_init_221 (by decide) ?_
  refine J.iastoreN (i := 17) dX7_init_223 rfl (by decide) ?_
  dsimp only [List.set]
  refine J.dup dX7_init_224 rfl ?_
  refine J.bipush (18) dX7_init_225 (by decide) ?_
  refine J.bipush (122) dX7_init_227 (by decide) ?_
  refine J.iastoreN (i := 18) dX7_init_229 rfl (by decide) ?_
  dsimp only [List.set]
  refine J.dup dX7_init_230 rfl ?_
  refine J.bipush (19) dX7_init_231 (by decide) ?_
  refine J.bipush (101) dX7_init_233 (by decide) ?_
  refine J.iastoreN (i := 19) dX7_init_235 rfl (by decide) ?_
  dsimp only [List.set]
  refine J.dup dX7_init_236 rfl ?_
  refine J.bipush (20) dX7_init_237 (by decide) ?_
  refine J.bipush (98) dX7_init_239 (by decide) ?_
  refine J.iastoreN (i := 20) dX7_init_241 rfl (by decide) ?_
  dsimp only [List.set]
  refine J.dup dX7_init_242 rfl ?_
  refine J.bipush (21) dX7_init_243 (by decide) ?_
  refine J.bipush (114) dX7_init_245 (by decide) ?_
  refine J.iastoreN (i := 21) dX7_init_247 rfl (by decide) ?_
  dsimp only [List.set]
  refine J.dup dX7_init_248 rfl ?_
  refine J.bipush (22) dX7_init_249 (by decide) ?_
  refine J.bipush (111) dX7_init_251 (by decide) ?_
  refine J.iastoreN (i := 22) dX7_init_253 rfl (by decide) ?_
  dsimp only [List.set]
  refine J.dup dX7_init_254 rfl ?_
  refine J.bipush (23) dX7_init_255 (by decide) ?_
  refine J.bipush (107) dX7_init_257 (by decide) ?_
  refine J.iastoreN (i := 23) dX7_init_259 rfl (by decide) ?_
  dsimp only [List.set]
  refine J.dup dX7_init_260 rfl ?_
  refine J.bipush (24) dX7_init_261 (by decide) ?_
  refine J.bipush (101) dX7_init_263 (by decide) ?_
  refine J.iastoreN (i := 24) dX7_init_265 rfl (by decide) ?_
  dsimp only [List.set]
  refine J.dup dX7_init_266 rfl ?_
  refine J.bipush (25) dX7_init_267 (by decide) ?_
  refine J.bipush (110) dX7_init_269 (by decide) ?_
  refine J.iastoreN (i := 25) dX7_init_271 rfl (by decide) ?_
  dsimp only [List.set]
  refine J.dup dX7_init_272 rfl ?_
  refine J.bipush (26) dX7_init_273 (by decide) ?_
  refine J.bipush (112) dX7_init_275 (by decide) ?_
  refine J.iastoreN (i := 26) dX7_init_277 rfl (by decide) ?_
  dsimp only [List.set]
  refine J.dup dX7_init_278 rfl ?_
  refine J.bipush (27) dX7_init_279 (by decide) ?_
  refine J.bipush (108) dX7_init_281 (by decide) ?_
  refine J.iastoreN (i := 27) dX7_init_283 rfl (by decide) ?_
  dsimp only [List.set]
  refine J.dup dX7_init_284 rfl ?_
  refine J.bipush (28) dX7_init_285 (by decide) ?_
  refine J.bipush (97) dX7_init_287 (by decide) ?_
  refine J.iastoreN (i := 28) dX7_init_289 rfl (by decide) ?_
  dsimp only [List.set]
  refine J.dup dX7_init_290 rfl ?_
  refine J.bipush (29) dX7_init_291 (by decide) ?_
  refine J.bipush (105) dX7_init_293 (by decide) ?_
  refine J.iastoreN (i := 29) dX7_init_295 rfl (by decide) ?_
  dsimp only [List.set]
  refine J.dup dX7_init_296 rfl ?_
  refine J.bipush (30) dX7_init_297 (by decide) ?_
  refine J.bipush (110) dX7_init_299 (by decide) ?_
  refine J.iastoreN (i := 30) dX7_init_301 rfl (by decide) ?_
  dsimp only [List.set]
  refine J.dup dX7_init_302 rfl ?_
  refine J.bipush (31) dX7_init_303 (by decide) ?_
  refine J.bipush (100) dX7_init_305 (by decide) ?_
  refine J.iastoreN (i := 31) dX7_init_307 rfl (by decide) ?_
  dsimp only [List.set]
  refine J.dup dX7_init_308 rfl ?_
  refine J.bipush (32) dX7_init_309 (by decide) ?_
  refine J.bipush (97) dX7_init_311 (by decide) ?_
  refine J.iastoreN (i := 32) dX7_init_313 rfl (by decide) ?_
  dsimp only [List.set]
  refine J.dup dX7_init_314 rfl ?_
  refine J.bipush (33) dX7_init_315 (by decide) ?_
  refine J.bipush (109) dX7_init_317 (by decide) ?_
  refine J.iastoreN (i := 33) dX7_init_319 rfl (by decide) ?_
  dsimp only [List.set]
  refine J.dup dX7_init_320 rfl ?_
  refine J.bipush (34) dX7_init_321 (by decide) ?_
  refine J.bipush (112) dX7_init_323 (by decide) ?_
  refine J.iastoreN (i := 34) dX7_init_325 rfl (by decide) ?_
  dsimp only [List.set]
  refine J.dup dX7_init_326 rfl ?_
  refine J.bipush (35) dX7_init_327 (by decide) ?_
  refine J.bipush (100) dX7_init_329 (by decide) ?_
  refine J.iastoreN (i := 35) dX7_init_331 rfl (by decide) ?_
  dsimp only [List.set]
  refine J.dup dX7_init_332 rfl ?_
  refine J.bipush (36) dX7_init_333 (by decide) ?_
  refine J.bipush (121) dX7_init_335 (by decide) ?_
  refine J.iastoreN (i := 36) dX7_init_337 rfl (by decide) ?_
  dsimp only [List.set]
  refine J.dup dX7_init_338 rfl ?_
  refine J.bipush (37) dX7_init_339 (by decide) ?_
  refine J.bipush (101) dX7_init_341 (by decide) ?_
  refine J.iastoreN (i := 37) dX7_init_343 rfl (by decide) ?_
  dsimp only [List.set]
  refine J.dup dX7_init_344 rfl ?_
  refine J.bipush (38) dX7_init_345 (by decide) ?_
  refine J.bipush (100) dX7_init_347 (by decide) ?_
  refine J.iastoreN (i := 38) dX7_init_349 rfl (by decide) ?_
  dsimp only [List.set]
  refine J.dup dX7_init_350 rfl ?_
  refine J.bipush (39) dX7_init_351 (by decide) ?_
  refine J.bipush (100) dX7_init_353 (by decide) ?_
  refine J.iastoreN (i := 39) dX7_init_355 rfl (by decide) ?_
  dsimp only [List.set]
  refine J.dup dX7_init_356 rfl ?_
  refine J.bipush (40) dX7_init_357 (by decide) ?_
  refine J.bipush (111) dX7_init_359 (by decide) ?_
  refine J.iastoreN (i := 40) dX7_init_361 rfl (by decide) ?_
  dsimp only [List.set]
  refine J.dup dX7_init_362 rfl ?_
  refine J.bipush (41) dX7_init_363 (by decide) ?_
  refine J.bipush (117) dX7_init_365 (by decide) ?_
  refine J.iastoreN (i := 41) dX7_init_367 rfl (by decide) ?_
  dsimp only [List.set]
  refine J.dup dX7_init_368 rfl ?_
  refine J.bipush (42) dX7_init_369 (by decide) ?_
  refine J.bipush (98) dX7_init_371 (by decide) ?_
  refine J.iastoreN (i := 42) dX7_init_373 rfl (by decide) ?_
  dsimp only [List.set]
  refine J.dup dX7_init_374 rfl ?_
  refine J.bipush (43) dX7_init_375 (by decide) ?_
  refine J.bipush (108) dX7_init_377 (by decide) ?_
  refine J.iastoreN (i := 43) dX7_init_379 rfl (by decide) ?_
  dsimp only [List.set]
  refine J.dup dX7_init_380 rfl ?_
  refine J.bipush (44) dX7_init_381 (by decide) ?_
  refine J.bipush (101) dX7_init_383 (by decide) ?_
  refine J.iastoreN (i := 44) dX7_init_385 rfl (by decide) ?_
  dsimp only [List.set]
  refine J.dup dX7_init_386 rfl ?_
  refine J.bipush (45) dX7_init_387 (by decide) ?_
  refine J.bipush (100) dX7_init_389 (by decide) ?_
  refine J.iastoreN (i := 45) dX7_init_391 rfl (by decide) ?_
  dsimp only [List.set]
  refine J.dup dX7_init_392 rfl ?_
  refine J.bipush (46) dX7_init_393 (by decide) ?_
  refine J.bipush (115) dX7_init_395 (by decide) ?_
  refine J.iastoreN (i := 46) dX7_init_397 rfl (by decide) ?_
  dsimp only [List.set]
  refine J.dup dX7_init_398 rfl ?_
  refine J.bipush (47) dX7_init_399 (by decide) ?_
  refine J.bipush (117) dX7_init_401 (by decide) ?_
  refine J.iastoreN (i := 47) dX7_init_403 rfl (by decide) ?_
  dsimp only [List.set]
  refine J.dup dX7_init_404 rfl ?_
  refine J.bipush (48) dX7_init_405 (by decide) ?_
  refine J.bipush (110) dX7_init_407 (by decide) ?_
  refine J.iastoreN (i := 48) dX7_init_409 rfl (by decide) ?_
  dsimp only [List.set]
  refine J.dup dX7_init_410 rfl ?_
  refine J.bipush (49) dX7_init_411 (by decide) ?_
  refine J.bipush (103) dX7_init_413 (by decide) ?_
  refine J.iastoreN (i := 49) dX7_init_415 rfl (by decide) ?_
  dsimp only [List.set]
  refine J.putfieldF dX7_init_416 jFX7_28 jP7_22 rfl rfl (jnoN (by decide +kernel)) rfl rfl rfl (Nat.le_of_ble_eq_true rfl) ?_
  dsimp only [List.set]
  refine J.aload_n dX7_init_419 rfl rfl ?_
  refine J.iconst (3) dX7_init_420 (by decide) ?_
  refine J.newI dX7_init_421 rfl 3 (by decide) (by decide) (by decide) (jok_b (jcl_b (by decide +kernel)) (by decide +kernel)) (Nat.le_of_ble_eq_true rfl) (Nat.le_of_ble_eq_true rfl) (jt 99 rfl rfl) ?_
  dsimp only [List.cons_append, List.nil_append]
  refine J.at (st := [.ref 8, .ref 0]) ?_ rfl rfl rfl
  refine J.putfieldF dX7_init_423 jFX7_31 jP7_23 rfl rfl (jnoN (by decide +kernel)) rfl rfl rfl (Nat.le_of_ble_eq_true rfl) ?_
  dsimp only [List.set]
  refine J.aload_n dX7_init_426 rfl rfl ?_
  refine J.iconst (3) dX7_init_427 (by decide) ?_
  refine J.newI dX7_init_428 rfl 3 (by decide) (by decide) (by decide) (jok_b (jcl_b (by decide +kernel)) (by decide +kernel)) (Nat.le_of_ble_eq_true rfl) (Nat.le_of_ble_eq_true rfl) (jt 99 rfl rfl) ?_
  dsimp only [List.cons_append, List.nil_append]
  refine J.at (st := [.ref 9, .ref 0]) ?_ rfl rfl rfl
  refine J.putfieldF dX7_init_430 jFX7_34 jP7_24 rfl rfl (jnoN (by decide +kernel)) rfl rfl rfl (Nat.le_of_ble_eq_true rfl) ?_
  dsimp only [List.set]
  refine J.aload_n dX7_init_433 rfl rfl ?_
  refine J.bipush (8) dX7_init_434 (by decide) ?_
  refine J.newL dX7_init_436 rfl 8 (by decide) (by decide) (by decide) (jok_b (jcl_b (by decide +kernel)) (by decide +kernel)) (Nat.le_of_ble_eq_true rfl) (Nat.le_of_ble_eq_true rfl) (jt 210 rfl rfl) ?_
  dsimp only [List.cons_append, List.nil_append]
  refine J.at (st := [.ref 10, .ref 0]) ?_ rfl rfl rfl
  refine J.putfieldF dX7_init_438 jFX7_37 jP7_28 rfl rfl (jnoN (by decide +kernel)) rfl rfl rfl (Nat.le_of_ble_eq_true rfl) ?_
  dsimp only [List.set]
  refine J.aload_n dX7_init_441 rfl rfl ?_
  refine J.bipush (8) dX7_init_442 (by decide) ?_
  refine J.newL dX7_init_444 rfl 8 (by decide) (by decide) (by decide) (jok_b (jcl_b (by decide +kernel)) (by decide +kernel)) (Nat.le_of_ble_eq_true rfl) (Nat.le_of_ble_eq_true rfl) (jt 210 rfl rfl) ?_
  dsimp only [List.cons_append, List.nil_append]
  refine J.at (st := [.ref 11, .ref 0]) ?_ rfl rfl rfl
  refine J.putfieldF dX7_init_446 jFX7_41 jP7_29 rfl rfl (jnoN (by decide +kernel)) rfl rfl rfl (Nat.le_of_ble_eq_true rfl) ?_
  dsimp only [List.set]
  refine J.aload_n dX7_init_449 rfl rfl ?_
  refine J.bipush (8) dX7_init_450 (by decide) ?_
  refine J.newL dX7_init_452 rfl 8 (by decide) (by decide) (by decide) (jok_b (jcl_b (by decide +kernel)) (by decide +kernel)) (Nat.le_of_ble_eq_true rfl) (Nat.le_of_ble_eq_true rfl) (jt 210 rfl rfl) ?_
  dsimp only [List.cons_append, List.nil_append]
  refine J.at (st := [.ref 12, .ref 0]) ?_ rfl rfl rfl
  refine J.putfieldF dX7_init_454 jFX7_44 jP7_30 rfl rfl (jnoN (by decide +kernel)) rfl rfl rfl (Nat.le_of_ble_eq_true rfl) ?_
  dsimp only [List.set]
  refine J.aload_n dX7_init_457 rfl rfl ?_
  refine J.bipush (8) dX7_init_458 (by decide) ?_
  refine J.newL dX7_init_460 rfl 8 (by decide) (by decide) (by decide) (jok_b (jcl_b (by decide +kernel)) (by decide +kernel)) (Nat.le_of_ble_eq_true rfl) (Nat.le_of_ble_eq_true rfl) (jt 210 rfl rfl) ?_
  dsimp only [List.cons_append, List.nil_append]
  refine J.at (st := [.ref 13, .ref 0]) ?_ rfl rfl rfl
  refine J.putfieldF dX7_init_462 jFX7_47 jP7_31 rfl rfl (jnoN (by decide +kernel)) rfl rfl rfl (Nat.le_of_ble_eq_true rfl) ?_
  dsimp only [List.set]
  refine J.aload_n dX7_init_465 rfl rfl ?_
  refine J.bipush (8) dX7_init_466 (by decide) ?_
  refine J.newL dX7_init_468 rfl 8 (by decide) (by decide) (by decide) (jok_b (jcl_b (by decide +kernel)) (by decide +kernel)) (Nat.le_of_ble_eq_true rfl) (Nat.le_of_ble_eq_true rfl) (jt 210 rfl rfl) ?_
  dsimp only [List.cons_append, List.nil_append]
  refine J.at (st := [.ref 14, .ref 0]) ?_ rfl rfl rfl
  refine J.putfieldF dX7_init_470 jFX7_50 jP7_33 rfl rfl (jnoN (by decide +kernel)) rfl rfl rfl (Nat.le_of_ble_eq_true rfl) ?_
  dsimp only [List.set]
  refine J.aload_n dX7_init_473 rfl rfl ?_
  refine J.bipush (8) dX7_init_474 (by decide) ?_
  refine J.newL dX7_init_476 rfl 8 (by decide) (by decide) (by decide) (jok_b (jcl_b (by decide +kernel)) (by decide +kernel)) (Nat.le_of_ble_eq_true rfl) (Nat.le_of_ble_eq_true rfl) (jt 210 rfl rfl) ?_
  dsimp only [List.cons_append, List.nil_append]
  refine J.at (st := [.ref 15, .ref 0]) ?_ rfl rfl rfl
  refine J.putfieldF dX7_init_478 jFX7_53 jP7_34 rfl rfl (jnoN (by decide +kernel)) rfl rfl rfl (Nat.le_of_ble_eq_true rfl) ?_
  dsimp only [List.set]
  refine J.aload_n dX7_init_481 rfl rfl ?_
  refine J.bipush (12) dX7_init_482 (by decide) ?_
  refine J.newI dX7_init_484 rfl 12 (by decide) (by decide) (by decide) (jok_b (jcl_b (by decide +kernel)) (by decide +kernel)) (Nat.le_of_ble_eq_true rfl) (Nat.le_of_ble_eq_true rfl) (jt 99 rfl rfl) ?_
  dsimp only [List.cons_append, List.nil_append]
  refine J.at (st := [.ref 16, .ref 0]) ?_ rfl rfl rfl
  refine J.putfieldF dX7_init_486 jFX7_56 jP7_35 rfl rfl (jnoN (by decide +kernel)) rfl rfl rfl (Nat.le_of_ble_eq_true rfl) ?_
  dsimp only [List.set]
  refine J.aload_n dX7_init_489 rfl rfl ?_
  refine J.iconst (2) dX7_init_490 (by decide) ?_
  refine J.newZ dX7_init_491 rfl 2 (by decide) (by decide) (by decide) (jok_b (jcl_b (by decide +kernel)) (by decide +kernel)) (Nat.le_of_ble_eq_true rfl) (Nat.le_of_ble_eq_true rfl) (jt 122 rfl rfl) ?_
  dsimp only [List.cons_append, List.nil_append]
  refine J.at (st := [.ref 17, .ref 0]) ?_ rfl rfl rfl
  refine J.putfieldF dX7_init_493 jFX7_59 jP7_37 rfl rfl (jnoN (by decide +kernel)) rfl rfl rfl (Nat.le_of_ble_eq_true rfl) ?_
  dsimp only [List.set]
  refine J.aload_n dX7_init_496 rfl rfl ?_
  refine J.iconst (4) dX7_init_497 (by decide) ?_
  refine J.newI dX7_init_498 rfl 4 (by decide) (by decide) (by decide) (jok_b (jcl_b (by decide +kernel)) (by decide +kernel)) (Nat.le_of_ble_eq_true rfl) (Nat.le_of_ble_eq_true rfl) (jt 99 rfl rfl) ?_
  dsimp only [List.cons_append, List.nil_append]
  refine J.at (st := [.ref 18, .ref 0]) ?_ rfl rfl rfl
  refine J.dup dX7_init_500 rfl ?_
  refine J.iconst (0) dX7_init_501 (by decide) ?_
  refine J.bipush (-4) dX7_init_502 (by decide) ?_
  refine J.iastoreN (i := 0) dX7_init_504 rfl (by decide) ?_
  dsimp only [List.set]
  refine J.dup dX7_init_505 rfl ?_
  refine J.iconst (1) dX7_init_506 (by decide) ?_
  refine J.bipush (-4) dX7_init_507 (by decide) ?_
  refine J.iastoreN (i := 1) dX7_init_509 rfl (by decide) ?_
  dsimp only [List.set]
  refine J.dup dX7_init_510 rfl ?_
  refine J.iconst (2) dX7_init_511 (by decide) ?_
  refine J.bipush (-4) dX7_init_512 (by decide) ?_
  refine J.iastoreN (i := 2) dX7_init_514 rfl (by decide) ?_
  dsimp only [List.set]
  refine J.dup dX7_init_515 rfl ?_
  refine J.iconst (3) dX7_init_516 (by decide) ?_
  refine J.bipush (-4) dX7_init_517 (by decide) ?_
  refine J.iastoreN (i := 3) dX7_init_519 rfl (by decide) ?_
  dsimp only [List.set]
  refine J.putfieldF dX7_init_520 jFX7_63 jP7_38 rfl rfl (jnoN (by decide +kernel)) rfl rfl rfl (Nat.le_of_ble_eq_true rfl) ?_
  dsimp only [List.set]
  refine J.aload_n dX7_init_523 rfl rfl ?_
  refine J.iconst (4) dX7_init_524 (by decide) ?_
  refine J.newI dX7_init_525 rfl 4 (by decide) (by decide) (by decide) (jok_b (jcl_b (by decide +kernel)) (by decide +kernel)) (Nat.le_of_ble_eq_true rfl) (Nat.le_of_ble_eq_true rfl) (jt 99 rfl rfl) ?_
  dsimp only [List.cons_append, List.nil_append]
  refine J.at (st := [.ref 19, .ref 0]) ?_ rfl rfl rfl
  refine J.putfieldF dX7_init_527 jFX7_66 jP7_39 rfl rfl (jnoN (by decide +kernel)) rfl rfl rfl (Nat.le_of_ble_eq_true rfl) ?_
  dsimp only [List.set]
  refine J.aload_n dX7_init_530 rfl rfl ?_
  refine J.sipush (160) dX7_init_531 (by decide) ?_
  refine J.newI dX7_init_534 rfl 160 (by decide) (by decide) (by decide) (jok_b (jcl_b (by decide +kernel)) (by decide +kernel)) (Nat.le_of_ble_eq_true rfl) (Nat.le_of_ble_eq_true rfl) (jt 99 rfl rfl) ?_
  dsimp only [List.cons_append, List.nil_append]
  refine J.at (st := [.ref 20, .ref 0]) ?_ rfl rfl rfl
  refine J.putfieldF dX7_init_536 jFX7_69 jP7_40 rfl rfl (jnoN (by decide +kernel)) rfl rfl rfl (Nat.le_of_ble_eq_true rfl) ?_
  dsimp only [List.set]
  refine J.arrI 6 0 mcut rfl (by decide +kernel) ?_
  dsimp only [List.set]
  refine J.arrI 7 0 mlet rfl (by decide +kernel) ?_
  dsimp only [List.set]
  refine J.arrI 18 0 (fun _ => mln (-1)) rfl (by decide +kernel) ?_
  dsimp only [List.set]
  refine J.arrI 16 0 (fun j => nI (if j % 2 = 0 then 0 else 0)) rfl (by decide +kernel) ?_
  dsimp only [List.set]
  exact J.vret dX7_init_539 rfl (Nat.le_of_ble_eq_true rfl) (Nat.le_of_ble_eq_true rfl) ⟨rfl, rfl⟩
