theorem dX7_init_0 : decode cX7_init 0 = .ok (.aload_n 0, 1) := by decide +kernel
theorem dX7_init_1 : decode cX7_init 1 = .ok (.invokespecial 1, 3) := by decide +kernel
theorem dX7_init_4 : decode cX7_init 4 = .ok (.aload_n 0, 1) := by decide +kernel
theorem dX7_init_5 : decode cX7_init 5 = .ok (.iconst 1, 1) := by decide +kernel
theorem dX7_init_6 : decode cX7_init 6 = .ok (.putfield 7, 3) := by decide +kernel
theorem dX7_init_9 : decode cX7_init 9 = .ok (.aload_n 0, 1) := by decide +kernel
theorem dX7_init_10 : decode cX7_init 10 = .ok (.iconst (-1), 1) := by decide +kernel
theorem dX7_init_11 : decode cX7_init 11 = .ok (.putfield 13, 3) := by decide +kernel
theorem dX7_init_14 : decode cX7_init 14 = .ok (.aload_n 0, 1) := by decide +kernel
theorem dX7_init_15 : decode cX7_init 15 = .ok (.bipush 8, 2) := by decide +kernel
theorem dX7_init_17 : decode cX7_init 17 = .ok (.newarray .int, 2) := by decide +kernel
theorem dX7_init_19 : decode cX7_init 19 = .ok (.putfield 16, 3) := by decide +kernel
theorem dX7_init_22 : decode cX7_init 22 = .ok (.aload_n 0, 1) := by decide +kernel
theorem dX7_init_23 : decode cX7_init 23 = .ok (.bipush 64, 2) := by decide +kernel
theorem dX7_init_25 : decode cX7_init 25 = .ok (.newarray .int, 2) := by decide +kernel
theorem dX7_init_27 : decode cX7_init 27 = .ok (.putfield 20, 3) := by decide +kernel
theorem dX7_init_30 : decode cX7_init 30 = .ok (.aload_n 0, 1) := by decide +kernel
theorem dX7_init_31 : decode cX7_init 31 = .ok (.bipush 8, 2) := by decide +kernel
theorem dX7_init_33 : decode cX7_init 33 = .ok (.newarray .int, 2) := by decide +kernel
theorem dX7_init_35 : decode cX7_init 35 = .ok (.putfield 23, 3) := by decide +kernel
theorem dX7_init_38 : decode cX7_init 38 = .ok (.aload_n 0, 1) := by decide +kernel
theorem dX7_init_39 : decode cX7_init 39 = .ok (.bipush 8, 2) := by decide +kernel
theorem dX7_init_41 : decode cX7_init 41 = .ok (.newarray .int, 2) := by decide +kernel
theorem dX7_init_43 : decode cX7_init 43 = .ok (.putfield 26, 3) := by decide +kernel
theorem dX7_init_46 : decode cX7_init 46 = .ok (.aload_n 0, 1) := by decide +kernel
theorem dX7_init_47 : decode cX7_init 47 = .ok (.bipush 49, 2) := by decide +kernel
theorem dX7_init_49 : decode cX7_init 49 = .ok (.newarray .int, 2) := by decide +kernel
theorem dX7_init_51 : decode cX7_init 51 = .ok (.putfield 29, 3) := by decide +kernel
theorem dX7_init_54 : decode cX7_init 54 = .ok (.aload_n 0, 1) := by decide +kernel
theorem dX7_init_55 : decode cX7_init 55 = .ok (.bipush 6, 2) := by decide +kernel
theorem dX7_init_57 : decode cX7_init 57 = .ok (.newarray .int, 2) := by decide +kernel
theorem dX7_init_59 : decode cX7_init 59 = .ok (.putfield 32, 3) := by decide +kernel
theorem dX7_init_62 : decode cX7_init 62 = .ok (.aload_n 0, 1) := by decide +kernel
theorem dX7_init_63 : decode cX7_init 63 = .ok (.bipush 6, 2) := by decide +kernel
theorem dX7_init_65 : decode cX7_init 65 = .ok (.newarray .int, 2) := by decide +kernel
theorem dX7_init_67 : decode cX7_init 67 = .ok (.putfield 35, 3) := by decide +kernel
theorem dX7_init_70 : decode cX7_init 70 = .ok (.aload_n 0, 1) := by decide +kernel
theorem dX7_init_71 : decode cX7_init 71 = .ok (.bipush 6, 2) := by decide +kernel
theorem dX7_init_73 : decode cX7_init 73 = .ok (.newarray .int, 2) := by decide +kernel
theorem dX7_init_75 : decode cX7_init 75 = .ok (.putfield 38, 3) := by decide +kernel
theorem dX7_init_78 : decode cX7_init 78 = .ok (.aload_n 0, 1) := by decide +kernel
theorem dX7_init_79 : decode cX7_init 79 = .ok (.bipush 6, 2) := by decide +kernel
theorem dX7_init_81 : decode cX7_init 81 = .ok (.newarray .int, 2) := by decide +kernel
theorem dX7_init_83 : decode cX7_init 83 = .ok (.putfield 41, 3) := by decide +kernel
theorem dX7_init_86 : decode cX7_init 86 = .ok (.aload_n 0, 1) := by decide +kernel
theorem dX7_init_87 : decode cX7_init 87 = .ok (.bipush 6, 2) := by decide +kernel
theorem dX7_init_89 : decode cX7_init 89 = .ok (.newarray .int, 2) := by decide +kernel
theorem dX7_init_91 : decode cX7_init 91 = .ok (.putfield 44, 3) := by decide +kernel
theorem dX7_init_94 : decode cX7_init 94 = .ok (.aload_n 0, 1) := by decide +kernel
theorem dX7_init_95 : decode cX7_init 95 = .ok (.bipush 6, 2) := by decide +kernel
theorem dX7_init_97 : decode cX7_init 97 = .ok (.newarray .int, 2) := by decide +kernel
theorem dX7_init_99 : decode cX7_init 99 = .ok (.putfield 47, 3) := by decide +kernel
theorem dX7_init_102 : decode cX7_init 102 = .ok (.aload_n 0, 1) := by decide +kernel
theorem dX7_init_103 : decode cX7_init 103 = .ok (.bipush 6, 2) := by decide +kernel
theorem dX7_init_105 : decode cX7_init 105 = .ok (.newarray .int, 2) := by decide +kernel
theorem dX7_init_107 : decode cX7_init 107 = .ok (.putfield 50, 3) := by decide +kernel
theorem dX7_init_110 : decode cX7_init 110 = .ok (.aload_n 0, 1) := by decide +kernel
theorem dX7_init_111 : decode cX7_init 111 = .ok (.bipush 6, 2) := by decide +kernel
theorem dX7_init_113 : decode cX7_init 113 = .ok (.newarray .int, 2) := by decide +kernel
theorem dX7_init_115 : decode cX7_init 115 = .ok (.putfield 53, 3) := by decide +kernel
theorem dX7_init_118 : decode cX7_init 118 = .ok (.aload_n 0, 1) := by decide +kernel
theorem dX7_init_119 : decode cX7_init 119 = .ok (.bipush 6, 2) := by decide +kernel
theorem dX7_init_121 : decode cX7_init 121 = .ok (.newarray .int, 2) := by decide +kernel
theorem dX7_init_123 : decode cX7_init 123 = .ok (.putfield 56, 3) := by decide +kernel
theorem dX7_init_126 : decode cX7_init 126 = .ok (.aload_n 0, 1) := by decide +kernel
theorem dX7_init_127 : decode cX7_init 127 = .ok (.bipush 6, 2) := by decide +kernel
theorem dX7_init_129 : decode cX7_init 129 = .ok (.newarray .int, 2) := by decide +kernel
theorem dX7_init_131 : decode cX7_init 131 = .ok (.putfield 59, 3) := by decide +kernel
theorem dX7_init_134 : decode cX7_init 134 = .ok (.aload_n 0, 1) := by decide +kernel
theorem dX7_init_135 : decode cX7_init 135 = .ok (.bipush 6, 2) := by decide +kernel
theorem dX7_init_137 : decode cX7_init 137 = .ok (.newarray .int, 2) := by decide +kernel
theorem dX7_init_139 : decode cX7_init 139 = .ok (.putfield 62, 3) := by decide +kernel
theorem dX7_init_142 : decode cX7_init 142 = .ok (.aload_n 0, 1) := by decide +kernel
theorem dX7_init_143 : decode cX7_init 143 = .ok (.bipush 6, 2) := by decide +kernel
theorem dX7_init_145 : decode cX7_init 145 = .ok (.newarray .int, 2) := by decide +kernel
theorem dX7_init_147 : decode cX7_init 147 = .ok (.putfield 65, 3) := by decide +kernel
theorem dX7_init_150 : decode cX7_init 150 = .ok (.aload_n 0, 1) := by decide +kernel
theorem dX7_init_151 : decode cX7_init 151 = .ok (.bipush 8, 2) := by decide +kernel
theorem dX7_init_153 : decode cX7_init 153 = .ok (.newarray .int, 2) := by decide +kernel
theorem dX7_init_155 : decode cX7_init 155 = .ok (.putfield 68, 3) := by decide +kernel
theorem dX7_init_158 : decode cX7_init 158 = .ok (.aload_n 0, 1) := by decide +kernel
theorem dX7_init_159 : decode cX7_init 159 = .ok (.bipush 8, 2) := by decide +kernel
theorem dX7_init_161 : decode cX7_init 161 = .ok (.newarray .int, 2) := by decide +kernel
theorem dX7_init_163 : decode cX7_init 163 = .ok (.putfield 71, 3) := by decide +kernel
theorem dX7_init_166 : decode cX7_init 166 = .ok (.aload_n 0, 1) := by decide +kernel
theorem dX7_init_167 : decode cX7_init 167 = .ok (.bipush 8, 2) := by decide +kernel
theorem dX7_init_169 : decode cX7_init 169 = .ok (.newarray .int, 2) := by decide +kernel
theorem dX7_init_171 : decode cX7_init 171 = .ok (.putfield 74, 3) := by decide +kernel
theorem dX7_init_174 : decode cX7_init 174 = .ok (.aload_n 0, 1) := by decide +kernel
theorem dX7_init_175 : decode cX7_init 175 = .ok (.bipush 8, 2) := by decide +kernel
theorem dX7_init_177 : decode cX7_init 177 = .ok (.newarray .int, 2) := by decide +kernel
theorem dX7_init_179 : decode cX7_init 179 = .ok (.putfield 77, 3) := by decide +kernel
theorem dX7_init_182 : decode cX7_init 182 = .ok (.aload_n 0, 1) := by decide +kernel
theorem dX7_init_183 : decode cX7_init 183 = .ok (.sipush 1280, 3) := by decide +kernel
theorem dX7_init_186 : decode cX7_init 186 = .ok (.newarray .long, 2) := by decide +kernel
theorem dX7_init_188 : decode cX7_init 188 = .ok (.putfield 80, 3) := by decide +kernel
theorem dX7_init_191 : decode cX7_init 191 = .ok (.aload_n 0, 1) := by decide +kernel
theorem dX7_init_192 : decode cX7_init 192 = .ok (.sipush 160, 3) := by decide +kernel
theorem dX7_init_195 : decode cX7_init 195 = .ok (.newarray .long, 2) := by decide +kernel
theorem dX7_init_197 : decode cX7_init 197 = .ok (.putfield 84, 3) := by decide +kernel
theorem dX7_init_200 : decode cX7_init 200 = .ok (.aload_n 0, 1) := by decide +kernel
theorem dX7_init_201 : decode cX7_init 201 = .ok (.bipush 32, 2) := by decide +kernel
theorem dX7_init_203 : decode cX7_init 203 = .ok (.newarray .int, 2) := by decide +kernel
theorem dX7_init_205 : decode cX7_init 205 = .ok (.dup, 1) := by decide +kernel
theorem dX7_init_206 : decode cX7_init 206 = .ok (.iconst 0, 1) := by decide +kernel
theorem dX7_init_207 : decode cX7_init 207 = .ok (.bipush 103, 2) := by decide +kernel
theorem dX7_init_209 : decode cX7_init 209 = .ok (.iastore, 1) := by decide +kernel
theorem dX7_init_210 : decode cX7_init 210 = .ok (.dup, 1) := by decide +kernel
theorem dX7_init_211 : decode cX7_init 211 = .ok (.iconst 1, 1) := by decide +kernel
theorem dX7_init_212 : decode cX7_init 212 = .ok (.bipush 97, 2) := by decide +kernel
theorem dX7_init_214 : decode cX7_init 214 = .ok (.iastore, 1) := by decide +kernel
theorem dX7_init_215 : decode cX7_init 215 = .ok (.dup, 1) := by decide +kernel
theorem dX7_init_216 : decode cX7_init 216 = .ok (.iconst 2, 1) := by decide +kernel
theorem dX7_init_217 : decode cX7_init 217 = .ok (.bipush 105, 2) := by decide +kernel
theorem dX7_init_219 : decode cX7_init 219 = .ok (.iastore, 1) := by decide +kernel
theorem dX7_init_220 : decode cX7_init 220 = .ok (.dup, 1) := by decide +kernel
theorem dX7_init_221 : decode cX7_init 221 = .ok (.iconst 3, 1) := by decide +kernel
theorem dX7_init_222 : decode cX7_init 222 = .ok (.bipush 116, 2) := by decide +kernel
theorem dX7_init_224 : decode cX7_init 224 = .ok (.iastore, 1) := by decide +kernel
theorem dX7_init_225 : decode cX7_init 225 = .ok (.dup, 1) := by decide +kernel
theorem dX7_init_226 : decode cX7_init 226 = .ok (.iconst 4, 1) := by decide +kernel
theorem dX7_init_227 : decode cX7_init 227 = .ok (.bipush 32, 2) := by decide +kernel
theorem dX7_init_229 : decode cX7_init 229 = .ok (.iastore, 1) := by decide +kernel
theorem dX7_init_230 : decode cX7_init 230 = .ok (.dup, 1) := by decide +kernel
theorem dX7_init_231 : decode cX7_init 231 = .ok (.iconst 5, 1) := by decide +kernel
theorem dX7_init_232 : decode cX7_init 232 = .ok (.iconst 0, 1) := by decide +kernel
theorem dX7_init_233 : decode cX7_init 233 = .ok (.iastore, 1) := by decide +kernel
theorem dX7_init_234 : decode cX7_init 234 = .ok (.dup, 1) := by decide +kernel
theorem dX7_init_235 : decode cX7_init 235 = .ok (.bipush 6, 2) := by decide +kernel
theorem dX7_init_237 : decode cX7_init 237 = .ok (.bipush 119, 2) := by decide +kernel
theorem dX7_init_239 : decode cX7_init 239 = .ok (.iastore, 1) := by decide +kernel
theorem dX7_init_240 : decode cX7_init 240 = .ok (.dup, 1) := by decide +kernel
theorem dX7_init_241 : decode cX7_init 241 = .ok (.bipush 7, 2) := by decide +kernel
theorem dX7_init_243 : decode cX7_init 243 = .ok (.bipush 97, 2) := by decide +kernel
theorem dX7_init_245 : decode cX7_init 245 = .ok (.iastore, 1) := by decide +kernel
theorem dX7_init_246 : decode cX7_init 246 = .ok (.dup, 1) := by decide +kernel
theorem dX7_init_247 : decode cX7_init 247 = .ok (.bipush 8, 2) := by decide +kernel
theorem dX7_init_249 : decode cX7_init 249 = .ok (.bipush 108, 2) := by decide +kernel
theorem dX7_init_251 : decode cX7_init 251 = .ok (.iastore, 1) := by decide +kernel
theorem dX7_init_252 : decode cX7_init 252 = .ok (.dup, 1) := by decide +kernel
theorem dX7_init_253 : decode cX7_init 253 = .ok (.bipush 9, 2) := by decide +kernel
theorem dX7_init_255 : decode cX7_init 255 = .ok (.bipush 108, 2) := by decide +kernel
theorem dX7_init_257 : decode cX7_init 257 = .ok (.iastore, 1) := by decide +kernel
theorem dX7_init_258 : decode cX7_init 258 = .ok (.dup, 1) := by decide +kernel
theorem dX7_init_259 : decode cX7_init 259 = .ok (.bipush 10, 2) := by decide +kernel
theorem dX7_init_261 : decode cX7_init 261 = .ok (.bipush 32, 2) := by decide +kernel
theorem dX7_init_263 : decode cX7_init 263 = .ok (.iastore, 1) := by decide +kernel
theorem dX7_init_264 : decode cX7_init 264 = .ok (.dup, 1) := by decide +kernel
theorem dX7_init_265 : decode cX7_init 265 = .ok (.bipush 11, 2) := by decide +kernel
theorem dX7_init_267 : decode cX7_init 267 = .ok (.iconst 0, 1) := by decide +kernel
theorem dX7_init_268 : decode cX7_init 268 = .ok (.iastore, 1) := by decide +kernel
theorem dX7_init_269 : decode cX7_init 269 = .ok (.dup, 1) := by decide +kernel
theorem dX7_init_270 : decode cX7_init 270 = .ok (.bipush 12, 2) := by decide +kernel
theorem dX7_init_272 : decode cX7_init 272 = .ok (.bipush 111, 2) := by decide +kernel
theorem dX7_init_274 : decode cX7_init 274 = .ok (.iastore, 1) := by decide +kernel
theorem dX7_init_275 : decode cX7_init 275 = .ok (.dup, 1) := by decide +kernel
theorem dX7_init_276 : decode cX7_init 276 = .ok (.bipush 13, 2) := by decide +kernel
theorem dX7_init_278 : decode cX7_init 278 = .ok (.bipush 112, 2) := by decide +kernel
theorem dX7_init_280 : decode cX7_init 280 = .ok (.iastore, 1) := by decide +kernel
theorem dX7_init_281 : decode cX7_init 281 = .ok (.dup, 1) := by decide +kernel
theorem dX7_init_282 : decode cX7_init 282 = .ok (.bipush 14, 2) := by decide +kernel
theorem dX7_init_284 : decode cX7_init 284 = .ok (.bipush 101, 2) := by decide +kernel
theorem dX7_init_286 : decode cX7_init 286 = .ok (.iastore, 1) := by decide +kernel
theorem dX7_init_287 : decode cX7_init 287 = .ok (.dup, 1) := by decide +kernel
theorem dX7_init_288 : decode cX7_init 288 = .ok (.bipush 15, 2) := by decide +kernel
theorem dX7_init_290 : decode cX7_init 290 = .ok (.bipush 110, 2) := by decide +kernel
theorem dX7_init_292 : decode cX7_init 292 = .ok (.iastore, 1) := by decide +kernel
theorem dX7_init_293 : decode cX7_init 293 = .ok (.dup, 1) := by decide +kernel
theorem dX7_init_294 : decode cX7_init 294 = .ok (.bipush 16, 2) := by decide +kernel
theorem dX7_init_296 : decode cX7_init 296 = .ok (.bipush 32, 2) := by decide +kernel
theorem dX7_init_298 : decode cX7_init 298 = .ok (.iastore, 1) := by decide +kernel
theorem dX7_init_299 : decode cX7_init 299 = .ok (.dup, 1) := by decide +kernel
theorem dX7_init_300 : decode cX7_init 300 = .ok (.bipush 17, 2) := by decide +kernel
theorem dX7_init_302 : decode cX7_init 302 = .ok (.iconst 0, 1) := by decide +kernel
theorem dX7_init_303 : decode cX7_init 303 = .ok (.iastore, 1) := by decide +kernel
theorem dX7_init_304 : decode cX7_init 304 = .ok (.dup, 1) := by decide +kernel
theorem dX7_init_305 : decode cX7_init 305 = .ok (.bipush 18, 2) := by decide +kernel
theorem dX7_init_307 : decode cX7_init 307 = .ok (.bipush 119, 2) := by decide +kernel
theorem dX7_init_309 : decode cX7_init 309 = .ok (.iastore, 1) := by decide +kernel
theorem dX7_init_310 : decode cX7_init 310 = .ok (.dup, 1) := by decide +kernel
theorem dX7_init_311 : decode cX7_init 311 = .ok (.bipush 19, 2) := by decide +kernel
theorem dX7_init_313 : decode cX7_init 313 = .ok (.bipush 97, 2) := by decide +kernel
theorem dX7_init_315 : decode cX7_init 315 = .ok (.iastore, 1) := by decide +kernel
theorem dX7_init_316 : decode cX7_init 316 = .ok (.dup, 1) := by decide +kernel
theorem dX7_init_317 : decode cX7_init 317 = .ok (.bipush 20, 2) := by decide +kernel
theorem dX7_init_319 : decode cX7_init 319 = .ok (.bipush 108, 2) := by decide +kernel
theorem dX7_init_321 : decode cX7_init 321 = .ok (.iastore, 1) := by decide +kernel
theorem dX7_init_322 : decode cX7_init 322 = .ok (.dup, 1) := by decide +kernel
theorem dX7_init_323 : decode cX7_init 323 = .ok (.bipush 21, 2) := by decide +kernel
theorem dX7_init_325 : decode cX7_init 325 = .ok (.bipush 107, 2) := by decide +kernel
theorem dX7_init_327 : decode cX7_init 327 = .ok (.iastore, 1) := by decide +kernel
theorem dX7_init_328 : decode cX7_init 328 = .ok (.dup, 1) := by decide +kernel
theorem dX7_init_329 : decode cX7_init 329 = .ok (.bipush 22, 2) := by decide +kernel
theorem dX7_init_331 : decode cX7_init 331 = .ok (.bipush 101, 2) := by decide +kernel
theorem dX7_init_333 : decode cX7_init 333 = .ok (.iastore, 1) := by decide +kernel
theorem dX7_init_334 : decode cX7_init 334 = .ok (.dup, 1) := by decide +kernel
theorem dX7_init_335 : decode cX7_init 335 = .ok (.bipush 23, 2) := by decide +kernel
theorem dX7_init_337 : decode cX7_init 337 = .ok (.bipush 114, 2) := by decide +kernel
theorem dX7_init_339 : decode cX7_init 339 = .ok (.iastore, 1) := by decide +kernel
theorem dX7_init_340 : decode cX7_init 340 = .ok (.dup, 1) := by decide +kernel
theorem dX7_init_341 : decode cX7_init 341 = .ok (.bipush 24, 2) := by decide +kernel
theorem dX7_init_343 : decode cX7_init 343 = .ok (.bipush 32, 2) := by decide +kernel
theorem dX7_init_345 : decode cX7_init 345 = .ok (.iastore, 1) := by decide +kernel
theorem dX7_init_346 : decode cX7_init 346 = .ok (.dup, 1) := by decide +kernel
theorem dX7_init_347 : decode cX7_init 347 = .ok (.bipush 25, 2) := by decide +kernel
theorem dX7_init_349 : decode cX7_init 349 = .ok (.iconst 0, 1) := by decide +kernel
theorem dX7_init_350 : decode cX7_init 350 = .ok (.iastore, 1) := by decide +kernel
theorem dX7_init_351 : decode cX7_init 351 = .ok (.dup, 1) := by decide +kernel
theorem dX7_init_352 : decode cX7_init 352 = .ok (.bipush 26, 2) := by decide +kernel
theorem dX7_init_354 : decode cX7_init 354 = .ok (.bipush 98, 2) := by decide +kernel
theorem dX7_init_356 : decode cX7_init 356 = .ok (.iastore, 1) := by decide +kernel
theorem dX7_init_357 : decode cX7_init 357 = .ok (.dup, 1) := by decide +kernel
theorem dX7_init_358 : decode cX7_init 358 = .ok (.bipush 27, 2) := by decide +kernel
theorem dX7_init_360 : decode cX7_init 360 = .ok (.bipush 101, 2) := by decide +kernel
theorem dX7_init_362 : decode cX7_init 362 = .ok (.iastore, 1) := by decide +kernel
theorem dX7_init_363 : decode cX7_init 363 = .ok (.dup, 1) := by decide +kernel
theorem dX7_init_364 : decode cX7_init 364 = .ok (.bipush 28, 2) := by decide +kernel
theorem dX7_init_366 : decode cX7_init 366 = .ok (.bipush 97, 2) := by decide +kernel
theorem dX7_init_368 : decode cX7_init 368 = .ok (.iastore, 1) := by decide +kernel
theorem dX7_init_369 : decode cX7_init 369 = .ok (.dup, 1) := by decide +kernel
theorem dX7_init_370 : decode cX7_init 370 = .ok (.bipush 29, 2) := by decide +kernel
theorem dX7_init_372 : decode cX7_init 372 = .ok (.bipush 116, 2) := by decide +kernel
theorem dX7_init_374 : decode cX7_init 374 = .ok (.iastore, 1) := by decide +kernel
theorem dX7_init_375 : decode cX7_init 375 = .ok (.dup, 1) := by decide +kernel
theorem dX7_init_376 : decode cX7_init 376 = .ok (.bipush 30, 2) := by decide +kernel
theorem dX7_init_378 : decode cX7_init 378 = .ok (.bipush 32, 2) := by decide +kernel
theorem dX7_init_380 : decode cX7_init 380 = .ok (.iastore, 1) := by decide +kernel
theorem dX7_init_381 : decode cX7_init 381 = .ok (.dup, 1) := by decide +kernel
theorem dX7_init_382 : decode cX7_init 382 = .ok (.bipush 31, 2) := by decide +kernel
theorem dX7_init_384 : decode cX7_init 384 = .ok (.iconst 0, 1) := by decide +kernel
theorem dX7_init_385 : decode cX7_init 385 = .ok (.iastore, 1) := by decide +kernel
theorem dX7_init_386 : decode cX7_init 386 = .ok (.putfield 87, 3) := by decide +kernel
theorem dX7_init_389 : decode cX7_init 389 = .ok (.aload_n 0, 1) := by decide +kernel
theorem dX7_init_390 : decode cX7_init 390 = .ok (.iconst 5, 1) := by decide +kernel
theorem dX7_init_391 : decode cX7_init 391 = .ok (.newarray .int, 2) := by decide +kernel
theorem dX7_init_393 : decode cX7_init 393 = .ok (.putfield 90, 3) := by decide +kernel
theorem dX7_init_396 : decode cX7_init 396 = .ok (.aload_n 0, 1) := by decide +kernel
theorem dX7_init_397 : decode cX7_init 397 = .ok (.bipush 8, 2) := by decide +kernel
theorem dX7_init_399 : decode cX7_init 399 = .ok (.newarray .int, 2) := by decide +kernel
theorem dX7_init_401 : decode cX7_init 401 = .ok (.putfield 93, 3) := by decide +kernel
theorem dX7_init_404 : decode cX7_init 404 = .ok (.aload_n 0, 1) := by decide +kernel
theorem dX7_init_405 : decode cX7_init 405 = .ok (.sipush 200, 3) := by decide +kernel
theorem dX7_init_408 : decode cX7_init 408 = .ok (.newarray .int, 2) := by decide +kernel
theorem dX7_init_410 : decode cX7_init 410 = .ok (.putfield 96, 3) := by decide +kernel
theorem dX7_init_413 : decode cX7_init 413 = .ok (.aload_n 0, 1) := by decide +kernel
theorem dX7_init_414 : decode cX7_init 414 = .ok (.sipush 200, 3) := by decide +kernel
theorem dX7_init_417 : decode cX7_init 417 = .ok (.newarray .int, 2) := by decide +kernel
theorem dX7_init_419 : decode cX7_init 419 = .ok (.putfield 99, 3) := by decide +kernel
theorem dX7_init_422 : decode cX7_init 422 = .ok (.aload_n 0, 1) := by decide +kernel
theorem dX7_init_423 : decode cX7_init 423 = .ok (.bipush 6, 2) := by decide +kernel
theorem dX7_init_425 : decode cX7_init 425 = .ok (.newarray .int, 2) := by decide +kernel
theorem dX7_init_427 : decode cX7_init 427 = .ok (.putfield 102, 3) := by decide +kernel
theorem dX7_init_430 : decode cX7_init 430 = .ok (.aload_n 0, 1) := by decide +kernel
theorem dX7_init_431 : decode cX7_init 431 = .ok (.bipush 6, 2) := by decide +kernel
theorem dX7_init_433 : decode cX7_init 433 = .ok (.newarray .int, 2) := by decide +kernel
theorem dX7_init_435 : decode cX7_init 435 = .ok (.putfield 105, 3) := by decide +kernel
theorem dX7_init_438 : decode cX7_init 438 = .ok (.aload_n 0, 1) := by decide +kernel
theorem dX7_init_439 : decode cX7_init 439 = .ok (.bipush 6, 2) := by decide +kernel
theorem dX7_init_441 : decode cX7_init 441 = .ok (.newarray .int, 2) := by decide +kernel
theorem dX7_init_443 : decode cX7_init 443 = .ok (.putfield 108, 3) := by decide +kernel
theorem dX7_init_446 : decode cX7_init 446 = .ok (.aload_n 0, 1) := by decide +kernel
theorem dX7_init_447 : decode cX7_init 447 = .ok (.bipush 6, 2) := by decide +kernel
theorem dX7_init_449 : decode cX7_init 449 = .ok (.newarray .int, 2) := by decide +kernel
theorem dX7_init_451 : decode cX7_init 451 = .ok (.putfield 111, 3) := by decide +kernel
theorem dX7_init_454 : decode cX7_init 454 = .ok (.aload_n 0, 1) := by decide +kernel
theorem dX7_init_455 : decode cX7_init 455 = .ok (.bipush 6, 2) := by decide +kernel
theorem dX7_init_457 : decode cX7_init 457 = .ok (.newarray .int, 2) := by decide +kernel
theorem dX7_init_459 : decode cX7_init 459 = .ok (.putfield 114, 3) := by decide +kernel
theorem dX7_init_462 : decode cX7_init 462 = .ok (.aload_n 0, 1) := by decide +kernel
theorem dX7_init_463 : decode cX7_init 463 = .ok (.sipush 401, 3) := by decide +kernel
theorem dX7_init_466 : decode cX7_init 466 = .ok (.newarray .long, 2) := by decide +kernel
theorem dX7_init_468 : decode cX7_init 468 = .ok (.putfield 117, 3) := by decide +kernel
theorem dX7_init_471 : decode cX7_init 471 = .ok (.aload_n 0, 1) := by decide +kernel
theorem dX7_init_472 : decode cX7_init 472 = .ok (.sipush 401, 3) := by decide +kernel
theorem dX7_init_475 : decode cX7_init 475 = .ok (.newarray .long, 2) := by decide +kernel
theorem dX7_init_477 : decode cX7_init 477 = .ok (.putfield 120, 3) := by decide +kernel
theorem dX7_init_480 : decode cX7_init 480 = .ok (.aload_n 0, 1) := by decide +kernel
theorem dX7_init_481 : decode cX7_init 481 = .ok (.bipush 20, 2) := by decide +kernel
theorem dX7_init_483 : decode cX7_init 483 = .ok (.newarray .int, 2) := by decide +kernel
theorem dX7_init_485 : decode cX7_init 485 = .ok (.putfield 123, 3) := by decide +kernel
theorem dX7_init_488 : decode cX7_init 488 = .ok (.return_, 1) := by decide +kernel
theorem dX7_no_0 : decode cX7_no 0 = .ok (.aload_n 0, 1) := by decide +kernel
theorem dX7_no_1 : decode cX7_no 1 = .ok (.getfield 16, 3) := by decide +kernel
theorem dX7_no_4 : decode cX7_no 4 = .ok (.iload_n 1, 1) := by decide +kernel
theorem dX7_no_5 : decode cX7_no 5 = .ok (.ineg, 1) := by decide +kernel
theorem dX7_no_6 : decode cX7_no 6 = .ok (.dup2, 1) := by decide +kernel
theorem dX7_no_7 : decode cX7_no 7 = .ok (.iaload, 1) := by decide +kernel
theorem dX7_no_8 : decode cX7_no 8 = .ok (.iconst 1, 1) := by decide +kernel
theorem dX7_no_9 : decode cX7_no 9 = .ok (.iadd, 1) := by decide +kernel
theorem dX7_no_10 : decode cX7_no 10 = .ok (.iastore, 1) := by decide +kernel
theorem dX7_no_11 : decode cX7_no 11 = .ok (.iload_n 1, 1) := by decide +kernel
theorem dX7_no_12 : decode cX7_no 12 = .ok (.ireturn, 1) := by decide +kernel
theorem dX7_noTen_0 : decode cX7_noTen 0 = .ok (.aload_n 0, 1) := by decide +kernel
theorem dX7_noTen_1 : decode cX7_noTen 1 = .ok (.getfield 16, 3) := by decide +kernel
theorem dX7_noTen_4 : decode cX7_noTen 4 = .ok (.iload_n 1, 1) := by decide +kernel
theorem dX7_noTen_5 : decode cX7_noTen 5 = .ok (.ineg, 1) := by decide +kernel
theorem dX7_noTen_6 : decode cX7_noTen 6 = .ok (.dup2, 1) := by decide +kernel
theorem dX7_noTen_7 : decode cX7_noTen 7 = .ok (.iaload, 1) := by decide +kernel
theorem dX7_noTen_8 : decode cX7_noTen 8 = .ok (.iconst 1, 1) := by decide +kernel
theorem dX7_noTen_9 : decode cX7_noTen 9 = .ok (.iadd, 1) := by decide +kernel
theorem dX7_noTen_10 : decode cX7_noTen 10 = .ok (.iastore, 1) := by decide +kernel
theorem dX7_noTen_11 : decode cX7_noTen 11 = .ok (.iload_n 1, 1) := by decide +kernel
theorem dX7_noTen_12 : decode cX7_noTen 12 = .ok (.bipush 10, 2) := by decide +kernel
theorem dX7_noTen_14 : decode cX7_noTen 14 = .ok (.isub, 1) := by decide +kernel
theorem dX7_noTen_15 : decode cX7_noTen 15 = .ok (.ireturn, 1) := by decide +kernel
theorem dX7_isShelf_0 : decode cX7_isShelf 0 = .ok (.iload_n 1, 1) := by decide +kernel
theorem dX7_isShelf_1 : decode cX7_isShelf 1 = .ok (.ifCond .lt 13, 3) := by decide +kernel
theorem dX7_isShelf_4 : decode cX7_isShelf 4 = .ok (.iload_n 1, 1) := by decide +kernel
theorem dX7_isShelf_5 : decode cX7_isShelf 5 = .ok (.bipush 8, 2) := by decide +kernel
theorem dX7_isShelf_7 : decode cX7_isShelf 7 = .ok (.if_icmp .ge 7, 3) := by decide +kernel
theorem dX7_isShelf_10 : decode cX7_isShelf 10 = .ok (.iconst 1, 1) := by decide +kernel
theorem dX7_isShelf_11 : decode cX7_isShelf 11 = .ok (.goto 4, 3) := by decide +kernel
theorem dX7_isShelf_14 : decode cX7_isShelf 14 = .ok (.iconst 0, 1) := by decide +kernel
theorem dX7_isShelf_15 : decode cX7_isShelf 15 = .ok (.ireturn, 1) := by decide +kernel
theorem dX7_isWalker_0 : decode cX7_isWalker 0 = .ok (.iload_n 1, 1) := by decide +kernel
theorem dX7_isWalker_1 : decode cX7_isWalker 1 = .ok (.ifCond .lt 15, 3) := by decide +kernel
theorem dX7_isWalker_4 : decode cX7_isWalker 4 = .ok (.iload_n 1, 1) := by decide +kernel
theorem dX7_isWalker_5 : decode cX7_isWalker 5 = .ok (.aload_n 0, 1) := by decide +kernel
theorem dX7_isWalker_6 : decode cX7_isWalker 6 = .ok (.getfield 126, 3) := by decide +kernel
theorem dX7_isWalker_9 : decode cX7_isWalker 9 = .ok (.if_icmp .ge 7, 3) := by decide +kernel
theorem dX7_isWalker_12 : decode cX7_isWalker 12 = .ok (.iconst 1, 1) := by decide +kernel
theorem dX7_isWalker_13 : decode cX7_isWalker 13 = .ok (.goto 4, 3) := by decide +kernel
theorem dX7_isWalker_16 : decode cX7_isWalker 16 = .ok (.iconst 0, 1) := by decide +kernel
theorem dX7_isWalker_17 : decode cX7_isWalker 17 = .ok (.ireturn, 1) := by decide +kernel
theorem dX7_isGait_0 : decode cX7_isGait 0 = .ok (.iload_n 1, 1) := by decide +kernel
theorem dX7_isGait_1 : decode cX7_isGait 1 = .ok (.ifCond .lt 15, 3) := by decide +kernel
theorem dX7_isGait_4 : decode cX7_isGait 4 = .ok (.iload_n 1, 1) := by decide +kernel
theorem dX7_isGait_5 : decode cX7_isGait 5 = .ok (.aload_n 0, 1) := by decide +kernel
theorem dX7_isGait_6 : decode cX7_isGait 6 = .ok (.getfield 129, 3) := by decide +kernel
theorem dX7_isGait_9 : decode cX7_isGait 9 = .ok (.if_icmp .ge 7, 3) := by decide +kernel
theorem dX7_isGait_12 : decode cX7_isGait 12 = .ok (.iconst 1, 1) := by decide +kernel
theorem dX7_isGait_13 : decode cX7_isGait 13 = .ok (.goto 4, 3) := by decide +kernel
theorem dX7_isGait_16 : decode cX7_isGait 16 = .ok (.iconst 0, 1) := by decide +kernel
theorem dX7_isGait_17 : decode cX7_isGait 17 = .ok (.ireturn, 1) := by decide +kernel
theorem dX7_row_0 : decode cX7_row 0 = .ok (.aload_n 0, 1) := by decide +kernel
theorem dX7_row_1 : decode cX7_row 1 = .ok (.iload_n 1, 1) := by decide +kernel
theorem dX7_row_2 : decode cX7_row 2 = .ok (.invokevirtual 132, 3) := by decide +kernel
theorem dX7_row_5 : decode cX7_row 5 = .ok (.ifCond .ne 9, 3) := by decide +kernel
theorem dX7_row_8 : decode cX7_row 8 = .ok (.aload_n 0, 1) := by decide +kernel
theorem dX7_row_9 : decode cX7_row 9 = .ok (.iconst (-1), 1) := by decide +kernel
theorem dX7_row_10 : decode cX7_row 10 = .ok (.invokevirtual 136, 3) := by decide +kernel
theorem dX7_row_13 : decode cX7_row 13 = .ok (.ireturn, 1) := by decide +kernel
theorem dX7_row_14 : decode cX7_row 14 = .ok (.iload_n 3, 1) := by decide +kernel
theorem dX7_row_15 : decode cX7_row 15 = .ok (.ifCond .ge 10, 3) := by decide +kernel
theorem dX7_row_18 : decode cX7_row 18 = .ok (.aload_n 0, 1) := by decide +kernel
theorem dX7_row_19 : decode cX7_row 19 = .ok (.bipush (-4), 2) := by decide +kernel
theorem dX7_row_21 : decode cX7_row 21 = .ok (.invokevirtual 136, 3) := by decide +kernel
theorem dX7_row_24 : decode cX7_row 24 = .ok (.ireturn, 1) := by decide +kernel
theorem dX7_row_25 : decode cX7_row 25 = .ok (.iload_n 2, 1) := by decide +kernel
theorem dX7_row_26 : decode cX7_row 26 = .ok (.ifCond .lt 8, 3) := by decide +kernel
theorem dX7_row_29 : decode cX7_row 29 = .ok (.iload_n 2, 1) := by decide +kernel
theorem dX7_row_30 : decode cX7_row 30 = .ok (.iconst 3, 1) := by decide +kernel
theorem dX7_row_31 : decode cX7_row 31 = .ok (.if_icmp .le 10, 3) := by decide +kernel
theorem dX7_row_34 : decode cX7_row 34 = .ok (.aload_n 0, 1) := by decide +kernel
theorem dX7_row_35 : decode cX7_row 35 = .ok (.bipush (-6), 2) := by decide +kernel
theorem dX7_row_37 : decode cX7_row 37 = .ok (.invokevirtual 136, 3) := by decide +kernel
theorem dX7_row_40 : decode cX7_row 40 = .ok (.ireturn, 1) := by decide +kernel
theorem dX7_row_41 : decode cX7_row 41 = .ok (.iload_n 3, 1) := by decide +kernel
theorem dX7_row_42 : decode cX7_row 42 = .ok (.sipush 160, 3) := by decide +kernel
theorem dX7_row_45 : decode cX7_row 45 = .ok (.if_icmp .le 10, 3) := by decide +kernel
theorem dX7_row_48 : decode cX7_row 48 = .ok (.aload_n 0, 1) := by decide +kernel
theorem dX7_row_49 : decode cX7_row 49 = .ok (.bipush (-7), 2) := by decide +kernel
theorem dX7_row_51 : decode cX7_row 51 = .ok (.invokevirtual 136, 3) := by decide +kernel
theorem dX7_row_54 : decode cX7_row 54 = .ok (.ireturn, 1) := by decide +kernel
theorem dX7_row_55 : decode cX7_row 55 = .ok (.aload_n 0, 1) := by decide +kernel
theorem dX7_row_56 : decode cX7_row 56 = .ok (.getfield 68, 3) := by decide +kernel
theorem dX7_row_59 : decode cX7_row 59 = .ok (.iload_n 1, 1) := by decide +kernel
theorem dX7_row_60 : decode cX7_row 60 = .ok (.iconst 1, 1) := by decide +kernel
theorem dX7_row_61 : decode cX7_row 61 = .ok (.iastore, 1) := by decide +kernel
theorem dX7_row_62 : decode cX7_row 62 = .ok (.aload_n 0, 1) := by decide +kernel
theorem dX7_row_63 : decode cX7_row 63 = .ok (.getfield 71, 3) := by decide +kernel
theorem dX7_row_66 : decode cX7_row 66 = .ok (.iload_n 1, 1) := by decide +kernel
theorem dX7_row_67 : decode cX7_row 67 = .ok (.iload_n 2, 1) := by decide +kernel
theorem dX7_row_68 : decode cX7_row 68 = .ok (.iastore, 1) := by decide +kernel
theorem dX7_row_69 : decode cX7_row 69 = .ok (.aload_n 0, 1) := by decide +kernel
theorem dX7_row_70 : decode cX7_row 70 = .ok (.getfield 74, 3) := by decide +kernel
theorem dX7_row_73 : decode cX7_row 73 = .ok (.iload_n 1, 1) := by decide +kernel
theorem dX7_row_74 : decode cX7_row 74 = .ok (.iload_n 3, 1) := by decide +kernel
theorem dX7_row_75 : decode cX7_row 75 = .ok (.iastore, 1) := by decide +kernel
theorem dX7_row_76 : decode cX7_row 76 = .ok (.iconst 0, 1) := by decide +kernel
theorem dX7_row_77 : decode cX7_row 77 = .ok (.istore 4, 2) := by decide +kernel
theorem dX7_row_79 : decode cX7_row 79 = .ok (.iload 4, 2) := by decide +kernel
theorem dX7_row_81 : decode cX7_row 81 = .ok (.sipush 160, 3) := by decide +kernel
theorem dX7_row_84 : decode cX7_row 84 = .ok (.if_icmp .ge 23, 3) := by decide +kernel
theorem dX7_row_87 : decode cX7_row 87 = .ok (.aload_n 0, 1) := by decide +kernel
theorem dX7_row_88 : decode cX7_row 88 = .ok (.getfield 80, 3) := by decide +kernel
theorem dX7_row_91 : decode cX7_row 91 = .ok (.sipush 160, 3) := by decide +kernel
theorem dX7_row_94 : decode cX7_row 94 = .ok (.iload_n 1, 1) := by decide +kernel
theorem dX7_row_95 : decode cX7_row 95 = .ok (.imul, 1) := by decide +kernel
theorem dX7_row_96 : decode cX7_row 96 = .ok (.iload 4, 2) := by decide +kernel
theorem dX7_row_98 : decode cX7_row 98 = .ok (.iadd, 1) := by decide +kernel
theorem dX7_row_99 : decode cX7_row 99 = .ok (.lconst 0, 1) := by decide +kernel
theorem dX7_row_100 : decode cX7_row 100 = .ok (.lastore, 1) := by decide +kernel
theorem dX7_row_101 : decode cX7_row 101 = .ok (.iinc 4 1, 3) := by decide +kernel
theorem dX7_row_104 : decode cX7_row 104 = .ok (.goto (-25), 3) := by decide +kernel
theorem dX7_row_107 : decode cX7_row 107 = .ok (.iconst 1, 1) := by decide +kernel
theorem dX7_row_108 : decode cX7_row 108 = .ok (.ireturn, 1) := by decide +kernel
theorem dX7_set_0 : decode cX7_set 0 = .ok (.aload_n 0, 1) := by decide +kernel
theorem dX7_set_1 : decode cX7_set 1 = .ok (.iload_n 1, 1) := by decide +kernel
theorem dX7_set_2 : decode cX7_set 2 = .ok (.invokevirtual 132, 3) := by decide +kernel
theorem dX7_set_5 : decode cX7_set 5 = .ok (.ifCond .ne 9, 3) := by decide +kernel
theorem dX7_set_8 : decode cX7_set 8 = .ok (.aload_n 0, 1) := by decide +kernel
theorem dX7_set_9 : decode cX7_set 9 = .ok (.iconst (-1), 1) := by decide +kernel
theorem dX7_set_10 : decode cX7_set 10 = .ok (.invokevirtual 136, 3) := by decide +kernel
theorem dX7_set_13 : decode cX7_set 13 = .ok (.ireturn, 1) := by decide +kernel
theorem dX7_set_14 : decode cX7_set 14 = .ok (.aload_n 0, 1) := by decide +kernel
theorem dX7_set_15 : decode cX7_set 15 = .ok (.getfield 68, 3) := by decide +kernel
theorem dX7_set_18 : decode cX7_set 18 = .ok (.iload_n 1, 1) := by decide +kernel
theorem dX7_set_19 : decode cX7_set 19 = .ok (.iaload, 1) := by decide +kernel
theorem dX7_set_20 : decode cX7_set 20 = .ok (.iconst 2, 1) := by decide +kernel
theorem dX7_set_21 : decode cX7_set 21 = .ok (.if_icmp .ne 10, 3) := by decide +kernel
theorem dX7_set_24 : decode cX7_set 24 = .ok (.aload_n 0, 1) := by decide +kernel
theorem dX7_set_25 : decode cX7_set 25 = .ok (.bipush (-2), 2) := by decide +kernel
theorem dX7_set_27 : decode cX7_set 27 = .ok (.invokevirtual 136, 3) := by decide +kernel
theorem dX7_set_30 : decode cX7_set 30 = .ok (.ireturn, 1) := by decide +kernel
theorem dX7_set_31 : decode cX7_set 31 = .ok (.aload_n 0, 1) := by decide +kernel
theorem dX7_set_32 : decode cX7_set 32 = .ok (.getfield 68, 3) := by decide +kernel
theorem dX7_set_35 : decode cX7_set 35 = .ok (.iload_n 1, 1) := by decide +kernel
theorem dX7_set_36 : decode cX7_set 36 = .ok (.iaload, 1) := by decide +kernel
theorem dX7_set_37 : decode cX7_set 37 = .ok (.ifCond .ne 10, 3) := by decide +kernel
theorem dX7_set_40 : decode cX7_set 40 = .ok (.aload_n 0, 1) := by decide +kernel
theorem dX7_set_41 : decode cX7_set 41 = .ok (.bipush (-3), 2) := by decide +kernel
theorem dX7_set_43 : decode cX7_set 43 = .ok (.invokevirtual 136, 3) := by decide +kernel
theorem dX7_set_46 : decode cX7_set 46 = .ok (.ireturn, 1) := by decide +kernel
theorem dX7_set_47 : decode cX7_set 47 = .ok (.iload_n 2, 1) := by decide +kernel
theorem dX7_set_48 : decode cX7_set 48 = .ok (.ifCond .lt 13, 3) := by decide +kernel
theorem dX7_set_51 : decode cX7_set 51 = .ok (.iload_n 2, 1) := by decide +kernel
theorem dX7_set_52 : decode cX7_set 52 = .ok (.aload_n 0, 1) := by decide +kernel
theorem dX7_set_53 : decode cX7_set 53 = .ok (.getfield 74, 3) := by decide +kernel
theorem dX7_set_56 : decode cX7_set 56 = .ok (.iload_n 1, 1) := by decide +kernel
theorem dX7_set_57 : decode cX7_set 57 = .ok (.iaload, 1) := by decide +kernel
theorem dX7_set_58 : decode cX7_set 58 = .ok (.if_icmp .lt 10, 3) := by decide +kernel
theorem dX7_set_61 : decode cX7_set 61 = .ok (.aload_n 0, 1) := by decide +kernel
theorem dX7_set_62 : decode cX7_set 62 = .ok (.bipush (-5), 2) := by decide +kernel
theorem dX7_set_64 : decode cX7_set 64 = .ok (.invokevirtual 136, 3) := by decide +kernel
theorem dX7_set_67 : decode cX7_set 67 = .ok (.ireturn, 1) := by decide +kernel
theorem dX7_set_68 : decode cX7_set 68 = .ok (.aload_n 0, 1) := by decide +kernel
theorem dX7_set_69 : decode cX7_set 69 = .ok (.getfield 80, 3) := by decide +kernel
theorem dX7_set_72 : decode cX7_set 72 = .ok (.sipush 160, 3) := by decide +kernel
theorem dX7_set_75 : decode cX7_set 75 = .ok (.iload_n 1, 1) := by decide +kernel
theorem dX7_set_76 : decode cX7_set 76 = .ok (.imul, 1) := by decide +kernel
theorem dX7_set_77 : decode cX7_set 77 = .ok (.iload_n 2, 1) := by decide +kernel
theorem dX7_set_78 : decode cX7_set 78 = .ok (.iadd, 1) := by decide +kernel
theorem dX7_set_79 : decode cX7_set 79 = .ok (.aload_n 0, 1) := by decide +kernel
theorem dX7_set_80 : decode cX7_set 80 = .ok (.getfield 71, 3) := by decide +kernel
theorem dX7_set_83 : decode cX7_set 83 = .ok (.iload_n 1, 1) := by decide +kernel
theorem dX7_set_84 : decode cX7_set 84 = .ok (.iaload, 1) := by decide +kernel
theorem dX7_set_85 : decode cX7_set 85 = .ok (.ifCond .ne 10, 3) := by decide +kernel
theorem dX7_set_88 : decode cX7_set 88 = .ok (.lload_n 3, 1) := by decide +kernel
theorem dX7_set_89 : decode cX7_set 89 = .ok (.l2i, 1) := by decide +kernel
theorem dX7_set_90 : decode cX7_set 90 = .ok (.i2b, 1) := by decide +kernel
theorem dX7_set_91 : decode cX7_set 91 = .ok (.i2l, 1) := by decide +kernel
theorem dX7_set_92 : decode cX7_set 92 = .ok (.goto 37, 3) := by decide +kernel
theorem dX7_set_95 : decode cX7_set 95 = .ok (.aload_n 0, 1) := by decide +kernel
theorem dX7_set_96 : decode cX7_set 96 = .ok (.getfield 71, 3) := by decide +kernel
theorem dX7_set_99 : decode cX7_set 99 = .ok (.iload_n 1, 1) := by decide +kernel
theorem dX7_set_100 : decode cX7_set 100 = .ok (.iaload, 1) := by decide +kernel
theorem dX7_set_101 : decode cX7_set 101 = .ok (.iconst 1, 1) := by decide +kernel
theorem dX7_set_102 : decode cX7_set 102 = .ok (.if_icmp .ne 10, 3) := by decide +kernel
theorem dX7_set_105 : decode cX7_set 105 = .ok (.lload_n 3, 1) := by decide +kernel
theorem dX7_set_106 : decode cX7_set 106 = .ok (.l2i, 1) := by decide +kernel
theorem dX7_set_107 : decode cX7_set 107 = .ok (.i2s, 1) := by decide +kernel
theorem dX7_set_108 : decode cX7_set 108 = .ok (.i2l, 1) := by decide +kernel
theorem dX7_set_109 : decode cX7_set 109 = .ok (.goto 20, 3) := by decide +kernel
theorem dX7_set_112 : decode cX7_set 112 = .ok (.aload_n 0, 1) := by decide +kernel
theorem dX7_set_113 : decode cX7_set 113 = .ok (.getfield 71, 3) := by decide +kernel
theorem dX7_set_116 : decode cX7_set 116 = .ok (.iload_n 1, 1) := by decide +kernel
theorem dX7_set_117 : decode cX7_set 117 = .ok (.iaload, 1) := by decide +kernel
theorem dX7_set_118 : decode cX7_set 118 = .ok (.iconst 2, 1) := by decide +kernel
theorem dX7_set_119 : decode cX7_set 119 = .ok (.if_icmp .ne 9, 3) := by decide +kernel
theorem dX7_set_122 : decode cX7_set 122 = .ok (.lload_n 3, 1) := by decide +kernel
theorem dX7_set_123 : decode cX7_set 123 = .ok (.l2i, 1) := by decide +kernel
theorem dX7_set_124 : decode cX7_set 124 = .ok (.i2l, 1) := by decide +kernel
theorem dX7_set_125 : decode cX7_set 125 = .ok (.goto 4, 3) := by decide +kernel
theorem dX7_set_128 : decode cX7_set 128 = .ok (.lload_n 3, 1) := by decide +kernel
theorem dX7_set_129 : decode cX7_set 129 = .ok (.lastore, 1) := by decide +kernel
theorem dX7_set_130 : decode cX7_set 130 = .ok (.iconst 1, 1) := by decide +kernel
theorem dX7_set_131 : decode cX7_set 131 = .ok (.ireturn, 1) := by decide +kernel
theorem dX7_copy_0 : decode cX7_copy 0 = .ok (.aload_n 0, 1) := by decide +kernel
theorem dX7_copy_1 : decode cX7_copy 1 = .ok (.iload_n 1, 1) := by decide +kernel
theorem dX7_copy_2 : decode cX7_copy 2 = .ok (.invokevirtual 132, 3) := by decide +kernel
theorem dX7_copy_5 : decode cX7_copy 5 = .ok (.ifCond .eq 11, 3) := by decide +kernel
theorem dX7_copy_8 : decode cX7_copy 8 = .ok (.aload_n 0, 1) := by decide +kernel
theorem dX7_copy_9 : decode cX7_copy 9 = .ok (.iload_n 2, 1) := by decide +kernel
theorem dX7_copy_10 : decode cX7_copy 10 = .ok (.invokevirtual 132, 3) := by decide +kernel
theorem dX7_copy_13 : decode cX7_copy 13 = .ok (.ifCond .ne 9, 3) := by decide +kernel
theorem dX7_copy_16 : decode cX7_copy 16 = .ok (.aload_n 0, 1) := by decide +kernel
theorem dX7_copy_17 : decode cX7_copy 17 = .ok (.iconst (-1), 1) := by decide +kernel
theorem dX7_copy_18 : decode cX7_copy 18 = .ok (.invokevirtual 136, 3) := by decide +kernel
theorem dX7_copy_21 : decode cX7_copy 21 = .ok (.ireturn, 1) := by decide +kernel
theorem dX7_copy_22 : decode cX7_copy 22 = .ok (.aload_n 0, 1) := by decide +kernel
theorem dX7_copy_23 : decode cX7_copy 23 = .ok (.getfield 68, 3) := by decide +kernel
theorem dX7_copy_26 : decode cX7_copy 26 = .ok (.iload_n 1, 1) := by decide +kernel
theorem dX7_copy_27 : decode cX7_copy 27 = .ok (.iaload, 1) := by decide +kernel
theorem dX7_copy_28 : decode cX7_copy 28 = .ok (.iconst 2, 1) := by decide +kernel
theorem dX7_copy_29 : decode cX7_copy 29 = .ok (.if_icmp .eq 48, 3) := by decide +kernel
theorem dX7_copy_32 : decode cX7_copy 32 = .ok (.aload_n 0, 1) := by decide +kernel
theorem dX7_copy_33 : decode cX7_copy 33 = .ok (.getfield 68, 3) := by decide +kernel
theorem dX7_copy_36 : decode cX7_copy 36 = .ok (.iload_n 2, 1) := by decide +kernel
theorem dX7_copy_37 : decode cX7_copy 37 = .ok (.iaload, 1) := by decide +kernel
theorem dX7_copy_38 : decode cX7_copy 38 = .ok (.iconst 2, 1) := by decide +kernel
theorem dX7_copy_39 : decode cX7_copy 39 = .ok (.if_icmp .eq 38, 3) := by decide +kernel
theorem dX7_copy_42 : decode cX7_copy 42 = .ok (.aload_n 0, 1) := by decide +kernel
theorem dX7_copy_43 : decode cX7_copy 43 = .ok (.getfield 68, 3) := by decide +kernel
theorem dX7_copy_46 : decode cX7_copy 46 = .ok (.iload_n 1, 1) := by decide +kernel
theorem dX7_copy_47 : decode cX7_copy 47 = .ok (.iaload, 1) := by decide +kernel
theorem dX7_copy_48 : decode cX7_copy 48 = .ok (.iconst 1, 1) := by decide +kernel
theorem dX7_copy_49 : decode cX7_copy 49 = .ok (.if_icmp .ne 35, 3) := by decide +kernel
theorem dX7_copy_52 : decode cX7_copy 52 = .ok (.aload_n 0, 1) := by decide +kernel
theorem dX7_copy_53 : decode cX7_copy 53 = .ok (.getfield 68, 3) := by decide +kernel
theorem dX7_copy_56 : decode cX7_copy 56 = .ok (.iload_n 2, 1) := by decide +kernel
theorem dX7_copy_57 : decode cX7_copy 57 = .ok (.iaload, 1) := by decide +kernel
theorem dX7_copy_58 : decode cX7_copy 58 = .ok (.iconst 1, 1) := by decide +kernel
theorem dX7_copy_59 : decode cX7_copy 59 = .ok (.if_icmp .ne 25, 3) := by decide +kernel
theorem dX7_copy_62 : decode cX7_copy 62 = .ok (.aload_n 0, 1) := by decide +kernel
theorem dX7_copy_63 : decode cX7_copy 63 = .ok (.getfield 71, 3) := by decide +kernel
theorem dX7_copy_66 : decode cX7_copy 66 = .ok (.iload_n 1, 1) := by decide +kernel
theorem dX7_copy_67 : decode cX7_copy 67 = .ok (.iaload, 1) := by decide +kernel
theorem dX7_copy_68 : decode cX7_copy 68 = .ok (.aload_n 0, 1) := by decide +kernel
theorem dX7_copy_69 : decode cX7_copy 69 = .ok (.getfield 71, 3) := by decide +kernel
theorem dX7_copy_72 : decode cX7_copy 72 = .ok (.iload_n 2, 1) := by decide +kernel
theorem dX7_copy_73 : decode cX7_copy 73 = .ok (.iaload, 1) := by decide +kernel
theorem dX7_copy_74 : decode cX7_copy 74 = .ok (.if_icmp .eq 10, 3) := by decide +kernel
theorem dX7_copy_77 : decode cX7_copy 77 = .ok (.aload_n 0, 1) := by decide +kernel
theorem dX7_copy_78 : decode cX7_copy 78 = .ok (.bipush (-2), 2) := by decide +kernel
theorem dX7_copy_80 : decode cX7_copy 80 = .ok (.invokevirtual 136, 3) := by decide +kernel
theorem dX7_copy_83 : decode cX7_copy 83 = .ok (.ireturn, 1) := by decide +kernel
theorem dX7_copy_84 : decode cX7_copy 84 = .ok (.aload_n 0, 1) := by decide +kernel
theorem dX7_copy_85 : decode cX7_copy 85 = .ok (.getfield 68, 3) := by decide +kernel
theorem dX7_copy_88 : decode cX7_copy 88 = .ok (.iload_n 1, 1) := by decide +kernel
theorem dX7_copy_89 : decode cX7_copy 89 = .ok (.iaload, 1) := by decide +kernel
theorem dX7_copy_90 : decode cX7_copy 90 = .ok (.ifCond .eq 12, 3) := by decide +kernel
theorem dX7_copy_93 : decode cX7_copy 93 = .ok (.aload_n 0, 1) := by decide +kernel
theorem dX7_copy_94 : decode cX7_copy 94 = .ok (.getfield 68, 3) := by decide +kernel
theorem dX7_copy_97 : decode cX7_copy 97 = .ok (.iload_n 2, 1) := by decide +kernel
theorem dX7_copy_98 : decode cX7_copy 98 = .ok (.iaload, 1) := by decide +kernel
theorem dX7_copy_99 : decode cX7_copy 99 = .ok (.ifCond .ne 10, 3) := by decide +kernel
theorem dX7_copy_102 : decode cX7_copy 102 = .ok (.aload_n 0, 1) := by decide +kernel
theorem dX7_copy_103 : decode cX7_copy 103 = .ok (.bipush (-3), 2) := by decide +kernel
theorem dX7_copy_105 : decode cX7_copy 105 = .ok (.invokevirtual 136, 3) := by decide +kernel
theorem dX7_copy_108 : decode cX7_copy 108 = .ok (.ireturn, 1) := by decide +kernel
theorem dX7_copy_109 : decode cX7_copy 109 = .ok (.iload 5, 2) := by decide +kernel
theorem dX7_copy_111 : decode cX7_copy 111 = .ok (.ifCond .ge 10, 3) := by decide +kernel
theorem dX7_copy_114 : decode cX7_copy 114 = .ok (.aload_n 0, 1) := by decide +kernel
theorem dX7_copy_115 : decode cX7_copy 115 = .ok (.bipush (-4), 2) := by decide +kernel
theorem dX7_copy_117 : decode cX7_copy 117 = .ok (.invokevirtual 136, 3) := by decide +kernel
theorem dX7_copy_120 : decode cX7_copy 120 = .ok (.ireturn, 1) := by decide +kernel
theorem dX7_copy_121 : decode cX7_copy 121 = .ok (.iload_n 3, 1) := by decide +kernel
theorem dX7_copy_122 : decode cX7_copy 122 = .ok (.ifCond .lt 35, 3) := by decide +kernel
theorem dX7_copy_125 : decode cX7_copy 125 = .ok (.iload 4, 2) := by decide +kernel
theorem dX7_copy_127 : decode cX7_copy 127 = .ok (.ifCond .lt 30, 3) := by decide +kernel
theorem dX7_copy_130 : decode cX7_copy 130 = .ok (.iload_n 3, 1) := by decide +kernel
theorem dX7_copy_131 : decode cX7_copy 131 = .ok (.aload_n 0, 1) := by decide +kernel
theorem dX7_copy_132 : decode cX7_copy 132 = .ok (.getfield 74, 3) := by decide +kernel
theorem dX7_copy_135 : decode cX7_copy 135 = .ok (.iload_n 1, 1) := by decide +kernel
theorem dX7_copy_136 : decode cX7_copy 136 = .ok (.iaload, 1) := by decide +kernel
theorem dX7_copy_137 : decode cX7_copy 137 = .ok (.iload 5, 2) := by decide +kernel
theorem dX7_copy_139 : decode cX7_copy 139 = .ok (.isub, 1) := by decide +kernel
theorem dX7_copy_140 : decode cX7_copy 140 = .ok (.if_icmp .gt 17, 3) := by decide +kernel
theorem dX7_copy_143 : decode cX7_copy 143 = .ok (.iload 4, 2) := by decide +kernel
theorem dX7_copy_145 : decode cX7_copy 145 = .ok (.aload_n 0, 1) := by decide +kernel
theorem dX7_copy_146 : decode cX7_copy 146 = .ok (.getfield 74, 3) := by decide +kernel
theorem dX7_copy_149 : decode cX7_copy 149 = .ok (.iload_n 2, 1) := by decide +kernel
theorem dX7_copy_150 : decode cX7_copy 150 = .ok (.iaload, 1) := by decide +kernel
theorem dX7_copy_151 : decode cX7_copy 151 = .ok (.iload 5, 2) := by decide +kernel
theorem dX7_copy_153 : decode cX7_copy 153 = .ok (.isub, 1) := by decide +kernel
theorem dX7_copy_154 : decode cX7_copy 154 = .ok (.if_icmp .le 10, 3) := by decide +kernel
theorem dX7_copy_157 : decode cX7_copy 157 = .ok (.aload_n 0, 1) := by decide +kernel
theorem dX7_copy_158 : decode cX7_copy 158 = .ok (.bipush (-5), 2) := by decide +kernel
theorem dX7_copy_160 : decode cX7_copy 160 = .ok (.invokevirtual 136, 3) := by decide +kernel
theorem dX7_copy_163 : decode cX7_copy 163 = .ok (.ireturn, 1) := by decide +kernel
theorem dX7_copy_164 : decode cX7_copy 164 = .ok (.iconst 0, 1) := by decide +kernel
theorem dX7_copy_165 : decode cX7_copy 165 = .ok (.istore 6, 2) := by decide +kernel
theorem dX7_copy_167 : decode cX7_copy 167 = .ok (.iload 6, 2) := by decide +kernel
theorem dX7_copy_169 : decode cX7_copy 169 = .ok (.iload 5, 2) := by decide +kernel
theorem dX7_copy_171 : decode cX7_copy 171 = .ok (.if_icmp .ge 31, 3) := by decide +kernel
theorem dX7_copy_174 : decode cX7_copy 174 = .ok (.aload_n 0, 1) := by decide +kernel
theorem dX7_copy_175 : decode cX7_copy 175 = .ok (.getfield 84, 3) := by decide +kernel
theorem dX7_copy_178 : decode cX7_copy 178 = .ok (.iload 6, 2) := by decide +kernel
theorem dX7_copy_180 : decode cX7_copy 180 = .ok (.aload_n 0, 1) := by decide +kernel
theorem dX7_copy_181 : decode cX7_copy 181 = .ok (.getfield 80, 3) := by decide +kernel
theorem dX7_copy_184 : decode cX7_copy 184 = .ok (.sipush 160, 3) := by decide +kernel
theorem dX7_copy_187 : decode cX7_copy 187 = .ok (.iload_n 1, 1) := by decide +kernel
theorem dX7_copy_188 : decode cX7_copy 188 = .ok (.imul, 1) := by decide +kernel
theorem dX7_copy_189 : decode cX7_copy 189 = .ok (.iload_n 3, 1) := by decide +kernel
theorem dX7_copy_190 : decode cX7_copy 190 = .ok (.iadd, 1) := by decide +kernel
theorem dX7_copy_191 : decode cX7_copy 191 = .ok (.iload 6, 2) := by decide +kernel
theorem dX7_copy_193 : decode cX7_copy 193 = .ok (.iadd, 1) := by decide +kernel
theorem dX7_copy_194 : decode cX7_copy 194 = .ok (.laload, 1) := by decide +kernel
theorem dX7_copy_195 : decode cX7_copy 195 = .ok (.lastore, 1) := by decide +kernel
theorem dX7_copy_196 : decode cX7_copy 196 = .ok (.iinc 6 1, 3) := by decide +kernel
theorem dX7_copy_199 : decode cX7_copy 199 = .ok (.goto (-32), 3) := by decide +kernel
theorem dX7_copy_202 : decode cX7_copy 202 = .ok (.iconst 0, 1) := by decide +kernel
theorem dX7_copy_203 : decode cX7_copy 203 = .ok (.istore 6, 2) := by decide +kernel
theorem dX7_copy_205 : decode cX7_copy 205 = .ok (.iload 6, 2) := by decide +kernel
theorem dX7_copy_207 : decode cX7_copy 207 = .ok (.iload 5, 2) := by decide +kernel
theorem dX7_copy_209 : decode cX7_copy 209 = .ok (.if_icmp .ge 32, 3) := by decide +kernel
theorem dX7_copy_212 : decode cX7_copy 212 = .ok (.aload_n 0, 1) := by decide +kernel
theorem dX7_copy_213 : decode cX7_copy 213 = .ok (.getfield 80, 3) := by decide +kernel
theorem dX7_copy_216 : decode cX7_copy 216 = .ok (.sipush 160, 3) := by decide +kernel
theorem dX7_copy_219 : decode cX7_copy 219 = .ok (.iload_n 2, 1) := by decide +kernel
theorem dX7_copy_220 : decode cX7_copy 220 = .ok (.imul, 1) := by decide +kernel
theorem dX7_copy_221 : decode cX7_copy 221 = .ok (.iload 4, 2) := by decide +kernel
theorem dX7_copy_223 : decode cX7_copy 223 = .ok (.iadd, 1) := by decide +kernel
theorem dX7_copy_224 : decode cX7_copy 224 = .ok (.iload 6, 2) := by decide +kernel
theorem dX7_copy_226 : decode cX7_copy 226 = .ok (.iadd, 1) := by decide +kernel
theorem dX7_copy_227 : decode cX7_copy 227 = .ok (.aload_n 0, 1) := by decide +kernel
theorem dX7_copy_228 : decode cX7_copy 228 = .ok (.getfield 84, 3) := by decide +kernel
theorem dX7_copy_231 : decode cX7_copy 231 = .ok (.iload 6, 2) := by decide +kernel
theorem dX7_copy_233 : decode cX7_copy 233 = .ok (.laload, 1) := by decide +kernel
theorem dX7_copy_234 : decode cX7_copy 234 = .ok (.lastore, 1) := by decide +kernel
theorem dX7_copy_235 : decode cX7_copy 235 = .ok (.iinc 6 1, 3) := by decide +kernel
theorem dX7_copy_238 : decode cX7_copy 238 = .ok (.goto (-33), 3) := by decide +kernel
theorem dX7_copy_241 : decode cX7_copy 241 = .ok (.iconst 1, 1) := by decide +kernel
theorem dX7_copy_242 : decode cX7_copy 242 = .ok (.ireturn, 1) := by decide +kernel
theorem dX7_element_0 : decode cX7_element 0 = .ok (.aload_n 0, 1) := by decide +kernel
theorem dX7_element_1 : decode cX7_element 1 = .ok (.iload_n 1, 1) := by decide +kernel
theorem dX7_element_2 : decode cX7_element 2 = .ok (.invokevirtual 132, 3) := by decide +kernel
theorem dX7_element_5 : decode cX7_element 5 = .ok (.ifCond .eq 42, 3) := by decide +kernel
theorem dX7_element_8 : decode cX7_element 8 = .ok (.aload_n 0, 1) := by decide +kernel
theorem dX7_element_9 : decode cX7_element 9 = .ok (.getfield 68, 3) := by decide +kernel
theorem dX7_element_12 : decode cX7_element 12 = .ok (.iload_n 1, 1) := by decide +kernel
theorem dX7_element_13 : decode cX7_element 13 = .ok (.iaload, 1) := by decide +kernel
theorem dX7_element_14 : decode cX7_element 14 = .ok (.iconst 1, 1) := by decide +kernel
theorem dX7_element_15 : decode cX7_element 15 = .ok (.if_icmp .ne 32, 3) := by decide +kernel
theorem dX7_element_18 : decode cX7_element 18 = .ok (.iload_n 2, 1) := by decide +kernel
theorem dX7_element_19 : decode cX7_element 19 = .ok (.ifCond .lt 28, 3) := by decide +kernel
theorem dX7_element_22 : decode cX7_element 22 = .ok (.iload_n 2, 1) := by decide +kernel
theorem dX7_element_23 : decode cX7_element 23 = .ok (.aload_n 0, 1) := by decide +kernel
theorem dX7_element_24 : decode cX7_element 24 = .ok (.getfield 74, 3) := by decide +kernel
theorem dX7_element_27 : decode cX7_element 27 = .ok (.iload_n 1, 1) := by decide +kernel
theorem dX7_element_28 : decode cX7_element 28 = .ok (.iaload, 1) := by decide +kernel
theorem dX7_element_29 : decode cX7_element 29 = .ok (.if_icmp .ge 18, 3) := by decide +kernel
theorem dX7_element_32 : decode cX7_element 32 = .ok (.aload_n 0, 1) := by decide +kernel
theorem dX7_element_33 : decode cX7_element 33 = .ok (.getfield 80, 3) := by decide +kernel
theorem dX7_element_36 : decode cX7_element 36 = .ok (.sipush 160, 3) := by decide +kernel
theorem dX7_element_39 : decode cX7_element 39 = .ok (.iload_n 1, 1) := by decide +kernel
theorem dX7_element_40 : decode cX7_element 40 = .ok (.imul, 1) := by decide +kernel
theorem dX7_element_41 : decode cX7_element 41 = .ok (.iload_n 2, 1) := by decide +kernel
theorem dX7_element_42 : decode cX7_element 42 = .ok (.iadd, 1) := by decide +kernel
theorem dX7_element_43 : decode cX7_element 43 = .ok (.laload, 1) := by decide +kernel
theorem dX7_element_44 : decode cX7_element 44 = .ok (.goto 4, 3) := by decide +kernel
theorem dX7_element_47 : decode cX7_element 47 = .ok (.lconst 0, 1) := by decide +kernel
theorem dX7_element_48 : decode cX7_element 48 = .ok (.lreturn, 1) := by decide +kernel
theorem dX7_show_0 : decode cX7_show 0 = .ok (.aload_n 0, 1) := by decide +kernel
theorem dX7_show_1 : decode cX7_show 1 = .ok (.iload_n 1, 1) := by decide +kernel
theorem dX7_show_2 : decode cX7_show 2 = .ok (.invokevirtual 132, 3) := by decide +kernel
theorem dX7_show_5 : decode cX7_show 5 = .ok (.ifCond .eq 16, 3) := by decide +kernel
theorem dX7_show_8 : decode cX7_show 8 = .ok (.iload_n 2, 1) := by decide +kernel
theorem dX7_show_9 : decode cX7_show 9 = .ok (.iconst (-1), 1) := by decide +kernel
theorem dX7_show_10 : decode cX7_show 10 = .ok (.if_icmp .eq 17, 3) := by decide +kernel
theorem dX7_show_13 : decode cX7_show 13 = .ok (.aload_n 0, 1) := by decide +kernel
theorem dX7_show_14 : decode cX7_show 14 = .ok (.iload_n 2, 1) := by decide +kernel
theorem dX7_show_15 : decode cX7_show 15 = .ok (.invokevirtual 140, 3) := by decide +kernel
theorem dX7_show_18 : decode cX7_show 18 = .ok (.ifCond .ne 9, 3) := by decide +kernel
theorem dX7_show_21 : decode cX7_show 21 = .ok (.aload_n 0, 1) := by decide +kernel
theorem dX7_show_22 : decode cX7_show 22 = .ok (.iconst (-1), 1) := by decide +kernel
theorem dX7_show_23 : decode cX7_show 23 = .ok (.invokevirtual 136, 3) := by decide +kernel
theorem dX7_show_26 : decode cX7_show 26 = .ok (.ireturn, 1) := by decide +kernel
theorem dX7_show_27 : decode cX7_show 27 = .ok (.aload_n 0, 1) := by decide +kernel
theorem dX7_show_28 : decode cX7_show 28 = .ok (.getfield 68, 3) := by decide +kernel
theorem dX7_show_31 : decode cX7_show 31 = .ok (.iload_n 1, 1) := by decide +kernel
theorem dX7_show_32 : decode cX7_show 32 = .ok (.iload_n 2, 1) := by decide +kernel
theorem dX7_show_33 : decode cX7_show 33 = .ok (.iconst (-1), 1) := by decide +kernel
theorem dX7_show_34 : decode cX7_show 34 = .ok (.if_icmp .ne 7, 3) := by decide +kernel
theorem dX7_show_37 : decode cX7_show 37 = .ok (.iconst 0, 1) := by decide +kernel
theorem dX7_show_38 : decode cX7_show 38 = .ok (.goto 4, 3) := by decide +kernel
theorem dX7_show_41 : decode cX7_show 41 = .ok (.iconst 2, 1) := by decide +kernel
theorem dX7_show_42 : decode cX7_show 42 = .ok (.iastore, 1) := by decide +kernel
theorem dX7_show_43 : decode cX7_show 43 = .ok (.aload_n 0, 1) := by decide +kernel
theorem dX7_show_44 : decode cX7_show 44 = .ok (.getfield 77, 3) := by decide +kernel
theorem dX7_show_47 : decode cX7_show 47 = .ok (.iload_n 1, 1) := by decide +kernel
theorem dX7_show_48 : decode cX7_show 48 = .ok (.iload_n 2, 1) := by decide +kernel
theorem dX7_show_49 : decode cX7_show 49 = .ok (.iastore, 1) := by decide +kernel
theorem dX7_show_50 : decode cX7_show 50 = .ok (.iload_n 2, 1) := by decide +kernel
theorem dX7_show_51 : decode cX7_show 51 = .ok (.iconst (-1), 1) := by decide +kernel
theorem dX7_show_52 : decode cX7_show 52 = .ok (.if_icmp .ne 7, 3) := by decide +kernel
theorem dX7_show_55 : decode cX7_show 55 = .ok (.iconst 0, 1) := by decide +kernel
theorem dX7_show_56 : decode cX7_show 56 = .ok (.goto 4, 3) := by decide +kernel
theorem dX7_show_59 : decode cX7_show 59 = .ok (.iconst 1, 1) := by decide +kernel
theorem dX7_show_60 : decode cX7_show 60 = .ok (.ireturn, 1) := by decide +kernel
theorem dX7_holds_0 : decode cX7_holds 0 = .ok (.aload_n 0, 1) := by decide +kernel
theorem dX7_holds_1 : decode cX7_holds 1 = .ok (.iload_n 1, 1) := by decide +kernel
theorem dX7_holds_2 : decode cX7_holds 2 = .ok (.invokevirtual 132, 3) := by decide +kernel
theorem dX7_holds_5 : decode cX7_holds 5 = .ok (.ifCond .eq 12, 3) := by decide +kernel
theorem dX7_holds_8 : decode cX7_holds 8 = .ok (.aload_n 0, 1) := by decide +kernel
theorem dX7_holds_9 : decode cX7_holds 9 = .ok (.getfield 68, 3) := by decide +kernel
theorem dX7_holds_12 : decode cX7_holds 12 = .ok (.iload_n 1, 1) := by decide +kernel
theorem dX7_holds_13 : decode cX7_holds 13 = .ok (.iaload, 1) := by decide +kernel
theorem dX7_holds_14 : decode cX7_holds 14 = .ok (.ifCond .ne 5, 3) := by decide +kernel
theorem dX7_holds_17 : decode cX7_holds 17 = .ok (.iconst (-1), 1) := by decide +kernel
theorem dX7_holds_18 : decode cX7_holds 18 = .ok (.ireturn, 1) := by decide +kernel
theorem dX7_holds_19 : decode cX7_holds 19 = .ok (.aload_n 0, 1) := by decide +kernel
theorem dX7_holds_20 : decode cX7_holds 20 = .ok (.getfield 68, 3) := by decide +kernel
theorem dX7_holds_23 : decode cX7_holds 23 = .ok (.iload_n 1, 1) := by decide +kernel
theorem dX7_holds_24 : decode cX7_holds 24 = .ok (.iaload, 1) := by decide +kernel
theorem dX7_holds_25 : decode cX7_holds 25 = .ok (.iconst 1, 1) := by decide +kernel
theorem dX7_holds_26 : decode cX7_holds 26 = .ok (.if_icmp .ne 15, 3) := by decide +kernel
theorem dX7_holds_29 : decode cX7_holds 29 = .ok (.bipush 100, 2) := by decide +kernel
theorem dX7_holds_31 : decode cX7_holds 31 = .ok (.aload_n 0, 1) := by decide +kernel
theorem dX7_holds_32 : decode cX7_holds 32 = .ok (.getfield 71, 3) := by decide +kernel
theorem dX7_holds_35 : decode cX7_holds 35 = .ok (.iload_n 1, 1) := by decide +kernel
theorem dX7_holds_36 : decode cX7_holds 36 = .ok (.iaload, 1) := by decide +kernel
theorem dX7_holds_37 : decode cX7_holds 37 = .ok (.iadd, 1) := by decide +kernel
theorem dX7_holds_38 : decode cX7_holds 38 = .ok (.goto 9, 3) := by decide +kernel
theorem dX7_holds_41 : decode cX7_holds 41 = .ok (.aload_n 0, 1) := by decide +kernel
theorem dX7_holds_42 : decode cX7_holds 42 = .ok (.getfield 77, 3) := by decide +kernel
theorem dX7_holds_45 : decode cX7_holds 45 = .ok (.iload_n 1, 1) := by decide +kernel
theorem dX7_holds_46 : decode cX7_holds 46 = .ok (.iaload, 1) := by decide +kernel
theorem dX7_holds_47 : decode cX7_holds 47 = .ok (.ireturn, 1) := by decide +kernel
theorem dX7_isTaker_0 : decode cX7_isTaker 0 = .ok (.iload_n 1, 1) := by decide +kernel
theorem dX7_isTaker_1 : decode cX7_isTaker 1 = .ok (.iconst 3, 1) := by decide +kernel
theorem dX7_isTaker_2 : decode cX7_isTaker 2 = .ok (.if_icmp .eq 14, 3) := by decide +kernel
theorem dX7_isTaker_5 : decode cX7_isTaker 5 = .ok (.iload_n 1, 1) := by decide +kernel
theorem dX7_isTaker_6 : decode cX7_isTaker 6 = .ok (.iconst 4, 1) := by decide +kernel
theorem dX7_isTaker_7 : decode cX7_isTaker 7 = .ok (.if_icmp .eq 9, 3) := by decide +kernel
theorem dX7_isTaker_10 : decode cX7_isTaker 10 = .ok (.iload_n 1, 1) := by decide +kernel
theorem dX7_isTaker_11 : decode cX7_isTaker 11 = .ok (.bipush 6, 2) := by decide +kernel
theorem dX7_isTaker_13 : decode cX7_isTaker 13 = .ok (.if_icmp .ne 7, 3) := by decide +kernel
theorem dX7_isTaker_16 : decode cX7_isTaker 16 = .ok (.iconst 1, 1) := by decide +kernel
theorem dX7_isTaker_17 : decode cX7_isTaker 17 = .ok (.goto 4, 3) := by decide +kernel
theorem dX7_isTaker_20 : decode cX7_isTaker 20 = .ok (.iconst 0, 1) := by decide +kernel
theorem dX7_isTaker_21 : decode cX7_isTaker 21 = .ok (.ireturn, 1) := by decide +kernel
theorem dX7_says_0 : decode cX7_says 0 = .ok (.aload_n 0, 1) := by decide +kernel
theorem dX7_says_1 : decode cX7_says 1 = .ok (.iload_n 1, 1) := by decide +kernel
theorem dX7_says_2 : decode cX7_says 2 = .ok (.invokevirtual 132, 3) := by decide +kernel
theorem dX7_says_5 : decode cX7_says 5 = .ok (.ifCond .eq 13, 3) := by decide +kernel
theorem dX7_says_8 : decode cX7_says 8 = .ok (.iload_n 2, 1) := by decide +kernel
theorem dX7_says_9 : decode cX7_says 9 = .ok (.ifCond .lt 9, 3) := by decide +kernel
theorem dX7_says_12 : decode cX7_says 12 = .ok (.iload_n 2, 1) := by decide +kernel
theorem dX7_says_13 : decode cX7_says 13 = .ok (.bipush 6, 2) := by decide +kernel
theorem dX7_says_15 : decode cX7_says 15 = .ok (.if_icmp .le 9, 3) := by decide +kernel
theorem dX7_says_18 : decode cX7_says 18 = .ok (.aload_n 0, 1) := by decide +kernel
theorem dX7_says_19 : decode cX7_says 19 = .ok (.iconst (-1), 1) := by decide +kernel
theorem dX7_says_20 : decode cX7_says 20 = .ok (.invokevirtual 136, 3) := by decide +kernel
theorem dX7_says_23 : decode cX7_says 23 = .ok (.ireturn, 1) := by decide +kernel
theorem dX7_says_24 : decode cX7_says 24 = .ok (.aload_n 0, 1) := by decide +kernel
theorem dX7_says_25 : decode cX7_says 25 = .ok (.getfield 68, 3) := by decide +kernel
theorem dX7_says_28 : decode cX7_says 28 = .ok (.iload_n 1, 1) := by decide +kernel
theorem dX7_says_29 : decode cX7_says 29 = .ok (.iaload, 1) := by decide +kernel
theorem dX7_says_30 : decode cX7_says 30 = .ok (.iconst 1, 1) := by decide +kernel
theorem dX7_says_31 : decode cX7_says 31 = .ok (.if_icmp .ne 10, 3) := by decide +kernel
theorem dX7_says_34 : decode cX7_says 34 = .ok (.aload_n 0, 1) := by decide +kernel
theorem dX7_says_35 : decode cX7_says 35 = .ok (.bipush (-2), 2) := by decide +kernel
theorem dX7_says_37 : decode cX7_says 37 = .ok (.invokevirtual 136, 3) := by decide +kernel
theorem dX7_says_40 : decode cX7_says 40 = .ok (.ireturn, 1) := by decide +kernel
theorem dX7_says_41 : decode cX7_says 41 = .ok (.aload_n 0, 1) := by decide +kernel
theorem dX7_says_42 : decode cX7_says 42 = .ok (.getfield 68, 3) := by decide +kernel
theorem dX7_says_45 : decode cX7_says 45 = .ok (.iload_n 1, 1) := by decide +kernel
theorem dX7_says_46 : decode cX7_says 46 = .ok (.iaload, 1) := by decide +kernel
theorem dX7_says_47 : decode cX7_says 47 = .ok (.ifCond .ne 10, 3) := by decide +kernel
theorem dX7_says_50 : decode cX7_says 50 = .ok (.aload_n 0, 1) := by decide +kernel
theorem dX7_says_51 : decode cX7_says 51 = .ok (.bipush (-3), 2) := by decide +kernel
theorem dX7_says_53 : decode cX7_says 53 = .ok (.invokevirtual 136, 3) := by decide +kernel
theorem dX7_says_56 : decode cX7_says 56 = .ok (.ireturn, 1) := by decide +kernel
theorem dX7_says_57 : decode cX7_says 57 = .ok (.aload_n 0, 1) := by decide +kernel
theorem dX7_says_58 : decode cX7_says 58 = .ok (.getfield 77, 3) := by decide +kernel
theorem dX7_says_61 : decode cX7_says 61 = .ok (.iload_n 1, 1) := by decide +kernel
theorem dX7_says_62 : decode cX7_says 62 = .ok (.iaload, 1) := by decide +kernel
theorem dX7_says_63 : decode cX7_says 63 = .ok (.istore_n 3, 1) := by decide +kernel
theorem dX7_says_64 : decode cX7_says 64 = .ok (.aload_n 0, 1) := by decide +kernel
theorem dX7_says_65 : decode cX7_says 65 = .ok (.getfield 32, 3) := by decide +kernel
theorem dX7_says_68 : decode cX7_says 68 = .ok (.iload_n 3, 1) := by decide +kernel
theorem dX7_says_69 : decode cX7_says 69 = .ok (.iaload, 1) := by decide +kernel
theorem dX7_says_70 : decode cX7_says 70 = .ok (.istore 4, 2) := by decide +kernel
theorem dX7_says_72 : decode cX7_says 72 = .ok (.iconst 0, 1) := by decide +kernel
theorem dX7_says_73 : decode cX7_says 73 = .ok (.istore 5, 2) := by decide +kernel
theorem dX7_says_75 : decode cX7_says 75 = .ok (.iload_n 2, 1) := by decide +kernel
theorem dX7_says_76 : decode cX7_says 76 = .ok (.ifCond .eq 41, 3) := by decide +kernel
theorem dX7_says_79 : decode cX7_says 79 = .ok (.iload_n 2, 1) := by decide +kernel
theorem dX7_says_80 : decode cX7_says 80 = .ok (.iload 4, 2) := by decide +kernel
theorem dX7_says_82 : decode cX7_says 82 = .ok (.if_icmp .eq 35, 3) := by decide +kernel
theorem dX7_says_85 : decode cX7_says 85 = .ok (.iload_n 2, 1) := by decide +kernel
theorem dX7_says_86 : decode cX7_says 86 = .ok (.iconst 1, 1) := by decide +kernel
theorem dX7_says_87 : decode cX7_says 87 = .ok (.if_icmp .ne 9, 3) := by decide +kernel
theorem dX7_says_90 : decode cX7_says 90 = .ok (.iload 4, 2) := by decide +kernel
theorem dX7_says_92 : decode cX7_says 92 = .ok (.iconst 5, 1) := by decide +kernel
theorem dX7_says_93 : decode cX7_says 93 = .ok (.if_icmp .eq 24, 3) := by decide +kernel
theorem dX7_says_96 : decode cX7_says 96 = .ok (.iload_n 2, 1) := by decide +kernel
theorem dX7_says_97 : decode cX7_says 97 = .ok (.iconst 3, 1) := by decide +kernel
theorem dX7_says_98 : decode cX7_says 98 = .ok (.if_icmp .ne 12, 3) := by decide +kernel
theorem dX7_says_101 : decode cX7_says 101 = .ok (.aload_n 0, 1) := by decide +kernel
theorem dX7_says_102 : decode cX7_says 102 = .ok (.iload 4, 2) := by decide +kernel
theorem dX7_says_104 : decode cX7_says 104 = .ok (.invokevirtual 143, 3) := by decide +kernel
theorem dX7_says_107 : decode cX7_says 107 = .ok (.ifCond .ne 10, 3) := by decide +kernel
theorem dX7_says_110 : decode cX7_says 110 = .ok (.aload_n 0, 1) := by decide +kernel
theorem dX7_says_111 : decode cX7_says 111 = .ok (.bipush (-2), 2) := by decide +kernel
theorem dX7_says_113 : decode cX7_says 113 = .ok (.invokevirtual 136, 3) := by decide +kernel
theorem dX7_says_116 : decode cX7_says 116 = .ok (.ireturn, 1) := by decide +kernel
theorem dX7_says_117 : decode cX7_says 117 = .ok (.iload_n 2, 1) := by decide +kernel
theorem dX7_says_118 : decode cX7_says 118 = .ok (.tableswitch 195 0 5 #[38, 45, 91, 137, 144, 151], 38) := by decide +kernel
theorem dX7_says_156 : decode cX7_says 156 = .ok (.aload_n 0, 1) := by decide +kernel
theorem dX7_says_157 : decode cX7_says 157 = .ok (.getfield 44, 3) := by decide +kernel
theorem dX7_says_160 : decode cX7_says 160 = .ok (.iload_n 3, 1) := by decide +kernel
theorem dX7_says_161 : decode cX7_says 161 = .ok (.iaload, 1) := by decide +kernel
theorem dX7_says_162 : decode cX7_says 162 = .ok (.ireturn, 1) := by decide +kernel
theorem dX7_says_163 : decode cX7_says 163 = .ok (.iconst 0, 1) := by decide +kernel
theorem dX7_says_164 : decode cX7_says 164 = .ok (.istore 6, 2) := by decide +kernel
theorem dX7_says_166 : decode cX7_says 166 = .ok (.iload 6, 2) := by decide +kernel
theorem dX7_says_168 : decode cX7_says 168 = .ok (.aload_n 0, 1) := by decide +kernel
theorem dX7_says_169 : decode cX7_says 169 = .ok (.getfield 126, 3) := by decide +kernel
theorem dX7_says_172 : decode cX7_says 172 = .ok (.if_icmp .ge 34, 3) := by decide +kernel
theorem dX7_says_175 : decode cX7_says 175 = .ok (.iload 6, 2) := by decide +kernel
theorem dX7_says_177 : decode cX7_says 177 = .ok (.iload_n 3, 1) := by decide +kernel
theorem dX7_says_178 : decode cX7_says 178 = .ok (.if_icmp .eq 22, 3) := by decide +kernel
theorem dX7_says_181 : decode cX7_says 181 = .ok (.aload_n 0, 1) := by decide +kernel
theorem dX7_says_182 : decode cX7_says 182 = .ok (.getfield 44, 3) := by decide +kernel
theorem dX7_says_185 : decode cX7_says 185 = .ok (.iload 6, 2) := by decide +kernel
theorem dX7_says_187 : decode cX7_says 187 = .ok (.iaload, 1) := by decide +kernel
theorem dX7_says_188 : decode cX7_says 188 = .ok (.aload_n 0, 1) := by decide +kernel
theorem dX7_says_189 : decode cX7_says 189 = .ok (.getfield 44, 3) := by decide +kernel
theorem dX7_says_192 : decode cX7_says 192 = .ok (.iload_n 3, 1) := by decide +kernel
theorem dX7_says_193 : decode cX7_says 193 = .ok (.iaload, 1) := by decide +kernel
theorem dX7_says_194 : decode cX7_says 194 = .ok (.if_icmp .ne 6, 3) := by decide +kernel
theorem dX7_says_197 : decode cX7_says 197 = .ok (.iinc 5 1, 3) := by decide +kernel
theorem dX7_says_200 : decode cX7_says 200 = .ok (.iinc 6 1, 3) := by decide +kernel
theorem dX7_says_203 : decode cX7_says 203 = .ok (.goto (-37), 3) := by decide +kernel
theorem dX7_says_206 : decode cX7_says 206 = .ok (.iload 5, 2) := by decide +kernel
theorem dX7_says_208 : decode cX7_says 208 = .ok (.ireturn, 1) := by decide +kernel
theorem dX7_says_209 : decode cX7_says 209 = .ok (.iconst 0, 1) := by decide +kernel
theorem dX7_says_210 : decode cX7_says 210 = .ok (.istore 6, 2) := by decide +kernel
theorem dX7_says_212 : decode cX7_says 212 = .ok (.iload 6, 2) := by decide +kernel
theorem dX7_says_214 : decode cX7_says 214 = .ok (.aload_n 0, 1) := by decide +kernel
theorem dX7_says_215 : decode cX7_says 215 = .ok (.getfield 126, 3) := by decide +kernel
theorem dX7_says_218 : decode cX7_says 218 = .ok (.if_icmp .ge 34, 3) := by decide +kernel
theorem dX7_says_221 : decode cX7_says 221 = .ok (.iload 6, 2) := by decide +kernel
theorem dX7_says_223 : decode cX7_says 223 = .ok (.iload_n 3, 1) := by decide +kernel
theorem dX7_says_224 : decode cX7_says 224 = .ok (.if_icmp .eq 22, 3) := by decide +kernel
theorem dX7_says_227 : decode cX7_says 227 = .ok (.aload_n 0, 1) := by decide +kernel
theorem dX7_says_228 : decode cX7_says 228 = .ok (.getfield 38, 3) := by decide +kernel
theorem dX7_says_231 : decode cX7_says 231 = .ok (.iload 6, 2) := by decide +kernel
theorem dX7_says_233 : decode cX7_says 233 = .ok (.iaload, 1) := by decide +kernel
theorem dX7_says_234 : decode cX7_says 234 = .ok (.aload_n 0, 1) := by decide +kernel
theorem dX7_says_235 : decode cX7_says 235 = .ok (.getfield 38, 3) := by decide +kernel
theorem dX7_says_238 : decode cX7_says 238 = .ok (.iload_n 3, 1) := by decide +kernel
theorem dX7_says_239 : decode cX7_says 239 = .ok (.iaload, 1) := by decide +kernel
theorem dX7_says_240 : decode cX7_says 240 = .ok (.if_icmp .ne 6, 3) := by decide +kernel
theorem dX7_says_243 : decode cX7_says 243 = .ok (.iinc 5 1, 3) := by decide +kernel
theorem dX7_says_246 : decode cX7_says 246 = .ok (.iinc 6 1, 3) := by decide +kernel
theorem dX7_says_249 : decode cX7_says 249 = .ok (.goto (-37), 3) := by decide +kernel
theorem dX7_says_252 : decode cX7_says 252 = .ok (.iload 5, 2) := by decide +kernel
theorem dX7_says_254 : decode cX7_says 254 = .ok (.ireturn, 1) := by decide +kernel
theorem dX7_says_255 : decode cX7_says 255 = .ok (.aload_n 0, 1) := by decide +kernel
theorem dX7_says_256 : decode cX7_says 256 = .ok (.getfield 47, 3) := by decide +kernel
theorem dX7_says_259 : decode cX7_says 259 = .ok (.iload_n 3, 1) := by decide +kernel
theorem dX7_says_260 : decode cX7_says 260 = .ok (.iaload, 1) := by decide +kernel
theorem dX7_says_261 : decode cX7_says 261 = .ok (.ireturn, 1) := by decide +kernel
theorem dX7_says_262 : decode cX7_says 262 = .ok (.aload_n 0, 1) := by decide +kernel
theorem dX7_says_263 : decode cX7_says 263 = .ok (.getfield 50, 3) := by decide +kernel
theorem dX7_says_266 : decode cX7_says 266 = .ok (.iload_n 3, 1) := by decide +kernel
theorem dX7_says_267 : decode cX7_says 267 = .ok (.iaload, 1) := by decide +kernel
theorem dX7_says_268 : decode cX7_says 268 = .ok (.ireturn, 1) := by decide +kernel
theorem dX7_says_269 : decode cX7_says 269 = .ok (.iconst 0, 1) := by decide +kernel
theorem dX7_says_270 : decode cX7_says 270 = .ok (.istore 6, 2) := by decide +kernel
theorem dX7_says_272 : decode cX7_says 272 = .ok (.iload 6, 2) := by decide +kernel
theorem dX7_says_274 : decode cX7_says 274 = .ok (.aload_n 0, 1) := by decide +kernel
theorem dX7_says_275 : decode cX7_says 275 = .ok (.getfield 126, 3) := by decide +kernel
theorem dX7_says_278 : decode cX7_says 278 = .ok (.if_icmp .ge 32, 3) := by decide +kernel
theorem dX7_says_281 : decode cX7_says 281 = .ok (.aload_n 0, 1) := by decide +kernel
theorem dX7_says_282 : decode cX7_says 282 = .ok (.aload_n 0, 1) := by decide +kernel
theorem dX7_says_283 : decode cX7_says 283 = .ok (.getfield 38, 3) := by decide +kernel
theorem dX7_says_286 : decode cX7_says 286 = .ok (.iload_n 3, 1) := by decide +kernel
theorem dX7_says_287 : decode cX7_says 287 = .ok (.iaload, 1) := by decide +kernel
theorem dX7_says_288 : decode cX7_says 288 = .ok (.aload_n 0, 1) := by decide +kernel
theorem dX7_says_289 : decode cX7_says 289 = .ok (.getfield 38, 3) := by decide +kernel
theorem dX7_says_292 : decode cX7_says 292 = .ok (.iload 6, 2) := by decide +kernel
theorem dX7_says_294 : decode cX7_says 294 = .ok (.iaload, 1) := by decide +kernel
theorem dX7_says_295 : decode cX7_says 295 = .ok (.invokevirtual 146, 3) := by decide +kernel
theorem dX7_says_298 : decode cX7_says 298 = .ok (.ifCond .eq 6, 3) := by decide +kernel
theorem dX7_says_301 : decode cX7_says 301 = .ok (.iinc 5 1, 3) := by decide +kernel
theorem dX7_says_304 : decode cX7_says 304 = .ok (.iinc 6 1, 3) := by decide +kernel
theorem dX7_says_307 : decode cX7_says 307 = .ok (.goto (-35), 3) := by decide +kernel
theorem dX7_says_310 : decode cX7_says 310 = .ok (.iload 5, 2) := by decide +kernel
theorem dX7_says_312 : decode cX7_says 312 = .ok (.ireturn, 1) := by decide +kernel
theorem dX7_says_313 : decode cX7_says 313 = .ok (.aload_n 0, 1) := by decide +kernel
theorem dX7_says_314 : decode cX7_says 314 = .ok (.getfield 129, 3) := by decide +kernel
theorem dX7_says_317 : decode cX7_says 317 = .ok (.iconst 1, 1) := by decide +kernel
theorem dX7_says_318 : decode cX7_says 318 = .ok (.isub, 1) := by decide +kernel
theorem dX7_says_319 : decode cX7_says 319 = .ok (.aload_n 0, 1) := by decide +kernel
theorem dX7_says_320 : decode cX7_says 320 = .ok (.getfield 44, 3) := by decide +kernel
theorem dX7_says_323 : decode cX7_says 323 = .ok (.iload_n 3, 1) := by decide +kernel
theorem dX7_says_324 : decode cX7_says 324 = .ok (.iaload, 1) := by decide +kernel
theorem dX7_says_325 : decode cX7_says 325 = .ok (.isub, 1) := by decide +kernel
theorem dX7_says_326 : decode cX7_says 326 = .ok (.ireturn, 1) := by decide +kernel
theorem dX7_wanted_0 : decode cX7_wanted 0 = .ok (.aload_n 0, 1) := by decide +kernel
theorem dX7_wanted_1 : decode cX7_wanted 1 = .ok (.iload_n 1, 1) := by decide +kernel
theorem dX7_wanted_2 : decode cX7_wanted 2 = .ok (.invokevirtual 132, 3) := by decide +kernel
theorem dX7_wanted_5 : decode cX7_wanted 5 = .ok (.ifCond .ne 7, 3) := by decide +kernel
theorem dX7_wanted_8 : decode cX7_wanted 8 = .ok (.iconst (-1), 1) := by decide +kernel
theorem dX7_wanted_9 : decode cX7_wanted 9 = .ok (.goto 33, 3) := by decide +kernel
theorem dX7_wanted_12 : decode cX7_wanted 12 = .ok (.aload_n 0, 1) := by decide +kernel
theorem dX7_wanted_13 : decode cX7_wanted 13 = .ok (.getfield 68, 3) := by decide +kernel
theorem dX7_wanted_16 : decode cX7_wanted 16 = .ok (.iload_n 1, 1) := by decide +kernel
theorem dX7_wanted_17 : decode cX7_wanted 17 = .ok (.iaload, 1) := by decide +kernel
theorem dX7_wanted_18 : decode cX7_wanted 18 = .ok (.iconst 2, 1) := by decide +kernel
theorem dX7_wanted_19 : decode cX7_wanted 19 = .ok (.if_icmp .ne 8, 3) := by decide +kernel
theorem dX7_wanted_22 : decode cX7_wanted 22 = .ok (.bipush (-2), 2) := by decide +kernel
theorem dX7_wanted_24 : decode cX7_wanted 24 = .ok (.goto 18, 3) := by decide +kernel
theorem dX7_wanted_27 : decode cX7_wanted 27 = .ok (.aload_n 0, 1) := by decide +kernel
theorem dX7_wanted_28 : decode cX7_wanted 28 = .ok (.getfield 68, 3) := by decide +kernel
theorem dX7_wanted_31 : decode cX7_wanted 31 = .ok (.iload_n 1, 1) := by decide +kernel
theorem dX7_wanted_32 : decode cX7_wanted 32 = .ok (.iaload, 1) := by decide +kernel
theorem dX7_wanted_33 : decode cX7_wanted 33 = .ok (.ifCond .ne 8, 3) := by decide +kernel
theorem dX7_wanted_36 : decode cX7_wanted 36 = .ok (.bipush (-3), 2) := by decide +kernel
theorem dX7_wanted_38 : decode cX7_wanted 38 = .ok (.goto 4, 3) := by decide +kernel
theorem dX7_wanted_41 : decode cX7_wanted 41 = .ok (.iconst 0, 1) := by decide +kernel
theorem dX7_wanted_42 : decode cX7_wanted 42 = .ok (.ireturn, 1) := by decide +kernel
theorem dX7_intAt_0 : decode cX7_intAt 0 = .ok (.aload_n 0, 1) := by decide +kernel
theorem dX7_intAt_1 : decode cX7_intAt 1 = .ok (.getfield 80, 3) := by decide +kernel
theorem dX7_intAt_4 : decode cX7_intAt 4 = .ok (.sipush 160, 3) := by decide +kernel
theorem dX7_intAt_7 : decode cX7_intAt 7 = .ok (.iload_n 1, 1) := by decide +kernel
theorem dX7_intAt_8 : decode cX7_intAt 8 = .ok (.imul, 1) := by decide +kernel
theorem dX7_intAt_9 : decode cX7_intAt 9 = .ok (.iload_n 2, 1) := by decide +kernel
theorem dX7_intAt_10 : decode cX7_intAt 10 = .ok (.iadd, 1) := by decide +kernel
theorem dX7_intAt_11 : decode cX7_intAt 11 = .ok (.laload, 1) := by decide +kernel
theorem dX7_intAt_12 : decode cX7_intAt 12 = .ok (.l2i, 1) := by decide +kernel
theorem dX7_intAt_13 : decode cX7_intAt 13 = .ok (.ireturn, 1) := by decide +kernel
theorem dX7_bars_0 : decode cX7_bars 0 = .ok (.aload_n 0, 1) := by decide +kernel
theorem dX7_bars_1 : decode cX7_bars 1 = .ok (.iload_n 1, 1) := by decide +kernel
theorem dX7_bars_2 : decode cX7_bars 2 = .ok (.invokevirtual 150, 3) := by decide +kernel
theorem dX7_bars_5 : decode cX7_bars 5 = .ok (.istore 4, 2) := by decide +kernel
theorem dX7_bars_7 : decode cX7_bars 7 = .ok (.iload 4, 2) := by decide +kernel
theorem dX7_bars_9 : decode cX7_bars 9 = .ok (.ifCond .eq 6, 3) := by decide +kernel
theorem dX7_bars_12 : decode cX7_bars 12 = .ok (.iload 4, 2) := by decide +kernel
theorem dX7_bars_14 : decode cX7_bars 14 = .ok (.ireturn, 1) := by decide +kernel
theorem dX7_bars_15 : decode cX7_bars 15 = .ok (.iload_n 2, 1) := by decide +kernel
theorem dX7_bars_16 : decode cX7_bars 16 = .ok (.ifCond .ge 8, 3) := by decide +kernel
theorem dX7_bars_19 : decode cX7_bars 19 = .ok (.bipush (-4), 2) := by decide +kernel
theorem dX7_bars_21 : decode cX7_bars 21 = .ok (.goto 25, 3) := by decide +kernel
theorem dX7_bars_24 : decode cX7_bars 24 = .ok (.iload_n 3, 1) := by decide +kernel
theorem dX7_bars_25 : decode cX7_bars 25 = .ok (.i2l, 1) := by decide +kernel
theorem dX7_bars_26 : decode cX7_bars 26 = .ok (.iload_n 2, 1) := by decide +kernel
theorem dX7_bars_27 : decode cX7_bars 27 = .ok (.i2l, 1) := by decide +kernel
theorem dX7_bars_28 : decode cX7_bars 28 = .ok (.lmul, 1) := by decide +kernel
theorem dX7_bars_29 : decode cX7_bars 29 = .ok (.aload_n 0, 1) := by decide +kernel
theorem dX7_bars_30 : decode cX7_bars 30 = .ok (.getfield 74, 3) := by decide +kernel
theorem dX7_bars_33 : decode cX7_bars 33 = .ok (.iload_n 1, 1) := by decide +kernel
theorem dX7_bars_34 : decode cX7_bars 34 = .ok (.iaload, 1) := by decide +kernel
theorem dX7_bars_35 : decode cX7_bars 35 = .ok (.i2l, 1) := by decide +kernel
theorem dX7_bars_36 : decode cX7_bars 36 = .ok (.lcmp, 1) := by decide +kernel
theorem dX7_bars_37 : decode cX7_bars 37 = .ok (.ifCond .le 8, 3) := by decide +kernel
theorem dX7_bars_40 : decode cX7_bars 40 = .ok (.bipush (-5), 2) := by decide +kernel
theorem dX7_bars_42 : decode cX7_bars 42 = .ok (.goto 4, 3) := by decide +kernel
theorem dX7_bars_45 : decode cX7_bars 45 = .ok (.iconst 0, 1) := by decide +kernel
theorem dX7_bars_46 : decode cX7_bars 46 = .ok (.ireturn, 1) := by decide +kernel
theorem dX7_gait_0 : decode cX7_gait 0 = .ok (.aload_n 0, 1) := by decide +kernel
theorem dX7_gait_1 : decode cX7_gait 1 = .ok (.iload_n 1, 1) := by decide +kernel
theorem dX7_gait_2 : decode cX7_gait 2 = .ok (.iload_n 2, 1) := by decide +kernel
theorem dX7_gait_3 : decode cX7_gait 3 = .ok (.iconst 1, 1) := by decide +kernel
theorem dX7_gait_4 : decode cX7_gait 4 = .ok (.invokevirtual 153, 3) := by decide +kernel
theorem dX7_gait_7 : decode cX7_gait 7 = .ok (.istore 4, 2) := by decide +kernel
theorem dX7_gait_9 : decode cX7_gait 9 = .ok (.iload 4, 2) := by decide +kernel
theorem dX7_gait_11 : decode cX7_gait 11 = .ok (.ifCond .eq 10, 3) := by decide +kernel
theorem dX7_gait_14 : decode cX7_gait 14 = .ok (.aload_n 0, 1) := by decide +kernel
theorem dX7_gait_15 : decode cX7_gait 15 = .ok (.iload 4, 2) := by decide +kernel
theorem dX7_gait_17 : decode cX7_gait 17 = .ok (.invokevirtual 136, 3) := by decide +kernel
theorem dX7_gait_20 : decode cX7_gait 20 = .ok (.ireturn, 1) := by decide +kernel
theorem dX7_gait_21 : decode cX7_gait 21 = .ok (.iload_n 2, 1) := by decide +kernel
theorem dX7_gait_22 : decode cX7_gait 22 = .ok (.iconst 1, 1) := by decide +kernel
theorem dX7_gait_23 : decode cX7_gait 23 = .ok (.if_icmp .lt 18, 3) := by decide +kernel
theorem dX7_gait_26 : decode cX7_gait 26 = .ok (.iload_n 2, 1) := by decide +kernel
theorem dX7_gait_27 : decode cX7_gait 27 = .ok (.bipush 8, 2) := by decide +kernel
theorem dX7_gait_29 : decode cX7_gait 29 = .ok (.if_icmp .gt 12, 3) := by decide +kernel
theorem dX7_gait_32 : decode cX7_gait 32 = .ok (.iload_n 3, 1) := by decide +kernel
theorem dX7_gait_33 : decode cX7_gait 33 = .ok (.ifCond .lt 8, 3) := by decide +kernel
theorem dX7_gait_36 : decode cX7_gait 36 = .ok (.iload_n 3, 1) := by decide +kernel
theorem dX7_gait_37 : decode cX7_gait 37 = .ok (.iconst 2, 1) := by decide +kernel
theorem dX7_gait_38 : decode cX7_gait 38 = .ok (.if_icmp .le 10, 3) := by decide +kernel
theorem dX7_gait_41 : decode cX7_gait 41 = .ok (.aload_n 0, 1) := by decide +kernel
theorem dX7_gait_42 : decode cX7_gait 42 = .ok (.bipush (-6), 2) := by decide +kernel
theorem dX7_gait_44 : decode cX7_gait 44 = .ok (.invokevirtual 136, 3) := by decide +kernel
theorem dX7_gait_47 : decode cX7_gait 47 = .ok (.ireturn, 1) := by decide +kernel
theorem dX7_gait_48 : decode cX7_gait 48 = .ok (.iconst 0, 1) := by decide +kernel
theorem dX7_gait_49 : decode cX7_gait 49 = .ok (.istore 5, 2) := by decide +kernel
theorem dX7_gait_51 : decode cX7_gait 51 = .ok (.iload 5, 2) := by decide +kernel
theorem dX7_gait_53 : decode cX7_gait 53 = .ok (.iload_n 2, 1) := by decide +kernel
theorem dX7_gait_54 : decode cX7_gait 54 = .ok (.if_icmp .ge 37, 3) := by decide +kernel
theorem dX7_gait_57 : decode cX7_gait 57 = .ok (.aload_n 0, 1) := by decide +kernel
theorem dX7_gait_58 : decode cX7_gait 58 = .ok (.iload_n 1, 1) := by decide +kernel
theorem dX7_gait_59 : decode cX7_gait 59 = .ok (.iload 5, 2) := by decide +kernel
theorem dX7_gait_61 : decode cX7_gait 61 = .ok (.invokevirtual 157, 3) := by decide +kernel
theorem dX7_gait_64 : decode cX7_gait 64 = .ok (.ifCond .lt 14, 3) := by decide +kernel
theorem dX7_gait_67 : decode cX7_gait 67 = .ok (.aload_n 0, 1) := by decide +kernel
theorem dX7_gait_68 : decode cX7_gait 68 = .ok (.iload_n 1, 1) := by decide +kernel
theorem dX7_gait_69 : decode cX7_gait 69 = .ok (.iload 5, 2) := by decide +kernel
theorem dX7_gait_71 : decode cX7_gait 71 = .ok (.invokevirtual 157, 3) := by decide +kernel
theorem dX7_gait_74 : decode cX7_gait 74 = .ok (.iconst 3, 1) := by decide +kernel
theorem dX7_gait_75 : decode cX7_gait 75 = .ok (.if_icmp .le 10, 3) := by decide +kernel
theorem dX7_gait_78 : decode cX7_gait 78 = .ok (.aload_n 0, 1) := by decide +kernel
theorem dX7_gait_79 : decode cX7_gait 79 = .ok (.bipush (-6), 2) := by decide +kernel
theorem dX7_gait_81 : decode cX7_gait 81 = .ok (.invokevirtual 136, 3) := by decide +kernel
theorem dX7_gait_84 : decode cX7_gait 84 = .ok (.ireturn, 1) := by decide +kernel
theorem dX7_gait_85 : decode cX7_gait 85 = .ok (.iinc 5 1, 3) := by decide +kernel
theorem dX7_gait_88 : decode cX7_gait 88 = .ok (.goto (-37), 3) := by decide +kernel
theorem dX7_gait_91 : decode cX7_gait 91 = .ok (.aload_n 0, 1) := by decide +kernel
theorem dX7_gait_92 : decode cX7_gait 92 = .ok (.getfield 129, 3) := by decide +kernel
theorem dX7_gait_95 : decode cX7_gait 95 = .ok (.bipush 8, 2) := by decide +kernel
theorem dX7_gait_97 : decode cX7_gait 97 = .ok (.if_icmp .ne 10, 3) := by decide +kernel
theorem dX7_gait_100 : decode cX7_gait 100 = .ok (.aload_n 0, 1) := by decide +kernel
theorem dX7_gait_101 : decode cX7_gait 101 = .ok (.bipush (-7), 2) := by decide +kernel
theorem dX7_gait_103 : decode cX7_gait 103 = .ok (.invokevirtual 136, 3) := by decide +kernel
theorem dX7_gait_106 : decode cX7_gait 106 = .ok (.ireturn, 1) := by decide +kernel
theorem dX7_gait_107 : decode cX7_gait 107 = .ok (.iconst 0, 1) := by decide +kernel
theorem dX7_gait_108 : decode cX7_gait 108 = .ok (.istore 5, 2) := by decide +kernel
theorem dX7_gait_110 : decode cX7_gait 110 = .ok (.iload 5, 2) := by decide +kernel
theorem dX7_gait_112 : decode cX7_gait 112 = .ok (.iload_n 2, 1) := by decide +kernel
theorem dX7_gait_113 : decode cX7_gait 113 = .ok (.if_icmp .ge 31, 3) := by decide +kernel
theorem dX7_gait_116 : decode cX7_gait 116 = .ok (.aload_n 0, 1) := by decide +kernel
theorem dX7_gait_117 : decode cX7_gait 117 = .ok (.getfield 20, 3) := by decide +kernel
theorem dX7_gait_120 : decode cX7_gait 120 = .ok (.bipush 8, 2) := by decide +kernel
theorem dX7_gait_122 : decode cX7_gait 122 = .ok (.aload_n 0, 1) := by decide +kernel
theorem dX7_gait_123 : decode cX7_gait 123 = .ok (.getfield 129, 3) := by decide +kernel
theorem dX7_gait_126 : decode cX7_gait 126 = .ok (.imul, 1) := by decide +kernel
theorem dX7_gait_127 : decode cX7_gait 127 = .ok (.iload 5, 2) := by decide +kernel
theorem dX7_gait_129 : decode cX7_gait 129 = .ok (.iadd, 1) := by decide +kernel
theorem dX7_gait_130 : decode cX7_gait 130 = .ok (.aload_n 0, 1) := by decide +kernel
theorem dX7_gait_131 : decode cX7_gait 131 = .ok (.iload_n 1, 1) := by decide +kernel
theorem dX7_gait_132 : decode cX7_gait 132 = .ok (.iload 5, 2) := by decide +kernel
theorem dX7_gait_134 : decode cX7_gait 134 = .ok (.invokevirtual 157, 3) := by decide +kernel
theorem dX7_gait_137 : decode cX7_gait 137 = .ok (.iastore, 1) := by decide +kernel
theorem dX7_gait_138 : decode cX7_gait 138 = .ok (.iinc 5 1, 3) := by decide +kernel
theorem dX7_gait_141 : decode cX7_gait 141 = .ok (.goto (-31), 3) := by decide +kernel
theorem dX7_gait_144 : decode cX7_gait 144 = .ok (.aload_n 0, 1) := by decide +kernel
theorem dX7_gait_145 : decode cX7_gait 145 = .ok (.getfield 23, 3) := by decide +kernel
theorem dX7_gait_148 : decode cX7_gait 148 = .ok (.aload_n 0, 1) := by decide +kernel
theorem dX7_gait_149 : decode cX7_gait 149 = .ok (.getfield 129, 3) := by decide +kernel
theorem dX7_gait_152 : decode cX7_gait 152 = .ok (.iload_n 2, 1) := by decide +kernel
theorem dX7_gait_153 : decode cX7_gait 153 = .ok (.iastore, 1) := by decide +kernel
theorem dX7_gait_154 : decode cX7_gait 154 = .ok (.aload_n 0, 1) := by decide +kernel
theorem dX7_gait_155 : decode cX7_gait 155 = .ok (.getfield 26, 3) := by decide +kernel
theorem dX7_gait_158 : decode cX7_gait 158 = .ok (.aload_n 0, 1) := by decide +kernel
theorem dX7_gait_159 : decode cX7_gait 159 = .ok (.getfield 129, 3) := by decide +kernel
theorem dX7_gait_162 : decode cX7_gait 162 = .ok (.iload_n 3, 1) := by decide +kernel
theorem dX7_gait_163 : decode cX7_gait 163 = .ok (.iastore, 1) := by decide +kernel
theorem dX7_gait_164 : decode cX7_gait 164 = .ok (.aload_n 0, 1) := by decide +kernel
theorem dX7_gait_165 : decode cX7_gait 165 = .ok (.dup, 1) := by decide +kernel
theorem dX7_gait_166 : decode cX7_gait 166 = .ok (.getfield 129, 3) := by decide +kernel
theorem dX7_gait_169 : decode cX7_gait 169 = .ok (.dup_x1, 1) := by decide +kernel
theorem dX7_gait_170 : decode cX7_gait 170 = .ok (.iconst 1, 1) := by decide +kernel
theorem dX7_gait_171 : decode cX7_gait 171 = .ok (.iadd, 1) := by decide +kernel
theorem dX7_gait_172 : decode cX7_gait 172 = .ok (.putfield 129, 3) := by decide +kernel
theorem dX7_gait_175 : decode cX7_gait 175 = .ok (.ireturn, 1) := by decide +kernel
theorem dX7_gaitOf_0 : decode cX7_gaitOf 0 = .ok (.aload_n 0, 1) := by decide +kernel
theorem dX7_gaitOf_1 : decode cX7_gaitOf 1 = .ok (.iload_n 1, 1) := by decide +kernel
theorem dX7_gaitOf_2 : decode cX7_gaitOf 2 = .ok (.invokevirtual 161, 3) := by decide +kernel
theorem dX7_gaitOf_5 : decode cX7_gaitOf 5 = .ok (.ifCond .ne 10, 3) := by decide +kernel
theorem dX7_gaitOf_8 : decode cX7_gaitOf 8 = .ok (.aload_n 0, 1) := by decide +kernel
theorem dX7_gaitOf_9 : decode cX7_gaitOf 9 = .ok (.bipush (-5), 2) := by decide +kernel
theorem dX7_gaitOf_11 : decode cX7_gaitOf 11 = .ok (.invokevirtual 164, 3) := by decide +kernel
theorem dX7_gaitOf_14 : decode cX7_gaitOf 14 = .ok (.ireturn, 1) := by decide +kernel
theorem dX7_gaitOf_15 : decode cX7_gaitOf 15 = .ok (.iload_n 2, 1) := by decide +kernel
theorem dX7_gaitOf_16 : decode cX7_gaitOf 16 = .ok (.iconst (-1), 1) := by decide +kernel
theorem dX7_gaitOf_17 : decode cX7_gaitOf 17 = .ok (.if_icmp .ne 10, 3) := by decide +kernel
theorem dX7_gaitOf_20 : decode cX7_gaitOf 20 = .ok (.aload_n 0, 1) := by decide +kernel
theorem dX7_gaitOf_21 : decode cX7_gaitOf 21 = .ok (.getfield 23, 3) := by decide +kernel
theorem dX7_gaitOf_24 : decode cX7_gaitOf 24 = .ok (.iload_n 1, 1) := by decide +kernel
theorem dX7_gaitOf_25 : decode cX7_gaitOf 25 = .ok (.iaload, 1) := by decide +kernel
theorem dX7_gaitOf_26 : decode cX7_gaitOf 26 = .ok (.ireturn, 1) := by decide +kernel
theorem dX7_gaitOf_27 : decode cX7_gaitOf 27 = .ok (.iload_n 2, 1) := by decide +kernel
theorem dX7_gaitOf_28 : decode cX7_gaitOf 28 = .ok (.bipush (-2), 2) := by decide +kernel
theorem dX7_gaitOf_30 : decode cX7_gaitOf 30 = .ok (.if_icmp .ne 10, 3) := by decide +kernel
theorem dX7_gaitOf_33 : decode cX7_gaitOf 33 = .ok (.aload_n 0, 1) := by decide +kernel
theorem dX7_gaitOf_34 : decode cX7_gaitOf 34 = .ok (.getfield 26, 3) := by decide +kernel
theorem dX7_gaitOf_37 : decode cX7_gaitOf 37 = .ok (.iload_n 1, 1) := by decide +kernel
theorem dX7_gaitOf_38 : decode cX7_gaitOf 38 = .ok (.iaload, 1) := by decide +kernel
theorem dX7_gaitOf_39 : decode cX7_gaitOf 39 = .ok (.ireturn, 1) := by decide +kernel
theorem dX7_gaitOf_40 : decode cX7_gaitOf 40 = .ok (.iload_n 2, 1) := by decide +kernel
theorem dX7_gaitOf_41 : decode cX7_gaitOf 41 = .ok (.ifCond .lt 27, 3) := by decide +kernel
theorem dX7_gaitOf_44 : decode cX7_gaitOf 44 = .ok (.iload_n 2, 1) := by decide +kernel
theorem dX7_gaitOf_45 : decode cX7_gaitOf 45 = .ok (.aload_n 0, 1) := by decide +kernel
theorem dX7_gaitOf_46 : decode cX7_gaitOf 46 = .ok (.getfield 23, 3) := by decide +kernel
theorem dX7_gaitOf_49 : decode cX7_gaitOf 49 = .ok (.iload_n 1, 1) := by decide +kernel
theorem dX7_gaitOf_50 : decode cX7_gaitOf 50 = .ok (.iaload, 1) := by decide +kernel
theorem dX7_gaitOf_51 : decode cX7_gaitOf 51 = .ok (.if_icmp .ge 17, 3) := by decide +kernel
theorem dX7_gaitOf_54 : decode cX7_gaitOf 54 = .ok (.aload_n 0, 1) := by decide +kernel
theorem dX7_gaitOf_55 : decode cX7_gaitOf 55 = .ok (.getfield 20, 3) := by decide +kernel
theorem dX7_gaitOf_58 : decode cX7_gaitOf 58 = .ok (.bipush 8, 2) := by decide +kernel
theorem dX7_gaitOf_60 : decode cX7_gaitOf 60 = .ok (.iload_n 1, 1) := by decide +kernel
theorem dX7_gaitOf_61 : decode cX7_gaitOf 61 = .ok (.imul, 1) := by decide +kernel
theorem dX7_gaitOf_62 : decode cX7_gaitOf 62 = .ok (.iload_n 2, 1) := by decide +kernel
theorem dX7_gaitOf_63 : decode cX7_gaitOf 63 = .ok (.iadd, 1) := by decide +kernel
theorem dX7_gaitOf_64 : decode cX7_gaitOf 64 = .ok (.iaload, 1) := by decide +kernel
theorem dX7_gaitOf_65 : decode cX7_gaitOf 65 = .ok (.goto 9, 3) := by decide +kernel
theorem dX7_gaitOf_68 : decode cX7_gaitOf 68 = .ok (.aload_n 0, 1) := by decide +kernel
theorem dX7_gaitOf_69 : decode cX7_gaitOf 69 = .ok (.bipush (-5), 2) := by decide +kernel
theorem dX7_gaitOf_71 : decode cX7_gaitOf 71 = .ok (.invokevirtual 164, 3) := by decide +kernel
theorem dX7_gaitOf_74 : decode cX7_gaitOf 74 = .ok (.ireturn, 1) := by decide +kernel
theorem dX7_adds_0 : decode cX7_adds 0 = .ok (.aload_n 0, 1) := by decide +kernel
theorem dX7_adds_1 : decode cX7_adds 1 = .ok (.getfield 32, 3) := by decide +kernel
theorem dX7_adds_4 : decode cX7_adds 4 = .ok (.aload_n 0, 1) := by decide +kernel
theorem dX7_adds_5 : decode cX7_adds 5 = .ok (.getfield 126, 3) := by decide +kernel
theorem dX7_adds_8 : decode cX7_adds 8 = .ok (.iload_n 1, 1) := by decide +kernel
theorem dX7_adds_9 : decode cX7_adds 9 = .ok (.iastore, 1) := by decide +kernel
theorem dX7_adds_10 : decode cX7_adds 10 = .ok (.aload_n 0, 1) := by decide +kernel
theorem dX7_adds_11 : decode cX7_adds 11 = .ok (.getfield 38, 3) := by decide +kernel
theorem dX7_adds_14 : decode cX7_adds 14 = .ok (.aload_n 0, 1) := by decide +kernel
theorem dX7_adds_15 : decode cX7_adds 15 = .ok (.getfield 126, 3) := by decide +kernel
theorem dX7_adds_18 : decode cX7_adds 18 = .ok (.iload_n 2, 1) := by decide +kernel
theorem dX7_adds_19 : decode cX7_adds 19 = .ok (.iastore, 1) := by decide +kernel
theorem dX7_adds_20 : decode cX7_adds 20 = .ok (.aload_n 0, 1) := by decide +kernel
theorem dX7_adds_21 : decode cX7_adds 21 = .ok (.getfield 41, 3) := by decide +kernel
theorem dX7_adds_24 : decode cX7_adds 24 = .ok (.aload_n 0, 1) := by decide +kernel
theorem dX7_adds_25 : decode cX7_adds 25 = .ok (.getfield 126, 3) := by decide +kernel
theorem dX7_adds_28 : decode cX7_adds 28 = .ok (.iload_n 3, 1) := by decide +kernel
theorem dX7_adds_29 : decode cX7_adds 29 = .ok (.iastore, 1) := by decide +kernel
theorem dX7_adds_30 : decode cX7_adds 30 = .ok (.aload_n 0, 1) := by decide +kernel
theorem dX7_adds_31 : decode cX7_adds 31 = .ok (.getfield 44, 3) := by decide +kernel
theorem dX7_adds_34 : decode cX7_adds 34 = .ok (.aload_n 0, 1) := by decide +kernel
theorem dX7_adds_35 : decode cX7_adds 35 = .ok (.getfield 126, 3) := by decide +kernel
theorem dX7_adds_38 : decode cX7_adds 38 = .ok (.iload 4, 2) := by decide +kernel
theorem dX7_adds_40 : decode cX7_adds 40 = .ok (.iastore, 1) := by decide +kernel
theorem dX7_adds_41 : decode cX7_adds 41 = .ok (.aload_n 0, 1) := by decide +kernel
theorem dX7_adds_42 : decode cX7_adds 42 = .ok (.getfield 47, 3) := by decide +kernel
theorem dX7_adds_45 : decode cX7_adds 45 = .ok (.aload_n 0, 1) := by decide +kernel
theorem dX7_adds_46 : decode cX7_adds 46 = .ok (.getfield 126, 3) := by decide +kernel
theorem dX7_adds_49 : decode cX7_adds 49 = .ok (.iconst 0, 1) := by decide +kernel
theorem dX7_adds_50 : decode cX7_adds 50 = .ok (.iastore, 1) := by decide +kernel
theorem dX7_adds_51 : decode cX7_adds 51 = .ok (.aload_n 0, 1) := by decide +kernel
theorem dX7_adds_52 : decode cX7_adds 52 = .ok (.getfield 50, 3) := by decide +kernel
theorem dX7_adds_55 : decode cX7_adds 55 = .ok (.aload_n 0, 1) := by decide +kernel
theorem dX7_adds_56 : decode cX7_adds 56 = .ok (.getfield 126, 3) := by decide +kernel
theorem dX7_adds_59 : decode cX7_adds 59 = .ok (.iconst 0, 1) := by decide +kernel
theorem dX7_adds_60 : decode cX7_adds 60 = .ok (.iastore, 1) := by decide +kernel
theorem dX7_adds_61 : decode cX7_adds 61 = .ok (.aload_n 0, 1) := by decide +kernel
theorem dX7_adds_62 : decode cX7_adds 62 = .ok (.getfield 35, 3) := by decide +kernel
theorem dX7_adds_65 : decode cX7_adds 65 = .ok (.aload_n 0, 1) := by decide +kernel
theorem dX7_adds_66 : decode cX7_adds 66 = .ok (.getfield 126, 3) := by decide +kernel
theorem dX7_adds_69 : decode cX7_adds 69 = .ok (.iload 5, 2) := by decide +kernel
theorem dX7_adds_71 : decode cX7_adds 71 = .ok (.iastore, 1) := by decide +kernel
theorem dX7_adds_72 : decode cX7_adds 72 = .ok (.aload_n 0, 1) := by decide +kernel
theorem dX7_adds_73 : decode cX7_adds 73 = .ok (.dup, 1) := by decide +kernel
theorem dX7_adds_74 : decode cX7_adds 74 = .ok (.getfield 126, 3) := by decide +kernel
theorem dX7_adds_77 : decode cX7_adds 77 = .ok (.dup_x1, 1) := by decide +kernel
theorem dX7_adds_78 : decode cX7_adds 78 = .ok (.iconst 1, 1) := by decide +kernel
theorem dX7_adds_79 : decode cX7_adds 79 = .ok (.iadd, 1) := by decide +kernel
theorem dX7_adds_80 : decode cX7_adds 80 = .ok (.putfield 126, 3) := by decide +kernel
theorem dX7_adds_83 : decode cX7_adds 83 = .ok (.ireturn, 1) := by decide +kernel
theorem dX7_isPlace_0 : decode cX7_isPlace 0 = .ok (.iload_n 1, 1) := by decide +kernel
theorem dX7_isPlace_1 : decode cX7_isPlace 1 = .ok (.ifCond .lt 13, 3) := by decide +kernel
theorem dX7_isPlace_4 : decode cX7_isPlace 4 = .ok (.iload_n 1, 1) := by decide +kernel
theorem dX7_isPlace_5 : decode cX7_isPlace 5 = .ok (.bipush 49, 2) := by decide +kernel
theorem dX7_isPlace_7 : decode cX7_isPlace 7 = .ok (.if_icmp .ge 7, 3) := by decide +kernel
theorem dX7_isPlace_10 : decode cX7_isPlace 10 = .ok (.iconst 1, 1) := by decide +kernel
theorem dX7_isPlace_11 : decode cX7_isPlace 11 = .ok (.goto 4, 3) := by decide +kernel
theorem dX7_isPlace_14 : decode cX7_isPlace 14 = .ok (.iconst 0, 1) := by decide +kernel
theorem dX7_isPlace_15 : decode cX7_isPlace 15 = .ok (.ireturn, 1) := by decide +kernel
theorem dX7_walker_0 : decode cX7_walker 0 = .ok (.iload_n 1, 1) := by decide +kernel
theorem dX7_walker_1 : decode cX7_walker 1 = .ok (.ifCond .lt 18, 3) := by decide +kernel
theorem dX7_walker_4 : decode cX7_walker 4 = .ok (.iload_n 1, 1) := by decide +kernel
theorem dX7_walker_5 : decode cX7_walker 5 = .ok (.bipush 6, 2) := by decide +kernel
theorem dX7_walker_7 : decode cX7_walker 7 = .ok (.if_icmp .gt 12, 3) := by decide +kernel
theorem dX7_walker_10 : decode cX7_walker 10 = .ok (.aload_n 0, 1) := by decide +kernel
theorem dX7_walker_11 : decode cX7_walker 11 = .ok (.iload 4, 2) := by decide +kernel
theorem dX7_walker_13 : decode cX7_walker 13 = .ok (.invokevirtual 161, 3) := by decide +kernel
theorem dX7_walker_16 : decode cX7_walker 16 = .ok (.ifCond .ne 9, 3) := by decide +kernel
theorem dX7_walker_19 : decode cX7_walker 19 = .ok (.aload_n 0, 1) := by decide +kernel
theorem dX7_walker_20 : decode cX7_walker 20 = .ok (.iconst (-1), 1) := by decide +kernel
theorem dX7_walker_21 : decode cX7_walker 21 = .ok (.invokevirtual 136, 3) := by decide +kernel
theorem dX7_walker_24 : decode cX7_walker 24 = .ok (.ireturn, 1) := by decide +kernel
theorem dX7_walker_25 : decode cX7_walker 25 = .ok (.aload_n 0, 1) := by decide +kernel
theorem dX7_walker_26 : decode cX7_walker 26 = .ok (.iload_n 2, 1) := by decide +kernel
theorem dX7_walker_27 : decode cX7_walker 27 = .ok (.invokevirtual 167, 3) := by decide +kernel
theorem dX7_walker_30 : decode cX7_walker 30 = .ok (.ifCond .eq 34, 3) := by decide +kernel
theorem dX7_walker_33 : decode cX7_walker 33 = .ok (.iload_n 3, 1) := by decide +kernel
theorem dX7_walker_34 : decode cX7_walker 34 = .ok (.ifCond .lt 30, 3) := by decide +kernel
theorem dX7_walker_37 : decode cX7_walker 37 = .ok (.iload_n 3, 1) := by decide +kernel
theorem dX7_walker_38 : decode cX7_walker 38 = .ok (.iconst 3, 1) := by decide +kernel
theorem dX7_walker_39 : decode cX7_walker 39 = .ok (.if_icmp .gt 25, 3) := by decide +kernel
theorem dX7_walker_42 : decode cX7_walker 42 = .ok (.iload 5, 2) := by decide +kernel
theorem dX7_walker_44 : decode cX7_walker 44 = .ok (.ifCond .lt 20, 3) := by decide +kernel
theorem dX7_walker_47 : decode cX7_walker 47 = .ok (.iload 5, 2) := by decide +kernel
theorem dX7_walker_49 : decode cX7_walker 49 = .ok (.bipush 9, 2) := by decide +kernel
theorem dX7_walker_51 : decode cX7_walker 51 = .ok (.if_icmp .gt 13, 3) := by decide +kernel
theorem dX7_walker_54 : decode cX7_walker 54 = .ok (.aload_n 0, 1) := by decide +kernel
theorem dX7_walker_55 : decode cX7_walker 55 = .ok (.getfield 29, 3) := by decide +kernel
theorem dX7_walker_58 : decode cX7_walker 58 = .ok (.iload_n 2, 1) := by decide +kernel
theorem dX7_walker_59 : decode cX7_walker 59 = .ok (.iaload, 1) := by decide +kernel
theorem dX7_walker_60 : decode cX7_walker 60 = .ok (.iconst 1, 1) := by decide +kernel
theorem dX7_walker_61 : decode cX7_walker 61 = .ok (.if_icmp .ne 10, 3) := by decide +kernel
theorem dX7_walker_64 : decode cX7_walker 64 = .ok (.aload_n 0, 1) := by decide +kernel
theorem dX7_walker_65 : decode cX7_walker 65 = .ok (.bipush (-6), 2) := by decide +kernel
theorem dX7_walker_67 : decode cX7_walker 67 = .ok (.invokevirtual 136, 3) := by decide +kernel
theorem dX7_walker_70 : decode cX7_walker 70 = .ok (.ireturn, 1) := by decide +kernel
theorem dX7_walker_71 : decode cX7_walker 71 = .ok (.aload_n 0, 1) := by decide +kernel
theorem dX7_walker_72 : decode cX7_walker 72 = .ok (.getfield 126, 3) := by decide +kernel
theorem dX7_walker_75 : decode cX7_walker 75 = .ok (.bipush 6, 2) := by decide +kernel
theorem dX7_walker_77 : decode cX7_walker 77 = .ok (.if_icmp .ne 12, 3) := by decide +kernel
theorem dX7_walker_80 : decode cX7_walker 80 = .ok (.aload_n 0, 1) := by decide +kernel
theorem dX7_walker_81 : decode cX7_walker 81 = .ok (.bipush (-7), 2) := by decide +kernel
theorem dX7_walker_83 : decode cX7_walker 83 = .ok (.invokevirtual 136, 3) := by decide +kernel
theorem dX7_walker_86 : decode cX7_walker 86 = .ok (.goto 14, 3) := by decide +kernel
theorem dX7_walker_89 : decode cX7_walker 89 = .ok (.aload_n 0, 1) := by decide +kernel
theorem dX7_walker_90 : decode cX7_walker 90 = .ok (.iload_n 1, 1) := by decide +kernel
theorem dX7_walker_91 : decode cX7_walker 91 = .ok (.iload_n 2, 1) := by decide +kernel
theorem dX7_walker_92 : decode cX7_walker 92 = .ok (.iload_n 3, 1) := by decide +kernel
theorem dX7_walker_93 : decode cX7_walker 93 = .ok (.iload 4, 2) := by decide +kernel
theorem dX7_walker_95 : decode cX7_walker 95 = .ok (.iload 5, 2) := by decide +kernel
theorem dX7_walker_97 : decode cX7_walker 97 = .ok (.invokevirtual 170, 3) := by decide +kernel
theorem dX7_walker_100 : decode cX7_walker 100 = .ok (.ireturn, 1) := by decide +kernel
theorem dX7_walkerOf_0 : decode cX7_walkerOf 0 = .ok (.aload_n 0, 1) := by decide +kernel
theorem dX7_walkerOf_1 : decode cX7_walkerOf 1 = .ok (.iload_n 1, 1) := by decide +kernel
theorem dX7_walkerOf_2 : decode cX7_walkerOf 2 = .ok (.invokevirtual 140, 3) := by decide +kernel
theorem dX7_walkerOf_5 : decode cX7_walkerOf 5 = .ok (.ifCond .eq 13, 3) := by decide +kernel
theorem dX7_walkerOf_8 : decode cX7_walkerOf 8 = .ok (.iload_n 2, 1) := by decide +kernel
theorem dX7_walkerOf_9 : decode cX7_walkerOf 9 = .ok (.ifCond .lt 9, 3) := by decide +kernel
theorem dX7_walkerOf_12 : decode cX7_walkerOf 12 = .ok (.iload_n 2, 1) := by decide +kernel
theorem dX7_walkerOf_13 : decode cX7_walkerOf 13 = .ok (.bipush 6, 2) := by decide +kernel
theorem dX7_walkerOf_15 : decode cX7_walkerOf 15 = .ok (.if_icmp .le 10, 3) := by decide +kernel
theorem dX7_walkerOf_18 : decode cX7_walkerOf 18 = .ok (.aload_n 0, 1) := by decide +kernel
theorem dX7_walkerOf_19 : decode cX7_walkerOf 19 = .ok (.bipush (-5), 2) := by decide +kernel
theorem dX7_walkerOf_21 : decode cX7_walkerOf 21 = .ok (.invokevirtual 136, 3) := by decide +kernel
theorem dX7_walkerOf_24 : decode cX7_walkerOf 24 = .ok (.ireturn, 1) := by decide +kernel
theorem dX7_walkerOf_25 : decode cX7_walkerOf 25 = .ok (.iload_n 2, 1) := by decide +kernel
theorem dX7_walkerOf_26 : decode cX7_walkerOf 26 = .ok (.lookupswitch 40 #[(0, 26), (6, 33)], 26) := by decide +kernel
theorem dX7_walkerOf_52 : decode cX7_walkerOf 52 = .ok (.aload_n 0, 1) := by decide +kernel
theorem dX7_walkerOf_53 : decode cX7_walkerOf 53 = .ok (.getfield 32, 3) := by decide +kernel
theorem dX7_walkerOf_56 : decode cX7_walkerOf 56 = .ok (.iload_n 1, 1) := by decide +kernel
theorem dX7_walkerOf_57 : decode cX7_walkerOf 57 = .ok (.iaload, 1) := by decide +kernel
theorem dX7_walkerOf_58 : decode cX7_walkerOf 58 = .ok (.ireturn, 1) := by decide +kernel
theorem dX7_walkerOf_59 : decode cX7_walkerOf 59 = .ok (.aload_n 0, 1) := by decide +kernel
theorem dX7_walkerOf_60 : decode cX7_walkerOf 60 = .ok (.getfield 35, 3) := by decide +kernel
theorem dX7_walkerOf_63 : decode cX7_walkerOf 63 = .ok (.iload_n 1, 1) := by decide +kernel
theorem dX7_walkerOf_64 : decode cX7_walkerOf 64 = .ok (.iaload, 1) := by decide +kernel
theorem dX7_walkerOf_65 : decode cX7_walkerOf 65 = .ok (.ireturn, 1) := by decide +kernel
theorem dX7_walkerOf_66 : decode cX7_walkerOf 66 = .ok (.aload_n 0, 1) := by decide +kernel
theorem dX7_walkerOf_67 : decode cX7_walkerOf 67 = .ok (.iload_n 1, 1) := by decide +kernel
theorem dX7_walkerOf_68 : decode cX7_walkerOf 68 = .ok (.iload_n 2, 1) := by decide +kernel
theorem dX7_walkerOf_69 : decode cX7_walkerOf 69 = .ok (.iconst 1, 1) := by decide +kernel
theorem dX7_walkerOf_70 : decode cX7_walkerOf 70 = .ok (.isub, 1) := by decide +kernel
theorem dX7_walkerOf_71 : decode cX7_walkerOf 71 = .ok (.invokevirtual 174, 3) := by decide +kernel
theorem dX7_walkerOf_74 : decode cX7_walkerOf 74 = .ok (.ireturn, 1) := by decide +kernel
theorem dX7_of_0 : decode cX7_of 0 = .ok (.iload_n 2, 1) := by decide +kernel
theorem dX7_of_1 : decode cX7_of 1 = .ok (.tableswitch 59 0 3 #[31, 38, 45, 52], 31) := by decide +kernel
theorem dX7_of_32 : decode cX7_of 32 = .ok (.aload_n 0, 1) := by decide +kernel
theorem dX7_of_33 : decode cX7_of 33 = .ok (.getfield 38, 3) := by decide +kernel
theorem dX7_of_36 : decode cX7_of 36 = .ok (.iload_n 1, 1) := by decide +kernel
theorem dX7_of_37 : decode cX7_of 37 = .ok (.iaload, 1) := by decide +kernel
theorem dX7_of_38 : decode cX7_of 38 = .ok (.ireturn, 1) := by decide +kernel
theorem dX7_of_39 : decode cX7_of 39 = .ok (.aload_n 0, 1) := by decide +kernel
theorem dX7_of_40 : decode cX7_of 40 = .ok (.getfield 41, 3) := by decide +kernel
theorem dX7_of_43 : decode cX7_of 43 = .ok (.iload_n 1, 1) := by decide +kernel
theorem dX7_of_44 : decode cX7_of 44 = .ok (.iaload, 1) := by decide +kernel
theorem dX7_of_45 : decode cX7_of 45 = .ok (.ireturn, 1) := by decide +kernel
theorem dX7_of_46 : decode cX7_of 46 = .ok (.aload_n 0, 1) := by decide +kernel
theorem dX7_of_47 : decode cX7_of 47 = .ok (.getfield 44, 3) := by decide +kernel
theorem dX7_of_50 : decode cX7_of 50 = .ok (.iload_n 1, 1) := by decide +kernel
theorem dX7_of_51 : decode cX7_of 51 = .ok (.iaload, 1) := by decide +kernel
theorem dX7_of_52 : decode cX7_of 52 = .ok (.ireturn, 1) := by decide +kernel
theorem dX7_of_53 : decode cX7_of 53 = .ok (.aload_n 0, 1) := by decide +kernel
theorem dX7_of_54 : decode cX7_of 54 = .ok (.getfield 47, 3) := by decide +kernel
theorem dX7_of_57 : decode cX7_of 57 = .ok (.iload_n 1, 1) := by decide +kernel
theorem dX7_of_58 : decode cX7_of 58 = .ok (.iaload, 1) := by decide +kernel
theorem dX7_of_59 : decode cX7_of 59 = .ok (.ireturn, 1) := by decide +kernel
theorem dX7_of_60 : decode cX7_of 60 = .ok (.aload_n 0, 1) := by decide +kernel
theorem dX7_of_61 : decode cX7_of 61 = .ok (.getfield 50, 3) := by decide +kernel
theorem dX7_of_64 : decode cX7_of 64 = .ok (.iload_n 1, 1) := by decide +kernel
theorem dX7_of_65 : decode cX7_of 65 = .ok (.iaload, 1) := by decide +kernel
theorem dX7_of_66 : decode cX7_of 66 = .ok (.ireturn, 1) := by decide +kernel
theorem dX7_isTaken_0 : decode cX7_isTaken 0 = .ok (.iconst 0, 1) := by decide +kernel
theorem dX7_isTaken_1 : decode cX7_isTaken 1 = .ok (.istore_n 2, 1) := by decide +kernel
theorem dX7_isTaken_2 : decode cX7_isTaken 2 = .ok (.iload_n 2, 1) := by decide +kernel
theorem dX7_isTaken_3 : decode cX7_isTaken 3 = .ok (.aload_n 0, 1) := by decide +kernel
theorem dX7_isTaken_4 : decode cX7_isTaken 4 = .ok (.getfield 126, 3) := by decide +kernel
theorem dX7_isTaken_7 : decode cX7_isTaken 7 = .ok (.if_icmp .ge 21, 3) := by decide +kernel
theorem dX7_isTaken_10 : decode cX7_isTaken 10 = .ok (.aload_n 0, 1) := by decide +kernel
theorem dX7_isTaken_11 : decode cX7_isTaken 11 = .ok (.getfield 38, 3) := by decide +kernel
theorem dX7_isTaken_14 : decode cX7_isTaken 14 = .ok (.iload_n 2, 1) := by decide +kernel
theorem dX7_isTaken_15 : decode cX7_isTaken 15 = .ok (.iaload, 1) := by decide +kernel
theorem dX7_isTaken_16 : decode cX7_isTaken 16 = .ok (.iload_n 1, 1) := by decide +kernel
theorem dX7_isTaken_17 : decode cX7_isTaken 17 = .ok (.if_icmp .ne 5, 3) := by decide +kernel
theorem dX7_isTaken_20 : decode cX7_isTaken 20 = .ok (.iconst 1, 1) := by decide +kernel
theorem dX7_isTaken_21 : decode cX7_isTaken 21 = .ok (.ireturn, 1) := by decide +kernel
theorem dX7_isTaken_22 : decode cX7_isTaken 22 = .ok (.iinc 2 1, 3) := by decide +kernel
theorem dX7_isTaken_25 : decode cX7_isTaken 25 = .ok (.goto (-23), 3) := by decide +kernel
theorem dX7_isTaken_28 : decode cX7_isTaken 28 = .ok (.iconst 0, 1) := by decide +kernel
theorem dX7_isTaken_29 : decode cX7_isTaken 29 = .ok (.ireturn, 1) := by decide +kernel
theorem dX7_wall_0 : decode cX7_wall 0 = .ok (.aload_n 0, 1) := by decide +kernel
theorem dX7_wall_1 : decode cX7_wall 1 = .ok (.iload_n 1, 1) := by decide +kernel
theorem dX7_wall_2 : decode cX7_wall 2 = .ok (.invokevirtual 167, 3) := by decide +kernel
theorem dX7_wall_5 : decode cX7_wall 5 = .ok (.ifCond .eq 15, 3) := by decide +kernel
theorem dX7_wall_8 : decode cX7_wall 8 = .ok (.iload_n 2, 1) := by decide +kernel
theorem dX7_wall_9 : decode cX7_wall 9 = .ok (.ifCond .eq 18, 3) := by decide +kernel
theorem dX7_wall_12 : decode cX7_wall 12 = .ok (.aload_n 0, 1) := by decide +kernel
theorem dX7_wall_13 : decode cX7_wall 13 = .ok (.iload_n 1, 1) := by decide +kernel
theorem dX7_wall_14 : decode cX7_wall 14 = .ok (.invokevirtual 177, 3) := by decide +kernel
theorem dX7_wall_17 : decode cX7_wall 17 = .ok (.ifCond .eq 10, 3) := by decide +kernel
theorem dX7_wall_20 : decode cX7_wall 20 = .ok (.aload_n 0, 1) := by decide +kernel
theorem dX7_wall_21 : decode cX7_wall 21 = .ok (.bipush (-6), 2) := by decide +kernel
theorem dX7_wall_23 : decode cX7_wall 23 = .ok (.invokevirtual 136, 3) := by decide +kernel
theorem dX7_wall_26 : decode cX7_wall 26 = .ok (.ireturn, 1) := by decide +kernel
theorem dX7_wall_27 : decode cX7_wall 27 = .ok (.aload_n 0, 1) := by decide +kernel
theorem dX7_wall_28 : decode cX7_wall 28 = .ok (.getfield 29, 3) := by decide +kernel
theorem dX7_wall_31 : decode cX7_wall 31 = .ok (.iload_n 1, 1) := by decide +kernel
theorem dX7_wall_32 : decode cX7_wall 32 = .ok (.iaload, 1) := by decide +kernel
theorem dX7_wall_33 : decode cX7_wall 33 = .ok (.istore_n 3, 1) := by decide +kernel
theorem dX7_wall_34 : decode cX7_wall 34 = .ok (.aload_n 0, 1) := by decide +kernel
theorem dX7_wall_35 : decode cX7_wall 35 = .ok (.getfield 29, 3) := by decide +kernel
theorem dX7_wall_38 : decode cX7_wall 38 = .ok (.iload_n 1, 1) := by decide +kernel
theorem dX7_wall_39 : decode cX7_wall 39 = .ok (.iload_n 2, 1) := by decide +kernel
theorem dX7_wall_40 : decode cX7_wall 40 = .ok (.ifCond .eq 7, 3) := by decide +kernel
theorem dX7_wall_43 : decode cX7_wall 43 = .ok (.iconst 1, 1) := by decide +kernel
theorem dX7_wall_44 : decode cX7_wall 44 = .ok (.goto 4, 3) := by decide +kernel
theorem dX7_wall_47 : decode cX7_wall 47 = .ok (.iconst 0, 1) := by decide +kernel
theorem dX7_wall_48 : decode cX7_wall 48 = .ok (.iastore, 1) := by decide +kernel
theorem dX7_wall_49 : decode cX7_wall 49 = .ok (.iload_n 3, 1) := by decide +kernel
theorem dX7_wall_50 : decode cX7_wall 50 = .ok (.aload_n 0, 1) := by decide +kernel
theorem dX7_wall_51 : decode cX7_wall 51 = .ok (.getfield 29, 3) := by decide +kernel
theorem dX7_wall_54 : decode cX7_wall 54 = .ok (.iload_n 1, 1) := by decide +kernel
theorem dX7_wall_55 : decode cX7_wall 55 = .ok (.iaload, 1) := by decide +kernel
theorem dX7_wall_56 : decode cX7_wall 56 = .ok (.if_icmp .ne 7, 3) := by decide +kernel
theorem dX7_wall_59 : decode cX7_wall 59 = .ok (.iconst 0, 1) := by decide +kernel
theorem dX7_wall_60 : decode cX7_wall 60 = .ok (.goto 4, 3) := by decide +kernel
theorem dX7_wall_63 : decode cX7_wall 63 = .ok (.iconst 1, 1) := by decide +kernel
theorem dX7_wall_64 : decode cX7_wall 64 = .ok (.ireturn, 1) := by decide +kernel
theorem dX7_isWall_0 : decode cX7_isWall 0 = .ok (.aload_n 0, 1) := by decide +kernel
theorem dX7_isWall_1 : decode cX7_isWall 1 = .ok (.iload_n 1, 1) := by decide +kernel
theorem dX7_isWall_2 : decode cX7_isWall 2 = .ok (.invokevirtual 167, 3) := by decide +kernel
theorem dX7_isWall_5 : decode cX7_isWall 5 = .ok (.ifCond .eq 12, 3) := by decide +kernel
theorem dX7_isWall_8 : decode cX7_isWall 8 = .ok (.aload_n 0, 1) := by decide +kernel
theorem dX7_isWall_9 : decode cX7_isWall 9 = .ok (.getfield 29, 3) := by decide +kernel
theorem dX7_isWall_12 : decode cX7_isWall 12 = .ok (.iload_n 1, 1) := by decide +kernel
theorem dX7_isWall_13 : decode cX7_isWall 13 = .ok (.iaload, 1) := by decide +kernel
theorem dX7_isWall_14 : decode cX7_isWall 14 = .ok (.goto 9, 3) := by decide +kernel
theorem dX7_isWall_17 : decode cX7_isWall 17 = .ok (.aload_n 0, 1) := by decide +kernel
theorem dX7_isWall_18 : decode cX7_isWall 18 = .ok (.bipush (-5), 2) := by decide +kernel
theorem dX7_isWall_20 : decode cX7_isWall 20 = .ok (.invokevirtual 136, 3) := by decide +kernel
theorem dX7_isWall_23 : decode cX7_isWall 23 = .ok (.ireturn, 1) := by decide +kernel
theorem dX7_wrong_0 : decode cX7_wrong 0 = .ok (.aload_n 0, 1) := by decide +kernel
theorem dX7_wrong_1 : decode cX7_wrong 1 = .ok (.iload_n 1, 1) := by decide +kernel
theorem dX7_wrong_2 : decode cX7_wrong 2 = .ok (.putfield 180, 3) := by decide +kernel
theorem dX7_wrong_5 : decode cX7_wrong 5 = .ok (.iconst 0, 1) := by decide +kernel
theorem dX7_wrong_6 : decode cX7_wrong 6 = .ok (.ireturn, 1) := by decide +kernel
theorem dX7_word_0 : decode cX7_word 0 = .ok (.iconst 0, 1) := by decide +kernel
theorem dX7_word_1 : decode cX7_word 1 = .ok (.istore_n 1, 1) := by decide +kernel
theorem dX7_word_2 : decode cX7_word 2 = .ok (.aload_n 0, 1) := by decide +kernel
theorem dX7_word_3 : decode cX7_word 3 = .ok (.getfield 183, 3) := by decide +kernel
theorem dX7_word_6 : decode cX7_word 6 = .ok (.istore_n 2, 1) := by decide +kernel
theorem dX7_word_7 : decode cX7_word 7 = .ok (.iconst 0, 1) := by decide +kernel
theorem dX7_word_8 : decode cX7_word 8 = .ok (.istore_n 3, 1) := by decide +kernel
theorem dX7_word_9 : decode cX7_word 9 = .ok (.iload_n 3, 1) := by decide +kernel
theorem dX7_word_10 : decode cX7_word 10 = .ok (.iconst 5, 1) := by decide +kernel
theorem dX7_word_11 : decode cX7_word 11 = .ok (.if_icmp .ge 118, 3) := by decide +kernel
theorem dX7_word_14 : decode cX7_word 14 = .ok (.aload_n 0, 1) := by decide +kernel
theorem dX7_word_15 : decode cX7_word 15 = .ok (.getfield 183, 3) := by decide +kernel
theorem dX7_word_18 : decode cX7_word 18 = .ok (.istore 4, 2) := by decide +kernel
theorem dX7_word_20 : decode cX7_word 20 = .ok (.iload_n 1, 1) := by decide +kernel
theorem dX7_word_21 : decode cX7_word 21 = .ok (.istore 5, 2) := by decide +kernel
theorem dX7_word_23 : decode cX7_word 23 = .ok (.aload_n 0, 1) := by decide +kernel
theorem dX7_word_24 : decode cX7_word 24 = .ok (.getfield 87, 3) := by decide +kernel
theorem dX7_word_27 : decode cX7_word 27 = .ok (.iload 5, 2) := by decide +kernel
theorem dX7_word_29 : decode cX7_word 29 = .ok (.iaload, 1) := by decide +kernel
theorem dX7_word_30 : decode cX7_word 30 = .ok (.ifCond .eq 44, 3) := by decide +kernel
theorem dX7_word_33 : decode cX7_word 33 = .ok (.iload 4, 2) := by decide +kernel
theorem dX7_word_35 : decode cX7_word 35 = .ok (.aload_n 0, 1) := by decide +kernel
theorem dX7_word_36 : decode cX7_word 36 = .ok (.getfield 186, 3) := by decide +kernel
theorem dX7_word_39 : decode cX7_word 39 = .ok (.if_icmp .ge 35, 3) := by decide +kernel
theorem dX7_word_42 : decode cX7_word 42 = .ok (.aload_n 0, 1) := by decide +kernel
theorem dX7_word_43 : decode cX7_word 43 = .ok (.getfield 80, 3) := by decide +kernel
theorem dX7_word_46 : decode cX7_word 46 = .ok (.aload_n 0, 1) := by decide +kernel
theorem dX7_word_47 : decode cX7_word 47 = .ok (.getfield 189, 3) := by decide +kernel
theorem dX7_word_50 : decode cX7_word 50 = .ok (.iload 4, 2) := by decide +kernel
theorem dX7_word_52 : decode cX7_word 52 = .ok (.iadd, 1) := by decide +kernel
theorem dX7_word_53 : decode cX7_word 53 = .ok (.laload, 1) := by decide +kernel
theorem dX7_word_54 : decode cX7_word 54 = .ok (.l2i, 1) := by decide +kernel
theorem dX7_word_55 : decode cX7_word 55 = .ok (.aload_n 0, 1) := by decide +kernel
theorem dX7_word_56 : decode cX7_word 56 = .ok (.getfield 87, 3) := by decide +kernel
theorem dX7_word_59 : decode cX7_word 59 = .ok (.iload 5, 2) := by decide +kernel
theorem dX7_word_61 : decode cX7_word 61 = .ok (.iaload, 1) := by decide +kernel
theorem dX7_word_62 : decode cX7_word 62 = .ok (.if_icmp .ne 12, 3) := by decide +kernel
theorem dX7_word_65 : decode cX7_word 65 = .ok (.iinc 4 1, 3) := by decide +kernel
theorem dX7_word_68 : decode cX7_word 68 = .ok (.iinc 5 1, 3) := by decide +kernel
theorem dX7_word_71 : decode cX7_word 71 = .ok (.goto (-48), 3) := by decide +kernel
theorem dX7_word_74 : decode cX7_word 74 = .ok (.aload_n 0, 1) := by decide +kernel
theorem dX7_word_75 : decode cX7_word 75 = .ok (.getfield 87, 3) := by decide +kernel
theorem dX7_word_78 : decode cX7_word 78 = .ok (.iload 5, 2) := by decide +kernel
theorem dX7_word_80 : decode cX7_word 80 = .ok (.iaload, 1) := by decide +kernel
theorem dX7_word_81 : decode cX7_word 81 = .ok (.ifCond .ne 11, 3) := by decide +kernel
theorem dX7_word_84 : decode cX7_word 84 = .ok (.aload_n 0, 1) := by decide +kernel
theorem dX7_word_85 : decode cX7_word 85 = .ok (.iload 4, 2) := by decide +kernel
theorem dX7_word_87 : decode cX7_word 87 = .ok (.putfield 183, 3) := by decide +kernel
theorem dX7_word_90 : decode cX7_word 90 = .ok (.iload_n 3, 1) := by decide +kernel
theorem dX7_word_91 : decode cX7_word 91 = .ok (.ireturn, 1) := by decide +kernel
theorem dX7_word_92 : decode cX7_word 92 = .ok (.iload 4, 2) := by decide +kernel
theorem dX7_word_94 : decode cX7_word 94 = .ok (.iload_n 2, 1) := by decide +kernel
theorem dX7_word_95 : decode cX7_word 95 = .ok (.if_icmp .le 8, 3) := by decide +kernel
theorem dX7_word_98 : decode cX7_word 98 = .ok (.iload 4, 2) := by decide +kernel
theorem dX7_word_100 : decode cX7_word 100 = .ok (.goto 4, 3) := by decide +kernel
theorem dX7_word_103 : decode cX7_word 103 = .ok (.iload_n 2, 1) := by decide +kernel
theorem dX7_word_104 : decode cX7_word 104 = .ok (.istore_n 2, 1) := by decide +kernel
theorem dX7_word_105 : decode cX7_word 105 = .ok (.aload_n 0, 1) := by decide +kernel
theorem dX7_word_106 : decode cX7_word 106 = .ok (.getfield 87, 3) := by decide +kernel
theorem dX7_word_109 : decode cX7_word 109 = .ok (.iload_n 1, 1) := by decide +kernel
theorem dX7_word_110 : decode cX7_word 110 = .ok (.iaload, 1) := by decide +kernel
theorem dX7_word_111 : decode cX7_word 111 = .ok (.ifCond .eq 9, 3) := by decide +kernel
theorem dX7_word_114 : decode cX7_word 114 = .ok (.iinc 1 1, 3) := by decide +kernel
theorem dX7_word_117 : decode cX7_word 117 = .ok (.goto (-12), 3) := by decide +kernel
theorem dX7_word_120 : decode cX7_word 120 = .ok (.iinc 1 1, 3) := by decide +kernel
theorem dX7_word_123 : decode cX7_word 123 = .ok (.iinc 3 1, 3) := by decide +kernel
theorem dX7_word_126 : decode cX7_word 126 = .ok (.goto (-117), 3) := by decide +kernel
theorem dX7_word_129 : decode cX7_word 129 = .ok (.aload_n 0, 1) := by decide +kernel
theorem dX7_word_130 : decode cX7_word 130 = .ok (.iload_n 2, 1) := by decide +kernel
theorem dX7_word_131 : decode cX7_word 131 = .ok (.putfield 180, 3) := by decide +kernel
theorem dX7_word_134 : decode cX7_word 134 = .ok (.iconst (-1), 1) := by decide +kernel
theorem dX7_word_135 : decode cX7_word 135 = .ok (.ireturn, 1) := by decide +kernel
theorem dX7_isDigit_0 : decode cX7_isDigit 0 = .ok (.aload_n 0, 1) := by decide +kernel
theorem dX7_isDigit_1 : decode cX7_isDigit 1 = .ok (.getfield 183, 3) := by decide +kernel
theorem dX7_isDigit_4 : decode cX7_isDigit 4 = .ok (.aload_n 0, 1) := by decide +kernel
theorem dX7_isDigit_5 : decode cX7_isDigit 5 = .ok (.getfield 186, 3) := by decide +kernel
theorem dX7_isDigit_8 : decode cX7_isDigit 8 = .ok (.if_icmp .ge 47, 3) := by decide +kernel
theorem dX7_isDigit_11 : decode cX7_isDigit 11 = .ok (.aload_n 0, 1) := by decide +kernel
theorem dX7_isDigit_12 : decode cX7_isDigit 12 = .ok (.getfield 80, 3) := by decide +kernel
theorem dX7_isDigit_15 : decode cX7_isDigit 15 = .ok (.aload_n 0, 1) := by decide +kernel
theorem dX7_isDigit_16 : decode cX7_isDigit 16 = .ok (.getfield 189, 3) := by decide +kernel
theorem dX7_isDigit_19 : decode cX7_isDigit 19 = .ok (.aload_n 0, 1) := by decide +kernel
theorem dX7_isDigit_20 : decode cX7_isDigit 20 = .ok (.getfield 183, 3) := by decide +kernel
theorem dX7_isDigit_23 : decode cX7_isDigit 23 = .ok (.iadd, 1) := by decide +kernel
theorem dX7_isDigit_24 : decode cX7_isDigit 24 = .ok (.laload, 1) := by decide +kernel
theorem dX7_isDigit_25 : decode cX7_isDigit 25 = .ok (.l2i, 1) := by decide +kernel
theorem dX7_isDigit_26 : decode cX7_isDigit 26 = .ok (.bipush 48, 2) := by decide +kernel
theorem dX7_isDigit_28 : decode cX7_isDigit 28 = .ok (.if_icmp .lt 27, 3) := by decide +kernel
theorem dX7_isDigit_31 : decode cX7_isDigit 31 = .ok (.aload_n 0, 1) := by decide +kernel
theorem dX7_isDigit_32 : decode cX7_isDigit 32 = .ok (.getfield 80, 3) := by decide +kernel
theorem dX7_isDigit_35 : decode cX7_isDigit 35 = .ok (.aload_n 0, 1) := by decide +kernel
theorem dX7_isDigit_36 : decode cX7_isDigit 36 = .ok (.getfield 189, 3) := by decide +kernel
theorem dX7_isDigit_39 : decode cX7_isDigit 39 = .ok (.aload_n 0, 1) := by decide +kernel
theorem dX7_isDigit_40 : decode cX7_isDigit 40 = .ok (.getfield 183, 3) := by decide +kernel
theorem dX7_isDigit_43 : decode cX7_isDigit 43 = .ok (.iadd, 1) := by decide +kernel
theorem dX7_isDigit_44 : decode cX7_isDigit 44 = .ok (.laload, 1) := by decide +kernel
theorem dX7_isDigit_45 : decode cX7_isDigit 45 = .ok (.l2i, 1) := by decide +kernel
theorem dX7_isDigit_46 : decode cX7_isDigit 46 = .ok (.bipush 57, 2) := by decide +kernel
theorem dX7_isDigit_48 : decode cX7_isDigit 48 = .ok (.if_icmp .gt 7, 3) := by decide +kernel
theorem dX7_isDigit_51 : decode cX7_isDigit 51 = .ok (.iconst 1, 1) := by decide +kernel
theorem dX7_isDigit_52 : decode cX7_isDigit 52 = .ok (.goto 4, 3) := by decide +kernel
theorem dX7_isDigit_55 : decode cX7_isDigit 55 = .ok (.iconst 0, 1) := by decide +kernel
theorem dX7_isDigit_56 : decode cX7_isDigit 56 = .ok (.ireturn, 1) := by decide +kernel
theorem dX7_number_0 : decode cX7_number 0 = .ok (.aload_n 0, 1) := by decide +kernel
theorem dX7_number_1 : decode cX7_number 1 = .ok (.iconst 0, 1) := by decide +kernel
theorem dX7_number_2 : decode cX7_number 2 = .ok (.putfield 192, 3) := by decide +kernel
theorem dX7_number_5 : decode cX7_number 5 = .ok (.aload_n 0, 1) := by decide +kernel
theorem dX7_number_6 : decode cX7_number 6 = .ok (.invokevirtual 195, 3) := by decide +kernel
theorem dX7_number_9 : decode cX7_number 9 = .ok (.ifCond .ne 12, 3) := by decide +kernel
theorem dX7_number_12 : decode cX7_number 12 = .ok (.aload_n 0, 1) := by decide +kernel
theorem dX7_number_13 : decode cX7_number 13 = .ok (.aload_n 0, 1) := by decide +kernel
theorem dX7_number_14 : decode cX7_number 14 = .ok (.getfield 183, 3) := by decide +kernel
theorem dX7_number_17 : decode cX7_number 17 = .ok (.invokevirtual 199, 3) := by decide +kernel
theorem dX7_number_20 : decode cX7_number 20 = .ok (.ireturn, 1) := by decide +kernel
theorem dX7_number_21 : decode cX7_number 21 = .ok (.aload_n 0, 1) := by decide +kernel
theorem dX7_number_22 : decode cX7_number 22 = .ok (.aload_n 0, 1) := by decide +kernel
theorem dX7_number_23 : decode cX7_number 23 = .ok (.getfield 80, 3) := by decide +kernel
theorem dX7_number_26 : decode cX7_number 26 = .ok (.aload_n 0, 1) := by decide +kernel
theorem dX7_number_27 : decode cX7_number 27 = .ok (.getfield 189, 3) := by decide +kernel
theorem dX7_number_30 : decode cX7_number 30 = .ok (.aload_n 0, 1) := by decide +kernel
theorem dX7_number_31 : decode cX7_number 31 = .ok (.getfield 183, 3) := by decide +kernel
theorem dX7_number_34 : decode cX7_number 34 = .ok (.iadd, 1) := by decide +kernel
theorem dX7_number_35 : decode cX7_number 35 = .ok (.laload, 1) := by decide +kernel
theorem dX7_number_36 : decode cX7_number 36 = .ok (.l2i, 1) := by decide +kernel
theorem dX7_number_37 : decode cX7_number 37 = .ok (.bipush 48, 2) := by decide +kernel
theorem dX7_number_39 : decode cX7_number 39 = .ok (.isub, 1) := by decide +kernel
theorem dX7_number_40 : decode cX7_number 40 = .ok (.putfield 192, 3) := by decide +kernel
theorem dX7_number_43 : decode cX7_number 43 = .ok (.aload_n 0, 1) := by decide +kernel
theorem dX7_number_44 : decode cX7_number 44 = .ok (.dup, 1) := by decide +kernel
theorem dX7_number_45 : decode cX7_number 45 = .ok (.getfield 183, 3) := by decide +kernel
theorem dX7_number_48 : decode cX7_number 48 = .ok (.iconst 1, 1) := by decide +kernel
theorem dX7_number_49 : decode cX7_number 49 = .ok (.iadd, 1) := by decide +kernel
theorem dX7_number_50 : decode cX7_number 50 = .ok (.putfield 183, 3) := by decide +kernel
theorem dX7_number_53 : decode cX7_number 53 = .ok (.aload_n 0, 1) := by decide +kernel
theorem dX7_number_54 : decode cX7_number 54 = .ok (.invokevirtual 195, 3) := by decide +kernel
theorem dX7_number_57 : decode cX7_number 57 = .ok (.ifCond .eq 43, 3) := by decide +kernel
theorem dX7_number_60 : decode cX7_number 60 = .ok (.aload_n 0, 1) := by decide +kernel
theorem dX7_number_61 : decode cX7_number 61 = .ok (.bipush 10, 2) := by decide +kernel
theorem dX7_number_63 : decode cX7_number 63 = .ok (.aload_n 0, 1) := by decide +kernel
theorem dX7_number_64 : decode cX7_number 64 = .ok (.getfield 192, 3) := by decide +kernel
theorem dX7_number_67 : decode cX7_number 67 = .ok (.imul, 1) := by decide +kernel
theorem dX7_number_68 : decode cX7_number 68 = .ok (.aload_n 0, 1) := by decide +kernel
theorem dX7_number_69 : decode cX7_number 69 = .ok (.getfield 80, 3) := by decide +kernel
theorem dX7_number_72 : decode cX7_number 72 = .ok (.aload_n 0, 1) := by decide +kernel
theorem dX7_number_73 : decode cX7_number 73 = .ok (.getfield 189, 3) := by decide +kernel
theorem dX7_number_76 : decode cX7_number 76 = .ok (.aload_n 0, 1) := by decide +kernel
theorem dX7_number_77 : decode cX7_number 77 = .ok (.getfield 183, 3) := by decide +kernel
theorem dX7_number_80 : decode cX7_number 80 = .ok (.iadd, 1) := by decide +kernel
theorem dX7_number_81 : decode cX7_number 81 = .ok (.laload, 1) := by decide +kernel
theorem dX7_number_82 : decode cX7_number 82 = .ok (.l2i, 1) := by decide +kernel
theorem dX7_number_83 : decode cX7_number 83 = .ok (.iadd, 1) := by decide +kernel
theorem dX7_number_84 : decode cX7_number 84 = .ok (.bipush 48, 2) := by decide +kernel
theorem dX7_number_86 : decode cX7_number 86 = .ok (.isub, 1) := by decide +kernel
theorem dX7_number_87 : decode cX7_number 87 = .ok (.putfield 192, 3) := by decide +kernel
theorem dX7_number_90 : decode cX7_number 90 = .ok (.aload_n 0, 1) := by decide +kernel
theorem dX7_number_91 : decode cX7_number 91 = .ok (.dup, 1) := by decide +kernel
theorem dX7_number_92 : decode cX7_number 92 = .ok (.getfield 183, 3) := by decide +kernel
theorem dX7_number_95 : decode cX7_number 95 = .ok (.iconst 1, 1) := by decide +kernel
theorem dX7_number_96 : decode cX7_number 96 = .ok (.iadd, 1) := by decide +kernel
theorem dX7_number_97 : decode cX7_number 97 = .ok (.putfield 183, 3) := by decide +kernel
theorem dX7_number_100 : decode cX7_number 100 = .ok (.iconst 1, 1) := by decide +kernel
theorem dX7_number_101 : decode cX7_number 101 = .ok (.ireturn, 1) := by decide +kernel
theorem dX7_stepAt_0 : decode cX7_stepAt 0 = .ok (.aload_n 0, 1) := by decide +kernel
theorem dX7_stepAt_1 : decode cX7_stepAt 1 = .ok (.getfield 183, 3) := by decide +kernel
theorem dX7_stepAt_4 : decode cX7_stepAt 4 = .ok (.aload_n 0, 1) := by decide +kernel
theorem dX7_stepAt_5 : decode cX7_stepAt 5 = .ok (.getfield 186, 3) := by decide +kernel
theorem dX7_stepAt_8 : decode cX7_stepAt 8 = .ok (.if_icmp .lt 5, 3) := by decide +kernel
theorem dX7_stepAt_11 : decode cX7_stepAt 11 = .ok (.iconst (-1), 1) := by decide +kernel
theorem dX7_stepAt_12 : decode cX7_stepAt 12 = .ok (.ireturn, 1) := by decide +kernel
theorem dX7_stepAt_13 : decode cX7_stepAt 13 = .ok (.aload_n 0, 1) := by decide +kernel
theorem dX7_stepAt_14 : decode cX7_stepAt 14 = .ok (.getfield 80, 3) := by decide +kernel
theorem dX7_stepAt_17 : decode cX7_stepAt 17 = .ok (.aload_n 0, 1) := by decide +kernel
theorem dX7_stepAt_18 : decode cX7_stepAt 18 = .ok (.getfield 189, 3) := by decide +kernel
theorem dX7_stepAt_21 : decode cX7_stepAt 21 = .ok (.aload_n 0, 1) := by decide +kernel
theorem dX7_stepAt_22 : decode cX7_stepAt 22 = .ok (.getfield 183, 3) := by decide +kernel
theorem dX7_stepAt_25 : decode cX7_stepAt 25 = .ok (.iadd, 1) := by decide +kernel
theorem dX7_stepAt_26 : decode cX7_stepAt 26 = .ok (.laload, 1) := by decide +kernel
theorem dX7_stepAt_27 : decode cX7_stepAt 27 = .ok (.l2i, 1) := by decide +kernel
theorem dX7_stepAt_28 : decode cX7_stepAt 28 = .ok (.i2l, 1) := by decide +kernel
theorem dX7_stepAt_29 : decode cX7_stepAt 29 = .ok (.lstore_n 1, 1) := by decide +kernel
theorem dX7_stepAt_30 : decode cX7_stepAt 30 = .ok (.lload_n 1, 1) := by decide +kernel
theorem dX7_stepAt_31 : decode cX7_stepAt 31 = .ok (.ldc2_w 202, 3) := by decide +kernel
theorem dX7_stepAt_34 : decode cX7_stepAt 34 = .ok (.lcmp, 1) := by decide +kernel
theorem dX7_stepAt_35 : decode cX7_stepAt 35 = .ok (.ifCond .ne 7, 3) := by decide +kernel
theorem dX7_stepAt_38 : decode cX7_stepAt 38 = .ok (.iconst 0, 1) := by decide +kernel
theorem dX7_stepAt_39 : decode cX7_stepAt 39 = .ok (.goto 40, 3) := by decide +kernel
theorem dX7_stepAt_42 : decode cX7_stepAt 42 = .ok (.lload_n 1, 1) := by decide +kernel
theorem dX7_stepAt_43 : decode cX7_stepAt 43 = .ok (.ldc2_w 204, 3) := by decide +kernel
theorem dX7_stepAt_46 : decode cX7_stepAt 46 = .ok (.lcmp, 1) := by decide +kernel
theorem dX7_stepAt_47 : decode cX7_stepAt 47 = .ok (.ifCond .ne 7, 3) := by decide +kernel
theorem dX7_stepAt_50 : decode cX7_stepAt 50 = .ok (.iconst 1, 1) := by decide +kernel
theorem dX7_stepAt_51 : decode cX7_stepAt 51 = .ok (.goto 28, 3) := by decide +kernel
theorem dX7_stepAt_54 : decode cX7_stepAt 54 = .ok (.lload_n 1, 1) := by decide +kernel
theorem dX7_stepAt_55 : decode cX7_stepAt 55 = .ok (.ldc2_w 206, 3) := by decide +kernel
theorem dX7_stepAt_58 : decode cX7_stepAt 58 = .ok (.lcmp, 1) := by decide +kernel
theorem dX7_stepAt_59 : decode cX7_stepAt 59 = .ok (.ifCond .ne 7, 3) := by decide +kernel
theorem dX7_stepAt_62 : decode cX7_stepAt 62 = .ok (.iconst 2, 1) := by decide +kernel
theorem dX7_stepAt_63 : decode cX7_stepAt 63 = .ok (.goto 16, 3) := by decide +kernel
theorem dX7_stepAt_66 : decode cX7_stepAt 66 = .ok (.lload_n 1, 1) := by decide +kernel
theorem dX7_stepAt_67 : decode cX7_stepAt 67 = .ok (.ldc2_w 208, 3) := by decide +kernel
theorem dX7_stepAt_70 : decode cX7_stepAt 70 = .ok (.lcmp, 1) := by decide +kernel
theorem dX7_stepAt_71 : decode cX7_stepAt 71 = .ok (.ifCond .ne 7, 3) := by decide +kernel
theorem dX7_stepAt_74 : decode cX7_stepAt 74 = .ok (.iconst 3, 1) := by decide +kernel
theorem dX7_stepAt_75 : decode cX7_stepAt 75 = .ok (.goto 4, 3) := by decide +kernel
theorem dX7_stepAt_78 : decode cX7_stepAt 78 = .ok (.iconst (-1), 1) := by decide +kernel
theorem dX7_stepAt_79 : decode cX7_stepAt 79 = .ok (.ireturn, 1) := by decide +kernel
theorem dX7_letters_0 : decode cX7_letters 0 = .ok (.aload_n 0, 1) := by decide +kernel
theorem dX7_letters_1 : decode cX7_letters 1 = .ok (.iconst 0, 1) := by decide +kernel
theorem dX7_letters_2 : decode cX7_letters 2 = .ok (.putfield 210, 3) := by decide +kernel
theorem dX7_letters_5 : decode cX7_letters 5 = .ok (.aload_n 0, 1) := by decide +kernel
theorem dX7_letters_6 : decode cX7_letters 6 = .ok (.invokevirtual 213, 3) := by decide +kernel
theorem dX7_letters_9 : decode cX7_letters 9 = .ok (.iconst (-1), 1) := by decide +kernel
theorem dX7_letters_10 : decode cX7_letters 10 = .ok (.if_icmp .eq 57, 3) := by decide +kernel
theorem dX7_letters_13 : decode cX7_letters 13 = .ok (.aload_n 0, 1) := by decide +kernel
theorem dX7_letters_14 : decode cX7_letters 14 = .ok (.getfield 210, 3) := by decide +kernel
theorem dX7_letters_17 : decode cX7_letters 17 = .ok (.bipush 8, 2) := by decide +kernel
theorem dX7_letters_19 : decode cX7_letters 19 = .ok (.if_icmp .ne 12, 3) := by decide +kernel
theorem dX7_letters_22 : decode cX7_letters 22 = .ok (.aload_n 0, 1) := by decide +kernel
theorem dX7_letters_23 : decode cX7_letters 23 = .ok (.aload_n 0, 1) := by decide +kernel
theorem dX7_letters_24 : decode cX7_letters 24 = .ok (.getfield 183, 3) := by decide +kernel
theorem dX7_letters_27 : decode cX7_letters 27 = .ok (.invokevirtual 199, 3) := by decide +kernel
theorem dX7_letters_30 : decode cX7_letters 30 = .ok (.ireturn, 1) := by decide +kernel
theorem dX7_letters_31 : decode cX7_letters 31 = .ok (.aload_n 0, 1) := by decide +kernel
theorem dX7_letters_32 : decode cX7_letters 32 = .ok (.getfield 93, 3) := by decide +kernel
theorem dX7_letters_35 : decode cX7_letters 35 = .ok (.aload_n 0, 1) := by decide +kernel
theorem dX7_letters_36 : decode cX7_letters 36 = .ok (.getfield 210, 3) := by decide +kernel
theorem dX7_letters_39 : decode cX7_letters 39 = .ok (.aload_n 0, 1) := by decide +kernel
theorem dX7_letters_40 : decode cX7_letters 40 = .ok (.invokevirtual 213, 3) := by decide +kernel
theorem dX7_letters_43 : decode cX7_letters 43 = .ok (.iastore, 1) := by decide +kernel
theorem dX7_letters_44 : decode cX7_letters 44 = .ok (.aload_n 0, 1) := by decide +kernel
theorem dX7_letters_45 : decode cX7_letters 45 = .ok (.dup, 1) := by decide +kernel
theorem dX7_letters_46 : decode cX7_letters 46 = .ok (.getfield 210, 3) := by decide +kernel
theorem dX7_letters_49 : decode cX7_letters 49 = .ok (.iconst 1, 1) := by decide +kernel
theorem dX7_letters_50 : decode cX7_letters 50 = .ok (.iadd, 1) := by decide +kernel
theorem dX7_letters_51 : decode cX7_letters 51 = .ok (.putfield 210, 3) := by decide +kernel
theorem dX7_letters_54 : decode cX7_letters 54 = .ok (.aload_n 0, 1) := by decide +kernel
theorem dX7_letters_55 : decode cX7_letters 55 = .ok (.dup, 1) := by decide +kernel
theorem dX7_letters_56 : decode cX7_letters 56 = .ok (.getfield 183, 3) := by decide +kernel
theorem dX7_letters_59 : decode cX7_letters 59 = .ok (.iconst 1, 1) := by decide +kernel
theorem dX7_letters_60 : decode cX7_letters 60 = .ok (.iadd, 1) := by decide +kernel
theorem dX7_letters_61 : decode cX7_letters 61 = .ok (.putfield 183, 3) := by decide +kernel
theorem dX7_letters_64 : decode cX7_letters 64 = .ok (.goto (-59), 3) := by decide +kernel
theorem dX7_letters_67 : decode cX7_letters 67 = .ok (.aload_n 0, 1) := by decide +kernel
theorem dX7_letters_68 : decode cX7_letters 68 = .ok (.getfield 210, 3) := by decide +kernel
theorem dX7_letters_71 : decode cX7_letters 71 = .ok (.ifCond .gt 14, 3) := by decide +kernel
theorem dX7_letters_74 : decode cX7_letters 74 = .ok (.aload_n 0, 1) := by decide +kernel
theorem dX7_letters_75 : decode cX7_letters 75 = .ok (.aload_n 0, 1) := by decide +kernel
theorem dX7_letters_76 : decode cX7_letters 76 = .ok (.getfield 183, 3) := by decide +kernel
theorem dX7_letters_79 : decode cX7_letters 79 = .ok (.invokevirtual 199, 3) := by decide +kernel
theorem dX7_letters_82 : decode cX7_letters 82 = .ok (.ifCond .eq 7, 3) := by decide +kernel
theorem dX7_letters_85 : decode cX7_letters 85 = .ok (.iconst 1, 1) := by decide +kernel
theorem dX7_letters_86 : decode cX7_letters 86 = .ok (.goto 4, 3) := by decide +kernel
theorem dX7_letters_89 : decode cX7_letters 89 = .ok (.iconst 0, 1) := by decide +kernel
theorem dX7_letters_90 : decode cX7_letters 90 = .ok (.ireturn, 1) := by decide +kernel
theorem dX7_isSo_0 : decode cX7_isSo 0 = .ok (.iload_n 1, 1) := by decide +kernel
theorem dX7_isSo_1 : decode cX7_isSo 1 = .ok (.tableswitch 201 0 3 #[31, 45, 71, 86], 31) := by decide +kernel
theorem dX7_isSo_32 : decode cX7_isSo 32 = .ok (.aload_n 0, 1) := by decide +kernel
theorem dX7_isSo_33 : decode cX7_isSo 33 = .ok (.getfield 192, 3) := by decide +kernel
theorem dX7_isSo_36 : decode cX7_isSo 36 = .ok (.iconst 2, 1) := by decide +kernel
theorem dX7_isSo_37 : decode cX7_isSo 37 = .ok (.if_icmp .gt 7, 3) := by decide +kernel
theorem dX7_isSo_40 : decode cX7_isSo 40 = .ok (.iconst 1, 1) := by decide +kernel
theorem dX7_isSo_41 : decode cX7_isSo 41 = .ok (.goto 4, 3) := by decide +kernel
theorem dX7_isSo_44 : decode cX7_isSo 44 = .ok (.iconst 0, 1) := by decide +kernel
theorem dX7_isSo_45 : decode cX7_isSo 45 = .ok (.ireturn, 1) := by decide +kernel
theorem dX7_isSo_46 : decode cX7_isSo 46 = .ok (.aload_n 0, 1) := by decide +kernel
theorem dX7_isSo_47 : decode cX7_isSo 47 = .ok (.getfield 192, 3) := by decide +kernel
theorem dX7_isSo_50 : decode cX7_isSo 50 = .ok (.bipush 48, 2) := by decide +kernel
theorem dX7_isSo_52 : decode cX7_isSo 52 = .ok (.if_icmp .gt 18, 3) := by decide +kernel
theorem dX7_isSo_55 : decode cX7_isSo 55 = .ok (.aload_n 0, 1) := by decide +kernel
theorem dX7_isSo_56 : decode cX7_isSo 56 = .ok (.aload_n 0, 1) := by decide +kernel
theorem dX7_isSo_57 : decode cX7_isSo 57 = .ok (.getfield 192, 3) := by decide +kernel
theorem dX7_isSo_60 : decode cX7_isSo 60 = .ok (.invokevirtual 177, 3) := by decide +kernel
theorem dX7_isSo_63 : decode cX7_isSo 63 = .ok (.ifCond .ne 7, 3) := by decide +kernel
theorem dX7_isSo_66 : decode cX7_isSo 66 = .ok (.iconst 1, 1) := by decide +kernel
theorem dX7_isSo_67 : decode cX7_isSo 67 = .ok (.goto 4, 3) := by decide +kernel
theorem dX7_isSo_70 : decode cX7_isSo 70 = .ok (.iconst 0, 1) := by decide +kernel
theorem dX7_isSo_71 : decode cX7_isSo 71 = .ok (.ireturn, 1) := by decide +kernel
theorem dX7_isSo_72 : decode cX7_isSo 72 = .ok (.aload_n 0, 1) := by decide +kernel
theorem dX7_isSo_73 : decode cX7_isSo 73 = .ok (.getfield 192, 3) := by decide +kernel
theorem dX7_isSo_76 : decode cX7_isSo 76 = .ok (.bipush 48, 2) := by decide +kernel
theorem dX7_isSo_78 : decode cX7_isSo 78 = .ok (.if_icmp .gt 7, 3) := by decide +kernel
theorem dX7_isSo_81 : decode cX7_isSo 81 = .ok (.iconst 1, 1) := by decide +kernel
theorem dX7_isSo_82 : decode cX7_isSo 82 = .ok (.goto 4, 3) := by decide +kernel
theorem dX7_isSo_85 : decode cX7_isSo 85 = .ok (.iconst 0, 1) := by decide +kernel
theorem dX7_isSo_86 : decode cX7_isSo 86 = .ok (.ireturn, 1) := by decide +kernel
theorem dX7_isSo_87 : decode cX7_isSo 87 = .ok (.iload_n 2, 1) := by decide +kernel
theorem dX7_isSo_88 : decode cX7_isSo 88 = .ok (.ifCond .ne 20, 3) := by decide +kernel
theorem dX7_isSo_91 : decode cX7_isSo 91 = .ok (.aload_n 0, 1) := by decide +kernel
theorem dX7_isSo_92 : decode cX7_isSo 92 = .ok (.getfield 192, 3) := by decide +kernel
theorem dX7_isSo_95 : decode cX7_isSo 95 = .ok (.bipush 6, 2) := by decide +kernel
theorem dX7_isSo_97 : decode cX7_isSo 97 = .ok (.if_icmp .gt 7, 3) := by decide +kernel
theorem dX7_isSo_100 : decode cX7_isSo 100 = .ok (.iconst 1, 1) := by decide +kernel
theorem dX7_isSo_101 : decode cX7_isSo 101 = .ok (.goto 100, 3) := by decide +kernel
theorem dX7_isSo_104 : decode cX7_isSo 104 = .ok (.iconst 0, 1) := by decide +kernel
theorem dX7_isSo_105 : decode cX7_isSo 105 = .ok (.goto 96, 3) := by decide +kernel
theorem dX7_isSo_108 : decode cX7_isSo 108 = .ok (.iload_n 2, 1) := by decide +kernel
theorem dX7_isSo_109 : decode cX7_isSo 109 = .ok (.iconst 1, 1) := by decide +kernel
theorem dX7_isSo_110 : decode cX7_isSo 110 = .ok (.if_icmp .ne 32, 3) := by decide +kernel
theorem dX7_isSo_113 : decode cX7_isSo 113 = .ok (.aload_n 0, 1) := by decide +kernel
theorem dX7_isSo_114 : decode cX7_isSo 114 = .ok (.getfield 192, 3) := by decide +kernel
theorem dX7_isSo_117 : decode cX7_isSo 117 = .ok (.bipush 48, 2) := by decide +kernel
theorem dX7_isSo_119 : decode cX7_isSo 119 = .ok (.if_icmp .gt 19, 3) := by decide +kernel
theorem dX7_isSo_122 : decode cX7_isSo 122 = .ok (.aload_n 0, 1) := by decide +kernel
theorem dX7_isSo_123 : decode cX7_isSo 123 = .ok (.getfield 29, 3) := by decide +kernel
theorem dX7_isSo_126 : decode cX7_isSo 126 = .ok (.aload_n 0, 1) := by decide +kernel
theorem dX7_isSo_127 : decode cX7_isSo 127 = .ok (.getfield 192, 3) := by decide +kernel
theorem dX7_isSo_130 : decode cX7_isSo 130 = .ok (.iaload, 1) := by decide +kernel
theorem dX7_isSo_131 : decode cX7_isSo 131 = .ok (.ifCond .ne 7, 3) := by decide +kernel
theorem dX7_isSo_134 : decode cX7_isSo 134 = .ok (.iconst 1, 1) := by decide +kernel
theorem dX7_isSo_135 : decode cX7_isSo 135 = .ok (.goto 66, 3) := by decide +kernel
theorem dX7_isSo_138 : decode cX7_isSo 138 = .ok (.iconst 0, 1) := by decide +kernel
theorem dX7_isSo_139 : decode cX7_isSo 139 = .ok (.goto 62, 3) := by decide +kernel
theorem dX7_isSo_142 : decode cX7_isSo 142 = .ok (.iload_n 2, 1) := by decide +kernel
theorem dX7_isSo_143 : decode cX7_isSo 143 = .ok (.iconst 2, 1) := by decide +kernel
theorem dX7_isSo_144 : decode cX7_isSo 144 = .ok (.if_icmp .ne 19, 3) := by decide +kernel
theorem dX7_isSo_147 : decode cX7_isSo 147 = .ok (.aload_n 0, 1) := by decide +kernel
theorem dX7_isSo_148 : decode cX7_isSo 148 = .ok (.getfield 192, 3) := by decide +kernel
theorem dX7_isSo_151 : decode cX7_isSo 151 = .ok (.iconst 3, 1) := by decide +kernel
theorem dX7_isSo_152 : decode cX7_isSo 152 = .ok (.if_icmp .gt 7, 3) := by decide +kernel
theorem dX7_isSo_155 : decode cX7_isSo 155 = .ok (.iconst 1, 1) := by decide +kernel
theorem dX7_isSo_156 : decode cX7_isSo 156 = .ok (.goto 45, 3) := by decide +kernel
theorem dX7_isSo_159 : decode cX7_isSo 159 = .ok (.iconst 0, 1) := by decide +kernel
theorem dX7_isSo_160 : decode cX7_isSo 160 = .ok (.goto 41, 3) := by decide +kernel
theorem dX7_isSo_163 : decode cX7_isSo 163 = .ok (.iload_n 2, 1) := by decide +kernel
theorem dX7_isSo_164 : decode cX7_isSo 164 = .ok (.iconst 3, 1) := by decide +kernel
theorem dX7_isSo_165 : decode cX7_isSo 165 = .ok (.if_icmp .ne 22, 3) := by decide +kernel
theorem dX7_isSo_168 : decode cX7_isSo 168 = .ok (.aload_n 0, 1) := by decide +kernel
theorem dX7_isSo_169 : decode cX7_isSo 169 = .ok (.getfield 192, 3) := by decide +kernel
theorem dX7_isSo_172 : decode cX7_isSo 172 = .ok (.aload_n 0, 1) := by decide +kernel
theorem dX7_isSo_173 : decode cX7_isSo 173 = .ok (.getfield 129, 3) := by decide +kernel
theorem dX7_isSo_176 : decode cX7_isSo 176 = .ok (.if_icmp .ge 7, 3) := by decide +kernel
theorem dX7_isSo_179 : decode cX7_isSo 179 = .ok (.iconst 1, 1) := by decide +kernel
theorem dX7_isSo_180 : decode cX7_isSo 180 = .ok (.goto 21, 3) := by decide +kernel
theorem dX7_isSo_183 : decode cX7_isSo 183 = .ok (.iconst 0, 1) := by decide +kernel
theorem dX7_isSo_184 : decode cX7_isSo 184 = .ok (.goto 17, 3) := by decide +kernel
theorem dX7_isSo_187 : decode cX7_isSo 187 = .ok (.aload_n 0, 1) := by decide +kernel
theorem dX7_isSo_188 : decode cX7_isSo 188 = .ok (.getfield 192, 3) := by decide +kernel
theorem dX7_isSo_191 : decode cX7_isSo 191 = .ok (.bipush 9, 2) := by decide +kernel
theorem dX7_isSo_193 : decode cX7_isSo 193 = .ok (.if_icmp .gt 7, 3) := by decide +kernel
theorem dX7_isSo_196 : decode cX7_isSo 196 = .ok (.iconst 1, 1) := by decide +kernel
theorem dX7_isSo_197 : decode cX7_isSo 197 = .ok (.goto 4, 3) := by decide +kernel
theorem dX7_isSo_200 : decode cX7_isSo 200 = .ok (.iconst 0, 1) := by decide +kernel
theorem dX7_isSo_201 : decode cX7_isSo 201 = .ok (.ireturn, 1) := by decide +kernel
theorem dX7_isSo_202 : decode cX7_isSo 202 = .ok (.aload_n 0, 1) := by decide +kernel
theorem dX7_isSo_203 : decode cX7_isSo 203 = .ok (.getfield 192, 3) := by decide +kernel
theorem dX7_isSo_206 : decode cX7_isSo 206 = .ok (.iconst 1, 1) := by decide +kernel
theorem dX7_isSo_207 : decode cX7_isSo 207 = .ok (.if_icmp .lt 7, 3) := by decide +kernel
theorem dX7_isSo_210 : decode cX7_isSo 210 = .ok (.iconst 1, 1) := by decide +kernel
theorem dX7_isSo_211 : decode cX7_isSo 211 = .ok (.goto 4, 3) := by decide +kernel
theorem dX7_isSo_214 : decode cX7_isSo 214 = .ok (.iconst 0, 1) := by decide +kernel
theorem dX7_isSo_215 : decode cX7_isSo 215 = .ok (.ireturn, 1) := by decide +kernel
theorem dX7_blank_0 : decode cX7_blank 0 = .ok (.aload_n 0, 1) := by decide +kernel
theorem dX7_blank_1 : decode cX7_blank 1 = .ok (.getfield 183, 3) := by decide +kernel
theorem dX7_blank_4 : decode cX7_blank 4 = .ok (.aload_n 0, 1) := by decide +kernel
theorem dX7_blank_5 : decode cX7_blank 5 = .ok (.getfield 186, 3) := by decide +kernel
theorem dX7_blank_8 : decode cX7_blank 8 = .ok (.if_icmp .ge 23, 3) := by decide +kernel
theorem dX7_blank_11 : decode cX7_blank 11 = .ok (.aload_n 0, 1) := by decide +kernel
theorem dX7_blank_12 : decode cX7_blank 12 = .ok (.getfield 80, 3) := by decide +kernel
theorem dX7_blank_15 : decode cX7_blank 15 = .ok (.aload_n 0, 1) := by decide +kernel
theorem dX7_blank_16 : decode cX7_blank 16 = .ok (.getfield 189, 3) := by decide +kernel
theorem dX7_blank_19 : decode cX7_blank 19 = .ok (.aload_n 0, 1) := by decide +kernel
theorem dX7_blank_20 : decode cX7_blank 20 = .ok (.getfield 183, 3) := by decide +kernel
theorem dX7_blank_23 : decode cX7_blank 23 = .ok (.iadd, 1) := by decide +kernel
theorem dX7_blank_24 : decode cX7_blank 24 = .ok (.laload, 1) := by decide +kernel
theorem dX7_blank_25 : decode cX7_blank 25 = .ok (.l2i, 1) := by decide +kernel
theorem dX7_blank_26 : decode cX7_blank 26 = .ok (.bipush 32, 2) := by decide +kernel
theorem dX7_blank_28 : decode cX7_blank 28 = .ok (.if_icmp .eq 12, 3) := by decide +kernel
theorem dX7_blank_31 : decode cX7_blank 31 = .ok (.aload_n 0, 1) := by decide +kernel
theorem dX7_blank_32 : decode cX7_blank 32 = .ok (.aload_n 0, 1) := by decide +kernel
theorem dX7_blank_33 : decode cX7_blank 33 = .ok (.getfield 183, 3) := by decide +kernel
theorem dX7_blank_36 : decode cX7_blank 36 = .ok (.invokevirtual 199, 3) := by decide +kernel
theorem dX7_blank_39 : decode cX7_blank 39 = .ok (.ireturn, 1) := by decide +kernel
theorem dX7_blank_40 : decode cX7_blank 40 = .ok (.aload_n 0, 1) := by decide +kernel
theorem dX7_blank_41 : decode cX7_blank 41 = .ok (.dup, 1) := by decide +kernel
theorem dX7_blank_42 : decode cX7_blank 42 = .ok (.getfield 183, 3) := by decide +kernel
theorem dX7_blank_45 : decode cX7_blank 45 = .ok (.iconst 1, 1) := by decide +kernel
theorem dX7_blank_46 : decode cX7_blank 46 = .ok (.iadd, 1) := by decide +kernel
theorem dX7_blank_47 : decode cX7_blank 47 = .ok (.putfield 183, 3) := by decide +kernel
theorem dX7_blank_50 : decode cX7_blank 50 = .ok (.iconst 1, 1) := by decide +kernel
theorem dX7_blank_51 : decode cX7_blank 51 = .ok (.ireturn, 1) := by decide +kernel
theorem dX7_isFull_0 : decode cX7_isFull 0 = .ok (.iload_n 1, 1) := by decide +kernel
theorem dX7_isFull_1 : decode cX7_isFull 1 = .ok (.ifCond .ne 12, 3) := by decide +kernel
theorem dX7_isFull_4 : decode cX7_isFull 4 = .ok (.aload_n 0, 1) := by decide +kernel
theorem dX7_isFull_5 : decode cX7_isFull 5 = .ok (.getfield 129, 3) := by decide +kernel
theorem dX7_isFull_8 : decode cX7_isFull 8 = .ok (.bipush 8, 2) := by decide +kernel
theorem dX7_isFull_10 : decode cX7_isFull 10 = .ok (.if_icmp .eq 17, 3) := by decide +kernel
theorem dX7_isFull_13 : decode cX7_isFull 13 = .ok (.iload_n 1, 1) := by decide +kernel
theorem dX7_isFull_14 : decode cX7_isFull 14 = .ok (.iconst 3, 1) := by decide +kernel
theorem dX7_isFull_15 : decode cX7_isFull 15 = .ok (.if_icmp .ne 16, 3) := by decide +kernel
theorem dX7_isFull_18 : decode cX7_isFull 18 = .ok (.aload_n 0, 1) := by decide +kernel
theorem dX7_isFull_19 : decode cX7_isFull 19 = .ok (.getfield 126, 3) := by decide +kernel
theorem dX7_isFull_22 : decode cX7_isFull 22 = .ok (.bipush 6, 2) := by decide +kernel
theorem dX7_isFull_24 : decode cX7_isFull 24 = .ok (.if_icmp .ne 7, 3) := by decide +kernel
theorem dX7_isFull_27 : decode cX7_isFull 27 = .ok (.iconst 1, 1) := by decide +kernel
theorem dX7_isFull_28 : decode cX7_isFull 28 = .ok (.goto 4, 3) := by decide +kernel
theorem dX7_isFull_31 : decode cX7_isFull 31 = .ok (.iconst 0, 1) := by decide +kernel
theorem dX7_isFull_32 : decode cX7_isFull 32 = .ok (.ireturn, 1) := by decide +kernel
theorem dX7_isWordAt_0 : decode cX7_isWordAt 0 = .ok (.iconst 0, 1) := by decide +kernel
theorem dX7_isWordAt_1 : decode cX7_isWordAt 1 = .ok (.istore_n 2, 1) := by decide +kernel
theorem dX7_isWordAt_2 : decode cX7_isWordAt 2 = .ok (.iconst 0, 1) := by decide +kernel
theorem dX7_isWordAt_3 : decode cX7_isWordAt 3 = .ok (.istore_n 3, 1) := by decide +kernel
theorem dX7_isWordAt_4 : decode cX7_isWordAt 4 = .ok (.iload_n 3, 1) := by decide +kernel
theorem dX7_isWordAt_5 : decode cX7_isWordAt 5 = .ok (.iload_n 1, 1) := by decide +kernel
theorem dX7_isWordAt_6 : decode cX7_isWordAt 6 = .ok (.if_icmp .ge 26, 3) := by decide +kernel
theorem dX7_isWordAt_9 : decode cX7_isWordAt 9 = .ok (.iload_n 3, 1) := by decide +kernel
theorem dX7_isWordAt_10 : decode cX7_isWordAt 10 = .ok (.aload_n 0, 1) := by decide +kernel
theorem dX7_isWordAt_11 : decode cX7_isWordAt 11 = .ok (.getfield 87, 3) := by decide +kernel
theorem dX7_isWordAt_14 : decode cX7_isWordAt 14 = .ok (.iload_n 2, 1) := by decide +kernel
theorem dX7_isWordAt_15 : decode cX7_isWordAt 15 = .ok (.iaload, 1) := by decide +kernel
theorem dX7_isWordAt_16 : decode cX7_isWordAt 16 = .ok (.ifCond .ne 7, 3) := by decide +kernel
theorem dX7_isWordAt_19 : decode cX7_isWordAt 19 = .ok (.iconst 1, 1) := by decide +kernel
theorem dX7_isWordAt_20 : decode cX7_isWordAt 20 = .ok (.goto 4, 3) := by decide +kernel
theorem dX7_isWordAt_23 : decode cX7_isWordAt 23 = .ok (.iconst 0, 1) := by decide +kernel
theorem dX7_isWordAt_24 : decode cX7_isWordAt 24 = .ok (.iadd, 1) := by decide +kernel
theorem dX7_isWordAt_25 : decode cX7_isWordAt 25 = .ok (.istore_n 3, 1) := by decide +kernel
theorem dX7_isWordAt_26 : decode cX7_isWordAt 26 = .ok (.iinc 2 1, 3) := by decide +kernel
theorem dX7_isWordAt_29 : decode cX7_isWordAt 29 = .ok (.goto (-25), 3) := by decide +kernel
theorem dX7_isWordAt_32 : decode cX7_isWordAt 32 = .ok (.aload_n 0, 1) := by decide +kernel
theorem dX7_isWordAt_33 : decode cX7_isWordAt 33 = .ok (.getfield 183, 3) := by decide +kernel
theorem dX7_isWordAt_36 : decode cX7_isWordAt 36 = .ok (.istore_n 3, 1) := by decide +kernel
theorem dX7_isWordAt_37 : decode cX7_isWordAt 37 = .ok (.aload_n 0, 1) := by decide +kernel
theorem dX7_isWordAt_38 : decode cX7_isWordAt 38 = .ok (.getfield 87, 3) := by decide +kernel
theorem dX7_isWordAt_41 : decode cX7_isWordAt 41 = .ok (.iload_n 2, 1) := by decide +kernel
theorem dX7_isWordAt_42 : decode cX7_isWordAt 42 = .ok (.iaload, 1) := by decide +kernel
theorem dX7_isWordAt_43 : decode cX7_isWordAt 43 = .ok (.bipush 32, 2) := by decide +kernel
theorem dX7_isWordAt_45 : decode cX7_isWordAt 45 = .ok (.if_icmp .le 41, 3) := by decide +kernel
theorem dX7_isWordAt_48 : decode cX7_isWordAt 48 = .ok (.iload_n 3, 1) := by decide +kernel
theorem dX7_isWordAt_49 : decode cX7_isWordAt 49 = .ok (.aload_n 0, 1) := by decide +kernel
theorem dX7_isWordAt_50 : decode cX7_isWordAt 50 = .ok (.getfield 186, 3) := by decide +kernel
theorem dX7_isWordAt_53 : decode cX7_isWordAt 53 = .ok (.if_icmp .ge 33, 3) := by decide +kernel
theorem dX7_isWordAt_56 : decode cX7_isWordAt 56 = .ok (.aload_n 0, 1) := by decide +kernel
theorem dX7_isWordAt_57 : decode cX7_isWordAt 57 = .ok (.getfield 80, 3) := by decide +kernel
theorem dX7_isWordAt_60 : decode cX7_isWordAt 60 = .ok (.aload_n 0, 1) := by decide +kernel
theorem dX7_isWordAt_61 : decode cX7_isWordAt 61 = .ok (.getfield 189, 3) := by decide +kernel
theorem dX7_isWordAt_64 : decode cX7_isWordAt 64 = .ok (.iload_n 3, 1) := by decide +kernel
theorem dX7_isWordAt_65 : decode cX7_isWordAt 65 = .ok (.iadd, 1) := by decide +kernel
theorem dX7_isWordAt_66 : decode cX7_isWordAt 66 = .ok (.laload, 1) := by decide +kernel
theorem dX7_isWordAt_67 : decode cX7_isWordAt 67 = .ok (.l2i, 1) := by decide +kernel
theorem dX7_isWordAt_68 : decode cX7_isWordAt 68 = .ok (.aload_n 0, 1) := by decide +kernel
theorem dX7_isWordAt_69 : decode cX7_isWordAt 69 = .ok (.getfield 87, 3) := by decide +kernel
theorem dX7_isWordAt_72 : decode cX7_isWordAt 72 = .ok (.iload_n 2, 1) := by decide +kernel
theorem dX7_isWordAt_73 : decode cX7_isWordAt 73 = .ok (.iaload, 1) := by decide +kernel
theorem dX7_isWordAt_74 : decode cX7_isWordAt 74 = .ok (.if_icmp .ne 12, 3) := by decide +kernel
theorem dX7_isWordAt_77 : decode cX7_isWordAt 77 = .ok (.iinc 3 1, 3) := by decide +kernel
theorem dX7_isWordAt_80 : decode cX7_isWordAt 80 = .ok (.iinc 2 1, 3) := by decide +kernel
theorem dX7_isWordAt_83 : decode cX7_isWordAt 83 = .ok (.goto (-46), 3) := by decide +kernel
theorem dX7_isWordAt_86 : decode cX7_isWordAt 86 = .ok (.aload_n 0, 1) := by decide +kernel
theorem dX7_isWordAt_87 : decode cX7_isWordAt 87 = .ok (.getfield 87, 3) := by decide +kernel
theorem dX7_isWordAt_90 : decode cX7_isWordAt 90 = .ok (.iload_n 2, 1) := by decide +kernel
theorem dX7_isWordAt_91 : decode cX7_isWordAt 91 = .ok (.iaload, 1) := by decide +kernel
theorem dX7_isWordAt_92 : decode cX7_isWordAt 92 = .ok (.bipush 32, 2) := by decide +kernel
theorem dX7_isWordAt_94 : decode cX7_isWordAt 94 = .ok (.if_icmp .gt 7, 3) := by decide +kernel
theorem dX7_isWordAt_97 : decode cX7_isWordAt 97 = .ok (.iconst 1, 1) := by decide +kernel
theorem dX7_isWordAt_98 : decode cX7_isWordAt 98 = .ok (.goto 4, 3) := by decide +kernel
theorem dX7_isWordAt_101 : decode cX7_isWordAt 101 = .ok (.iconst 0, 1) := by decide +kernel
theorem dX7_isWordAt_102 : decode cX7_isWordAt 102 = .ok (.ireturn, 1) := by decide +kernel
theorem dX7_item_0 : decode cX7_item 0 = .ok (.iconst 0, 1) := by decide +kernel
theorem dX7_item_1 : decode cX7_item 1 = .ok (.istore_n 1, 1) := by decide +kernel
theorem dX7_item_2 : decode cX7_item 2 = .ok (.iload_n 1, 1) := by decide +kernel
theorem dX7_item_3 : decode cX7_item 3 = .ok (.iconst 5, 1) := by decide +kernel
theorem dX7_item_4 : decode cX7_item 4 = .ok (.if_icmp .ge 34, 3) := by decide +kernel
theorem dX7_item_7 : decode cX7_item 7 = .ok (.aload_n 0, 1) := by decide +kernel
theorem dX7_item_8 : decode cX7_item 8 = .ok (.iload_n 1, 1) := by decide +kernel
theorem dX7_item_9 : decode cX7_item 9 = .ok (.invokevirtual 217, 3) := by decide +kernel
theorem dX7_item_12 : decode cX7_item 12 = .ok (.ifCond .eq 20, 3) := by decide +kernel
theorem dX7_item_15 : decode cX7_item 15 = .ok (.aload_n 0, 1) := by decide +kernel
theorem dX7_item_16 : decode cX7_item 16 = .ok (.iload_n 1, 1) := by decide +kernel
theorem dX7_item_17 : decode cX7_item 17 = .ok (.invokevirtual 220, 3) := by decide +kernel
theorem dX7_item_20 : decode cX7_item 20 = .ok (.ifCond .eq 12, 3) := by decide +kernel
theorem dX7_item_23 : decode cX7_item 23 = .ok (.aload_n 0, 1) := by decide +kernel
theorem dX7_item_24 : decode cX7_item 24 = .ok (.aload_n 0, 1) := by decide +kernel
theorem dX7_item_25 : decode cX7_item 25 = .ok (.getfield 183, 3) := by decide +kernel
theorem dX7_item_28 : decode cX7_item 28 = .ok (.invokevirtual 199, 3) := by decide +kernel
theorem dX7_item_31 : decode cX7_item 31 = .ok (.ireturn, 1) := by decide +kernel
theorem dX7_item_32 : decode cX7_item 32 = .ok (.iinc 1 1, 3) := by decide +kernel
theorem dX7_item_35 : decode cX7_item 35 = .ok (.goto (-33), 3) := by decide +kernel
theorem dX7_item_38 : decode cX7_item 38 = .ok (.aload_n 0, 1) := by decide +kernel
theorem dX7_item_39 : decode cX7_item 39 = .ok (.getfield 183, 3) := by decide +kernel
theorem dX7_item_42 : decode cX7_item 42 = .ok (.istore_n 1, 1) := by decide +kernel
theorem dX7_item_43 : decode cX7_item 43 = .ok (.aload_n 0, 1) := by decide +kernel
theorem dX7_item_44 : decode cX7_item 44 = .ok (.invokevirtual 223, 3) := by decide +kernel
theorem dX7_item_47 : decode cX7_item 47 = .ok (.istore_n 2, 1) := by decide +kernel
theorem dX7_item_48 : decode cX7_item 48 = .ok (.iload_n 2, 1) := by decide +kernel
theorem dX7_item_49 : decode cX7_item 49 = .ok (.iconst (-1), 1) := by decide +kernel
theorem dX7_item_50 : decode cX7_item 50 = .ok (.if_icmp .ne 5, 3) := by decide +kernel
theorem dX7_item_53 : decode cX7_item 53 = .ok (.iconst 0, 1) := by decide +kernel
theorem dX7_item_54 : decode cX7_item 54 = .ok (.ireturn, 1) := by decide +kernel
theorem dX7_item_55 : decode cX7_item 55 = .ok (.iload_n 2, 1) := by decide +kernel
theorem dX7_item_56 : decode cX7_item 56 = .ok (.ifCond .ne 12, 3) := by decide +kernel
theorem dX7_item_59 : decode cX7_item 59 = .ok (.aload_n 0, 1) := by decide +kernel
theorem dX7_item_60 : decode cX7_item 60 = .ok (.getfield 129, 3) := by decide +kernel
theorem dX7_item_63 : decode cX7_item 63 = .ok (.bipush 8, 2) := by decide +kernel
theorem dX7_item_65 : decode cX7_item 65 = .ok (.if_icmp .eq 17, 3) := by decide +kernel
theorem dX7_item_68 : decode cX7_item 68 = .ok (.iload_n 2, 1) := by decide +kernel
theorem dX7_item_69 : decode cX7_item 69 = .ok (.iconst 3, 1) := by decide +kernel
theorem dX7_item_70 : decode cX7_item 70 = .ok (.if_icmp .ne 18, 3) := by decide +kernel
theorem dX7_item_73 : decode cX7_item 73 = .ok (.aload_n 0, 1) := by decide +kernel
theorem dX7_item_74 : decode cX7_item 74 = .ok (.getfield 126, 3) := by decide +kernel
theorem dX7_item_77 : decode cX7_item 77 = .ok (.bipush 6, 2) := by decide +kernel
theorem dX7_item_79 : decode cX7_item 79 = .ok (.if_icmp .ne 9, 3) := by decide +kernel
theorem dX7_item_82 : decode cX7_item 82 = .ok (.aload_n 0, 1) := by decide +kernel
theorem dX7_item_83 : decode cX7_item 83 = .ok (.iload_n 1, 1) := by decide +kernel
theorem dX7_item_84 : decode cX7_item 84 = .ok (.invokevirtual 199, 3) := by decide +kernel
theorem dX7_item_87 : decode cX7_item 87 = .ok (.ireturn, 1) := by decide +kernel
theorem dX7_item_88 : decode cX7_item 88 = .ok (.iconst 0, 1) := by decide +kernel
theorem dX7_item_89 : decode cX7_item 89 = .ok (.istore_n 3, 1) := by decide +kernel
theorem dX7_item_90 : decode cX7_item 90 = .ok (.iload_n 3, 1) := by decide +kernel
theorem dX7_item_91 : decode cX7_item 91 = .ok (.iload_n 2, 1) := by decide +kernel
theorem dX7_item_92 : decode cX7_item 92 = .ok (.iconst 3, 1) := by decide +kernel
theorem dX7_item_93 : decode cX7_item 93 = .ok (.if_icmp .ne 7, 3) := by decide +kernel
theorem dX7_item_96 : decode cX7_item 96 = .ok (.iconst 5, 1) := by decide +kernel
theorem dX7_item_97 : decode cX7_item 97 = .ok (.goto 4, 3) := by decide +kernel
theorem dX7_item_100 : decode cX7_item 100 = .ok (.iconst 1, 1) := by decide +kernel
theorem dX7_item_101 : decode cX7_item 101 = .ok (.if_icmp .ge 63, 3) := by decide +kernel
theorem dX7_item_104 : decode cX7_item 104 = .ok (.iload_n 3, 1) := by decide +kernel
theorem dX7_item_105 : decode cX7_item 105 = .ok (.ifCond .le 12, 3) := by decide +kernel
theorem dX7_item_108 : decode cX7_item 108 = .ok (.aload_n 0, 1) := by decide +kernel
theorem dX7_item_109 : decode cX7_item 109 = .ok (.invokevirtual 226, 3) := by decide +kernel
theorem dX7_item_112 : decode cX7_item 112 = .ok (.ifCond .ne 5, 3) := by decide +kernel
theorem dX7_item_115 : decode cX7_item 115 = .ok (.iconst 0, 1) := by decide +kernel
theorem dX7_item_116 : decode cX7_item 116 = .ok (.ireturn, 1) := by decide +kernel
theorem dX7_item_117 : decode cX7_item 117 = .ok (.aload_n 0, 1) := by decide +kernel
theorem dX7_item_118 : decode cX7_item 118 = .ok (.getfield 183, 3) := by decide +kernel
theorem dX7_item_121 : decode cX7_item 121 = .ok (.istore 4, 2) := by decide +kernel
theorem dX7_item_123 : decode cX7_item 123 = .ok (.aload_n 0, 1) := by decide +kernel
theorem dX7_item_124 : decode cX7_item 124 = .ok (.invokevirtual 229, 3) := by decide +kernel
theorem dX7_item_127 : decode cX7_item 127 = .ok (.ifCond .ne 5, 3) := by decide +kernel
theorem dX7_item_130 : decode cX7_item 130 = .ok (.iconst 0, 1) := by decide +kernel
theorem dX7_item_131 : decode cX7_item 131 = .ok (.ireturn, 1) := by decide +kernel
theorem dX7_item_132 : decode cX7_item 132 = .ok (.aload_n 0, 1) := by decide +kernel
theorem dX7_item_133 : decode cX7_item 133 = .ok (.iload_n 2, 1) := by decide +kernel
theorem dX7_item_134 : decode cX7_item 134 = .ok (.iload_n 3, 1) := by decide +kernel
theorem dX7_item_135 : decode cX7_item 135 = .ok (.invokevirtual 232, 3) := by decide +kernel
theorem dX7_item_138 : decode cX7_item 138 = .ok (.ifCond .ne 10, 3) := by decide +kernel
theorem dX7_item_141 : decode cX7_item 141 = .ok (.aload_n 0, 1) := by decide +kernel
theorem dX7_item_142 : decode cX7_item 142 = .ok (.iload 4, 2) := by decide +kernel
theorem dX7_item_144 : decode cX7_item 144 = .ok (.invokevirtual 199, 3) := by decide +kernel
theorem dX7_item_147 : decode cX7_item 147 = .ok (.ireturn, 1) := by decide +kernel
theorem dX7_item_148 : decode cX7_item 148 = .ok (.aload_n 0, 1) := by decide +kernel
theorem dX7_item_149 : decode cX7_item 149 = .ok (.getfield 90, 3) := by decide +kernel
theorem dX7_item_152 : decode cX7_item 152 = .ok (.iload_n 3, 1) := by decide +kernel
theorem dX7_item_153 : decode cX7_item 153 = .ok (.aload_n 0, 1) := by decide +kernel
theorem dX7_item_154 : decode cX7_item 154 = .ok (.getfield 192, 3) := by decide +kernel
theorem dX7_item_157 : decode cX7_item 157 = .ok (.iastore, 1) := by decide +kernel
theorem dX7_item_158 : decode cX7_item 158 = .ok (.iinc 3 1, 3) := by decide +kernel
theorem dX7_item_161 : decode cX7_item 161 = .ok (.goto (-71), 3) := by decide +kernel
theorem dX7_item_164 : decode cX7_item 164 = .ok (.iload_n 2, 1) := by decide +kernel
theorem dX7_item_165 : decode cX7_item 165 = .ok (.tableswitch 192 0 3 #[31, 124, 139, 154], 31) := by decide +kernel
theorem dX7_item_196 : decode cX7_item 196 = .ok (.aload_n 0, 1) := by decide +kernel
theorem dX7_item_197 : decode cX7_item 197 = .ok (.invokevirtual 226, 3) := by decide +kernel
theorem dX7_item_200 : decode cX7_item 200 = .ok (.ifCond .eq 10, 3) := by decide +kernel
theorem dX7_item_203 : decode cX7_item 203 = .ok (.aload_n 0, 1) := by decide +kernel
theorem dX7_item_204 : decode cX7_item 204 = .ok (.invokevirtual 235, 3) := by decide +kernel
theorem dX7_item_207 : decode cX7_item 207 = .ok (.ifCond .ne 5, 3) := by decide +kernel
theorem dX7_item_210 : decode cX7_item 210 = .ok (.iconst 0, 1) := by decide +kernel
theorem dX7_item_211 : decode cX7_item 211 = .ok (.ireturn, 1) := by decide +kernel
theorem dX7_item_212 : decode cX7_item 212 = .ok (.iconst 0, 1) := by decide +kernel
theorem dX7_item_213 : decode cX7_item 213 = .ok (.istore_n 3, 1) := by decide +kernel
theorem dX7_item_214 : decode cX7_item 214 = .ok (.iload_n 3, 1) := by decide +kernel
theorem dX7_item_215 : decode cX7_item 215 = .ok (.aload_n 0, 1) := by decide +kernel
theorem dX7_item_216 : decode cX7_item 216 = .ok (.getfield 210, 3) := by decide +kernel
theorem dX7_item_219 : decode cX7_item 219 = .ok (.if_icmp .ge 29, 3) := by decide +kernel
theorem dX7_item_222 : decode cX7_item 222 = .ok (.aload_n 0, 1) := by decide +kernel
theorem dX7_item_223 : decode cX7_item 223 = .ok (.getfield 20, 3) := by decide +kernel
theorem dX7_item_226 : decode cX7_item 226 = .ok (.bipush 8, 2) := by decide +kernel
theorem dX7_item_228 : decode cX7_item 228 = .ok (.aload_n 0, 1) := by decide +kernel
theorem dX7_item_229 : decode cX7_item 229 = .ok (.getfield 129, 3) := by decide +kernel
theorem dX7_item_232 : decode cX7_item 232 = .ok (.imul, 1) := by decide +kernel
theorem dX7_item_233 : decode cX7_item 233 = .ok (.iload_n 3, 1) := by decide +kernel
theorem dX7_item_234 : decode cX7_item 234 = .ok (.iadd, 1) := by decide +kernel
theorem dX7_item_235 : decode cX7_item 235 = .ok (.aload_n 0, 1) := by decide +kernel
theorem dX7_item_236 : decode cX7_item 236 = .ok (.getfield 93, 3) := by decide +kernel
theorem dX7_item_239 : decode cX7_item 239 = .ok (.iload_n 3, 1) := by decide +kernel
theorem dX7_item_240 : decode cX7_item 240 = .ok (.iaload, 1) := by decide +kernel
theorem dX7_item_241 : decode cX7_item 241 = .ok (.iastore, 1) := by decide +kernel
theorem dX7_item_242 : decode cX7_item 242 = .ok (.iinc 3 1, 3) := by decide +kernel
theorem dX7_item_245 : decode cX7_item 245 = .ok (.goto (-31), 3) := by decide +kernel
theorem dX7_item_248 : decode cX7_item 248 = .ok (.aload_n 0, 1) := by decide +kernel
theorem dX7_item_249 : decode cX7_item 249 = .ok (.getfield 23, 3) := by decide +kernel
theorem dX7_item_252 : decode cX7_item 252 = .ok (.aload_n 0, 1) := by decide +kernel
theorem dX7_item_253 : decode cX7_item 253 = .ok (.getfield 129, 3) := by decide +kernel
theorem dX7_item_256 : decode cX7_item 256 = .ok (.aload_n 0, 1) := by decide +kernel
theorem dX7_item_257 : decode cX7_item 257 = .ok (.getfield 210, 3) := by decide +kernel
theorem dX7_item_260 : decode cX7_item 260 = .ok (.iastore, 1) := by decide +kernel
theorem dX7_item_261 : decode cX7_item 261 = .ok (.aload_n 0, 1) := by decide +kernel
theorem dX7_item_262 : decode cX7_item 262 = .ok (.getfield 26, 3) := by decide +kernel
theorem dX7_item_265 : decode cX7_item 265 = .ok (.aload_n 0, 1) := by decide +kernel
theorem dX7_item_266 : decode cX7_item 266 = .ok (.getfield 129, 3) := by decide +kernel
theorem dX7_item_269 : decode cX7_item 269 = .ok (.aload_n 0, 1) := by decide +kernel
theorem dX7_item_270 : decode cX7_item 270 = .ok (.getfield 90, 3) := by decide +kernel
theorem dX7_item_273 : decode cX7_item 273 = .ok (.iconst 0, 1) := by decide +kernel
theorem dX7_item_274 : decode cX7_item 274 = .ok (.iaload, 1) := by decide +kernel
theorem dX7_item_275 : decode cX7_item 275 = .ok (.iastore, 1) := by decide +kernel
theorem dX7_item_276 : decode cX7_item 276 = .ok (.aload_n 0, 1) := by decide +kernel
theorem dX7_item_277 : decode cX7_item 277 = .ok (.dup, 1) := by decide +kernel
theorem dX7_item_278 : decode cX7_item 278 = .ok (.getfield 129, 3) := by decide +kernel
theorem dX7_item_281 : decode cX7_item 281 = .ok (.iconst 1, 1) := by decide +kernel
theorem dX7_item_282 : decode cX7_item 282 = .ok (.iadd, 1) := by decide +kernel
theorem dX7_item_283 : decode cX7_item 283 = .ok (.putfield 129, 3) := by decide +kernel
theorem dX7_item_286 : decode cX7_item 286 = .ok (.goto 82, 3) := by decide +kernel
theorem dX7_item_289 : decode cX7_item 289 = .ok (.aload_n 0, 1) := by decide +kernel
theorem dX7_item_290 : decode cX7_item 290 = .ok (.getfield 29, 3) := by decide +kernel
theorem dX7_item_293 : decode cX7_item 293 = .ok (.aload_n 0, 1) := by decide +kernel
theorem dX7_item_294 : decode cX7_item 294 = .ok (.getfield 90, 3) := by decide +kernel
theorem dX7_item_297 : decode cX7_item 297 = .ok (.iconst 0, 1) := by decide +kernel
theorem dX7_item_298 : decode cX7_item 298 = .ok (.iaload, 1) := by decide +kernel
theorem dX7_item_299 : decode cX7_item 299 = .ok (.iconst 1, 1) := by decide +kernel
theorem dX7_item_300 : decode cX7_item 300 = .ok (.iastore, 1) := by decide +kernel
theorem dX7_item_301 : decode cX7_item 301 = .ok (.goto 67, 3) := by decide +kernel
theorem dX7_item_304 : decode cX7_item 304 = .ok (.aload_n 0, 1) := by decide +kernel
theorem dX7_item_305 : decode cX7_item 305 = .ok (.getfield 29, 3) := by decide +kernel
theorem dX7_item_308 : decode cX7_item 308 = .ok (.aload_n 0, 1) := by decide +kernel
theorem dX7_item_309 : decode cX7_item 309 = .ok (.getfield 90, 3) := by decide +kernel
theorem dX7_item_312 : decode cX7_item 312 = .ok (.iconst 0, 1) := by decide +kernel
theorem dX7_item_313 : decode cX7_item 313 = .ok (.iaload, 1) := by decide +kernel
theorem dX7_item_314 : decode cX7_item 314 = .ok (.iconst 0, 1) := by decide +kernel
theorem dX7_item_315 : decode cX7_item 315 = .ok (.iastore, 1) := by decide +kernel
theorem dX7_item_316 : decode cX7_item 316 = .ok (.goto 52, 3) := by decide +kernel
theorem dX7_item_319 : decode cX7_item 319 = .ok (.aload_n 0, 1) := by decide +kernel
theorem dX7_item_320 : decode cX7_item 320 = .ok (.aload_n 0, 1) := by decide +kernel
theorem dX7_item_321 : decode cX7_item 321 = .ok (.getfield 90, 3) := by decide +kernel
theorem dX7_item_324 : decode cX7_item 324 = .ok (.iconst 0, 1) := by decide +kernel
theorem dX7_item_325 : decode cX7_item 325 = .ok (.iaload, 1) := by decide +kernel
theorem dX7_item_326 : decode cX7_item 326 = .ok (.aload_n 0, 1) := by decide +kernel
theorem dX7_item_327 : decode cX7_item 327 = .ok (.getfield 90, 3) := by decide +kernel
theorem dX7_item_330 : decode cX7_item 330 = .ok (.iconst 1, 1) := by decide +kernel
theorem dX7_item_331 : decode cX7_item 331 = .ok (.iaload, 1) := by decide +kernel
theorem dX7_item_332 : decode cX7_item 332 = .ok (.aload_n 0, 1) := by decide +kernel
theorem dX7_item_333 : decode cX7_item 333 = .ok (.getfield 90, 3) := by decide +kernel
theorem dX7_item_336 : decode cX7_item 336 = .ok (.iconst 2, 1) := by decide +kernel
theorem dX7_item_337 : decode cX7_item 337 = .ok (.iaload, 1) := by decide +kernel
theorem dX7_item_338 : decode cX7_item 338 = .ok (.aload_n 0, 1) := by decide +kernel
theorem dX7_item_339 : decode cX7_item 339 = .ok (.getfield 90, 3) := by decide +kernel
theorem dX7_item_342 : decode cX7_item 342 = .ok (.iconst 3, 1) := by decide +kernel
theorem dX7_item_343 : decode cX7_item 343 = .ok (.iaload, 1) := by decide +kernel
theorem dX7_item_344 : decode cX7_item 344 = .ok (.aload_n 0, 1) := by decide +kernel
theorem dX7_item_345 : decode cX7_item 345 = .ok (.getfield 90, 3) := by decide +kernel
theorem dX7_item_348 : decode cX7_item 348 = .ok (.iconst 4, 1) := by decide +kernel
theorem dX7_item_349 : decode cX7_item 349 = .ok (.iaload, 1) := by decide +kernel
theorem dX7_item_350 : decode cX7_item 350 = .ok (.invokevirtual 170, 3) := by decide +kernel
theorem dX7_item_353 : decode cX7_item 353 = .ok (.pop, 1) := by decide +kernel
theorem dX7_item_354 : decode cX7_item 354 = .ok (.goto 14, 3) := by decide +kernel
theorem dX7_item_357 : decode cX7_item 357 = .ok (.aload_n 0, 1) := by decide +kernel
theorem dX7_item_358 : decode cX7_item 358 = .ok (.aload_n 0, 1) := by decide +kernel
theorem dX7_item_359 : decode cX7_item 359 = .ok (.getfield 90, 3) := by decide +kernel
theorem dX7_item_362 : decode cX7_item 362 = .ok (.iconst 0, 1) := by decide +kernel
theorem dX7_item_363 : decode cX7_item 363 = .ok (.iaload, 1) := by decide +kernel
theorem dX7_item_364 : decode cX7_item 364 = .ok (.invokevirtual 238, 3) := by decide +kernel
theorem dX7_item_367 : decode cX7_item 367 = .ok (.pop, 1) := by decide +kernel
theorem dX7_item_368 : decode cX7_item 368 = .ok (.iconst 1, 1) := by decide +kernel
theorem dX7_item_369 : decode cX7_item 369 = .ok (.ireturn, 1) := by decide +kernel
theorem dX7_carries_0 : decode cX7_carries 0 = .ok (.iconst 0, 1) := by decide +kernel
theorem dX7_carries_1 : decode cX7_carries 1 = .ok (.istore 6, 2) := by decide +kernel
theorem dX7_carries_3 : decode cX7_carries 3 = .ok (.iload 6, 2) := by decide +kernel
theorem dX7_carries_5 : decode cX7_carries 5 = .ok (.iload_n 2, 1) := by decide +kernel
theorem dX7_carries_6 : decode cX7_carries 6 = .ok (.if_icmp .ge 39, 3) := by decide +kernel
theorem dX7_carries_9 : decode cX7_carries 9 = .ok (.iload 5, 2) := by decide +kernel
theorem dX7_carries_11 : decode cX7_carries 11 = .ok (.ifCond .eq 17, 3) := by decide +kernel
theorem dX7_carries_14 : decode cX7_carries 14 = .ok (.aload_n 1, 1) := by decide +kernel
theorem dX7_carries_15 : decode cX7_carries 15 = .ok (.iload 6, 2) := by decide +kernel
theorem dX7_carries_17 : decode cX7_carries 17 = .ok (.aload_n 3, 1) := by decide +kernel
theorem dX7_carries_18 : decode cX7_carries 18 = .ok (.iload 4, 2) := by decide +kernel
theorem dX7_carries_20 : decode cX7_carries 20 = .ok (.iload 6, 2) := by decide +kernel
theorem dX7_carries_22 : decode cX7_carries 22 = .ok (.iadd, 1) := by decide +kernel
theorem dX7_carries_23 : decode cX7_carries 23 = .ok (.iaload, 1) := by decide +kernel
theorem dX7_carries_24 : decode cX7_carries 24 = .ok (.iastore, 1) := by decide +kernel
theorem dX7_carries_25 : decode cX7_carries 25 = .ok (.goto 14, 3) := by decide +kernel
theorem dX7_carries_28 : decode cX7_carries 28 = .ok (.aload_n 3, 1) := by decide +kernel
theorem dX7_carries_29 : decode cX7_carries 29 = .ok (.iload 4, 2) := by decide +kernel
theorem dX7_carries_31 : decode cX7_carries 31 = .ok (.iload 6, 2) := by decide +kernel
theorem dX7_carries_33 : decode cX7_carries 33 = .ok (.iadd, 1) := by decide +kernel
theorem dX7_carries_34 : decode cX7_carries 34 = .ok (.aload_n 1, 1) := by decide +kernel
theorem dX7_carries_35 : decode cX7_carries 35 = .ok (.iload 6, 2) := by decide +kernel
theorem dX7_carries_37 : decode cX7_carries 37 = .ok (.iaload, 1) := by decide +kernel
theorem dX7_carries_38 : decode cX7_carries 38 = .ok (.iastore, 1) := by decide +kernel
theorem dX7_carries_39 : decode cX7_carries 39 = .ok (.iinc 6 1, 3) := by decide +kernel
theorem dX7_carries_42 : decode cX7_carries 42 = .ok (.goto (-39), 3) := by decide +kernel
theorem dX7_carries_45 : decode cX7_carries 45 = .ok (.iload 4, 2) := by decide +kernel
theorem dX7_carries_47 : decode cX7_carries 47 = .ok (.iload_n 2, 1) := by decide +kernel
theorem dX7_carries_48 : decode cX7_carries 48 = .ok (.iadd, 1) := by decide +kernel
theorem dX7_carries_49 : decode cX7_carries 49 = .ok (.ireturn, 1) := by decide +kernel
theorem dX7_all_0 : decode cX7_all 0 = .ok (.aload_n 0, 1) := by decide +kernel
theorem dX7_all_1 : decode cX7_all 1 = .ok (.aload_n 0, 1) := by decide +kernel
theorem dX7_all_2 : decode cX7_all 2 = .ok (.getfield 20, 3) := by decide +kernel
theorem dX7_all_5 : decode cX7_all 5 = .ok (.bipush 64, 2) := by decide +kernel
theorem dX7_all_7 : decode cX7_all 7 = .ok (.aload_n 1, 1) := by decide +kernel
theorem dX7_all_8 : decode cX7_all 8 = .ok (.iconst 0, 1) := by decide +kernel
theorem dX7_all_9 : decode cX7_all 9 = .ok (.iload_n 2, 1) := by decide +kernel
theorem dX7_all_10 : decode cX7_all 10 = .ok (.invokevirtual 241, 3) := by decide +kernel
theorem dX7_all_13 : decode cX7_all 13 = .ok (.istore_n 3, 1) := by decide +kernel
theorem dX7_all_14 : decode cX7_all 14 = .ok (.aload_n 0, 1) := by decide +kernel
theorem dX7_all_15 : decode cX7_all 15 = .ok (.aload_n 0, 1) := by decide +kernel
theorem dX7_all_16 : decode cX7_all 16 = .ok (.getfield 23, 3) := by decide +kernel
theorem dX7_all_19 : decode cX7_all 19 = .ok (.bipush 8, 2) := by decide +kernel
theorem dX7_all_21 : decode cX7_all 21 = .ok (.aload_n 1, 1) := by decide +kernel
theorem dX7_all_22 : decode cX7_all 22 = .ok (.iload_n 3, 1) := by decide +kernel
theorem dX7_all_23 : decode cX7_all 23 = .ok (.iload_n 2, 1) := by decide +kernel
theorem dX7_all_24 : decode cX7_all 24 = .ok (.invokevirtual 241, 3) := by decide +kernel
theorem dX7_all_27 : decode cX7_all 27 = .ok (.istore_n 3, 1) := by decide +kernel
theorem dX7_all_28 : decode cX7_all 28 = .ok (.aload_n 0, 1) := by decide +kernel
theorem dX7_all_29 : decode cX7_all 29 = .ok (.aload_n 0, 1) := by decide +kernel
theorem dX7_all_30 : decode cX7_all 30 = .ok (.getfield 26, 3) := by decide +kernel
theorem dX7_all_33 : decode cX7_all 33 = .ok (.bipush 8, 2) := by decide +kernel
theorem dX7_all_35 : decode cX7_all 35 = .ok (.aload_n 1, 1) := by decide +kernel
theorem dX7_all_36 : decode cX7_all 36 = .ok (.iload_n 3, 1) := by decide +kernel
theorem dX7_all_37 : decode cX7_all 37 = .ok (.iload_n 2, 1) := by decide +kernel
theorem dX7_all_38 : decode cX7_all 38 = .ok (.invokevirtual 241, 3) := by decide +kernel
theorem dX7_all_41 : decode cX7_all 41 = .ok (.istore_n 3, 1) := by decide +kernel
theorem dX7_all_42 : decode cX7_all 42 = .ok (.aload_n 0, 1) := by decide +kernel
theorem dX7_all_43 : decode cX7_all 43 = .ok (.aload_n 0, 1) := by decide +kernel
theorem dX7_all_44 : decode cX7_all 44 = .ok (.getfield 29, 3) := by decide +kernel
theorem dX7_all_47 : decode cX7_all 47 = .ok (.bipush 49, 2) := by decide +kernel
theorem dX7_all_49 : decode cX7_all 49 = .ok (.aload_n 1, 1) := by decide +kernel
theorem dX7_all_50 : decode cX7_all 50 = .ok (.iload_n 3, 1) := by decide +kernel
theorem dX7_all_51 : decode cX7_all 51 = .ok (.iload_n 2, 1) := by decide +kernel
theorem dX7_all_52 : decode cX7_all 52 = .ok (.invokevirtual 241, 3) := by decide +kernel
theorem dX7_all_55 : decode cX7_all 55 = .ok (.istore_n 3, 1) := by decide +kernel
theorem dX7_all_56 : decode cX7_all 56 = .ok (.aload_n 0, 1) := by decide +kernel
theorem dX7_all_57 : decode cX7_all 57 = .ok (.aload_n 0, 1) := by decide +kernel
theorem dX7_all_58 : decode cX7_all 58 = .ok (.getfield 32, 3) := by decide +kernel
theorem dX7_all_61 : decode cX7_all 61 = .ok (.bipush 6, 2) := by decide +kernel
theorem dX7_all_63 : decode cX7_all 63 = .ok (.aload_n 1, 1) := by decide +kernel
theorem dX7_all_64 : decode cX7_all 64 = .ok (.iload_n 3, 1) := by decide +kernel
theorem dX7_all_65 : decode cX7_all 65 = .ok (.iload_n 2, 1) := by decide +kernel
theorem dX7_all_66 : decode cX7_all 66 = .ok (.invokevirtual 241, 3) := by decide +kernel
theorem dX7_all_69 : decode cX7_all 69 = .ok (.istore_n 3, 1) := by decide +kernel
theorem dX7_all_70 : decode cX7_all 70 = .ok (.aload_n 0, 1) := by decide +kernel
theorem dX7_all_71 : decode cX7_all 71 = .ok (.aload_n 0, 1) := by decide +kernel
theorem dX7_all_72 : decode cX7_all 72 = .ok (.getfield 35, 3) := by decide +kernel
theorem dX7_all_75 : decode cX7_all 75 = .ok (.bipush 6, 2) := by decide +kernel
theorem dX7_all_77 : decode cX7_all 77 = .ok (.aload_n 1, 1) := by decide +kernel
theorem dX7_all_78 : decode cX7_all 78 = .ok (.iload_n 3, 1) := by decide +kernel
theorem dX7_all_79 : decode cX7_all 79 = .ok (.iload_n 2, 1) := by decide +kernel
theorem dX7_all_80 : decode cX7_all 80 = .ok (.invokevirtual 241, 3) := by decide +kernel
theorem dX7_all_83 : decode cX7_all 83 = .ok (.istore_n 3, 1) := by decide +kernel
theorem dX7_all_84 : decode cX7_all 84 = .ok (.aload_n 0, 1) := by decide +kernel
theorem dX7_all_85 : decode cX7_all 85 = .ok (.aload_n 0, 1) := by decide +kernel
theorem dX7_all_86 : decode cX7_all 86 = .ok (.getfield 38, 3) := by decide +kernel
theorem dX7_all_89 : decode cX7_all 89 = .ok (.bipush 6, 2) := by decide +kernel
theorem dX7_all_91 : decode cX7_all 91 = .ok (.aload_n 1, 1) := by decide +kernel
theorem dX7_all_92 : decode cX7_all 92 = .ok (.iload_n 3, 1) := by decide +kernel
theorem dX7_all_93 : decode cX7_all 93 = .ok (.iload_n 2, 1) := by decide +kernel
theorem dX7_all_94 : decode cX7_all 94 = .ok (.invokevirtual 241, 3) := by decide +kernel
theorem dX7_all_97 : decode cX7_all 97 = .ok (.istore_n 3, 1) := by decide +kernel
theorem dX7_all_98 : decode cX7_all 98 = .ok (.aload_n 0, 1) := by decide +kernel
theorem dX7_all_99 : decode cX7_all 99 = .ok (.aload_n 0, 1) := by decide +kernel
theorem dX7_all_100 : decode cX7_all 100 = .ok (.getfield 41, 3) := by decide +kernel
theorem dX7_all_103 : decode cX7_all 103 = .ok (.bipush 6, 2) := by decide +kernel
theorem dX7_all_105 : decode cX7_all 105 = .ok (.aload_n 1, 1) := by decide +kernel
theorem dX7_all_106 : decode cX7_all 106 = .ok (.iload_n 3, 1) := by decide +kernel
theorem dX7_all_107 : decode cX7_all 107 = .ok (.iload_n 2, 1) := by decide +kernel
theorem dX7_all_108 : decode cX7_all 108 = .ok (.invokevirtual 241, 3) := by decide +kernel
theorem dX7_all_111 : decode cX7_all 111 = .ok (.istore_n 3, 1) := by decide +kernel
theorem dX7_all_112 : decode cX7_all 112 = .ok (.aload_n 0, 1) := by decide +kernel
theorem dX7_all_113 : decode cX7_all 113 = .ok (.aload_n 0, 1) := by decide +kernel
theorem dX7_all_114 : decode cX7_all 114 = .ok (.getfield 44, 3) := by decide +kernel
theorem dX7_all_117 : decode cX7_all 117 = .ok (.bipush 6, 2) := by decide +kernel
theorem dX7_all_119 : decode cX7_all 119 = .ok (.aload_n 1, 1) := by decide +kernel
theorem dX7_all_120 : decode cX7_all 120 = .ok (.iload_n 3, 1) := by decide +kernel
theorem dX7_all_121 : decode cX7_all 121 = .ok (.iload_n 2, 1) := by decide +kernel
theorem dX7_all_122 : decode cX7_all 122 = .ok (.invokevirtual 241, 3) := by decide +kernel
theorem dX7_all_125 : decode cX7_all 125 = .ok (.istore_n 3, 1) := by decide +kernel
theorem dX7_all_126 : decode cX7_all 126 = .ok (.aload_n 0, 1) := by decide +kernel
theorem dX7_all_127 : decode cX7_all 127 = .ok (.aload_n 0, 1) := by decide +kernel
theorem dX7_all_128 : decode cX7_all 128 = .ok (.getfield 47, 3) := by decide +kernel
theorem dX7_all_131 : decode cX7_all 131 = .ok (.bipush 6, 2) := by decide +kernel
theorem dX7_all_133 : decode cX7_all 133 = .ok (.aload_n 1, 1) := by decide +kernel
theorem dX7_all_134 : decode cX7_all 134 = .ok (.iload_n 3, 1) := by decide +kernel
theorem dX7_all_135 : decode cX7_all 135 = .ok (.iload_n 2, 1) := by decide +kernel
theorem dX7_all_136 : decode cX7_all 136 = .ok (.invokevirtual 241, 3) := by decide +kernel
theorem dX7_all_139 : decode cX7_all 139 = .ok (.istore_n 3, 1) := by decide +kernel
theorem dX7_all_140 : decode cX7_all 140 = .ok (.aload_n 0, 1) := by decide +kernel
theorem dX7_all_141 : decode cX7_all 141 = .ok (.aload_n 0, 1) := by decide +kernel
theorem dX7_all_142 : decode cX7_all 142 = .ok (.getfield 50, 3) := by decide +kernel
theorem dX7_all_145 : decode cX7_all 145 = .ok (.bipush 6, 2) := by decide +kernel
theorem dX7_all_147 : decode cX7_all 147 = .ok (.aload_n 1, 1) := by decide +kernel
theorem dX7_all_148 : decode cX7_all 148 = .ok (.iload_n 3, 1) := by decide +kernel
theorem dX7_all_149 : decode cX7_all 149 = .ok (.iload_n 2, 1) := by decide +kernel
theorem dX7_all_150 : decode cX7_all 150 = .ok (.invokevirtual 241, 3) := by decide +kernel
theorem dX7_all_153 : decode cX7_all 153 = .ok (.istore_n 3, 1) := by decide +kernel
theorem dX7_all_154 : decode cX7_all 154 = .ok (.iload_n 2, 1) := by decide +kernel
theorem dX7_all_155 : decode cX7_all 155 = .ok (.ifCond .eq 49, 3) := by decide +kernel
theorem dX7_all_158 : decode cX7_all 158 = .ok (.aload_n 0, 1) := by decide +kernel
theorem dX7_all_159 : decode cX7_all 159 = .ok (.aload_n 1, 1) := by decide +kernel
theorem dX7_all_160 : decode cX7_all 160 = .ok (.iload_n 3, 1) := by decide +kernel
theorem dX7_all_161 : decode cX7_all 161 = .ok (.iaload, 1) := by decide +kernel
theorem dX7_all_162 : decode cX7_all 162 = .ok (.putfield 129, 3) := by decide +kernel
theorem dX7_all_165 : decode cX7_all 165 = .ok (.aload_n 0, 1) := by decide +kernel
theorem dX7_all_166 : decode cX7_all 166 = .ok (.aload_n 1, 1) := by decide +kernel
theorem dX7_all_167 : decode cX7_all 167 = .ok (.iload_n 3, 1) := by decide +kernel
theorem dX7_all_168 : decode cX7_all 168 = .ok (.iconst 1, 1) := by decide +kernel
theorem dX7_all_169 : decode cX7_all 169 = .ok (.iadd, 1) := by decide +kernel
theorem dX7_all_170 : decode cX7_all 170 = .ok (.iaload, 1) := by decide +kernel
theorem dX7_all_171 : decode cX7_all 171 = .ok (.putfield 126, 3) := by decide +kernel
theorem dX7_all_174 : decode cX7_all 174 = .ok (.aload_n 0, 1) := by decide +kernel
theorem dX7_all_175 : decode cX7_all 175 = .ok (.aload_n 1, 1) := by decide +kernel
theorem dX7_all_176 : decode cX7_all 176 = .ok (.iload_n 3, 1) := by decide +kernel
theorem dX7_all_177 : decode cX7_all 177 = .ok (.iconst 2, 1) := by decide +kernel
theorem dX7_all_178 : decode cX7_all 178 = .ok (.iadd, 1) := by decide +kernel
theorem dX7_all_179 : decode cX7_all 179 = .ok (.iaload, 1) := by decide +kernel
theorem dX7_all_180 : decode cX7_all 180 = .ok (.putfield 245, 3) := by decide +kernel
theorem dX7_all_183 : decode cX7_all 183 = .ok (.aload_n 0, 1) := by decide +kernel
theorem dX7_all_184 : decode cX7_all 184 = .ok (.aload_n 1, 1) := by decide +kernel
theorem dX7_all_185 : decode cX7_all 185 = .ok (.iload_n 3, 1) := by decide +kernel
theorem dX7_all_186 : decode cX7_all 186 = .ok (.iconst 3, 1) := by decide +kernel
theorem dX7_all_187 : decode cX7_all 187 = .ok (.iadd, 1) := by decide +kernel
theorem dX7_all_188 : decode cX7_all 188 = .ok (.iaload, 1) := by decide +kernel
theorem dX7_all_189 : decode cX7_all 189 = .ok (.putfield 248, 3) := by decide +kernel
theorem dX7_all_192 : decode cX7_all 192 = .ok (.aload_n 0, 1) := by decide +kernel
theorem dX7_all_193 : decode cX7_all 193 = .ok (.aload_n 1, 1) := by decide +kernel
theorem dX7_all_194 : decode cX7_all 194 = .ok (.iload_n 3, 1) := by decide +kernel
theorem dX7_all_195 : decode cX7_all 195 = .ok (.iconst 4, 1) := by decide +kernel
theorem dX7_all_196 : decode cX7_all 196 = .ok (.iadd, 1) := by decide +kernel
theorem dX7_all_197 : decode cX7_all 197 = .ok (.iaload, 1) := by decide +kernel
theorem dX7_all_198 : decode cX7_all 198 = .ok (.putfield 7, 3) := by decide +kernel
theorem dX7_all_201 : decode cX7_all 201 = .ok (.goto 46, 3) := by decide +kernel
theorem dX7_all_204 : decode cX7_all 204 = .ok (.aload_n 1, 1) := by decide +kernel
theorem dX7_all_205 : decode cX7_all 205 = .ok (.iload_n 3, 1) := by decide +kernel
theorem dX7_all_206 : decode cX7_all 206 = .ok (.aload_n 0, 1) := by decide +kernel
theorem dX7_all_207 : decode cX7_all 207 = .ok (.getfield 129, 3) := by decide +kernel
theorem dX7_all_210 : decode cX7_all 210 = .ok (.iastore, 1) := by decide +kernel
theorem dX7_all_211 : decode cX7_all 211 = .ok (.aload_n 1, 1) := by decide +kernel
theorem dX7_all_212 : decode cX7_all 212 = .ok (.iload_n 3, 1) := by decide +kernel
theorem dX7_all_213 : decode cX7_all 213 = .ok (.iconst 1, 1) := by decide +kernel
theorem dX7_all_214 : decode cX7_all 214 = .ok (.iadd, 1) := by decide +kernel
theorem dX7_all_215 : decode cX7_all 215 = .ok (.aload_n 0, 1) := by decide +kernel
theorem dX7_all_216 : decode cX7_all 216 = .ok (.getfield 126, 3) := by decide +kernel
theorem dX7_all_219 : decode cX7_all 219 = .ok (.iastore, 1) := by decide +kernel
theorem dX7_all_220 : decode cX7_all 220 = .ok (.aload_n 1, 1) := by decide +kernel
theorem dX7_all_221 : decode cX7_all 221 = .ok (.iload_n 3, 1) := by decide +kernel
theorem dX7_all_222 : decode cX7_all 222 = .ok (.iconst 2, 1) := by decide +kernel
theorem dX7_all_223 : decode cX7_all 223 = .ok (.iadd, 1) := by decide +kernel
theorem dX7_all_224 : decode cX7_all 224 = .ok (.aload_n 0, 1) := by decide +kernel
theorem dX7_all_225 : decode cX7_all 225 = .ok (.getfield 245, 3) := by decide +kernel
theorem dX7_all_228 : decode cX7_all 228 = .ok (.iastore, 1) := by decide +kernel
theorem dX7_all_229 : decode cX7_all 229 = .ok (.aload_n 1, 1) := by decide +kernel
theorem dX7_all_230 : decode cX7_all 230 = .ok (.iload_n 3, 1) := by decide +kernel
theorem dX7_all_231 : decode cX7_all 231 = .ok (.iconst 3, 1) := by decide +kernel
theorem dX7_all_232 : decode cX7_all 232 = .ok (.iadd, 1) := by decide +kernel
theorem dX7_all_233 : decode cX7_all 233 = .ok (.aload_n 0, 1) := by decide +kernel
theorem dX7_all_234 : decode cX7_all 234 = .ok (.getfield 248, 3) := by decide +kernel
theorem dX7_all_237 : decode cX7_all 237 = .ok (.iastore, 1) := by decide +kernel
theorem dX7_all_238 : decode cX7_all 238 = .ok (.aload_n 1, 1) := by decide +kernel
theorem dX7_all_239 : decode cX7_all 239 = .ok (.iload_n 3, 1) := by decide +kernel
theorem dX7_all_240 : decode cX7_all 240 = .ok (.iconst 4, 1) := by decide +kernel
theorem dX7_all_241 : decode cX7_all 241 = .ok (.iadd, 1) := by decide +kernel
theorem dX7_all_242 : decode cX7_all 242 = .ok (.aload_n 0, 1) := by decide +kernel
theorem dX7_all_243 : decode cX7_all 243 = .ok (.getfield 7, 3) := by decide +kernel
theorem dX7_all_246 : decode cX7_all 246 = .ok (.iastore, 1) := by decide +kernel
theorem dX7_all_247 : decode cX7_all 247 = .ok (.return_, 1) := by decide +kernel
theorem dX7_streets_0 : decode cX7_streets 0 = .ok (.aload_n 0, 1) := by decide +kernel
theorem dX7_streets_1 : decode cX7_streets 1 = .ok (.iload_n 1, 1) := by decide +kernel
theorem dX7_streets_2 : decode cX7_streets 2 = .ok (.invokevirtual 150, 3) := by decide +kernel
theorem dX7_streets_5 : decode cX7_streets 5 = .ok (.istore_n 2, 1) := by decide +kernel
theorem dX7_streets_6 : decode cX7_streets 6 = .ok (.iload_n 2, 1) := by decide +kernel
theorem dX7_streets_7 : decode cX7_streets 7 = .ok (.ifCond .eq 9, 3) := by decide +kernel
theorem dX7_streets_10 : decode cX7_streets 10 = .ok (.aload_n 0, 1) := by decide +kernel
theorem dX7_streets_11 : decode cX7_streets 11 = .ok (.iload_n 2, 1) := by decide +kernel
theorem dX7_streets_12 : decode cX7_streets 12 = .ok (.invokevirtual 136, 3) := by decide +kernel
theorem dX7_streets_15 : decode cX7_streets 15 = .ok (.ireturn, 1) := by decide +kernel
theorem dX7_streets_16 : decode cX7_streets 16 = .ok (.aload_n 0, 1) := by decide +kernel
theorem dX7_streets_17 : decode cX7_streets 17 = .ok (.aload_n 0, 1) := by decide +kernel
theorem dX7_streets_18 : decode cX7_streets 18 = .ok (.getfield 96, 3) := by decide +kernel
theorem dX7_streets_21 : decode cX7_streets 21 = .ok (.iconst 0, 1) := by decide +kernel
theorem dX7_streets_22 : decode cX7_streets 22 = .ok (.invokevirtual 251, 3) := by decide +kernel
theorem dX7_streets_25 : decode cX7_streets 25 = .ok (.aload_n 0, 1) := by decide +kernel
theorem dX7_streets_26 : decode cX7_streets 26 = .ok (.sipush 160, 3) := by decide +kernel
theorem dX7_streets_29 : decode cX7_streets 29 = .ok (.iload_n 1, 1) := by decide +kernel
theorem dX7_streets_30 : decode cX7_streets 30 = .ok (.imul, 1) := by decide +kernel
theorem dX7_streets_31 : decode cX7_streets 31 = .ok (.putfield 189, 3) := by decide +kernel
theorem dX7_streets_34 : decode cX7_streets 34 = .ok (.aload_n 0, 1) := by decide +kernel
theorem dX7_streets_35 : decode cX7_streets 35 = .ok (.iconst 0, 1) := by decide +kernel
theorem dX7_streets_36 : decode cX7_streets 36 = .ok (.putfield 183, 3) := by decide +kernel
theorem dX7_streets_39 : decode cX7_streets 39 = .ok (.aload_n 0, 1) := by decide +kernel
theorem dX7_streets_40 : decode cX7_streets 40 = .ok (.aload_n 0, 1) := by decide +kernel
theorem dX7_streets_41 : decode cX7_streets 41 = .ok (.getfield 74, 3) := by decide +kernel
theorem dX7_streets_44 : decode cX7_streets 44 = .ok (.iload_n 1, 1) := by decide +kernel
theorem dX7_streets_45 : decode cX7_streets 45 = .ok (.iaload, 1) := by decide +kernel
theorem dX7_streets_46 : decode cX7_streets 46 = .ok (.putfield 186, 3) := by decide +kernel
theorem dX7_streets_49 : decode cX7_streets 49 = .ok (.aload_n 0, 1) := by decide +kernel
theorem dX7_streets_50 : decode cX7_streets 50 = .ok (.iconst (-1), 1) := by decide +kernel
theorem dX7_streets_51 : decode cX7_streets 51 = .ok (.putfield 13, 3) := by decide +kernel
theorem dX7_streets_54 : decode cX7_streets 54 = .ok (.iconst 1, 1) := by decide +kernel
theorem dX7_streets_55 : decode cX7_streets 55 = .ok (.istore_n 3, 1) := by decide +kernel
theorem dX7_streets_56 : decode cX7_streets 56 = .ok (.aload_n 0, 1) := by decide +kernel
theorem dX7_streets_57 : decode cX7_streets 57 = .ok (.invokevirtual 255, 3) := by decide +kernel
theorem dX7_streets_60 : decode cX7_streets 60 = .ok (.istore 4, 2) := by decide +kernel
theorem dX7_streets_62 : decode cX7_streets 62 = .ok (.iload 4, 2) := by decide +kernel
theorem dX7_streets_64 : decode cX7_streets 64 = .ok (.ifCond .eq 69, 3) := by decide +kernel
theorem dX7_streets_67 : decode cX7_streets 67 = .ok (.aload_n 0, 1) := by decide +kernel
theorem dX7_streets_68 : decode cX7_streets 68 = .ok (.getfield 183, 3) := by decide +kernel
theorem dX7_streets_71 : decode cX7_streets 71 = .ok (.aload_n 0, 1) := by decide +kernel
theorem dX7_streets_72 : decode cX7_streets 72 = .ok (.getfield 186, 3) := by decide +kernel
theorem dX7_streets_75 : decode cX7_streets 75 = .ok (.if_icmp .ge 58, 3) := by decide +kernel
theorem dX7_streets_78 : decode cX7_streets 78 = .ok (.aload_n 0, 1) := by decide +kernel
theorem dX7_streets_79 : decode cX7_streets 79 = .ok (.getfield 80, 3) := by decide +kernel
theorem dX7_streets_82 : decode cX7_streets 82 = .ok (.aload_n 0, 1) := by decide +kernel
theorem dX7_streets_83 : decode cX7_streets 83 = .ok (.getfield 189, 3) := by decide +kernel
theorem dX7_streets_86 : decode cX7_streets 86 = .ok (.aload_n 0, 1) := by decide +kernel
theorem dX7_streets_87 : decode cX7_streets 87 = .ok (.getfield 183, 3) := by decide +kernel
theorem dX7_streets_90 : decode cX7_streets 90 = .ok (.iadd, 1) := by decide +kernel
theorem dX7_streets_91 : decode cX7_streets 91 = .ok (.laload, 1) := by decide +kernel
theorem dX7_streets_92 : decode cX7_streets 92 = .ok (.l2i, 1) := by decide +kernel
theorem dX7_streets_93 : decode cX7_streets 93 = .ok (.bipush 59, 2) := by decide +kernel
theorem dX7_streets_95 : decode cX7_streets 95 = .ok (.if_icmp .eq 16, 3) := by decide +kernel
theorem dX7_streets_98 : decode cX7_streets 98 = .ok (.aload_n 0, 1) := by decide +kernel
theorem dX7_streets_99 : decode cX7_streets 99 = .ok (.aload_n 0, 1) := by decide +kernel
theorem dX7_streets_100 : decode cX7_streets 100 = .ok (.getfield 183, 3) := by decide +kernel
theorem dX7_streets_103 : decode cX7_streets 103 = .ok (.invokevirtual 199, 3) := by decide +kernel
theorem dX7_streets_106 : decode cX7_streets 106 = .ok (.istore 4, 2) := by decide +kernel
theorem dX7_streets_108 : decode cX7_streets 108 = .ok (.goto (-46), 3) := by decide +kernel
theorem dX7_streets_111 : decode cX7_streets 111 = .ok (.aload_n 0, 1) := by decide +kernel
theorem dX7_streets_112 : decode cX7_streets 112 = .ok (.dup, 1) := by decide +kernel
theorem dX7_streets_113 : decode cX7_streets 113 = .ok (.getfield 183, 3) := by decide +kernel
theorem dX7_streets_116 : decode cX7_streets 116 = .ok (.iconst 1, 1) := by decide +kernel
theorem dX7_streets_117 : decode cX7_streets 117 = .ok (.iadd, 1) := by decide +kernel
theorem dX7_streets_118 : decode cX7_streets 118 = .ok (.putfield 183, 3) := by decide +kernel
theorem dX7_streets_121 : decode cX7_streets 121 = .ok (.iinc 3 1, 3) := by decide +kernel
theorem dX7_streets_124 : decode cX7_streets 124 = .ok (.aload_n 0, 1) := by decide +kernel
theorem dX7_streets_125 : decode cX7_streets 125 = .ok (.invokevirtual 255, 3) := by decide +kernel
theorem dX7_streets_128 : decode cX7_streets 128 = .ok (.istore 4, 2) := by decide +kernel
theorem dX7_streets_130 : decode cX7_streets 130 = .ok (.goto (-68), 3) := by decide +kernel
theorem dX7_streets_133 : decode cX7_streets 133 = .ok (.iload 4, 2) := by decide +kernel
theorem dX7_streets_135 : decode cX7_streets 135 = .ok (.ifCond .eq 5, 3) := by decide +kernel
theorem dX7_streets_138 : decode cX7_streets 138 = .ok (.iload_n 3, 1) := by decide +kernel
theorem dX7_streets_139 : decode cX7_streets 139 = .ok (.ireturn, 1) := by decide +kernel
theorem dX7_streets_140 : decode cX7_streets 140 = .ok (.aload_n 0, 1) := by decide +kernel
theorem dX7_streets_141 : decode cX7_streets 141 = .ok (.aload_n 0, 1) := by decide +kernel
theorem dX7_streets_142 : decode cX7_streets 142 = .ok (.getfield 96, 3) := by decide +kernel
theorem dX7_streets_145 : decode cX7_streets 145 = .ok (.iconst 1, 1) := by decide +kernel
theorem dX7_streets_146 : decode cX7_streets 146 = .ok (.invokevirtual 251, 3) := by decide +kernel
theorem dX7_streets_149 : decode cX7_streets 149 = .ok (.aload_n 0, 1) := by decide +kernel
theorem dX7_streets_150 : decode cX7_streets 150 = .ok (.aload_n 0, 1) := by decide +kernel
theorem dX7_streets_151 : decode cX7_streets 151 = .ok (.getfield 180, 3) := by decide +kernel
theorem dX7_streets_154 : decode cX7_streets 154 = .ok (.putfield 13, 3) := by decide +kernel
theorem dX7_streets_157 : decode cX7_streets 157 = .ok (.aload_n 0, 1) := by decide +kernel
theorem dX7_streets_158 : decode cX7_streets 158 = .ok (.bipush (-6), 2) := by decide +kernel
theorem dX7_streets_160 : decode cX7_streets 160 = .ok (.invokevirtual 136, 3) := by decide +kernel
theorem dX7_streets_163 : decode cX7_streets 163 = .ok (.ireturn, 1) := by decide +kernel
theorem dX7_fault_0 : decode cX7_fault 0 = .ok (.aload_n 0, 1) := by decide +kernel
theorem dX7_fault_1 : decode cX7_fault 1 = .ok (.getfield 13, 3) := by decide +kernel
theorem dX7_fault_4 : decode cX7_fault 4 = .ok (.ireturn, 1) := by decide +kernel
theorem dX7_isBeside_0 : decode cX7_isBeside 0 = .ok (.iload_n 1, 1) := by decide +kernel
theorem dX7_isBeside_1 : decode cX7_isBeside 1 = .ok (.bipush 7, 2) := by decide +kernel
theorem dX7_isBeside_3 : decode cX7_isBeside 3 = .ok (.idiv, 1) := by decide +kernel
theorem dX7_isBeside_4 : decode cX7_isBeside 4 = .ok (.iload_n 2, 1) := by decide +kernel
theorem dX7_isBeside_5 : decode cX7_isBeside 5 = .ok (.bipush 7, 2) := by decide +kernel
theorem dX7_isBeside_7 : decode cX7_isBeside 7 = .ok (.idiv, 1) := by decide +kernel
theorem dX7_isBeside_8 : decode cX7_isBeside 8 = .ok (.isub, 1) := by decide +kernel
theorem dX7_isBeside_9 : decode cX7_isBeside 9 = .ok (.istore_n 3, 1) := by decide +kernel
theorem dX7_isBeside_10 : decode cX7_isBeside 10 = .ok (.iload_n 1, 1) := by decide +kernel
theorem dX7_isBeside_11 : decode cX7_isBeside 11 = .ok (.bipush 7, 2) := by decide +kernel
theorem dX7_isBeside_13 : decode cX7_isBeside 13 = .ok (.irem, 1) := by decide +kernel
theorem dX7_isBeside_14 : decode cX7_isBeside 14 = .ok (.iload_n 2, 1) := by decide +kernel
theorem dX7_isBeside_15 : decode cX7_isBeside 15 = .ok (.bipush 7, 2) := by decide +kernel
theorem dX7_isBeside_17 : decode cX7_isBeside 17 = .ok (.irem, 1) := by decide +kernel
theorem dX7_isBeside_18 : decode cX7_isBeside 18 = .ok (.isub, 1) := by decide +kernel
theorem dX7_isBeside_19 : decode cX7_isBeside 19 = .ok (.istore 4, 2) := by decide +kernel
theorem dX7_isBeside_21 : decode cX7_isBeside 21 = .ok (.iload_n 3, 1) := by decide +kernel
theorem dX7_isBeside_22 : decode cX7_isBeside 22 = .ok (.iload_n 3, 1) := by decide +kernel
theorem dX7_isBeside_23 : decode cX7_isBeside 23 = .ok (.imul, 1) := by decide +kernel
theorem dX7_isBeside_24 : decode cX7_isBeside 24 = .ok (.iload 4, 2) := by decide +kernel
theorem dX7_isBeside_26 : decode cX7_isBeside 26 = .ok (.iload 4, 2) := by decide +kernel
theorem dX7_isBeside_28 : decode cX7_isBeside 28 = .ok (.imul, 1) := by decide +kernel
theorem dX7_isBeside_29 : decode cX7_isBeside 29 = .ok (.iadd, 1) := by decide +kernel
theorem dX7_isBeside_30 : decode cX7_isBeside 30 = .ok (.iconst 1, 1) := by decide +kernel
theorem dX7_isBeside_31 : decode cX7_isBeside 31 = .ok (.if_icmp .ne 7, 3) := by decide +kernel
theorem dX7_isBeside_34 : decode cX7_isBeside 34 = .ok (.iconst 1, 1) := by decide +kernel
theorem dX7_isBeside_35 : decode cX7_isBeside 35 = .ok (.goto 4, 3) := by decide +kernel
theorem dX7_isBeside_38 : decode cX7_isBeside 38 = .ok (.iconst 0, 1) := by decide +kernel
theorem dX7_isBeside_39 : decode cX7_isBeside 39 = .ok (.ireturn, 1) := by decide +kernel
theorem dX7_ahead_0 : decode cX7_ahead 0 = .ok (.iload_n 1, 1) := by decide +kernel
theorem dX7_ahead_1 : decode cX7_ahead 1 = .ok (.bipush 7, 2) := by decide +kernel
theorem dX7_ahead_3 : decode cX7_ahead 3 = .ok (.idiv, 1) := by decide +kernel
theorem dX7_ahead_4 : decode cX7_ahead 4 = .ok (.iload_n 2, 1) := by decide +kernel
theorem dX7_ahead_5 : decode cX7_ahead 5 = .ok (.ifCond .ne 7, 3) := by decide +kernel
theorem dX7_ahead_8 : decode cX7_ahead 8 = .ok (.iconst (-1), 1) := by decide +kernel
theorem dX7_ahead_9 : decode cX7_ahead 9 = .ok (.goto 13, 3) := by decide +kernel
theorem dX7_ahead_12 : decode cX7_ahead 12 = .ok (.iload_n 2, 1) := by decide +kernel
theorem dX7_ahead_13 : decode cX7_ahead 13 = .ok (.iconst 2, 1) := by decide +kernel
theorem dX7_ahead_14 : decode cX7_ahead 14 = .ok (.if_icmp .ne 7, 3) := by decide +kernel
theorem dX7_ahead_17 : decode cX7_ahead 17 = .ok (.iconst 1, 1) := by decide +kernel
theorem dX7_ahead_18 : decode cX7_ahead 18 = .ok (.goto 4, 3) := by decide +kernel
theorem dX7_ahead_21 : decode cX7_ahead 21 = .ok (.iconst 0, 1) := by decide +kernel
theorem dX7_ahead_22 : decode cX7_ahead 22 = .ok (.iadd, 1) := by decide +kernel
theorem dX7_ahead_23 : decode cX7_ahead 23 = .ok (.istore_n 3, 1) := by decide +kernel
theorem dX7_ahead_24 : decode cX7_ahead 24 = .ok (.iload_n 1, 1) := by decide +kernel
theorem dX7_ahead_25 : decode cX7_ahead 25 = .ok (.bipush 7, 2) := by decide +kernel
theorem dX7_ahead_27 : decode cX7_ahead 27 = .ok (.irem, 1) := by decide +kernel
theorem dX7_ahead_28 : decode cX7_ahead 28 = .ok (.iload_n 2, 1) := by decide +kernel
theorem dX7_ahead_29 : decode cX7_ahead 29 = .ok (.iconst 1, 1) := by decide +kernel
theorem dX7_ahead_30 : decode cX7_ahead 30 = .ok (.if_icmp .ne 7, 3) := by decide +kernel
theorem dX7_ahead_33 : decode cX7_ahead 33 = .ok (.iconst 1, 1) := by decide +kernel
theorem dX7_ahead_34 : decode cX7_ahead 34 = .ok (.goto 13, 3) := by decide +kernel
theorem dX7_ahead_37 : decode cX7_ahead 37 = .ok (.iload_n 2, 1) := by decide +kernel
theorem dX7_ahead_38 : decode cX7_ahead 38 = .ok (.iconst 3, 1) := by decide +kernel
theorem dX7_ahead_39 : decode cX7_ahead 39 = .ok (.if_icmp .ne 7, 3) := by decide +kernel
theorem dX7_ahead_42 : decode cX7_ahead 42 = .ok (.iconst (-1), 1) := by decide +kernel
theorem dX7_ahead_43 : decode cX7_ahead 43 = .ok (.goto 4, 3) := by decide +kernel
theorem dX7_ahead_46 : decode cX7_ahead 46 = .ok (.iconst 0, 1) := by decide +kernel
theorem dX7_ahead_47 : decode cX7_ahead 47 = .ok (.iadd, 1) := by decide +kernel
theorem dX7_ahead_48 : decode cX7_ahead 48 = .ok (.istore 4, 2) := by decide +kernel
theorem dX7_ahead_50 : decode cX7_ahead 50 = .ok (.iload_n 3, 1) := by decide +kernel
theorem dX7_ahead_51 : decode cX7_ahead 51 = .ok (.ifCond .lt 21, 3) := by decide +kernel
theorem dX7_ahead_54 : decode cX7_ahead 54 = .ok (.iload_n 3, 1) := by decide +kernel
theorem dX7_ahead_55 : decode cX7_ahead 55 = .ok (.bipush 6, 2) := by decide +kernel
theorem dX7_ahead_57 : decode cX7_ahead 57 = .ok (.if_icmp .gt 15, 3) := by decide +kernel
theorem dX7_ahead_60 : decode cX7_ahead 60 = .ok (.iload 4, 2) := by decide +kernel
theorem dX7_ahead_62 : decode cX7_ahead 62 = .ok (.ifCond .lt 10, 3) := by decide +kernel
theorem dX7_ahead_65 : decode cX7_ahead 65 = .ok (.iload 4, 2) := by decide +kernel
theorem dX7_ahead_67 : decode cX7_ahead 67 = .ok (.bipush 6, 2) := by decide +kernel
theorem dX7_ahead_69 : decode cX7_ahead 69 = .ok (.if_icmp .le 5, 3) := by decide +kernel
theorem dX7_ahead_72 : decode cX7_ahead 72 = .ok (.iconst (-1), 1) := by decide +kernel
theorem dX7_ahead_73 : decode cX7_ahead 73 = .ok (.ireturn, 1) := by decide +kernel
theorem dX7_ahead_74 : decode cX7_ahead 74 = .ok (.aload_n 0, 1) := by decide +kernel
theorem dX7_ahead_75 : decode cX7_ahead 75 = .ok (.getfield 29, 3) := by decide +kernel
theorem dX7_ahead_78 : decode cX7_ahead 78 = .ok (.bipush 7, 2) := by decide +kernel
theorem dX7_ahead_80 : decode cX7_ahead 80 = .ok (.iload_n 3, 1) := by decide +kernel
theorem dX7_ahead_81 : decode cX7_ahead 81 = .ok (.imul, 1) := by decide +kernel
theorem dX7_ahead_82 : decode cX7_ahead 82 = .ok (.iload 4, 2) := by decide +kernel
theorem dX7_ahead_84 : decode cX7_ahead 84 = .ok (.iadd, 1) := by decide +kernel
theorem dX7_ahead_85 : decode cX7_ahead 85 = .ok (.iaload, 1) := by decide +kernel
theorem dX7_ahead_86 : decode cX7_ahead 86 = .ok (.iconst 1, 1) := by decide +kernel
theorem dX7_ahead_87 : decode cX7_ahead 87 = .ok (.if_icmp .ne 7, 3) := by decide +kernel
theorem dX7_ahead_90 : decode cX7_ahead 90 = .ok (.iconst (-1), 1) := by decide +kernel
theorem dX7_ahead_91 : decode cX7_ahead 91 = .ok (.goto 10, 3) := by decide +kernel
theorem dX7_ahead_94 : decode cX7_ahead 94 = .ok (.bipush 7, 2) := by decide +kernel
theorem dX7_ahead_96 : decode cX7_ahead 96 = .ok (.iload_n 3, 1) := by decide +kernel
theorem dX7_ahead_97 : decode cX7_ahead 97 = .ok (.imul, 1) := by decide +kernel
theorem dX7_ahead_98 : decode cX7_ahead 98 = .ok (.iload 4, 2) := by decide +kernel
theorem dX7_ahead_100 : decode cX7_ahead 100 = .ok (.iadd, 1) := by decide +kernel
theorem dX7_ahead_101 : decode cX7_ahead 101 = .ok (.ireturn, 1) := by decide +kernel
theorem dX7_turns_0 : decode cX7_turns 0 = .ok (.iload_n 2, 1) := by decide +kernel
theorem dX7_turns_1 : decode cX7_turns 1 = .ok (.iconst 2, 1) := by decide +kernel
theorem dX7_turns_2 : decode cX7_turns 2 = .ok (.if_icmp .ne 7, 3) := by decide +kernel
theorem dX7_turns_5 : decode cX7_turns 5 = .ok (.iconst 2, 1) := by decide +kernel
theorem dX7_turns_6 : decode cX7_turns 6 = .ok (.goto 34, 3) := by decide +kernel
theorem dX7_turns_9 : decode cX7_turns 9 = .ok (.iload_n 2, 1) := by decide +kernel
theorem dX7_turns_10 : decode cX7_turns 10 = .ok (.ifCond .ne 7, 3) := by decide +kernel
theorem dX7_turns_13 : decode cX7_turns 13 = .ok (.iconst 1, 1) := by decide +kernel
theorem dX7_turns_14 : decode cX7_turns 14 = .ok (.goto 4, 3) := by decide +kernel
theorem dX7_turns_17 : decode cX7_turns 17 = .ok (.iconst 0, 1) := by decide +kernel
theorem dX7_turns_18 : decode cX7_turns 18 = .ok (.aload_n 0, 1) := by decide +kernel
theorem dX7_turns_19 : decode cX7_turns 19 = .ok (.getfield 50, 3) := by decide +kernel
theorem dX7_turns_22 : decode cX7_turns 22 = .ok (.iload_n 1, 1) := by decide +kernel
theorem dX7_turns_23 : decode cX7_turns 23 = .ok (.iaload, 1) := by decide +kernel
theorem dX7_turns_24 : decode cX7_turns 24 = .ok (.ifCond .ne 7, 3) := by decide +kernel
theorem dX7_turns_27 : decode cX7_turns 27 = .ok (.iconst 1, 1) := by decide +kernel
theorem dX7_turns_28 : decode cX7_turns 28 = .ok (.goto 4, 3) := by decide +kernel
theorem dX7_turns_31 : decode cX7_turns 31 = .ok (.iconst 0, 1) := by decide +kernel
theorem dX7_turns_32 : decode cX7_turns 32 = .ok (.if_icmp .ne 7, 3) := by decide +kernel
theorem dX7_turns_35 : decode cX7_turns 35 = .ok (.iconst 3, 1) := by decide +kernel
theorem dX7_turns_36 : decode cX7_turns 36 = .ok (.goto 4, 3) := by decide +kernel
theorem dX7_turns_39 : decode cX7_turns 39 = .ok (.iconst 1, 1) := by decide +kernel
theorem dX7_turns_40 : decode cX7_turns 40 = .ok (.istore_n 3, 1) := by decide +kernel
theorem dX7_turns_41 : decode cX7_turns 41 = .ok (.aload_n 0, 1) := by decide +kernel
theorem dX7_turns_42 : decode cX7_turns 42 = .ok (.getfield 41, 3) := by decide +kernel
theorem dX7_turns_45 : decode cX7_turns 45 = .ok (.iload_n 1, 1) := by decide +kernel
theorem dX7_turns_46 : decode cX7_turns 46 = .ok (.iaload, 1) := by decide +kernel
theorem dX7_turns_47 : decode cX7_turns 47 = .ok (.iload_n 3, 1) := by decide +kernel
theorem dX7_turns_48 : decode cX7_turns 48 = .ok (.iadd, 1) := by decide +kernel
theorem dX7_turns_49 : decode cX7_turns 49 = .ok (.iconst 4, 1) := by decide +kernel
theorem dX7_turns_50 : decode cX7_turns 50 = .ok (.irem, 1) := by decide +kernel
theorem dX7_turns_51 : decode cX7_turns 51 = .ok (.ireturn, 1) := by decide +kernel
theorem dX7_does_0 : decode cX7_does 0 = .ok (.aload_n 0, 1) := by decide +kernel
theorem dX7_does_1 : decode cX7_does 1 = .ok (.getfield 44, 3) := by decide +kernel
theorem dX7_does_4 : decode cX7_does 4 = .ok (.iload_n 1, 1) := by decide +kernel
theorem dX7_does_5 : decode cX7_does 5 = .ok (.iaload, 1) := by decide +kernel
theorem dX7_does_6 : decode cX7_does 6 = .ok (.istore_n 2, 1) := by decide +kernel
theorem dX7_does_7 : decode cX7_does 7 = .ok (.aload_n 0, 1) := by decide +kernel
theorem dX7_does_8 : decode cX7_does 8 = .ok (.getfield 20, 3) := by decide +kernel
theorem dX7_does_11 : decode cX7_does 11 = .ok (.bipush 8, 2) := by decide +kernel
theorem dX7_does_13 : decode cX7_does 13 = .ok (.iload_n 2, 1) := by decide +kernel
theorem dX7_does_14 : decode cX7_does 14 = .ok (.imul, 1) := by decide +kernel
theorem dX7_does_15 : decode cX7_does 15 = .ok (.aload_n 0, 1) := by decide +kernel
theorem dX7_does_16 : decode cX7_does 16 = .ok (.getfield 47, 3) := by decide +kernel
theorem dX7_does_19 : decode cX7_does 19 = .ok (.iload_n 1, 1) := by decide +kernel
theorem dX7_does_20 : decode cX7_does 20 = .ok (.iaload, 1) := by decide +kernel
theorem dX7_does_21 : decode cX7_does 21 = .ok (.iadd, 1) := by decide +kernel
theorem dX7_does_22 : decode cX7_does 22 = .ok (.iaload, 1) := by decide +kernel
theorem dX7_does_23 : decode cX7_does 23 = .ok (.istore_n 3, 1) := by decide +kernel
theorem dX7_does_24 : decode cX7_does 24 = .ok (.iload_n 3, 1) := by decide +kernel
theorem dX7_does_25 : decode cX7_does 25 = .ok (.ifCond .ne 58, 3) := by decide +kernel
theorem dX7_does_28 : decode cX7_does 28 = .ok (.aload_n 0, 1) := by decide +kernel
theorem dX7_does_29 : decode cX7_does 29 = .ok (.aload_n 0, 1) := by decide +kernel
theorem dX7_does_30 : decode cX7_does 30 = .ok (.getfield 38, 3) := by decide +kernel
theorem dX7_does_33 : decode cX7_does 33 = .ok (.iload_n 1, 1) := by decide +kernel
theorem dX7_does_34 : decode cX7_does 34 = .ok (.iaload, 1) := by decide +kernel
theorem dX7_does_35 : decode cX7_does 35 = .ok (.aload_n 0, 1) := by decide +kernel
theorem dX7_does_36 : decode cX7_does 36 = .ok (.getfield 41, 3) := by decide +kernel
theorem dX7_does_39 : decode cX7_does 39 = .ok (.iload_n 1, 1) := by decide +kernel
theorem dX7_does_40 : decode cX7_does 40 = .ok (.iaload, 1) := by decide +kernel
theorem dX7_does_41 : decode cX7_does 41 = .ok (.invokevirtual 258, 3) := by decide +kernel
theorem dX7_does_44 : decode cX7_does 44 = .ok (.istore 4, 2) := by decide +kernel
theorem dX7_does_46 : decode cX7_does 46 = .ok (.iload 4, 2) := by decide +kernel
theorem dX7_does_48 : decode cX7_does 48 = .ok (.iconst (-1), 1) := by decide +kernel
theorem dX7_does_49 : decode cX7_does 49 = .ok (.if_icmp .ne 23, 3) := by decide +kernel
theorem dX7_does_52 : decode cX7_does 52 = .ok (.aload_n 0, 1) := by decide +kernel
theorem dX7_does_53 : decode cX7_does 53 = .ok (.getfield 41, 3) := by decide +kernel
theorem dX7_does_56 : decode cX7_does 56 = .ok (.iload_n 1, 1) := by decide +kernel
theorem dX7_does_57 : decode cX7_does 57 = .ok (.aload_n 0, 1) := by decide +kernel
theorem dX7_does_58 : decode cX7_does 58 = .ok (.iload_n 1, 1) := by decide +kernel
theorem dX7_does_59 : decode cX7_does 59 = .ok (.aload_n 0, 1) := by decide +kernel
theorem dX7_does_60 : decode cX7_does 60 = .ok (.getfield 26, 3) := by decide +kernel
theorem dX7_does_63 : decode cX7_does 63 = .ok (.iload_n 2, 1) := by decide +kernel
theorem dX7_does_64 : decode cX7_does 64 = .ok (.iaload, 1) := by decide +kernel
theorem dX7_does_65 : decode cX7_does 65 = .ok (.invokevirtual 261, 3) := by decide +kernel
theorem dX7_does_68 : decode cX7_does 68 = .ok (.iastore, 1) := by decide +kernel
theorem dX7_does_69 : decode cX7_does 69 = .ok (.goto 11, 3) := by decide +kernel
theorem dX7_does_72 : decode cX7_does 72 = .ok (.aload_n 0, 1) := by decide +kernel
theorem dX7_does_73 : decode cX7_does 73 = .ok (.getfield 38, 3) := by decide +kernel
theorem dX7_does_76 : decode cX7_does 76 = .ok (.iload_n 1, 1) := by decide +kernel
theorem dX7_does_77 : decode cX7_does 77 = .ok (.iload 4, 2) := by decide +kernel
theorem dX7_does_79 : decode cX7_does 79 = .ok (.iastore, 1) := by decide +kernel
theorem dX7_does_80 : decode cX7_does 80 = .ok (.goto 22, 3) := by decide +kernel
theorem dX7_does_83 : decode cX7_does 83 = .ok (.iload_n 3, 1) := by decide +kernel
theorem dX7_does_84 : decode cX7_does 84 = .ok (.iconst 3, 1) := by decide +kernel
theorem dX7_does_85 : decode cX7_does 85 = .ok (.if_icmp .ge 17, 3) := by decide +kernel
theorem dX7_does_88 : decode cX7_does 88 = .ok (.aload_n 0, 1) := by decide +kernel
theorem dX7_does_89 : decode cX7_does 89 = .ok (.getfield 41, 3) := by decide +kernel
theorem dX7_does_92 : decode cX7_does 92 = .ok (.iload_n 1, 1) := by decide +kernel
theorem dX7_does_93 : decode cX7_does 93 = .ok (.aload_n 0, 1) := by decide +kernel
theorem dX7_does_94 : decode cX7_does 94 = .ok (.iload_n 1, 1) := by decide +kernel
theorem dX7_does_95 : decode cX7_does 95 = .ok (.iload_n 3, 1) := by decide +kernel
theorem dX7_does_96 : decode cX7_does 96 = .ok (.iconst 1, 1) := by decide +kernel
theorem dX7_does_97 : decode cX7_does 97 = .ok (.isub, 1) := by decide +kernel
theorem dX7_does_98 : decode cX7_does 98 = .ok (.invokevirtual 261, 3) := by decide +kernel
theorem dX7_does_101 : decode cX7_does 101 = .ok (.iastore, 1) := by decide +kernel
theorem dX7_does_102 : decode cX7_does 102 = .ok (.aload_n 0, 1) := by decide +kernel
theorem dX7_does_103 : decode cX7_does 103 = .ok (.getfield 47, 3) := by decide +kernel
theorem dX7_does_106 : decode cX7_does 106 = .ok (.iload_n 1, 1) := by decide +kernel
theorem dX7_does_107 : decode cX7_does 107 = .ok (.aload_n 0, 1) := by decide +kernel
theorem dX7_does_108 : decode cX7_does 108 = .ok (.getfield 47, 3) := by decide +kernel
theorem dX7_does_111 : decode cX7_does 111 = .ok (.iload_n 1, 1) := by decide +kernel
theorem dX7_does_112 : decode cX7_does 112 = .ok (.iaload, 1) := by decide +kernel
theorem dX7_does_113 : decode cX7_does 113 = .ok (.iconst 1, 1) := by decide +kernel
theorem dX7_does_114 : decode cX7_does 114 = .ok (.iadd, 1) := by decide +kernel
theorem dX7_does_115 : decode cX7_does 115 = .ok (.aload_n 0, 1) := by decide +kernel
theorem dX7_does_116 : decode cX7_does 116 = .ok (.getfield 23, 3) := by decide +kernel
theorem dX7_does_119 : decode cX7_does 119 = .ok (.iload_n 2, 1) := by decide +kernel
theorem dX7_does_120 : decode cX7_does 120 = .ok (.iaload, 1) := by decide +kernel
theorem dX7_does_121 : decode cX7_does 121 = .ok (.irem, 1) := by decide +kernel
theorem dX7_does_122 : decode cX7_does 122 = .ok (.iastore, 1) := by decide +kernel
theorem dX7_does_123 : decode cX7_does 123 = .ok (.return_, 1) := by decide +kernel
theorem dX7_takes_0 : decode cX7_takes 0 = .ok (.aload_n 0, 1) := by decide +kernel
theorem dX7_takes_1 : decode cX7_takes 1 = .ok (.getfield 32, 3) := by decide +kernel
theorem dX7_takes_4 : decode cX7_takes 4 = .ok (.iload_n 1, 1) := by decide +kernel
theorem dX7_takes_5 : decode cX7_takes 5 = .ok (.iaload, 1) := by decide +kernel
theorem dX7_takes_6 : decode cX7_takes 6 = .ok (.istore_n 3, 1) := by decide +kernel
theorem dX7_takes_7 : decode cX7_takes 7 = .ok (.iload_n 3, 1) := by decide +kernel
theorem dX7_takes_8 : decode cX7_takes 8 = .ok (.iconst 1, 1) := by decide +kernel
theorem dX7_takes_9 : decode cX7_takes 9 = .ok (.if_icmp .eq 13, 3) := by decide +kernel
theorem dX7_takes_12 : decode cX7_takes 12 = .ok (.iload_n 3, 1) := by decide +kernel
theorem dX7_takes_13 : decode cX7_takes 13 = .ok (.iconst 2, 1) := by decide +kernel
theorem dX7_takes_14 : decode cX7_takes 14 = .ok (.if_icmp .eq 8, 3) := by decide +kernel
theorem dX7_takes_17 : decode cX7_takes 17 = .ok (.iload_n 3, 1) := by decide +kernel
theorem dX7_takes_18 : decode cX7_takes 18 = .ok (.iconst 5, 1) := by decide +kernel
theorem dX7_takes_19 : decode cX7_takes 19 = .ok (.if_icmp .ne 5, 3) := by decide +kernel
theorem dX7_takes_22 : decode cX7_takes 22 = .ok (.iconst 0, 1) := by decide +kernel
theorem dX7_takes_23 : decode cX7_takes 23 = .ok (.ireturn, 1) := by decide +kernel
theorem dX7_takes_24 : decode cX7_takes 24 = .ok (.iload_n 3, 1) := by decide +kernel
theorem dX7_takes_25 : decode cX7_takes 25 = .ok (.bipush 6, 2) := by decide +kernel
theorem dX7_takes_27 : decode cX7_takes 27 = .ok (.if_icmp .ne 18, 3) := by decide +kernel
theorem dX7_takes_30 : decode cX7_takes 30 = .ok (.aload_n 0, 1) := by decide +kernel
theorem dX7_takes_31 : decode cX7_takes 31 = .ok (.getfield 105, 3) := by decide +kernel
theorem dX7_takes_34 : decode cX7_takes 34 = .ok (.iload_n 2, 1) := by decide +kernel
theorem dX7_takes_35 : decode cX7_takes 35 = .ok (.iaload, 1) := by decide +kernel
theorem dX7_takes_36 : decode cX7_takes 36 = .ok (.aload_n 0, 1) := by decide +kernel
theorem dX7_takes_37 : decode cX7_takes 37 = .ok (.getfield 105, 3) := by decide +kernel
theorem dX7_takes_40 : decode cX7_takes 40 = .ok (.iload_n 1, 1) := by decide +kernel
theorem dX7_takes_41 : decode cX7_takes 41 = .ok (.iaload, 1) := by decide +kernel
theorem dX7_takes_42 : decode cX7_takes 42 = .ok (.if_icmp .le 7, 3) := by decide +kernel
theorem dX7_takes_45 : decode cX7_takes 45 = .ok (.iconst 1, 1) := by decide +kernel
theorem dX7_takes_46 : decode cX7_takes 46 = .ok (.goto 4, 3) := by decide +kernel
theorem dX7_takes_49 : decode cX7_takes 49 = .ok (.iconst 0, 1) := by decide +kernel
theorem dX7_takes_50 : decode cX7_takes 50 = .ok (.ireturn, 1) := by decide +kernel
theorem dX7_gives_0 : decode cX7_gives 0 = .ok (.aload_n 0, 1) := by decide +kernel
theorem dX7_gives_1 : decode cX7_gives 1 = .ok (.getfield 32, 3) := by decide +kernel
theorem dX7_gives_4 : decode cX7_gives 4 = .ok (.iload_n 1, 1) := by decide +kernel
theorem dX7_gives_5 : decode cX7_gives 5 = .ok (.iaload, 1) := by decide +kernel
theorem dX7_gives_6 : decode cX7_gives 6 = .ok (.ifCond .eq 23, 3) := by decide +kernel
theorem dX7_gives_9 : decode cX7_gives 9 = .ok (.aload_n 0, 1) := by decide +kernel
theorem dX7_gives_10 : decode cX7_gives 10 = .ok (.getfield 32, 3) := by decide +kernel
theorem dX7_gives_13 : decode cX7_gives 13 = .ok (.iload_n 1, 1) := by decide +kernel
theorem dX7_gives_14 : decode cX7_gives 14 = .ok (.iaload, 1) := by decide +kernel
theorem dX7_gives_15 : decode cX7_gives 15 = .ok (.iconst 1, 1) := by decide +kernel
theorem dX7_gives_16 : decode cX7_gives 16 = .ok (.if_icmp .eq 13, 3) := by decide +kernel
theorem dX7_gives_19 : decode cX7_gives 19 = .ok (.aload_n 0, 1) := by decide +kernel
theorem dX7_gives_20 : decode cX7_gives 20 = .ok (.getfield 32, 3) := by decide +kernel
theorem dX7_gives_23 : decode cX7_gives 23 = .ok (.iload_n 1, 1) := by decide +kernel
theorem dX7_gives_24 : decode cX7_gives 24 = .ok (.iaload, 1) := by decide +kernel
theorem dX7_gives_25 : decode cX7_gives 25 = .ok (.iconst 5, 1) := by decide +kernel
theorem dX7_gives_26 : decode cX7_gives 26 = .ok (.if_icmp .ne 7, 3) := by decide +kernel
theorem dX7_gives_29 : decode cX7_gives 29 = .ok (.iconst 1, 1) := by decide +kernel
theorem dX7_gives_30 : decode cX7_gives 30 = .ok (.goto 4, 3) := by decide +kernel
theorem dX7_gives_33 : decode cX7_gives 33 = .ok (.iconst 0, 1) := by decide +kernel
theorem dX7_gives_34 : decode cX7_gives 34 = .ok (.ireturn, 1) := by decide +kernel
theorem dX7_nextOf_0 : decode cX7_nextOf 0 = .ok (.iconst 1, 1) := by decide +kernel
theorem dX7_nextOf_1 : decode cX7_nextOf 1 = .ok (.istore_n 2, 1) := by decide +kernel
theorem dX7_nextOf_2 : decode cX7_nextOf 2 = .ok (.iload_n 2, 1) := by decide +kernel
theorem dX7_nextOf_3 : decode cX7_nextOf 3 = .ok (.aload_n 0, 1) := by decide +kernel
theorem dX7_nextOf_4 : decode cX7_nextOf 4 = .ok (.getfield 126, 3) := by decide +kernel
theorem dX7_nextOf_7 : decode cX7_nextOf 7 = .ok (.if_icmp .ge 40, 3) := by decide +kernel
theorem dX7_nextOf_10 : decode cX7_nextOf 10 = .ok (.aload_n 0, 1) := by decide +kernel
theorem dX7_nextOf_11 : decode cX7_nextOf 11 = .ok (.getfield 38, 3) := by decide +kernel
theorem dX7_nextOf_14 : decode cX7_nextOf 14 = .ok (.iload_n 1, 1) := by decide +kernel
theorem dX7_nextOf_15 : decode cX7_nextOf 15 = .ok (.iload_n 2, 1) := by decide +kernel
theorem dX7_nextOf_16 : decode cX7_nextOf 16 = .ok (.iadd, 1) := by decide +kernel
theorem dX7_nextOf_17 : decode cX7_nextOf 17 = .ok (.aload_n 0, 1) := by decide +kernel
theorem dX7_nextOf_18 : decode cX7_nextOf 18 = .ok (.getfield 126, 3) := by decide +kernel
theorem dX7_nextOf_21 : decode cX7_nextOf 21 = .ok (.irem, 1) := by decide +kernel
theorem dX7_nextOf_22 : decode cX7_nextOf 22 = .ok (.iaload, 1) := by decide +kernel
theorem dX7_nextOf_23 : decode cX7_nextOf 23 = .ok (.aload_n 0, 1) := by decide +kernel
theorem dX7_nextOf_24 : decode cX7_nextOf 24 = .ok (.getfield 38, 3) := by decide +kernel
theorem dX7_nextOf_27 : decode cX7_nextOf 27 = .ok (.iload_n 1, 1) := by decide +kernel
theorem dX7_nextOf_28 : decode cX7_nextOf 28 = .ok (.iaload, 1) := by decide +kernel
theorem dX7_nextOf_29 : decode cX7_nextOf 29 = .ok (.if_icmp .ne 12, 3) := by decide +kernel
theorem dX7_nextOf_32 : decode cX7_nextOf 32 = .ok (.iload_n 1, 1) := by decide +kernel
theorem dX7_nextOf_33 : decode cX7_nextOf 33 = .ok (.iload_n 2, 1) := by decide +kernel
theorem dX7_nextOf_34 : decode cX7_nextOf 34 = .ok (.iadd, 1) := by decide +kernel
theorem dX7_nextOf_35 : decode cX7_nextOf 35 = .ok (.aload_n 0, 1) := by decide +kernel
theorem dX7_nextOf_36 : decode cX7_nextOf 36 = .ok (.getfield 126, 3) := by decide +kernel
theorem dX7_nextOf_39 : decode cX7_nextOf 39 = .ok (.irem, 1) := by decide +kernel
theorem dX7_nextOf_40 : decode cX7_nextOf 40 = .ok (.ireturn, 1) := by decide +kernel
theorem dX7_nextOf_41 : decode cX7_nextOf 41 = .ok (.iinc 2 1, 3) := by decide +kernel
theorem dX7_nextOf_44 : decode cX7_nextOf 44 = .ok (.goto (-42), 3) := by decide +kernel
theorem dX7_nextOf_47 : decode cX7_nextOf 47 = .ok (.iconst (-1), 1) := by decide +kernel
theorem dX7_nextOf_48 : decode cX7_nextOf 48 = .ok (.ireturn, 1) := by decide +kernel
theorem dX7_holdsStill_0 : decode cX7_holdsStill 0 = .ok (.iconst 0, 1) := by decide +kernel
theorem dX7_holdsStill_1 : decode cX7_holdsStill 1 = .ok (.istore_n 1, 1) := by decide +kernel
theorem dX7_holdsStill_2 : decode cX7_holdsStill 2 = .ok (.iload_n 1, 1) := by decide +kernel
theorem dX7_holdsStill_3 : decode cX7_holdsStill 3 = .ok (.aload_n 0, 1) := by decide +kernel
theorem dX7_holdsStill_4 : decode cX7_holdsStill 4 = .ok (.getfield 126, 3) := by decide +kernel
theorem dX7_holdsStill_7 : decode cX7_holdsStill 7 = .ok (.if_icmp .ge 57, 3) := by decide +kernel
theorem dX7_holdsStill_10 : decode cX7_holdsStill 10 = .ok (.aload_n 0, 1) := by decide +kernel
theorem dX7_holdsStill_11 : decode cX7_holdsStill 11 = .ok (.getfield 102, 3) := by decide +kernel
theorem dX7_holdsStill_14 : decode cX7_holdsStill 14 = .ok (.iload_n 1, 1) := by decide +kernel
theorem dX7_holdsStill_15 : decode cX7_holdsStill 15 = .ok (.aload_n 0, 1) := by decide +kernel
theorem dX7_holdsStill_16 : decode cX7_holdsStill 16 = .ok (.getfield 41, 3) := by decide +kernel
theorem dX7_holdsStill_19 : decode cX7_holdsStill 19 = .ok (.iload_n 1, 1) := by decide +kernel
theorem dX7_holdsStill_20 : decode cX7_holdsStill 20 = .ok (.iaload, 1) := by decide +kernel
theorem dX7_holdsStill_21 : decode cX7_holdsStill 21 = .ok (.iastore, 1) := by decide +kernel
theorem dX7_holdsStill_22 : decode cX7_holdsStill 22 = .ok (.aload_n 0, 1) := by decide +kernel
theorem dX7_holdsStill_23 : decode cX7_holdsStill 23 = .ok (.getfield 105, 3) := by decide +kernel
theorem dX7_holdsStill_26 : decode cX7_holdsStill 26 = .ok (.iload_n 1, 1) := by decide +kernel
theorem dX7_holdsStill_27 : decode cX7_holdsStill 27 = .ok (.aload_n 0, 1) := by decide +kernel
theorem dX7_holdsStill_28 : decode cX7_holdsStill 28 = .ok (.getfield 44, 3) := by decide +kernel
theorem dX7_holdsStill_31 : decode cX7_holdsStill 31 = .ok (.iload_n 1, 1) := by decide +kernel
theorem dX7_holdsStill_32 : decode cX7_holdsStill 32 = .ok (.iaload, 1) := by decide +kernel
theorem dX7_holdsStill_33 : decode cX7_holdsStill 33 = .ok (.iastore, 1) := by decide +kernel
theorem dX7_holdsStill_34 : decode cX7_holdsStill 34 = .ok (.aload_n 0, 1) := by decide +kernel
theorem dX7_holdsStill_35 : decode cX7_holdsStill 35 = .ok (.getfield 108, 3) := by decide +kernel
theorem dX7_holdsStill_38 : decode cX7_holdsStill 38 = .ok (.iload_n 1, 1) := by decide +kernel
theorem dX7_holdsStill_39 : decode cX7_holdsStill 39 = .ok (.aload_n 0, 1) := by decide +kernel
theorem dX7_holdsStill_40 : decode cX7_holdsStill 40 = .ok (.getfield 47, 3) := by decide +kernel
theorem dX7_holdsStill_43 : decode cX7_holdsStill 43 = .ok (.iload_n 1, 1) := by decide +kernel
theorem dX7_holdsStill_44 : decode cX7_holdsStill 44 = .ok (.iaload, 1) := by decide +kernel
theorem dX7_holdsStill_45 : decode cX7_holdsStill 45 = .ok (.iastore, 1) := by decide +kernel
theorem dX7_holdsStill_46 : decode cX7_holdsStill 46 = .ok (.aload_n 0, 1) := by decide +kernel
theorem dX7_holdsStill_47 : decode cX7_holdsStill 47 = .ok (.getfield 111, 3) := by decide +kernel
theorem dX7_holdsStill_50 : decode cX7_holdsStill 50 = .ok (.iload_n 1, 1) := by decide +kernel
theorem dX7_holdsStill_51 : decode cX7_holdsStill 51 = .ok (.aload_n 0, 1) := by decide +kernel
theorem dX7_holdsStill_52 : decode cX7_holdsStill 52 = .ok (.getfield 50, 3) := by decide +kernel
theorem dX7_holdsStill_55 : decode cX7_holdsStill 55 = .ok (.iload_n 1, 1) := by decide +kernel
theorem dX7_holdsStill_56 : decode cX7_holdsStill 56 = .ok (.iaload, 1) := by decide +kernel
theorem dX7_holdsStill_57 : decode cX7_holdsStill 57 = .ok (.iastore, 1) := by decide +kernel
theorem dX7_holdsStill_58 : decode cX7_holdsStill 58 = .ok (.iinc 1 1, 3) := by decide +kernel
theorem dX7_holdsStill_61 : decode cX7_holdsStill 61 = .ok (.goto (-59), 3) := by decide +kernel
theorem dX7_holdsStill_64 : decode cX7_holdsStill 64 = .ok (.return_, 1) := by decide +kernel
theorem dX7_takesOn_0 : decode cX7_takesOn 0 = .ok (.aload_n 0, 1) := by decide +kernel
theorem dX7_takesOn_1 : decode cX7_takesOn 1 = .ok (.getfield 44, 3) := by decide +kernel
theorem dX7_takesOn_4 : decode cX7_takesOn 4 = .ok (.iload_n 1, 1) := by decide +kernel
theorem dX7_takesOn_5 : decode cX7_takesOn 5 = .ok (.aload_n 0, 1) := by decide +kernel
theorem dX7_takesOn_6 : decode cX7_takesOn 6 = .ok (.getfield 105, 3) := by decide +kernel
theorem dX7_takesOn_9 : decode cX7_takesOn 9 = .ok (.iload_n 2, 1) := by decide +kernel
theorem dX7_takesOn_10 : decode cX7_takesOn 10 = .ok (.iaload, 1) := by decide +kernel
theorem dX7_takesOn_11 : decode cX7_takesOn 11 = .ok (.iastore, 1) := by decide +kernel
theorem dX7_takesOn_12 : decode cX7_takesOn 12 = .ok (.aload_n 0, 1) := by decide +kernel
theorem dX7_takesOn_13 : decode cX7_takesOn 13 = .ok (.getfield 47, 3) := by decide +kernel
theorem dX7_takesOn_16 : decode cX7_takesOn 16 = .ok (.iload_n 1, 1) := by decide +kernel
theorem dX7_takesOn_17 : decode cX7_takesOn 17 = .ok (.aload_n 0, 1) := by decide +kernel
theorem dX7_takesOn_18 : decode cX7_takesOn 18 = .ok (.getfield 108, 3) := by decide +kernel
theorem dX7_takesOn_21 : decode cX7_takesOn 21 = .ok (.iload_n 2, 1) := by decide +kernel
theorem dX7_takesOn_22 : decode cX7_takesOn 22 = .ok (.iaload, 1) := by decide +kernel
theorem dX7_takesOn_23 : decode cX7_takesOn 23 = .ok (.iastore, 1) := by decide +kernel
theorem dX7_takesOn_24 : decode cX7_takesOn 24 = .ok (.aload_n 0, 1) := by decide +kernel
theorem dX7_takesOn_25 : decode cX7_takesOn 25 = .ok (.getfield 50, 3) := by decide +kernel
theorem dX7_takesOn_28 : decode cX7_takesOn 28 = .ok (.iload_n 1, 1) := by decide +kernel
theorem dX7_takesOn_29 : decode cX7_takesOn 29 = .ok (.aload_n 0, 1) := by decide +kernel
theorem dX7_takesOn_30 : decode cX7_takesOn 30 = .ok (.getfield 32, 3) := by decide +kernel
theorem dX7_takesOn_33 : decode cX7_takesOn 33 = .ok (.iload_n 1, 1) := by decide +kernel
theorem dX7_takesOn_34 : decode cX7_takesOn 34 = .ok (.iaload, 1) := by decide +kernel
theorem dX7_takesOn_35 : decode cX7_takesOn 35 = .ok (.iconst 4, 1) := by decide +kernel
theorem dX7_takesOn_36 : decode cX7_takesOn 36 = .ok (.if_icmp .ne 14, 3) := by decide +kernel
theorem dX7_takesOn_39 : decode cX7_takesOn 39 = .ok (.iconst 1, 1) := by decide +kernel
theorem dX7_takesOn_40 : decode cX7_takesOn 40 = .ok (.aload_n 0, 1) := by decide +kernel
theorem dX7_takesOn_41 : decode cX7_takesOn 41 = .ok (.getfield 111, 3) := by decide +kernel
theorem dX7_takesOn_44 : decode cX7_takesOn 44 = .ok (.iload_n 2, 1) := by decide +kernel
theorem dX7_takesOn_45 : decode cX7_takesOn 45 = .ok (.iaload, 1) := by decide +kernel
theorem dX7_takesOn_46 : decode cX7_takesOn 46 = .ok (.isub, 1) := by decide +kernel
theorem dX7_takesOn_47 : decode cX7_takesOn 47 = .ok (.goto 9, 3) := by decide +kernel
theorem dX7_takesOn_50 : decode cX7_takesOn 50 = .ok (.aload_n 0, 1) := by decide +kernel
theorem dX7_takesOn_51 : decode cX7_takesOn 51 = .ok (.getfield 111, 3) := by decide +kernel
theorem dX7_takesOn_54 : decode cX7_takesOn 54 = .ok (.iload_n 2, 1) := by decide +kernel
theorem dX7_takesOn_55 : decode cX7_takesOn 55 = .ok (.iaload, 1) := by decide +kernel
theorem dX7_takesOn_56 : decode cX7_takesOn 56 = .ok (.iastore, 1) := by decide +kernel
theorem dX7_takesOn_57 : decode cX7_takesOn 57 = .ok (.return_, 1) := by decide +kernel
theorem dX7_beats1_0 : decode cX7_beats1 0 = .ok (.iconst 0, 1) := by decide +kernel
theorem dX7_beats1_1 : decode cX7_beats1 1 = .ok (.istore_n 1, 1) := by decide +kernel
theorem dX7_beats1_2 : decode cX7_beats1 2 = .ok (.iload_n 1, 1) := by decide +kernel
theorem dX7_beats1_3 : decode cX7_beats1 3 = .ok (.aload_n 0, 1) := by decide +kernel
theorem dX7_beats1_4 : decode cX7_beats1 4 = .ok (.getfield 126, 3) := by decide +kernel
theorem dX7_beats1_7 : decode cX7_beats1 7 = .ok (.if_icmp .ge 14, 3) := by decide +kernel
theorem dX7_beats1_10 : decode cX7_beats1 10 = .ok (.aload_n 0, 1) := by decide +kernel
theorem dX7_beats1_11 : decode cX7_beats1 11 = .ok (.iload_n 1, 1) := by decide +kernel
theorem dX7_beats1_12 : decode cX7_beats1 12 = .ok (.invokevirtual 264, 3) := by decide +kernel
theorem dX7_beats1_15 : decode cX7_beats1 15 = .ok (.iinc 1 1, 3) := by decide +kernel
theorem dX7_beats1_18 : decode cX7_beats1 18 = .ok (.goto (-16), 3) := by decide +kernel
theorem dX7_beats1_21 : decode cX7_beats1 21 = .ok (.aload_n 0, 1) := by decide +kernel
theorem dX7_beats1_22 : decode cX7_beats1 22 = .ok (.invokevirtual 268, 3) := by decide +kernel
theorem dX7_beats1_25 : decode cX7_beats1 25 = .ok (.iconst 0, 1) := by decide +kernel
theorem dX7_beats1_26 : decode cX7_beats1 26 = .ok (.istore_n 1, 1) := by decide +kernel
theorem dX7_beats1_27 : decode cX7_beats1 27 = .ok (.iconst 0, 1) := by decide +kernel
theorem dX7_beats1_28 : decode cX7_beats1 28 = .ok (.istore_n 2, 1) := by decide +kernel
theorem dX7_beats1_29 : decode cX7_beats1 29 = .ok (.iload_n 2, 1) := by decide +kernel
theorem dX7_beats1_30 : decode cX7_beats1 30 = .ok (.aload_n 0, 1) := by decide +kernel
theorem dX7_beats1_31 : decode cX7_beats1 31 = .ok (.getfield 126, 3) := by decide +kernel
theorem dX7_beats1_34 : decode cX7_beats1 34 = .ok (.if_icmp .ge 122, 3) := by decide +kernel
theorem dX7_beats1_37 : decode cX7_beats1 37 = .ok (.aload_n 0, 1) := by decide +kernel
theorem dX7_beats1_38 : decode cX7_beats1 38 = .ok (.iload_n 2, 1) := by decide +kernel
theorem dX7_beats1_39 : decode cX7_beats1 39 = .ok (.invokevirtual 271, 3) := by decide +kernel
theorem dX7_beats1_42 : decode cX7_beats1 42 = .ok (.istore_n 3, 1) := by decide +kernel
theorem dX7_beats1_43 : decode cX7_beats1 43 = .ok (.aload_n 0, 1) := by decide +kernel
theorem dX7_beats1_44 : decode cX7_beats1 44 = .ok (.getfield 114, 3) := by decide +kernel
theorem dX7_beats1_47 : decode cX7_beats1 47 = .ok (.iload_n 2, 1) := by decide +kernel
theorem dX7_beats1_48 : decode cX7_beats1 48 = .ok (.iload_n 3, 1) := by decide +kernel
theorem dX7_beats1_49 : decode cX7_beats1 49 = .ok (.iconst (-1), 1) := by decide +kernel
theorem dX7_beats1_50 : decode cX7_beats1 50 = .ok (.if_icmp .ne 7, 3) := by decide +kernel
theorem dX7_beats1_53 : decode cX7_beats1 53 = .ok (.iconst 0, 1) := by decide +kernel
theorem dX7_beats1_54 : decode cX7_beats1 54 = .ok (.goto 4, 3) := by decide +kernel
theorem dX7_beats1_57 : decode cX7_beats1 57 = .ok (.iconst 1, 1) := by decide +kernel
theorem dX7_beats1_58 : decode cX7_beats1 58 = .ok (.iastore, 1) := by decide +kernel
theorem dX7_beats1_59 : decode cX7_beats1 59 = .ok (.iload_n 3, 1) := by decide +kernel
theorem dX7_beats1_60 : decode cX7_beats1 60 = .ok (.iconst (-1), 1) := by decide +kernel
theorem dX7_beats1_61 : decode cX7_beats1 61 = .ok (.if_icmp .ne 6, 3) := by decide +kernel
theorem dX7_beats1_64 : decode cX7_beats1 64 = .ok (.goto 86, 3) := by decide +kernel
theorem dX7_beats1_67 : decode cX7_beats1 67 = .ok (.iconst 1, 1) := by decide +kernel
theorem dX7_beats1_68 : decode cX7_beats1 68 = .ok (.istore 4, 2) := by decide +kernel
theorem dX7_beats1_70 : decode cX7_beats1 70 = .ok (.iconst 0, 1) := by decide +kernel
theorem dX7_beats1_71 : decode cX7_beats1 71 = .ok (.istore 5, 2) := by decide +kernel
theorem dX7_beats1_73 : decode cX7_beats1 73 = .ok (.iload 5, 2) := by decide +kernel
theorem dX7_beats1_75 : decode cX7_beats1 75 = .ok (.iload_n 2, 1) := by decide +kernel
theorem dX7_beats1_76 : decode cX7_beats1 76 = .ok (.if_icmp .ge 28, 3) := by decide +kernel
theorem dX7_beats1_79 : decode cX7_beats1 79 = .ok (.aload_n 0, 1) := by decide +kernel
theorem dX7_beats1_80 : decode cX7_beats1 80 = .ok (.getfield 38, 3) := by decide +kernel
theorem dX7_beats1_83 : decode cX7_beats1 83 = .ok (.iload 5, 2) := by decide +kernel
theorem dX7_beats1_85 : decode cX7_beats1 85 = .ok (.iaload, 1) := by decide +kernel
theorem dX7_beats1_86 : decode cX7_beats1 86 = .ok (.aload_n 0, 1) := by decide +kernel
theorem dX7_beats1_87 : decode cX7_beats1 87 = .ok (.getfield 38, 3) := by decide +kernel
theorem dX7_beats1_90 : decode cX7_beats1 90 = .ok (.iload_n 2, 1) := by decide +kernel
theorem dX7_beats1_91 : decode cX7_beats1 91 = .ok (.iaload, 1) := by decide +kernel
theorem dX7_beats1_92 : decode cX7_beats1 92 = .ok (.if_icmp .ne 6, 3) := by decide +kernel
theorem dX7_beats1_95 : decode cX7_beats1 95 = .ok (.iconst 0, 1) := by decide +kernel
theorem dX7_beats1_96 : decode cX7_beats1 96 = .ok (.istore 4, 2) := by decide +kernel
theorem dX7_beats1_98 : decode cX7_beats1 98 = .ok (.iinc 5 1, 3) := by decide +kernel
theorem dX7_beats1_101 : decode cX7_beats1 101 = .ok (.goto (-28), 3) := by decide +kernel
theorem dX7_beats1_104 : decode cX7_beats1 104 = .ok (.iload 4, 2) := by decide +kernel
theorem dX7_beats1_106 : decode cX7_beats1 106 = .ok (.ifCond .eq 6, 3) := by decide +kernel
theorem dX7_beats1_109 : decode cX7_beats1 109 = .ok (.iinc 1 1, 3) := by decide +kernel
theorem dX7_beats1_112 : decode cX7_beats1 112 = .ok (.aload_n 0, 1) := by decide +kernel
theorem dX7_beats1_113 : decode cX7_beats1 113 = .ok (.iload_n 2, 1) := by decide +kernel
theorem dX7_beats1_114 : decode cX7_beats1 114 = .ok (.iload_n 3, 1) := by decide +kernel
theorem dX7_beats1_115 : decode cX7_beats1 115 = .ok (.invokevirtual 274, 3) := by decide +kernel
theorem dX7_beats1_118 : decode cX7_beats1 118 = .ok (.ifCond .eq 32, 3) := by decide +kernel
theorem dX7_beats1_121 : decode cX7_beats1 121 = .ok (.aload_n 0, 1) := by decide +kernel
theorem dX7_beats1_122 : decode cX7_beats1 122 = .ok (.iload_n 3, 1) := by decide +kernel
theorem dX7_beats1_123 : decode cX7_beats1 123 = .ok (.invokevirtual 277, 3) := by decide +kernel
theorem dX7_beats1_126 : decode cX7_beats1 126 = .ok (.ifCond .ne 6, 3) := by decide +kernel
theorem dX7_beats1_129 : decode cX7_beats1 129 = .ok (.goto 21, 3) := by decide +kernel
theorem dX7_beats1_132 : decode cX7_beats1 132 = .ok (.aload_n 0, 1) := by decide +kernel
theorem dX7_beats1_133 : decode cX7_beats1 133 = .ok (.iload_n 2, 1) := by decide +kernel
theorem dX7_beats1_134 : decode cX7_beats1 134 = .ok (.iload_n 3, 1) := by decide +kernel
theorem dX7_beats1_135 : decode cX7_beats1 135 = .ok (.invokevirtual 280, 3) := by decide +kernel
theorem dX7_beats1_138 : decode cX7_beats1 138 = .ok (.aload_n 0, 1) := by decide +kernel
theorem dX7_beats1_139 : decode cX7_beats1 139 = .ok (.getfield 41, 3) := by decide +kernel
theorem dX7_beats1_142 : decode cX7_beats1 142 = .ok (.iload_n 2, 1) := by decide +kernel
theorem dX7_beats1_143 : decode cX7_beats1 143 = .ok (.aload_n 0, 1) := by decide +kernel
theorem dX7_beats1_144 : decode cX7_beats1 144 = .ok (.getfield 102, 3) := by decide +kernel
theorem dX7_beats1_147 : decode cX7_beats1 147 = .ok (.iload_n 3, 1) := by decide +kernel
theorem dX7_beats1_148 : decode cX7_beats1 148 = .ok (.iaload, 1) := by decide +kernel
theorem dX7_beats1_149 : decode cX7_beats1 149 = .ok (.iastore, 1) := by decide +kernel
theorem dX7_beats1_150 : decode cX7_beats1 150 = .ok (.iinc 2 1, 3) := by decide +kernel
theorem dX7_beats1_153 : decode cX7_beats1 153 = .ok (.goto (-124), 3) := by decide +kernel
theorem dX7_beats1_156 : decode cX7_beats1 156 = .ok (.aload_n 0, 1) := by decide +kernel
theorem dX7_beats1_157 : decode cX7_beats1 157 = .ok (.invokevirtual 268, 3) := by decide +kernel
theorem dX7_beats1_160 : decode cX7_beats1 160 = .ok (.iconst 0, 1) := by decide +kernel
theorem dX7_beats1_161 : decode cX7_beats1 161 = .ok (.istore_n 2, 1) := by decide +kernel
theorem dX7_beats1_162 : decode cX7_beats1 162 = .ok (.iload_n 2, 1) := by decide +kernel
theorem dX7_beats1_163 : decode cX7_beats1 163 = .ok (.aload_n 0, 1) := by decide +kernel
theorem dX7_beats1_164 : decode cX7_beats1 164 = .ok (.getfield 126, 3) := by decide +kernel
theorem dX7_beats1_167 : decode cX7_beats1 167 = .ok (.if_icmp .ge 98, 3) := by decide +kernel
theorem dX7_beats1_170 : decode cX7_beats1 170 = .ok (.aload_n 0, 1) := by decide +kernel
theorem dX7_beats1_171 : decode cX7_beats1 171 = .ok (.getfield 114, 3) := by decide +kernel
theorem dX7_beats1_174 : decode cX7_beats1 174 = .ok (.iload_n 2, 1) := by decide +kernel
theorem dX7_beats1_175 : decode cX7_beats1 175 = .ok (.iaload, 1) := by decide +kernel
theorem dX7_beats1_176 : decode cX7_beats1 176 = .ok (.iconst 1, 1) := by decide +kernel
theorem dX7_beats1_177 : decode cX7_beats1 177 = .ok (.if_icmp .eq 82, 3) := by decide +kernel
theorem dX7_beats1_180 : decode cX7_beats1 180 = .ok (.aload_n 0, 1) := by decide +kernel
theorem dX7_beats1_181 : decode cX7_beats1 181 = .ok (.getfield 32, 3) := by decide +kernel
theorem dX7_beats1_184 : decode cX7_beats1 184 = .ok (.iload_n 2, 1) := by decide +kernel
theorem dX7_beats1_185 : decode cX7_beats1 185 = .ok (.iaload, 1) := by decide +kernel
theorem dX7_beats1_186 : decode cX7_beats1 186 = .ok (.iconst 5, 1) := by decide +kernel
theorem dX7_beats1_187 : decode cX7_beats1 187 = .ok (.if_icmp .ne 6, 3) := by decide +kernel
theorem dX7_beats1_190 : decode cX7_beats1 190 = .ok (.goto 69, 3) := by decide +kernel
theorem dX7_beats1_193 : decode cX7_beats1 193 = .ok (.iconst 0, 1) := by decide +kernel
theorem dX7_beats1_194 : decode cX7_beats1 194 = .ok (.istore_n 3, 1) := by decide +kernel
theorem dX7_beats1_195 : decode cX7_beats1 195 = .ok (.iload_n 3, 1) := by decide +kernel
theorem dX7_beats1_196 : decode cX7_beats1 196 = .ok (.aload_n 0, 1) := by decide +kernel
theorem dX7_beats1_197 : decode cX7_beats1 197 = .ok (.getfield 126, 3) := by decide +kernel
theorem dX7_beats1_200 : decode cX7_beats1 200 = .ok (.if_icmp .ge 59, 3) := by decide +kernel
theorem dX7_beats1_203 : decode cX7_beats1 203 = .ok (.aload_n 0, 1) := by decide +kernel
theorem dX7_beats1_204 : decode cX7_beats1 204 = .ok (.getfield 32, 3) := by decide +kernel
theorem dX7_beats1_207 : decode cX7_beats1 207 = .ok (.iload_n 3, 1) := by decide +kernel
theorem dX7_beats1_208 : decode cX7_beats1 208 = .ok (.iaload, 1) := by decide +kernel
theorem dX7_beats1_209 : decode cX7_beats1 209 = .ok (.iconst 5, 1) := by decide +kernel
theorem dX7_beats1_210 : decode cX7_beats1 210 = .ok (.if_icmp .ne 43, 3) := by decide +kernel
theorem dX7_beats1_213 : decode cX7_beats1 213 = .ok (.aload_n 0, 1) := by decide +kernel
theorem dX7_beats1_214 : decode cX7_beats1 214 = .ok (.aload_n 0, 1) := by decide +kernel
theorem dX7_beats1_215 : decode cX7_beats1 215 = .ok (.getfield 38, 3) := by decide +kernel
theorem dX7_beats1_218 : decode cX7_beats1 218 = .ok (.iload_n 3, 1) := by decide +kernel
theorem dX7_beats1_219 : decode cX7_beats1 219 = .ok (.iaload, 1) := by decide +kernel
theorem dX7_beats1_220 : decode cX7_beats1 220 = .ok (.aload_n 0, 1) := by decide +kernel
theorem dX7_beats1_221 : decode cX7_beats1 221 = .ok (.getfield 38, 3) := by decide +kernel
theorem dX7_beats1_224 : decode cX7_beats1 224 = .ok (.iload_n 2, 1) := by decide +kernel
theorem dX7_beats1_225 : decode cX7_beats1 225 = .ok (.iaload, 1) := by decide +kernel
theorem dX7_beats1_226 : decode cX7_beats1 226 = .ok (.invokevirtual 146, 3) := by decide +kernel
theorem dX7_beats1_229 : decode cX7_beats1 229 = .ok (.ifCond .eq 24, 3) := by decide +kernel
theorem dX7_beats1_232 : decode cX7_beats1 232 = .ok (.aload_n 0, 1) := by decide +kernel
theorem dX7_beats1_233 : decode cX7_beats1 233 = .ok (.iload_n 2, 1) := by decide +kernel
theorem dX7_beats1_234 : decode cX7_beats1 234 = .ok (.iload_n 3, 1) := by decide +kernel
theorem dX7_beats1_235 : decode cX7_beats1 235 = .ok (.invokevirtual 274, 3) := by decide +kernel
theorem dX7_beats1_238 : decode cX7_beats1 238 = .ok (.ifCond .ne 6, 3) := by decide +kernel
theorem dX7_beats1_241 : decode cX7_beats1 241 = .ok (.goto 12, 3) := by decide +kernel
theorem dX7_beats1_244 : decode cX7_beats1 244 = .ok (.aload_n 0, 1) := by decide +kernel
theorem dX7_beats1_245 : decode cX7_beats1 245 = .ok (.iload_n 2, 1) := by decide +kernel
theorem dX7_beats1_246 : decode cX7_beats1 246 = .ok (.iload_n 3, 1) := by decide +kernel
theorem dX7_beats1_247 : decode cX7_beats1 247 = .ok (.invokevirtual 280, 3) := by decide +kernel
theorem dX7_beats1_250 : decode cX7_beats1 250 = .ok (.goto 9, 3) := by decide +kernel
theorem dX7_beats1_253 : decode cX7_beats1 253 = .ok (.iinc 3 1, 3) := by decide +kernel
theorem dX7_beats1_256 : decode cX7_beats1 256 = .ok (.goto (-61), 3) := by decide +kernel
theorem dX7_beats1_259 : decode cX7_beats1 259 = .ok (.iinc 2 1, 3) := by decide +kernel
theorem dX7_beats1_262 : decode cX7_beats1 262 = .ok (.goto (-100), 3) := by decide +kernel
theorem dX7_beats1_265 : decode cX7_beats1 265 = .ok (.iload_n 1, 1) := by decide +kernel
theorem dX7_beats1_266 : decode cX7_beats1 266 = .ok (.ireturn, 1) := by decide +kernel
theorem dX7_begins_0 : decode cX7_begins 0 = .ok (.iconst 0, 1) := by decide +kernel
theorem dX7_begins_1 : decode cX7_begins 1 = .ok (.istore_n 1, 1) := by decide +kernel
theorem dX7_begins_2 : decode cX7_begins 2 = .ok (.iload_n 1, 1) := by decide +kernel
theorem dX7_begins_3 : decode cX7_begins 3 = .ok (.bipush 6, 2) := by decide +kernel
theorem dX7_begins_5 : decode cX7_begins 5 = .ok (.if_icmp .ge 69, 3) := by decide +kernel
theorem dX7_begins_8 : decode cX7_begins 8 = .ok (.aload_n 0, 1) := by decide +kernel
theorem dX7_begins_9 : decode cX7_begins 9 = .ok (.getfield 53, 3) := by decide +kernel
theorem dX7_begins_12 : decode cX7_begins 12 = .ok (.iload_n 1, 1) := by decide +kernel
theorem dX7_begins_13 : decode cX7_begins 13 = .ok (.aload_n 0, 1) := by decide +kernel
theorem dX7_begins_14 : decode cX7_begins 14 = .ok (.getfield 38, 3) := by decide +kernel
theorem dX7_begins_17 : decode cX7_begins 17 = .ok (.iload_n 1, 1) := by decide +kernel
theorem dX7_begins_18 : decode cX7_begins 18 = .ok (.iaload, 1) := by decide +kernel
theorem dX7_begins_19 : decode cX7_begins 19 = .ok (.iastore, 1) := by decide +kernel
theorem dX7_begins_20 : decode cX7_begins 20 = .ok (.aload_n 0, 1) := by decide +kernel
theorem dX7_begins_21 : decode cX7_begins 21 = .ok (.getfield 56, 3) := by decide +kernel
theorem dX7_begins_24 : decode cX7_begins 24 = .ok (.iload_n 1, 1) := by decide +kernel
theorem dX7_begins_25 : decode cX7_begins 25 = .ok (.aload_n 0, 1) := by decide +kernel
theorem dX7_begins_26 : decode cX7_begins 26 = .ok (.getfield 41, 3) := by decide +kernel
theorem dX7_begins_29 : decode cX7_begins 29 = .ok (.iload_n 1, 1) := by decide +kernel
theorem dX7_begins_30 : decode cX7_begins 30 = .ok (.iaload, 1) := by decide +kernel
theorem dX7_begins_31 : decode cX7_begins 31 = .ok (.iastore, 1) := by decide +kernel
theorem dX7_begins_32 : decode cX7_begins 32 = .ok (.aload_n 0, 1) := by decide +kernel
theorem dX7_begins_33 : decode cX7_begins 33 = .ok (.getfield 59, 3) := by decide +kernel
theorem dX7_begins_36 : decode cX7_begins 36 = .ok (.iload_n 1, 1) := by decide +kernel
theorem dX7_begins_37 : decode cX7_begins 37 = .ok (.aload_n 0, 1) := by decide +kernel
theorem dX7_begins_38 : decode cX7_begins 38 = .ok (.getfield 44, 3) := by decide +kernel
theorem dX7_begins_41 : decode cX7_begins 41 = .ok (.iload_n 1, 1) := by decide +kernel
theorem dX7_begins_42 : decode cX7_begins 42 = .ok (.iaload, 1) := by decide +kernel
theorem dX7_begins_43 : decode cX7_begins 43 = .ok (.iastore, 1) := by decide +kernel
theorem dX7_begins_44 : decode cX7_begins 44 = .ok (.aload_n 0, 1) := by decide +kernel
theorem dX7_begins_45 : decode cX7_begins 45 = .ok (.getfield 62, 3) := by decide +kernel
theorem dX7_begins_48 : decode cX7_begins 48 = .ok (.iload_n 1, 1) := by decide +kernel
theorem dX7_begins_49 : decode cX7_begins 49 = .ok (.aload_n 0, 1) := by decide +kernel
theorem dX7_begins_50 : decode cX7_begins 50 = .ok (.getfield 47, 3) := by decide +kernel
theorem dX7_begins_53 : decode cX7_begins 53 = .ok (.iload_n 1, 1) := by decide +kernel
theorem dX7_begins_54 : decode cX7_begins 54 = .ok (.iaload, 1) := by decide +kernel
theorem dX7_begins_55 : decode cX7_begins 55 = .ok (.iastore, 1) := by decide +kernel
theorem dX7_begins_56 : decode cX7_begins 56 = .ok (.aload_n 0, 1) := by decide +kernel
theorem dX7_begins_57 : decode cX7_begins 57 = .ok (.getfield 65, 3) := by decide +kernel
theorem dX7_begins_60 : decode cX7_begins 60 = .ok (.iload_n 1, 1) := by decide +kernel
theorem dX7_begins_61 : decode cX7_begins 61 = .ok (.aload_n 0, 1) := by decide +kernel
theorem dX7_begins_62 : decode cX7_begins 62 = .ok (.getfield 50, 3) := by decide +kernel
theorem dX7_begins_65 : decode cX7_begins 65 = .ok (.iload_n 1, 1) := by decide +kernel
theorem dX7_begins_66 : decode cX7_begins 66 = .ok (.iaload, 1) := by decide +kernel
theorem dX7_begins_67 : decode cX7_begins 67 = .ok (.iastore, 1) := by decide +kernel
theorem dX7_begins_68 : decode cX7_begins 68 = .ok (.iinc 1 1, 3) := by decide +kernel
theorem dX7_begins_71 : decode cX7_begins 71 = .ok (.goto (-69), 3) := by decide +kernel
theorem dX7_begins_74 : decode cX7_begins 74 = .ok (.return_, 1) := by decide +kernel
theorem dX7_backAgain_0 : decode cX7_backAgain 0 = .ok (.iconst 0, 1) := by decide +kernel
theorem dX7_backAgain_1 : decode cX7_backAgain 1 = .ok (.istore_n 1, 1) := by decide +kernel
theorem dX7_backAgain_2 : decode cX7_backAgain 2 = .ok (.iload_n 1, 1) := by decide +kernel
theorem dX7_backAgain_3 : decode cX7_backAgain 3 = .ok (.bipush 6, 2) := by decide +kernel
theorem dX7_backAgain_5 : decode cX7_backAgain 5 = .ok (.if_icmp .ge 69, 3) := by decide +kernel
theorem dX7_backAgain_8 : decode cX7_backAgain 8 = .ok (.aload_n 0, 1) := by decide +kernel
theorem dX7_backAgain_9 : decode cX7_backAgain 9 = .ok (.getfield 38, 3) := by decide +kernel
theorem dX7_backAgain_12 : decode cX7_backAgain 12 = .ok (.iload_n 1, 1) := by decide +kernel
theorem dX7_backAgain_13 : decode cX7_backAgain 13 = .ok (.aload_n 0, 1) := by decide +kernel
theorem dX7_backAgain_14 : decode cX7_backAgain 14 = .ok (.getfield 53, 3) := by decide +kernel
theorem dX7_backAgain_17 : decode cX7_backAgain 17 = .ok (.iload_n 1, 1) := by decide +kernel
theorem dX7_backAgain_18 : decode cX7_backAgain 18 = .ok (.iaload, 1) := by decide +kernel
theorem dX7_backAgain_19 : decode cX7_backAgain 19 = .ok (.iastore, 1) := by decide +kernel
theorem dX7_backAgain_20 : decode cX7_backAgain 20 = .ok (.aload_n 0, 1) := by decide +kernel
theorem dX7_backAgain_21 : decode cX7_backAgain 21 = .ok (.getfield 41, 3) := by decide +kernel
theorem dX7_backAgain_24 : decode cX7_backAgain 24 = .ok (.iload_n 1, 1) := by decide +kernel
theorem dX7_backAgain_25 : decode cX7_backAgain 25 = .ok (.aload_n 0, 1) := by decide +kernel
theorem dX7_backAgain_26 : decode cX7_backAgain 26 = .ok (.getfield 56, 3) := by decide +kernel
theorem dX7_backAgain_29 : decode cX7_backAgain 29 = .ok (.iload_n 1, 1) := by decide +kernel
theorem dX7_backAgain_30 : decode cX7_backAgain 30 = .ok (.iaload, 1) := by decide +kernel
theorem dX7_backAgain_31 : decode cX7_backAgain 31 = .ok (.iastore, 1) := by decide +kernel
theorem dX7_backAgain_32 : decode cX7_backAgain 32 = .ok (.aload_n 0, 1) := by decide +kernel
theorem dX7_backAgain_33 : decode cX7_backAgain 33 = .ok (.getfield 44, 3) := by decide +kernel
theorem dX7_backAgain_36 : decode cX7_backAgain 36 = .ok (.iload_n 1, 1) := by decide +kernel
theorem dX7_backAgain_37 : decode cX7_backAgain 37 = .ok (.aload_n 0, 1) := by decide +kernel
theorem dX7_backAgain_38 : decode cX7_backAgain 38 = .ok (.getfield 59, 3) := by decide +kernel
theorem dX7_backAgain_41 : decode cX7_backAgain 41 = .ok (.iload_n 1, 1) := by decide +kernel
theorem dX7_backAgain_42 : decode cX7_backAgain 42 = .ok (.iaload, 1) := by decide +kernel
theorem dX7_backAgain_43 : decode cX7_backAgain 43 = .ok (.iastore, 1) := by decide +kernel
theorem dX7_backAgain_44 : decode cX7_backAgain 44 = .ok (.aload_n 0, 1) := by decide +kernel
theorem dX7_backAgain_45 : decode cX7_backAgain 45 = .ok (.getfield 47, 3) := by decide +kernel
theorem dX7_backAgain_48 : decode cX7_backAgain 48 = .ok (.iload_n 1, 1) := by decide +kernel
theorem dX7_backAgain_49 : decode cX7_backAgain 49 = .ok (.aload_n 0, 1) := by decide +kernel
theorem dX7_backAgain_50 : decode cX7_backAgain 50 = .ok (.getfield 62, 3) := by decide +kernel
theorem dX7_backAgain_53 : decode cX7_backAgain 53 = .ok (.iload_n 1, 1) := by decide +kernel
theorem dX7_backAgain_54 : decode cX7_backAgain 54 = .ok (.iaload, 1) := by decide +kernel
theorem dX7_backAgain_55 : decode cX7_backAgain 55 = .ok (.iastore, 1) := by decide +kernel
theorem dX7_backAgain_56 : decode cX7_backAgain 56 = .ok (.aload_n 0, 1) := by decide +kernel
theorem dX7_backAgain_57 : decode cX7_backAgain 57 = .ok (.getfield 50, 3) := by decide +kernel
theorem dX7_backAgain_60 : decode cX7_backAgain 60 = .ok (.iload_n 1, 1) := by decide +kernel
theorem dX7_backAgain_61 : decode cX7_backAgain 61 = .ok (.aload_n 0, 1) := by decide +kernel
theorem dX7_backAgain_62 : decode cX7_backAgain 62 = .ok (.getfield 65, 3) := by decide +kernel
theorem dX7_backAgain_65 : decode cX7_backAgain 65 = .ok (.iload_n 1, 1) := by decide +kernel
theorem dX7_backAgain_66 : decode cX7_backAgain 66 = .ok (.iaload, 1) := by decide +kernel
theorem dX7_backAgain_67 : decode cX7_backAgain 67 = .ok (.iastore, 1) := by decide +kernel
theorem dX7_backAgain_68 : decode cX7_backAgain 68 = .ok (.iinc 1 1, 3) := by decide +kernel
theorem dX7_backAgain_71 : decode cX7_backAgain 71 = .ok (.goto (-69), 3) := by decide +kernel
theorem dX7_backAgain_74 : decode cX7_backAgain 74 = .ok (.return_, 1) := by decide +kernel
theorem dX7_go_0 : decode cX7_go 0 = .ok (.iconst 0, 1) := by decide +kernel
theorem dX7_go_1 : decode cX7_go 1 = .ok (.istore_n 2, 1) := by decide +kernel
theorem dX7_go_2 : decode cX7_go 2 = .ok (.iconst 0, 1) := by decide +kernel
theorem dX7_go_3 : decode cX7_go 3 = .ok (.istore_n 3, 1) := by decide +kernel
theorem dX7_go_4 : decode cX7_go 4 = .ok (.iload_n 3, 1) := by decide +kernel
theorem dX7_go_5 : decode cX7_go 5 = .ok (.iload_n 1, 1) := by decide +kernel
theorem dX7_go_6 : decode cX7_go 6 = .ok (.if_icmp .ge 16, 3) := by decide +kernel
theorem dX7_go_9 : decode cX7_go 9 = .ok (.iload_n 2, 1) := by decide +kernel
theorem dX7_go_10 : decode cX7_go 10 = .ok (.aload_n 0, 1) := by decide +kernel
theorem dX7_go_11 : decode cX7_go 11 = .ok (.invokevirtual 284, 3) := by decide +kernel
theorem dX7_go_14 : decode cX7_go 14 = .ok (.iadd, 1) := by decide +kernel
theorem dX7_go_15 : decode cX7_go 15 = .ok (.istore_n 2, 1) := by decide +kernel
theorem dX7_go_16 : decode cX7_go 16 = .ok (.iinc 3 1, 3) := by decide +kernel
theorem dX7_go_19 : decode cX7_go 19 = .ok (.goto (-15), 3) := by decide +kernel
theorem dX7_go_22 : decode cX7_go 22 = .ok (.iload_n 2, 1) := by decide +kernel
theorem dX7_go_23 : decode cX7_go 23 = .ok (.ireturn, 1) := by decide +kernel
theorem dX7_isBeats_0 : decode cX7_isBeats 0 = .ok (.iload_n 1, 1) := by decide +kernel
theorem dX7_isBeats_1 : decode cX7_isBeats 1 = .ok (.ifCond .lt 14, 3) := by decide +kernel
theorem dX7_isBeats_4 : decode cX7_isBeats 4 = .ok (.iload_n 1, 1) := by decide +kernel
theorem dX7_isBeats_5 : decode cX7_isBeats 5 = .ok (.sipush 400, 3) := by decide +kernel
theorem dX7_isBeats_8 : decode cX7_isBeats 8 = .ok (.if_icmp .gt 7, 3) := by decide +kernel
theorem dX7_isBeats_11 : decode cX7_isBeats 11 = .ok (.iconst 1, 1) := by decide +kernel
theorem dX7_isBeats_12 : decode cX7_isBeats 12 = .ok (.goto 4, 3) := by decide +kernel
theorem dX7_isBeats_15 : decode cX7_isBeats 15 = .ok (.iconst 0, 1) := by decide +kernel
theorem dX7_isBeats_16 : decode cX7_isBeats 16 = .ok (.ireturn, 1) := by decide +kernel
theorem dX7_at_0 : decode cX7_at 0 = .ok (.aload_n 0, 1) := by decide +kernel
theorem dX7_at_1 : decode cX7_at 1 = .ok (.iload_n 2, 1) := by decide +kernel
theorem dX7_at_2 : decode cX7_at 2 = .ok (.invokevirtual 140, 3) := by decide +kernel
theorem dX7_at_5 : decode cX7_at 5 = .ok (.ifCond .ne 9, 3) := by decide +kernel
theorem dX7_at_8 : decode cX7_at 8 = .ok (.aload_n 0, 1) := by decide +kernel
theorem dX7_at_9 : decode cX7_at 9 = .ok (.iconst (-1), 1) := by decide +kernel
theorem dX7_at_10 : decode cX7_at 10 = .ok (.invokevirtual 136, 3) := by decide +kernel
theorem dX7_at_13 : decode cX7_at 13 = .ok (.ireturn, 1) := by decide +kernel
theorem dX7_at_14 : decode cX7_at 14 = .ok (.iload_n 3, 1) := by decide +kernel
theorem dX7_at_15 : decode cX7_at 15 = .ok (.ifCond .lt 8, 3) := by decide +kernel
theorem dX7_at_18 : decode cX7_at 18 = .ok (.iload_n 3, 1) := by decide +kernel
theorem dX7_at_19 : decode cX7_at 19 = .ok (.iconst 4, 1) := by decide +kernel
theorem dX7_at_20 : decode cX7_at 20 = .ok (.if_icmp .le 10, 3) := by decide +kernel
theorem dX7_at_23 : decode cX7_at 23 = .ok (.aload_n 0, 1) := by decide +kernel
theorem dX7_at_24 : decode cX7_at 24 = .ok (.bipush (-5), 2) := by decide +kernel
theorem dX7_at_26 : decode cX7_at 26 = .ok (.invokevirtual 136, 3) := by decide +kernel
theorem dX7_at_29 : decode cX7_at 29 = .ok (.ireturn, 1) := by decide +kernel
theorem dX7_at_30 : decode cX7_at 30 = .ok (.aload_n 0, 1) := by decide +kernel
theorem dX7_at_31 : decode cX7_at 31 = .ok (.iload_n 1, 1) := by decide +kernel
theorem dX7_at_32 : decode cX7_at 32 = .ok (.invokevirtual 287, 3) := by decide +kernel
theorem dX7_at_35 : decode cX7_at 35 = .ok (.ifCond .ne 10, 3) := by decide +kernel
theorem dX7_at_38 : decode cX7_at 38 = .ok (.aload_n 0, 1) := by decide +kernel
theorem dX7_at_39 : decode cX7_at 39 = .ok (.bipush (-6), 2) := by decide +kernel
theorem dX7_at_41 : decode cX7_at 41 = .ok (.invokevirtual 136, 3) := by decide +kernel
theorem dX7_at_44 : decode cX7_at 44 = .ok (.ireturn, 1) := by decide +kernel
theorem dX7_at_45 : decode cX7_at 45 = .ok (.aload_n 0, 1) := by decide +kernel
theorem dX7_at_46 : decode cX7_at 46 = .ok (.invokevirtual 290, 3) := by decide +kernel
theorem dX7_at_49 : decode cX7_at 49 = .ok (.aload_n 0, 1) := by decide +kernel
theorem dX7_at_50 : decode cX7_at 50 = .ok (.iload_n 1, 1) := by decide +kernel
theorem dX7_at_51 : decode cX7_at 51 = .ok (.invokevirtual 293, 3) := by decide +kernel
theorem dX7_at_54 : decode cX7_at 54 = .ok (.pop, 1) := by decide +kernel
theorem dX7_at_55 : decode cX7_at 55 = .ok (.aload_n 0, 1) := by decide +kernel
theorem dX7_at_56 : decode cX7_at 56 = .ok (.iload_n 2, 1) := by decide +kernel
theorem dX7_at_57 : decode cX7_at 57 = .ok (.iload_n 3, 1) := by decide +kernel
theorem dX7_at_58 : decode cX7_at 58 = .ok (.invokevirtual 174, 3) := by decide +kernel
theorem dX7_at_61 : decode cX7_at 61 = .ok (.istore 4, 2) := by decide +kernel
theorem dX7_at_63 : decode cX7_at 63 = .ok (.aload_n 0, 1) := by decide +kernel
theorem dX7_at_64 : decode cX7_at 64 = .ok (.invokevirtual 296, 3) := by decide +kernel
theorem dX7_at_67 : decode cX7_at 67 = .ok (.iload 4, 2) := by decide +kernel
theorem dX7_at_69 : decode cX7_at 69 = .ok (.ireturn, 1) := by decide +kernel
theorem dX7_having_0 : decode cX7_having 0 = .ok (.iconst 0, 1) := by decide +kernel
theorem dX7_having_1 : decode cX7_having 1 = .ok (.istore_n 2, 1) := by decide +kernel
theorem dX7_having_2 : decode cX7_having 2 = .ok (.iconst 0, 1) := by decide +kernel
theorem dX7_having_3 : decode cX7_having 3 = .ok (.istore_n 3, 1) := by decide +kernel
theorem dX7_having_4 : decode cX7_having 4 = .ok (.iload_n 3, 1) := by decide +kernel
theorem dX7_having_5 : decode cX7_having 5 = .ok (.aload_n 0, 1) := by decide +kernel
theorem dX7_having_6 : decode cX7_having 6 = .ok (.getfield 126, 3) := by decide +kernel
theorem dX7_having_9 : decode cX7_having 9 = .ok (.if_icmp .ge 25, 3) := by decide +kernel
theorem dX7_having_12 : decode cX7_having 12 = .ok (.aload_n 0, 1) := by decide +kernel
theorem dX7_having_13 : decode cX7_having 13 = .ok (.getfield 44, 3) := by decide +kernel
theorem dX7_having_16 : decode cX7_having 16 = .ok (.iload_n 3, 1) := by decide +kernel
theorem dX7_having_17 : decode cX7_having 17 = .ok (.iaload, 1) := by decide +kernel
theorem dX7_having_18 : decode cX7_having 18 = .ok (.iload_n 1, 1) := by decide +kernel
theorem dX7_having_19 : decode cX7_having 19 = .ok (.if_icmp .ne 9, 3) := by decide +kernel
theorem dX7_having_22 : decode cX7_having 22 = .ok (.iload_n 2, 1) := by decide +kernel
theorem dX7_having_23 : decode cX7_having 23 = .ok (.iconst 1, 1) := by decide +kernel
theorem dX7_having_24 : decode cX7_having 24 = .ok (.iload_n 3, 1) := by decide +kernel
theorem dX7_having_25 : decode cX7_having 25 = .ok (.ishl, 1) := by decide +kernel
theorem dX7_having_26 : decode cX7_having 26 = .ok (.ior, 1) := by decide +kernel
theorem dX7_having_27 : decode cX7_having 27 = .ok (.istore_n 2, 1) := by decide +kernel
theorem dX7_having_28 : decode cX7_having 28 = .ok (.iinc 3 1, 3) := by decide +kernel
theorem dX7_having_31 : decode cX7_having 31 = .ok (.goto (-27), 3) := by decide +kernel
theorem dX7_having_34 : decode cX7_having 34 = .ok (.iload_n 2, 1) := by decide +kernel
theorem dX7_having_35 : decode cX7_having 35 = .ok (.ireturn, 1) := by decide +kernel
theorem dX7_have_0 : decode cX7_have 0 = .ok (.aload_n 0, 1) := by decide +kernel
theorem dX7_have_1 : decode cX7_have 1 = .ok (.iload_n 2, 1) := by decide +kernel
theorem dX7_have_2 : decode cX7_have 2 = .ok (.invokevirtual 161, 3) := by decide +kernel
theorem dX7_have_5 : decode cX7_have 5 = .ok (.ifCond .ne 9, 3) := by decide +kernel
theorem dX7_have_8 : decode cX7_have 8 = .ok (.aload_n 0, 1) := by decide +kernel
theorem dX7_have_9 : decode cX7_have 9 = .ok (.iconst (-1), 1) := by decide +kernel
theorem dX7_have_10 : decode cX7_have 10 = .ok (.invokevirtual 136, 3) := by decide +kernel
theorem dX7_have_13 : decode cX7_have 13 = .ok (.ireturn, 1) := by decide +kernel
theorem dX7_have_14 : decode cX7_have 14 = .ok (.aload_n 0, 1) := by decide +kernel
theorem dX7_have_15 : decode cX7_have 15 = .ok (.iload_n 1, 1) := by decide +kernel
theorem dX7_have_16 : decode cX7_have 16 = .ok (.invokevirtual 287, 3) := by decide +kernel
theorem dX7_have_19 : decode cX7_have 19 = .ok (.ifCond .ne 10, 3) := by decide +kernel
theorem dX7_have_22 : decode cX7_have 22 = .ok (.aload_n 0, 1) := by decide +kernel
theorem dX7_have_23 : decode cX7_have 23 = .ok (.bipush (-6), 2) := by decide +kernel
theorem dX7_have_25 : decode cX7_have 25 = .ok (.invokevirtual 136, 3) := by decide +kernel
theorem dX7_have_28 : decode cX7_have 28 = .ok (.ireturn, 1) := by decide +kernel
theorem dX7_have_29 : decode cX7_have 29 = .ok (.aload_n 0, 1) := by decide +kernel
theorem dX7_have_30 : decode cX7_have 30 = .ok (.invokevirtual 290, 3) := by decide +kernel
theorem dX7_have_33 : decode cX7_have 33 = .ok (.aload_n 0, 1) := by decide +kernel
theorem dX7_have_34 : decode cX7_have 34 = .ok (.iload_n 1, 1) := by decide +kernel
theorem dX7_have_35 : decode cX7_have 35 = .ok (.invokevirtual 293, 3) := by decide +kernel
theorem dX7_have_38 : decode cX7_have 38 = .ok (.pop, 1) := by decide +kernel
theorem dX7_have_39 : decode cX7_have 39 = .ok (.aload_n 0, 1) := by decide +kernel
theorem dX7_have_40 : decode cX7_have 40 = .ok (.iload_n 2, 1) := by decide +kernel
theorem dX7_have_41 : decode cX7_have 41 = .ok (.invokevirtual 299, 3) := by decide +kernel
theorem dX7_have_44 : decode cX7_have 44 = .ok (.istore_n 3, 1) := by decide +kernel
theorem dX7_have_45 : decode cX7_have 45 = .ok (.aload_n 0, 1) := by decide +kernel
theorem dX7_have_46 : decode cX7_have 46 = .ok (.invokevirtual 296, 3) := by decide +kernel
theorem dX7_have_49 : decode cX7_have 49 = .ok (.iload_n 3, 1) := by decide +kernel
theorem dX7_have_50 : decode cX7_have 50 = .ok (.ireturn, 1) := by decide +kernel
theorem dX7_survives_0 : decode cX7_survives 0 = .ok (.aload_n 0, 1) := by decide +kernel
theorem dX7_survives_1 : decode cX7_survives 1 = .ok (.iload_n 1, 1) := by decide +kernel
theorem dX7_survives_2 : decode cX7_survives 2 = .ok (.invokevirtual 287, 3) := by decide +kernel
theorem dX7_survives_5 : decode cX7_survives 5 = .ok (.ifCond .ne 10, 3) := by decide +kernel
theorem dX7_survives_8 : decode cX7_survives 8 = .ok (.aload_n 0, 1) := by decide +kernel
theorem dX7_survives_9 : decode cX7_survives 9 = .ok (.bipush (-6), 2) := by decide +kernel
theorem dX7_survives_11 : decode cX7_survives 11 = .ok (.invokevirtual 136, 3) := by decide +kernel
theorem dX7_survives_14 : decode cX7_survives 14 = .ok (.ireturn, 1) := by decide +kernel
theorem dX7_survives_15 : decode cX7_survives 15 = .ok (.aload_n 0, 1) := by decide +kernel
theorem dX7_survives_16 : decode cX7_survives 16 = .ok (.invokevirtual 290, 3) := by decide +kernel
theorem dX7_survives_19 : decode cX7_survives 19 = .ok (.aload_n 0, 1) := by decide +kernel
theorem dX7_survives_20 : decode cX7_survives 20 = .ok (.iload_n 1, 1) := by decide +kernel
theorem dX7_survives_21 : decode cX7_survives 21 = .ok (.invokevirtual 293, 3) := by decide +kernel
theorem dX7_survives_24 : decode cX7_survives 24 = .ok (.pop, 1) := by decide +kernel
theorem dX7_survives_25 : decode cX7_survives 25 = .ok (.iconst 0, 1) := by decide +kernel
theorem dX7_survives_26 : decode cX7_survives 26 = .ok (.istore_n 2, 1) := by decide +kernel
theorem dX7_survives_27 : decode cX7_survives 27 = .ok (.iconst 0, 1) := by decide +kernel
theorem dX7_survives_28 : decode cX7_survives 28 = .ok (.istore_n 3, 1) := by decide +kernel
theorem dX7_survives_29 : decode cX7_survives 29 = .ok (.iload_n 3, 1) := by decide +kernel
theorem dX7_survives_30 : decode cX7_survives 30 = .ok (.aload_n 0, 1) := by decide +kernel
theorem dX7_survives_31 : decode cX7_survives 31 = .ok (.getfield 126, 3) := by decide +kernel
theorem dX7_survives_34 : decode cX7_survives 34 = .ok (.if_icmp .ge 20, 3) := by decide +kernel
theorem dX7_survives_37 : decode cX7_survives 37 = .ok (.iload_n 2, 1) := by decide +kernel
theorem dX7_survives_38 : decode cX7_survives 38 = .ok (.iconst 1, 1) := by decide +kernel
theorem dX7_survives_39 : decode cX7_survives 39 = .ok (.aload_n 0, 1) := by decide +kernel
theorem dX7_survives_40 : decode cX7_survives 40 = .ok (.getfield 44, 3) := by decide +kernel
theorem dX7_survives_43 : decode cX7_survives 43 = .ok (.iload_n 3, 1) := by decide +kernel
theorem dX7_survives_44 : decode cX7_survives 44 = .ok (.iaload, 1) := by decide +kernel
theorem dX7_survives_45 : decode cX7_survives 45 = .ok (.ishl, 1) := by decide +kernel
theorem dX7_survives_46 : decode cX7_survives 46 = .ok (.ior, 1) := by decide +kernel
theorem dX7_survives_47 : decode cX7_survives 47 = .ok (.istore_n 2, 1) := by decide +kernel
theorem dX7_survives_48 : decode cX7_survives 48 = .ok (.iinc 3 1, 3) := by decide +kernel
theorem dX7_survives_51 : decode cX7_survives 51 = .ok (.goto (-22), 3) := by decide +kernel
theorem dX7_survives_54 : decode cX7_survives 54 = .ok (.aload_n 0, 1) := by decide +kernel
theorem dX7_survives_55 : decode cX7_survives 55 = .ok (.invokevirtual 296, 3) := by decide +kernel
theorem dX7_survives_58 : decode cX7_survives 58 = .ok (.iload_n 2, 1) := by decide +kernel
theorem dX7_survives_59 : decode cX7_survives 59 = .ok (.ireturn, 1) := by decide +kernel
theorem dX7_firstOf_0 : decode cX7_firstOf 0 = .ok (.aload_n 0, 1) := by decide +kernel
theorem dX7_firstOf_1 : decode cX7_firstOf 1 = .ok (.invokevirtual 290, 3) := by decide +kernel
theorem dX7_firstOf_4 : decode cX7_firstOf 4 = .ok (.iconst (-1), 1) := by decide +kernel
theorem dX7_firstOf_5 : decode cX7_firstOf 5 = .ok (.istore_n 3, 1) := by decide +kernel
theorem dX7_firstOf_6 : decode cX7_firstOf 6 = .ok (.iconst 0, 1) := by decide +kernel
theorem dX7_firstOf_7 : decode cX7_firstOf 7 = .ok (.istore 4, 2) := by decide +kernel
theorem dX7_firstOf_9 : decode cX7_firstOf 9 = .ok (.iload 4, 2) := by decide +kernel
theorem dX7_firstOf_11 : decode cX7_firstOf 11 = .ok (.sipush 400, 3) := by decide +kernel
theorem dX7_firstOf_14 : decode cX7_firstOf 14 = .ok (.if_icmp .gt 53, 3) := by decide +kernel
theorem dX7_firstOf_17 : decode cX7_firstOf 17 = .ok (.iload_n 3, 1) := by decide +kernel
theorem dX7_firstOf_18 : decode cX7_firstOf 18 = .ok (.iconst (-1), 1) := by decide +kernel
theorem dX7_firstOf_19 : decode cX7_firstOf 19 = .ok (.if_icmp .ne 48, 3) := by decide +kernel
theorem dX7_firstOf_22 : decode cX7_firstOf 22 = .ok (.iload 4, 2) := by decide +kernel
theorem dX7_firstOf_24 : decode cX7_firstOf 24 = .ok (.ifCond .le 8, 3) := by decide +kernel
theorem dX7_firstOf_27 : decode cX7_firstOf 27 = .ok (.aload_n 0, 1) := by decide +kernel
theorem dX7_firstOf_28 : decode cX7_firstOf 28 = .ok (.invokevirtual 284, 3) := by decide +kernel
theorem dX7_firstOf_31 : decode cX7_firstOf 31 = .ok (.pop, 1) := by decide +kernel
theorem dX7_firstOf_32 : decode cX7_firstOf 32 = .ok (.iload_n 2, 1) := by decide +kernel
theorem dX7_firstOf_33 : decode cX7_firstOf 33 = .ok (.iconst (-1), 1) := by decide +kernel
theorem dX7_firstOf_34 : decode cX7_firstOf 34 = .ok (.if_icmp .ne 14, 3) := by decide +kernel
theorem dX7_firstOf_37 : decode cX7_firstOf 37 = .ok (.aload_n 0, 1) := by decide +kernel
theorem dX7_firstOf_38 : decode cX7_firstOf 38 = .ok (.iload_n 1, 1) := by decide +kernel
theorem dX7_firstOf_39 : decode cX7_firstOf 39 = .ok (.invokevirtual 299, 3) := by decide +kernel
theorem dX7_firstOf_42 : decode cX7_firstOf 42 = .ok (.ifCond .ne 19, 3) := by decide +kernel
theorem dX7_firstOf_45 : decode cX7_firstOf 45 = .ok (.goto 13, 3) := by decide +kernel
theorem dX7_firstOf_48 : decode cX7_firstOf 48 = .ok (.aload_n 0, 1) := by decide +kernel
theorem dX7_firstOf_49 : decode cX7_firstOf 49 = .ok (.getfield 44, 3) := by decide +kernel
theorem dX7_firstOf_52 : decode cX7_firstOf 52 = .ok (.iload_n 2, 1) := by decide +kernel
theorem dX7_firstOf_53 : decode cX7_firstOf 53 = .ok (.iaload, 1) := by decide +kernel
theorem dX7_firstOf_54 : decode cX7_firstOf 54 = .ok (.iload_n 1, 1) := by decide +kernel
theorem dX7_firstOf_55 : decode cX7_firstOf 55 = .ok (.if_icmp .ne 6, 3) := by decide +kernel
theorem dX7_firstOf_58 : decode cX7_firstOf 58 = .ok (.iload 4, 2) := by decide +kernel
theorem dX7_firstOf_60 : decode cX7_firstOf 60 = .ok (.istore_n 3, 1) := by decide +kernel
theorem dX7_firstOf_61 : decode cX7_firstOf 61 = .ok (.iinc 4 1, 3) := by decide +kernel
theorem dX7_firstOf_64 : decode cX7_firstOf 64 = .ok (.goto (-55), 3) := by decide +kernel
theorem dX7_firstOf_67 : decode cX7_firstOf 67 = .ok (.aload_n 0, 1) := by decide +kernel
theorem dX7_firstOf_68 : decode cX7_firstOf 68 = .ok (.invokevirtual 296, 3) := by decide +kernel
theorem dX7_firstOf_71 : decode cX7_firstOf 71 = .ok (.iload_n 3, 1) := by decide +kernel
theorem dX7_firstOf_72 : decode cX7_firstOf 72 = .ok (.ireturn, 1) := by decide +kernel
theorem dX7_lost_0 : decode cX7_lost 0 = .ok (.aload_n 0, 1) := by decide +kernel
theorem dX7_lost_1 : decode cX7_lost 1 = .ok (.iload_n 1, 1) := by decide +kernel
theorem dX7_lost_2 : decode cX7_lost 2 = .ok (.invokevirtual 161, 3) := by decide +kernel
theorem dX7_lost_5 : decode cX7_lost 5 = .ok (.ifCond .eq 12, 3) := by decide +kernel
theorem dX7_lost_8 : decode cX7_lost 8 = .ok (.aload_n 0, 1) := by decide +kernel
theorem dX7_lost_9 : decode cX7_lost 9 = .ok (.iload_n 1, 1) := by decide +kernel
theorem dX7_lost_10 : decode cX7_lost 10 = .ok (.iconst (-1), 1) := by decide +kernel
theorem dX7_lost_11 : decode cX7_lost 11 = .ok (.invokevirtual 302, 3) := by decide +kernel
theorem dX7_lost_14 : decode cX7_lost 14 = .ok (.goto 8, 3) := by decide +kernel
theorem dX7_lost_17 : decode cX7_lost 17 = .ok (.aload_n 0, 1) := by decide +kernel
theorem dX7_lost_18 : decode cX7_lost 18 = .ok (.iconst (-1), 1) := by decide +kernel
theorem dX7_lost_19 : decode cX7_lost 19 = .ok (.invokevirtual 164, 3) := by decide +kernel
theorem dX7_lost_22 : decode cX7_lost 22 = .ok (.ireturn, 1) := by decide +kernel
theorem dX7_comes_0 : decode cX7_comes 0 = .ok (.aload_n 0, 1) := by decide +kernel
theorem dX7_comes_1 : decode cX7_comes 1 = .ok (.iload_n 1, 1) := by decide +kernel
theorem dX7_comes_2 : decode cX7_comes 2 = .ok (.invokevirtual 161, 3) := by decide +kernel
theorem dX7_comes_5 : decode cX7_comes 5 = .ok (.ifCond .eq 20, 3) := by decide +kernel
theorem dX7_comes_8 : decode cX7_comes 8 = .ok (.aload_n 0, 1) := by decide +kernel
theorem dX7_comes_9 : decode cX7_comes 9 = .ok (.iload_n 2, 1) := by decide +kernel
theorem dX7_comes_10 : decode cX7_comes 10 = .ok (.invokevirtual 140, 3) := by decide +kernel
theorem dX7_comes_13 : decode cX7_comes 13 = .ok (.ifCond .eq 12, 3) := by decide +kernel
theorem dX7_comes_16 : decode cX7_comes 16 = .ok (.aload_n 0, 1) := by decide +kernel
theorem dX7_comes_17 : decode cX7_comes 17 = .ok (.iload_n 1, 1) := by decide +kernel
theorem dX7_comes_18 : decode cX7_comes 18 = .ok (.iload_n 2, 1) := by decide +kernel
theorem dX7_comes_19 : decode cX7_comes 19 = .ok (.invokevirtual 302, 3) := by decide +kernel
theorem dX7_comes_22 : decode cX7_comes 22 = .ok (.goto 8, 3) := by decide +kernel
theorem dX7_comes_25 : decode cX7_comes 25 = .ok (.aload_n 0, 1) := by decide +kernel
theorem dX7_comes_26 : decode cX7_comes 26 = .ok (.iconst (-1), 1) := by decide +kernel
theorem dX7_comes_27 : decode cX7_comes 27 = .ok (.invokevirtual 164, 3) := by decide +kernel
theorem dX7_comes_30 : decode cX7_comes 30 = .ok (.ireturn, 1) := by decide +kernel
theorem dX7_meet_0 : decode cX7_meet 0 = .ok (.aload_n 0, 1) := by decide +kernel
theorem dX7_meet_1 : decode cX7_meet 1 = .ok (.iload_n 1, 1) := by decide +kernel
theorem dX7_meet_2 : decode cX7_meet 2 = .ok (.invokevirtual 140, 3) := by decide +kernel
theorem dX7_meet_5 : decode cX7_meet 5 = .ok (.ifCond .eq 11, 3) := by decide +kernel
theorem dX7_meet_8 : decode cX7_meet 8 = .ok (.aload_n 0, 1) := by decide +kernel
theorem dX7_meet_9 : decode cX7_meet 9 = .ok (.iload_n 2, 1) := by decide +kernel
theorem dX7_meet_10 : decode cX7_meet 10 = .ok (.invokevirtual 140, 3) := by decide +kernel
theorem dX7_meet_13 : decode cX7_meet 13 = .ok (.ifCond .ne 9, 3) := by decide +kernel
theorem dX7_meet_16 : decode cX7_meet 16 = .ok (.aload_n 0, 1) := by decide +kernel
theorem dX7_meet_17 : decode cX7_meet 17 = .ok (.iconst (-1), 1) := by decide +kernel
theorem dX7_meet_18 : decode cX7_meet 18 = .ok (.invokevirtual 164, 3) := by decide +kernel
theorem dX7_meet_21 : decode cX7_meet 21 = .ok (.ireturn, 1) := by decide +kernel
theorem dX7_meet_22 : decode cX7_meet 22 = .ok (.iload_n 1, 1) := by decide +kernel
theorem dX7_meet_23 : decode cX7_meet 23 = .ok (.iload_n 2, 1) := by decide +kernel
theorem dX7_meet_24 : decode cX7_meet 24 = .ok (.if_icmp .ne 10, 3) := by decide +kernel
theorem dX7_meet_27 : decode cX7_meet 27 = .ok (.aload_n 0, 1) := by decide +kernel
theorem dX7_meet_28 : decode cX7_meet 28 = .ok (.bipush (-6), 2) := by decide +kernel
theorem dX7_meet_30 : decode cX7_meet 30 = .ok (.invokevirtual 164, 3) := by decide +kernel
theorem dX7_meet_33 : decode cX7_meet 33 = .ok (.ireturn, 1) := by decide +kernel
theorem dX7_meet_34 : decode cX7_meet 34 = .ok (.aload_n 0, 1) := by decide +kernel
theorem dX7_meet_35 : decode cX7_meet 35 = .ok (.invokevirtual 290, 3) := by decide +kernel
theorem dX7_meet_38 : decode cX7_meet 38 = .ok (.iconst (-1), 1) := by decide +kernel
theorem dX7_meet_39 : decode cX7_meet 39 = .ok (.istore_n 3, 1) := by decide +kernel
theorem dX7_meet_40 : decode cX7_meet 40 = .ok (.iconst 1, 1) := by decide +kernel
theorem dX7_meet_41 : decode cX7_meet 41 = .ok (.istore 4, 2) := by decide +kernel
theorem dX7_meet_43 : decode cX7_meet 43 = .ok (.iload 4, 2) := by decide +kernel
theorem dX7_meet_45 : decode cX7_meet 45 = .ok (.sipush 400, 3) := by decide +kernel
theorem dX7_meet_48 : decode cX7_meet 48 = .ok (.if_icmp .gt 37, 3) := by decide +kernel
theorem dX7_meet_51 : decode cX7_meet 51 = .ok (.iload_n 3, 1) := by decide +kernel
theorem dX7_meet_52 : decode cX7_meet 52 = .ok (.iconst (-1), 1) := by decide +kernel
theorem dX7_meet_53 : decode cX7_meet 53 = .ok (.if_icmp .ne 32, 3) := by decide +kernel
theorem dX7_meet_56 : decode cX7_meet 56 = .ok (.aload_n 0, 1) := by decide +kernel
theorem dX7_meet_57 : decode cX7_meet 57 = .ok (.invokevirtual 284, 3) := by decide +kernel
theorem dX7_meet_60 : decode cX7_meet 60 = .ok (.pop, 1) := by decide +kernel
theorem dX7_meet_61 : decode cX7_meet 61 = .ok (.aload_n 0, 1) := by decide +kernel
theorem dX7_meet_62 : decode cX7_meet 62 = .ok (.getfield 38, 3) := by decide +kernel
theorem dX7_meet_65 : decode cX7_meet 65 = .ok (.iload_n 1, 1) := by decide +kernel
theorem dX7_meet_66 : decode cX7_meet 66 = .ok (.iaload, 1) := by decide +kernel
theorem dX7_meet_67 : decode cX7_meet 67 = .ok (.aload_n 0, 1) := by decide +kernel
theorem dX7_meet_68 : decode cX7_meet 68 = .ok (.getfield 38, 3) := by decide +kernel
theorem dX7_meet_71 : decode cX7_meet 71 = .ok (.iload_n 2, 1) := by decide +kernel
theorem dX7_meet_72 : decode cX7_meet 72 = .ok (.iaload, 1) := by decide +kernel
theorem dX7_meet_73 : decode cX7_meet 73 = .ok (.if_icmp .ne 6, 3) := by decide +kernel
theorem dX7_meet_76 : decode cX7_meet 76 = .ok (.iload 4, 2) := by decide +kernel
theorem dX7_meet_78 : decode cX7_meet 78 = .ok (.istore_n 3, 1) := by decide +kernel
theorem dX7_meet_79 : decode cX7_meet 79 = .ok (.iinc 4 1, 3) := by decide +kernel
theorem dX7_meet_82 : decode cX7_meet 82 = .ok (.goto (-39), 3) := by decide +kernel
theorem dX7_meet_85 : decode cX7_meet 85 = .ok (.aload_n 0, 1) := by decide +kernel
theorem dX7_meet_86 : decode cX7_meet 86 = .ok (.invokevirtual 296, 3) := by decide +kernel
theorem dX7_meet_89 : decode cX7_meet 89 = .ok (.iload_n 3, 1) := by decide +kernel
theorem dX7_meet_90 : decode cX7_meet 90 = .ok (.ireturn, 1) := by decide +kernel
theorem dX7_meetings_0 : decode cX7_meetings 0 = .ok (.aload_n 0, 1) := by decide +kernel
theorem dX7_meetings_1 : decode cX7_meetings 1 = .ok (.iload_n 1, 1) := by decide +kernel
theorem dX7_meetings_2 : decode cX7_meetings 2 = .ok (.invokevirtual 287, 3) := by decide +kernel
theorem dX7_meetings_5 : decode cX7_meetings 5 = .ok (.ifCond .ne 10, 3) := by decide +kernel
theorem dX7_meetings_8 : decode cX7_meetings 8 = .ok (.aload_n 0, 1) := by decide +kernel
theorem dX7_meetings_9 : decode cX7_meetings 9 = .ok (.bipush (-6), 2) := by decide +kernel
theorem dX7_meetings_11 : decode cX7_meetings 11 = .ok (.invokevirtual 136, 3) := by decide +kernel
theorem dX7_meetings_14 : decode cX7_meetings 14 = .ok (.ireturn, 1) := by decide +kernel
theorem dX7_meetings_15 : decode cX7_meetings 15 = .ok (.aload_n 0, 1) := by decide +kernel
theorem dX7_meetings_16 : decode cX7_meetings 16 = .ok (.invokevirtual 290, 3) := by decide +kernel
theorem dX7_meetings_19 : decode cX7_meetings 19 = .ok (.aload_n 0, 1) := by decide +kernel
theorem dX7_meetings_20 : decode cX7_meetings 20 = .ok (.iload_n 1, 1) := by decide +kernel
theorem dX7_meetings_21 : decode cX7_meetings 21 = .ok (.invokevirtual 293, 3) := by decide +kernel
theorem dX7_meetings_24 : decode cX7_meetings 24 = .ok (.istore_n 2, 1) := by decide +kernel
theorem dX7_meetings_25 : decode cX7_meetings 25 = .ok (.aload_n 0, 1) := by decide +kernel
theorem dX7_meetings_26 : decode cX7_meetings 26 = .ok (.invokevirtual 296, 3) := by decide +kernel
theorem dX7_meetings_29 : decode cX7_meetings 29 = .ok (.iload_n 2, 1) := by decide +kernel
theorem dX7_meetings_30 : decode cX7_meetings 30 = .ok (.ireturn, 1) := by decide +kernel
theorem dX7_mark_0 : decode cX7_mark 0 = .ok (.lconst 0, 1) := by decide +kernel
theorem dX7_mark_1 : decode cX7_mark 1 = .ok (.lstore_n 2, 1) := by decide +kernel
theorem dX7_mark_2 : decode cX7_mark 2 = .ok (.iload_n 1, 1) := by decide +kernel
theorem dX7_mark_3 : decode cX7_mark 3 = .ok (.istore 4, 2) := by decide +kernel
theorem dX7_mark_5 : decode cX7_mark 5 = .ok (.iload 4, 2) := by decide +kernel
theorem dX7_mark_7 : decode cX7_mark 7 = .ok (.iload_n 1, 1) := by decide +kernel
theorem dX7_mark_8 : decode cX7_mark 8 = .ok (.iconst 3, 1) := by decide +kernel
theorem dX7_mark_9 : decode cX7_mark 9 = .ok (.iadd, 1) := by decide +kernel
theorem dX7_mark_10 : decode cX7_mark 10 = .ok (.if_icmp .ge 93, 3) := by decide +kernel
theorem dX7_mark_13 : decode cX7_mark 13 = .ok (.iload 4, 2) := by decide +kernel
theorem dX7_mark_15 : decode cX7_mark 15 = .ok (.aload_n 0, 1) := by decide +kernel
theorem dX7_mark_16 : decode cX7_mark 16 = .ok (.getfield 126, 3) := by decide +kernel
theorem dX7_mark_19 : decode cX7_mark 19 = .ok (.if_icmp .ge 84, 3) := by decide +kernel
theorem dX7_mark_22 : decode cX7_mark 22 = .ok (.lload_n 2, 1) := by decide +kernel
theorem dX7_mark_23 : decode cX7_mark 23 = .ok (.ldc2_w 305, 3) := by decide +kernel
theorem dX7_mark_26 : decode cX7_mark 26 = .ok (.lmul, 1) := by decide +kernel
theorem dX7_mark_27 : decode cX7_mark 27 = .ok (.aload_n 0, 1) := by decide +kernel
theorem dX7_mark_28 : decode cX7_mark 28 = .ok (.getfield 38, 3) := by decide +kernel
theorem dX7_mark_31 : decode cX7_mark 31 = .ok (.iload 4, 2) := by decide +kernel
theorem dX7_mark_33 : decode cX7_mark 33 = .ok (.iaload, 1) := by decide +kernel
theorem dX7_mark_34 : decode cX7_mark 34 = .ok (.i2l, 1) := by decide +kernel
theorem dX7_mark_35 : decode cX7_mark 35 = .ok (.ladd, 1) := by decide +kernel
theorem dX7_mark_36 : decode cX7_mark 36 = .ok (.lstore_n 2, 1) := by decide +kernel
theorem dX7_mark_37 : decode cX7_mark 37 = .ok (.lload_n 2, 1) := by decide +kernel
theorem dX7_mark_38 : decode cX7_mark 38 = .ok (.ldc2_w 307, 3) := by decide +kernel
theorem dX7_mark_41 : decode cX7_mark 41 = .ok (.lmul, 1) := by decide +kernel
theorem dX7_mark_42 : decode cX7_mark 42 = .ok (.aload_n 0, 1) := by decide +kernel
theorem dX7_mark_43 : decode cX7_mark 43 = .ok (.getfield 41, 3) := by decide +kernel
theorem dX7_mark_46 : decode cX7_mark 46 = .ok (.iload 4, 2) := by decide +kernel
theorem dX7_mark_48 : decode cX7_mark 48 = .ok (.iaload, 1) := by decide +kernel
theorem dX7_mark_49 : decode cX7_mark 49 = .ok (.i2l, 1) := by decide +kernel
theorem dX7_mark_50 : decode cX7_mark 50 = .ok (.ladd, 1) := by decide +kernel
theorem dX7_mark_51 : decode cX7_mark 51 = .ok (.lstore_n 2, 1) := by decide +kernel
theorem dX7_mark_52 : decode cX7_mark 52 = .ok (.lload_n 2, 1) := by decide +kernel
theorem dX7_mark_53 : decode cX7_mark 53 = .ok (.ldc2_w 309, 3) := by decide +kernel
theorem dX7_mark_56 : decode cX7_mark 56 = .ok (.lmul, 1) := by decide +kernel
theorem dX7_mark_57 : decode cX7_mark 57 = .ok (.aload_n 0, 1) := by decide +kernel
theorem dX7_mark_58 : decode cX7_mark 58 = .ok (.getfield 44, 3) := by decide +kernel
theorem dX7_mark_61 : decode cX7_mark 61 = .ok (.iload 4, 2) := by decide +kernel
theorem dX7_mark_63 : decode cX7_mark 63 = .ok (.iaload, 1) := by decide +kernel
theorem dX7_mark_64 : decode cX7_mark 64 = .ok (.i2l, 1) := by decide +kernel
theorem dX7_mark_65 : decode cX7_mark 65 = .ok (.ladd, 1) := by decide +kernel
theorem dX7_mark_66 : decode cX7_mark 66 = .ok (.lstore_n 2, 1) := by decide +kernel
theorem dX7_mark_67 : decode cX7_mark 67 = .ok (.lload_n 2, 1) := by decide +kernel
theorem dX7_mark_68 : decode cX7_mark 68 = .ok (.ldc2_w 309, 3) := by decide +kernel
theorem dX7_mark_71 : decode cX7_mark 71 = .ok (.lmul, 1) := by decide +kernel
theorem dX7_mark_72 : decode cX7_mark 72 = .ok (.aload_n 0, 1) := by decide +kernel
theorem dX7_mark_73 : decode cX7_mark 73 = .ok (.getfield 47, 3) := by decide +kernel
theorem dX7_mark_76 : decode cX7_mark 76 = .ok (.iload 4, 2) := by decide +kernel
theorem dX7_mark_78 : decode cX7_mark 78 = .ok (.iaload, 1) := by decide +kernel
theorem dX7_mark_79 : decode cX7_mark 79 = .ok (.i2l, 1) := by decide +kernel
theorem dX7_mark_80 : decode cX7_mark 80 = .ok (.ladd, 1) := by decide +kernel
theorem dX7_mark_81 : decode cX7_mark 81 = .ok (.lstore_n 2, 1) := by decide +kernel
theorem dX7_mark_82 : decode cX7_mark 82 = .ok (.lload_n 2, 1) := by decide +kernel
theorem dX7_mark_83 : decode cX7_mark 83 = .ok (.ldc2_w 311, 3) := by decide +kernel
theorem dX7_mark_86 : decode cX7_mark 86 = .ok (.lmul, 1) := by decide +kernel
theorem dX7_mark_87 : decode cX7_mark 87 = .ok (.aload_n 0, 1) := by decide +kernel
theorem dX7_mark_88 : decode cX7_mark 88 = .ok (.getfield 50, 3) := by decide +kernel
theorem dX7_mark_91 : decode cX7_mark 91 = .ok (.iload 4, 2) := by decide +kernel
theorem dX7_mark_93 : decode cX7_mark 93 = .ok (.iaload, 1) := by decide +kernel
theorem dX7_mark_94 : decode cX7_mark 94 = .ok (.i2l, 1) := by decide +kernel
theorem dX7_mark_95 : decode cX7_mark 95 = .ok (.ladd, 1) := by decide +kernel
theorem dX7_mark_96 : decode cX7_mark 96 = .ok (.lstore_n 2, 1) := by decide +kernel
theorem dX7_mark_97 : decode cX7_mark 97 = .ok (.iinc 4 1, 3) := by decide +kernel
theorem dX7_mark_100 : decode cX7_mark 100 = .ok (.goto (-95), 3) := by decide +kernel
theorem dX7_mark_103 : decode cX7_mark 103 = .ok (.lload_n 2, 1) := by decide +kernel
theorem dX7_mark_104 : decode cX7_mark 104 = .ok (.lreturn, 1) := by decide +kernel
theorem dX7_ring_0 : decode cX7_ring 0 = .ok (.iload_n 1, 1) := by decide +kernel
theorem dX7_ring_1 : decode cX7_ring 1 = .ok (.ifCond .lt 8, 3) := by decide +kernel
theorem dX7_ring_4 : decode cX7_ring 4 = .ok (.iload_n 1, 1) := by decide +kernel
theorem dX7_ring_5 : decode cX7_ring 5 = .ok (.iconst 1, 1) := by decide +kernel
theorem dX7_ring_6 : decode cX7_ring 6 = .ok (.if_icmp .le 10, 3) := by decide +kernel
theorem dX7_ring_9 : decode cX7_ring 9 = .ok (.aload_n 0, 1) := by decide +kernel
theorem dX7_ring_10 : decode cX7_ring 10 = .ok (.bipush (-5), 2) := by decide +kernel
theorem dX7_ring_12 : decode cX7_ring 12 = .ok (.invokevirtual 136, 3) := by decide +kernel
theorem dX7_ring_15 : decode cX7_ring 15 = .ok (.ireturn, 1) := by decide +kernel
theorem dX7_ring_16 : decode cX7_ring 16 = .ok (.aload_n 0, 1) := by decide +kernel
theorem dX7_ring_17 : decode cX7_ring 17 = .ok (.invokevirtual 290, 3) := by decide +kernel
theorem dX7_ring_20 : decode cX7_ring 20 = .ok (.iconst 0, 1) := by decide +kernel
theorem dX7_ring_21 : decode cX7_ring 21 = .ok (.istore_n 2, 1) := by decide +kernel
theorem dX7_ring_22 : decode cX7_ring 22 = .ok (.iload_n 2, 1) := by decide +kernel
theorem dX7_ring_23 : decode cX7_ring 23 = .ok (.sipush 400, 3) := by decide +kernel
theorem dX7_ring_26 : decode cX7_ring 26 = .ok (.if_icmp .gt 40, 3) := by decide +kernel
theorem dX7_ring_29 : decode cX7_ring 29 = .ok (.iload_n 2, 1) := by decide +kernel
theorem dX7_ring_30 : decode cX7_ring 30 = .ok (.ifCond .le 8, 3) := by decide +kernel
theorem dX7_ring_33 : decode cX7_ring 33 = .ok (.aload_n 0, 1) := by decide +kernel
theorem dX7_ring_34 : decode cX7_ring 34 = .ok (.invokevirtual 284, 3) := by decide +kernel
theorem dX7_ring_37 : decode cX7_ring 37 = .ok (.pop, 1) := by decide +kernel
theorem dX7_ring_38 : decode cX7_ring 38 = .ok (.aload_n 0, 1) := by decide +kernel
theorem dX7_ring_39 : decode cX7_ring 39 = .ok (.getfield 117, 3) := by decide +kernel
theorem dX7_ring_42 : decode cX7_ring 42 = .ok (.iload_n 2, 1) := by decide +kernel
theorem dX7_ring_43 : decode cX7_ring 43 = .ok (.aload_n 0, 1) := by decide +kernel
theorem dX7_ring_44 : decode cX7_ring 44 = .ok (.iconst 0, 1) := by decide +kernel
theorem dX7_ring_45 : decode cX7_ring 45 = .ok (.invokevirtual 313, 3) := by decide +kernel
theorem dX7_ring_48 : decode cX7_ring 48 = .ok (.lastore, 1) := by decide +kernel
theorem dX7_ring_49 : decode cX7_ring 49 = .ok (.aload_n 0, 1) := by decide +kernel
theorem dX7_ring_50 : decode cX7_ring 50 = .ok (.getfield 120, 3) := by decide +kernel
theorem dX7_ring_53 : decode cX7_ring 53 = .ok (.iload_n 2, 1) := by decide +kernel
theorem dX7_ring_54 : decode cX7_ring 54 = .ok (.aload_n 0, 1) := by decide +kernel
theorem dX7_ring_55 : decode cX7_ring 55 = .ok (.iconst 3, 1) := by decide +kernel
theorem dX7_ring_56 : decode cX7_ring 56 = .ok (.invokevirtual 313, 3) := by decide +kernel
theorem dX7_ring_59 : decode cX7_ring 59 = .ok (.lastore, 1) := by decide +kernel
theorem dX7_ring_60 : decode cX7_ring 60 = .ok (.iinc 2 1, 3) := by decide +kernel
theorem dX7_ring_63 : decode cX7_ring 63 = .ok (.goto (-41), 3) := by decide +kernel
theorem dX7_ring_66 : decode cX7_ring 66 = .ok (.aload_n 0, 1) := by decide +kernel
theorem dX7_ring_67 : decode cX7_ring 67 = .ok (.invokevirtual 296, 3) := by decide +kernel
theorem dX7_ring_70 : decode cX7_ring 70 = .ok (.iconst 0, 1) := by decide +kernel
theorem dX7_ring_71 : decode cX7_ring 71 = .ok (.istore_n 2, 1) := by decide +kernel
theorem dX7_ring_72 : decode cX7_ring 72 = .ok (.iload_n 2, 1) := by decide +kernel
theorem dX7_ring_73 : decode cX7_ring 73 = .ok (.sipush 400, 3) := by decide +kernel
theorem dX7_ring_76 : decode cX7_ring 76 = .ok (.if_icmp .ge 70, 3) := by decide +kernel
theorem dX7_ring_79 : decode cX7_ring 79 = .ok (.iload_n 2, 1) := by decide +kernel
theorem dX7_ring_80 : decode cX7_ring 80 = .ok (.iconst 1, 1) := by decide +kernel
theorem dX7_ring_81 : decode cX7_ring 81 = .ok (.iadd, 1) := by decide +kernel
theorem dX7_ring_82 : decode cX7_ring 82 = .ok (.istore_n 3, 1) := by decide +kernel
theorem dX7_ring_83 : decode cX7_ring 83 = .ok (.iload_n 3, 1) := by decide +kernel
theorem dX7_ring_84 : decode cX7_ring 84 = .ok (.sipush 400, 3) := by decide +kernel
theorem dX7_ring_87 : decode cX7_ring 87 = .ok (.if_icmp .gt 53, 3) := by decide +kernel
theorem dX7_ring_90 : decode cX7_ring 90 = .ok (.aload_n 0, 1) := by decide +kernel
theorem dX7_ring_91 : decode cX7_ring 91 = .ok (.getfield 117, 3) := by decide +kernel
theorem dX7_ring_94 : decode cX7_ring 94 = .ok (.iload_n 2, 1) := by decide +kernel
theorem dX7_ring_95 : decode cX7_ring 95 = .ok (.laload, 1) := by decide +kernel
theorem dX7_ring_96 : decode cX7_ring 96 = .ok (.aload_n 0, 1) := by decide +kernel
theorem dX7_ring_97 : decode cX7_ring 97 = .ok (.getfield 117, 3) := by decide +kernel
theorem dX7_ring_100 : decode cX7_ring 100 = .ok (.iload_n 3, 1) := by decide +kernel
theorem dX7_ring_101 : decode cX7_ring 101 = .ok (.laload, 1) := by decide +kernel
theorem dX7_ring_102 : decode cX7_ring 102 = .ok (.lcmp, 1) := by decide +kernel
theorem dX7_ring_103 : decode cX7_ring 103 = .ok (.ifCond .ne 31, 3) := by decide +kernel
theorem dX7_ring_106 : decode cX7_ring 106 = .ok (.aload_n 0, 1) := by decide +kernel
theorem dX7_ring_107 : decode cX7_ring 107 = .ok (.getfield 120, 3) := by decide +kernel
theorem dX7_ring_110 : decode cX7_ring 110 = .ok (.iload_n 2, 1) := by decide +kernel
theorem dX7_ring_111 : decode cX7_ring 111 = .ok (.laload, 1) := by decide +kernel
theorem dX7_ring_112 : decode cX7_ring 112 = .ok (.aload_n 0, 1) := by decide +kernel
theorem dX7_ring_113 : decode cX7_ring 113 = .ok (.getfield 120, 3) := by decide +kernel
theorem dX7_ring_116 : decode cX7_ring 116 = .ok (.iload_n 3, 1) := by decide +kernel
theorem dX7_ring_117 : decode cX7_ring 117 = .ok (.laload, 1) := by decide +kernel
theorem dX7_ring_118 : decode cX7_ring 118 = .ok (.lcmp, 1) := by decide +kernel
theorem dX7_ring_119 : decode cX7_ring 119 = .ok (.ifCond .ne 15, 3) := by decide +kernel
theorem dX7_ring_122 : decode cX7_ring 122 = .ok (.iload_n 1, 1) := by decide +kernel
theorem dX7_ring_123 : decode cX7_ring 123 = .ok (.ifCond .ne 7, 3) := by decide +kernel
theorem dX7_ring_126 : decode cX7_ring 126 = .ok (.iload_n 2, 1) := by decide +kernel
theorem dX7_ring_127 : decode cX7_ring 127 = .ok (.goto 6, 3) := by decide +kernel
theorem dX7_ring_130 : decode cX7_ring 130 = .ok (.iload_n 3, 1) := by decide +kernel
theorem dX7_ring_131 : decode cX7_ring 131 = .ok (.iload_n 2, 1) := by decide +kernel
theorem dX7_ring_132 : decode cX7_ring 132 = .ok (.isub, 1) := by decide +kernel
theorem dX7_ring_133 : decode cX7_ring 133 = .ok (.ireturn, 1) := by decide +kernel
theorem dX7_ring_134 : decode cX7_ring 134 = .ok (.iinc 3 1, 3) := by decide +kernel
theorem dX7_ring_137 : decode cX7_ring 137 = .ok (.goto (-54), 3) := by decide +kernel
theorem dX7_ring_140 : decode cX7_ring 140 = .ok (.iinc 2 1, 3) := by decide +kernel
theorem dX7_ring_143 : decode cX7_ring 143 = .ok (.goto (-71), 3) := by decide +kernel
theorem dX7_ring_146 : decode cX7_ring 146 = .ok (.aload_n 0, 1) := by decide +kernel
theorem dX7_ring_147 : decode cX7_ring 147 = .ok (.bipush (-6), 2) := by decide +kernel
theorem dX7_ring_149 : decode cX7_ring 149 = .ok (.invokevirtual 136, 3) := by decide +kernel
theorem dX7_ring_152 : decode cX7_ring 152 = .ok (.ireturn, 1) := by decide +kernel
theorem dX7_alone_0 : decode cX7_alone 0 = .ok (.aload_n 0, 1) := by decide +kernel
theorem dX7_alone_1 : decode cX7_alone 1 = .ok (.iload_n 2, 1) := by decide +kernel
theorem dX7_alone_2 : decode cX7_alone 2 = .ok (.invokevirtual 140, 3) := by decide +kernel
theorem dX7_alone_5 : decode cX7_alone 5 = .ok (.ifCond .ne 9, 3) := by decide +kernel
theorem dX7_alone_8 : decode cX7_alone 8 = .ok (.aload_n 0, 1) := by decide +kernel
theorem dX7_alone_9 : decode cX7_alone 9 = .ok (.iconst (-1), 1) := by decide +kernel
theorem dX7_alone_10 : decode cX7_alone 10 = .ok (.invokevirtual 136, 3) := by decide +kernel
theorem dX7_alone_13 : decode cX7_alone 13 = .ok (.ireturn, 1) := by decide +kernel
theorem dX7_alone_14 : decode cX7_alone 14 = .ok (.iload_n 3, 1) := by decide +kernel
theorem dX7_alone_15 : decode cX7_alone 15 = .ok (.ifCond .lt 8, 3) := by decide +kernel
theorem dX7_alone_18 : decode cX7_alone 18 = .ok (.iload_n 3, 1) := by decide +kernel
theorem dX7_alone_19 : decode cX7_alone 19 = .ok (.iconst 4, 1) := by decide +kernel
theorem dX7_alone_20 : decode cX7_alone 20 = .ok (.if_icmp .le 10, 3) := by decide +kernel
theorem dX7_alone_23 : decode cX7_alone 23 = .ok (.aload_n 0, 1) := by decide +kernel
theorem dX7_alone_24 : decode cX7_alone 24 = .ok (.bipush (-5), 2) := by decide +kernel
theorem dX7_alone_26 : decode cX7_alone 26 = .ok (.invokevirtual 136, 3) := by decide +kernel
theorem dX7_alone_29 : decode cX7_alone 29 = .ok (.ireturn, 1) := by decide +kernel
theorem dX7_alone_30 : decode cX7_alone 30 = .ok (.aload_n 0, 1) := by decide +kernel
theorem dX7_alone_31 : decode cX7_alone 31 = .ok (.iload_n 1, 1) := by decide +kernel
theorem dX7_alone_32 : decode cX7_alone 32 = .ok (.invokevirtual 287, 3) := by decide +kernel
theorem dX7_alone_35 : decode cX7_alone 35 = .ok (.ifCond .ne 10, 3) := by decide +kernel
theorem dX7_alone_38 : decode cX7_alone 38 = .ok (.aload_n 0, 1) := by decide +kernel
theorem dX7_alone_39 : decode cX7_alone 39 = .ok (.bipush (-6), 2) := by decide +kernel
theorem dX7_alone_41 : decode cX7_alone 41 = .ok (.invokevirtual 136, 3) := by decide +kernel
theorem dX7_alone_44 : decode cX7_alone 44 = .ok (.ireturn, 1) := by decide +kernel
theorem dX7_alone_45 : decode cX7_alone 45 = .ok (.aload_n 0, 1) := by decide +kernel
theorem dX7_alone_46 : decode cX7_alone 46 = .ok (.invokevirtual 290, 3) := by decide +kernel
theorem dX7_alone_49 : decode cX7_alone 49 = .ok (.iconst 0, 1) := by decide +kernel
theorem dX7_alone_50 : decode cX7_alone 50 = .ok (.istore 4, 2) := by decide +kernel
theorem dX7_alone_52 : decode cX7_alone 52 = .ok (.iload 4, 2) := by decide +kernel
theorem dX7_alone_54 : decode cX7_alone 54 = .ok (.iload_n 1, 1) := by decide +kernel
theorem dX7_alone_55 : decode cX7_alone 55 = .ok (.if_icmp .ge 14, 3) := by decide +kernel
theorem dX7_alone_58 : decode cX7_alone 58 = .ok (.aload_n 0, 1) := by decide +kernel
theorem dX7_alone_59 : decode cX7_alone 59 = .ok (.iload_n 2, 1) := by decide +kernel
theorem dX7_alone_60 : decode cX7_alone 60 = .ok (.invokevirtual 264, 3) := by decide +kernel
theorem dX7_alone_63 : decode cX7_alone 63 = .ok (.iinc 4 1, 3) := by decide +kernel
theorem dX7_alone_66 : decode cX7_alone 66 = .ok (.goto (-14), 3) := by decide +kernel
theorem dX7_alone_69 : decode cX7_alone 69 = .ok (.aload_n 0, 1) := by decide +kernel
theorem dX7_alone_70 : decode cX7_alone 70 = .ok (.iload_n 2, 1) := by decide +kernel
theorem dX7_alone_71 : decode cX7_alone 71 = .ok (.iload_n 3, 1) := by decide +kernel
theorem dX7_alone_72 : decode cX7_alone 72 = .ok (.invokevirtual 174, 3) := by decide +kernel
theorem dX7_alone_75 : decode cX7_alone 75 = .ok (.istore 4, 2) := by decide +kernel
theorem dX7_alone_77 : decode cX7_alone 77 = .ok (.aload_n 0, 1) := by decide +kernel
theorem dX7_alone_78 : decode cX7_alone 78 = .ok (.invokevirtual 296, 3) := by decide +kernel
theorem dX7_alone_81 : decode cX7_alone 81 = .ok (.iload 4, 2) := by decide +kernel
theorem dX7_alone_83 : decode cX7_alone 83 = .ok (.ireturn, 1) := by decide +kernel
theorem dX7_isAlike_0 : decode cX7_isAlike 0 = .ok (.iconst 1, 1) := by decide +kernel
theorem dX7_isAlike_1 : decode cX7_isAlike 1 = .ok (.istore_n 1, 1) := by decide +kernel
theorem dX7_isAlike_2 : decode cX7_isAlike 2 = .ok (.iload_n 1, 1) := by decide +kernel
theorem dX7_isAlike_3 : decode cX7_isAlike 3 = .ok (.aload_n 0, 1) := by decide +kernel
theorem dX7_isAlike_4 : decode cX7_isAlike 4 = .ok (.getfield 126, 3) := by decide +kernel
theorem dX7_isAlike_7 : decode cX7_isAlike 7 = .ok (.if_icmp .ge 26, 3) := by decide +kernel
theorem dX7_isAlike_10 : decode cX7_isAlike 10 = .ok (.aload_n 0, 1) := by decide +kernel
theorem dX7_isAlike_11 : decode cX7_isAlike 11 = .ok (.getfield 44, 3) := by decide +kernel
theorem dX7_isAlike_14 : decode cX7_isAlike 14 = .ok (.iload_n 1, 1) := by decide +kernel
theorem dX7_isAlike_15 : decode cX7_isAlike 15 = .ok (.iaload, 1) := by decide +kernel
theorem dX7_isAlike_16 : decode cX7_isAlike 16 = .ok (.aload_n 0, 1) := by decide +kernel
theorem dX7_isAlike_17 : decode cX7_isAlike 17 = .ok (.getfield 44, 3) := by decide +kernel
theorem dX7_isAlike_20 : decode cX7_isAlike 20 = .ok (.iconst 0, 1) := by decide +kernel
theorem dX7_isAlike_21 : decode cX7_isAlike 21 = .ok (.iaload, 1) := by decide +kernel
theorem dX7_isAlike_22 : decode cX7_isAlike 22 = .ok (.if_icmp .eq 5, 3) := by decide +kernel
theorem dX7_isAlike_25 : decode cX7_isAlike 25 = .ok (.iconst 0, 1) := by decide +kernel
theorem dX7_isAlike_26 : decode cX7_isAlike 26 = .ok (.ireturn, 1) := by decide +kernel
theorem dX7_isAlike_27 : decode cX7_isAlike 27 = .ok (.iinc 1 1, 3) := by decide +kernel
theorem dX7_isAlike_30 : decode cX7_isAlike 30 = .ok (.goto (-28), 3) := by decide +kernel
theorem dX7_isAlike_33 : decode cX7_isAlike 33 = .ok (.iconst 1, 1) := by decide +kernel
theorem dX7_isAlike_34 : decode cX7_isAlike 34 = .ok (.ireturn, 1) := by decide +kernel
theorem dX7_alike_0 : decode cX7_alike 0 = .ok (.aload_n 0, 1) := by decide +kernel
theorem dX7_alike_1 : decode cX7_alike 1 = .ok (.invokevirtual 290, 3) := by decide +kernel
theorem dX7_alike_4 : decode cX7_alike 4 = .ok (.iconst (-1), 1) := by decide +kernel
theorem dX7_alike_5 : decode cX7_alike 5 = .ok (.istore_n 1, 1) := by decide +kernel
theorem dX7_alike_6 : decode cX7_alike 6 = .ok (.iconst 0, 1) := by decide +kernel
theorem dX7_alike_7 : decode cX7_alike 7 = .ok (.istore_n 2, 1) := by decide +kernel
theorem dX7_alike_8 : decode cX7_alike 8 = .ok (.iload_n 2, 1) := by decide +kernel
theorem dX7_alike_9 : decode cX7_alike 9 = .ok (.sipush 400, 3) := by decide +kernel
theorem dX7_alike_12 : decode cX7_alike 12 = .ok (.if_icmp .gt 32, 3) := by decide +kernel
theorem dX7_alike_15 : decode cX7_alike 15 = .ok (.iload_n 1, 1) := by decide +kernel
theorem dX7_alike_16 : decode cX7_alike 16 = .ok (.iconst (-1), 1) := by decide +kernel
theorem dX7_alike_17 : decode cX7_alike 17 = .ok (.if_icmp .ne 27, 3) := by decide +kernel
theorem dX7_alike_20 : decode cX7_alike 20 = .ok (.iload_n 2, 1) := by decide +kernel
theorem dX7_alike_21 : decode cX7_alike 21 = .ok (.ifCond .le 8, 3) := by decide +kernel
theorem dX7_alike_24 : decode cX7_alike 24 = .ok (.aload_n 0, 1) := by decide +kernel
theorem dX7_alike_25 : decode cX7_alike 25 = .ok (.invokevirtual 284, 3) := by decide +kernel
theorem dX7_alike_28 : decode cX7_alike 28 = .ok (.pop, 1) := by decide +kernel
theorem dX7_alike_29 : decode cX7_alike 29 = .ok (.aload_n 0, 1) := by decide +kernel
theorem dX7_alike_30 : decode cX7_alike 30 = .ok (.invokevirtual 317, 3) := by decide +kernel
theorem dX7_alike_33 : decode cX7_alike 33 = .ok (.ifCond .eq 5, 3) := by decide +kernel
theorem dX7_alike_36 : decode cX7_alike 36 = .ok (.iload_n 2, 1) := by decide +kernel
theorem dX7_alike_37 : decode cX7_alike 37 = .ok (.istore_n 1, 1) := by decide +kernel
theorem dX7_alike_38 : decode cX7_alike 38 = .ok (.iinc 2 1, 3) := by decide +kernel
theorem dX7_alike_41 : decode cX7_alike 41 = .ok (.goto (-33), 3) := by decide +kernel
theorem dX7_alike_44 : decode cX7_alike 44 = .ok (.aload_n 0, 1) := by decide +kernel
theorem dX7_alike_45 : decode cX7_alike 45 = .ok (.invokevirtual 296, 3) := by decide +kernel
theorem dX7_alike_48 : decode cX7_alike 48 = .ok (.iload_n 1, 1) := by decide +kernel
theorem dX7_alike_49 : decode cX7_alike 49 = .ok (.ireturn, 1) := by decide +kernel
theorem dX7_hire_0 : decode cX7_hire 0 = .ok (.aload_n 0, 1) := by decide +kernel
theorem dX7_hire_1 : decode cX7_hire 1 = .ok (.iload_n 1, 1) := by decide +kernel
theorem dX7_hire_2 : decode cX7_hire 2 = .ok (.invokevirtual 161, 3) := by decide +kernel
theorem dX7_hire_5 : decode cX7_hire 5 = .ok (.ifCond .ne 9, 3) := by decide +kernel
theorem dX7_hire_8 : decode cX7_hire 8 = .ok (.aload_n 0, 1) := by decide +kernel
theorem dX7_hire_9 : decode cX7_hire 9 = .ok (.iconst (-1), 1) := by decide +kernel
theorem dX7_hire_10 : decode cX7_hire 10 = .ok (.invokevirtual 164, 3) := by decide +kernel
theorem dX7_hire_13 : decode cX7_hire 13 = .ok (.ireturn, 1) := by decide +kernel
theorem dX7_hire_14 : decode cX7_hire 14 = .ok (.iload_n 2, 1) := by decide +kernel
theorem dX7_hire_15 : decode cX7_hire 15 = .ok (.ifCond .lt 8, 3) := by decide +kernel
theorem dX7_hire_18 : decode cX7_hire 18 = .ok (.iload_n 2, 1) := by decide +kernel
theorem dX7_hire_19 : decode cX7_hire 19 = .ok (.iconst 1, 1) := by decide +kernel
theorem dX7_hire_20 : decode cX7_hire 20 = .ok (.if_icmp .le 10, 3) := by decide +kernel
theorem dX7_hire_23 : decode cX7_hire 23 = .ok (.aload_n 0, 1) := by decide +kernel
theorem dX7_hire_24 : decode cX7_hire 24 = .ok (.bipush (-5), 2) := by decide +kernel
theorem dX7_hire_26 : decode cX7_hire 26 = .ok (.invokevirtual 164, 3) := by decide +kernel
theorem dX7_hire_29 : decode cX7_hire 29 = .ok (.ireturn, 1) := by decide +kernel
theorem dX7_hire_30 : decode cX7_hire 30 = .ok (.aload_n 0, 1) := by decide +kernel
theorem dX7_hire_31 : decode cX7_hire 31 = .ok (.getfield 126, 3) := by decide +kernel
theorem dX7_hire_34 : decode cX7_hire 34 = .ok (.bipush 6, 2) := by decide +kernel
theorem dX7_hire_36 : decode cX7_hire 36 = .ok (.if_icmp .ne 10, 3) := by decide +kernel
theorem dX7_hire_39 : decode cX7_hire 39 = .ok (.aload_n 0, 1) := by decide +kernel
theorem dX7_hire_40 : decode cX7_hire 40 = .ok (.bipush (-7), 2) := by decide +kernel
theorem dX7_hire_42 : decode cX7_hire 42 = .ok (.invokevirtual 164, 3) := by decide +kernel
theorem dX7_hire_45 : decode cX7_hire 45 = .ok (.ireturn, 1) := by decide +kernel
theorem dX7_hire_46 : decode cX7_hire 46 = .ok (.iconst (-1), 1) := by decide +kernel
theorem dX7_hire_47 : decode cX7_hire 47 = .ok (.istore_n 3, 1) := by decide +kernel
theorem dX7_hire_48 : decode cX7_hire 48 = .ok (.bipush 101, 2) := by decide +kernel
theorem dX7_hire_50 : decode cX7_hire 50 = .ok (.istore 4, 2) := by decide +kernel
theorem dX7_hire_52 : decode cX7_hire 52 = .ok (.aload_n 0, 1) := by decide +kernel
theorem dX7_hire_53 : decode cX7_hire 53 = .ok (.getfield 126, 3) := by decide +kernel
theorem dX7_hire_56 : decode cX7_hire 56 = .ok (.istore 5, 2) := by decide +kernel
theorem dX7_hire_58 : decode cX7_hire 58 = .ok (.aload_n 0, 1) := by decide +kernel
theorem dX7_hire_59 : decode cX7_hire 59 = .ok (.invokevirtual 290, 3) := by decide +kernel
theorem dX7_hire_62 : decode cX7_hire 62 = .ok (.iconst 0, 1) := by decide +kernel
theorem dX7_hire_63 : decode cX7_hire 63 = .ok (.istore 6, 2) := by decide +kernel
theorem dX7_hire_65 : decode cX7_hire 65 = .ok (.iload 6, 2) := by decide +kernel
theorem dX7_hire_67 : decode cX7_hire 67 = .ok (.bipush 49, 2) := by decide +kernel
theorem dX7_hire_69 : decode cX7_hire 69 = .ok (.if_icmp .ge 128, 3) := by decide +kernel
theorem dX7_hire_72 : decode cX7_hire 72 = .ok (.aload_n 0, 1) := by decide +kernel
theorem dX7_hire_73 : decode cX7_hire 73 = .ok (.getfield 29, 3) := by decide +kernel
theorem dX7_hire_76 : decode cX7_hire 76 = .ok (.iload 6, 2) := by decide +kernel
theorem dX7_hire_78 : decode cX7_hire 78 = .ok (.iaload, 1) := by decide +kernel
theorem dX7_hire_79 : decode cX7_hire 79 = .ok (.iconst 1, 1) := by decide +kernel
theorem dX7_hire_80 : decode cX7_hire 80 = .ok (.if_icmp .eq 111, 3) := by decide +kernel
theorem dX7_hire_83 : decode cX7_hire 83 = .ok (.aload_n 0, 1) := by decide +kernel
theorem dX7_hire_84 : decode cX7_hire 84 = .ok (.iload 6, 2) := by decide +kernel
theorem dX7_hire_86 : decode cX7_hire 86 = .ok (.invokevirtual 177, 3) := by decide +kernel
theorem dX7_hire_89 : decode cX7_hire 89 = .ok (.ifCond .eq 6, 3) := by decide +kernel
theorem dX7_hire_92 : decode cX7_hire 92 = .ok (.goto 99, 3) := by decide +kernel
theorem dX7_hire_95 : decode cX7_hire 95 = .ok (.iconst 0, 1) := by decide +kernel
theorem dX7_hire_96 : decode cX7_hire 96 = .ok (.istore 7, 2) := by decide +kernel
theorem dX7_hire_98 : decode cX7_hire 98 = .ok (.iload 7, 2) := by decide +kernel
theorem dX7_hire_100 : decode cX7_hire 100 = .ok (.iconst 4, 1) := by decide +kernel
theorem dX7_hire_101 : decode cX7_hire 101 = .ok (.if_icmp .ge 90, 3) := by decide +kernel
theorem dX7_hire_104 : decode cX7_hire 104 = .ok (.aload_n 0, 1) := by decide +kernel
theorem dX7_hire_105 : decode cX7_hire 105 = .ok (.iconst 1, 1) := by decide +kernel
theorem dX7_hire_106 : decode cX7_hire 106 = .ok (.iload 6, 2) := by decide +kernel
theorem dX7_hire_108 : decode cX7_hire 108 = .ok (.iload 7, 2) := by decide +kernel
theorem dX7_hire_110 : decode cX7_hire 110 = .ok (.iload_n 1, 1) := by decide +kernel
theorem dX7_hire_111 : decode cX7_hire 111 = .ok (.iconst 0, 1) := by decide +kernel
theorem dX7_hire_112 : decode cX7_hire 112 = .ok (.invokevirtual 170, 3) := by decide +kernel
theorem dX7_hire_115 : decode cX7_hire 115 = .ok (.pop, 1) := by decide +kernel
theorem dX7_hire_116 : decode cX7_hire 116 = .ok (.iconst 0, 1) := by decide +kernel
theorem dX7_hire_117 : decode cX7_hire 117 = .ok (.istore 8, 2) := by decide +kernel
theorem dX7_hire_119 : decode cX7_hire 119 = .ok (.iload 8, 2) := by decide +kernel
theorem dX7_hire_121 : decode cX7_hire 121 = .ok (.iload 4, 2) := by decide +kernel
theorem dX7_hire_123 : decode cX7_hire 123 = .ok (.if_icmp .ge 30, 3) := by decide +kernel
theorem dX7_hire_126 : decode cX7_hire 126 = .ok (.aload_n 0, 1) := by decide +kernel
theorem dX7_hire_127 : decode cX7_hire 127 = .ok (.iload_n 1, 1) := by decide +kernel
theorem dX7_hire_128 : decode cX7_hire 128 = .ok (.invokevirtual 299, 3) := by decide +kernel
theorem dX7_hire_131 : decode cX7_hire 131 = .ok (.iconst 1, 1) := by decide +kernel
theorem dX7_hire_132 : decode cX7_hire 132 = .ok (.aload_n 0, 1) := by decide +kernel
theorem dX7_hire_133 : decode cX7_hire 133 = .ok (.getfield 126, 3) := by decide +kernel
theorem dX7_hire_136 : decode cX7_hire 136 = .ok (.ishl, 1) := by decide +kernel
theorem dX7_hire_137 : decode cX7_hire 137 = .ok (.iconst 1, 1) := by decide +kernel
theorem dX7_hire_138 : decode cX7_hire 138 = .ok (.isub, 1) := by decide +kernel
theorem dX7_hire_139 : decode cX7_hire 139 = .ok (.if_icmp .eq 14, 3) := by decide +kernel
theorem dX7_hire_142 : decode cX7_hire 142 = .ok (.aload_n 0, 1) := by decide +kernel
theorem dX7_hire_143 : decode cX7_hire 143 = .ok (.invokevirtual 284, 3) := by decide +kernel
theorem dX7_hire_146 : decode cX7_hire 146 = .ok (.pop, 1) := by decide +kernel
theorem dX7_hire_147 : decode cX7_hire 147 = .ok (.iinc 8 1, 3) := by decide +kernel
theorem dX7_hire_150 : decode cX7_hire 150 = .ok (.goto (-31), 3) := by decide +kernel
theorem dX7_hire_153 : decode cX7_hire 153 = .ok (.aload_n 0, 1) := by decide +kernel
theorem dX7_hire_154 : decode cX7_hire 154 = .ok (.iload 5, 2) := by decide +kernel
theorem dX7_hire_156 : decode cX7_hire 156 = .ok (.putfield 126, 3) := by decide +kernel
theorem dX7_hire_159 : decode cX7_hire 159 = .ok (.aload_n 0, 1) := by decide +kernel
theorem dX7_hire_160 : decode cX7_hire 160 = .ok (.invokevirtual 296, 3) := by decide +kernel
theorem dX7_hire_163 : decode cX7_hire 163 = .ok (.iload 8, 2) := by decide +kernel
theorem dX7_hire_165 : decode cX7_hire 165 = .ok (.iload 4, 2) := by decide +kernel
theorem dX7_hire_167 : decode cX7_hire 167 = .ok (.if_icmp .lt 6, 3) := by decide +kernel
theorem dX7_hire_170 : decode cX7_hire 170 = .ok (.goto 15, 3) := by decide +kernel
theorem dX7_hire_173 : decode cX7_hire 173 = .ok (.iconst 4, 1) := by decide +kernel
theorem dX7_hire_174 : decode cX7_hire 174 = .ok (.iload 6, 2) := by decide +kernel
theorem dX7_hire_176 : decode cX7_hire 176 = .ok (.imul, 1) := by decide +kernel
theorem dX7_hire_177 : decode cX7_hire 177 = .ok (.iload 7, 2) := by decide +kernel
theorem dX7_hire_179 : decode cX7_hire 179 = .ok (.iadd, 1) := by decide +kernel
theorem dX7_hire_180 : decode cX7_hire 180 = .ok (.istore_n 3, 1) := by decide +kernel
theorem dX7_hire_181 : decode cX7_hire 181 = .ok (.iload 8, 2) := by decide +kernel
theorem dX7_hire_183 : decode cX7_hire 183 = .ok (.istore 4, 2) := by decide +kernel
theorem dX7_hire_185 : decode cX7_hire 185 = .ok (.iinc 7 1, 3) := by decide +kernel
theorem dX7_hire_188 : decode cX7_hire 188 = .ok (.goto (-90), 3) := by decide +kernel
theorem dX7_hire_191 : decode cX7_hire 191 = .ok (.iinc 6 1, 3) := by decide +kernel
theorem dX7_hire_194 : decode cX7_hire 194 = .ok (.goto (-129), 3) := by decide +kernel
theorem dX7_hire_197 : decode cX7_hire 197 = .ok (.iload_n 3, 1) := by decide +kernel
theorem dX7_hire_198 : decode cX7_hire 198 = .ok (.iconst (-1), 1) := by decide +kernel
theorem dX7_hire_199 : decode cX7_hire 199 = .ok (.if_icmp .ne 7, 3) := by decide +kernel
theorem dX7_hire_202 : decode cX7_hire 202 = .ok (.iconst (-1), 1) := by decide +kernel
theorem dX7_hire_203 : decode cX7_hire 203 = .ok (.goto 13, 3) := by decide +kernel
theorem dX7_hire_206 : decode cX7_hire 206 = .ok (.iload_n 2, 1) := by decide +kernel
theorem dX7_hire_207 : decode cX7_hire 207 = .ok (.ifCond .ne 7, 3) := by decide +kernel
theorem dX7_hire_210 : decode cX7_hire 210 = .ok (.iload_n 3, 1) := by decide +kernel
theorem dX7_hire_211 : decode cX7_hire 211 = .ok (.goto 5, 3) := by decide +kernel
theorem dX7_hire_214 : decode cX7_hire 214 = .ok (.iload 4, 2) := by decide +kernel
theorem dX7_hire_216 : decode cX7_hire 216 = .ok (.ireturn, 1) := by decide +kernel
theorem dX7_sights_0 : decode cX7_sights 0 = .ok (.aload_n 0, 1) := by decide +kernel
theorem dX7_sights_1 : decode cX7_sights 1 = .ok (.iload_n 1, 1) := by decide +kernel
theorem dX7_sights_2 : decode cX7_sights 2 = .ok (.iload_n 2, 1) := by decide +kernel
theorem dX7_sights_3 : decode cX7_sights 3 = .ok (.iconst 3, 1) := by decide +kernel
theorem dX7_sights_4 : decode cX7_sights 4 = .ok (.invokevirtual 153, 3) := by decide +kernel
theorem dX7_sights_7 : decode cX7_sights 7 = .ok (.istore_n 3, 1) := by decide +kernel
theorem dX7_sights_8 : decode cX7_sights 8 = .ok (.iload_n 3, 1) := by decide +kernel
theorem dX7_sights_9 : decode cX7_sights 9 = .ok (.ifCond .eq 5, 3) := by decide +kernel
theorem dX7_sights_12 : decode cX7_sights 12 = .ok (.iload_n 3, 1) := by decide +kernel
theorem dX7_sights_13 : decode cX7_sights 13 = .ok (.ireturn, 1) := by decide +kernel
theorem dX7_sights_14 : decode cX7_sights 14 = .ok (.iload_n 2, 1) := by decide +kernel
theorem dX7_sights_15 : decode cX7_sights 15 = .ok (.bipush 10, 2) := by decide +kernel
theorem dX7_sights_17 : decode cX7_sights 17 = .ok (.if_icmp .le 6, 3) := by decide +kernel
theorem dX7_sights_20 : decode cX7_sights 20 = .ok (.bipush (-6), 2) := by decide +kernel
theorem dX7_sights_22 : decode cX7_sights 22 = .ok (.ireturn, 1) := by decide +kernel
theorem dX7_sights_23 : decode cX7_sights 23 = .ok (.iconst 0, 1) := by decide +kernel
theorem dX7_sights_24 : decode cX7_sights 24 = .ok (.istore 4, 2) := by decide +kernel
theorem dX7_sights_26 : decode cX7_sights 26 = .ok (.iload 4, 2) := by decide +kernel
theorem dX7_sights_28 : decode cX7_sights 28 = .ok (.iload_n 2, 1) := by decide +kernel
theorem dX7_sights_29 : decode cX7_sights 29 = .ok (.if_icmp .ge 68, 3) := by decide +kernel
theorem dX7_sights_32 : decode cX7_sights 32 = .ok (.aload_n 0, 1) := by decide +kernel
theorem dX7_sights_33 : decode cX7_sights 33 = .ok (.iload_n 1, 1) := by decide +kernel
theorem dX7_sights_34 : decode cX7_sights 34 = .ok (.iconst 3, 1) := by decide +kernel
theorem dX7_sights_35 : decode cX7_sights 35 = .ok (.iload 4, 2) := by decide +kernel
theorem dX7_sights_37 : decode cX7_sights 37 = .ok (.imul, 1) := by decide +kernel
theorem dX7_sights_38 : decode cX7_sights 38 = .ok (.invokevirtual 157, 3) := by decide +kernel
theorem dX7_sights_41 : decode cX7_sights 41 = .ok (.istore 5, 2) := by decide +kernel
theorem dX7_sights_43 : decode cX7_sights 43 = .ok (.aload_n 0, 1) := by decide +kernel
theorem dX7_sights_44 : decode cX7_sights 44 = .ok (.iload 5, 2) := by decide +kernel
theorem dX7_sights_46 : decode cX7_sights 46 = .ok (.invokevirtual 287, 3) := by decide +kernel
theorem dX7_sights_49 : decode cX7_sights 49 = .ok (.ifCond .eq 39, 3) := by decide +kernel
theorem dX7_sights_52 : decode cX7_sights 52 = .ok (.aload_n 0, 1) := by decide +kernel
theorem dX7_sights_53 : decode cX7_sights 53 = .ok (.aload_n 0, 1) := by decide +kernel
theorem dX7_sights_54 : decode cX7_sights 54 = .ok (.iload_n 1, 1) := by decide +kernel
theorem dX7_sights_55 : decode cX7_sights 55 = .ok (.iconst 3, 1) := by decide +kernel
theorem dX7_sights_56 : decode cX7_sights 56 = .ok (.iload 4, 2) := by decide +kernel
theorem dX7_sights_58 : decode cX7_sights 58 = .ok (.imul, 1) := by decide +kernel
theorem dX7_sights_59 : decode cX7_sights 59 = .ok (.iconst 1, 1) := by decide +kernel
theorem dX7_sights_60 : decode cX7_sights 60 = .ok (.iadd, 1) := by decide +kernel
theorem dX7_sights_61 : decode cX7_sights 61 = .ok (.invokevirtual 157, 3) := by decide +kernel
theorem dX7_sights_64 : decode cX7_sights 64 = .ok (.invokevirtual 167, 3) := by decide +kernel
theorem dX7_sights_67 : decode cX7_sights 67 = .ok (.ifCond .eq 21, 3) := by decide +kernel
theorem dX7_sights_70 : decode cX7_sights 70 = .ok (.aload_n 0, 1) := by decide +kernel
theorem dX7_sights_71 : decode cX7_sights 71 = .ok (.aload_n 0, 1) := by decide +kernel
theorem dX7_sights_72 : decode cX7_sights 72 = .ok (.iload_n 1, 1) := by decide +kernel
theorem dX7_sights_73 : decode cX7_sights 73 = .ok (.iconst 3, 1) := by decide +kernel
theorem dX7_sights_74 : decode cX7_sights 74 = .ok (.iload 4, 2) := by decide +kernel
theorem dX7_sights_76 : decode cX7_sights 76 = .ok (.imul, 1) := by decide +kernel
theorem dX7_sights_77 : decode cX7_sights 77 = .ok (.iconst 2, 1) := by decide +kernel
theorem dX7_sights_78 : decode cX7_sights 78 = .ok (.iadd, 1) := by decide +kernel
theorem dX7_sights_79 : decode cX7_sights 79 = .ok (.invokevirtual 157, 3) := by decide +kernel
theorem dX7_sights_82 : decode cX7_sights 82 = .ok (.invokevirtual 161, 3) := by decide +kernel
theorem dX7_sights_85 : decode cX7_sights 85 = .ok (.ifCond .ne 6, 3) := by decide +kernel
theorem dX7_sights_88 : decode cX7_sights 88 = .ok (.bipush (-6), 2) := by decide +kernel
theorem dX7_sights_90 : decode cX7_sights 90 = .ok (.ireturn, 1) := by decide +kernel
theorem dX7_sights_91 : decode cX7_sights 91 = .ok (.iinc 4 1, 3) := by decide +kernel
theorem dX7_sights_94 : decode cX7_sights 94 = .ok (.goto (-68), 3) := by decide +kernel
theorem dX7_sights_97 : decode cX7_sights 97 = .ok (.iconst 0, 1) := by decide +kernel
theorem dX7_sights_98 : decode cX7_sights 98 = .ok (.ireturn, 1) := by decide +kernel
theorem dX7_fits_0 : decode cX7_fits 0 = .ok (.iconst 0, 1) := by decide +kernel
theorem dX7_fits_1 : decode cX7_fits 1 = .ok (.istore_n 3, 1) := by decide +kernel
theorem dX7_fits_2 : decode cX7_fits 2 = .ok (.aload_n 0, 1) := by decide +kernel
theorem dX7_fits_3 : decode cX7_fits 3 = .ok (.invokevirtual 290, 3) := by decide +kernel
theorem dX7_fits_6 : decode cX7_fits 6 = .ok (.iconst 0, 1) := by decide +kernel
theorem dX7_fits_7 : decode cX7_fits 7 = .ok (.istore 4, 2) := by decide +kernel
theorem dX7_fits_9 : decode cX7_fits 9 = .ok (.iload 4, 2) := by decide +kernel
theorem dX7_fits_11 : decode cX7_fits 11 = .ok (.sipush 400, 3) := by decide +kernel
theorem dX7_fits_14 : decode cX7_fits 14 = .ok (.if_icmp .gt 125, 3) := by decide +kernel
theorem dX7_fits_17 : decode cX7_fits 17 = .ok (.iload 4, 2) := by decide +kernel
theorem dX7_fits_19 : decode cX7_fits 19 = .ok (.ifCond .le 8, 3) := by decide +kernel
theorem dX7_fits_22 : decode cX7_fits 22 = .ok (.aload_n 0, 1) := by decide +kernel
theorem dX7_fits_23 : decode cX7_fits 23 = .ok (.invokevirtual 284, 3) := by decide +kernel
theorem dX7_fits_26 : decode cX7_fits 26 = .ok (.pop, 1) := by decide +kernel
theorem dX7_fits_27 : decode cX7_fits 27 = .ok (.iconst 0, 1) := by decide +kernel
theorem dX7_fits_28 : decode cX7_fits 28 = .ok (.istore 5, 2) := by decide +kernel
theorem dX7_fits_30 : decode cX7_fits 30 = .ok (.iload 5, 2) := by decide +kernel
theorem dX7_fits_32 : decode cX7_fits 32 = .ok (.iload_n 2, 1) := by decide +kernel
theorem dX7_fits_33 : decode cX7_fits 33 = .ok (.if_icmp .ge 100, 3) := by decide +kernel
theorem dX7_fits_36 : decode cX7_fits 36 = .ok (.aload_n 0, 1) := by decide +kernel
theorem dX7_fits_37 : decode cX7_fits 37 = .ok (.iload_n 1, 1) := by decide +kernel
theorem dX7_fits_38 : decode cX7_fits 38 = .ok (.iconst 3, 1) := by decide +kernel
theorem dX7_fits_39 : decode cX7_fits 39 = .ok (.iload 5, 2) := by decide +kernel
theorem dX7_fits_41 : decode cX7_fits 41 = .ok (.imul, 1) := by decide +kernel
theorem dX7_fits_42 : decode cX7_fits 42 = .ok (.invokevirtual 157, 3) := by decide +kernel
theorem dX7_fits_45 : decode cX7_fits 45 = .ok (.iload 4, 2) := by decide +kernel
theorem dX7_fits_47 : decode cX7_fits 47 = .ok (.if_icmp .eq 6, 3) := by decide +kernel
theorem dX7_fits_50 : decode cX7_fits 50 = .ok (.goto 77, 3) := by decide +kernel
theorem dX7_fits_53 : decode cX7_fits 53 = .ok (.iconst 0, 1) := by decide +kernel
theorem dX7_fits_54 : decode cX7_fits 54 = .ok (.istore 6, 2) := by decide +kernel
theorem dX7_fits_56 : decode cX7_fits 56 = .ok (.iconst 0, 1) := by decide +kernel
theorem dX7_fits_57 : decode cX7_fits 57 = .ok (.istore 7, 2) := by decide +kernel
theorem dX7_fits_59 : decode cX7_fits 59 = .ok (.iload 7, 2) := by decide +kernel
theorem dX7_fits_61 : decode cX7_fits 61 = .ok (.aload_n 0, 1) := by decide +kernel
theorem dX7_fits_62 : decode cX7_fits 62 = .ok (.getfield 126, 3) := by decide +kernel
theorem dX7_fits_65 : decode cX7_fits 65 = .ok (.if_icmp .ge 54, 3) := by decide +kernel
theorem dX7_fits_68 : decode cX7_fits 68 = .ok (.aload_n 0, 1) := by decide +kernel
theorem dX7_fits_69 : decode cX7_fits 69 = .ok (.getfield 38, 3) := by decide +kernel
theorem dX7_fits_72 : decode cX7_fits 72 = .ok (.iload 7, 2) := by decide +kernel
theorem dX7_fits_74 : decode cX7_fits 74 = .ok (.iaload, 1) := by decide +kernel
theorem dX7_fits_75 : decode cX7_fits 75 = .ok (.aload_n 0, 1) := by decide +kernel
theorem dX7_fits_76 : decode cX7_fits 76 = .ok (.iload_n 1, 1) := by decide +kernel
theorem dX7_fits_77 : decode cX7_fits 77 = .ok (.iconst 3, 1) := by decide +kernel
theorem dX7_fits_78 : decode cX7_fits 78 = .ok (.iload 5, 2) := by decide +kernel
theorem dX7_fits_80 : decode cX7_fits 80 = .ok (.imul, 1) := by decide +kernel
theorem dX7_fits_81 : decode cX7_fits 81 = .ok (.iconst 1, 1) := by decide +kernel
theorem dX7_fits_82 : decode cX7_fits 82 = .ok (.iadd, 1) := by decide +kernel
theorem dX7_fits_83 : decode cX7_fits 83 = .ok (.invokevirtual 157, 3) := by decide +kernel
theorem dX7_fits_86 : decode cX7_fits 86 = .ok (.if_icmp .ne 27, 3) := by decide +kernel
theorem dX7_fits_89 : decode cX7_fits 89 = .ok (.aload_n 0, 1) := by decide +kernel
theorem dX7_fits_90 : decode cX7_fits 90 = .ok (.getfield 44, 3) := by decide +kernel
theorem dX7_fits_93 : decode cX7_fits 93 = .ok (.iload 7, 2) := by decide +kernel
theorem dX7_fits_95 : decode cX7_fits 95 = .ok (.iaload, 1) := by decide +kernel
theorem dX7_fits_96 : decode cX7_fits 96 = .ok (.aload_n 0, 1) := by decide +kernel
theorem dX7_fits_97 : decode cX7_fits 97 = .ok (.iload_n 1, 1) := by decide +kernel
theorem dX7_fits_98 : decode cX7_fits 98 = .ok (.iconst 3, 1) := by decide +kernel
theorem dX7_fits_99 : decode cX7_fits 99 = .ok (.iload 5, 2) := by decide +kernel
theorem dX7_fits_101 : decode cX7_fits 101 = .ok (.imul, 1) := by decide +kernel
theorem dX7_fits_102 : decode cX7_fits 102 = .ok (.iconst 2, 1) := by decide +kernel
theorem dX7_fits_103 : decode cX7_fits 103 = .ok (.iadd, 1) := by decide +kernel
theorem dX7_fits_104 : decode cX7_fits 104 = .ok (.invokevirtual 157, 3) := by decide +kernel
theorem dX7_fits_107 : decode cX7_fits 107 = .ok (.if_icmp .ne 6, 3) := by decide +kernel
theorem dX7_fits_110 : decode cX7_fits 110 = .ok (.iconst 1, 1) := by decide +kernel
theorem dX7_fits_111 : decode cX7_fits 111 = .ok (.istore 6, 2) := by decide +kernel
theorem dX7_fits_113 : decode cX7_fits 113 = .ok (.iinc 7 1, 3) := by decide +kernel
theorem dX7_fits_116 : decode cX7_fits 116 = .ok (.goto (-57), 3) := by decide +kernel
theorem dX7_fits_119 : decode cX7_fits 119 = .ok (.iload 6, 2) := by decide +kernel
theorem dX7_fits_121 : decode cX7_fits 121 = .ok (.ifCond .eq 6, 3) := by decide +kernel
theorem dX7_fits_124 : decode cX7_fits 124 = .ok (.iinc 3 1, 3) := by decide +kernel
theorem dX7_fits_127 : decode cX7_fits 127 = .ok (.iinc 5 1, 3) := by decide +kernel
theorem dX7_fits_130 : decode cX7_fits 130 = .ok (.goto (-100), 3) := by decide +kernel
theorem dX7_fits_133 : decode cX7_fits 133 = .ok (.iinc 4 1, 3) := by decide +kernel
theorem dX7_fits_136 : decode cX7_fits 136 = .ok (.goto (-127), 3) := by decide +kernel
theorem dX7_fits_139 : decode cX7_fits 139 = .ok (.aload_n 0, 1) := by decide +kernel
theorem dX7_fits_140 : decode cX7_fits 140 = .ok (.invokevirtual 296, 3) := by decide +kernel
theorem dX7_fits_143 : decode cX7_fits 143 = .ok (.iload_n 3, 1) := by decide +kernel
theorem dX7_fits_144 : decode cX7_fits 144 = .ok (.ireturn, 1) := by decide +kernel
theorem dX7_fit_0 : decode cX7_fit 0 = .ok (.aload_n 0, 1) := by decide +kernel
theorem dX7_fit_1 : decode cX7_fit 1 = .ok (.iload_n 1, 1) := by decide +kernel
theorem dX7_fit_2 : decode cX7_fit 2 = .ok (.iload_n 2, 1) := by decide +kernel
theorem dX7_fit_3 : decode cX7_fit 3 = .ok (.invokevirtual 320, 3) := by decide +kernel
theorem dX7_fit_6 : decode cX7_fit 6 = .ok (.istore_n 3, 1) := by decide +kernel
theorem dX7_fit_7 : decode cX7_fit 7 = .ok (.iload_n 3, 1) := by decide +kernel
theorem dX7_fit_8 : decode cX7_fit 8 = .ok (.ifCond .eq 11, 3) := by decide +kernel
theorem dX7_fit_11 : decode cX7_fit 11 = .ok (.aload_n 0, 1) := by decide +kernel
theorem dX7_fit_12 : decode cX7_fit 12 = .ok (.iload_n 3, 1) := by decide +kernel
theorem dX7_fit_13 : decode cX7_fit 13 = .ok (.invokevirtual 136, 3) := by decide +kernel
theorem dX7_fit_16 : decode cX7_fit 16 = .ok (.goto 9, 3) := by decide +kernel
theorem dX7_fit_19 : decode cX7_fit 19 = .ok (.aload_n 0, 1) := by decide +kernel
theorem dX7_fit_20 : decode cX7_fit 20 = .ok (.iload_n 1, 1) := by decide +kernel
theorem dX7_fit_21 : decode cX7_fit 21 = .ok (.iload_n 2, 1) := by decide +kernel
theorem dX7_fit_22 : decode cX7_fit 22 = .ok (.invokevirtual 323, 3) := by decide +kernel
theorem dX7_fit_25 : decode cX7_fit 25 = .ok (.ireturn, 1) := by decide +kernel
theorem dX7_began_0 : decode cX7_began 0 = .ok (.aload_n 0, 1) := by decide +kernel
theorem dX7_began_1 : decode cX7_began 1 = .ok (.iload_n 1, 1) := by decide +kernel
theorem dX7_began_2 : decode cX7_began 2 = .ok (.invokevirtual 132, 3) := by decide +kernel
theorem dX7_began_5 : decode cX7_began 5 = .ok (.ifCond .eq 15, 3) := by decide +kernel
theorem dX7_began_8 : decode cX7_began 8 = .ok (.aload_n 0, 1) := by decide +kernel
theorem dX7_began_9 : decode cX7_began 9 = .ok (.iload_n 3, 1) := by decide +kernel
theorem dX7_began_10 : decode cX7_began 10 = .ok (.invokevirtual 140, 3) := by decide +kernel
theorem dX7_began_13 : decode cX7_began 13 = .ok (.ifCond .ne 7, 3) := by decide +kernel
theorem dX7_began_16 : decode cX7_began 16 = .ok (.iconst (-1), 1) := by decide +kernel
theorem dX7_began_17 : decode cX7_began 17 = .ok (.goto 9, 3) := by decide +kernel
theorem dX7_began_20 : decode cX7_began 20 = .ok (.aload_n 0, 1) := by decide +kernel
theorem dX7_began_21 : decode cX7_began 21 = .ok (.iload_n 1, 1) := by decide +kernel
theorem dX7_began_22 : decode cX7_began 22 = .ok (.iload_n 2, 1) := by decide +kernel
theorem dX7_began_23 : decode cX7_began 23 = .ok (.invokevirtual 320, 3) := by decide +kernel
theorem dX7_began_26 : decode cX7_began 26 = .ok (.istore 4, 2) := by decide +kernel
theorem dX7_began_28 : decode cX7_began 28 = .ok (.iload 4, 2) := by decide +kernel
theorem dX7_began_30 : decode cX7_began 30 = .ok (.ifCond .eq 10, 3) := by decide +kernel
theorem dX7_began_33 : decode cX7_began 33 = .ok (.aload_n 0, 1) := by decide +kernel
theorem dX7_began_34 : decode cX7_began 34 = .ok (.iload 4, 2) := by decide +kernel
theorem dX7_began_36 : decode cX7_began 36 = .ok (.invokevirtual 136, 3) := by decide +kernel
theorem dX7_began_39 : decode cX7_began 39 = .ok (.ireturn, 1) := by decide +kernel
theorem dX7_began_40 : decode cX7_began 40 = .ok (.aload_n 0, 1) := by decide +kernel
theorem dX7_began_41 : decode cX7_began 41 = .ok (.getfield 44, 3) := by decide +kernel
theorem dX7_began_44 : decode cX7_began 44 = .ok (.iload_n 3, 1) := by decide +kernel
theorem dX7_began_45 : decode cX7_began 45 = .ok (.iaload, 1) := by decide +kernel
theorem dX7_began_46 : decode cX7_began 46 = .ok (.istore 5, 2) := by decide +kernel
theorem dX7_began_48 : decode cX7_began 48 = .ok (.aload_n 0, 1) := by decide +kernel
theorem dX7_began_49 : decode cX7_began 49 = .ok (.getfield 47, 3) := by decide +kernel
theorem dX7_began_52 : decode cX7_began 52 = .ok (.iload_n 3, 1) := by decide +kernel
theorem dX7_began_53 : decode cX7_began 53 = .ok (.iaload, 1) := by decide +kernel
theorem dX7_began_54 : decode cX7_began 54 = .ok (.istore 6, 2) := by decide +kernel
theorem dX7_began_56 : decode cX7_began 56 = .ok (.iconst 0, 1) := by decide +kernel
theorem dX7_began_57 : decode cX7_began 57 = .ok (.istore 7, 2) := by decide +kernel
theorem dX7_began_59 : decode cX7_began 59 = .ok (.iconst 0, 1) := by decide +kernel
theorem dX7_began_60 : decode cX7_began 60 = .ok (.istore 8, 2) := by decide +kernel
theorem dX7_began_62 : decode cX7_began 62 = .ok (.iload 8, 2) := by decide +kernel
theorem dX7_began_64 : decode cX7_began 64 = .ok (.aload_n 0, 1) := by decide +kernel
theorem dX7_began_65 : decode cX7_began 65 = .ok (.getfield 129, 3) := by decide +kernel
theorem dX7_began_68 : decode cX7_began 68 = .ok (.if_icmp .ge 52, 3) := by decide +kernel
theorem dX7_began_71 : decode cX7_began 71 = .ok (.aload_n 0, 1) := by decide +kernel
theorem dX7_began_72 : decode cX7_began 72 = .ok (.getfield 44, 3) := by decide +kernel
theorem dX7_began_75 : decode cX7_began 75 = .ok (.iload_n 3, 1) := by decide +kernel
theorem dX7_began_76 : decode cX7_began 76 = .ok (.iload 8, 2) := by decide +kernel
theorem dX7_began_78 : decode cX7_began 78 = .ok (.iastore, 1) := by decide +kernel
theorem dX7_began_79 : decode cX7_began 79 = .ok (.aload_n 0, 1) := by decide +kernel
theorem dX7_began_80 : decode cX7_began 80 = .ok (.getfield 47, 3) := by decide +kernel
theorem dX7_began_83 : decode cX7_began 83 = .ok (.iload_n 3, 1) := by decide +kernel
theorem dX7_began_84 : decode cX7_began 84 = .ok (.iload 6, 2) := by decide +kernel
theorem dX7_began_86 : decode cX7_began 86 = .ok (.aload_n 0, 1) := by decide +kernel
theorem dX7_began_87 : decode cX7_began 87 = .ok (.getfield 23, 3) := by decide +kernel
theorem dX7_began_90 : decode cX7_began 90 = .ok (.iload 8, 2) := by decide +kernel
theorem dX7_began_92 : decode cX7_began 92 = .ok (.iaload, 1) := by decide +kernel
theorem dX7_began_93 : decode cX7_began 93 = .ok (.irem, 1) := by decide +kernel
theorem dX7_began_94 : decode cX7_began 94 = .ok (.iastore, 1) := by decide +kernel
theorem dX7_began_95 : decode cX7_began 95 = .ok (.aload_n 0, 1) := by decide +kernel
theorem dX7_began_96 : decode cX7_began 96 = .ok (.iload_n 1, 1) := by decide +kernel
theorem dX7_began_97 : decode cX7_began 97 = .ok (.iload_n 2, 1) := by decide +kernel
theorem dX7_began_98 : decode cX7_began 98 = .ok (.invokevirtual 323, 3) := by decide +kernel
theorem dX7_began_101 : decode cX7_began 101 = .ok (.iload_n 2, 1) := by decide +kernel
theorem dX7_began_102 : decode cX7_began 102 = .ok (.if_icmp .ne 12, 3) := by decide +kernel
theorem dX7_began_105 : decode cX7_began 105 = .ok (.iload 7, 2) := by decide +kernel
theorem dX7_began_107 : decode cX7_began 107 = .ok (.iconst 1, 1) := by decide +kernel
theorem dX7_began_108 : decode cX7_began 108 = .ok (.iload 8, 2) := by decide +kernel
theorem dX7_began_110 : decode cX7_began 110 = .ok (.ishl, 1) := by decide +kernel
theorem dX7_began_111 : decode cX7_began 111 = .ok (.ior, 1) := by decide +kernel
theorem dX7_began_112 : decode cX7_began 112 = .ok (.istore 7, 2) := by decide +kernel
theorem dX7_began_114 : decode cX7_began 114 = .ok (.iinc 8 1, 3) := by decide +kernel
theorem dX7_began_117 : decode cX7_began 117 = .ok (.goto (-55), 3) := by decide +kernel
theorem dX7_began_120 : decode cX7_began 120 = .ok (.aload_n 0, 1) := by decide +kernel
theorem dX7_began_121 : decode cX7_began 121 = .ok (.getfield 44, 3) := by decide +kernel
theorem dX7_began_124 : decode cX7_began 124 = .ok (.iload_n 3, 1) := by decide +kernel
theorem dX7_began_125 : decode cX7_began 125 = .ok (.iload 5, 2) := by decide +kernel
theorem dX7_began_127 : decode cX7_began 127 = .ok (.iastore, 1) := by decide +kernel
theorem dX7_began_128 : decode cX7_began 128 = .ok (.aload_n 0, 1) := by decide +kernel
theorem dX7_began_129 : decode cX7_began 129 = .ok (.getfield 47, 3) := by decide +kernel
theorem dX7_began_132 : decode cX7_began 132 = .ok (.iload_n 3, 1) := by decide +kernel
theorem dX7_began_133 : decode cX7_began 133 = .ok (.iload 6, 2) := by decide +kernel
theorem dX7_began_135 : decode cX7_began 135 = .ok (.iastore, 1) := by decide +kernel
theorem dX7_began_136 : decode cX7_began 136 = .ok (.iload 7, 2) := by decide +kernel
theorem dX7_began_138 : decode cX7_began 138 = .ok (.ireturn, 1) := by decide +kernel
theorem dX7_thief_0 : decode cX7_thief 0 = .ok (.aload_n 0, 1) := by decide +kernel
theorem dX7_thief_1 : decode cX7_thief 1 = .ok (.iload_n 1, 1) := by decide +kernel
theorem dX7_thief_2 : decode cX7_thief 2 = .ok (.invokevirtual 161, 3) := by decide +kernel
theorem dX7_thief_5 : decode cX7_thief 5 = .ok (.ifCond .ne 9, 3) := by decide +kernel
theorem dX7_thief_8 : decode cX7_thief 8 = .ok (.aload_n 0, 1) := by decide +kernel
theorem dX7_thief_9 : decode cX7_thief 9 = .ok (.iconst (-1), 1) := by decide +kernel
theorem dX7_thief_10 : decode cX7_thief 10 = .ok (.invokevirtual 136, 3) := by decide +kernel
theorem dX7_thief_13 : decode cX7_thief 13 = .ok (.ireturn, 1) := by decide +kernel
theorem dX7_thief_14 : decode cX7_thief 14 = .ok (.iconst (-1), 1) := by decide +kernel
theorem dX7_thief_15 : decode cX7_thief 15 = .ok (.istore_n 3, 1) := by decide +kernel
theorem dX7_thief_16 : decode cX7_thief 16 = .ok (.aload_n 0, 1) := by decide +kernel
theorem dX7_thief_17 : decode cX7_thief 17 = .ok (.getfield 126, 3) := by decide +kernel
theorem dX7_thief_20 : decode cX7_thief 20 = .ok (.iconst 1, 1) := by decide +kernel
theorem dX7_thief_21 : decode cX7_thief 21 = .ok (.isub, 1) := by decide +kernel
theorem dX7_thief_22 : decode cX7_thief 22 = .ok (.istore 4, 2) := by decide +kernel
theorem dX7_thief_24 : decode cX7_thief 24 = .ok (.iload 4, 2) := by decide +kernel
theorem dX7_thief_26 : decode cX7_thief 26 = .ok (.ifCond .lt 23, 3) := by decide +kernel
theorem dX7_thief_29 : decode cX7_thief 29 = .ok (.aload_n 0, 1) := by decide +kernel
theorem dX7_thief_30 : decode cX7_thief 30 = .ok (.getfield 44, 3) := by decide +kernel
theorem dX7_thief_33 : decode cX7_thief 33 = .ok (.iload 4, 2) := by decide +kernel
theorem dX7_thief_35 : decode cX7_thief 35 = .ok (.iaload, 1) := by decide +kernel
theorem dX7_thief_36 : decode cX7_thief 36 = .ok (.iload_n 1, 1) := by decide +kernel
theorem dX7_thief_37 : decode cX7_thief 37 = .ok (.if_icmp .ne 6, 3) := by decide +kernel
theorem dX7_thief_40 : decode cX7_thief 40 = .ok (.iload 4, 2) := by decide +kernel
theorem dX7_thief_42 : decode cX7_thief 42 = .ok (.istore_n 3, 1) := by decide +kernel
theorem dX7_thief_43 : decode cX7_thief 43 = .ok (.iinc 4 (-1), 3) := by decide +kernel
theorem dX7_thief_46 : decode cX7_thief 46 = .ok (.goto (-22), 3) := by decide +kernel
theorem dX7_thief_49 : decode cX7_thief 49 = .ok (.iload_n 3, 1) := by decide +kernel
theorem dX7_thief_50 : decode cX7_thief 50 = .ok (.iconst (-1), 1) := by decide +kernel
theorem dX7_thief_51 : decode cX7_thief 51 = .ok (.if_icmp .ne 10, 3) := by decide +kernel
theorem dX7_thief_54 : decode cX7_thief 54 = .ok (.aload_n 0, 1) := by decide +kernel
theorem dX7_thief_55 : decode cX7_thief 55 = .ok (.bipush (-5), 2) := by decide +kernel
theorem dX7_thief_57 : decode cX7_thief 57 = .ok (.invokevirtual 136, 3) := by decide +kernel
theorem dX7_thief_60 : decode cX7_thief 60 = .ok (.ireturn, 1) := by decide +kernel
theorem dX7_thief_61 : decode cX7_thief 61 = .ok (.aload_n 0, 1) := by decide +kernel
theorem dX7_thief_62 : decode cX7_thief 62 = .ok (.iload_n 2, 1) := by decide +kernel
theorem dX7_thief_63 : decode cX7_thief 63 = .ok (.invokevirtual 287, 3) := by decide +kernel
theorem dX7_thief_66 : decode cX7_thief 66 = .ok (.ifCond .ne 10, 3) := by decide +kernel
theorem dX7_thief_69 : decode cX7_thief 69 = .ok (.aload_n 0, 1) := by decide +kernel
theorem dX7_thief_70 : decode cX7_thief 70 = .ok (.bipush (-6), 2) := by decide +kernel
theorem dX7_thief_72 : decode cX7_thief 72 = .ok (.invokevirtual 136, 3) := by decide +kernel
theorem dX7_thief_75 : decode cX7_thief 75 = .ok (.ireturn, 1) := by decide +kernel
theorem dX7_thief_76 : decode cX7_thief 76 = .ok (.aload_n 0, 1) := by decide +kernel
theorem dX7_thief_77 : decode cX7_thief 77 = .ok (.invokevirtual 290, 3) := by decide +kernel
theorem dX7_thief_80 : decode cX7_thief 80 = .ok (.aload_n 0, 1) := by decide +kernel
theorem dX7_thief_81 : decode cX7_thief 81 = .ok (.iload_n 2, 1) := by decide +kernel
theorem dX7_thief_82 : decode cX7_thief 82 = .ok (.invokevirtual 293, 3) := by decide +kernel
theorem dX7_thief_85 : decode cX7_thief 85 = .ok (.pop, 1) := by decide +kernel
theorem dX7_thief_86 : decode cX7_thief 86 = .ok (.aload_n 0, 1) := by decide +kernel
theorem dX7_thief_87 : decode cX7_thief 87 = .ok (.getfield 38, 3) := by decide +kernel
theorem dX7_thief_90 : decode cX7_thief 90 = .ok (.iload_n 3, 1) := by decide +kernel
theorem dX7_thief_91 : decode cX7_thief 91 = .ok (.iaload, 1) := by decide +kernel
theorem dX7_thief_92 : decode cX7_thief 92 = .ok (.istore 4, 2) := by decide +kernel
theorem dX7_thief_94 : decode cX7_thief 94 = .ok (.aload_n 0, 1) := by decide +kernel
theorem dX7_thief_95 : decode cX7_thief 95 = .ok (.invokevirtual 296, 3) := by decide +kernel
theorem dX7_thief_98 : decode cX7_thief 98 = .ok (.iload 4, 2) := by decide +kernel
theorem dX7_thief_100 : decode cX7_thief 100 = .ok (.ireturn, 1) := by decide +kernel
theorem dX7_goesOn_0 : decode cX7_goesOn 0 = .ok (.aload_n 0, 1) := by decide +kernel
theorem dX7_goesOn_1 : decode cX7_goesOn 1 = .ok (.iload_n 1, 1) := by decide +kernel
theorem dX7_goesOn_2 : decode cX7_goesOn 2 = .ok (.invokevirtual 293, 3) := by decide +kernel
theorem dX7_goesOn_5 : decode cX7_goesOn 5 = .ok (.istore_n 2, 1) := by decide +kernel
theorem dX7_goesOn_6 : decode cX7_goesOn 6 = .ok (.aload_n 0, 1) := by decide +kernel
theorem dX7_goesOn_7 : decode cX7_goesOn 7 = .ok (.dup, 1) := by decide +kernel
theorem dX7_goesOn_8 : decode cX7_goesOn 8 = .ok (.getfield 245, 3) := by decide +kernel
theorem dX7_goesOn_11 : decode cX7_goesOn 11 = .ok (.iload_n 1, 1) := by decide +kernel
theorem dX7_goesOn_12 : decode cX7_goesOn 12 = .ok (.iadd, 1) := by decide +kernel
theorem dX7_goesOn_13 : decode cX7_goesOn 13 = .ok (.putfield 245, 3) := by decide +kernel
theorem dX7_goesOn_16 : decode cX7_goesOn 16 = .ok (.aload_n 0, 1) := by decide +kernel
theorem dX7_goesOn_17 : decode cX7_goesOn 17 = .ok (.dup, 1) := by decide +kernel
theorem dX7_goesOn_18 : decode cX7_goesOn 18 = .ok (.getfield 248, 3) := by decide +kernel
theorem dX7_goesOn_21 : decode cX7_goesOn 21 = .ok (.iload_n 2, 1) := by decide +kernel
theorem dX7_goesOn_22 : decode cX7_goesOn 22 = .ok (.iadd, 1) := by decide +kernel
theorem dX7_goesOn_23 : decode cX7_goesOn 23 = .ok (.putfield 248, 3) := by decide +kernel
theorem dX7_goesOn_26 : decode cX7_goesOn 26 = .ok (.iload_n 2, 1) := by decide +kernel
theorem dX7_goesOn_27 : decode cX7_goesOn 27 = .ok (.ireturn, 1) := by decide +kernel
theorem dX7_beat_0 : decode cX7_beat 0 = .ok (.iload_n 1, 1) := by decide +kernel
theorem dX7_beat_1 : decode cX7_beat 1 = .ok (.iconst 1, 1) := by decide +kernel
theorem dX7_beat_2 : decode cX7_beat 2 = .ok (.if_icmp .lt 17, 3) := by decide +kernel
theorem dX7_beat_5 : decode cX7_beat 5 = .ok (.iload_n 1, 1) := by decide +kernel
theorem dX7_beat_6 : decode cX7_beat 6 = .ok (.bipush 99, 2) := by decide +kernel
theorem dX7_beat_8 : decode cX7_beat 8 = .ok (.if_icmp .gt 11, 3) := by decide +kernel
theorem dX7_beat_11 : decode cX7_beat 11 = .ok (.aload_n 0, 1) := by decide +kernel
theorem dX7_beat_12 : decode cX7_beat 12 = .ok (.iload_n 1, 1) := by decide +kernel
theorem dX7_beat_13 : decode cX7_beat 13 = .ok (.invokevirtual 238, 3) := by decide +kernel
theorem dX7_beat_16 : decode cX7_beat 16 = .ok (.goto 9, 3) := by decide +kernel
theorem dX7_beat_19 : decode cX7_beat 19 = .ok (.aload_n 0, 1) := by decide +kernel
theorem dX7_beat_20 : decode cX7_beat 20 = .ok (.bipush (-6), 2) := by decide +kernel
theorem dX7_beat_22 : decode cX7_beat 22 = .ok (.invokevirtual 136, 3) := by decide +kernel
theorem dX7_beat_25 : decode cX7_beat 25 = .ok (.ireturn, 1) := by decide +kernel
theorem dX7_draw_0 : decode cX7_draw 0 = .ok (.aload_n 0, 1) := by decide +kernel
theorem dX7_draw_1 : decode cX7_draw 1 = .ok (.aload_n 0, 1) := by decide +kernel
theorem dX7_draw_2 : decode cX7_draw 2 = .ok (.getfield 7, 3) := by decide +kernel
theorem dX7_draw_5 : decode cX7_draw 5 = .ok (.ldc_w 326, 3) := by decide +kernel
theorem dX7_draw_8 : decode cX7_draw 8 = .ok (.imul, 1) := by decide +kernel
theorem dX7_draw_9 : decode cX7_draw 9 = .ok (.sipush 12345, 3) := by decide +kernel
theorem dX7_draw_12 : decode cX7_draw 12 = .ok (.iadd, 1) := by decide +kernel
theorem dX7_draw_13 : decode cX7_draw 13 = .ok (.putfield 7, 3) := by decide +kernel
theorem dX7_draw_16 : decode cX7_draw 16 = .ok (.aload_n 0, 1) := by decide +kernel
theorem dX7_draw_17 : decode cX7_draw 17 = .ok (.getfield 7, 3) := by decide +kernel
theorem dX7_draw_20 : decode cX7_draw 20 = .ok (.bipush 16, 2) := by decide +kernel
theorem dX7_draw_22 : decode cX7_draw 22 = .ok (.iushr, 1) := by decide +kernel
theorem dX7_draw_23 : decode cX7_draw 23 = .ok (.iload_n 1, 1) := by decide +kernel
theorem dX7_draw_24 : decode cX7_draw 24 = .ok (.irem, 1) := by decide +kernel
theorem dX7_draw_25 : decode cX7_draw 25 = .ok (.ireturn, 1) := by decide +kernel
theorem dX7_strangers_0 : decode cX7_strangers 0 = .ok (.aload_n 0, 1) := by decide +kernel
theorem dX7_strangers_1 : decode cX7_strangers 1 = .ok (.getfield 129, 3) := by decide +kernel
theorem dX7_strangers_4 : decode cX7_strangers 4 = .ok (.ifCond .ne 10, 3) := by decide +kernel
theorem dX7_strangers_7 : decode cX7_strangers 7 = .ok (.aload_n 0, 1) := by decide +kernel
theorem dX7_strangers_8 : decode cX7_strangers 8 = .ok (.bipush (-5), 2) := by decide +kernel
theorem dX7_strangers_10 : decode cX7_strangers 10 = .ok (.invokevirtual 136, 3) := by decide +kernel
theorem dX7_strangers_13 : decode cX7_strangers 13 = .ok (.ireturn, 1) := by decide +kernel
theorem dX7_strangers_14 : decode cX7_strangers 14 = .ok (.iload_n 1, 1) := by decide +kernel
theorem dX7_strangers_15 : decode cX7_strangers 15 = .ok (.iconst 1, 1) := by decide +kernel
theorem dX7_strangers_16 : decode cX7_strangers 16 = .ok (.if_icmp .lt 9, 3) := by decide +kernel
theorem dX7_strangers_19 : decode cX7_strangers 19 = .ok (.iload_n 1, 1) := by decide +kernel
theorem dX7_strangers_20 : decode cX7_strangers 20 = .ok (.bipush 6, 2) := by decide +kernel
theorem dX7_strangers_22 : decode cX7_strangers 22 = .ok (.if_icmp .le 10, 3) := by decide +kernel
theorem dX7_strangers_25 : decode cX7_strangers 25 = .ok (.aload_n 0, 1) := by decide +kernel
theorem dX7_strangers_26 : decode cX7_strangers 26 = .ok (.bipush (-6), 2) := by decide +kernel
theorem dX7_strangers_28 : decode cX7_strangers 28 = .ok (.invokevirtual 136, 3) := by decide +kernel
theorem dX7_strangers_31 : decode cX7_strangers 31 = .ok (.ireturn, 1) := by decide +kernel
theorem dX7_strangers_32 : decode cX7_strangers 32 = .ok (.iconst 0, 1) := by decide +kernel
theorem dX7_strangers_33 : decode cX7_strangers 33 = .ok (.istore_n 2, 1) := by decide +kernel
theorem dX7_strangers_34 : decode cX7_strangers 34 = .ok (.iconst 0, 1) := by decide +kernel
theorem dX7_strangers_35 : decode cX7_strangers 35 = .ok (.istore_n 3, 1) := by decide +kernel
theorem dX7_strangers_36 : decode cX7_strangers 36 = .ok (.iload_n 3, 1) := by decide +kernel
theorem dX7_strangers_37 : decode cX7_strangers 37 = .ok (.iload_n 1, 1) := by decide +kernel
theorem dX7_strangers_38 : decode cX7_strangers 38 = .ok (.if_icmp .ge 112, 3) := by decide +kernel
theorem dX7_strangers_41 : decode cX7_strangers 41 = .ok (.aload_n 0, 1) := by decide +kernel
theorem dX7_strangers_42 : decode cX7_strangers 42 = .ok (.getfield 126, 3) := by decide +kernel
theorem dX7_strangers_45 : decode cX7_strangers 45 = .ok (.bipush 6, 2) := by decide +kernel
theorem dX7_strangers_47 : decode cX7_strangers 47 = .ok (.if_icmp .ge 103, 3) := by decide +kernel
theorem dX7_strangers_50 : decode cX7_strangers 50 = .ok (.iconst (-1), 1) := by decide +kernel
theorem dX7_strangers_51 : decode cX7_strangers 51 = .ok (.istore 4, 2) := by decide +kernel
theorem dX7_strangers_53 : decode cX7_strangers 53 = .ok (.iconst 0, 1) := by decide +kernel
theorem dX7_strangers_54 : decode cX7_strangers 54 = .ok (.istore 5, 2) := by decide +kernel
theorem dX7_strangers_56 : decode cX7_strangers 56 = .ok (.iload 5, 2) := by decide +kernel
theorem dX7_strangers_58 : decode cX7_strangers 58 = .ok (.bipush 100, 2) := by decide +kernel
theorem dX7_strangers_60 : decode cX7_strangers 60 = .ok (.if_icmp .ge 46, 3) := by decide +kernel
theorem dX7_strangers_63 : decode cX7_strangers 63 = .ok (.iload 4, 2) := by decide +kernel
theorem dX7_strangers_65 : decode cX7_strangers 65 = .ok (.iconst (-1), 1) := by decide +kernel
theorem dX7_strangers_66 : decode cX7_strangers 66 = .ok (.if_icmp .ne 40, 3) := by decide +kernel
theorem dX7_strangers_69 : decode cX7_strangers 69 = .ok (.aload_n 0, 1) := by decide +kernel
theorem dX7_strangers_70 : decode cX7_strangers 70 = .ok (.bipush 49, 2) := by decide +kernel
theorem dX7_strangers_72 : decode cX7_strangers 72 = .ok (.invokevirtual 327, 3) := by decide +kernel
theorem dX7_strangers_75 : decode cX7_strangers 75 = .ok (.istore 6, 2) := by decide +kernel
theorem dX7_strangers_77 : decode cX7_strangers 77 = .ok (.aload_n 0, 1) := by decide +kernel
theorem dX7_strangers_78 : decode cX7_strangers 78 = .ok (.getfield 29, 3) := by decide +kernel
theorem dX7_strangers_81 : decode cX7_strangers 81 = .ok (.iload 6, 2) := by decide +kernel
theorem dX7_strangers_83 : decode cX7_strangers 83 = .ok (.iaload, 1) := by decide +kernel
theorem dX7_strangers_84 : decode cX7_strangers 84 = .ok (.ifCond .ne 16, 3) := by decide +kernel
theorem dX7_strangers_87 : decode cX7_strangers 87 = .ok (.aload_n 0, 1) := by decide +kernel
theorem dX7_strangers_88 : decode cX7_strangers 88 = .ok (.iload 6, 2) := by decide +kernel
theorem dX7_strangers_90 : decode cX7_strangers 90 = .ok (.invokevirtual 177, 3) := by decide +kernel
theorem dX7_strangers_93 : decode cX7_strangers 93 = .ok (.ifCond .ne 7, 3) := by decide +kernel
theorem dX7_strangers_96 : decode cX7_strangers 96 = .ok (.iload 6, 2) := by decide +kernel
theorem dX7_strangers_98 : decode cX7_strangers 98 = .ok (.istore 4, 2) := by decide +kernel
theorem dX7_strangers_100 : decode cX7_strangers 100 = .ok (.iinc 5 1, 3) := by decide +kernel
theorem dX7_strangers_103 : decode cX7_strangers 103 = .ok (.goto (-47), 3) := by decide +kernel
theorem dX7_strangers_106 : decode cX7_strangers 106 = .ok (.iload 4, 2) := by decide +kernel
theorem dX7_strangers_108 : decode cX7_strangers 108 = .ok (.iconst (-1), 1) := by decide +kernel
theorem dX7_strangers_109 : decode cX7_strangers 109 = .ok (.if_icmp .ne 6, 3) := by decide +kernel
theorem dX7_strangers_112 : decode cX7_strangers 112 = .ok (.goto 32, 3) := by decide +kernel
theorem dX7_strangers_115 : decode cX7_strangers 115 = .ok (.aload_n 0, 1) := by decide +kernel
theorem dX7_strangers_116 : decode cX7_strangers 116 = .ok (.iconst 4, 1) := by decide +kernel
theorem dX7_strangers_117 : decode cX7_strangers 117 = .ok (.invokevirtual 327, 3) := by decide +kernel
theorem dX7_strangers_120 : decode cX7_strangers 120 = .ok (.istore 5, 2) := by decide +kernel
theorem dX7_strangers_122 : decode cX7_strangers 122 = .ok (.aload_n 0, 1) := by decide +kernel
theorem dX7_strangers_123 : decode cX7_strangers 123 = .ok (.iconst 0, 1) := by decide +kernel
theorem dX7_strangers_124 : decode cX7_strangers 124 = .ok (.iload 4, 2) := by decide +kernel
theorem dX7_strangers_126 : decode cX7_strangers 126 = .ok (.iload 5, 2) := by decide +kernel
theorem dX7_strangers_128 : decode cX7_strangers 128 = .ok (.aload_n 0, 1) := by decide +kernel
theorem dX7_strangers_129 : decode cX7_strangers 129 = .ok (.aload_n 0, 1) := by decide +kernel
theorem dX7_strangers_130 : decode cX7_strangers 130 = .ok (.getfield 129, 3) := by decide +kernel
theorem dX7_strangers_133 : decode cX7_strangers 133 = .ok (.invokevirtual 327, 3) := by decide +kernel
theorem dX7_strangers_136 : decode cX7_strangers 136 = .ok (.iconst 0, 1) := by decide +kernel
theorem dX7_strangers_137 : decode cX7_strangers 137 = .ok (.invokevirtual 170, 3) := by decide +kernel
theorem dX7_strangers_140 : decode cX7_strangers 140 = .ok (.pop, 1) := by decide +kernel
theorem dX7_strangers_141 : decode cX7_strangers 141 = .ok (.iinc 2 1, 3) := by decide +kernel
theorem dX7_strangers_144 : decode cX7_strangers 144 = .ok (.iinc 3 1, 3) := by decide +kernel
theorem dX7_strangers_147 : decode cX7_strangers 147 = .ok (.goto (-111), 3) := by decide +kernel
theorem dX7_strangers_150 : decode cX7_strangers 150 = .ok (.iload_n 2, 1) := by decide +kernel
theorem dX7_strangers_151 : decode cX7_strangers 151 = .ok (.ireturn, 1) := by decide +kernel
theorem dX7_goes_0 : decode cX7_goes 0 = .ok (.aload_n 0, 1) := by decide +kernel
theorem dX7_goes_1 : decode cX7_goes 1 = .ok (.getfield 126, 3) := by decide +kernel
theorem dX7_goes_4 : decode cX7_goes 4 = .ok (.ifCond .ne 10, 3) := by decide +kernel
theorem dX7_goes_7 : decode cX7_goes 7 = .ok (.aload_n 0, 1) := by decide +kernel
theorem dX7_goes_8 : decode cX7_goes 8 = .ok (.bipush (-6), 2) := by decide +kernel
theorem dX7_goes_10 : decode cX7_goes 10 = .ok (.invokevirtual 136, 3) := by decide +kernel
theorem dX7_goes_13 : decode cX7_goes 13 = .ok (.ireturn, 1) := by decide +kernel
theorem dX7_goes_14 : decode cX7_goes 14 = .ok (.aload_n 0, 1) := by decide +kernel
theorem dX7_goes_15 : decode cX7_goes 15 = .ok (.dup, 1) := by decide +kernel
theorem dX7_goes_16 : decode cX7_goes 16 = .ok (.getfield 126, 3) := by decide +kernel
theorem dX7_goes_19 : decode cX7_goes 19 = .ok (.iconst 1, 1) := by decide +kernel
theorem dX7_goes_20 : decode cX7_goes 20 = .ok (.isub, 1) := by decide +kernel
theorem dX7_goes_21 : decode cX7_goes 21 = .ok (.putfield 126, 3) := by decide +kernel
theorem dX7_goes_24 : decode cX7_goes 24 = .ok (.iconst 0, 1) := by decide +kernel
theorem dX7_goes_25 : decode cX7_goes 25 = .ok (.istore_n 1, 1) := by decide +kernel
theorem dX7_goes_26 : decode cX7_goes 26 = .ok (.iload_n 1, 1) := by decide +kernel
theorem dX7_goes_27 : decode cX7_goes 27 = .ok (.bipush 8, 2) := by decide +kernel
theorem dX7_goes_29 : decode cX7_goes 29 = .ok (.if_icmp .ge 39, 3) := by decide +kernel
theorem dX7_goes_32 : decode cX7_goes 32 = .ok (.aload_n 0, 1) := by decide +kernel
theorem dX7_goes_33 : decode cX7_goes 33 = .ok (.getfield 68, 3) := by decide +kernel
theorem dX7_goes_36 : decode cX7_goes 36 = .ok (.iload_n 1, 1) := by decide +kernel
theorem dX7_goes_37 : decode cX7_goes 37 = .ok (.iaload, 1) := by decide +kernel
theorem dX7_goes_38 : decode cX7_goes 38 = .ok (.iconst 2, 1) := by decide +kernel
theorem dX7_goes_39 : decode cX7_goes 39 = .ok (.if_icmp .ne 23, 3) := by decide +kernel
theorem dX7_goes_42 : decode cX7_goes 42 = .ok (.aload_n 0, 1) := by decide +kernel
theorem dX7_goes_43 : decode cX7_goes 43 = .ok (.getfield 77, 3) := by decide +kernel
theorem dX7_goes_46 : decode cX7_goes 46 = .ok (.iload_n 1, 1) := by decide +kernel
theorem dX7_goes_47 : decode cX7_goes 47 = .ok (.iaload, 1) := by decide +kernel
theorem dX7_goes_48 : decode cX7_goes 48 = .ok (.aload_n 0, 1) := by decide +kernel
theorem dX7_goes_49 : decode cX7_goes 49 = .ok (.getfield 126, 3) := by decide +kernel
theorem dX7_goes_52 : decode cX7_goes 52 = .ok (.if_icmp .ne 10, 3) := by decide +kernel
theorem dX7_goes_55 : decode cX7_goes 55 = .ok (.aload_n 0, 1) := by decide +kernel
theorem dX7_goes_56 : decode cX7_goes 56 = .ok (.getfield 68, 3) := by decide +kernel
theorem dX7_goes_59 : decode cX7_goes 59 = .ok (.iload_n 1, 1) := by decide +kernel
theorem dX7_goes_60 : decode cX7_goes 60 = .ok (.iconst 0, 1) := by decide +kernel
theorem dX7_goes_61 : decode cX7_goes 61 = .ok (.iastore, 1) := by decide +kernel
theorem dX7_goes_62 : decode cX7_goes 62 = .ok (.iinc 1 1, 3) := by decide +kernel
theorem dX7_goes_65 : decode cX7_goes 65 = .ok (.goto (-39), 3) := by decide +kernel
theorem dX7_goes_68 : decode cX7_goes 68 = .ok (.aload_n 0, 1) := by decide +kernel
theorem dX7_goes_69 : decode cX7_goes 69 = .ok (.getfield 126, 3) := by decide +kernel
theorem dX7_goes_72 : decode cX7_goes 72 = .ok (.ireturn, 1) := by decide +kernel
theorem dX7_teach_0 : decode cX7_teach 0 = .ok (.aload_n 0, 1) := by decide +kernel
theorem dX7_teach_1 : decode cX7_teach 1 = .ok (.iload_n 1, 1) := by decide +kernel
theorem dX7_teach_2 : decode cX7_teach 2 = .ok (.invokevirtual 140, 3) := by decide +kernel
theorem dX7_teach_5 : decode cX7_teach 5 = .ok (.ifCond .eq 11, 3) := by decide +kernel
theorem dX7_teach_8 : decode cX7_teach 8 = .ok (.aload_n 0, 1) := by decide +kernel
theorem dX7_teach_9 : decode cX7_teach 9 = .ok (.iload_n 2, 1) := by decide +kernel
theorem dX7_teach_10 : decode cX7_teach 10 = .ok (.invokevirtual 161, 3) := by decide +kernel
theorem dX7_teach_13 : decode cX7_teach 13 = .ok (.ifCond .ne 9, 3) := by decide +kernel
theorem dX7_teach_16 : decode cX7_teach 16 = .ok (.aload_n 0, 1) := by decide +kernel
theorem dX7_teach_17 : decode cX7_teach 17 = .ok (.iconst (-1), 1) := by decide +kernel
theorem dX7_teach_18 : decode cX7_teach 18 = .ok (.invokevirtual 136, 3) := by decide +kernel
theorem dX7_teach_21 : decode cX7_teach 21 = .ok (.ireturn, 1) := by decide +kernel
theorem dX7_teach_22 : decode cX7_teach 22 = .ok (.aload_n 0, 1) := by decide +kernel
theorem dX7_teach_23 : decode cX7_teach 23 = .ok (.getfield 44, 3) := by decide +kernel
theorem dX7_teach_26 : decode cX7_teach 26 = .ok (.iload_n 1, 1) := by decide +kernel
theorem dX7_teach_27 : decode cX7_teach 27 = .ok (.iaload, 1) := by decide +kernel
theorem dX7_teach_28 : decode cX7_teach 28 = .ok (.istore_n 3, 1) := by decide +kernel
theorem dX7_teach_29 : decode cX7_teach 29 = .ok (.aload_n 0, 1) := by decide +kernel
theorem dX7_teach_30 : decode cX7_teach 30 = .ok (.getfield 44, 3) := by decide +kernel
theorem dX7_teach_33 : decode cX7_teach 33 = .ok (.iload_n 1, 1) := by decide +kernel
theorem dX7_teach_34 : decode cX7_teach 34 = .ok (.iload_n 2, 1) := by decide +kernel
theorem dX7_teach_35 : decode cX7_teach 35 = .ok (.iastore, 1) := by decide +kernel
theorem dX7_teach_36 : decode cX7_teach 36 = .ok (.aload_n 0, 1) := by decide +kernel
theorem dX7_teach_37 : decode cX7_teach 37 = .ok (.getfield 47, 3) := by decide +kernel
theorem dX7_teach_40 : decode cX7_teach 40 = .ok (.iload_n 1, 1) := by decide +kernel
theorem dX7_teach_41 : decode cX7_teach 41 = .ok (.iconst 0, 1) := by decide +kernel
theorem dX7_teach_42 : decode cX7_teach 42 = .ok (.iastore, 1) := by decide +kernel
theorem dX7_teach_43 : decode cX7_teach 43 = .ok (.iload_n 3, 1) := by decide +kernel
theorem dX7_teach_44 : decode cX7_teach 44 = .ok (.ireturn, 1) := by decide +kernel
theorem dX7_seed_0 : decode cX7_seed 0 = .ok (.aload_n 0, 1) := by decide +kernel
theorem dX7_seed_1 : decode cX7_seed 1 = .ok (.getfield 7, 3) := by decide +kernel
theorem dX7_seed_4 : decode cX7_seed 4 = .ok (.istore_n 2, 1) := by decide +kernel
theorem dX7_seed_5 : decode cX7_seed 5 = .ok (.aload_n 0, 1) := by decide +kernel
theorem dX7_seed_6 : decode cX7_seed 6 = .ok (.iload_n 1, 1) := by decide +kernel
theorem dX7_seed_7 : decode cX7_seed 7 = .ok (.putfield 7, 3) := by decide +kernel
theorem dX7_seed_10 : decode cX7_seed 10 = .ok (.iload_n 2, 1) := by decide +kernel
theorem dX7_seed_11 : decode cX7_seed 11 = .ok (.ireturn, 1) := by decide +kernel
theorem dX7_body_0 : decode cX7_body 0 = .ok (.aload_n 0, 1) := by decide +kernel
theorem dX7_body_1 : decode cX7_body 1 = .ok (.getfield 330, 3) := by decide +kernel
theorem dX7_body_4 : decode cX7_body 4 = .ok (.bipush 20, 2) := by decide +kernel
theorem dX7_body_6 : decode cX7_body 6 = .ok (.if_icmp .ge 13, 3) := by decide +kernel
theorem dX7_body_9 : decode cX7_body 9 = .ok (.aload_n 0, 1) := by decide +kernel
theorem dX7_body_10 : decode cX7_body 10 = .ok (.getfield 123, 3) := by decide +kernel
theorem dX7_body_13 : decode cX7_body 13 = .ok (.aload_n 0, 1) := by decide +kernel
theorem dX7_body_14 : decode cX7_body 14 = .ok (.getfield 330, 3) := by decide +kernel
theorem dX7_body_17 : decode cX7_body 17 = .ok (.iload_n 1, 1) := by decide +kernel
theorem dX7_body_18 : decode cX7_body 18 = .ok (.iastore, 1) := by decide +kernel
theorem dX7_body_19 : decode cX7_body 19 = .ok (.aload_n 0, 1) := by decide +kernel
theorem dX7_body_20 : decode cX7_body 20 = .ok (.dup, 1) := by decide +kernel
theorem dX7_body_21 : decode cX7_body 21 = .ok (.getfield 330, 3) := by decide +kernel
theorem dX7_body_24 : decode cX7_body 24 = .ok (.iconst 1, 1) := by decide +kernel
theorem dX7_body_25 : decode cX7_body 25 = .ok (.iadd, 1) := by decide +kernel
theorem dX7_body_26 : decode cX7_body 26 = .ok (.putfield 330, 3) := by decide +kernel
theorem dX7_body_29 : decode cX7_body 29 = .ok (.return_, 1) := by decide +kernel
theorem dX7_stepping_0 : decode cX7_stepping 0 = .ok (.aload_n 0, 1) := by decide +kernel
theorem dX7_stepping_1 : decode cX7_stepping 1 = .ok (.getfield 32, 3) := by decide +kernel
theorem dX7_stepping_4 : decode cX7_stepping 4 = .ok (.iload_n 1, 1) := by decide +kernel
theorem dX7_stepping_5 : decode cX7_stepping 5 = .ok (.iaload, 1) := by decide +kernel
theorem dX7_stepping_6 : decode cX7_stepping 6 = .ok (.istore_n 3, 1) := by decide +kernel
theorem dX7_stepping_7 : decode cX7_stepping 7 = .ok (.iload_n 3, 1) := by decide +kernel
theorem dX7_stepping_8 : decode cX7_stepping 8 = .ok (.iconst 4, 1) := by decide +kernel
theorem dX7_stepping_9 : decode cX7_stepping 9 = .ok (.if_icmp .ne 9, 3) := by decide +kernel
theorem dX7_stepping_12 : decode cX7_stepping 12 = .ok (.aload_n 0, 1) := by decide +kernel
theorem dX7_stepping_13 : decode cX7_stepping 13 = .ok (.bipush 51, 2) := by decide +kernel
theorem dX7_stepping_15 : decode cX7_stepping 15 = .ok (.invokevirtual 333, 3) := by decide +kernel
theorem dX7_stepping_18 : decode cX7_stepping 18 = .ok (.iload_n 3, 1) := by decide +kernel
theorem dX7_stepping_19 : decode cX7_stepping 19 = .ok (.bipush 6, 2) := by decide +kernel
theorem dX7_stepping_21 : decode cX7_stepping 21 = .ok (.if_icmp .ne 9, 3) := by decide +kernel
theorem dX7_stepping_24 : decode cX7_stepping 24 = .ok (.aload_n 0, 1) := by decide +kernel
theorem dX7_stepping_25 : decode cX7_stepping 25 = .ok (.bipush 70, 2) := by decide +kernel
theorem dX7_stepping_27 : decode cX7_stepping 27 = .ok (.invokevirtual 333, 3) := by decide +kernel
theorem dX7_stepping_30 : decode cX7_stepping 30 = .ok (.iload_n 3, 1) := by decide +kernel
theorem dX7_stepping_31 : decode cX7_stepping 31 = .ok (.iconst 1, 1) := by decide +kernel
theorem dX7_stepping_32 : decode cX7_stepping 32 = .ok (.if_icmp .eq 8, 3) := by decide +kernel
theorem dX7_stepping_35 : decode cX7_stepping 35 = .ok (.iload_n 3, 1) := by decide +kernel
theorem dX7_stepping_36 : decode cX7_stepping 36 = .ok (.iconst 5, 1) := by decide +kernel
theorem dX7_stepping_37 : decode cX7_stepping 37 = .ok (.if_icmp .ne 9, 3) := by decide +kernel
theorem dX7_stepping_40 : decode cX7_stepping 40 = .ok (.aload_n 0, 1) := by decide +kernel
theorem dX7_stepping_41 : decode cX7_stepping 41 = .ok (.bipush 20, 2) := by decide +kernel
theorem dX7_stepping_43 : decode cX7_stepping 43 = .ok (.invokevirtual 333, 3) := by decide +kernel
theorem dX7_stepping_46 : decode cX7_stepping 46 = .ok (.aload_n 0, 1) := by decide +kernel
theorem dX7_stepping_47 : decode cX7_stepping 47 = .ok (.bipush 10, 2) := by decide +kernel
theorem dX7_stepping_49 : decode cX7_stepping 49 = .ok (.invokevirtual 333, 3) := by decide +kernel
theorem dX7_stepping_52 : decode cX7_stepping 52 = .ok (.iload_n 3, 1) := by decide +kernel
theorem dX7_stepping_53 : decode cX7_stepping 53 = .ok (.iconst 1, 1) := by decide +kernel
theorem dX7_stepping_54 : decode cX7_stepping 54 = .ok (.if_icmp .eq 8, 3) := by decide +kernel
theorem dX7_stepping_57 : decode cX7_stepping 57 = .ok (.iload_n 3, 1) := by decide +kernel
theorem dX7_stepping_58 : decode cX7_stepping 58 = .ok (.iconst 5, 1) := by decide +kernel
theorem dX7_stepping_59 : decode cX7_stepping 59 = .ok (.if_icmp .ne 16, 3) := by decide +kernel
theorem dX7_stepping_62 : decode cX7_stepping 62 = .ok (.iload_n 2, 1) := by decide +kernel
theorem dX7_stepping_63 : decode cX7_stepping 63 = .ok (.iload_n 1, 1) := by decide +kernel
theorem dX7_stepping_64 : decode cX7_stepping 64 = .ok (.iadd, 1) := by decide +kernel
theorem dX7_stepping_65 : decode cX7_stepping 65 = .ok (.aload_n 0, 1) := by decide +kernel
theorem dX7_stepping_66 : decode cX7_stepping 66 = .ok (.getfield 35, 3) := by decide +kernel
theorem dX7_stepping_69 : decode cX7_stepping 69 = .ok (.iload_n 1, 1) := by decide +kernel
theorem dX7_stepping_70 : decode cX7_stepping 70 = .ok (.iaload, 1) := by decide +kernel
theorem dX7_stepping_71 : decode cX7_stepping 71 = .ok (.iadd, 1) := by decide +kernel
theorem dX7_stepping_72 : decode cX7_stepping 72 = .ok (.goto 6, 3) := by decide +kernel
theorem dX7_stepping_75 : decode cX7_stepping 75 = .ok (.iload_n 2, 1) := by decide +kernel
theorem dX7_stepping_76 : decode cX7_stepping 76 = .ok (.iload_n 1, 1) := by decide +kernel
theorem dX7_stepping_77 : decode cX7_stepping 77 = .ok (.iadd, 1) := by decide +kernel
theorem dX7_stepping_78 : decode cX7_stepping 78 = .ok (.istore 4, 2) := by decide +kernel
theorem dX7_stepping_80 : decode cX7_stepping 80 = .ok (.iload_n 3, 1) := by decide +kernel
theorem dX7_stepping_81 : decode cX7_stepping 81 = .ok (.iconst 4, 1) := by decide +kernel
theorem dX7_stepping_82 : decode cX7_stepping 82 = .ok (.if_icmp .ne 10, 3) := by decide +kernel
theorem dX7_stepping_85 : decode cX7_stepping 85 = .ok (.iload 4, 2) := by decide +kernel
theorem dX7_stepping_87 : decode cX7_stepping 87 = .ok (.iload_n 1, 1) := by decide +kernel
theorem dX7_stepping_88 : decode cX7_stepping 88 = .ok (.isub, 1) := by decide +kernel
theorem dX7_stepping_89 : decode cX7_stepping 89 = .ok (.goto 18, 3) := by decide +kernel
theorem dX7_stepping_92 : decode cX7_stepping 92 = .ok (.iload_n 3, 1) := by decide +kernel
theorem dX7_stepping_93 : decode cX7_stepping 93 = .ok (.bipush 6, 2) := by decide +kernel
theorem dX7_stepping_95 : decode cX7_stepping 95 = .ok (.if_icmp .ne 10, 3) := by decide +kernel
theorem dX7_stepping_98 : decode cX7_stepping 98 = .ok (.iload 4, 2) := by decide +kernel
theorem dX7_stepping_100 : decode cX7_stepping 100 = .ok (.iconst 2, 1) := by decide +kernel
theorem dX7_stepping_101 : decode cX7_stepping 101 = .ok (.imul, 1) := by decide +kernel
theorem dX7_stepping_102 : decode cX7_stepping 102 = .ok (.goto 5, 3) := by decide +kernel
theorem dX7_stepping_105 : decode cX7_stepping 105 = .ok (.iload 4, 2) := by decide +kernel
theorem dX7_stepping_107 : decode cX7_stepping 107 = .ok (.ireturn, 1) := by decide +kernel
theorem dX7_meeting_0 : decode cX7_meeting 0 = .ok (.aload_n 0, 1) := by decide +kernel
theorem dX7_meeting_1 : decode cX7_meeting 1 = .ok (.getfield 32, 3) := by decide +kernel
theorem dX7_meeting_4 : decode cX7_meeting 4 = .ok (.iload_n 1, 1) := by decide +kernel
theorem dX7_meeting_5 : decode cX7_meeting 5 = .ok (.iaload, 1) := by decide +kernel
theorem dX7_meeting_6 : decode cX7_meeting 6 = .ok (.istore_n 3, 1) := by decide +kernel
theorem dX7_meeting_7 : decode cX7_meeting 7 = .ok (.iload_n 2, 1) := by decide +kernel
theorem dX7_meeting_8 : decode cX7_meeting 8 = .ok (.istore 4, 2) := by decide +kernel
theorem dX7_meeting_10 : decode cX7_meeting 10 = .ok (.iload_n 3, 1) := by decide +kernel
theorem dX7_meeting_11 : decode cX7_meeting 11 = .ok (.bipush 6, 2) := by decide +kernel
theorem dX7_meeting_13 : decode cX7_meeting 13 = .ok (.if_icmp .ne 20, 3) := by decide +kernel
theorem dX7_meeting_16 : decode cX7_meeting 16 = .ok (.aload_n 0, 1) := by decide +kernel
theorem dX7_meeting_17 : decode cX7_meeting 17 = .ok (.bipush 71, 2) := by decide +kernel
theorem dX7_meeting_19 : decode cX7_meeting 19 = .ok (.invokevirtual 333, 3) := by decide +kernel
theorem dX7_meeting_22 : decode cX7_meeting 22 = .ok (.iload 4, 2) := by decide +kernel
theorem dX7_meeting_24 : decode cX7_meeting 24 = .ok (.aload_n 0, 1) := by decide +kernel
theorem dX7_meeting_25 : decode cX7_meeting 25 = .ok (.getfield 35, 3) := by decide +kernel
theorem dX7_meeting_28 : decode cX7_meeting 28 = .ok (.iload_n 1, 1) := by decide +kernel
theorem dX7_meeting_29 : decode cX7_meeting 29 = .ok (.iaload, 1) := by decide +kernel
theorem dX7_meeting_30 : decode cX7_meeting 30 = .ok (.isub, 1) := by decide +kernel
theorem dX7_meeting_31 : decode cX7_meeting 31 = .ok (.istore 4, 2) := by decide +kernel
theorem dX7_meeting_33 : decode cX7_meeting 33 = .ok (.aload_n 0, 1) := by decide +kernel
theorem dX7_meeting_34 : decode cX7_meeting 34 = .ok (.iload_n 3, 1) := by decide +kernel
theorem dX7_meeting_35 : decode cX7_meeting 35 = .ok (.invokevirtual 143, 3) := by decide +kernel
theorem dX7_meeting_38 : decode cX7_meeting 38 = .ok (.ifCond .eq 12, 3) := by decide +kernel
theorem dX7_meeting_41 : decode cX7_meeting 41 = .ok (.aload_n 0, 1) := by decide +kernel
theorem dX7_meeting_42 : decode cX7_meeting 42 = .ok (.bipush 40, 2) := by decide +kernel
theorem dX7_meeting_44 : decode cX7_meeting 44 = .ok (.invokevirtual 333, 3) := by decide +kernel
theorem dX7_meeting_47 : decode cX7_meeting 47 = .ok (.iinc 4 1, 3) := by decide +kernel
theorem dX7_meeting_50 : decode cX7_meeting 50 = .ok (.iload_n 3, 1) := by decide +kernel
theorem dX7_meeting_51 : decode cX7_meeting 51 = .ok (.iconst 2, 1) := by decide +kernel
theorem dX7_meeting_52 : decode cX7_meeting 52 = .ok (.if_icmp .ne 9, 3) := by decide +kernel
theorem dX7_meeting_55 : decode cX7_meeting 55 = .ok (.aload_n 0, 1) := by decide +kernel
theorem dX7_meeting_56 : decode cX7_meeting 56 = .ok (.bipush 30, 2) := by decide +kernel
theorem dX7_meeting_58 : decode cX7_meeting 58 = .ok (.invokevirtual 333, 3) := by decide +kernel
theorem dX7_meeting_61 : decode cX7_meeting 61 = .ok (.aload_n 0, 1) := by decide +kernel
theorem dX7_meeting_62 : decode cX7_meeting 62 = .ok (.bipush 11, 2) := by decide +kernel
theorem dX7_meeting_64 : decode cX7_meeting 64 = .ok (.invokevirtual 333, 3) := by decide +kernel
theorem dX7_meeting_67 : decode cX7_meeting 67 = .ok (.aload_n 0, 1) := by decide +kernel
theorem dX7_meeting_68 : decode cX7_meeting 68 = .ok (.iload_n 1, 1) := by decide +kernel
theorem dX7_meeting_69 : decode cX7_meeting 69 = .ok (.iload 4, 2) := by decide +kernel
theorem dX7_meeting_71 : decode cX7_meeting 71 = .ok (.invokevirtual 336, 3) := by decide +kernel
theorem dX7_meeting_74 : decode cX7_meeting 74 = .ok (.iconst 2, 1) := by decide +kernel
theorem dX7_meeting_75 : decode cX7_meeting 75 = .ok (.imul, 1) := by decide +kernel
theorem dX7_meeting_76 : decode cX7_meeting 76 = .ok (.istore 5, 2) := by decide +kernel
theorem dX7_meeting_78 : decode cX7_meeting 78 = .ok (.iload_n 3, 1) := by decide +kernel
theorem dX7_meeting_79 : decode cX7_meeting 79 = .ok (.iconst 2, 1) := by decide +kernel
theorem dX7_meeting_80 : decode cX7_meeting 80 = .ok (.if_icmp .ne 10, 3) := by decide +kernel
theorem dX7_meeting_83 : decode cX7_meeting 83 = .ok (.iload 5, 2) := by decide +kernel
theorem dX7_meeting_85 : decode cX7_meeting 85 = .ok (.iconst 3, 1) := by decide +kernel
theorem dX7_meeting_86 : decode cX7_meeting 86 = .ok (.imul, 1) := by decide +kernel
theorem dX7_meeting_87 : decode cX7_meeting 87 = .ok (.goto 5, 3) := by decide +kernel
theorem dX7_meeting_90 : decode cX7_meeting 90 = .ok (.iload 5, 2) := by decide +kernel
theorem dX7_meeting_92 : decode cX7_meeting 92 = .ok (.ireturn, 1) := by decide +kernel
theorem dX7_taking_0 : decode cX7_taking 0 = .ok (.aload_n 0, 1) := by decide +kernel
theorem dX7_taking_1 : decode cX7_taking 1 = .ok (.getfield 32, 3) := by decide +kernel
theorem dX7_taking_4 : decode cX7_taking 4 = .ok (.iload_n 1, 1) := by decide +kernel
theorem dX7_taking_5 : decode cX7_taking 5 = .ok (.iaload, 1) := by decide +kernel
theorem dX7_taking_6 : decode cX7_taking 6 = .ok (.istore_n 3, 1) := by decide +kernel
theorem dX7_taking_7 : decode cX7_taking 7 = .ok (.iload_n 3, 1) := by decide +kernel
theorem dX7_taking_8 : decode cX7_taking 8 = .ok (.iconst 4, 1) := by decide +kernel
theorem dX7_taking_9 : decode cX7_taking 9 = .ok (.if_icmp .ne 9, 3) := by decide +kernel
theorem dX7_taking_12 : decode cX7_taking 12 = .ok (.aload_n 0, 1) := by decide +kernel
theorem dX7_taking_13 : decode cX7_taking 13 = .ok (.bipush 50, 2) := by decide +kernel
theorem dX7_taking_15 : decode cX7_taking 15 = .ok (.invokevirtual 333, 3) := by decide +kernel
theorem dX7_taking_18 : decode cX7_taking 18 = .ok (.iload_n 3, 1) := by decide +kernel
theorem dX7_taking_19 : decode cX7_taking 19 = .ok (.iconst 5, 1) := by decide +kernel
theorem dX7_taking_20 : decode cX7_taking 20 = .ok (.if_icmp .ne 9, 3) := by decide +kernel
theorem dX7_taking_23 : decode cX7_taking 23 = .ok (.aload_n 0, 1) := by decide +kernel
theorem dX7_taking_24 : decode cX7_taking 24 = .ok (.bipush 60, 2) := by decide +kernel
theorem dX7_taking_26 : decode cX7_taking 26 = .ok (.invokevirtual 333, 3) := by decide +kernel
theorem dX7_taking_29 : decode cX7_taking 29 = .ok (.aload_n 0, 1) := by decide +kernel
theorem dX7_taking_30 : decode cX7_taking 30 = .ok (.bipush 12, 2) := by decide +kernel
theorem dX7_taking_32 : decode cX7_taking 32 = .ok (.invokevirtual 333, 3) := by decide +kernel
theorem dX7_taking_35 : decode cX7_taking 35 = .ok (.aload_n 0, 1) := by decide +kernel
theorem dX7_taking_36 : decode cX7_taking 36 = .ok (.iload_n 1, 1) := by decide +kernel
theorem dX7_taking_37 : decode cX7_taking 37 = .ok (.iload_n 2, 1) := by decide +kernel
theorem dX7_taking_38 : decode cX7_taking 38 = .ok (.invokevirtual 339, 3) := by decide +kernel
theorem dX7_taking_41 : decode cX7_taking 41 = .ok (.istore 4, 2) := by decide +kernel
theorem dX7_taking_43 : decode cX7_taking 43 = .ok (.iload 4, 2) := by decide +kernel
theorem dX7_taking_45 : decode cX7_taking 45 = .ok (.aload_n 0, 1) := by decide +kernel
theorem dX7_taking_46 : decode cX7_taking 46 = .ok (.iload_n 1, 1) := by decide +kernel
theorem dX7_taking_47 : decode cX7_taking 47 = .ok (.iload_n 2, 1) := by decide +kernel
theorem dX7_taking_48 : decode cX7_taking 48 = .ok (.aload_n 0, 1) := by decide +kernel
theorem dX7_taking_49 : decode cX7_taking 49 = .ok (.getfield 35, 3) := by decide +kernel
theorem dX7_taking_52 : decode cX7_taking 52 = .ok (.iload_n 1, 1) := by decide +kernel
theorem dX7_taking_53 : decode cX7_taking 53 = .ok (.iaload, 1) := by decide +kernel
theorem dX7_taking_54 : decode cX7_taking 54 = .ok (.isub, 1) := by decide +kernel
theorem dX7_taking_55 : decode cX7_taking 55 = .ok (.invokevirtual 336, 3) := by decide +kernel
theorem dX7_taking_58 : decode cX7_taking 58 = .ok (.ixor, 1) := by decide +kernel
theorem dX7_taking_59 : decode cX7_taking 59 = .ok (.istore 4, 2) := by decide +kernel
theorem dX7_taking_61 : decode cX7_taking 61 = .ok (.iload_n 3, 1) := by decide +kernel
theorem dX7_taking_62 : decode cX7_taking 62 = .ok (.iconst 4, 1) := by decide +kernel
theorem dX7_taking_63 : decode cX7_taking 63 = .ok (.if_icmp .ne 9, 3) := by decide +kernel
theorem dX7_taking_66 : decode cX7_taking 66 = .ok (.iload 4, 2) := by decide +kernel
theorem dX7_taking_68 : decode cX7_taking 68 = .ok (.ineg, 1) := by decide +kernel
theorem dX7_taking_69 : decode cX7_taking 69 = .ok (.goto 17, 3) := by decide +kernel
theorem dX7_taking_72 : decode cX7_taking 72 = .ok (.iload_n 3, 1) := by decide +kernel
theorem dX7_taking_73 : decode cX7_taking 73 = .ok (.iconst 5, 1) := by decide +kernel
theorem dX7_taking_74 : decode cX7_taking 74 = .ok (.if_icmp .ne 10, 3) := by decide +kernel
theorem dX7_taking_77 : decode cX7_taking 77 = .ok (.iload 4, 2) := by decide +kernel
theorem dX7_taking_79 : decode cX7_taking 79 = .ok (.iconst 5, 1) := by decide +kernel
theorem dX7_taking_80 : decode cX7_taking 80 = .ok (.ixor, 1) := by decide +kernel
theorem dX7_taking_81 : decode cX7_taking 81 = .ok (.goto 5, 3) := by decide +kernel
theorem dX7_taking_84 : decode cX7_taking 84 = .ok (.iload 4, 2) := by decide +kernel
theorem dX7_taking_86 : decode cX7_taking 86 = .ok (.ireturn, 1) := by decide +kernel
theorem dX7_act_0 : decode cX7_act 0 = .ok (.aload_n 0, 1) := by decide +kernel
theorem dX7_act_1 : decode cX7_act 1 = .ok (.iconst 0, 1) := by decide +kernel
theorem dX7_act_2 : decode cX7_act 2 = .ok (.putfield 330, 3) := by decide +kernel
theorem dX7_act_5 : decode cX7_act 5 = .ok (.aload_n 0, 1) := by decide +kernel
theorem dX7_act_6 : decode cX7_act 6 = .ok (.iload_n 1, 1) := by decide +kernel
theorem dX7_act_7 : decode cX7_act 7 = .ok (.invokevirtual 140, 3) := by decide +kernel
theorem dX7_act_10 : decode cX7_act 10 = .ok (.ifCond .eq 12, 3) := by decide +kernel
theorem dX7_act_13 : decode cX7_act 13 = .ok (.iload_n 2, 1) := by decide +kernel
theorem dX7_act_14 : decode cX7_act 14 = .ok (.ifCond .lt 8, 3) := by decide +kernel
theorem dX7_act_17 : decode cX7_act 17 = .ok (.iload_n 2, 1) := by decide +kernel
theorem dX7_act_18 : decode cX7_act 18 = .ok (.iconst 2, 1) := by decide +kernel
theorem dX7_act_19 : decode cX7_act 19 = .ok (.if_icmp .le 5, 3) := by decide +kernel
theorem dX7_act_22 : decode cX7_act 22 = .ok (.iconst 0, 1) := by decide +kernel
theorem dX7_act_23 : decode cX7_act 23 = .ok (.ireturn, 1) := by decide +kernel
theorem dX7_act_24 : decode cX7_act 24 = .ok (.iload_n 2, 1) := by decide +kernel
theorem dX7_act_25 : decode cX7_act 25 = .ok (.ifCond .ne 12, 3) := by decide +kernel
theorem dX7_act_28 : decode cX7_act 28 = .ok (.aload_n 0, 1) := by decide +kernel
theorem dX7_act_29 : decode cX7_act 29 = .ok (.iload_n 1, 1) := by decide +kernel
theorem dX7_act_30 : decode cX7_act 30 = .ok (.iload_n 3, 1) := by decide +kernel
theorem dX7_act_31 : decode cX7_act 31 = .ok (.invokevirtual 336, 3) := by decide +kernel
theorem dX7_act_34 : decode cX7_act 34 = .ok (.goto 23, 3) := by decide +kernel
theorem dX7_act_37 : decode cX7_act 37 = .ok (.iload_n 2, 1) := by decide +kernel
theorem dX7_act_38 : decode cX7_act 38 = .ok (.iconst 1, 1) := by decide +kernel
theorem dX7_act_39 : decode cX7_act 39 = .ok (.if_icmp .ne 12, 3) := by decide +kernel
theorem dX7_act_42 : decode cX7_act 42 = .ok (.aload_n 0, 1) := by decide +kernel
theorem dX7_act_43 : decode cX7_act 43 = .ok (.iload_n 1, 1) := by decide +kernel
theorem dX7_act_44 : decode cX7_act 44 = .ok (.iload_n 3, 1) := by decide +kernel
theorem dX7_act_45 : decode cX7_act 45 = .ok (.invokevirtual 339, 3) := by decide +kernel
theorem dX7_act_48 : decode cX7_act 48 = .ok (.goto 9, 3) := by decide +kernel
theorem dX7_act_51 : decode cX7_act 51 = .ok (.aload_n 0, 1) := by decide +kernel
theorem dX7_act_52 : decode cX7_act 52 = .ok (.iload_n 1, 1) := by decide +kernel
theorem dX7_act_53 : decode cX7_act 53 = .ok (.iload_n 3, 1) := by decide +kernel
theorem dX7_act_54 : decode cX7_act 54 = .ok (.invokevirtual 342, 3) := by decide +kernel
theorem dX7_act_57 : decode cX7_act 57 = .ok (.ireturn, 1) := by decide +kernel
theorem dX7_trace_0 : decode cX7_trace 0 = .ok (.iload_n 1, 1) := by decide +kernel
theorem dX7_trace_1 : decode cX7_trace 1 = .ok (.ifCond .lt 26, 3) := by decide +kernel
theorem dX7_trace_4 : decode cX7_trace 4 = .ok (.iload_n 1, 1) := by decide +kernel
theorem dX7_trace_5 : decode cX7_trace 5 = .ok (.bipush 20, 2) := by decide +kernel
theorem dX7_trace_7 : decode cX7_trace 7 = .ok (.if_icmp .ge 20, 3) := by decide +kernel
theorem dX7_trace_10 : decode cX7_trace 10 = .ok (.iload_n 1, 1) := by decide +kernel
theorem dX7_trace_11 : decode cX7_trace 11 = .ok (.aload_n 0, 1) := by decide +kernel
theorem dX7_trace_12 : decode cX7_trace 12 = .ok (.getfield 330, 3) := by decide +kernel
theorem dX7_trace_15 : decode cX7_trace 15 = .ok (.if_icmp .ge 12, 3) := by decide +kernel
theorem dX7_trace_18 : decode cX7_trace 18 = .ok (.aload_n 0, 1) := by decide +kernel
theorem dX7_trace_19 : decode cX7_trace 19 = .ok (.getfield 123, 3) := by decide +kernel
theorem dX7_trace_22 : decode cX7_trace 22 = .ok (.iload_n 1, 1) := by decide +kernel
theorem dX7_trace_23 : decode cX7_trace 23 = .ok (.iaload, 1) := by decide +kernel
theorem dX7_trace_24 : decode cX7_trace 24 = .ok (.goto 4, 3) := by decide +kernel
theorem dX7_trace_27 : decode cX7_trace 27 = .ok (.iconst (-1), 1) := by decide +kernel
theorem dX7_trace_28 : decode cX7_trace 28 = .ok (.ireturn, 1) := by decide +kernel
theorem dX7_image_0 : decode cX7_image 0 = .ok (.aload_n 0, 1) := by decide +kernel
theorem dX7_image_1 : decode cX7_image 1 = .ok (.iconst 1, 1) := by decide +kernel
theorem dX7_image_2 : decode cX7_image 2 = .ok (.putfield 345, 3) := by decide +kernel
theorem dX7_image_5 : decode cX7_image 5 = .ok (.aload_n 0, 1) := by decide +kernel
theorem dX7_image_6 : decode cX7_image 6 = .ok (.aload_n 0, 1) := by decide +kernel
theorem dX7_image_7 : decode cX7_image 7 = .ok (.getfield 99, 3) := by decide +kernel
theorem dX7_image_10 : decode cX7_image 10 = .ok (.iconst 0, 1) := by decide +kernel
theorem dX7_image_11 : decode cX7_image 11 = .ok (.invokevirtual 251, 3) := by decide +kernel
theorem dX7_image_14 : decode cX7_image 14 = .ok (.aload_n 0, 1) := by decide +kernel
theorem dX7_image_15 : decode cX7_image 15 = .ok (.getfield 126, 3) := by decide +kernel
theorem dX7_image_18 : decode cX7_image 18 = .ok (.ireturn, 1) := by decide +kernel
theorem dX7_restore_0 : decode cX7_restore 0 = .ok (.aload_n 0, 1) := by decide +kernel
theorem dX7_restore_1 : decode cX7_restore 1 = .ok (.getfield 345, 3) := by decide +kernel
theorem dX7_restore_4 : decode cX7_restore 4 = .ok (.ifCond .ne 10, 3) := by decide +kernel
theorem dX7_restore_7 : decode cX7_restore 7 = .ok (.aload_n 0, 1) := by decide +kernel
theorem dX7_restore_8 : decode cX7_restore 8 = .ok (.bipush (-6), 2) := by decide +kernel
theorem dX7_restore_10 : decode cX7_restore 10 = .ok (.invokevirtual 136, 3) := by decide +kernel
theorem dX7_restore_13 : decode cX7_restore 13 = .ok (.ireturn, 1) := by decide +kernel
theorem dX7_restore_14 : decode cX7_restore 14 = .ok (.aload_n 0, 1) := by decide +kernel
theorem dX7_restore_15 : decode cX7_restore 15 = .ok (.aload_n 0, 1) := by decide +kernel
theorem dX7_restore_16 : decode cX7_restore 16 = .ok (.getfield 99, 3) := by decide +kernel
theorem dX7_restore_19 : decode cX7_restore 19 = .ok (.iconst 1, 1) := by decide +kernel
theorem dX7_restore_20 : decode cX7_restore 20 = .ok (.invokevirtual 251, 3) := by decide +kernel
theorem dX7_restore_23 : decode cX7_restore 23 = .ok (.iconst 0, 1) := by decide +kernel
theorem dX7_restore_24 : decode cX7_restore 24 = .ok (.istore_n 1, 1) := by decide +kernel
theorem dX7_restore_25 : decode cX7_restore 25 = .ok (.iload_n 1, 1) := by decide +kernel
theorem dX7_restore_26 : decode cX7_restore 26 = .ok (.bipush 8, 2) := by decide +kernel
theorem dX7_restore_28 : decode cX7_restore 28 = .ok (.if_icmp .ge 39, 3) := by decide +kernel
theorem dX7_restore_31 : decode cX7_restore 31 = .ok (.aload_n 0, 1) := by decide +kernel
theorem dX7_restore_32 : decode cX7_restore 32 = .ok (.getfield 68, 3) := by decide +kernel
theorem dX7_restore_35 : decode cX7_restore 35 = .ok (.iload_n 1, 1) := by decide +kernel
theorem dX7_restore_36 : decode cX7_restore 36 = .ok (.iaload, 1) := by decide +kernel
theorem dX7_restore_37 : decode cX7_restore 37 = .ok (.iconst 2, 1) := by decide +kernel
theorem dX7_restore_38 : decode cX7_restore 38 = .ok (.if_icmp .ne 23, 3) := by decide +kernel
theorem dX7_restore_41 : decode cX7_restore 41 = .ok (.aload_n 0, 1) := by decide +kernel
theorem dX7_restore_42 : decode cX7_restore 42 = .ok (.getfield 77, 3) := by decide +kernel
theorem dX7_restore_45 : decode cX7_restore 45 = .ok (.iload_n 1, 1) := by decide +kernel
theorem dX7_restore_46 : decode cX7_restore 46 = .ok (.iaload, 1) := by decide +kernel
theorem dX7_restore_47 : decode cX7_restore 47 = .ok (.aload_n 0, 1) := by decide +kernel
theorem dX7_restore_48 : decode cX7_restore 48 = .ok (.getfield 126, 3) := by decide +kernel
theorem dX7_restore_51 : decode cX7_restore 51 = .ok (.if_icmp .lt 10, 3) := by decide +kernel
theorem dX7_restore_54 : decode cX7_restore 54 = .ok (.aload_n 0, 1) := by decide +kernel
theorem dX7_restore_55 : decode cX7_restore 55 = .ok (.getfield 68, 3) := by decide +kernel
theorem dX7_restore_58 : decode cX7_restore 58 = .ok (.iload_n 1, 1) := by decide +kernel
theorem dX7_restore_59 : decode cX7_restore 59 = .ok (.iconst 0, 1) := by decide +kernel
theorem dX7_restore_60 : decode cX7_restore 60 = .ok (.iastore, 1) := by decide +kernel
theorem dX7_restore_61 : decode cX7_restore 61 = .ok (.iinc 1 1, 3) := by decide +kernel
theorem dX7_restore_64 : decode cX7_restore 64 = .ok (.goto (-39), 3) := by decide +kernel
theorem dX7_restore_67 : decode cX7_restore 67 = .ok (.aload_n 0, 1) := by decide +kernel
theorem dX7_restore_68 : decode cX7_restore 68 = .ok (.getfield 126, 3) := by decide +kernel
theorem dX7_restore_71 : decode cX7_restore 71 = .ok (.ireturn, 1) := by decide +kernel
theorem dX7_status_0 : decode cX7_status 0 = .ok (.iload_n 1, 1) := by decide +kernel
theorem dX7_status_1 : decode cX7_status 1 = .ok (.bipush 11, 2) := by decide +kernel
theorem dX7_status_3 : decode cX7_status 3 = .ok (.if_icmp .lt 19, 3) := by decide +kernel
theorem dX7_status_6 : decode cX7_status 6 = .ok (.iload_n 1, 1) := by decide +kernel
theorem dX7_status_7 : decode cX7_status 7 = .ok (.bipush 17, 2) := by decide +kernel
theorem dX7_status_9 : decode cX7_status 9 = .ok (.if_icmp .gt 13, 3) := by decide +kernel
theorem dX7_status_12 : decode cX7_status 12 = .ok (.aload_n 0, 1) := by decide +kernel
theorem dX7_status_13 : decode cX7_status 13 = .ok (.getfield 16, 3) := by decide +kernel
theorem dX7_status_16 : decode cX7_status 16 = .ok (.iload_n 1, 1) := by decide +kernel
theorem dX7_status_17 : decode cX7_status 17 = .ok (.bipush 10, 2) := by decide +kernel
theorem dX7_status_19 : decode cX7_status 19 = .ok (.isub, 1) := by decide +kernel
theorem dX7_status_20 : decode cX7_status 20 = .ok (.iaload, 1) := by decide +kernel
theorem dX7_status_21 : decode cX7_status 21 = .ok (.ireturn, 1) := by decide +kernel
theorem dX7_status_22 : decode cX7_status 22 = .ok (.iconst 0, 1) := by decide +kernel
theorem dX7_status_23 : decode cX7_status 23 = .ok (.istore_n 2, 1) := by decide +kernel
theorem dX7_status_24 : decode cX7_status 24 = .ok (.iload_n 1, 1) := by decide +kernel
theorem dX7_status_25 : decode cX7_status 25 = .ok (.tableswitch 98 0 6 #[43, 48, 53, 78, 83, 88, 93], 43) := by decide +kernel
theorem dX7_status_68 : decode cX7_status 68 = .ok (.aload_n 0, 1) := by decide +kernel
theorem dX7_status_69 : decode cX7_status 69 = .ok (.getfield 129, 3) := by decide +kernel
theorem dX7_status_72 : decode cX7_status 72 = .ok (.ireturn, 1) := by decide +kernel
theorem dX7_status_73 : decode cX7_status 73 = .ok (.aload_n 0, 1) := by decide +kernel
theorem dX7_status_74 : decode cX7_status 74 = .ok (.getfield 126, 3) := by decide +kernel
theorem dX7_status_77 : decode cX7_status 77 = .ok (.ireturn, 1) := by decide +kernel
theorem dX7_status_78 : decode cX7_status 78 = .ok (.iconst 0, 1) := by decide +kernel
theorem dX7_status_79 : decode cX7_status 79 = .ok (.istore_n 3, 1) := by decide +kernel
theorem dX7_status_80 : decode cX7_status 80 = .ok (.iload_n 3, 1) := by decide +kernel
theorem dX7_status_81 : decode cX7_status 81 = .ok (.bipush 49, 2) := by decide +kernel
theorem dX7_status_83 : decode cX7_status 83 = .ok (.if_icmp .ge 18, 3) := by decide +kernel
theorem dX7_status_86 : decode cX7_status 86 = .ok (.iload_n 2, 1) := by decide +kernel
theorem dX7_status_87 : decode cX7_status 87 = .ok (.aload_n 0, 1) := by decide +kernel
theorem dX7_status_88 : decode cX7_status 88 = .ok (.getfield 29, 3) := by decide +kernel
theorem dX7_status_91 : decode cX7_status 91 = .ok (.iload_n 3, 1) := by decide +kernel
theorem dX7_status_92 : decode cX7_status 92 = .ok (.iaload, 1) := by decide +kernel
theorem dX7_status_93 : decode cX7_status 93 = .ok (.iadd, 1) := by decide +kernel
theorem dX7_status_94 : decode cX7_status 94 = .ok (.istore_n 2, 1) := by decide +kernel
theorem dX7_status_95 : decode cX7_status 95 = .ok (.iinc 3 1, 3) := by decide +kernel
theorem dX7_status_98 : decode cX7_status 98 = .ok (.goto (-18), 3) := by decide +kernel
theorem dX7_status_101 : decode cX7_status 101 = .ok (.iload_n 2, 1) := by decide +kernel
theorem dX7_status_102 : decode cX7_status 102 = .ok (.ireturn, 1) := by decide +kernel
theorem dX7_status_103 : decode cX7_status 103 = .ok (.aload_n 0, 1) := by decide +kernel
theorem dX7_status_104 : decode cX7_status 104 = .ok (.getfield 245, 3) := by decide +kernel
theorem dX7_status_107 : decode cX7_status 107 = .ok (.ireturn, 1) := by decide +kernel
theorem dX7_status_108 : decode cX7_status 108 = .ok (.aload_n 0, 1) := by decide +kernel
theorem dX7_status_109 : decode cX7_status 109 = .ok (.getfield 248, 3) := by decide +kernel
theorem dX7_status_112 : decode cX7_status 112 = .ok (.ireturn, 1) := by decide +kernel
theorem dX7_status_113 : decode cX7_status 113 = .ok (.aload_n 0, 1) := by decide +kernel
theorem dX7_status_114 : decode cX7_status 114 = .ok (.getfield 7, 3) := by decide +kernel
theorem dX7_status_117 : decode cX7_status 117 = .ok (.ireturn, 1) := by decide +kernel
theorem dX7_status_118 : decode cX7_status 118 = .ok (.aload_n 0, 1) := by decide +kernel
theorem dX7_status_119 : decode cX7_status 119 = .ok (.getfield 330, 3) := by decide +kernel
theorem dX7_status_122 : decode cX7_status 122 = .ok (.ireturn, 1) := by decide +kernel
theorem dX7_status_123 : decode cX7_status 123 = .ok (.iconst (-1), 1) := by decide +kernel
theorem dX7_status_124 : decode cX7_status 124 = .ok (.ireturn, 1) := by decide +kernel
