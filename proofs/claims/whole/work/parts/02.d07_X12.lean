theorem dX12_init_0 : decode cX12_init 0 = .ok (.aload_n 0, 1) := by decide +kernel
theorem dX12_init_1 : decode cX12_init 1 = .ok (.invokespecial 1, 3) := by decide +kernel
theorem dX12_init_4 : decode cX12_init 4 = .ok (.aload_n 0, 1) := by decide +kernel
theorem dX12_init_5 : decode cX12_init 5 = .ok (.iconst 0, 1) := by decide +kernel
theorem dX12_init_6 : decode cX12_init 6 = .ok (.putfield 7, 3) := by decide +kernel
theorem dX12_init_9 : decode cX12_init 9 = .ok (.aload_n 0, 1) := by decide +kernel
theorem dX12_init_10 : decode cX12_init 10 = .ok (.iconst 0, 1) := by decide +kernel
theorem dX12_init_11 : decode cX12_init 11 = .ok (.putfield 13, 3) := by decide +kernel
theorem dX12_init_14 : decode cX12_init 14 = .ok (.aload_n 0, 1) := by decide +kernel
theorem dX12_init_15 : decode cX12_init 15 = .ok (.iconst 0, 1) := by decide +kernel
theorem dX12_init_16 : decode cX12_init 16 = .ok (.putfield 16, 3) := by decide +kernel
theorem dX12_init_19 : decode cX12_init 19 = .ok (.aload_n 0, 1) := by decide +kernel
theorem dX12_init_20 : decode cX12_init 20 = .ok (.iconst 1, 1) := by decide +kernel
theorem dX12_init_21 : decode cX12_init 21 = .ok (.putfield 19, 3) := by decide +kernel
theorem dX12_init_24 : decode cX12_init 24 = .ok (.aload_n 0, 1) := by decide +kernel
theorem dX12_init_25 : decode cX12_init 25 = .ok (.iconst 4, 1) := by decide +kernel
theorem dX12_init_26 : decode cX12_init 26 = .ok (.newarray .int, 2) := by decide +kernel
theorem dX12_init_28 : decode cX12_init 28 = .ok (.putfield 22, 3) := by decide +kernel
theorem dX12_init_31 : decode cX12_init 31 = .ok (.aload_n 0, 1) := by decide +kernel
theorem dX12_init_32 : decode cX12_init 32 = .ok (.iconst 4, 1) := by decide +kernel
theorem dX12_init_33 : decode cX12_init 33 = .ok (.newarray .int, 2) := by decide +kernel
theorem dX12_init_35 : decode cX12_init 35 = .ok (.putfield 26, 3) := by decide +kernel
theorem dX12_init_38 : decode cX12_init 38 = .ok (.aload_n 0, 1) := by decide +kernel
theorem dX12_init_39 : decode cX12_init 39 = .ok (.iconst 4, 1) := by decide +kernel
theorem dX12_init_40 : decode cX12_init 40 = .ok (.newarray .int, 2) := by decide +kernel
theorem dX12_init_42 : decode cX12_init 42 = .ok (.putfield 29, 3) := by decide +kernel
theorem dX12_init_45 : decode cX12_init 45 = .ok (.aload_n 0, 1) := by decide +kernel
theorem dX12_init_46 : decode cX12_init 46 = .ok (.iconst 4, 1) := by decide +kernel
theorem dX12_init_47 : decode cX12_init 47 = .ok (.newarray .int, 2) := by decide +kernel
theorem dX12_init_49 : decode cX12_init 49 = .ok (.putfield 32, 3) := by decide +kernel
theorem dX12_init_52 : decode cX12_init 52 = .ok (.aload_n 0, 1) := by decide +kernel
theorem dX12_init_53 : decode cX12_init 53 = .ok (.iconst 4, 1) := by decide +kernel
theorem dX12_init_54 : decode cX12_init 54 = .ok (.newarray .int, 2) := by decide +kernel
theorem dX12_init_56 : decode cX12_init 56 = .ok (.putfield 35, 3) := by decide +kernel
theorem dX12_init_59 : decode cX12_init 59 = .ok (.aload_n 0, 1) := by decide +kernel
theorem dX12_init_60 : decode cX12_init 60 = .ok (.bipush 16, 2) := by decide +kernel
theorem dX12_init_62 : decode cX12_init 62 = .ok (.newarray .int, 2) := by decide +kernel
theorem dX12_init_64 : decode cX12_init 64 = .ok (.putfield 38, 3) := by decide +kernel
theorem dX12_init_67 : decode cX12_init 67 = .ok (.aload_n 0, 1) := by decide +kernel
theorem dX12_init_68 : decode cX12_init 68 = .ok (.iconst 0, 1) := by decide +kernel
theorem dX12_init_69 : decode cX12_init 69 = .ok (.putfield 41, 3) := by decide +kernel
theorem dX12_init_72 : decode cX12_init 72 = .ok (.aload_n 0, 1) := by decide +kernel
theorem dX12_init_73 : decode cX12_init 73 = .ok (.iconst (-1), 1) := by decide +kernel
theorem dX12_init_74 : decode cX12_init 74 = .ok (.putfield 44, 3) := by decide +kernel
theorem dX12_init_77 : decode cX12_init 77 = .ok (.aload_n 0, 1) := by decide +kernel
theorem dX12_init_78 : decode cX12_init 78 = .ok (.iconst 0, 1) := by decide +kernel
theorem dX12_init_79 : decode cX12_init 79 = .ok (.putfield 47, 3) := by decide +kernel
theorem dX12_init_82 : decode cX12_init 82 = .ok (.aload_n 0, 1) := by decide +kernel
theorem dX12_init_83 : decode cX12_init 83 = .ok (.iconst 0, 1) := by decide +kernel
theorem dX12_init_84 : decode cX12_init 84 = .ok (.putfield 50, 3) := by decide +kernel
theorem dX12_init_87 : decode cX12_init 87 = .ok (.aload_n 0, 1) := by decide +kernel
theorem dX12_init_88 : decode cX12_init 88 = .ok (.iconst 0, 1) := by decide +kernel
theorem dX12_init_89 : decode cX12_init 89 = .ok (.putfield 53, 3) := by decide +kernel
theorem dX12_init_92 : decode cX12_init 92 = .ok (.aload_n 0, 1) := by decide +kernel
theorem dX12_init_93 : decode cX12_init 93 = .ok (.bipush 100, 2) := by decide +kernel
theorem dX12_init_95 : decode cX12_init 95 = .ok (.newarray .int, 2) := by decide +kernel
theorem dX12_init_97 : decode cX12_init 97 = .ok (.putfield 56, 3) := by decide +kernel
theorem dX12_init_100 : decode cX12_init 100 = .ok (.aload_n 0, 1) := by decide +kernel
theorem dX12_init_101 : decode cX12_init 101 = .ok (.bipush 6, 2) := by decide +kernel
theorem dX12_init_103 : decode cX12_init 103 = .ok (.newarray .int, 2) := by decide +kernel
theorem dX12_init_105 : decode cX12_init 105 = .ok (.putfield 59, 3) := by decide +kernel
theorem dX12_init_108 : decode cX12_init 108 = .ok (.aload_n 0, 1) := by decide +kernel
theorem dX12_init_109 : decode cX12_init 109 = .ok (.bipush 60, 2) := by decide +kernel
theorem dX12_init_111 : decode cX12_init 111 = .ok (.newarray .int, 2) := by decide +kernel
theorem dX12_init_113 : decode cX12_init 113 = .ok (.putfield 62, 3) := by decide +kernel
theorem dX12_init_116 : decode cX12_init 116 = .ok (.aload_n 0, 1) := by decide +kernel
theorem dX12_init_117 : decode cX12_init 117 = .ok (.bipush 60, 2) := by decide +kernel
theorem dX12_init_119 : decode cX12_init 119 = .ok (.newarray .int, 2) := by decide +kernel
theorem dX12_init_121 : decode cX12_init 121 = .ok (.putfield 65, 3) := by decide +kernel
theorem dX12_init_124 : decode cX12_init 124 = .ok (.aload_n 0, 1) := by decide +kernel
theorem dX12_init_125 : decode cX12_init 125 = .ok (.bipush 60, 2) := by decide +kernel
theorem dX12_init_127 : decode cX12_init 127 = .ok (.newarray .int, 2) := by decide +kernel
theorem dX12_init_129 : decode cX12_init 129 = .ok (.putfield 68, 3) := by decide +kernel
theorem dX12_init_132 : decode cX12_init 132 = .ok (.aload_n 0, 1) := by decide +kernel
theorem dX12_init_133 : decode cX12_init 133 = .ok (.bipush 60, 2) := by decide +kernel
theorem dX12_init_135 : decode cX12_init 135 = .ok (.newarray .int, 2) := by decide +kernel
theorem dX12_init_137 : decode cX12_init 137 = .ok (.putfield 71, 3) := by decide +kernel
theorem dX12_init_140 : decode cX12_init 140 = .ok (.aload_n 0, 1) := by decide +kernel
theorem dX12_init_141 : decode cX12_init 141 = .ok (.sipush 600, 3) := by decide +kernel
theorem dX12_init_144 : decode cX12_init 144 = .ok (.newarray .int, 2) := by decide +kernel
theorem dX12_init_146 : decode cX12_init 146 = .ok (.putfield 74, 3) := by decide +kernel
theorem dX12_init_149 : decode cX12_init 149 = .ok (.aload_n 0, 1) := by decide +kernel
theorem dX12_init_150 : decode cX12_init 150 = .ok (.bipush 101, 2) := by decide +kernel
theorem dX12_init_152 : decode cX12_init 152 = .ok (.newarray .int, 2) := by decide +kernel
theorem dX12_init_154 : decode cX12_init 154 = .ok (.putfield 77, 3) := by decide +kernel
theorem dX12_init_157 : decode cX12_init 157 = .ok (.aload_n 0, 1) := by decide +kernel
theorem dX12_init_158 : decode cX12_init 158 = .ok (.iconst 0, 1) := by decide +kernel
theorem dX12_init_159 : decode cX12_init 159 = .ok (.putfield 80, 3) := by decide +kernel
theorem dX12_init_162 : decode cX12_init 162 = .ok (.aload_n 0, 1) := by decide +kernel
theorem dX12_init_163 : decode cX12_init 163 = .ok (.iconst 0, 1) := by decide +kernel
theorem dX12_init_164 : decode cX12_init 164 = .ok (.putfield 83, 3) := by decide +kernel
theorem dX12_init_167 : decode cX12_init 167 = .ok (.aload_n 0, 1) := by decide +kernel
theorem dX12_init_168 : decode cX12_init 168 = .ok (.iconst 0, 1) := by decide +kernel
theorem dX12_init_169 : decode cX12_init 169 = .ok (.putfield 86, 3) := by decide +kernel
theorem dX12_init_172 : decode cX12_init 172 = .ok (.aload_n 0, 1) := by decide +kernel
theorem dX12_init_173 : decode cX12_init 173 = .ok (.bipush 8, 2) := by decide +kernel
theorem dX12_init_175 : decode cX12_init 175 = .ok (.newarray .int, 2) := by decide +kernel
theorem dX12_init_177 : decode cX12_init 177 = .ok (.dup, 1) := by decide +kernel
theorem dX12_init_178 : decode cX12_init 178 = .ok (.iconst 0, 1) := by decide +kernel
theorem dX12_init_179 : decode cX12_init 179 = .ok (.bipush 105, 2) := by decide +kernel
theorem dX12_init_181 : decode cX12_init 181 = .ok (.iastore, 1) := by decide +kernel
theorem dX12_init_182 : decode cX12_init 182 = .ok (.dup, 1) := by decide +kernel
theorem dX12_init_183 : decode cX12_init 183 = .ok (.iconst 1, 1) := by decide +kernel
theorem dX12_init_184 : decode cX12_init 184 = .ok (.bipush 110, 2) := by decide +kernel
theorem dX12_init_186 : decode cX12_init 186 = .ok (.iastore, 1) := by decide +kernel
theorem dX12_init_187 : decode cX12_init 187 = .ok (.dup, 1) := by decide +kernel
theorem dX12_init_188 : decode cX12_init 188 = .ok (.iconst 2, 1) := by decide +kernel
theorem dX12_init_189 : decode cX12_init 189 = .ok (.bipush 119, 2) := by decide +kernel
theorem dX12_init_191 : decode cX12_init 191 = .ok (.iastore, 1) := by decide +kernel
theorem dX12_init_192 : decode cX12_init 192 = .ok (.dup, 1) := by decide +kernel
theorem dX12_init_193 : decode cX12_init 193 = .ok (.iconst 3, 1) := by decide +kernel
theorem dX12_init_194 : decode cX12_init 194 = .ok (.bipush 105, 2) := by decide +kernel
theorem dX12_init_196 : decode cX12_init 196 = .ok (.iastore, 1) := by decide +kernel
theorem dX12_init_197 : decode cX12_init 197 = .ok (.dup, 1) := by decide +kernel
theorem dX12_init_198 : decode cX12_init 198 = .ok (.iconst 4, 1) := by decide +kernel
theorem dX12_init_199 : decode cX12_init 199 = .ok (.bipush 110, 2) := by decide +kernel
theorem dX12_init_201 : decode cX12_init 201 = .ok (.iastore, 1) := by decide +kernel
theorem dX12_init_202 : decode cX12_init 202 = .ok (.dup, 1) := by decide +kernel
theorem dX12_init_203 : decode cX12_init 203 = .ok (.iconst 5, 1) := by decide +kernel
theorem dX12_init_204 : decode cX12_init 204 = .ok (.bipush 111, 2) := by decide +kernel
theorem dX12_init_206 : decode cX12_init 206 = .ok (.iastore, 1) := by decide +kernel
theorem dX12_init_207 : decode cX12_init 207 = .ok (.dup, 1) := by decide +kernel
theorem dX12_init_208 : decode cX12_init 208 = .ok (.bipush 6, 2) := by decide +kernel
theorem dX12_init_210 : decode cX12_init 210 = .ok (.bipush 117, 2) := by decide +kernel
theorem dX12_init_212 : decode cX12_init 212 = .ok (.iastore, 1) := by decide +kernel
theorem dX12_init_213 : decode cX12_init 213 = .ok (.dup, 1) := by decide +kernel
theorem dX12_init_214 : decode cX12_init 214 = .ok (.bipush 7, 2) := by decide +kernel
theorem dX12_init_216 : decode cX12_init 216 = .ok (.bipush 116, 2) := by decide +kernel
theorem dX12_init_218 : decode cX12_init 218 = .ok (.iastore, 1) := by decide +kernel
theorem dX12_init_219 : decode cX12_init 219 = .ok (.putfield 89, 3) := by decide +kernel
theorem dX12_init_222 : decode cX12_init 222 = .ok (.aload_n 0, 1) := by decide +kernel
theorem dX12_init_223 : decode cX12_init 223 = .ok (.bipush 100, 2) := by decide +kernel
theorem dX12_init_225 : decode cX12_init 225 = .ok (.newarray .boolean, 2) := by decide +kernel
theorem dX12_init_227 : decode cX12_init 227 = .ok (.putfield 92, 3) := by decide +kernel
theorem dX12_init_230 : decode cX12_init 230 = .ok (.aload_n 0, 1) := by decide +kernel
theorem dX12_init_231 : decode cX12_init 231 = .ok (.bipush 25, 2) := by decide +kernel
theorem dX12_init_233 : decode cX12_init 233 = .ok (.newarray .int, 2) := by decide +kernel
theorem dX12_init_235 : decode cX12_init 235 = .ok (.putfield 96, 3) := by decide +kernel
theorem dX12_init_238 : decode cX12_init 238 = .ok (.aload_n 0, 1) := by decide +kernel
theorem dX12_init_239 : decode cX12_init 239 = .ok (.bipush 25, 2) := by decide +kernel
theorem dX12_init_241 : decode cX12_init 241 = .ok (.newarray .int, 2) := by decide +kernel
theorem dX12_init_243 : decode cX12_init 243 = .ok (.putfield 99, 3) := by decide +kernel
theorem dX12_init_246 : decode cX12_init 246 = .ok (.aload_n 0, 1) := by decide +kernel
theorem dX12_init_247 : decode cX12_init 247 = .ok (.iconst 0, 1) := by decide +kernel
theorem dX12_init_248 : decode cX12_init 248 = .ok (.putfield 102, 3) := by decide +kernel
theorem dX12_init_251 : decode cX12_init 251 = .ok (.aload_n 0, 1) := by decide +kernel
theorem dX12_init_252 : decode cX12_init 252 = .ok (.bipush 6, 2) := by decide +kernel
theorem dX12_init_254 : decode cX12_init 254 = .ok (.newarray .int, 2) := by decide +kernel
theorem dX12_init_256 : decode cX12_init 256 = .ok (.putfield 105, 3) := by decide +kernel
theorem dX12_init_259 : decode cX12_init 259 = .ok (.aload_n 0, 1) := by decide +kernel
theorem dX12_init_260 : decode cX12_init 260 = .ok (.bipush 6, 2) := by decide +kernel
theorem dX12_init_262 : decode cX12_init 262 = .ok (.newarray .int, 2) := by decide +kernel
theorem dX12_init_264 : decode cX12_init 264 = .ok (.putfield 108, 3) := by decide +kernel
theorem dX12_init_267 : decode cX12_init 267 = .ok (.aload_n 0, 1) := by decide +kernel
theorem dX12_init_268 : decode cX12_init 268 = .ok (.iconst 0, 1) := by decide +kernel
theorem dX12_init_269 : decode cX12_init 269 = .ok (.putfield 111, 3) := by decide +kernel
theorem dX12_init_272 : decode cX12_init 272 = .ok (.aload_n 0, 1) := by decide +kernel
theorem dX12_init_273 : decode cX12_init 273 = .ok (.bipush 10, 2) := by decide +kernel
theorem dX12_init_275 : decode cX12_init 275 = .ok (.newarray .int, 2) := by decide +kernel
theorem dX12_init_277 : decode cX12_init 277 = .ok (.putfield 114, 3) := by decide +kernel
theorem dX12_init_280 : decode cX12_init 280 = .ok (.aload_n 0, 1) := by decide +kernel
theorem dX12_init_281 : decode cX12_init 281 = .ok (.bipush 10, 2) := by decide +kernel
theorem dX12_init_283 : decode cX12_init 283 = .ok (.newarray .int, 2) := by decide +kernel
theorem dX12_init_285 : decode cX12_init 285 = .ok (.putfield 117, 3) := by decide +kernel
theorem dX12_init_288 : decode cX12_init 288 = .ok (.aload_n 0, 1) := by decide +kernel
theorem dX12_init_289 : decode cX12_init 289 = .ok (.bipush 10, 2) := by decide +kernel
theorem dX12_init_291 : decode cX12_init 291 = .ok (.newarray .int, 2) := by decide +kernel
theorem dX12_init_293 : decode cX12_init 293 = .ok (.putfield 120, 3) := by decide +kernel
theorem dX12_init_296 : decode cX12_init 296 = .ok (.aload_n 0, 1) := by decide +kernel
theorem dX12_init_297 : decode cX12_init 297 = .ok (.iconst 4, 1) := by decide +kernel
theorem dX12_init_298 : decode cX12_init 298 = .ok (.newarray .int, 2) := by decide +kernel
theorem dX12_init_300 : decode cX12_init 300 = .ok (.putfield 123, 3) := by decide +kernel
theorem dX12_init_303 : decode cX12_init 303 = .ok (.aload_n 0, 1) := by decide +kernel
theorem dX12_init_304 : decode cX12_init 304 = .ok (.iconst 0, 1) := by decide +kernel
theorem dX12_init_305 : decode cX12_init 305 = .ok (.putfield 126, 3) := by decide +kernel
theorem dX12_init_308 : decode cX12_init 308 = .ok (.aload_n 0, 1) := by decide +kernel
theorem dX12_init_309 : decode cX12_init 309 = .ok (.iconst (-1), 1) := by decide +kernel
theorem dX12_init_310 : decode cX12_init 310 = .ok (.putfield 130, 3) := by decide +kernel
theorem dX12_init_313 : decode cX12_init 313 = .ok (.aload_n 0, 1) := by decide +kernel
theorem dX12_init_314 : decode cX12_init 314 = .ok (.iconst 0, 1) := by decide +kernel
theorem dX12_init_315 : decode cX12_init 315 = .ok (.putfield 133, 3) := by decide +kernel
theorem dX12_init_318 : decode cX12_init 318 = .ok (.aload_n 0, 1) := by decide +kernel
theorem dX12_init_319 : decode cX12_init 319 = .ok (.iconst 0, 1) := by decide +kernel
theorem dX12_init_320 : decode cX12_init 320 = .ok (.putfield 136, 3) := by decide +kernel
theorem dX12_init_323 : decode cX12_init 323 = .ok (.aload_n 0, 1) := by decide +kernel
theorem dX12_init_324 : decode cX12_init 324 = .ok (.iconst 0, 1) := by decide +kernel
theorem dX12_init_325 : decode cX12_init 325 = .ok (.putfield 139, 3) := by decide +kernel
theorem dX12_init_328 : decode cX12_init 328 = .ok (.aload_n 0, 1) := by decide +kernel
theorem dX12_init_329 : decode cX12_init 329 = .ok (.iconst 1, 1) := by decide +kernel
theorem dX12_init_330 : decode cX12_init 330 = .ok (.putfield 142, 3) := by decide +kernel
theorem dX12_init_333 : decode cX12_init 333 = .ok (.aload_n 0, 1) := by decide +kernel
theorem dX12_init_334 : decode cX12_init 334 = .ok (.iconst 0, 1) := by decide +kernel
theorem dX12_init_335 : decode cX12_init 335 = .ok (.putfield 145, 3) := by decide +kernel
theorem dX12_init_338 : decode cX12_init 338 = .ok (.aload_n 0, 1) := by decide +kernel
theorem dX12_init_339 : decode cX12_init 339 = .ok (.iconst 0, 1) := by decide +kernel
theorem dX12_init_340 : decode cX12_init 340 = .ok (.putfield 148, 3) := by decide +kernel
theorem dX12_init_343 : decode cX12_init 343 = .ok (.aload_n 0, 1) := by decide +kernel
theorem dX12_init_344 : decode cX12_init 344 = .ok (.iconst 4, 1) := by decide +kernel
theorem dX12_init_345 : decode cX12_init 345 = .ok (.newarray .int, 2) := by decide +kernel
theorem dX12_init_347 : decode cX12_init 347 = .ok (.putfield 151, 3) := by decide +kernel
theorem dX12_init_350 : decode cX12_init 350 = .ok (.aload_n 0, 1) := by decide +kernel
theorem dX12_init_351 : decode cX12_init 351 = .ok (.iconst 4, 1) := by decide +kernel
theorem dX12_init_352 : decode cX12_init 352 = .ok (.newarray .int, 2) := by decide +kernel
theorem dX12_init_354 : decode cX12_init 354 = .ok (.putfield 154, 3) := by decide +kernel
theorem dX12_init_357 : decode cX12_init 357 = .ok (.aload_n 0, 1) := by decide +kernel
theorem dX12_init_358 : decode cX12_init 358 = .ok (.iconst 4, 1) := by decide +kernel
theorem dX12_init_359 : decode cX12_init 359 = .ok (.newarray .int, 2) := by decide +kernel
theorem dX12_init_361 : decode cX12_init 361 = .ok (.putfield 157, 3) := by decide +kernel
theorem dX12_init_364 : decode cX12_init 364 = .ok (.aload_n 0, 1) := by decide +kernel
theorem dX12_init_365 : decode cX12_init 365 = .ok (.iconst 4, 1) := by decide +kernel
theorem dX12_init_366 : decode cX12_init 366 = .ok (.newarray .int, 2) := by decide +kernel
theorem dX12_init_368 : decode cX12_init 368 = .ok (.putfield 160, 3) := by decide +kernel
theorem dX12_init_371 : decode cX12_init 371 = .ok (.aload_n 0, 1) := by decide +kernel
theorem dX12_init_372 : decode cX12_init 372 = .ok (.iconst 4, 1) := by decide +kernel
theorem dX12_init_373 : decode cX12_init 373 = .ok (.newarray .int, 2) := by decide +kernel
theorem dX12_init_375 : decode cX12_init 375 = .ok (.putfield 163, 3) := by decide +kernel
theorem dX12_init_378 : decode cX12_init 378 = .ok (.aload_n 0, 1) := by decide +kernel
theorem dX12_init_379 : decode cX12_init 379 = .ok (.bipush 16, 2) := by decide +kernel
theorem dX12_init_381 : decode cX12_init 381 = .ok (.newarray .int, 2) := by decide +kernel
theorem dX12_init_383 : decode cX12_init 383 = .ok (.putfield 166, 3) := by decide +kernel
theorem dX12_init_386 : decode cX12_init 386 = .ok (.aload_n 0, 1) := by decide +kernel
theorem dX12_init_387 : decode cX12_init 387 = .ok (.bipush 6, 2) := by decide +kernel
theorem dX12_init_389 : decode cX12_init 389 = .ok (.newarray .int, 2) := by decide +kernel
theorem dX12_init_391 : decode cX12_init 391 = .ok (.putfield 169, 3) := by decide +kernel
theorem dX12_init_394 : decode cX12_init 394 = .ok (.aload_n 0, 1) := by decide +kernel
theorem dX12_init_395 : decode cX12_init 395 = .ok (.bipush 6, 2) := by decide +kernel
theorem dX12_init_397 : decode cX12_init 397 = .ok (.newarray .int, 2) := by decide +kernel
theorem dX12_init_399 : decode cX12_init 399 = .ok (.putfield 172, 3) := by decide +kernel
theorem dX12_init_402 : decode cX12_init 402 = .ok (.aload_n 0, 1) := by decide +kernel
theorem dX12_init_403 : decode cX12_init 403 = .ok (.bipush 10, 2) := by decide +kernel
theorem dX12_init_405 : decode cX12_init 405 = .ok (.newarray .int, 2) := by decide +kernel
theorem dX12_init_407 : decode cX12_init 407 = .ok (.putfield 175, 3) := by decide +kernel
theorem dX12_init_410 : decode cX12_init 410 = .ok (.aload_n 0, 1) := by decide +kernel
theorem dX12_init_411 : decode cX12_init 411 = .ok (.bipush 10, 2) := by decide +kernel
theorem dX12_init_413 : decode cX12_init 413 = .ok (.newarray .int, 2) := by decide +kernel
theorem dX12_init_415 : decode cX12_init 415 = .ok (.putfield 178, 3) := by decide +kernel
theorem dX12_init_418 : decode cX12_init 418 = .ok (.aload_n 0, 1) := by decide +kernel
theorem dX12_init_419 : decode cX12_init 419 = .ok (.bipush 10, 2) := by decide +kernel
theorem dX12_init_421 : decode cX12_init 421 = .ok (.newarray .int, 2) := by decide +kernel
theorem dX12_init_423 : decode cX12_init 423 = .ok (.putfield 181, 3) := by decide +kernel
theorem dX12_init_426 : decode cX12_init 426 = .ok (.aload_n 0, 1) := by decide +kernel
theorem dX12_init_427 : decode cX12_init 427 = .ok (.iconst 0, 1) := by decide +kernel
theorem dX12_init_428 : decode cX12_init 428 = .ok (.putfield 184, 3) := by decide +kernel
theorem dX12_init_431 : decode cX12_init 431 = .ok (.aload_n 0, 1) := by decide +kernel
theorem dX12_init_432 : decode cX12_init 432 = .ok (.bipush 20, 2) := by decide +kernel
theorem dX12_init_434 : decode cX12_init 434 = .ok (.newarray .int, 2) := by decide +kernel
theorem dX12_init_436 : decode cX12_init 436 = .ok (.putfield 187, 3) := by decide +kernel
theorem dX12_init_439 : decode cX12_init 439 = .ok (.aload_n 0, 1) := by decide +kernel
theorem dX12_init_440 : decode cX12_init 440 = .ok (.bipush 6, 2) := by decide +kernel
theorem dX12_init_442 : decode cX12_init 442 = .ok (.newarray .int, 2) := by decide +kernel
theorem dX12_init_444 : decode cX12_init 444 = .ok (.dup, 1) := by decide +kernel
theorem dX12_init_445 : decode cX12_init 445 = .ok (.iconst 0, 1) := by decide +kernel
theorem dX12_init_446 : decode cX12_init 446 = .ok (.iconst (-1), 1) := by decide +kernel
theorem dX12_init_447 : decode cX12_init 447 = .ok (.iastore, 1) := by decide +kernel
theorem dX12_init_448 : decode cX12_init 448 = .ok (.dup, 1) := by decide +kernel
theorem dX12_init_449 : decode cX12_init 449 = .ok (.iconst 1, 1) := by decide +kernel
theorem dX12_init_450 : decode cX12_init 450 = .ok (.iconst (-1), 1) := by decide +kernel
theorem dX12_init_451 : decode cX12_init 451 = .ok (.iastore, 1) := by decide +kernel
theorem dX12_init_452 : decode cX12_init 452 = .ok (.dup, 1) := by decide +kernel
theorem dX12_init_453 : decode cX12_init 453 = .ok (.iconst 2, 1) := by decide +kernel
theorem dX12_init_454 : decode cX12_init 454 = .ok (.iconst (-1), 1) := by decide +kernel
theorem dX12_init_455 : decode cX12_init 455 = .ok (.iastore, 1) := by decide +kernel
theorem dX12_init_456 : decode cX12_init 456 = .ok (.dup, 1) := by decide +kernel
theorem dX12_init_457 : decode cX12_init 457 = .ok (.iconst 3, 1) := by decide +kernel
theorem dX12_init_458 : decode cX12_init 458 = .ok (.iconst (-1), 1) := by decide +kernel
theorem dX12_init_459 : decode cX12_init 459 = .ok (.iastore, 1) := by decide +kernel
theorem dX12_init_460 : decode cX12_init 460 = .ok (.dup, 1) := by decide +kernel
theorem dX12_init_461 : decode cX12_init 461 = .ok (.iconst 4, 1) := by decide +kernel
theorem dX12_init_462 : decode cX12_init 462 = .ok (.iconst (-1), 1) := by decide +kernel
theorem dX12_init_463 : decode cX12_init 463 = .ok (.iastore, 1) := by decide +kernel
theorem dX12_init_464 : decode cX12_init 464 = .ok (.dup, 1) := by decide +kernel
theorem dX12_init_465 : decode cX12_init 465 = .ok (.iconst 5, 1) := by decide +kernel
theorem dX12_init_466 : decode cX12_init 466 = .ok (.iconst (-1), 1) := by decide +kernel
theorem dX12_init_467 : decode cX12_init 467 = .ok (.iastore, 1) := by decide +kernel
theorem dX12_init_468 : decode cX12_init 468 = .ok (.putfield 190, 3) := by decide +kernel
theorem dX12_init_471 : decode cX12_init 471 = .ok (.aload_n 0, 1) := by decide +kernel
theorem dX12_init_472 : decode cX12_init 472 = .ok (.bipush 6, 2) := by decide +kernel
theorem dX12_init_474 : decode cX12_init 474 = .ok (.newarray .int, 2) := by decide +kernel
theorem dX12_init_476 : decode cX12_init 476 = .ok (.putfield 193, 3) := by decide +kernel
theorem dX12_init_479 : decode cX12_init 479 = .ok (.aload_n 0, 1) := by decide +kernel
theorem dX12_init_480 : decode cX12_init 480 = .ok (.sipush 360, 3) := by decide +kernel
theorem dX12_init_483 : decode cX12_init 483 = .ok (.newarray .long, 2) := by decide +kernel
theorem dX12_init_485 : decode cX12_init 485 = .ok (.putfield 196, 3) := by decide +kernel
theorem dX12_init_488 : decode cX12_init 488 = .ok (.aload_n 0, 1) := by decide +kernel
theorem dX12_init_489 : decode cX12_init 489 = .ok (.bipush 60, 2) := by decide +kernel
theorem dX12_init_491 : decode cX12_init 491 = .ok (.newarray .long, 2) := by decide +kernel
theorem dX12_init_493 : decode cX12_init 493 = .ok (.putfield 200, 3) := by decide +kernel
theorem dX12_init_496 : decode cX12_init 496 = .ok (.return_, 1) := by decide +kernel
theorem dX12_in_0 : decode cX12_in 0 = .ok (.iload_n 1, 1) := by decide +kernel
theorem dX12_in_1 : decode cX12_in 1 = .ok (.iload_n 2, 1) := by decide +kernel
theorem dX12_in_2 : decode cX12_in 2 = .ok (.if_icmp .lt 12, 3) := by decide +kernel
theorem dX12_in_5 : decode cX12_in 5 = .ok (.iload_n 1, 1) := by decide +kernel
theorem dX12_in_6 : decode cX12_in 6 = .ok (.iload_n 3, 1) := by decide +kernel
theorem dX12_in_7 : decode cX12_in 7 = .ok (.if_icmp .gt 7, 3) := by decide +kernel
theorem dX12_in_10 : decode cX12_in 10 = .ok (.iconst 1, 1) := by decide +kernel
theorem dX12_in_11 : decode cX12_in 11 = .ok (.goto 4, 3) := by decide +kernel
theorem dX12_in_14 : decode cX12_in 14 = .ok (.iconst 0, 1) := by decide +kernel
theorem dX12_in_15 : decode cX12_in 15 = .ok (.ireturn, 1) := by decide +kernel
theorem dX12_isServer_0 : decode cX12_isServer 0 = .ok (.aload_n 0, 1) := by decide +kernel
theorem dX12_isServer_1 : decode cX12_isServer 1 = .ok (.iload_n 1, 1) := by decide +kernel
theorem dX12_isServer_2 : decode cX12_isServer 2 = .ok (.iconst 0, 1) := by decide +kernel
theorem dX12_isServer_3 : decode cX12_isServer 3 = .ok (.aload_n 0, 1) := by decide +kernel
theorem dX12_isServer_4 : decode cX12_isServer 4 = .ok (.getfield 7, 3) := by decide +kernel
theorem dX12_isServer_7 : decode cX12_isServer 7 = .ok (.iconst 1, 1) := by decide +kernel
theorem dX12_isServer_8 : decode cX12_isServer 8 = .ok (.isub, 1) := by decide +kernel
theorem dX12_isServer_9 : decode cX12_isServer 9 = .ok (.invokevirtual 203, 3) := by decide +kernel
theorem dX12_isServer_12 : decode cX12_isServer 12 = .ok (.ireturn, 1) := by decide +kernel
theorem dX12_isForce_0 : decode cX12_isForce 0 = .ok (.aload_n 0, 1) := by decide +kernel
theorem dX12_isForce_1 : decode cX12_isForce 1 = .ok (.iload_n 1, 1) := by decide +kernel
theorem dX12_isForce_2 : decode cX12_isForce 2 = .ok (.iconst 0, 1) := by decide +kernel
theorem dX12_isForce_3 : decode cX12_isForce 3 = .ok (.bipush 9, 2) := by decide +kernel
theorem dX12_isForce_5 : decode cX12_isForce 5 = .ok (.invokevirtual 203, 3) := by decide +kernel
theorem dX12_isForce_8 : decode cX12_isForce 8 = .ok (.ireturn, 1) := by decide +kernel
theorem dX12_server_0 : decode cX12_server 0 = .ok (.aload_n 0, 1) := by decide +kernel
theorem dX12_server_1 : decode cX12_server 1 = .ok (.iload_n 1, 1) := by decide +kernel
theorem dX12_server_2 : decode cX12_server 2 = .ok (.iconst 0, 1) := by decide +kernel
theorem dX12_server_3 : decode cX12_server 3 = .ok (.bipush 6, 2) := by decide +kernel
theorem dX12_server_5 : decode cX12_server 5 = .ok (.invokevirtual 203, 3) := by decide +kernel
theorem dX12_server_8 : decode cX12_server 8 = .ok (.ifCond .ne 5, 3) := by decide +kernel
theorem dX12_server_11 : decode cX12_server 11 = .ok (.iconst (-1), 1) := by decide +kernel
theorem dX12_server_12 : decode cX12_server 12 = .ok (.ireturn, 1) := by decide +kernel
theorem dX12_server_13 : decode cX12_server 13 = .ok (.aload_n 0, 1) := by decide +kernel
theorem dX12_server_14 : decode cX12_server 14 = .ok (.iload_n 2, 1) := by decide +kernel
theorem dX12_server_15 : decode cX12_server 15 = .ok (.iconst 0, 1) := by decide +kernel
theorem dX12_server_16 : decode cX12_server 16 = .ok (.bipush 9, 2) := by decide +kernel
theorem dX12_server_18 : decode cX12_server 18 = .ok (.invokevirtual 203, 3) := by decide +kernel
theorem dX12_server_21 : decode cX12_server 21 = .ok (.ifCond .eq 20, 3) := by decide +kernel
theorem dX12_server_24 : decode cX12_server 24 = .ok (.aload_n 0, 1) := by decide +kernel
theorem dX12_server_25 : decode cX12_server 25 = .ok (.iload_n 3, 1) := by decide +kernel
theorem dX12_server_26 : decode cX12_server 26 = .ok (.invokevirtual 207, 3) := by decide +kernel
theorem dX12_server_29 : decode cX12_server 29 = .ok (.ifCond .eq 12, 3) := by decide +kernel
theorem dX12_server_32 : decode cX12_server 32 = .ok (.aload_n 0, 1) := by decide +kernel
theorem dX12_server_33 : decode cX12_server 33 = .ok (.iload 4, 2) := by decide +kernel
theorem dX12_server_35 : decode cX12_server 35 = .ok (.invokevirtual 207, 3) := by decide +kernel
theorem dX12_server_38 : decode cX12_server 38 = .ok (.ifCond .ne 6, 3) := by decide +kernel
theorem dX12_server_41 : decode cX12_server 41 = .ok (.bipush (-2), 2) := by decide +kernel
theorem dX12_server_43 : decode cX12_server 43 = .ok (.ireturn, 1) := by decide +kernel
theorem dX12_server_44 : decode cX12_server 44 = .ok (.aload_n 0, 1) := by decide +kernel
theorem dX12_server_45 : decode cX12_server 45 = .ok (.getfield 7, 3) := by decide +kernel
theorem dX12_server_48 : decode cX12_server 48 = .ok (.iconst 4, 1) := by decide +kernel
theorem dX12_server_49 : decode cX12_server 49 = .ok (.if_icmp .ne 6, 3) := by decide +kernel
theorem dX12_server_52 : decode cX12_server 52 = .ok (.bipush (-4), 2) := by decide +kernel
theorem dX12_server_54 : decode cX12_server 54 = .ok (.ireturn, 1) := by decide +kernel
theorem dX12_server_55 : decode cX12_server 55 = .ok (.aload_n 0, 1) := by decide +kernel
theorem dX12_server_56 : decode cX12_server 56 = .ok (.getfield 22, 3) := by decide +kernel
theorem dX12_server_59 : decode cX12_server 59 = .ok (.aload_n 0, 1) := by decide +kernel
theorem dX12_server_60 : decode cX12_server 60 = .ok (.getfield 7, 3) := by decide +kernel
theorem dX12_server_63 : decode cX12_server 63 = .ok (.iload_n 1, 1) := by decide +kernel
theorem dX12_server_64 : decode cX12_server 64 = .ok (.iastore, 1) := by decide +kernel
theorem dX12_server_65 : decode cX12_server 65 = .ok (.aload_n 0, 1) := by decide +kernel
theorem dX12_server_66 : decode cX12_server 66 = .ok (.getfield 26, 3) := by decide +kernel
theorem dX12_server_69 : decode cX12_server 69 = .ok (.aload_n 0, 1) := by decide +kernel
theorem dX12_server_70 : decode cX12_server 70 = .ok (.getfield 7, 3) := by decide +kernel
theorem dX12_server_73 : decode cX12_server 73 = .ok (.iload_n 2, 1) := by decide +kernel
theorem dX12_server_74 : decode cX12_server 74 = .ok (.iastore, 1) := by decide +kernel
theorem dX12_server_75 : decode cX12_server 75 = .ok (.aload_n 0, 1) := by decide +kernel
theorem dX12_server_76 : decode cX12_server 76 = .ok (.getfield 29, 3) := by decide +kernel
theorem dX12_server_79 : decode cX12_server 79 = .ok (.aload_n 0, 1) := by decide +kernel
theorem dX12_server_80 : decode cX12_server 80 = .ok (.getfield 7, 3) := by decide +kernel
theorem dX12_server_83 : decode cX12_server 83 = .ok (.iload_n 3, 1) := by decide +kernel
theorem dX12_server_84 : decode cX12_server 84 = .ok (.iastore, 1) := by decide +kernel
theorem dX12_server_85 : decode cX12_server 85 = .ok (.aload_n 0, 1) := by decide +kernel
theorem dX12_server_86 : decode cX12_server 86 = .ok (.getfield 32, 3) := by decide +kernel
theorem dX12_server_89 : decode cX12_server 89 = .ok (.aload_n 0, 1) := by decide +kernel
theorem dX12_server_90 : decode cX12_server 90 = .ok (.getfield 7, 3) := by decide +kernel
theorem dX12_server_93 : decode cX12_server 93 = .ok (.iload 4, 2) := by decide +kernel
theorem dX12_server_95 : decode cX12_server 95 = .ok (.iastore, 1) := by decide +kernel
theorem dX12_server_96 : decode cX12_server 96 = .ok (.aload_n 0, 1) := by decide +kernel
theorem dX12_server_97 : decode cX12_server 97 = .ok (.getfield 35, 3) := by decide +kernel
theorem dX12_server_100 : decode cX12_server 100 = .ok (.aload_n 0, 1) := by decide +kernel
theorem dX12_server_101 : decode cX12_server 101 = .ok (.getfield 7, 3) := by decide +kernel
theorem dX12_server_104 : decode cX12_server 104 = .ok (.iconst 0, 1) := by decide +kernel
theorem dX12_server_105 : decode cX12_server 105 = .ok (.iastore, 1) := by decide +kernel
theorem dX12_server_106 : decode cX12_server 106 = .ok (.iconst 0, 1) := by decide +kernel
theorem dX12_server_107 : decode cX12_server 107 = .ok (.istore 5, 2) := by decide +kernel
theorem dX12_server_109 : decode cX12_server 109 = .ok (.iload 5, 2) := by decide +kernel
theorem dX12_server_111 : decode cX12_server 111 = .ok (.iconst 4, 1) := by decide +kernel
theorem dX12_server_112 : decode cX12_server 112 = .ok (.if_icmp .ge 24, 3) := by decide +kernel
theorem dX12_server_115 : decode cX12_server 115 = .ok (.aload_n 0, 1) := by decide +kernel
theorem dX12_server_116 : decode cX12_server 116 = .ok (.getfield 38, 3) := by decide +kernel
theorem dX12_server_119 : decode cX12_server 119 = .ok (.iconst 4, 1) := by decide +kernel
theorem dX12_server_120 : decode cX12_server 120 = .ok (.aload_n 0, 1) := by decide +kernel
theorem dX12_server_121 : decode cX12_server 121 = .ok (.getfield 7, 3) := by decide +kernel
theorem dX12_server_124 : decode cX12_server 124 = .ok (.imul, 1) := by decide +kernel
theorem dX12_server_125 : decode cX12_server 125 = .ok (.iload 5, 2) := by decide +kernel
theorem dX12_server_127 : decode cX12_server 127 = .ok (.iadd, 1) := by decide +kernel
theorem dX12_server_128 : decode cX12_server 128 = .ok (.iconst 0, 1) := by decide +kernel
theorem dX12_server_129 : decode cX12_server 129 = .ok (.iastore, 1) := by decide +kernel
theorem dX12_server_130 : decode cX12_server 130 = .ok (.iinc 5 1, 3) := by decide +kernel
theorem dX12_server_133 : decode cX12_server 133 = .ok (.goto (-24), 3) := by decide +kernel
theorem dX12_server_136 : decode cX12_server 136 = .ok (.aload_n 0, 1) := by decide +kernel
theorem dX12_server_137 : decode cX12_server 137 = .ok (.dup, 1) := by decide +kernel
theorem dX12_server_138 : decode cX12_server 138 = .ok (.getfield 7, 3) := by decide +kernel
theorem dX12_server_141 : decode cX12_server 141 = .ok (.iconst 1, 1) := by decide +kernel
theorem dX12_server_142 : decode cX12_server 142 = .ok (.iadd, 1) := by decide +kernel
theorem dX12_server_143 : decode cX12_server 143 = .ok (.putfield 7, 3) := by decide +kernel
theorem dX12_server_146 : decode cX12_server 146 = .ok (.aload_n 0, 1) := by decide +kernel
theorem dX12_server_147 : decode cX12_server 147 = .ok (.getfield 7, 3) := by decide +kernel
theorem dX12_server_150 : decode cX12_server 150 = .ok (.iconst 1, 1) := by decide +kernel
theorem dX12_server_151 : decode cX12_server 151 = .ok (.isub, 1) := by decide +kernel
theorem dX12_server_152 : decode cX12_server 152 = .ok (.ireturn, 1) := by decide +kernel
theorem dX12_set_0 : decode cX12_set 0 = .ok (.aload_n 0, 1) := by decide +kernel
theorem dX12_set_1 : decode cX12_set 1 = .ok (.iload_n 1, 1) := by decide +kernel
theorem dX12_set_2 : decode cX12_set 2 = .ok (.invokevirtual 211, 3) := by decide +kernel
theorem dX12_set_5 : decode cX12_set 5 = .ok (.ifCond .eq 13, 3) := by decide +kernel
theorem dX12_set_8 : decode cX12_set 8 = .ok (.aload_n 0, 1) := by decide +kernel
theorem dX12_set_9 : decode cX12_set 9 = .ok (.iload_n 2, 1) := by decide +kernel
theorem dX12_set_10 : decode cX12_set 10 = .ok (.iconst 0, 1) := by decide +kernel
theorem dX12_set_11 : decode cX12_set 11 = .ok (.iconst 2, 1) := by decide +kernel
theorem dX12_set_12 : decode cX12_set 12 = .ok (.invokevirtual 203, 3) := by decide +kernel
theorem dX12_set_15 : decode cX12_set 15 = .ok (.ifCond .ne 5, 3) := by decide +kernel
theorem dX12_set_18 : decode cX12_set 18 = .ok (.iconst (-1), 1) := by decide +kernel
theorem dX12_set_19 : decode cX12_set 19 = .ok (.ireturn, 1) := by decide +kernel
theorem dX12_set_20 : decode cX12_set 20 = .ok (.aload_n 0, 1) := by decide +kernel
theorem dX12_set_21 : decode cX12_set 21 = .ok (.iload_n 3, 1) := by decide +kernel
theorem dX12_set_22 : decode cX12_set 22 = .ok (.iconst 0, 1) := by decide +kernel
theorem dX12_set_23 : decode cX12_set 23 = .ok (.iload_n 2, 1) := by decide +kernel
theorem dX12_set_24 : decode cX12_set 24 = .ok (.iconst 2, 1) := by decide +kernel
theorem dX12_set_25 : decode cX12_set 25 = .ok (.if_icmp .ne 9, 3) := by decide +kernel
theorem dX12_set_28 : decode cX12_set 28 = .ok (.sipush 9999, 3) := by decide +kernel
theorem dX12_set_31 : decode cX12_set 31 = .ok (.goto 5, 3) := by decide +kernel
theorem dX12_set_34 : decode cX12_set 34 = .ok (.bipush 9, 2) := by decide +kernel
theorem dX12_set_36 : decode cX12_set 36 = .ok (.invokevirtual 203, 3) := by decide +kernel
theorem dX12_set_39 : decode cX12_set 39 = .ok (.ifCond .ne 6, 3) := by decide +kernel
theorem dX12_set_42 : decode cX12_set 42 = .ok (.bipush (-2), 2) := by decide +kernel
theorem dX12_set_44 : decode cX12_set 44 = .ok (.ireturn, 1) := by decide +kernel
theorem dX12_set_45 : decode cX12_set 45 = .ok (.iload_n 2, 1) := by decide +kernel
theorem dX12_set_46 : decode cX12_set 46 = .ok (.ifCond .ne 12, 3) := by decide +kernel
theorem dX12_set_49 : decode cX12_set 49 = .ok (.aload_n 0, 1) := by decide +kernel
theorem dX12_set_50 : decode cX12_set 50 = .ok (.getfield 29, 3) := by decide +kernel
theorem dX12_set_53 : decode cX12_set 53 = .ok (.iload_n 1, 1) := by decide +kernel
theorem dX12_set_54 : decode cX12_set 54 = .ok (.iaload, 1) := by decide +kernel
theorem dX12_set_55 : decode cX12_set 55 = .ok (.goto 23, 3) := by decide +kernel
theorem dX12_set_58 : decode cX12_set 58 = .ok (.iload_n 2, 1) := by decide +kernel
theorem dX12_set_59 : decode cX12_set 59 = .ok (.iconst 1, 1) := by decide +kernel
theorem dX12_set_60 : decode cX12_set 60 = .ok (.if_icmp .ne 12, 3) := by decide +kernel
theorem dX12_set_63 : decode cX12_set 63 = .ok (.aload_n 0, 1) := by decide +kernel
theorem dX12_set_64 : decode cX12_set 64 = .ok (.getfield 32, 3) := by decide +kernel
theorem dX12_set_67 : decode cX12_set 67 = .ok (.iload_n 1, 1) := by decide +kernel
theorem dX12_set_68 : decode cX12_set 68 = .ok (.iaload, 1) := by decide +kernel
theorem dX12_set_69 : decode cX12_set 69 = .ok (.goto 9, 3) := by decide +kernel
theorem dX12_set_72 : decode cX12_set 72 = .ok (.aload_n 0, 1) := by decide +kernel
theorem dX12_set_73 : decode cX12_set 73 = .ok (.getfield 35, 3) := by decide +kernel
theorem dX12_set_76 : decode cX12_set 76 = .ok (.iload_n 1, 1) := by decide +kernel
theorem dX12_set_77 : decode cX12_set 77 = .ok (.iaload, 1) := by decide +kernel
theorem dX12_set_78 : decode cX12_set 78 = .ok (.istore 4, 2) := by decide +kernel
theorem dX12_set_80 : decode cX12_set 80 = .ok (.iload_n 2, 1) := by decide +kernel
theorem dX12_set_81 : decode cX12_set 81 = .ok (.ifCond .ne 13, 3) := by decide +kernel
theorem dX12_set_84 : decode cX12_set 84 = .ok (.aload_n 0, 1) := by decide +kernel
theorem dX12_set_85 : decode cX12_set 85 = .ok (.getfield 29, 3) := by decide +kernel
theorem dX12_set_88 : decode cX12_set 88 = .ok (.iload_n 1, 1) := by decide +kernel
theorem dX12_set_89 : decode cX12_set 89 = .ok (.iload_n 3, 1) := by decide +kernel
theorem dX12_set_90 : decode cX12_set 90 = .ok (.iastore, 1) := by decide +kernel
theorem dX12_set_91 : decode cX12_set 91 = .ok (.goto 25, 3) := by decide +kernel
theorem dX12_set_94 : decode cX12_set 94 = .ok (.iload_n 2, 1) := by decide +kernel
theorem dX12_set_95 : decode cX12_set 95 = .ok (.iconst 1, 1) := by decide +kernel
theorem dX12_set_96 : decode cX12_set 96 = .ok (.if_icmp .ne 13, 3) := by decide +kernel
theorem dX12_set_99 : decode cX12_set 99 = .ok (.aload_n 0, 1) := by decide +kernel
theorem dX12_set_100 : decode cX12_set 100 = .ok (.getfield 32, 3) := by decide +kernel
theorem dX12_set_103 : decode cX12_set 103 = .ok (.iload_n 1, 1) := by decide +kernel
theorem dX12_set_104 : decode cX12_set 104 = .ok (.iload_n 3, 1) := by decide +kernel
theorem dX12_set_105 : decode cX12_set 105 = .ok (.iastore, 1) := by decide +kernel
theorem dX12_set_106 : decode cX12_set 106 = .ok (.goto 10, 3) := by decide +kernel
theorem dX12_set_109 : decode cX12_set 109 = .ok (.aload_n 0, 1) := by decide +kernel
theorem dX12_set_110 : decode cX12_set 110 = .ok (.getfield 35, 3) := by decide +kernel
theorem dX12_set_113 : decode cX12_set 113 = .ok (.iload_n 1, 1) := by decide +kernel
theorem dX12_set_114 : decode cX12_set 114 = .ok (.iload_n 3, 1) := by decide +kernel
theorem dX12_set_115 : decode cX12_set 115 = .ok (.iastore, 1) := by decide +kernel
theorem dX12_set_116 : decode cX12_set 116 = .ok (.iload 4, 2) := by decide +kernel
theorem dX12_set_118 : decode cX12_set 118 = .ok (.ireturn, 1) := by decide +kernel
theorem dX12_row_0 : decode cX12_row 0 = .ok (.aload_n 0, 1) := by decide +kernel
theorem dX12_row_1 : decode cX12_row 1 = .ok (.iload_n 1, 1) := by decide +kernel
theorem dX12_row_2 : decode cX12_row 2 = .ok (.invokevirtual 211, 3) := by decide +kernel
theorem dX12_row_5 : decode cX12_row 5 = .ok (.ifCond .eq 13, 3) := by decide +kernel
theorem dX12_row_8 : decode cX12_row 8 = .ok (.aload_n 0, 1) := by decide +kernel
theorem dX12_row_9 : decode cX12_row 9 = .ok (.iload_n 2, 1) := by decide +kernel
theorem dX12_row_10 : decode cX12_row 10 = .ok (.iconst 0, 1) := by decide +kernel
theorem dX12_row_11 : decode cX12_row 11 = .ok (.iconst 3, 1) := by decide +kernel
theorem dX12_row_12 : decode cX12_row 12 = .ok (.invokevirtual 203, 3) := by decide +kernel
theorem dX12_row_15 : decode cX12_row 15 = .ok (.ifCond .ne 5, 3) := by decide +kernel
theorem dX12_row_18 : decode cX12_row 18 = .ok (.iconst (-1), 1) := by decide +kernel
theorem dX12_row_19 : decode cX12_row 19 = .ok (.ireturn, 1) := by decide +kernel
theorem dX12_row_20 : decode cX12_row 20 = .ok (.aload_n 0, 1) := by decide +kernel
theorem dX12_row_21 : decode cX12_row 21 = .ok (.iload_n 3, 1) := by decide +kernel
theorem dX12_row_22 : decode cX12_row 22 = .ok (.invokevirtual 207, 3) := by decide +kernel
theorem dX12_row_25 : decode cX12_row 25 = .ok (.ifCond .ne 6, 3) := by decide +kernel
theorem dX12_row_28 : decode cX12_row 28 = .ok (.bipush (-2), 2) := by decide +kernel
theorem dX12_row_30 : decode cX12_row 30 = .ok (.ireturn, 1) := by decide +kernel
theorem dX12_row_31 : decode cX12_row 31 = .ok (.aload_n 0, 1) := by decide +kernel
theorem dX12_row_32 : decode cX12_row 32 = .ok (.getfield 22, 3) := by decide +kernel
theorem dX12_row_35 : decode cX12_row 35 = .ok (.iload_n 1, 1) := by decide +kernel
theorem dX12_row_36 : decode cX12_row 36 = .ok (.iaload, 1) := by decide +kernel
theorem dX12_row_37 : decode cX12_row 37 = .ok (.bipush 6, 2) := by decide +kernel
theorem dX12_row_39 : decode cX12_row 39 = .ok (.if_icmp .eq 6, 3) := by decide +kernel
theorem dX12_row_42 : decode cX12_row 42 = .ok (.bipush (-3), 2) := by decide +kernel
theorem dX12_row_44 : decode cX12_row 44 = .ok (.ireturn, 1) := by decide +kernel
theorem dX12_row_45 : decode cX12_row 45 = .ok (.aload_n 0, 1) := by decide +kernel
theorem dX12_row_46 : decode cX12_row 46 = .ok (.getfield 38, 3) := by decide +kernel
theorem dX12_row_49 : decode cX12_row 49 = .ok (.iconst 4, 1) := by decide +kernel
theorem dX12_row_50 : decode cX12_row 50 = .ok (.iload_n 1, 1) := by decide +kernel
theorem dX12_row_51 : decode cX12_row 51 = .ok (.imul, 1) := by decide +kernel
theorem dX12_row_52 : decode cX12_row 52 = .ok (.iload_n 2, 1) := by decide +kernel
theorem dX12_row_53 : decode cX12_row 53 = .ok (.iadd, 1) := by decide +kernel
theorem dX12_row_54 : decode cX12_row 54 = .ok (.iaload, 1) := by decide +kernel
theorem dX12_row_55 : decode cX12_row 55 = .ok (.istore 4, 2) := by decide +kernel
theorem dX12_row_57 : decode cX12_row 57 = .ok (.aload_n 0, 1) := by decide +kernel
theorem dX12_row_58 : decode cX12_row 58 = .ok (.getfield 38, 3) := by decide +kernel
theorem dX12_row_61 : decode cX12_row 61 = .ok (.iconst 4, 1) := by decide +kernel
theorem dX12_row_62 : decode cX12_row 62 = .ok (.iload_n 1, 1) := by decide +kernel
theorem dX12_row_63 : decode cX12_row 63 = .ok (.imul, 1) := by decide +kernel
theorem dX12_row_64 : decode cX12_row 64 = .ok (.iload_n 2, 1) := by decide +kernel
theorem dX12_row_65 : decode cX12_row 65 = .ok (.iadd, 1) := by decide +kernel
theorem dX12_row_66 : decode cX12_row 66 = .ok (.iload_n 3, 1) := by decide +kernel
theorem dX12_row_67 : decode cX12_row 67 = .ok (.iastore, 1) := by decide +kernel
theorem dX12_row_68 : decode cX12_row 68 = .ok (.iload 4, 2) := by decide +kernel
theorem dX12_row_70 : decode cX12_row 70 = .ok (.ireturn, 1) := by decide +kernel
theorem dX12_feed_0 : decode cX12_feed 0 = .ok (.aload_n 0, 1) := by decide +kernel
theorem dX12_feed_1 : decode cX12_feed 1 = .ok (.iload_n 1, 1) := by decide +kernel
theorem dX12_feed_2 : decode cX12_feed 2 = .ok (.iconst 0, 1) := by decide +kernel
theorem dX12_feed_3 : decode cX12_feed 3 = .ok (.bipush 127, 2) := by decide +kernel
theorem dX12_feed_5 : decode cX12_feed 5 = .ok (.invokevirtual 203, 3) := by decide +kernel
theorem dX12_feed_8 : decode cX12_feed 8 = .ok (.ifCond .ne 6, 3) := by decide +kernel
theorem dX12_feed_11 : decode cX12_feed 11 = .ok (.bipush (-2), 2) := by decide +kernel
theorem dX12_feed_13 : decode cX12_feed 13 = .ok (.ireturn, 1) := by decide +kernel
theorem dX12_feed_14 : decode cX12_feed 14 = .ok (.aload_n 0, 1) := by decide +kernel
theorem dX12_feed_15 : decode cX12_feed 15 = .ok (.getfield 47, 3) := by decide +kernel
theorem dX12_feed_18 : decode cX12_feed 18 = .ok (.bipush 100, 2) := by decide +kernel
theorem dX12_feed_20 : decode cX12_feed 20 = .ok (.if_icmp .ne 6, 3) := by decide +kernel
theorem dX12_feed_23 : decode cX12_feed 23 = .ok (.bipush (-4), 2) := by decide +kernel
theorem dX12_feed_25 : decode cX12_feed 25 = .ok (.ireturn, 1) := by decide +kernel
theorem dX12_feed_26 : decode cX12_feed 26 = .ok (.aload_n 0, 1) := by decide +kernel
theorem dX12_feed_27 : decode cX12_feed 27 = .ok (.getfield 56, 3) := by decide +kernel
theorem dX12_feed_30 : decode cX12_feed 30 = .ok (.aload_n 0, 1) := by decide +kernel
theorem dX12_feed_31 : decode cX12_feed 31 = .ok (.getfield 47, 3) := by decide +kernel
theorem dX12_feed_34 : decode cX12_feed 34 = .ok (.iload_n 1, 1) := by decide +kernel
theorem dX12_feed_35 : decode cX12_feed 35 = .ok (.iastore, 1) := by decide +kernel
theorem dX12_feed_36 : decode cX12_feed 36 = .ok (.aload_n 0, 1) := by decide +kernel
theorem dX12_feed_37 : decode cX12_feed 37 = .ok (.dup, 1) := by decide +kernel
theorem dX12_feed_38 : decode cX12_feed 38 = .ok (.getfield 47, 3) := by decide +kernel
theorem dX12_feed_41 : decode cX12_feed 41 = .ok (.iconst 1, 1) := by decide +kernel
theorem dX12_feed_42 : decode cX12_feed 42 = .ok (.iadd, 1) := by decide +kernel
theorem dX12_feed_43 : decode cX12_feed 43 = .ok (.putfield 47, 3) := by decide +kernel
theorem dX12_feed_46 : decode cX12_feed 46 = .ok (.aload_n 0, 1) := by decide +kernel
theorem dX12_feed_47 : decode cX12_feed 47 = .ok (.getfield 47, 3) := by decide +kernel
theorem dX12_feed_50 : decode cX12_feed 50 = .ok (.ireturn, 1) := by decide +kernel
theorem dX12_next_0 : decode cX12_next 0 = .ok (.aload_n 0, 1) := by decide +kernel
theorem dX12_next_1 : decode cX12_next 1 = .ok (.getfield 50, 3) := by decide +kernel
theorem dX12_next_4 : decode cX12_next 4 = .ok (.aload_n 0, 1) := by decide +kernel
theorem dX12_next_5 : decode cX12_next 5 = .ok (.getfield 47, 3) := by decide +kernel
theorem dX12_next_8 : decode cX12_next 8 = .ok (.if_icmp .ge 15, 3) := by decide +kernel
theorem dX12_next_11 : decode cX12_next 11 = .ok (.aload_n 0, 1) := by decide +kernel
theorem dX12_next_12 : decode cX12_next 12 = .ok (.getfield 56, 3) := by decide +kernel
theorem dX12_next_15 : decode cX12_next 15 = .ok (.aload_n 0, 1) := by decide +kernel
theorem dX12_next_16 : decode cX12_next 16 = .ok (.getfield 50, 3) := by decide +kernel
theorem dX12_next_19 : decode cX12_next 19 = .ok (.iaload, 1) := by decide +kernel
theorem dX12_next_20 : decode cX12_next 20 = .ok (.goto 4, 3) := by decide +kernel
theorem dX12_next_23 : decode cX12_next 23 = .ok (.iconst (-1), 1) := by decide +kernel
theorem dX12_next_24 : decode cX12_next 24 = .ok (.ireturn, 1) := by decide +kernel
theorem dX12_takes_0 : decode cX12_takes 0 = .ok (.aload_n 0, 1) := by decide +kernel
theorem dX12_takes_1 : decode cX12_takes 1 = .ok (.invokevirtual 214, 3) := by decide +kernel
theorem dX12_takes_4 : decode cX12_takes 4 = .ok (.iload_n 1, 1) := by decide +kernel
theorem dX12_takes_5 : decode cX12_takes 5 = .ok (.if_icmp .eq 5, 3) := by decide +kernel
theorem dX12_takes_8 : decode cX12_takes 8 = .ok (.iconst 0, 1) := by decide +kernel
theorem dX12_takes_9 : decode cX12_takes 9 = .ok (.ireturn, 1) := by decide +kernel
theorem dX12_takes_10 : decode cX12_takes 10 = .ok (.aload_n 0, 1) := by decide +kernel
theorem dX12_takes_11 : decode cX12_takes 11 = .ok (.dup, 1) := by decide +kernel
theorem dX12_takes_12 : decode cX12_takes 12 = .ok (.getfield 50, 3) := by decide +kernel
theorem dX12_takes_15 : decode cX12_takes 15 = .ok (.iconst 1, 1) := by decide +kernel
theorem dX12_takes_16 : decode cX12_takes 16 = .ok (.iadd, 1) := by decide +kernel
theorem dX12_takes_17 : decode cX12_takes 17 = .ok (.putfield 50, 3) := by decide +kernel
theorem dX12_takes_20 : decode cX12_takes 20 = .ok (.iconst 1, 1) := by decide +kernel
theorem dX12_takes_21 : decode cX12_takes 21 = .ok (.ireturn, 1) := by decide +kernel
theorem dX12_takesWord_0 : decode cX12_takesWord 0 = .ok (.iconst 0, 1) := by decide +kernel
theorem dX12_takesWord_1 : decode cX12_takesWord 1 = .ok (.istore_n 3, 1) := by decide +kernel
theorem dX12_takesWord_2 : decode cX12_takesWord 2 = .ok (.iload_n 3, 1) := by decide +kernel
theorem dX12_takesWord_3 : decode cX12_takesWord 3 = .ok (.iload_n 2, 1) := by decide +kernel
theorem dX12_takesWord_4 : decode cX12_takesWord 4 = .ok (.if_icmp .ge 26, 3) := by decide +kernel
theorem dX12_takesWord_7 : decode cX12_takesWord 7 = .ok (.aload_n 0, 1) := by decide +kernel
theorem dX12_takesWord_8 : decode cX12_takesWord 8 = .ok (.aload_n 0, 1) := by decide +kernel
theorem dX12_takesWord_9 : decode cX12_takesWord 9 = .ok (.getfield 89, 3) := by decide +kernel
theorem dX12_takesWord_12 : decode cX12_takesWord 12 = .ok (.iload_n 1, 1) := by decide +kernel
theorem dX12_takesWord_13 : decode cX12_takesWord 13 = .ok (.iload_n 3, 1) := by decide +kernel
theorem dX12_takesWord_14 : decode cX12_takesWord 14 = .ok (.iadd, 1) := by decide +kernel
theorem dX12_takesWord_15 : decode cX12_takesWord 15 = .ok (.iaload, 1) := by decide +kernel
theorem dX12_takesWord_16 : decode cX12_takesWord 16 = .ok (.invokevirtual 218, 3) := by decide +kernel
theorem dX12_takesWord_19 : decode cX12_takesWord 19 = .ok (.ifCond .ne 5, 3) := by decide +kernel
theorem dX12_takesWord_22 : decode cX12_takesWord 22 = .ok (.iconst 0, 1) := by decide +kernel
theorem dX12_takesWord_23 : decode cX12_takesWord 23 = .ok (.ireturn, 1) := by decide +kernel
theorem dX12_takesWord_24 : decode cX12_takesWord 24 = .ok (.iinc 3 1, 3) := by decide +kernel
theorem dX12_takesWord_27 : decode cX12_takesWord 27 = .ok (.goto (-25), 3) := by decide +kernel
theorem dX12_takesWord_30 : decode cX12_takesWord 30 = .ok (.aload_n 0, 1) := by decide +kernel
theorem dX12_takesWord_31 : decode cX12_takesWord 31 = .ok (.bipush 32, 2) := by decide +kernel
theorem dX12_takesWord_33 : decode cX12_takesWord 33 = .ok (.invokevirtual 218, 3) := by decide +kernel
theorem dX12_takesWord_36 : decode cX12_takesWord 36 = .ok (.ireturn, 1) := by decide +kernel
theorem dX12_isDigit_0 : decode cX12_isDigit 0 = .ok (.aload_n 0, 1) := by decide +kernel
theorem dX12_isDigit_1 : decode cX12_isDigit 1 = .ok (.aload_n 0, 1) := by decide +kernel
theorem dX12_isDigit_2 : decode cX12_isDigit 2 = .ok (.invokevirtual 214, 3) := by decide +kernel
theorem dX12_isDigit_5 : decode cX12_isDigit 5 = .ok (.bipush 48, 2) := by decide +kernel
theorem dX12_isDigit_7 : decode cX12_isDigit 7 = .ok (.bipush 57, 2) := by decide +kernel
theorem dX12_isDigit_9 : decode cX12_isDigit 9 = .ok (.invokevirtual 203, 3) := by decide +kernel
theorem dX12_isDigit_12 : decode cX12_isDigit 12 = .ok (.ireturn, 1) := by decide +kernel
theorem dX12_takesNumber_0 : decode cX12_takesNumber 0 = .ok (.aload_n 0, 1) := by decide +kernel
theorem dX12_takesNumber_1 : decode cX12_takesNumber 1 = .ok (.invokevirtual 221, 3) := by decide +kernel
theorem dX12_takesNumber_4 : decode cX12_takesNumber 4 = .ok (.ifCond .ne 5, 3) := by decide +kernel
theorem dX12_takesNumber_7 : decode cX12_takesNumber 7 = .ok (.iconst 0, 1) := by decide +kernel
theorem dX12_takesNumber_8 : decode cX12_takesNumber 8 = .ok (.ireturn, 1) := by decide +kernel
theorem dX12_takesNumber_9 : decode cX12_takesNumber 9 = .ok (.aload_n 0, 1) := by decide +kernel
theorem dX12_takesNumber_10 : decode cX12_takesNumber 10 = .ok (.iconst 0, 1) := by decide +kernel
theorem dX12_takesNumber_11 : decode cX12_takesNumber 11 = .ok (.putfield 53, 3) := by decide +kernel
theorem dX12_takesNumber_14 : decode cX12_takesNumber 14 = .ok (.iconst 0, 1) := by decide +kernel
theorem dX12_takesNumber_15 : decode cX12_takesNumber 15 = .ok (.istore_n 1, 1) := by decide +kernel
theorem dX12_takesNumber_16 : decode cX12_takesNumber 16 = .ok (.iload_n 1, 1) := by decide +kernel
theorem dX12_takesNumber_17 : decode cX12_takesNumber 17 = .ok (.iconst 2, 1) := by decide +kernel
theorem dX12_takesNumber_18 : decode cX12_takesNumber 18 = .ok (.if_icmp .ge 45, 3) := by decide +kernel
theorem dX12_takesNumber_21 : decode cX12_takesNumber 21 = .ok (.aload_n 0, 1) := by decide +kernel
theorem dX12_takesNumber_22 : decode cX12_takesNumber 22 = .ok (.invokevirtual 221, 3) := by decide +kernel
theorem dX12_takesNumber_25 : decode cX12_takesNumber 25 = .ok (.ifCond .eq 38, 3) := by decide +kernel
theorem dX12_takesNumber_28 : decode cX12_takesNumber 28 = .ok (.aload_n 0, 1) := by decide +kernel
theorem dX12_takesNumber_29 : decode cX12_takesNumber 29 = .ok (.bipush 10, 2) := by decide +kernel
theorem dX12_takesNumber_31 : decode cX12_takesNumber 31 = .ok (.aload_n 0, 1) := by decide +kernel
theorem dX12_takesNumber_32 : decode cX12_takesNumber 32 = .ok (.getfield 53, 3) := by decide +kernel
theorem dX12_takesNumber_35 : decode cX12_takesNumber 35 = .ok (.imul, 1) := by decide +kernel
theorem dX12_takesNumber_36 : decode cX12_takesNumber 36 = .ok (.aload_n 0, 1) := by decide +kernel
theorem dX12_takesNumber_37 : decode cX12_takesNumber 37 = .ok (.invokevirtual 214, 3) := by decide +kernel
theorem dX12_takesNumber_40 : decode cX12_takesNumber 40 = .ok (.iadd, 1) := by decide +kernel
theorem dX12_takesNumber_41 : decode cX12_takesNumber 41 = .ok (.bipush 48, 2) := by decide +kernel
theorem dX12_takesNumber_43 : decode cX12_takesNumber 43 = .ok (.isub, 1) := by decide +kernel
theorem dX12_takesNumber_44 : decode cX12_takesNumber 44 = .ok (.putfield 53, 3) := by decide +kernel
theorem dX12_takesNumber_47 : decode cX12_takesNumber 47 = .ok (.aload_n 0, 1) := by decide +kernel
theorem dX12_takesNumber_48 : decode cX12_takesNumber 48 = .ok (.dup, 1) := by decide +kernel
theorem dX12_takesNumber_49 : decode cX12_takesNumber 49 = .ok (.getfield 50, 3) := by decide +kernel
theorem dX12_takesNumber_52 : decode cX12_takesNumber 52 = .ok (.iconst 1, 1) := by decide +kernel
theorem dX12_takesNumber_53 : decode cX12_takesNumber 53 = .ok (.iadd, 1) := by decide +kernel
theorem dX12_takesNumber_54 : decode cX12_takesNumber 54 = .ok (.putfield 50, 3) := by decide +kernel
theorem dX12_takesNumber_57 : decode cX12_takesNumber 57 = .ok (.iinc 1 1, 3) := by decide +kernel
theorem dX12_takesNumber_60 : decode cX12_takesNumber 60 = .ok (.goto (-44), 3) := by decide +kernel
theorem dX12_takesNumber_63 : decode cX12_takesNumber 63 = .ok (.iconst 1, 1) := by decide +kernel
theorem dX12_takesNumber_64 : decode cX12_takesNumber 64 = .ok (.ireturn, 1) := by decide +kernel
theorem dX12_emits_0 : decode cX12_emits 0 = .ok (.aload_n 0, 1) := by decide +kernel
theorem dX12_emits_1 : decode cX12_emits 1 = .ok (.getfield 74, 3) := by decide +kernel
theorem dX12_emits_4 : decode cX12_emits 4 = .ok (.aload_n 0, 1) := by decide +kernel
theorem dX12_emits_5 : decode cX12_emits 5 = .ok (.getfield 80, 3) := by decide +kernel
theorem dX12_emits_8 : decode cX12_emits 8 = .ok (.iload_n 1, 1) := by decide +kernel
theorem dX12_emits_9 : decode cX12_emits 9 = .ok (.iastore, 1) := by decide +kernel
theorem dX12_emits_10 : decode cX12_emits 10 = .ok (.aload_n 0, 1) := by decide +kernel
theorem dX12_emits_11 : decode cX12_emits 11 = .ok (.dup, 1) := by decide +kernel
theorem dX12_emits_12 : decode cX12_emits 12 = .ok (.getfield 80, 3) := by decide +kernel
theorem dX12_emits_15 : decode cX12_emits 15 = .ok (.iconst 1, 1) := by decide +kernel
theorem dX12_emits_16 : decode cX12_emits 16 = .ok (.iadd, 1) := by decide +kernel
theorem dX12_emits_17 : decode cX12_emits 17 = .ok (.putfield 80, 3) := by decide +kernel
theorem dX12_emits_20 : decode cX12_emits 20 = .ok (.return_, 1) := by decide +kernel
theorem dX12_whole_0 : decode cX12_whole 0 = .ok (.aload_n 0, 1) := by decide +kernel
theorem dX12_whole_1 : decode cX12_whole 1 = .ok (.getfield 83, 3) := by decide +kernel
theorem dX12_whole_4 : decode cX12_whole 4 = .ok (.ifCond .le 48, 3) := by decide +kernel
theorem dX12_whole_7 : decode cX12_whole 7 = .ok (.aload_n 0, 1) := by decide +kernel
theorem dX12_whole_8 : decode cX12_whole 8 = .ok (.getfield 77, 3) := by decide +kernel
theorem dX12_whole_11 : decode cX12_whole 11 = .ok (.aload_n 0, 1) := by decide +kernel
theorem dX12_whole_12 : decode cX12_whole 12 = .ok (.getfield 83, 3) := by decide +kernel
theorem dX12_whole_15 : decode cX12_whole 15 = .ok (.iconst 1, 1) := by decide +kernel
theorem dX12_whole_16 : decode cX12_whole 16 = .ok (.isub, 1) := by decide +kernel
theorem dX12_whole_17 : decode cX12_whole 17 = .ok (.iaload, 1) := by decide +kernel
theorem dX12_whole_18 : decode cX12_whole 18 = .ok (.bipush 33, 2) := by decide +kernel
theorem dX12_whole_20 : decode cX12_whole 20 = .ok (.if_icmp .ne 32, 3) := by decide +kernel
theorem dX12_whole_23 : decode cX12_whole 23 = .ok (.aload_n 0, 1) := by decide +kernel
theorem dX12_whole_24 : decode cX12_whole 24 = .ok (.bipush (-33), 2) := by decide +kernel
theorem dX12_whole_26 : decode cX12_whole 26 = .ok (.invokevirtual 225, 3) := by decide +kernel
theorem dX12_whole_29 : decode cX12_whole 29 = .ok (.aload_n 0, 1) := by decide +kernel
theorem dX12_whole_30 : decode cX12_whole 30 = .ok (.dup, 1) := by decide +kernel
theorem dX12_whole_31 : decode cX12_whole 31 = .ok (.getfield 83, 3) := by decide +kernel
theorem dX12_whole_34 : decode cX12_whole 34 = .ok (.iconst 1, 1) := by decide +kernel
theorem dX12_whole_35 : decode cX12_whole 35 = .ok (.isub, 1) := by decide +kernel
theorem dX12_whole_36 : decode cX12_whole 36 = .ok (.putfield 83, 3) := by decide +kernel
theorem dX12_whole_39 : decode cX12_whole 39 = .ok (.aload_n 0, 1) := by decide +kernel
theorem dX12_whole_40 : decode cX12_whole 40 = .ok (.dup, 1) := by decide +kernel
theorem dX12_whole_41 : decode cX12_whole 41 = .ok (.getfield 86, 3) := by decide +kernel
theorem dX12_whole_44 : decode cX12_whole 44 = .ok (.iconst 1, 1) := by decide +kernel
theorem dX12_whole_45 : decode cX12_whole 45 = .ok (.isub, 1) := by decide +kernel
theorem dX12_whole_46 : decode cX12_whole 46 = .ok (.putfield 86, 3) := by decide +kernel
theorem dX12_whole_49 : decode cX12_whole 49 = .ok (.goto (-49), 3) := by decide +kernel
theorem dX12_whole_52 : decode cX12_whole 52 = .ok (.return_, 1) := by decide +kernel
theorem dX12_settle_0 : decode cX12_settle 0 = .ok (.aload_n 0, 1) := by decide +kernel
theorem dX12_settle_1 : decode cX12_settle 1 = .ok (.getfield 83, 3) := by decide +kernel
theorem dX12_settle_4 : decode cX12_settle 4 = .ok (.ifCond .le 68, 3) := by decide +kernel
theorem dX12_settle_7 : decode cX12_settle 7 = .ok (.aload_n 0, 1) := by decide +kernel
theorem dX12_settle_8 : decode cX12_settle 8 = .ok (.getfield 77, 3) := by decide +kernel
theorem dX12_settle_11 : decode cX12_settle 11 = .ok (.aload_n 0, 1) := by decide +kernel
theorem dX12_settle_12 : decode cX12_settle 12 = .ok (.getfield 83, 3) := by decide +kernel
theorem dX12_settle_15 : decode cX12_settle 15 = .ok (.iconst 1, 1) := by decide +kernel
theorem dX12_settle_16 : decode cX12_settle 16 = .ok (.isub, 1) := by decide +kernel
theorem dX12_settle_17 : decode cX12_settle 17 = .ok (.iaload, 1) := by decide +kernel
theorem dX12_settle_18 : decode cX12_settle 18 = .ok (.bipush 38, 2) := by decide +kernel
theorem dX12_settle_20 : decode cX12_settle 20 = .ok (.if_icmp .eq 25, 3) := by decide +kernel
theorem dX12_settle_23 : decode cX12_settle 23 = .ok (.aload_n 0, 1) := by decide +kernel
theorem dX12_settle_24 : decode cX12_settle 24 = .ok (.getfield 77, 3) := by decide +kernel
theorem dX12_settle_27 : decode cX12_settle 27 = .ok (.aload_n 0, 1) := by decide +kernel
theorem dX12_settle_28 : decode cX12_settle 28 = .ok (.getfield 83, 3) := by decide +kernel
theorem dX12_settle_31 : decode cX12_settle 31 = .ok (.iconst 1, 1) := by decide +kernel
theorem dX12_settle_32 : decode cX12_settle 32 = .ok (.isub, 1) := by decide +kernel
theorem dX12_settle_33 : decode cX12_settle 33 = .ok (.iaload, 1) := by decide +kernel
theorem dX12_settle_34 : decode cX12_settle 34 = .ok (.bipush 124, 2) := by decide +kernel
