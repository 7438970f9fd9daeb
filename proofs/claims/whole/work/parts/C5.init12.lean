/-! ===== TwinTreesModel() (printed by program) ===== -/
theorem d_X12_init_0 : decode cX12_init 0 = .ok (.aload_n 0, 1) := by decide +kernel
theorem d_X12_init_1 : decode cX12_init 1 = .ok (.invokespecial 24, 3) := by decide +kernel
theorem d_X12_init_4 : decode cX12_init 4 = .ok (.aload_n 0, 1) := by decide +kernel
theorem d_X12_init_5 : decode cX12_init 5 = .ok (.sipush 940, 3) := by decide +kernel
theorem d_X12_init_8 : decode cX12_init 8 = .ok (.newarray .byte, 2) := by decide +kernel
theorem d_X12_init_10 : decode cX12_init 10 = .ok (.putfield 11, 3) := by decide +kernel
theorem d_X12_init_13 : decode cX12_init 13 = .ok (.aload_n 0, 1) := by decide +kernel
theorem d_X12_init_14 : decode cX12_init 14 = .ok (.sipush 232, 3) := by decide +kernel
theorem d_X12_init_17 : decode cX12_init 17 = .ok (.newarray .int, 2) := by decide +kernel
theorem d_X12_init_19 : decode cX12_init 19 = .ok (.putfield 30, 3) := by decide +kernel
theorem d_X12_init_22 : decode cX12_init 22 = .ok (.aload_n 0, 1) := by decide +kernel
theorem d_X12_init_23 : decode cX12_init 23 = .ok (.bipush 54, 2) := by decide +kernel
theorem d_X12_init_25 : decode cX12_init 25 = .ok (.newarray .int, 2) := by decide +kernel
theorem d_X12_init_27 : decode cX12_init 27 = .ok (.putfield 34, 3) := by decide +kernel
theorem d_X12_init_30 : decode cX12_init 30 = .ok (.aload_n 0, 1) := by decide +kernel
theorem d_X12_init_31 : decode cX12_init 31 = .ok (.sipush 135, 3) := by decide +kernel
theorem d_X12_init_34 : decode cX12_init 34 = .ok (.newarray .int, 2) := by decide +kernel
theorem d_X12_init_36 : decode cX12_init 36 = .ok (.putfield 37, 3) := by decide +kernel
theorem d_X12_init_39 : decode cX12_init 39 = .ok (.aload_n 0, 1) := by decide +kernel
theorem d_X12_init_40 : decode cX12_init 40 = .ok (.sipush 246, 3) := by decide +kernel
theorem d_X12_init_43 : decode cX12_init 43 = .ok (.newarray .int, 2) := by decide +kernel
theorem d_X12_init_45 : decode cX12_init 45 = .ok (.putfield 40, 3) := by decide +kernel
theorem d_X12_init_48 : decode cX12_init 48 = .ok (.aload_n 0, 1) := by decide +kernel
theorem d_X12_init_49 : decode cX12_init 49 = .ok (.bipush 18, 2) := by decide +kernel
theorem d_X12_init_51 : decode cX12_init 51 = .ok (.newarray .long, 2) := by decide +kernel
theorem d_X12_init_53 : decode cX12_init 53 = .ok (.putfield 43, 3) := by decide +kernel
theorem d_X12_init_56 : decode cX12_init 56 = .ok (.aload_n 0, 1) := by decide +kernel
theorem d_X12_init_57 : decode cX12_init 57 = .ok (.bipush 16, 2) := by decide +kernel
theorem d_X12_init_59 : decode cX12_init 59 = .ok (.newarray .long, 2) := by decide +kernel
theorem d_X12_init_61 : decode cX12_init 61 = .ok (.putfield 47, 3) := by decide +kernel
theorem d_X12_init_64 : decode cX12_init 64 = .ok (.aload_n 0, 1) := by decide +kernel
theorem d_X12_init_65 : decode cX12_init 65 = .ok (.bipush 42, 2) := by decide +kernel
theorem d_X12_init_67 : decode cX12_init 67 = .ok (.newarray .int, 2) := by decide +kernel
theorem d_X12_init_69 : decode cX12_init 69 = .ok (.putfield 50, 3) := by decide +kernel
theorem d_X12_init_72 : decode cX12_init 72 = .ok (.aload_n 0, 1) := by decide +kernel
theorem d_X12_init_73 : decode cX12_init 73 = .ok (.bipush 42, 2) := by decide +kernel
theorem d_X12_init_75 : decode cX12_init 75 = .ok (.newarray .int, 2) := by decide +kernel
theorem d_X12_init_77 : decode cX12_init 77 = .ok (.putfield 53, 3) := by decide +kernel
theorem d_X12_init_80 : decode cX12_init 80 = .ok (.aload_n 0, 1) := by decide +kernel
theorem d_X12_init_81 : decode cX12_init 81 = .ok (.bipush 42, 2) := by decide +kernel
theorem d_X12_init_83 : decode cX12_init 83 = .ok (.newarray .int, 2) := by decide +kernel
theorem d_X12_init_85 : decode cX12_init 85 = .ok (.putfield 56, 3) := by decide +kernel
theorem d_X12_init_88 : decode cX12_init 88 = .ok (.aload_n 0, 1) := by decide +kernel
theorem d_X12_init_89 : decode cX12_init 89 = .ok (.bipush 10, 2) := by decide +kernel
theorem d_X12_init_91 : decode cX12_init 91 = .ok (.newarray .int, 2) := by decide +kernel
theorem d_X12_init_93 : decode cX12_init 93 = .ok (.putfield 59, 3) := by decide +kernel
theorem d_X12_init_96 : decode cX12_init 96 = .ok (.aload_n 0, 1) := by decide +kernel
theorem d_X12_init_97 : decode cX12_init 97 = .ok (.iconst 5, 1) := by decide +kernel
theorem d_X12_init_98 : decode cX12_init 98 = .ok (.newarray .int, 2) := by decide +kernel
theorem d_X12_init_100 : decode cX12_init 100 = .ok (.putfield 62, 3) := by decide +kernel
theorem d_X12_init_103 : decode cX12_init 103 = .ok (.aload_n 0, 1) := by decide +kernel
theorem d_X12_init_104 : decode cX12_init 104 = .ok (.iconst 5, 1) := by decide +kernel
theorem d_X12_init_105 : decode cX12_init 105 = .ok (.newarray .int, 2) := by decide +kernel
theorem d_X12_init_107 : decode cX12_init 107 = .ok (.putfield 65, 3) := by decide +kernel
theorem d_X12_init_110 : decode cX12_init 110 = .ok (.aload_n 0, 1) := by decide +kernel
theorem d_X12_init_111 : decode cX12_init 111 = .ok (.iconst 5, 1) := by decide +kernel
theorem d_X12_init_112 : decode cX12_init 112 = .ok (.newarray .int, 2) := by decide +kernel
theorem d_X12_init_114 : decode cX12_init 114 = .ok (.putfield 68, 3) := by decide +kernel
theorem d_X12_init_117 : decode cX12_init 117 = .ok (.aload_n 0, 1) := by decide +kernel
theorem d_X12_init_118 : decode cX12_init 118 = .ok (.bipush 80, 2) := by decide +kernel
theorem d_X12_init_120 : decode cX12_init 120 = .ok (.newarray .int, 2) := by decide +kernel
theorem d_X12_init_122 : decode cX12_init 122 = .ok (.putfield 71, 3) := by decide +kernel
theorem d_X12_init_125 : decode cX12_init 125 = .ok (.aload_n 0, 1) := by decide +kernel
theorem d_X12_init_126 : decode cX12_init 126 = .ok (.bipush 80, 2) := by decide +kernel
theorem d_X12_init_128 : decode cX12_init 128 = .ok (.newarray .int, 2) := by decide +kernel
theorem d_X12_init_130 : decode cX12_init 130 = .ok (.putfield 74, 3) := by decide +kernel
theorem d_X12_init_133 : decode cX12_init 133 = .ok (.aload_n 0, 1) := by decide +kernel
theorem d_X12_init_134 : decode cX12_init 134 = .ok (.sipush 1764, 3) := by decide +kernel
theorem d_X12_init_137 : decode cX12_init 137 = .ok (.newarray .int, 2) := by decide +kernel
theorem d_X12_init_139 : decode cX12_init 139 = .ok (.putfield 77, 3) := by decide +kernel
theorem d_X12_init_142 : decode cX12_init 142 = .ok (.aload_n 0, 1) := by decide +kernel
theorem d_X12_init_143 : decode cX12_init 143 = .ok (.bipush 81, 2) := by decide +kernel
theorem d_X12_init_145 : decode cX12_init 145 = .ok (.newarray .int, 2) := by decide +kernel
theorem d_X12_init_147 : decode cX12_init 147 = .ok (.putfield 80, 3) := by decide +kernel
theorem d_X12_init_150 : decode cX12_init 150 = .ok (.aload_n 0, 1) := by decide +kernel
theorem d_X12_init_151 : decode cX12_init 151 = .ok (.ldc 83, 2) := by decide +kernel
theorem d_X12_init_153 : decode cX12_init 153 = .ok (.newarray .int, 2) := by decide +kernel
theorem d_X12_init_155 : decode cX12_init 155 = .ok (.putfield 84, 3) := by decide +kernel
theorem d_X12_init_158 : decode cX12_init 158 = .ok (.aload_n 0, 1) := by decide +kernel
theorem d_X12_init_159 : decode cX12_init 159 = .ok (.sipush 3360, 3) := by decide +kernel
theorem d_X12_init_162 : decode cX12_init 162 = .ok (.newarray .boolean, 2) := by decide +kernel
theorem d_X12_init_164 : decode cX12_init 164 = .ok (.putfield 87, 3) := by decide +kernel
theorem d_X12_init_167 : decode cX12_init 167 = .ok (.aload_n 0, 1) := by decide +kernel
theorem d_X12_init_168 : decode cX12_init 168 = .ok (.sipush 25600, 3) := by decide +kernel
theorem d_X12_init_171 : decode cX12_init 171 = .ok (.newarray .int, 2) := by decide +kernel
theorem d_X12_init_173 : decode cX12_init 173 = .ok (.putfield 91, 3) := by decide +kernel
theorem d_X12_init_176 : decode cX12_init 176 = .ok (.aload_n 0, 1) := by decide +kernel
theorem d_X12_init_177 : decode cX12_init 177 = .ok (.sipush 25600, 3) := by decide +kernel
theorem d_X12_init_180 : decode cX12_init 180 = .ok (.newarray .int, 2) := by decide +kernel
theorem d_X12_init_182 : decode cX12_init 182 = .ok (.putfield 94, 3) := by decide +kernel
theorem d_X12_init_185 : decode cX12_init 185 = .ok (.aload_n 0, 1) := by decide +kernel
theorem d_X12_init_186 : decode cX12_init 186 = .ok (.sipush 25600, 3) := by decide +kernel
theorem d_X12_init_189 : decode cX12_init 189 = .ok (.newarray .int, 2) := by decide +kernel
theorem d_X12_init_191 : decode cX12_init 191 = .ok (.putfield 97, 3) := by decide +kernel
theorem d_X12_init_194 : decode cX12_init 194 = .ok (.aload_n 0, 1) := by decide +kernel
theorem d_X12_init_195 : decode cX12_init 195 = .ok (.sipush 25600, 3) := by decide +kernel
theorem d_X12_init_198 : decode cX12_init 198 = .ok (.newarray .int, 2) := by decide +kernel
theorem d_X12_init_200 : decode cX12_init 200 = .ok (.putfield 100, 3) := by decide +kernel
theorem d_X12_init_203 : decode cX12_init 203 = .ok (.aload_n 0, 1) := by decide +kernel
theorem d_X12_init_204 : decode cX12_init 204 = .ok (.sipush 25600, 3) := by decide +kernel
theorem d_X12_init_207 : decode cX12_init 207 = .ok (.newarray .boolean, 2) := by decide +kernel
theorem d_X12_init_209 : decode cX12_init 209 = .ok (.putfield 103, 3) := by decide +kernel
theorem d_X12_init_212 : decode cX12_init 212 = .ok (.aload_n 0, 1) := by decide +kernel
theorem d_X12_init_213 : decode cX12_init 213 = .ok (.iconst 5, 1) := by decide +kernel
theorem d_X12_init_214 : decode cX12_init 214 = .ok (.newarray .int, 2) := by decide +kernel
theorem d_X12_init_216 : decode cX12_init 216 = .ok (.putfield 106, 3) := by decide +kernel
theorem d_X12_init_219 : decode cX12_init 219 = .ok (.aload_n 0, 1) := by decide +kernel
theorem d_X12_init_220 : decode cX12_init 220 = .ok (.sipush 752, 3) := by decide +kernel
theorem d_X12_init_223 : decode cX12_init 223 = .ok (.newarray .int, 2) := by decide +kernel
theorem d_X12_init_225 : decode cX12_init 225 = .ok (.putfield 109, 3) := by decide +kernel
theorem d_X12_init_228 : decode cX12_init 228 = .ok (.aload_n 0, 1) := by decide +kernel
theorem d_X12_init_229 : decode cX12_init 229 = .ok (.bipush 94, 2) := by decide +kernel
theorem d_X12_init_231 : decode cX12_init 231 = .ok (.newarray .int, 2) := by decide +kernel
theorem d_X12_init_233 : decode cX12_init 233 = .ok (.putfield 112, 3) := by decide +kernel
theorem d_X12_init_236 : decode cX12_init 236 = .ok (.aload_n 0, 1) := by decide +kernel
theorem d_X12_init_237 : decode cX12_init 237 = .ok (.bipush 94, 2) := by decide +kernel
theorem d_X12_init_239 : decode cX12_init 239 = .ok (.newarray .int, 2) := by decide +kernel
theorem d_X12_init_241 : decode cX12_init 241 = .ok (.putfield 115, 3) := by decide +kernel
theorem d_X12_init_244 : decode cX12_init 244 = .ok (.aload_n 0, 1) := by decide +kernel
theorem d_X12_init_245 : decode cX12_init 245 = .ok (.sipush 1215, 3) := by decide +kernel
theorem d_X12_init_248 : decode cX12_init 248 = .ok (.newarray .int, 2) := by decide +kernel
theorem d_X12_init_250 : decode cX12_init 250 = .ok (.putfield 118, 3) := by decide +kernel
theorem d_X12_init_253 : decode cX12_init 253 = .ok (.aload_n 0, 1) := by decide +kernel
theorem d_X12_init_254 : decode cX12_init 254 = .ok (.sipush 6075, 3) := by decide +kernel
theorem d_X12_init_257 : decode cX12_init 257 = .ok (.newarray .int, 2) := by decide +kernel
theorem d_X12_init_259 : decode cX12_init 259 = .ok (.putfield 121, 3) := by decide +kernel
theorem d_X12_init_262 : decode cX12_init 262 = .ok (.aload_n 0, 1) := by decide +kernel
theorem d_X12_init_263 : decode cX12_init 263 = .ok (.bipush 25, 2) := by decide +kernel
theorem d_X12_init_265 : decode cX12_init 265 = .ok (.newarray .int, 2) := by decide +kernel
theorem d_X12_init_267 : decode cX12_init 267 = .ok (.putfield 124, 3) := by decide +kernel
theorem d_X12_init_270 : decode cX12_init 270 = .ok (.aload_n 0, 1) := by decide +kernel
theorem d_X12_init_271 : decode cX12_init 271 = .ok (.sipush 405, 3) := by decide +kernel
theorem d_X12_init_274 : decode cX12_init 274 = .ok (.newarray .int, 2) := by decide +kernel
theorem d_X12_init_276 : decode cX12_init 276 = .ok (.putfield 127, 3) := by decide +kernel
theorem d_X12_init_279 : decode cX12_init 279 = .ok (.aload_n 0, 1) := by decide +kernel
theorem d_X12_init_280 : decode cX12_init 280 = .ok (.sipush 405, 3) := by decide +kernel
theorem d_X12_init_283 : decode cX12_init 283 = .ok (.newarray .int, 2) := by decide +kernel
theorem d_X12_init_285 : decode cX12_init 285 = .ok (.putfield 130, 3) := by decide +kernel
theorem d_X12_init_288 : decode cX12_init 288 = .ok (.aload_n 0, 1) := by decide +kernel
theorem d_X12_init_289 : decode cX12_init 289 = .ok (.iconst 5, 1) := by decide +kernel
theorem d_X12_init_290 : decode cX12_init 290 = .ok (.newarray .int, 2) := by decide +kernel
theorem d_X12_init_292 : decode cX12_init 292 = .ok (.putfield 133, 3) := by decide +kernel
theorem d_X12_init_295 : decode cX12_init 295 = .ok (.aload_n 0, 1) := by decide +kernel
theorem d_X12_init_296 : decode cX12_init 296 = .ok (.bipush 8, 2) := by decide +kernel
theorem d_X12_init_298 : decode cX12_init 298 = .ok (.newarray .int, 2) := by decide +kernel
theorem d_X12_init_300 : decode cX12_init 300 = .ok (.putfield 136, 3) := by decide +kernel
theorem d_X12_init_303 : decode cX12_init 303 = .ok (.aload_n 0, 1) := by decide +kernel
theorem d_X12_init_304 : decode cX12_init 304 = .ok (.bipush 8, 2) := by decide +kernel
theorem d_X12_init_306 : decode cX12_init 306 = .ok (.newarray .int, 2) := by decide +kernel
theorem d_X12_init_308 : decode cX12_init 308 = .ok (.putfield 139, 3) := by decide +kernel
theorem d_X12_init_311 : decode cX12_init 311 = .ok (.aload_n 0, 1) := by decide +kernel
theorem d_X12_init_312 : decode cX12_init 312 = .ok (.iconst (-1), 1) := by decide +kernel
theorem d_X12_init_313 : decode cX12_init 313 = .ok (.putfield 142, 3) := by decide +kernel
theorem d_X12_init_316 : decode cX12_init 316 = .ok (.aload_n 0, 1) := by decide +kernel
theorem d_X12_init_317 : decode cX12_init 317 = .ok (.bipush 36, 2) := by decide +kernel
theorem d_X12_init_319 : decode cX12_init 319 = .ok (.newarray .int, 2) := by decide +kernel
theorem d_X12_init_321 : decode cX12_init 321 = .ok (.putfield 145, 3) := by decide +kernel
theorem d_X12_init_324 : decode cX12_init 324 = .ok (.aload_n 0, 1) := by decide +kernel
theorem d_X12_init_325 : decode cX12_init 325 = .ok (.sipush 9050, 3) := by decide +kernel
theorem d_X12_init_328 : decode cX12_init 328 = .ok (.newarray .int, 2) := by decide +kernel
theorem d_X12_init_330 : decode cX12_init 330 = .ok (.putfield 148, 3) := by decide +kernel
theorem d_X12_init_333 : decode cX12_init 333 = .ok (.aload_n 0, 1) := by decide +kernel
theorem d_X12_init_334 : decode cX12_init 334 = .ok (.sipush 600, 3) := by decide +kernel
theorem d_X12_init_337 : decode cX12_init 337 = .ok (.newarray .int, 2) := by decide +kernel
theorem d_X12_init_339 : decode cX12_init 339 = .ok (.putfield 151, 3) := by decide +kernel
theorem d_X12_init_342 : decode cX12_init 342 = .ok (.aload_n 0, 1) := by decide +kernel
theorem d_X12_init_343 : decode cX12_init 343 = .ok (.sipush 600, 3) := by decide +kernel
theorem d_X12_init_346 : decode cX12_init 346 = .ok (.newarray .int, 2) := by decide +kernel
theorem d_X12_init_348 : decode cX12_init 348 = .ok (.putfield 154, 3) := by decide +kernel
theorem d_X12_init_351 : decode cX12_init 351 = .ok (.aload_n 0, 1) := by decide +kernel
theorem d_X12_init_352 : decode cX12_init 352 = .ok (.iconst 4, 1) := by decide +kernel
theorem d_X12_init_353 : decode cX12_init 353 = .ok (.newarray .int, 2) := by decide +kernel
theorem d_X12_init_355 : decode cX12_init 355 = .ok (.putfield 157, 3) := by decide +kernel
theorem d_X12_init_358 : decode cX12_init 358 = .ok (.aload_n 0, 1) := by decide +kernel
theorem d_X12_init_359 : decode cX12_init 359 = .ok (.iconst (-1), 1) := by decide +kernel
theorem d_X12_init_360 : decode cX12_init 360 = .ok (.putfield 160, 3) := by decide +kernel
theorem d_X12_init_363 : decode cX12_init 363 = .ok (.aload_n 0, 1) := by decide +kernel
theorem d_X12_init_364 : decode cX12_init 364 = .ok (.iconst 5, 1) := by decide +kernel
theorem d_X12_init_365 : decode cX12_init 365 = .ok (.newarray .int, 2) := by decide +kernel
theorem d_X12_init_367 : decode cX12_init 367 = .ok (.putfield 163, 3) := by decide +kernel
theorem d_X12_init_370 : decode cX12_init 370 = .ok (.aload_n 0, 1) := by decide +kernel
theorem d_X12_init_371 : decode cX12_init 371 = .ok (.iconst (-1), 1) := by decide +kernel
theorem d_X12_init_372 : decode cX12_init 372 = .ok (.putfield 166, 3) := by decide +kernel
theorem d_X12_init_375 : decode cX12_init 375 = .ok (.aload_n 0, 1) := by decide +kernel
theorem d_X12_init_376 : decode cX12_init 376 = .ok (.bipush 60, 2) := by decide +kernel
theorem d_X12_init_378 : decode cX12_init 378 = .ok (.newarray .byte, 2) := by decide +kernel
theorem d_X12_init_380 : decode cX12_init 380 = .ok (.putfield 169, 3) := by decide +kernel
theorem d_X12_init_383 : decode cX12_init 383 = .ok (.aload_n 0, 1) := by decide +kernel
theorem d_X12_init_384 : decode cX12_init 384 = .ok (.iconst 4, 1) := by decide +kernel
theorem d_X12_init_385 : decode cX12_init 385 = .ok (.newarray .int, 2) := by decide +kernel
theorem d_X12_init_387 : decode cX12_init 387 = .ok (.putfield 172, 3) := by decide +kernel
theorem d_X12_init_390 : decode cX12_init 390 = .ok (.aload_n 0, 1) := by decide +kernel
theorem d_X12_init_391 : decode cX12_init 391 = .ok (.bipush 45, 2) := by decide +kernel
theorem d_X12_init_393 : decode cX12_init 393 = .ok (.newarray .int, 2) := by decide +kernel
theorem d_X12_init_395 : decode cX12_init 395 = .ok (.putfield 175, 3) := by decide +kernel
theorem d_X12_init_398 : decode cX12_init 398 = .ok (.aload_n 0, 1) := by decide +kernel
theorem d_X12_init_399 : decode cX12_init 399 = .ok (.bipush 45, 2) := by decide +kernel
theorem d_X12_init_401 : decode cX12_init 401 = .ok (.newarray .boolean, 2) := by decide +kernel
theorem d_X12_init_403 : decode cX12_init 403 = .ok (.putfield 178, 3) := by decide +kernel
theorem d_X12_init_406 : decode cX12_init 406 = .ok (.aload_n 0, 1) := by decide +kernel
theorem d_X12_init_407 : decode cX12_init 407 = .ok (.sipush 464, 3) := by decide +kernel
theorem d_X12_init_410 : decode cX12_init 410 = .ok (.newarray .int, 2) := by decide +kernel
theorem d_X12_init_412 : decode cX12_init 412 = .ok (.putfield 181, 3) := by decide +kernel
theorem d_X12_init_415 : decode cX12_init 415 = .ok (.aload_n 0, 1) := by decide +kernel
theorem d_X12_init_416 : decode cX12_init 416 = .ok (.bipush 18, 2) := by decide +kernel
theorem d_X12_init_418 : decode cX12_init 418 = .ok (.newarray .long, 2) := by decide +kernel
theorem d_X12_init_420 : decode cX12_init 420 = .ok (.putfield 184, 3) := by decide +kernel
theorem d_X12_init_423 : decode cX12_init 423 = .ok (.aload_n 0, 1) := by decide +kernel
theorem d_X12_init_424 : decode cX12_init 424 = .ok (.iconst 2, 1) := by decide +kernel
theorem d_X12_init_425 : decode cX12_init 425 = .ok (.newarray .boolean, 2) := by decide +kernel
theorem d_X12_init_427 : decode cX12_init 427 = .ok (.putfield 187, 3) := by decide +kernel
theorem d_X12_init_430 : decode cX12_init 430 = .ok (.aload_n 0, 1) := by decide +kernel
theorem d_X12_init_431 : decode cX12_init 431 = .ok (.getfield 47, 3) := by decide +kernel
theorem d_X12_init_434 : decode cX12_init 434 = .ok (.iconst 0, 1) := by decide +kernel
theorem d_X12_init_435 : decode cX12_init 435 = .ok (.ldc2_w 190, 3) := by decide +kernel
theorem d_X12_init_438 : decode cX12_init 438 = .ok (.lastore, 1) := by decide +kernel
theorem d_X12_init_439 : decode cX12_init 439 = .ok (.aload_n 0, 1) := by decide +kernel
theorem d_X12_init_440 : decode cX12_init 440 = .ok (.getfield 47, 3) := by decide +kernel
theorem d_X12_init_443 : decode cX12_init 443 = .ok (.iconst 1, 1) := by decide +kernel
theorem d_X12_init_444 : decode cX12_init 444 = .ok (.ldc2_w 192, 3) := by decide +kernel
theorem d_X12_init_447 : decode cX12_init 447 = .ok (.lastore, 1) := by decide +kernel
theorem d_X12_init_448 : decode cX12_init 448 = .ok (.aload_n 0, 1) := by decide +kernel
theorem d_X12_init_449 : decode cX12_init 449 = .ok (.getfield 47, 3) := by decide +kernel
theorem d_X12_init_452 : decode cX12_init 452 = .ok (.iconst 2, 1) := by decide +kernel
theorem d_X12_init_453 : decode cX12_init 453 = .ok (.ldc2_w 194, 3) := by decide +kernel
theorem d_X12_init_456 : decode cX12_init 456 = .ok (.lastore, 1) := by decide +kernel
theorem d_X12_init_457 : decode cX12_init 457 = .ok (.aload_n 0, 1) := by decide +kernel
theorem d_X12_init_458 : decode cX12_init 458 = .ok (.getfield 47, 3) := by decide +kernel
theorem d_X12_init_461 : decode cX12_init 461 = .ok (.iconst 3, 1) := by decide +kernel
theorem d_X12_init_462 : decode cX12_init 462 = .ok (.ldc2_w 196, 3) := by decide +kernel
theorem d_X12_init_465 : decode cX12_init 465 = .ok (.lastore, 1) := by decide +kernel
theorem d_X12_init_466 : decode cX12_init 466 = .ok (.aload_n 0, 1) := by decide +kernel
theorem d_X12_init_467 : decode cX12_init 467 = .ok (.getfield 47, 3) := by decide +kernel
theorem d_X12_init_470 : decode cX12_init 470 = .ok (.iconst 4, 1) := by decide +kernel
theorem d_X12_init_471 : decode cX12_init 471 = .ok (.ldc2_w 198, 3) := by decide +kernel
theorem d_X12_init_474 : decode cX12_init 474 = .ok (.lastore, 1) := by decide +kernel
theorem d_X12_init_475 : decode cX12_init 475 = .ok (.aload_n 0, 1) := by decide +kernel
theorem d_X12_init_476 : decode cX12_init 476 = .ok (.getfield 47, 3) := by decide +kernel
theorem d_X12_init_479 : decode cX12_init 479 = .ok (.iconst 5, 1) := by decide +kernel
theorem d_X12_init_480 : decode cX12_init 480 = .ok (.ldc2_w 200, 3) := by decide +kernel
theorem d_X12_init_483 : decode cX12_init 483 = .ok (.lastore, 1) := by decide +kernel
theorem d_X12_init_484 : decode cX12_init 484 = .ok (.aload_n 0, 1) := by decide +kernel
theorem d_X12_init_485 : decode cX12_init 485 = .ok (.getfield 47, 3) := by decide +kernel
theorem d_X12_init_488 : decode cX12_init 488 = .ok (.bipush 6, 2) := by decide +kernel
theorem d_X12_init_490 : decode cX12_init 490 = .ok (.ldc2_w 202, 3) := by decide +kernel
theorem d_X12_init_493 : decode cX12_init 493 = .ok (.lastore, 1) := by decide +kernel
theorem d_X12_init_494 : decode cX12_init 494 = .ok (.aload_n 0, 1) := by decide +kernel
theorem d_X12_init_495 : decode cX12_init 495 = .ok (.getfield 47, 3) := by decide +kernel
theorem d_X12_init_498 : decode cX12_init 498 = .ok (.bipush 7, 2) := by decide +kernel
theorem d_X12_init_500 : decode cX12_init 500 = .ok (.ldc2_w 204, 3) := by decide +kernel
theorem d_X12_init_503 : decode cX12_init 503 = .ok (.lastore, 1) := by decide +kernel
theorem d_X12_init_504 : decode cX12_init 504 = .ok (.aload_n 0, 1) := by decide +kernel
theorem d_X12_init_505 : decode cX12_init 505 = .ok (.getfield 47, 3) := by decide +kernel
theorem d_X12_init_508 : decode cX12_init 508 = .ok (.bipush 8, 2) := by decide +kernel
theorem d_X12_init_510 : decode cX12_init 510 = .ok (.ldc2_w 206, 3) := by decide +kernel
theorem d_X12_init_513 : decode cX12_init 513 = .ok (.lastore, 1) := by decide +kernel
theorem d_X12_init_514 : decode cX12_init 514 = .ok (.aload_n 0, 1) := by decide +kernel
theorem d_X12_init_515 : decode cX12_init 515 = .ok (.getfield 47, 3) := by decide +kernel
theorem d_X12_init_518 : decode cX12_init 518 = .ok (.bipush 9, 2) := by decide +kernel
theorem d_X12_init_520 : decode cX12_init 520 = .ok (.ldc2_w 208, 3) := by decide +kernel
theorem d_X12_init_523 : decode cX12_init 523 = .ok (.lastore, 1) := by decide +kernel
theorem d_X12_init_524 : decode cX12_init 524 = .ok (.aload_n 0, 1) := by decide +kernel
theorem d_X12_init_525 : decode cX12_init 525 = .ok (.getfield 47, 3) := by decide +kernel
theorem d_X12_init_528 : decode cX12_init 528 = .ok (.bipush 10, 2) := by decide +kernel
theorem d_X12_init_530 : decode cX12_init 530 = .ok (.ldc2_w 210, 3) := by decide +kernel
theorem d_X12_init_533 : decode cX12_init 533 = .ok (.lastore, 1) := by decide +kernel
theorem d_X12_init_534 : decode cX12_init 534 = .ok (.aload_n 0, 1) := by decide +kernel
theorem d_X12_init_535 : decode cX12_init 535 = .ok (.getfield 47, 3) := by decide +kernel
theorem d_X12_init_538 : decode cX12_init 538 = .ok (.bipush 11, 2) := by decide +kernel
theorem d_X12_init_540 : decode cX12_init 540 = .ok (.ldc2_w 212, 3) := by decide +kernel
theorem d_X12_init_543 : decode cX12_init 543 = .ok (.lastore, 1) := by decide +kernel
theorem d_X12_init_544 : decode cX12_init 544 = .ok (.aload_n 0, 1) := by decide +kernel
theorem d_X12_init_545 : decode cX12_init 545 = .ok (.getfield 47, 3) := by decide +kernel
theorem d_X12_init_548 : decode cX12_init 548 = .ok (.bipush 12, 2) := by decide +kernel
theorem d_X12_init_550 : decode cX12_init 550 = .ok (.ldc2_w 214, 3) := by decide +kernel
theorem d_X12_init_553 : decode cX12_init 553 = .ok (.lastore, 1) := by decide +kernel
theorem d_X12_init_554 : decode cX12_init 554 = .ok (.aload_n 0, 1) := by decide +kernel
theorem d_X12_init_555 : decode cX12_init 555 = .ok (.getfield 47, 3) := by decide +kernel
theorem d_X12_init_558 : decode cX12_init 558 = .ok (.bipush 13, 2) := by decide +kernel
theorem d_X12_init_560 : decode cX12_init 560 = .ok (.ldc2_w 216, 3) := by decide +kernel
theorem d_X12_init_563 : decode cX12_init 563 = .ok (.lastore, 1) := by decide +kernel
theorem d_X12_init_564 : decode cX12_init 564 = .ok (.aload_n 0, 1) := by decide +kernel
theorem d_X12_init_565 : decode cX12_init 565 = .ok (.getfield 47, 3) := by decide +kernel
theorem d_X12_init_568 : decode cX12_init 568 = .ok (.bipush 14, 2) := by decide +kernel
theorem d_X12_init_570 : decode cX12_init 570 = .ok (.ldc2_w 218, 3) := by decide +kernel
theorem d_X12_init_573 : decode cX12_init 573 = .ok (.lastore, 1) := by decide +kernel
theorem d_X12_init_574 : decode cX12_init 574 = .ok (.aload_n 0, 1) := by decide +kernel
theorem d_X12_init_575 : decode cX12_init 575 = .ok (.getfield 47, 3) := by decide +kernel
theorem d_X12_init_578 : decode cX12_init 578 = .ok (.bipush 15, 2) := by decide +kernel
theorem d_X12_init_580 : decode cX12_init 580 = .ok (.ldc2_w 220, 3) := by decide +kernel
theorem d_X12_init_583 : decode cX12_init 583 = .ok (.lastore, 1) := by decide +kernel
theorem d_X12_init_584 : decode cX12_init 584 = .ok (.iconst 0, 1) := by decide +kernel
theorem d_X12_init_585 : decode cX12_init 585 = .ok (.istore_n 1, 1) := by decide +kernel
theorem d_X12_init_586 : decode cX12_init 586 = .ok (.iload_n 1, 1) := by decide +kernel
theorem d_X12_init_587 : decode cX12_init 587 = .ok (.bipush 42, 2) := by decide +kernel
theorem d_X12_init_589 : decode cX12_init 589 = .ok (.if_icmp .ge 19, 3) := by decide +kernel
theorem d_X12_init_592 : decode cX12_init 592 = .ok (.aload_n 0, 1) := by decide +kernel
theorem d_X12_init_593 : decode cX12_init 593 = .ok (.getfield 30, 3) := by decide +kernel
theorem d_X12_init_596 : decode cX12_init 596 = .ok (.bipush 54, 2) := by decide +kernel
theorem d_X12_init_598 : decode cX12_init 598 = .ok (.iload_n 1, 1) := by decide +kernel
theorem d_X12_init_599 : decode cX12_init 599 = .ok (.iadd, 1) := by decide +kernel
theorem d_X12_init_600 : decode cX12_init 600 = .ok (.iload_n 1, 1) := by decide +kernel
theorem d_X12_init_601 : decode cX12_init 601 = .ok (.iastore, 1) := by decide +kernel
theorem d_X12_init_602 : decode cX12_init 602 = .ok (.iinc 1 1, 3) := by decide +kernel
theorem d_X12_init_605 : decode cX12_init 605 = .ok (.goto (-19), 3) := by decide +kernel
theorem d_X12_init_608 : decode cX12_init 608 = .ok (.return_, 1) := by decide +kernel
set_option maxRecDepth 200000 in
def k_X12_init_0 (C586 : xK) : xK := x_aload 0 (x_oini (x_aload 0 (x_push (.int 940) (x_newa 181 3 940 (x_putF 182 12 0 (x_aload 0 (x_push (.int 232) (x_newa 182 1 232 (x_putF 183 12 5 (x_aload 0 (x_push (.int 54) (x_newa 183 1 54 (x_putF 184 12 6 (x_aload 0 (x_push (.int 135) (x_newa 184 1 135 (x_putF 185 12 7 (x_aload 0 (x_push (.int 246) (x_newa 185 1 246 (x_putF 186 12 8 (x_aload 0 (x_push (.int 18) (x_newa 186 2 18 (x_putF 187 12 9 (x_aload 0 (x_push (.int 16) (x_newa 187 2 16 (x_putF 188 12 10 (x_aload 0 (x_push (.int 42) (x_newa 188 1 42 (x_putF 189 12 20 (x_aload 0 (x_push (.int 42) (x_newa 189 1 42 (x_putF 190 12 21 (x_aload 0 (x_push (.int 42) (x_newa 190 1 42 (x_putF 191 12 22 (x_aload 0 (x_push (.int 10) (x_newa 191 1 10 (x_putF 192 12 23 (x_aload 0 (x_push (.int 5) (x_newa 192 1 5 (x_putF 193 12 31 (x_aload 0 (x_push (.int 5) (x_newa 193 1 5 (x_putF 194 12 32 (x_aload 0 (x_push (.int 5) (x_newa 194 1 5 (x_putF 195 12 33 (x_aload 0 (x_push (.int 80) (x_newa 195 1 80 (x_putF 196 12 34 (x_aload 0 (x_push (.int 80) (x_newa 196 1 80 (x_putF 197 12 35 (x_aload 0 (x_push (.int 1764) (x_newa 197 1 1764 (x_putF 198 12 36 (x_aload 0 (x_push (.int 81) (x_newa 198 1 81 (x_putF 199 12 37 (x_aload 0 (x_push (.int 76800) (x_newa 199 1 76800 (x_putF 200 12 38 (x_aload 0 (x_push (.int 3360) (x_newa 200 4 3360 (x_putF 201 12 39 (x_aload 0 (x_push (.int 25600) (x_newa 201 1 25600 (x_putF 202 12 42 (x_aload 0 (x_push (.int 25600) (x_newa 202 1 25600 (x_putF 203 12 43 (x_aload 0 (x_push (.int 25600) (x_newa 203 1 25600 (x_putF 204 12 44 (x_aload 0 (x_push (.int 25600) (x_newa 204 1 25600 (x_putF 205 12 45 (x_aload 0 (x_push (.int 25600) (x_newa 205 4 25600 (x_putF 206 12 46 (x_aload 0 (x_push (.int 5) (x_newa 206 1 5 (x_putF 207 12 53 (x_aload 0 (x_push (.int 752) (x_newa 207 1 752 (x_putF 208 12 54 (x_aload 0 (x_push (.int 94) (x_newa 208 1 94 (x_putF 209 12 55 (x_aload 0 (x_push (.int 94) (x_newa 209 1 94 (x_putF 210 12 56 (x_aload 0 (x_push (.int 1215) (x_newa 210 1 1215 (x_putF 211 12 58 (x_aload 0 (x_push (.int 6075) (x_newa 211 1 6075 (x_putF 212 12 59 (x_aload 0 (x_push (.int 25) (x_newa 212 1 25 (x_putF 213 12 60 (x_aload 0 (x_push (.int 405) (x_newa 213 1 405 (x_putF 214 12 61 (x_aload 0 (x_push (.int 405) (x_newa 214 1 405 (x_putF 215 12 62 (x_aload 0 (x_push (.int 5) (x_newa 215 1 5 (x_putF 216 12 63 (x_aload 0 (x_push (.int 8) (x_newa 216 1 8 (x_putF 217 12 64 (x_aload 0 (x_push (.int 8) (x_newa 217 1 8 (x_putF 218 12 65 (x_aload 0 (x_push (.int (-1)) (x_putI 218 12 66 (x_aload 0 (x_push (.int 36) (x_newa 218 1 36 (x_putF 219 12 67 (x_aload 0 (x_push (.int 9050) (x_newa 219 1 9050 (x_putF 220 12 68 (x_aload 0 (x_push (.int 600) (x_newa 220 1 600 (x_putF 221 12 69 (x_aload 0 (x_push (.int 600) (x_newa 221 1 600 (x_putF 222 12 70 (x_aload 0 (x_push (.int 4) (x_newa 222 1 4 (x_putF 223 12 71 (x_aload 0 (x_push (.int (-1)) (x_putI 223 12 73 (x_aload 0 (x_push (.int 5) (x_newa 223 1 5 (x_putF 224 12 74 (x_aload 0 (x_push (.int (-1)) (x_putI 224 12 75 (x_aload 0 (x_push (.int 60) (x_newa 224 3 60 (x_putF 225 12 76 (x_aload 0 (x_push (.int 4) (x_newa 225 1 4 (x_putF 226 12 80 (x_aload 0 (x_push (.int 45) (x_newa 226 1 45 (x_putF 227 12 82 (x_aload 0 (x_push (.int 45) (x_newa 227 4 45 (x_putF 228 12 88 (x_aload 0 (x_push (.int 464) (x_newa 228 1 464 (x_putF 229 12 89 (x_aload 0 (x_push (.int 18) (x_newa 229 2 18 (x_putF 230 12 90 (x_aload 0 (x_push (.int 2) (x_newa 230 4 2 (x_putF 231 12 91 (x_aload 0 (x_getR 231 12 10 (x_push (.int 0) (x_push (.long 1936287598) (x_last 231 (x_aload 0 (x_getR 231 12 10 (x_push (.int 1) (x_push (.long 1802071652) (x_last 231 (x_aload 0 (x_getR 231 12 10 (x_push (.int 2) (x_push (.long 1920298085) (x_last 231 (x_aload 0 (x_getR 231 12 10 (x_push (.int 3) (x_push (.long 1685221232) (x_last 231 (x_aload 0 (x_getR 231 12 10 (x_push (.int 4) (x_push (.long 469853431653) (x_last 231 (x_aload 0 (x_getR 231 12 10 (x_push (.int 5) (x_push (.long 431198598248) (x_last 231 (x_aload 0 (x_getR 231 12 10 (x_push (.int 6) (x_push (.long 28530) (x_last 231 (x_aload 0 (x_getR 231 12 10 (x_push (.int 7) (x_push (.long 6385252) (x_last 231 (x_aload 0 (x_getR 231 12 10 (x_push (.int 8) (x_push (.long 7237492) (x_last 231 (x_aload 0 (x_getR 231 12 10 (x_push (.int 9) (x_push (.long 439855772532) (x_last 231 (x_aload 0 (x_getR 231 12 10 (x_push (.int 10) (x_push (.long 1818325876) (x_last 231 (x_aload 0 (x_getR 231 12 10 (x_push (.int 11) (x_push (.long 418431069797) (x_last 231 (x_aload 0 (x_getR 231 12 10 (x_push (.int 12) (x_push (.long 28518) (x_last 231 (x_aload 0 (x_getR 231 12 10 (x_push (.int 13) (x_push (.long 1852143732) (x_last 231 (x_aload 0 (x_getR 231 12 10 (x_push (.int 14) (x_push (.long 6582132) (x_last 231 (x_aload 0 (x_getR 231 12 10 (x_push (.int 15) (x_push (.long 121450625394034) (x_last 231 (x_push (.int 0) (x_istore 1 (C586)))))))))))))))))))))))))))))))))))))))))))))))))))))))))))))))))))))))))))))))))))))))))))))))))))))))))))))))))))))))))))))))))))))))))))))))))))))))))))))))))))))))))))))))))))))))))))))))))))))))))))))))))))))))))))))))))))))))))))))))))))))))))))))))))))))))))))))))))))))))))))))))))))))
def k_X12_init_586 (P : xP) (C586 : xK) : xK := x_iload 1 (x_push (.int 42) (x_icmp_ge (x_vret P) (x_aload 0 (x_getR 231 12 5 (x_push (.int 54) (x_iload 1 (x_iadd (x_iload 1 (x_iast 231 (x_iinc 1 1 C586))))))))))
set_option maxRecDepth 20000 in
theorem t_X12_init_586 {p : Program} {l : Launch} {e : Env} {s : State} {m : MethodId} {args : Array Value} {below : List Frame} {meth : Method} {c : Code} {g : xG} (X : xX p s m args c meth cX12_init RX12 2 g) (hr : meth.sig.returnType = none) {P : xP} {C586 : xK} (h586 : xAt p l e { frames := 1, cells := 50, slots := 231981, locals := 20 } s m args below meth c g 2 xFF 231 50 231981 (MQ below (xQc g xFF 231 P) args s 50 231981 (xFr g)) C586 586) : xAt p l e { frames := 1, cells := 50, slots := 231981, locals := 20 } s m args below meth c g 2 xFF 231 50 231981 (MQ below (xQc g xFF 231 P) args s 50 231981 (xFr g)) (k_X12_init_586 P C586) 586 := by
  unfold k_X12_init_586
  refine r_iload_n (pc := 586) X d_X12_init_586 fn1 ?_
  refine r_bipush (pc := 587) X d_X12_init_587 (by decide +kernel) ?_
  refine r_icmp_ge (pc := 589) (tgt := 608) X d_X12_init_589 (by decide +kernel) ?_ ?_
  · exact r_vretN rfl rfl X hr d_X12_init_608
  · refine r_aload_n (pc := 592) X d_X12_init_592 fn0 ?_
    refine r_getR (pc := 593) X xok12 (by decide +kernel) (by decide +kernel) vf_RX12_30 d_X12_init_593 ?_
    refine r_bipush (pc := 596) X d_X12_init_596 (by decide +kernel) ?_
    refine r_iload_n (pc := 598) X d_X12_init_598 fn1 ?_
    refine r_iadd (pc := 599) X d_X12_init_599 ?_
    refine r_iload_n (pc := 600) X d_X12_init_600 fn1 ?_
    refine r_iast (pc := 601) X d_X12_init_601 ?_
    refine r_iinc (pc := 602) X d_X12_init_602 (by decide +kernel) (by decide +kernel) ?_
    refine r_goto (pc := 605) (tgt := 586) X d_X12_init_605 (by decide +kernel) ?_
    exact h586
set_option maxRecDepth 200000 in
theorem t_X12_init_0 {p : Program} {l : Launch} {e : Env} {s : State} {m : MethodId} {args : Array Value} {below : List Frame} {meth : Method} {c : Code} {g : xG} (X : xX p s m args c meth cX12_init RX12 2 g) (hr : meth.sig.returnType = none) (hin : meth.name = "<init>") {P : xP} {C586 : xK} (h586 : xAt p l e { frames := 1, cells := 50, slots := 231981, locals := 20 } s m args below meth c g 2 xFF 231 50 231981 (MQ below (xQc g xFF 231 P) args s 50 231981 (xFr g)) C586 586) : xAt p l e { frames := 1, cells := 50, slots := 231981, locals := 20 } s m args below meth c g 2 xFF 181 0 0 (MQ below (xQc g xFF 231 P) args s 50 231981 (xFr g)) (k_X12_init_0 C586) 0 := by
  unfold k_X12_init_0
  refine r_aload_n (pc := 0) X d_X12_init_0 fn0 ?_
  refine r_oini (pc := 1) X oi_RX12_24 oi_inst oi_code (Nat.le_of_ble_eq_true rfl) (Nat.le_of_ble_eq_true rfl) d_X12_init_1 ?_
  refine r_aload_n (pc := 4) X d_X12_init_4 fn0 ?_
  refine r_sipush (pc := 5) X d_X12_init_5 (by decide +kernel) ?_
  refine r_newa (pc := 8) (atype := .byte) X ⟨rfl, by decide⟩ (by decide) (Nat.le_of_ble_eq_true rfl) (by decide +kernel) aw_byte (Nat.le_of_ble_eq_true rfl) (Nat.le_of_ble_eq_true rfl) d_X12_init_8 ?_
  refine r_putF (pc := 10) X hin xok12 (by decide +kernel) (by decide +kernel) (by decide +kernel) (by decide +kernel) rfl (fun _ => ⟨rfl, rfl⟩) vf_RX12_11 d_X12_init_10 ?_
  refine r_aload_n (pc := 13) X d_X12_init_13 fn0 ?_
  refine r_sipush (pc := 14) X d_X12_init_14 (by decide +kernel) ?_
  refine r_newa (pc := 17) (atype := .int) X ⟨rfl, by decide⟩ (by decide) (Nat.le_of_ble_eq_true rfl) (by decide +kernel) aw_int (Nat.le_of_ble_eq_true rfl) (Nat.le_of_ble_eq_true rfl) d_X12_init_17 ?_
  refine r_putF (pc := 19) X hin xok12 (by decide +kernel) (by decide +kernel) (by decide +kernel) (by decide +kernel) rfl (fun _ => ⟨rfl, rfl⟩) vf_RX12_30 d_X12_init_19 ?_
  refine r_aload_n (pc := 22) X d_X12_init_22 fn0 ?_
  refine r_bipush (pc := 23) X d_X12_init_23 (by decide +kernel) ?_
  refine r_newa (pc := 25) (atype := .int) X ⟨rfl, by decide⟩ (by decide) (Nat.le_of_ble_eq_true rfl) (by decide +kernel) aw_int (Nat.le_of_ble_eq_true rfl) (Nat.le_of_ble_eq_true rfl) d_X12_init_25 ?_
  refine r_putF (pc := 27) X hin xok12 (by decide +kernel) (by decide +kernel) (by decide +kernel) (by decide +kernel) rfl (fun _ => ⟨rfl, rfl⟩) vf_RX12_34 d_X12_init_27 ?_
  refine r_aload_n (pc := 30) X d_X12_init_30 fn0 ?_
  refine r_sipush (pc := 31) X d_X12_init_31 (by decide +kernel) ?_
  refine r_newa (pc := 34) (atype := .int) X ⟨rfl, by decide⟩ (by decide) (Nat.le_of_ble_eq_true rfl) (by decide +kernel) aw_int (Nat.le_of_ble_eq_true rfl) (Nat.le_of_ble_eq_true rfl) d_X12_init_34 ?_
  refine r_putF (pc := 36) X hin xok12 (by decide +kernel) (by decide +kernel) (by decide +kernel) (by decide +kernel) rfl (fun _ => ⟨rfl, rfl⟩) vf_RX12_37 d_X12_init_36 ?_
  refine r_aload_n (pc := 39) X d_X12_init_39 fn0 ?_
  refine r_sipush (pc := 40) X d_X12_init_40 (by decide +kernel) ?_
  refine r_newa (pc := 43) (atype := .int) X ⟨rfl, by decide⟩ (by decide) (Nat.le_of_ble_eq_true rfl) (by decide +kernel) aw_int (Nat.le_of_ble_eq_true rfl) (Nat.le_of_ble_eq_true rfl) d_X12_init_43 ?_
  refine r_putF (pc := 45) X hin xok12 (by decide +kernel) (by decide +kernel) (by decide +kernel) (by decide +kernel) rfl (fun _ => ⟨rfl, rfl⟩) vf_RX12_40 d_X12_init_45 ?_
  refine r_aload_n (pc := 48) X d_X12_init_48 fn0 ?_
  refine r_bipush (pc := 49) X d_X12_init_49 (by decide +kernel) ?_
  refine r_newa (pc := 51) (atype := .long) X ⟨rfl, by decide⟩ (by decide) (Nat.le_of_ble_eq_true rfl) (by decide +kernel) aw_long (Nat.le_of_ble_eq_true rfl) (Nat.le_of_ble_eq_true rfl) d_X12_init_51 ?_
  refine r_putF (pc := 53) X hin xok12 (by decide +kernel) (by decide +kernel) (by decide +kernel) (by decide +kernel) rfl (fun _ => ⟨rfl, rfl⟩) vf_RX12_43 d_X12_init_53 ?_
  refine r_aload_n (pc := 56) X d_X12_init_56 fn0 ?_
  refine r_bipush (pc := 57) X d_X12_init_57 (by decide +kernel) ?_
  refine r_newa (pc := 59) (atype := .long) X ⟨rfl, by decide⟩ (by decide) (Nat.le_of_ble_eq_true rfl) (by decide +kernel) aw_long (Nat.le_of_ble_eq_true rfl) (Nat.le_of_ble_eq_true rfl) d_X12_init_59 ?_
  refine r_putF (pc := 61) X hin xok12 (by decide +kernel) (by decide +kernel) (by decide +kernel) (by decide +kernel) rfl (fun _ => ⟨rfl, rfl⟩) vf_RX12_47 d_X12_init_61 ?_
  refine r_aload_n (pc := 64) X d_X12_init_64 fn0 ?_
  refine r_bipush (pc := 65) X d_X12_init_65 (by decide +kernel) ?_
  refine r_newa (pc := 67) (atype := .int) X ⟨rfl, by decide⟩ (by decide) (Nat.le_of_ble_eq_true rfl) (by decide +kernel) aw_int (Nat.le_of_ble_eq_true rfl) (Nat.le_of_ble_eq_true rfl) d_X12_init_67 ?_
  refine r_putF (pc := 69) X hin xok12 (by decide +kernel) (by decide +kernel) (by decide +kernel) (by decide +kernel) rfl (fun _ => ⟨rfl, rfl⟩) vf_RX12_50 d_X12_init_69 ?_
  refine r_aload_n (pc := 72) X d_X12_init_72 fn0 ?_
  refine r_bipush (pc := 73) X d_X12_init_73 (by decide +kernel) ?_
  refine r_newa (pc := 75) (atype := .int) X ⟨rfl, by decide⟩ (by decide) (Nat.le_of_ble_eq_true rfl) (by decide +kernel) aw_int (Nat.le_of_ble_eq_true rfl) (Nat.le_of_ble_eq_true rfl) d_X12_init_75 ?_
  refine r_putF (pc := 77) X hin xok12 (by decide +kernel) (by decide +kernel) (by decide +kernel) (by decide +kernel) rfl (fun _ => ⟨rfl, rfl⟩) vf_RX12_53 d_X12_init_77 ?_
  refine r_aload_n (pc := 80) X d_X12_init_80 fn0 ?_
  refine r_bipush (pc := 81) X d_X12_init_81 (by decide +kernel) ?_
  refine r_newa (pc := 83) (atype := .int) X ⟨rfl, by decide⟩ (by decide) (Nat.le_of_ble_eq_true rfl) (by decide +kernel) aw_int (Nat.le_of_ble_eq_true rfl) (Nat.le_of_ble_eq_true rfl) d_X12_init_83 ?_
  refine r_putF (pc := 85) X hin xok12 (by decide +kernel) (by decide +kernel) (by decide +kernel) (by decide +kernel) rfl (fun _ => ⟨rfl, rfl⟩) vf_RX12_56 d_X12_init_85 ?_
  refine r_aload_n (pc := 88) X d_X12_init_88 fn0 ?_
  refine r_bipush (pc := 89) X d_X12_init_89 (by decide +kernel) ?_
  refine r_newa (pc := 91) (atype := .int) X ⟨rfl, by decide⟩ (by decide) (Nat.le_of_ble_eq_true rfl) (by decide +kernel) aw_int (Nat.le_of_ble_eq_true rfl) (Nat.le_of_ble_eq_true rfl) d_X12_init_91 ?_
  refine r_putF (pc := 93) X hin xok12 (by decide +kernel) (by decide +kernel) (by decide +kernel) (by decide +kernel) rfl (fun _ => ⟨rfl, rfl⟩) vf_RX12_59 d_X12_init_93 ?_
  refine r_aload_n (pc := 96) X d_X12_init_96 fn0 ?_
  refine r_iconst (pc := 97) X d_X12_init_97 (by decide +kernel) ?_
  refine r_newa (pc := 98) (atype := .int) X ⟨rfl, by decide⟩ (by decide) (Nat.le_of_ble_eq_true rfl) (by decide +kernel) aw_int (Nat.le_of_ble_eq_true rfl) (Nat.le_of_ble_eq_true rfl) d_X12_init_98 ?_
  refine r_putF (pc := 100) X hin xok12 (by decide +kernel) (by decide +kernel) (by decide +kernel) (by decide +kernel) rfl (fun _ => ⟨rfl, rfl⟩) vf_RX12_62 d_X12_init_100 ?_
  refine r_aload_n (pc := 103) X d_X12_init_103 fn0 ?_
  refine r_iconst (pc := 104) X d_X12_init_104 (by decide +kernel) ?_
  refine r_newa (pc := 105) (atype := .int) X ⟨rfl, by decide⟩ (by decide) (Nat.le_of_ble_eq_true rfl) (by decide +kernel) aw_int (Nat.le_of_ble_eq_true rfl) (Nat.le_of_ble_eq_true rfl) d_X12_init_105 ?_
  refine r_putF (pc := 107) X hin xok12 (by decide +kernel) (by decide +kernel) (by decide +kernel) (by decide +kernel) rfl (fun _ => ⟨rfl, rfl⟩) vf_RX12_65 d_X12_init_107 ?_
  refine r_aload_n (pc := 110) X d_X12_init_110 fn0 ?_
  refine r_iconst (pc := 111) X d_X12_init_111 (by decide +kernel) ?_
  refine r_newa (pc := 112) (atype := .int) X ⟨rfl, by decide⟩ (by decide) (Nat.le_of_ble_eq_true rfl) (by decide +kernel) aw_int (Nat.le_of_ble_eq_true rfl) (Nat.le_of_ble_eq_true rfl) d_X12_init_112 ?_
  refine r_putF (pc := 114) X hin xok12 (by decide +kernel) (by decide +kernel) (by decide +kernel) (by decide +kernel) rfl (fun _ => ⟨rfl, rfl⟩) vf_RX12_68 d_X12_init_114 ?_
  refine r_aload_n (pc := 117) X d_X12_init_117 fn0 ?_
  refine r_bipush (pc := 118) X d_X12_init_118 (by decide +kernel) ?_
  refine r_newa (pc := 120) (atype := .int) X ⟨rfl, by decide⟩ (by decide) (Nat.le_of_ble_eq_true rfl) (by decide +kernel) aw_int (Nat.le_of_ble_eq_true rfl) (Nat.le_of_ble_eq_true rfl) d_X12_init_120 ?_
  refine r_putF (pc := 122) X hin xok12 (by decide +kernel) (by decide +kernel) (by decide +kernel) (by decide +kernel) rfl (fun _ => ⟨rfl, rfl⟩) vf_RX12_71 d_X12_init_122 ?_
  refine r_aload_n (pc := 125) X d_X12_init_125 fn0 ?_
  refine r_bipush (pc := 126) X d_X12_init_126 (by decide +kernel) ?_
  refine r_newa (pc := 128) (atype := .int) X ⟨rfl, by decide⟩ (by decide) (Nat.le_of_ble_eq_true rfl) (by decide +kernel) aw_int (Nat.le_of_ble_eq_true rfl) (Nat.le_of_ble_eq_true rfl) d_X12_init_128 ?_
  refine r_putF (pc := 130) X hin xok12 (by decide +kernel) (by decide +kernel) (by decide +kernel) (by decide +kernel) rfl (fun _ => ⟨rfl, rfl⟩) vf_RX12_74 d_X12_init_130 ?_
  refine r_aload_n (pc := 133) X d_X12_init_133 fn0 ?_
  refine r_sipush (pc := 134) X d_X12_init_134 (by decide +kernel) ?_
  refine r_newa (pc := 137) (atype := .int) X ⟨rfl, by decide⟩ (by decide) (Nat.le_of_ble_eq_true rfl) (by decide +kernel) aw_int (Nat.le_of_ble_eq_true rfl) (Nat.le_of_ble_eq_true rfl) d_X12_init_137 ?_
  refine r_putF (pc := 139) X hin xok12 (by decide +kernel) (by decide +kernel) (by decide +kernel) (by decide +kernel) rfl (fun _ => ⟨rfl, rfl⟩) vf_RX12_77 d_X12_init_139 ?_
  refine r_aload_n (pc := 142) X d_X12_init_142 fn0 ?_
  refine r_bipush (pc := 143) X d_X12_init_143 (by decide +kernel) ?_
  refine r_newa (pc := 145) (atype := .int) X ⟨rfl, by decide⟩ (by decide) (Nat.le_of_ble_eq_true rfl) (by decide +kernel) aw_int (Nat.le_of_ble_eq_true rfl) (Nat.le_of_ble_eq_true rfl) d_X12_init_145 ?_
  refine r_putF (pc := 147) X hin xok12 (by decide +kernel) (by decide +kernel) (by decide +kernel) (by decide +kernel) rfl (fun _ => ⟨rfl, rfl⟩) vf_RX12_80 d_X12_init_147 ?_
  refine r_aload_n (pc := 150) X d_X12_init_150 fn0 ?_
  refine r_ldc (pc := 151) X vw_RX12_83 d_X12_init_151 ?_
  refine r_newa (pc := 153) (atype := .int) X ⟨rfl, by decide⟩ (by decide) (Nat.le_of_ble_eq_true rfl) (by decide +kernel) aw_int (Nat.le_of_ble_eq_true rfl) (Nat.le_of_ble_eq_true rfl) d_X12_init_153 ?_
  refine r_putF (pc := 155) X hin xok12 (by decide +kernel) (by decide +kernel) (by decide +kernel) (by decide +kernel) rfl (fun _ => ⟨rfl, rfl⟩) vf_RX12_84 d_X12_init_155 ?_
  refine r_aload_n (pc := 158) X d_X12_init_158 fn0 ?_
  refine r_sipush (pc := 159) X d_X12_init_159 (by decide +kernel) ?_
  refine r_newa (pc := 162) (atype := .boolean) X ⟨rfl, by decide⟩ (by decide) (Nat.le_of_ble_eq_true rfl) (by decide +kernel) aw_boolean (Nat.le_of_ble_eq_true rfl) (Nat.le_of_ble_eq_true rfl) d_X12_init_162 ?_
  refine r_putF (pc := 164) X hin xok12 (by decide +kernel) (by decide +kernel) (by decide +kernel) (by decide +kernel) rfl (fun _ => ⟨rfl, rfl⟩) vf_RX12_87 d_X12_init_164 ?_
  refine r_aload_n (pc := 167) X d_X12_init_167 fn0 ?_
  refine r_sipush (pc := 168) X d_X12_init_168 (by decide +kernel) ?_
  refine r_newa (pc := 171) (atype := .int) X ⟨rfl, by decide⟩ (by decide) (Nat.le_of_ble_eq_true rfl) (by decide +kernel) aw_int (Nat.le_of_ble_eq_true rfl) (Nat.le_of_ble_eq_true rfl) d_X12_init_171 ?_
  refine r_putF (pc := 173) X hin xok12 (by decide +kernel) (by decide +kernel) (by decide +kernel) (by decide +kernel) rfl (fun _ => ⟨rfl, rfl⟩) vf_RX12_91 d_X12_init_173 ?_
  refine r_aload_n (pc := 176) X d_X12_init_176 fn0 ?_
  refine r_sipush (pc := 177) X d_X12_init_177 (by decide +kernel) ?_
  refine r_newa (pc := 180) (atype := .int) X ⟨rfl, by decide⟩ (by decide) (Nat.le_of_ble_eq_true rfl) (by decide +kernel) aw_int (Nat.le_of_ble_eq_true rfl) (Nat.le_of_ble_eq_true rfl) d_X12_init_180 ?_
  refine r_putF (pc := 182) X hin xok12 (by decide +kernel) (by decide +kernel) (by decide +kernel) (by decide +kernel) rfl (fun _ => ⟨rfl, rfl⟩) vf_RX12_94 d_X12_init_182 ?_
  refine r_aload_n (pc := 185) X d_X12_init_185 fn0 ?_
  refine r_sipush (pc := 186) X d_X12_init_186 (by decide +kernel) ?_
  refine r_newa (pc := 189) (atype := .int) X ⟨rfl, by decide⟩ (by decide) (Nat.le_of_ble_eq_true rfl) (by decide +kernel) aw_int (Nat.le_of_ble_eq_true rfl) (Nat.le_of_ble_eq_true rfl) d_X12_init_189 ?_
  refine r_putF (pc := 191) X hin xok12 (by decide +kernel) (by decide +kernel) (by decide +kernel) (by decide +kernel) rfl (fun _ => ⟨rfl, rfl⟩) vf_RX12_97 d_X12_init_191 ?_
  refine r_aload_n (pc := 194) X d_X12_init_194 fn0 ?_
  refine r_sipush (pc := 195) X d_X12_init_195 (by decide +kernel) ?_
  refine r_newa (pc := 198) (atype := .int) X ⟨rfl, by decide⟩ (by decide) (Nat.le_of_ble_eq_true rfl) (by decide +kernel) aw_int (Nat.le_of_ble_eq_true rfl) (Nat.le_of_ble_eq_true rfl) d_X12_init_198 ?_
  refine r_putF (pc := 200) X hin xok12 (by decide +kernel) (by decide +kernel) (by decide +kernel) (by decide +kernel) rfl (fun _ => ⟨rfl, rfl⟩) vf_RX12_100 d_X12_init_200 ?_
  refine r_aload_n (pc := 203) X d_X12_init_203 fn0 ?_
  refine r_sipush (pc := 204) X d_X12_init_204 (by decide +kernel) ?_
  refine r_newa (pc := 207) (atype := .boolean) X ⟨rfl, by decide⟩ (by decide) (Nat.le_of_ble_eq_true rfl) (by decide +kernel) aw_boolean (Nat.le_of_ble_eq_true rfl) (Nat.le_of_ble_eq_true rfl) d_X12_init_207 ?_
  refine r_putF (pc := 209) X hin xok12 (by decide +kernel) (by decide +kernel) (by decide +kernel) (by decide +kernel) rfl (fun _ => ⟨rfl, rfl⟩) vf_RX12_103 d_X12_init_209 ?_
  refine r_aload_n (pc := 212) X d_X12_init_212 fn0 ?_
  refine r_iconst (pc := 213) X d_X12_init_213 (by decide +kernel) ?_
  refine r_newa (pc := 214) (atype := .int) X ⟨rfl, by decide⟩ (by decide) (Nat.le_of_ble_eq_true rfl) (by decide +kernel) aw_int (Nat.le_of_ble_eq_true rfl) (Nat.le_of_ble_eq_true rfl) d_X12_init_214 ?_
  refine r_putF (pc := 216) X hin xok12 (by decide +kernel) (by decide +kernel) (by decide +kernel) (by decide +kernel) rfl (fun _ => ⟨rfl, rfl⟩) vf_RX12_106 d_X12_init_216 ?_
  refine r_aload_n (pc := 219) X d_X12_init_219 fn0 ?_
  refine r_sipush (pc := 220) X d_X12_init_220 (by decide +kernel) ?_
  refine r_newa (pc := 223) (atype := .int) X ⟨rfl, by decide⟩ (by decide) (Nat.le_of_ble_eq_true rfl) (by decide +kernel) aw_int (Nat.le_of_ble_eq_true rfl) (Nat.le_of_ble_eq_true rfl) d_X12_init_223 ?_
  refine r_putF (pc := 225) X hin xok12 (by decide +kernel) (by decide +kernel) (by decide +kernel) (by decide +kernel) rfl (fun _ => ⟨rfl, rfl⟩) vf_RX12_109 d_X12_init_225 ?_
  refine r_aload_n (pc := 228) X d_X12_init_228 fn0 ?_
  refine r_bipush (pc := 229) X d_X12_init_229 (by decide +kernel) ?_
  refine r_newa (pc := 231) (atype := .int) X ⟨rfl, by decide⟩ (by decide) (Nat.le_of_ble_eq_true rfl) (by decide +kernel) aw_int (Nat.le_of_ble_eq_true rfl) (Nat.le_of_ble_eq_true rfl) d_X12_init_231 ?_
  refine r_putF (pc := 233) X hin xok12 (by decide +kernel) (by decide +kernel) (by decide +kernel) (by decide +kernel) rfl (fun _ => ⟨rfl, rfl⟩) vf_RX12_112 d_X12_init_233 ?_
  refine r_aload_n (pc := 236) X d_X12_init_236 fn0 ?_
  refine r_bipush (pc := 237) X d_X12_init_237 (by decide +kernel) ?_
  refine r_newa (pc := 239) (atype := .int) X ⟨rfl, by decide⟩ (by decide) (Nat.le_of_ble_eq_true rfl) (by decide +kernel) aw_int (Nat.le_of_ble_eq_true rfl) (Nat.le_of_ble_eq_true rfl) d_X12_init_239 ?_
  refine r_putF (pc := 241) X hin xok12 (by decide +kernel) (by decide +kernel) (by decide +kernel) (by decide +kernel) rfl (fun _ => ⟨rfl, rfl⟩) vf_RX12_115 d_X12_init_241 ?_
  refine r_aload_n (pc := 244) X d_X12_init_244 fn0 ?_
  refine r_sipush (pc := 245) X d_X12_init_245 (by decide +kernel) ?_
  refine r_newa (pc := 248) (atype := .int) X ⟨rfl, by decide⟩ (by decide) (Nat.le_of_ble_eq_true rfl) (by decide +kernel) aw_int (Nat.le_of_ble_eq_true rfl) (Nat.le_of_ble_eq_true rfl) d_X12_init_248 ?_
  refine r_putF (pc := 250) X hin xok12 (by decide +kernel) (by decide +kernel) (by decide +kernel) (by decide +kernel) rfl (fun _ => ⟨rfl, rfl⟩) vf_RX12_118 d_X12_init_250 ?_
  refine r_aload_n (pc := 253) X d_X12_init_253 fn0 ?_
  refine r_sipush (pc := 254) X d_X12_init_254 (by decide +kernel) ?_
  refine r_newa (pc := 257) (atype := .int) X ⟨rfl, by decide⟩ (by decide) (Nat.le_of_ble_eq_true rfl) (by decide +kernel) aw_int (Nat.le_of_ble_eq_true rfl) (Nat.le_of_ble_eq_true rfl) d_X12_init_257 ?_
  refine r_putF (pc := 259) X hin xok12 (by decide +kernel) (by decide +kernel) (by decide +kernel) (by decide +kernel) rfl (fun _ => ⟨rfl, rfl⟩) vf_RX12_121 d_X12_init_259 ?_
  refine r_aload_n (pc := 262) X d_X12_init_262 fn0 ?_
  refine r_bipush (pc := 263) X d_X12_init_263 (by decide +kernel) ?_
  refine r_newa (pc := 265) (atype := .int) X ⟨rfl, by decide⟩ (by decide) (Nat.le_of_ble_eq_true rfl) (by decide +kernel) aw_int (Nat.le_of_ble_eq_true rfl) (Nat.le_of_ble_eq_true rfl) d_X12_init_265 ?_
  refine r_putF (pc := 267) X hin xok12 (by decide +kernel) (by decide +kernel) (by decide +kernel) (by decide +kernel) rfl (fun _ => ⟨rfl, rfl⟩) vf_RX12_124 d_X12_init_267 ?_
  refine r_aload_n (pc := 270) X d_X12_init_270 fn0 ?_
  refine r_sipush (pc := 271) X d_X12_init_271 (by decide +kernel) ?_
  refine r_newa (pc := 274) (atype := .int) X ⟨rfl, by decide⟩ (by decide) (Nat.le_of_ble_eq_true rfl) (by decide +kernel) aw_int (Nat.le_of_ble_eq_true rfl) (Nat.le_of_ble_eq_true rfl) d_X12_init_274 ?_
  refine r_putF (pc := 276) X hin xok12 (by decide +kernel) (by decide +kernel) (by decide +kernel) (by decide +kernel) rfl (fun _ => ⟨rfl, rfl⟩) vf_RX12_127 d_X12_init_276 ?_
  refine r_aload_n (pc := 279) X d_X12_init_279 fn0 ?_
  refine r_sipush (pc := 280) X d_X12_init_280 (by decide +kernel) ?_
  refine r_newa (pc := 283) (atype := .int) X ⟨rfl, by decide⟩ (by decide) (Nat.le_of_ble_eq_true rfl) (by decide +kernel) aw_int (Nat.le_of_ble_eq_true rfl) (Nat.le_of_ble_eq_true rfl) d_X12_init_283 ?_
  refine r_putF (pc := 285) X hin xok12 (by decide +kernel) (by decide +kernel) (by decide +kernel) (by decide +kernel) rfl (fun _ => ⟨rfl, rfl⟩) vf_RX12_130 d_X12_init_285 ?_
  refine r_aload_n (pc := 288) X d_X12_init_288 fn0 ?_
  refine r_iconst (pc := 289) X d_X12_init_289 (by decide +kernel) ?_
  refine r_newa (pc := 290) (atype := .int) X ⟨rfl, by decide⟩ (by decide) (Nat.le_of_ble_eq_true rfl) (by decide +kernel) aw_int (Nat.le_of_ble_eq_true rfl) (Nat.le_of_ble_eq_true rfl) d_X12_init_290 ?_
  refine r_putF (pc := 292) X hin xok12 (by decide +kernel) (by decide +kernel) (by decide +kernel) (by decide +kernel) rfl (fun _ => ⟨rfl, rfl⟩) vf_RX12_133 d_X12_init_292 ?_
  refine r_aload_n (pc := 295) X d_X12_init_295 fn0 ?_
  refine r_bipush (pc := 296) X d_X12_init_296 (by decide +kernel) ?_
  refine r_newa (pc := 298) (atype := .int) X ⟨rfl, by decide⟩ (by decide) (Nat.le_of_ble_eq_true rfl) (by decide +kernel) aw_int (Nat.le_of_ble_eq_true rfl) (Nat.le_of_ble_eq_true rfl) d_X12_init_298 ?_
  refine r_putF (pc := 300) X hin xok12 (by decide +kernel) (by decide +kernel) (by decide +kernel) (by decide +kernel) rfl (fun _ => ⟨rfl, rfl⟩) vf_RX12_136 d_X12_init_300 ?_
  refine r_aload_n (pc := 303) X d_X12_init_303 fn0 ?_
  refine r_bipush (pc := 304) X d_X12_init_304 (by decide +kernel) ?_
  refine r_newa (pc := 306) (atype := .int) X ⟨rfl, by decide⟩ (by decide) (Nat.le_of_ble_eq_true rfl) (by decide +kernel) aw_int (Nat.le_of_ble_eq_true rfl) (Nat.le_of_ble_eq_true rfl) d_X12_init_306 ?_
  refine r_putF (pc := 308) X hin xok12 (by decide +kernel) (by decide +kernel) (by decide +kernel) (by decide +kernel) rfl (fun _ => ⟨rfl, rfl⟩) vf_RX12_139 d_X12_init_308 ?_
  refine r_aload_n (pc := 311) X d_X12_init_311 fn0 ?_
  refine r_iconst (pc := 312) X d_X12_init_312 (by decide +kernel) ?_
  refine r_putI (pc := 313) X xok12 (by decide +kernel) (by decide +kernel) (by decide +kernel) (by decide +kernel) vf_RX12_142 d_X12_init_313 ?_
  refine r_aload_n (pc := 316) X d_X12_init_316 fn0 ?_
  refine r_bipush (pc := 317) X d_X12_init_317 (by decide +kernel) ?_
  refine r_newa (pc := 319) (atype := .int) X ⟨rfl, by decide⟩ (by decide) (Nat.le_of_ble_eq_true rfl) (by decide +kernel) aw_int (Nat.le_of_ble_eq_true rfl) (Nat.le_of_ble_eq_true rfl) d_X12_init_319 ?_
  refine r_putF (pc := 321) X hin xok12 (by decide +kernel) (by decide +kernel) (by decide +kernel) (by decide +kernel) rfl (fun _ => ⟨rfl, rfl⟩) vf_RX12_145 d_X12_init_321 ?_
  refine r_aload_n (pc := 324) X d_X12_init_324 fn0 ?_
  refine r_sipush (pc := 325) X d_X12_init_325 (by decide +kernel) ?_
  refine r_newa (pc := 328) (atype := .int) X ⟨rfl, by decide⟩ (by decide) (Nat.le_of_ble_eq_true rfl) (by decide +kernel) aw_int (Nat.le_of_ble_eq_true rfl) (Nat.le_of_ble_eq_true rfl) d_X12_init_328 ?_
  refine r_putF (pc := 330) X hin xok12 (by decide +kernel) (by decide +kernel) (by decide +kernel) (by decide +kernel) rfl (fun _ => ⟨rfl, rfl⟩) vf_RX12_148 d_X12_init_330 ?_
  refine r_aload_n (pc := 333) X d_X12_init_333 fn0 ?_
  refine r_sipush (pc := 334) X d_X12_init_334 (by decide +kernel) ?_
  refine r_newa (pc := 337) (atype := .int) X ⟨rfl, by decide⟩ (by decide) (Nat.le_of_ble_eq_true rfl) (by decide +kernel) aw_int (Nat.le_of_ble_eq_true rfl) (Nat.le_of_ble_eq_true rfl) d_X12_init_337 ?_
  refine r_putF (pc := 339) X hin xok12 (by decide +kernel) (by decide +kernel) (by decide +kernel) (by decide +kernel) rfl (fun _ => ⟨rfl, rfl⟩) vf_RX12_151 d_X12_init_339 ?_
  refine r_aload_n (pc := 342) X d_X12_init_342 fn0 ?_
  refine r_sipush (pc := 343) X d_X12_init_343 (by decide +kernel) ?_
  refine r_newa (pc := 346) (atype := .int) X ⟨rfl, by decide⟩ (by decide) (Nat.le_of_ble_eq_true rfl) (by decide +kernel) aw_int (Nat.le_of_ble_eq_true rfl) (Nat.le_of_ble_eq_true rfl) d_X12_init_346 ?_
  refine r_putF (pc := 348) X hin xok12 (by decide +kernel) (by decide +kernel) (by decide +kernel) (by decide +kernel) rfl (fun _ => ⟨rfl, rfl⟩) vf_RX12_154 d_X12_init_348 ?_
  refine r_aload_n (pc := 351) X d_X12_init_351 fn0 ?_
  refine r_iconst (pc := 352) X d_X12_init_352 (by decide +kernel) ?_
  refine r_newa (pc := 353) (atype := .int) X ⟨rfl, by decide⟩ (by decide) (Nat.le_of_ble_eq_true rfl) (by decide +kernel) aw_int (Nat.le_of_ble_eq_true rfl) (Nat.le_of_ble_eq_true rfl) d_X12_init_353 ?_
  refine r_putF (pc := 355) X hin xok12 (by decide +kernel) (by decide +kernel) (by decide +kernel) (by decide +kernel) rfl (fun _ => ⟨rfl, rfl⟩) vf_RX12_157 d_X12_init_355 ?_
  refine r_aload_n (pc := 358) X d_X12_init_358 fn0 ?_
  refine r_iconst (pc := 359) X d_X12_init_359 (by decide +kernel) ?_
  refine r_putI (pc := 360) X xok12 (by decide +kernel) (by decide +kernel) (by decide +kernel) (by decide +kernel) vf_RX12_160 d_X12_init_360 ?_
  refine r_aload_n (pc := 363) X d_X12_init_363 fn0 ?_
  refine r_iconst (pc := 364) X d_X12_init_364 (by decide +kernel) ?_
  refine r_newa (pc := 365) (atype := .int) X ⟨rfl, by decide⟩ (by decide) (Nat.le_of_ble_eq_true rfl) (by decide +kernel) aw_int (Nat.le_of_ble_eq_true rfl) (Nat.le_of_ble_eq_true rfl) d_X12_init_365 ?_
  refine r_putF (pc := 367) X hin xok12 (by decide +kernel) (by decide +kernel) (by decide +kernel) (by decide +kernel) rfl (fun _ => ⟨rfl, rfl⟩) vf_RX12_163 d_X12_init_367 ?_
  refine r_aload_n (pc := 370) X d_X12_init_370 fn0 ?_
  refine r_iconst (pc := 371) X d_X12_init_371 (by decide +kernel) ?_
  refine r_putI (pc := 372) X xok12 (by decide +kernel) (by decide +kernel) (by decide +kernel) (by decide +kernel) vf_RX12_166 d_X12_init_372 ?_
  refine r_aload_n (pc := 375) X d_X12_init_375 fn0 ?_
  refine r_bipush (pc := 376) X d_X12_init_376 (by decide +kernel) ?_
  refine r_newa (pc := 378) (atype := .byte) X ⟨rfl, by decide⟩ (by decide) (Nat.le_of_ble_eq_true rfl) (by decide +kernel) aw_byte (Nat.le_of_ble_eq_true rfl) (Nat.le_of_ble_eq_true rfl) d_X12_init_378 ?_
  refine r_putF (pc := 380) X hin xok12 (by decide +kernel) (by decide +kernel) (by decide +kernel) (by decide +kernel) rfl (fun _ => ⟨rfl, rfl⟩) vf_RX12_169 d_X12_init_380 ?_
  refine r_aload_n (pc := 383) X d_X12_init_383 fn0 ?_
  refine r_iconst (pc := 384) X d_X12_init_384 (by decide +kernel) ?_
  refine r_newa (pc := 385) (atype := .int) X ⟨rfl, by decide⟩ (by decide) (Nat.le_of_ble_eq_true rfl) (by decide +kernel) aw_int (Nat.le_of_ble_eq_true rfl) (Nat.le_of_ble_eq_true rfl) d_X12_init_385 ?_
  refine r_putF (pc := 387) X hin xok12 (by decide +kernel) (by decide +kernel) (by decide +kernel) (by decide +kernel) rfl (fun _ => ⟨rfl, rfl⟩) vf_RX12_172 d_X12_init_387 ?_
  refine r_aload_n (pc := 390) X d_X12_init_390 fn0 ?_
  refine r_bipush (pc := 391) X d_X12_init_391 (by decide +kernel) ?_
  refine r_newa (pc := 393) (atype := .int) X ⟨rfl, by decide⟩ (by decide) (Nat.le_of_ble_eq_true rfl) (by decide +kernel) aw_int (Nat.le_of_ble_eq_true rfl) (Nat.le_of_ble_eq_true rfl) d_X12_init_393 ?_
  refine r_putF (pc := 395) X hin xok12 (by decide +kernel) (by decide +kernel) (by decide +kernel) (by decide +kernel) rfl (fun _ => ⟨rfl, rfl⟩) vf_RX12_175 d_X12_init_395 ?_
  refine r_aload_n (pc := 398) X d_X12_init_398 fn0 ?_
  refine r_bipush (pc := 399) X d_X12_init_399 (by decide +kernel) ?_
  refine r_newa (pc := 401) (atype := .boolean) X ⟨rfl, by decide⟩ (by decide) (Nat.le_of_ble_eq_true rfl) (by decide +kernel) aw_boolean (Nat.le_of_ble_eq_true rfl) (Nat.le_of_ble_eq_true rfl) d_X12_init_401 ?_
  refine r_putF (pc := 403) X hin xok12 (by decide +kernel) (by decide +kernel) (by decide +kernel) (by decide +kernel) rfl (fun _ => ⟨rfl, rfl⟩) vf_RX12_178 d_X12_init_403 ?_
  refine r_aload_n (pc := 406) X d_X12_init_406 fn0 ?_
  refine r_sipush (pc := 407) X d_X12_init_407 (by decide +kernel) ?_
  refine r_newa (pc := 410) (atype := .int) X ⟨rfl, by decide⟩ (by decide) (Nat.le_of_ble_eq_true rfl) (by decide +kernel) aw_int (Nat.le_of_ble_eq_true rfl) (Nat.le_of_ble_eq_true rfl) d_X12_init_410 ?_
  refine r_putF (pc := 412) X hin xok12 (by decide +kernel) (by decide +kernel) (by decide +kernel) (by decide +kernel) rfl (fun _ => ⟨rfl, rfl⟩) vf_RX12_181 d_X12_init_412 ?_
  refine r_aload_n (pc := 415) X d_X12_init_415 fn0 ?_
  refine r_bipush (pc := 416) X d_X12_init_416 (by decide +kernel) ?_
  refine r_newa (pc := 418) (atype := .long) X ⟨rfl, by decide⟩ (by decide) (Nat.le_of_ble_eq_true rfl) (by decide +kernel) aw_long (Nat.le_of_ble_eq_true rfl) (Nat.le_of_ble_eq_true rfl) d_X12_init_418 ?_
  refine r_putF (pc := 420) X hin xok12 (by decide +kernel) (by decide +kernel) (by decide +kernel) (by decide +kernel) rfl (fun _ => ⟨rfl, rfl⟩) vf_RX12_184 d_X12_init_420 ?_
  refine r_aload_n (pc := 423) X d_X12_init_423 fn0 ?_
  refine r_iconst (pc := 424) X d_X12_init_424 (by decide +kernel) ?_
  refine r_newa (pc := 425) (atype := .boolean) X ⟨rfl, by decide⟩ (by decide) (Nat.le_of_ble_eq_true rfl) (by decide +kernel) aw_boolean (Nat.le_of_ble_eq_true rfl) (Nat.le_of_ble_eq_true rfl) d_X12_init_425 ?_
  refine r_putF (pc := 427) X hin xok12 (by decide +kernel) (by decide +kernel) (by decide +kernel) (by decide +kernel) rfl (fun _ => ⟨rfl, rfl⟩) vf_RX12_187 d_X12_init_427 ?_
  refine r_aload_n (pc := 430) X d_X12_init_430 fn0 ?_
  refine r_getR (pc := 431) X xok12 (by decide +kernel) (by decide +kernel) vf_RX12_47 d_X12_init_431 ?_
  refine r_iconst (pc := 434) X d_X12_init_434 (by decide +kernel) ?_
  refine r_ldc2 (pc := 435) X vw_RX12_190 d_X12_init_435 ?_
  refine r_last (pc := 438) X d_X12_init_438 ?_
  refine r_aload_n (pc := 439) X d_X12_init_439 fn0 ?_
  refine r_getR (pc := 440) X xok12 (by decide +kernel) (by decide +kernel) vf_RX12_47 d_X12_init_440 ?_
  refine r_iconst (pc := 443) X d_X12_init_443 (by decide +kernel) ?_
  refine r_ldc2 (pc := 444) X vw_RX12_192 d_X12_init_444 ?_
  refine r_last (pc := 447) X d_X12_init_447 ?_
  refine r_aload_n (pc := 448) X d_X12_init_448 fn0 ?_
  refine r_getR (pc := 449) X xok12 (by decide +kernel) (by decide +kernel) vf_RX12_47 d_X12_init_449 ?_
  refine r_iconst (pc := 452) X d_X12_init_452 (by decide +kernel) ?_
  refine r_ldc2 (pc := 453) X vw_RX12_194 d_X12_init_453 ?_
  refine r_last (pc := 456) X d_X12_init_456 ?_
  refine r_aload_n (pc := 457) X d_X12_init_457 fn0 ?_
  refine r_getR (pc := 458) X xok12 (by decide +kernel) (by decide +kernel) vf_RX12_47 d_X12_init_458 ?_
  refine r_iconst (pc := 461) X d_X12_init_461 (by decide +kernel) ?_
  refine r_ldc2 (pc := 462) X vw_RX12_196 d_X12_init_462 ?_
  refine r_last (pc := 465) X d_X12_init_465 ?_
  refine r_aload_n (pc := 466) X d_X12_init_466 fn0 ?_
  refine r_getR (pc := 467) X xok12 (by decide +kernel) (by decide +kernel) vf_RX12_47 d_X12_init_467 ?_
  refine r_iconst (pc := 470) X d_X12_init_470 (by decide +kernel) ?_
  refine r_ldc2 (pc := 471) X vw_RX12_198 d_X12_init_471 ?_
  refine r_last (pc := 474) X d_X12_init_474 ?_
  refine r_aload_n (pc := 475) X d_X12_init_475 fn0 ?_
  refine r_getR (pc := 476) X xok12 (by decide +kernel) (by decide +kernel) vf_RX12_47 d_X12_init_476 ?_
  refine r_iconst (pc := 479) X d_X12_init_479 (by decide +kernel) ?_
  refine r_ldc2 (pc := 480) X vw_RX12_200 d_X12_init_480 ?_
  refine r_last (pc := 483) X d_X12_init_483 ?_
  refine r_aload_n (pc := 484) X d_X12_init_484 fn0 ?_
  refine r_getR (pc := 485) X xok12 (by decide +kernel) (by decide +kernel) vf_RX12_47 d_X12_init_485 ?_
  refine r_bipush (pc := 488) X d_X12_init_488 (by decide +kernel) ?_
  refine r_ldc2 (pc := 490) X vw_RX12_202 d_X12_init_490 ?_
  refine r_last (pc := 493) X d_X12_init_493 ?_
  refine r_aload_n (pc := 494) X d_X12_init_494 fn0 ?_
  refine r_getR (pc := 495) X xok12 (by decide +kernel) (by decide +kernel) vf_RX12_47 d_X12_init_495 ?_
  refine r_bipush (pc := 498) X d_X12_init_498 (by decide +kernel) ?_
  refine r_ldc2 (pc := 500) X vw_RX12_204 d_X12_init_500 ?_
  refine r_last (pc := 503) X d_X12_init_503 ?_
  refine r_aload_n (pc := 504) X d_X12_init_504 fn0 ?_
  refine r_getR (pc := 505) X xok12 (by decide +kernel) (by decide +kernel) vf_RX12_47 d_X12_init_505 ?_
  refine r_bipush (pc := 508) X d_X12_init_508 (by decide +kernel) ?_
  refine r_ldc2 (pc := 510) X vw_RX12_206 d_X12_init_510 ?_
  refine r_last (pc := 513) X d_X12_init_513 ?_
  refine r_aload_n (pc := 514) X d_X12_init_514 fn0 ?_
  refine r_getR (pc := 515) X xok12 (by decide +kernel) (by decide +kernel) vf_RX12_47 d_X12_init_515 ?_
  refine r_bipush (pc := 518) X d_X12_init_518 (by decide +kernel) ?_
  refine r_ldc2 (pc := 520) X vw_RX12_208 d_X12_init_520 ?_
  refine r_last (pc := 523) X d_X12_init_523 ?_
  refine r_aload_n (pc := 524) X d_X12_init_524 fn0 ?_
  refine r_getR (pc := 525) X xok12 (by decide +kernel) (by decide +kernel) vf_RX12_47 d_X12_init_525 ?_
  refine r_bipush (pc := 528) X d_X12_init_528 (by decide +kernel) ?_
  refine r_ldc2 (pc := 530) X vw_RX12_210 d_X12_init_530 ?_
  refine r_last (pc := 533) X d_X12_init_533 ?_
  refine r_aload_n (pc := 534) X d_X12_init_534 fn0 ?_
  refine r_getR (pc := 535) X xok12 (by decide +kernel) (by decide +kernel) vf_RX12_47 d_X12_init_535 ?_
  refine r_bipush (pc := 538) X d_X12_init_538 (by decide +kernel) ?_
  refine r_ldc2 (pc := 540) X vw_RX12_212 d_X12_init_540 ?_
  refine r_last (pc := 543) X d_X12_init_543 ?_
  refine r_aload_n (pc := 544) X d_X12_init_544 fn0 ?_
  refine r_getR (pc := 545) X xok12 (by decide +kernel) (by decide +kernel) vf_RX12_47 d_X12_init_545 ?_
  refine r_bipush (pc := 548) X d_X12_init_548 (by decide +kernel) ?_
  refine r_ldc2 (pc := 550) X vw_RX12_214 d_X12_init_550 ?_
  refine r_last (pc := 553) X d_X12_init_553 ?_
  refine r_aload_n (pc := 554) X d_X12_init_554 fn0 ?_
  refine r_getR (pc := 555) X xok12 (by decide +kernel) (by decide +kernel) vf_RX12_47 d_X12_init_555 ?_
  refine r_bipush (pc := 558) X d_X12_init_558 (by decide +kernel) ?_
  refine r_ldc2 (pc := 560) X vw_RX12_216 d_X12_init_560 ?_
  refine r_last (pc := 563) X d_X12_init_563 ?_
  refine r_aload_n (pc := 564) X d_X12_init_564 fn0 ?_
  refine r_getR (pc := 565) X xok12 (by decide +kernel) (by decide +kernel) vf_RX12_47 d_X12_init_565 ?_
  refine r_bipush (pc := 568) X d_X12_init_568 (by decide +kernel) ?_
  refine r_ldc2 (pc := 570) X vw_RX12_218 d_X12_init_570 ?_
  refine r_last (pc := 573) X d_X12_init_573 ?_
  refine r_aload_n (pc := 574) X d_X12_init_574 fn0 ?_
  refine r_getR (pc := 575) X xok12 (by decide +kernel) (by decide +kernel) vf_RX12_47 d_X12_init_575 ?_
  refine r_bipush (pc := 578) X d_X12_init_578 (by decide +kernel) ?_
  refine r_ldc2 (pc := 580) X vw_RX12_220 d_X12_init_580 ?_
  refine r_last (pc := 583) X d_X12_init_583 ?_
  refine r_iconst (pc := 584) X d_X12_init_584 (by decide +kernel) ?_
  refine r_istore_n (pc := 585) X d_X12_init_585 fn1 (by decide +kernel) ?_
  exact h586
def xsg (d i : Nat) (A : xH) : xH := (fun e j => if e = d ∧ 54 ≤ j ∧ j < 54 + i then nI (j - 54) else A.1 e j, A.2.1, A.2.2)
theorem xsg_0 {d : Nat} {A : xH} : xsg d 0 A = A := by
  unfold xsg
  refine Prod.ext ?_ rfl
  funext e j
  exact if_neg (by omega)
theorem xsg_s {d i : Nat} {A : xH} : xsi (xsg d i A) d (54 + i) (nI i) = xsg d (i + 1) A := by
  unfold xsg xsi
  refine Prod.ext ?_ rfl
  funext e j
  show (if e = d ∧ j = 54 + i then nI i else if e = d ∧ 54 ≤ j ∧ j < 54 + i then nI (j - 54) else A.1 e j) = if e = d ∧ 54 ≤ j ∧ j < 54 + (i + 1) then nI (j - 54) else A.1 e j
  by_cases w : e = d ∧ j = 54 + i
  · rw [if_pos w, if_pos ⟨w.1, by omega, by omega⟩, w.2, Nat.add_sub_cancel_left]
  · rw [if_neg w]
    by_cases q : e = d ∧ 54 ≤ j ∧ j < 54 + i
    · rw [if_pos q, if_pos ⟨q.1, q.2.1, by omega⟩]
    · rw [if_neg q, if_neg (by omega)]
theorem xr_sg {c i d j : Nat} {A : xH} : xr (xsg c i A) d j = xr A d j := rfl
def f_X12_init (a0 : Nat) (A : xH) (P : xP) : Prop := ∃ (H0 : xH) (d : Nat), (∀ C : xK, C [some (.ref a0), some (.int 0)] [] H0 → k_X12_init_0 C [some (.ref a0), none] [] A) ∧ xob 231 a0 = 12 ∧ xr H0 a0 5 = some d ∧ xtn 231 d = 1 ∧ (xsh d).2 = 232 ∧ P none (xsg d 42 H0)
def rs586 (a0 d : Nat) (H0 : xH) : xM → xK := fun μ L st B => ∃ i, i ≤ 42 ∧ B = xsg d i H0 ∧ st = [] ∧ L = [some (.ref a0), some (.int (nI i))] ∧ μ = (50 - i, 0, 0)
set_option maxRecDepth 20000 in
theorem con_X12_init (l : Launch) : xCon l yX12_init cX12_init 2 none 1 20 181 231 231981 xFF xFF (w_R f_X12_init) := by
  refine xc_R (by decide +kernel) (by decide +kernel) (fun p e s m args below meth c g a0 A P h X hr hin => ?_)
  obtain ⟨H0, d, h1, g1, g2, g3, g4, hP⟩ := h
  have key : ∀ μ L st B, rs586 a0 d H0 μ L st B → k_X12_init_586 P (xB (rs586 a0 d H0) μ) L st B := by
    rintro μ L st B ⟨i, hi, rfl, rfl, rfl, rfl⟩
    unfold k_X12_init_586
    simp (disch := omega) only [x_aload, x_dup, x_getR, x_getI, x_iadd, x_iald, x_iast, x_icmp_ge, x_iinc, x_iload, x_istore, x_push, x_putI, x_putF, x_vret, x_oini, x_new, x_newa, x_alen, x_aast, x_last, z_ci0, z_ci1, x_cv0, va_rf, w_R, w_RR, xFT, xbool0, xbool1, Nat.reduceAdd, Nat.zero_add, xgl_0, xgl_s, xgl_n, xst_0, xst_1n, xst_1i, xst_1r, xst_1l, xst_s, set_0, set_s, true_and, and_true, xres, xcat_nil, xcat_i, xcat_r, xcat_l, Nat.add_zero, xble0, xble1, xble2, xble3, xble4, xble5, xble6, xble7, xble8, pk_mul, nI_add, nI_1, nI_leI, nI_ltI, nI_eq, n_in, n_cl, z_eq, z_lt, z_le, z_gt, z_ge, z_qe, o_eq, o_lt, o_le, o_gt, o_ge, vp0, vp1, cl0, cl1, n_sub, n_sub1, n_pm1, n_a0, n_0a, ofn, lN0, Nat.reduceLT, Nat.reduceLeDiff, Nat.reduceMul, Nat.reduceSub, Nat.reduceEqDiff, ne_eq, true_implies, false_implies, not_true_eq_false, not_false_eq_true, and_self, and_true, true_and, and_false, false_and, implies_true, if_true, if_false, i00, i10, i01, i11, ob_0, ob_1, tn_2, ln_2, ob_3, tn_4, ln_4, ob_5, tn_6, ln_6, tn_7, ln_7, ob_8, tn_9, ln_9, tn_10, ln_10, tn_11, ln_11, tn_12, ln_12, tn_13, ln_13, tn_14, ln_14, tn_15, ln_15, tn_16, ln_16, tn_17, ln_17, ob_18, tn_19, ln_19, tn_20, ln_20, tn_21, ln_21, tn_22, ln_22, tn_23, ln_23, tn_24, ln_24, tn_25, ln_25, tn_26, ln_26, tn_27, ln_27, ob_28, tn_29, ln_29, tn_30, ln_30, ob_31, tn_32, ln_32, tn_33, ln_33, ob_34, ob_35, tn_36, ln_36, tn_37, ln_37, tn_38, ln_38, ob_39, tn_40, ln_40, tn_41, ln_41, tn_42, ln_42, tn_43, ln_43, tn_44, ln_44, tn_45, ln_45, tn_46, ln_46, tn_47, ln_47, tn_48, ln_48, tn_49, ln_49, tn_50, ln_50, tn_51, ln_51, ob_52, tn_53, ln_53, tn_54, ln_54, tn_55, ln_55, tn_56, ln_56, ob_57, tn_58, ln_58, tn_59, ln_59, tn_60, ln_60, tn_61, ln_61, tn_62, ln_62, tn_63, ln_63, tn_64, ln_64, tn_65, ln_65, ob_66, tn_67, ln_67, tn_68, ln_68, tn_69, ln_69, tn_70, ln_70, tn_71, ln_71, tn_72, ln_72, tn_73, ln_73, ob_74, tn_75, ln_75, tn_76, ln_76, tn_77, ln_77, tn_78, ln_78, tn_79, ln_79, tn_80, ln_80, tn_81, ln_81, tn_82, ln_82, tn_83, ln_83, ob_84, tn_85, ln_85, tn_86, ln_86, tn_87, ln_87, tn_88, ln_88, tn_89, ln_89, tn_90, ln_90, tn_91, ln_91, tn_92, ln_92, tn_93, ln_93, ob_94, tn_95, ln_95, tn_96, ln_96, tn_97, ln_97, tn_98, ln_98, tn_99, ln_99, tn_100, ln_100, tn_101, ln_101, tn_102, ln_102, tn_103, ln_103, ob_104, tn_105, ln_105, tn_106, ln_106, tn_107, ln_107, tn_108, ln_108, tn_109, ln_109, tn_110, ln_110, tn_111, ln_111, tn_112, ln_112, tn_113, ln_113, ob_114, tn_115, ln_115, tn_116, ln_116, tn_117, ln_117, tn_118, ln_118, tn_119, ln_119, tn_120, ln_120, tn_121, ln_121, tn_122, ln_122, tn_123, ln_123, ob_124, tn_125, ln_125, tn_126, ln_126, tn_127, ln_127, tn_128, ln_128, tn_129, ln_129, tn_130, ln_130, tn_131, ln_131, tn_132, ln_132, tn_133, ln_133, ob_134, tn_135, ln_135, tn_136, ln_136, tn_137, ln_137, tn_138, ln_138, tn_139, ln_139, tn_140, ln_140, tn_141, ln_141, tn_142, ln_142, tn_143, ln_143, ob_144, tn_145, ln_145, tn_146, ln_146, tn_147, ln_147, tn_148, ln_148, tn_149, ln_149, tn_150, ln_150, tn_151, ln_151, tn_152, ln_152, tn_153, ln_153, ob_154, tn_155, ln_155, tn_156, ln_156, tn_157, ln_157, tn_158, ln_158, tn_159, ln_159, tn_160, ln_160, tn_161, ln_161, tn_162, ln_162, tn_163, ln_163, ob_164, tn_165, ln_165, tn_166, ln_166, ob_167, tn_168, ln_168, tn_169, ln_169, tn_170, ln_170, tn_171, ln_171, tn_172, ln_172, tn_173, ln_173, tn_174, ln_174, tn_175, ln_175, tn_176, ln_176, ob_177, tn_178, ln_178, tn_179, ln_179, ob_180, tn_181, ln_181, tn_182, ln_182, tn_183, ln_183, tn_184, ln_184, tn_185, ln_185, tn_186, ln_186, tn_187, ln_187, tn_188, ln_188, tn_189, ln_189, tn_190, ln_190, tn_191, ln_191, tn_192, ln_192, tn_193, ln_193, tn_194, ln_194, tn_195, ln_195, tn_196, ln_196, tn_197, ln_197, tn_198, ln_198, tn_199, ln_199, tn_200, ln_200, tn_201, ln_201, tn_202, ln_202, tn_203, ln_203, tn_204, ln_204, tn_205, ln_205, tn_206, ln_206, tn_207, ln_207, tn_208, ln_208, tn_209, ln_209, tn_210, ln_210, tn_211, ln_211, tn_212, ln_212, tn_213, ln_213, tn_214, ln_214, tn_215, ln_215, tn_216, ln_216, tn_217, ln_217, tn_218, ln_218, tn_219, ln_219, tn_220, ln_220, tn_221, ln_221, tn_222, ln_222, tn_223, ln_223, tn_224, ln_224, tn_225, ln_225, tn_226, ln_226, tn_227, ln_227, tn_228, ln_228, tn_229, ln_229, tn_230, ln_230, lx2, lx3, lx4, lx5, lx6, lx7, lx8, lx9, lx10, lx14, lx15, lx16, lx18, lx20, lx24, lx25, lx27, lx32, lx36, lx40, lx41, lx42, lx43, lx45, lx48, lx52, lx54, lx56, lx57, lx58, lx60, lx61, lx62, lx63, lx64, lx66, lx69, lx73, lx80, lx81, lx84, lx85, lx87, lx94, lx96, lx97, lx120, lx128, lx135, lx160, lx162, lx163, lx165, lx200, lx232, lx242, lx243, lx255, lx256, lx320, lx325, lx400, lx405, lx464, lx512, lx600, lx640, lx752, lx900, lx940, lx1000, lx1024, lx1764, lx3360, lx3840, lx5000, lx6400, lx9050, lx9998, lx9999, lx10000, lx25600, lx76800, lx99999, si_ne, si_eq, sl_ne, sl_eq, xl_si, xi_sl, sA_ne, sA_eq, xl_sA, xr_sg, g1, g2, g3, g4, xsg_s]
    refine ⟨fun q => ?_, fun q => ⟨by omega, xB1 (b := 50 - (i + 1)) (by omega) ⟨i + 1, by omega, rfl, rfl, rfl, rfl⟩⟩⟩
    have e : i = 42 := by omega
    subst e
    exact hP
  have h586 := x_loop1 (p := p) (l := l) (e := e) (below := below) (R := { frames := 1, cells := 50, slots := 231981, locals := 20 }) (Q := MQ below (xQc g xFF 231 P) args s 50 231981 (xFr g)) (I := rs586 a0 d H0) (pc1 := 586) (fun μ i586 => xAt_mono (t_X12_init_586 (P := P) X hr i586) (key μ))
  exact ⟨_, h1 (xE (rs586 a0 d H0)) (xE0 (50 - 0, 0, 0) ⟨0, Nat.zero_le _, xsg_0.symm, rfl, rfl, rfl⟩), t_X12_init_0 X hr hin h586⟩

