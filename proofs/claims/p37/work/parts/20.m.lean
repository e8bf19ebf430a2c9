theorem dX0_setInputs_0 : decode cX0_setInputs 0 = .ok (.aload_n 0, 1) := by decide +kernel
theorem dX0_setInputs_1 : decode cX0_setInputs 1 = .ok (.getfield 9, 3) := by decide +kernel
theorem dX0_setInputs_4 : decode cX0_setInputs 4 = .ok (.getfield 25, 3) := by decide +kernel
theorem dX0_setInputs_7 : decode cX0_setInputs 7 = .ok (.getfield 70, 3) := by decide +kernel
theorem dX0_setInputs_10 : decode cX0_setInputs 10 = .ok (.astore 6, 2) := by decide +kernel
theorem dX0_setInputs_12 : decode cX0_setInputs 12 = .ok (.aload 6, 2) := by decide +kernel
theorem dX0_setInputs_14 : decode cX0_setInputs 14 = .ok (.iconst 0, 1) := by decide +kernel
theorem dX0_setInputs_15 : decode cX0_setInputs 15 = .ok (.aload_n 0, 1) := by decide +kernel
theorem dX0_setInputs_16 : decode cX0_setInputs 16 = .ok (.getfield 9, 3) := by decide +kernel
theorem dX0_setInputs_19 : decode cX0_setInputs 19 = .ok (.getfield 73, 3) := by decide +kernel
theorem dX0_setInputs_22 : decode cX0_setInputs 22 = .ok (.iload_n 2, 1) := by decide +kernel
theorem dX0_setInputs_23 : decode cX0_setInputs 23 = .ok (.iaload, 1) := by decide +kernel
theorem dX0_setInputs_24 : decode cX0_setInputs 24 = .ok (.iastore, 1) := by decide +kernel
theorem dX0_setInputs_25 : decode cX0_setInputs 25 = .ok (.aload 6, 2) := by decide +kernel
theorem dX0_setInputs_27 : decode cX0_setInputs 27 = .ok (.iconst 1, 1) := by decide +kernel
theorem dX0_setInputs_28 : decode cX0_setInputs 28 = .ok (.aload_n 1, 1) := by decide +kernel
theorem dX0_setInputs_29 : decode cX0_setInputs 29 = .ok (.getfield 15, 3) := by decide +kernel
theorem dX0_setInputs_32 : decode cX0_setInputs 32 = .ok (.bipush 40, 2) := by decide +kernel
theorem dX0_setInputs_34 : decode cX0_setInputs 34 = .ok (.iaload, 1) := by decide +kernel
theorem dX0_setInputs_35 : decode cX0_setInputs 35 = .ok (.iastore, 1) := by decide +kernel
theorem dX0_setInputs_36 : decode cX0_setInputs 36 = .ok (.aload 6, 2) := by decide +kernel
theorem dX0_setInputs_38 : decode cX0_setInputs 38 = .ok (.iconst 2, 1) := by decide +kernel
theorem dX0_setInputs_39 : decode cX0_setInputs 39 = .ok (.aload_n 1, 1) := by decide +kernel
theorem dX0_setInputs_40 : decode cX0_setInputs 40 = .ok (.getfield 15, 3) := by decide +kernel
theorem dX0_setInputs_43 : decode cX0_setInputs 43 = .ok (.bipush 31, 2) := by decide +kernel
theorem dX0_setInputs_45 : decode cX0_setInputs 45 = .ok (.iload_n 2, 1) := by decide +kernel
theorem dX0_setInputs_46 : decode cX0_setInputs 46 = .ok (.iadd, 1) := by decide +kernel
theorem dX0_setInputs_47 : decode cX0_setInputs 47 = .ok (.iaload, 1) := by decide +kernel
theorem dX0_setInputs_48 : decode cX0_setInputs 48 = .ok (.iastore, 1) := by decide +kernel
theorem dX0_setInputs_49 : decode cX0_setInputs 49 = .ok (.aload 6, 2) := by decide +kernel
theorem dX0_setInputs_51 : decode cX0_setInputs 51 = .ok (.iconst 3, 1) := by decide +kernel
theorem dX0_setInputs_52 : decode cX0_setInputs 52 = .ok (.aload_n 1, 1) := by decide +kernel
theorem dX0_setInputs_53 : decode cX0_setInputs 53 = .ok (.getfield 15, 3) := by decide +kernel
theorem dX0_setInputs_56 : decode cX0_setInputs 56 = .ok (.bipush 41, 2) := by decide +kernel
theorem dX0_setInputs_58 : decode cX0_setInputs 58 = .ok (.iaload, 1) := by decide +kernel
theorem dX0_setInputs_59 : decode cX0_setInputs 59 = .ok (.iastore, 1) := by decide +kernel
theorem dX0_setInputs_60 : decode cX0_setInputs 60 = .ok (.aload 6, 2) := by decide +kernel
theorem dX0_setInputs_62 : decode cX0_setInputs 62 = .ok (.iconst 4, 1) := by decide +kernel
theorem dX0_setInputs_63 : decode cX0_setInputs 63 = .ok (.iload_n 3, 1) := by decide +kernel
theorem dX0_setInputs_64 : decode cX0_setInputs 64 = .ok (.iastore, 1) := by decide +kernel
theorem dX0_setInputs_65 : decode cX0_setInputs 65 = .ok (.aload 6, 2) := by decide +kernel
theorem dX0_setInputs_67 : decode cX0_setInputs 67 = .ok (.iconst 5, 1) := by decide +kernel
theorem dX0_setInputs_68 : decode cX0_setInputs 68 = .ok (.iload 4, 2) := by decide +kernel
theorem dX0_setInputs_70 : decode cX0_setInputs 70 = .ok (.iastore, 1) := by decide +kernel
theorem dX0_setInputs_71 : decode cX0_setInputs 71 = .ok (.aload 6, 2) := by decide +kernel
theorem dX0_setInputs_73 : decode cX0_setInputs 73 = .ok (.bipush 6, 2) := by decide +kernel
theorem dX0_setInputs_75 : decode cX0_setInputs 75 = .ok (.iload 5, 2) := by decide +kernel
theorem dX0_setInputs_77 : decode cX0_setInputs 77 = .ok (.iastore, 1) := by decide +kernel
theorem dX0_setInputs_78 : decode cX0_setInputs 78 = .ok (.return_, 1) := by decide +kernel
theorem dX2_valueOf_0 : decode cX2_valueOf 0 = .ok (.iconst 0, 1) := by decide +kernel
theorem dX2_valueOf_1 : decode cX2_valueOf 1 = .ok (.istore_n 2, 1) := by decide +kernel
theorem dX2_valueOf_2 : decode cX2_valueOf 2 = .ok (.aload_n 0, 1) := by decide +kernel
theorem dX2_valueOf_3 : decode cX2_valueOf 3 = .ok (.getfield 15, 3) := by decide +kernel
theorem dX2_valueOf_6 : decode cX2_valueOf 6 = .ok (.iload_n 1, 1) := by decide +kernel
theorem dX2_valueOf_7 : decode cX2_valueOf 7 = .ok (.iaload, 1) := by decide +kernel
theorem dX2_valueOf_8 : decode cX2_valueOf 8 = .ok (.istore_n 3, 1) := by decide +kernel
theorem dX2_valueOf_9 : decode cX2_valueOf 9 = .ok (.iload_n 3, 1) := by decide +kernel
theorem dX2_valueOf_10 : decode cX2_valueOf 10 = .ok (.aload_n 0, 1) := by decide +kernel
theorem dX2_valueOf_11 : decode cX2_valueOf 11 = .ok (.getfield 18, 3) := by decide +kernel
theorem dX2_valueOf_14 : decode cX2_valueOf 14 = .ok (.iload_n 1, 1) := by decide +kernel
theorem dX2_valueOf_15 : decode cX2_valueOf 15 = .ok (.iaload, 1) := by decide +kernel
theorem dX2_valueOf_16 : decode cX2_valueOf 16 = .ok (.if_icmp .ge 474, 3) := by decide +kernel
theorem dX2_valueOf_19 : decode cX2_valueOf 19 = .ok (.iload_n 3, 1) := by decide +kernel
theorem dX2_valueOf_20 : decode cX2_valueOf 20 = .ok (.aload_n 0, 1) := by decide +kernel
theorem dX2_valueOf_21 : decode cX2_valueOf 21 = .ok (.getfield 9, 3) := by decide +kernel
theorem dX2_valueOf_24 : decode cX2_valueOf 24 = .ok (.arraylength, 1) := by decide +kernel
theorem dX2_valueOf_25 : decode cX2_valueOf 25 = .ok (.if_icmp .ge 465, 3) := by decide +kernel
theorem dX2_valueOf_28 : decode cX2_valueOf 28 = .ok (.aload_n 0, 1) := by decide +kernel
theorem dX2_valueOf_29 : decode cX2_valueOf 29 = .ok (.getfield 9, 3) := by decide +kernel
theorem dX2_valueOf_32 : decode cX2_valueOf 32 = .ok (.iload_n 3, 1) := by decide +kernel
theorem dX2_valueOf_33 : decode cX2_valueOf 33 = .ok (.iaload, 1) := by decide +kernel
theorem dX2_valueOf_34 : decode cX2_valueOf 34 = .ok (.istore 4, 2) := by decide +kernel
theorem dX2_valueOf_36 : decode cX2_valueOf 36 = .ok (.iload 4, 2) := by decide +kernel
theorem dX2_valueOf_38 : decode cX2_valueOf 38 = .ok (.ineg, 1) := by decide +kernel
theorem dX2_valueOf_39 : decode cX2_valueOf 39 = .ok (.istore 5, 2) := by decide +kernel
theorem dX2_valueOf_41 : decode cX2_valueOf 41 = .ok (.iload 5, 2) := by decide +kernel
theorem dX2_valueOf_43 : decode cX2_valueOf 43 = .ok (.sipush 136, 3) := by decide +kernel
theorem dX2_valueOf_46 : decode cX2_valueOf 46 = .ok (.if_icmp .lt 15, 3) := by decide +kernel
theorem dX2_valueOf_49 : decode cX2_valueOf 49 = .ok (.iload 5, 2) := by decide +kernel
theorem dX2_valueOf_51 : decode cX2_valueOf 51 = .ok (.sipush 142, 3) := by decide +kernel
theorem dX2_valueOf_54 : decode cX2_valueOf 54 = .ok (.if_icmp .gt 7, 3) := by decide +kernel
theorem dX2_valueOf_57 : decode cX2_valueOf 57 = .ok (.iconst 1, 1) := by decide +kernel
theorem dX2_valueOf_58 : decode cX2_valueOf 58 = .ok (.goto 4, 3) := by decide +kernel
theorem dX2_valueOf_61 : decode cX2_valueOf 61 = .ok (.iconst 0, 1) := by decide +kernel
theorem dX2_valueOf_62 : decode cX2_valueOf 62 = .ok (.istore 6, 2) := by decide +kernel
theorem dX2_valueOf_64 : decode cX2_valueOf 64 = .ok (.iload 4, 2) := by decide +kernel
theorem dX2_valueOf_66 : decode cX2_valueOf 66 = .ok (.ifCond .ge 8, 3) := by decide +kernel
theorem dX2_valueOf_69 : decode cX2_valueOf 69 = .ok (.iload 6, 2) := by decide +kernel
theorem dX2_valueOf_71 : decode cX2_valueOf 71 = .ok (.ifCond .eq 45, 3) := by decide +kernel
theorem dX2_valueOf_74 : decode cX2_valueOf 74 = .ok (.iload_n 2, 1) := by decide +kernel
theorem dX2_valueOf_75 : decode cX2_valueOf 75 = .ok (.aload_n 0, 1) := by decide +kernel
theorem dX2_valueOf_76 : decode cX2_valueOf 76 = .ok (.getfield 24, 3) := by decide +kernel
theorem dX2_valueOf_79 : decode cX2_valueOf 79 = .ok (.arraylength, 1) := by decide +kernel
theorem dX2_valueOf_80 : decode cX2_valueOf 80 = .ok (.if_icmp .ge 36, 3) := by decide +kernel
theorem dX2_valueOf_83 : decode cX2_valueOf 83 = .ok (.aload_n 0, 1) := by decide +kernel
theorem dX2_valueOf_84 : decode cX2_valueOf 84 = .ok (.getfield 24, 3) := by decide +kernel
theorem dX2_valueOf_87 : decode cX2_valueOf 87 = .ok (.iload_n 2, 1) := by decide +kernel
theorem dX2_valueOf_88 : decode cX2_valueOf 88 = .ok (.iload 6, 2) := by decide +kernel
theorem dX2_valueOf_90 : decode cX2_valueOf 90 = .ok (.ifCond .eq 17, 3) := by decide +kernel
theorem dX2_valueOf_93 : decode cX2_valueOf 93 = .ok (.aload_n 0, 1) := by decide +kernel
theorem dX2_valueOf_94 : decode cX2_valueOf 94 = .ok (.getfield 21, 3) := by decide +kernel
theorem dX2_valueOf_97 : decode cX2_valueOf 97 = .ok (.iload 5, 2) := by decide +kernel
theorem dX2_valueOf_99 : decode cX2_valueOf 99 = .ok (.sipush 136, 3) := by decide +kernel
theorem dX2_valueOf_102 : decode cX2_valueOf 102 = .ok (.isub, 1) := by decide +kernel
theorem dX2_valueOf_103 : decode cX2_valueOf 103 = .ok (.iaload, 1) := by decide +kernel
theorem dX2_valueOf_104 : decode cX2_valueOf 104 = .ok (.goto 5, 3) := by decide +kernel
theorem dX2_valueOf_107 : decode cX2_valueOf 107 = .ok (.iload 4, 2) := by decide +kernel
theorem dX2_valueOf_109 : decode cX2_valueOf 109 = .ok (.iastore, 1) := by decide +kernel
theorem dX2_valueOf_110 : decode cX2_valueOf 110 = .ok (.iinc 2 1, 3) := by decide +kernel
theorem dX2_valueOf_113 : decode cX2_valueOf 113 = .ok (.goto 371, 3) := by decide +kernel
theorem dX2_valueOf_116 : decode cX2_valueOf 116 = .ok (.iload 5, 2) := by decide +kernel
theorem dX2_valueOf_118 : decode cX2_valueOf 118 = .ok (.sipush 149, 3) := by decide +kernel
theorem dX2_valueOf_121 : decode cX2_valueOf 121 = .ok (.if_icmp .ne 35, 3) := by decide +kernel
theorem dX2_valueOf_124 : decode cX2_valueOf 124 = .ok (.iload_n 2, 1) := by decide +kernel
theorem dX2_valueOf_125 : decode cX2_valueOf 125 = .ok (.iconst 1, 1) := by decide +kernel
theorem dX2_valueOf_126 : decode cX2_valueOf 126 = .ok (.if_icmp .lt 30, 3) := by decide +kernel
theorem dX2_valueOf_129 : decode cX2_valueOf 129 = .ok (.aload_n 0, 1) := by decide +kernel
theorem dX2_valueOf_130 : decode cX2_valueOf 130 = .ok (.getfield 24, 3) := by decide +kernel
theorem dX2_valueOf_133 : decode cX2_valueOf 133 = .ok (.iload_n 2, 1) := by decide +kernel
theorem dX2_valueOf_134 : decode cX2_valueOf 134 = .ok (.iconst 1, 1) := by decide +kernel
theorem dX2_valueOf_135 : decode cX2_valueOf 135 = .ok (.isub, 1) := by decide +kernel
theorem dX2_valueOf_136 : decode cX2_valueOf 136 = .ok (.aload_n 0, 1) := by decide +kernel
theorem dX2_valueOf_137 : decode cX2_valueOf 137 = .ok (.getfield 24, 3) := by decide +kernel
theorem dX2_valueOf_140 : decode cX2_valueOf 140 = .ok (.iload_n 2, 1) := by decide +kernel
theorem dX2_valueOf_141 : decode cX2_valueOf 141 = .ok (.iconst 1, 1) := by decide +kernel
theorem dX2_valueOf_142 : decode cX2_valueOf 142 = .ok (.isub, 1) := by decide +kernel
theorem dX2_valueOf_143 : decode cX2_valueOf 143 = .ok (.iaload, 1) := by decide +kernel
theorem dX2_valueOf_144 : decode cX2_valueOf 144 = .ok (.ifCond .ne 7, 3) := by decide +kernel
theorem dX2_valueOf_147 : decode cX2_valueOf 147 = .ok (.iconst 1, 1) := by decide +kernel
theorem dX2_valueOf_148 : decode cX2_valueOf 148 = .ok (.goto 4, 3) := by decide +kernel
theorem dX2_valueOf_151 : decode cX2_valueOf 151 = .ok (.iconst 0, 1) := by decide +kernel
theorem dX2_valueOf_152 : decode cX2_valueOf 152 = .ok (.iastore, 1) := by decide +kernel
theorem dX2_valueOf_153 : decode cX2_valueOf 153 = .ok (.goto 331, 3) := by decide +kernel
theorem dX2_valueOf_156 : decode cX2_valueOf 156 = .ok (.iload_n 2, 1) := by decide +kernel
theorem dX2_valueOf_157 : decode cX2_valueOf 157 = .ok (.iconst 2, 1) := by decide +kernel
theorem dX2_valueOf_158 : decode cX2_valueOf 158 = .ok (.if_icmp .lt 326, 3) := by decide +kernel
theorem dX2_valueOf_161 : decode cX2_valueOf 161 = .ok (.iinc 2 (-1), 3) := by decide +kernel
theorem dX2_valueOf_164 : decode cX2_valueOf 164 = .ok (.aload_n 0, 1) := by decide +kernel
theorem dX2_valueOf_165 : decode cX2_valueOf 165 = .ok (.getfield 24, 3) := by decide +kernel
theorem dX2_valueOf_168 : decode cX2_valueOf 168 = .ok (.iload_n 2, 1) := by decide +kernel
theorem dX2_valueOf_169 : decode cX2_valueOf 169 = .ok (.iconst 1, 1) := by decide +kernel
theorem dX2_valueOf_170 : decode cX2_valueOf 170 = .ok (.isub, 1) := by decide +kernel
theorem dX2_valueOf_171 : decode cX2_valueOf 171 = .ok (.iaload, 1) := by decide +kernel
theorem dX2_valueOf_172 : decode cX2_valueOf 172 = .ok (.istore 7, 2) := by decide +kernel
theorem dX2_valueOf_174 : decode cX2_valueOf 174 = .ok (.aload_n 0, 1) := by decide +kernel
theorem dX2_valueOf_175 : decode cX2_valueOf 175 = .ok (.getfield 24, 3) := by decide +kernel
theorem dX2_valueOf_178 : decode cX2_valueOf 178 = .ok (.iload_n 2, 1) := by decide +kernel
theorem dX2_valueOf_179 : decode cX2_valueOf 179 = .ok (.iaload, 1) := by decide +kernel
theorem dX2_valueOf_180 : decode cX2_valueOf 180 = .ok (.istore 8, 2) := by decide +kernel
theorem dX2_valueOf_182 : decode cX2_valueOf 182 = .ok (.iload 5, 2) := by decide +kernel
theorem dX2_valueOf_184 : decode cX2_valueOf 184 = .ok (.lookupswitch 277 #[(37, 157), (42, 116), (43, 84), (45, 100), (47, 132), (60, 182), (61, 228), (62, 205), (148, 251)], 84) := by decide +kernel
theorem dX2_valueOf_268 : decode cX2_valueOf 268 = .ok (.aload_n 0, 1) := by decide +kernel
theorem dX2_valueOf_269 : decode cX2_valueOf 269 = .ok (.getfield 24, 3) := by decide +kernel
theorem dX2_valueOf_272 : decode cX2_valueOf 272 = .ok (.iload_n 2, 1) := by decide +kernel
theorem dX2_valueOf_273 : decode cX2_valueOf 273 = .ok (.iconst 1, 1) := by decide +kernel
theorem dX2_valueOf_274 : decode cX2_valueOf 274 = .ok (.isub, 1) := by decide +kernel
theorem dX2_valueOf_275 : decode cX2_valueOf 275 = .ok (.iload 7, 2) := by decide +kernel
theorem dX2_valueOf_277 : decode cX2_valueOf 277 = .ok (.iload 8, 2) := by decide +kernel
theorem dX2_valueOf_279 : decode cX2_valueOf 279 = .ok (.iadd, 1) := by decide +kernel
theorem dX2_valueOf_280 : decode cX2_valueOf 280 = .ok (.iastore, 1) := by decide +kernel
theorem dX2_valueOf_281 : decode cX2_valueOf 281 = .ok (.goto 203, 3) := by decide +kernel
theorem dX2_valueOf_284 : decode cX2_valueOf 284 = .ok (.aload_n 0, 1) := by decide +kernel
theorem dX2_valueOf_285 : decode cX2_valueOf 285 = .ok (.getfield 24, 3) := by decide +kernel
theorem dX2_valueOf_288 : decode cX2_valueOf 288 = .ok (.iload_n 2, 1) := by decide +kernel
theorem dX2_valueOf_289 : decode cX2_valueOf 289 = .ok (.iconst 1, 1) := by decide +kernel
theorem dX2_valueOf_290 : decode cX2_valueOf 290 = .ok (.isub, 1) := by decide +kernel
theorem dX2_valueOf_291 : decode cX2_valueOf 291 = .ok (.iload 7, 2) := by decide +kernel
theorem dX2_valueOf_293 : decode cX2_valueOf 293 = .ok (.iload 8, 2) := by decide +kernel
theorem dX2_valueOf_295 : decode cX2_valueOf 295 = .ok (.isub, 1) := by decide +kernel
theorem dX2_valueOf_296 : decode cX2_valueOf 296 = .ok (.iastore, 1) := by decide +kernel
theorem dX2_valueOf_297 : decode cX2_valueOf 297 = .ok (.goto 187, 3) := by decide +kernel
theorem dX2_valueOf_300 : decode cX2_valueOf 300 = .ok (.aload_n 0, 1) := by decide +kernel
theorem dX2_valueOf_301 : decode cX2_valueOf 301 = .ok (.getfield 24, 3) := by decide +kernel
theorem dX2_valueOf_304 : decode cX2_valueOf 304 = .ok (.iload_n 2, 1) := by decide +kernel
theorem dX2_valueOf_305 : decode cX2_valueOf 305 = .ok (.iconst 1, 1) := by decide +kernel
theorem dX2_valueOf_306 : decode cX2_valueOf 306 = .ok (.isub, 1) := by decide +kernel
theorem dX2_valueOf_307 : decode cX2_valueOf 307 = .ok (.iload 7, 2) := by decide +kernel
theorem dX2_valueOf_309 : decode cX2_valueOf 309 = .ok (.iload 8, 2) := by decide +kernel
theorem dX2_valueOf_311 : decode cX2_valueOf 311 = .ok (.imul, 1) := by decide +kernel
theorem dX2_valueOf_312 : decode cX2_valueOf 312 = .ok (.iastore, 1) := by decide +kernel
theorem dX2_valueOf_313 : decode cX2_valueOf 313 = .ok (.goto 171, 3) := by decide +kernel
theorem dX2_valueOf_316 : decode cX2_valueOf 316 = .ok (.aload_n 0, 1) := by decide +kernel
theorem dX2_valueOf_317 : decode cX2_valueOf 317 = .ok (.getfield 24, 3) := by decide +kernel
theorem dX2_valueOf_320 : decode cX2_valueOf 320 = .ok (.iload_n 2, 1) := by decide +kernel
theorem dX2_valueOf_321 : decode cX2_valueOf 321 = .ok (.iconst 1, 1) := by decide +kernel
theorem dX2_valueOf_322 : decode cX2_valueOf 322 = .ok (.isub, 1) := by decide +kernel
theorem dX2_valueOf_323 : decode cX2_valueOf 323 = .ok (.iload 8, 2) := by decide +kernel
theorem dX2_valueOf_325 : decode cX2_valueOf 325 = .ok (.ifCond .ne 7, 3) := by decide +kernel
theorem dX2_valueOf_328 : decode cX2_valueOf 328 = .ok (.iconst 0, 1) := by decide +kernel
theorem dX2_valueOf_329 : decode cX2_valueOf 329 = .ok (.goto 8, 3) := by decide +kernel
theorem dX2_valueOf_332 : decode cX2_valueOf 332 = .ok (.iload 7, 2) := by decide +kernel
theorem dX2_valueOf_334 : decode cX2_valueOf 334 = .ok (.iload 8, 2) := by decide +kernel
theorem dX2_valueOf_336 : decode cX2_valueOf 336 = .ok (.idiv, 1) := by decide +kernel
theorem dX2_valueOf_337 : decode cX2_valueOf 337 = .ok (.iastore, 1) := by decide +kernel
theorem dX2_valueOf_338 : decode cX2_valueOf 338 = .ok (.goto 146, 3) := by decide +kernel
theorem dX2_valueOf_341 : decode cX2_valueOf 341 = .ok (.aload_n 0, 1) := by decide +kernel
theorem dX2_valueOf_342 : decode cX2_valueOf 342 = .ok (.getfield 24, 3) := by decide +kernel
theorem dX2_valueOf_345 : decode cX2_valueOf 345 = .ok (.iload_n 2, 1) := by decide +kernel
theorem dX2_valueOf_346 : decode cX2_valueOf 346 = .ok (.iconst 1, 1) := by decide +kernel
theorem dX2_valueOf_347 : decode cX2_valueOf 347 = .ok (.isub, 1) := by decide +kernel
theorem dX2_valueOf_348 : decode cX2_valueOf 348 = .ok (.iload 8, 2) := by decide +kernel
theorem dX2_valueOf_350 : decode cX2_valueOf 350 = .ok (.ifCond .ne 7, 3) := by decide +kernel
theorem dX2_valueOf_353 : decode cX2_valueOf 353 = .ok (.iconst 0, 1) := by decide +kernel
theorem dX2_valueOf_354 : decode cX2_valueOf 354 = .ok (.goto 8, 3) := by decide +kernel
theorem dX2_valueOf_357 : decode cX2_valueOf 357 = .ok (.iload 7, 2) := by decide +kernel
theorem dX2_valueOf_359 : decode cX2_valueOf 359 = .ok (.iload 8, 2) := by decide +kernel
theorem dX2_valueOf_361 : decode cX2_valueOf 361 = .ok (.irem, 1) := by decide +kernel
theorem dX2_valueOf_362 : decode cX2_valueOf 362 = .ok (.iastore, 1) := by decide +kernel
theorem dX2_valueOf_363 : decode cX2_valueOf 363 = .ok (.goto 121, 3) := by decide +kernel
theorem dX2_valueOf_366 : decode cX2_valueOf 366 = .ok (.aload_n 0, 1) := by decide +kernel
theorem dX2_valueOf_367 : decode cX2_valueOf 367 = .ok (.getfield 24, 3) := by decide +kernel
theorem dX2_valueOf_370 : decode cX2_valueOf 370 = .ok (.iload_n 2, 1) := by decide +kernel
theorem dX2_valueOf_371 : decode cX2_valueOf 371 = .ok (.iconst 1, 1) := by decide +kernel
theorem dX2_valueOf_372 : decode cX2_valueOf 372 = .ok (.isub, 1) := by decide +kernel
theorem dX2_valueOf_373 : decode cX2_valueOf 373 = .ok (.iload 7, 2) := by decide +kernel
theorem dX2_valueOf_375 : decode cX2_valueOf 375 = .ok (.iload 8, 2) := by decide +kernel
theorem dX2_valueOf_377 : decode cX2_valueOf 377 = .ok (.if_icmp .ge 7, 3) := by decide +kernel
theorem dX2_valueOf_380 : decode cX2_valueOf 380 = .ok (.iconst 1, 1) := by decide +kernel
theorem dX2_valueOf_381 : decode cX2_valueOf 381 = .ok (.goto 4, 3) := by decide +kernel
theorem dX2_valueOf_384 : decode cX2_valueOf 384 = .ok (.iconst 0, 1) := by decide +kernel
theorem dX2_valueOf_385 : decode cX2_valueOf 385 = .ok (.iastore, 1) := by decide +kernel
theorem dX2_valueOf_386 : decode cX2_valueOf 386 = .ok (.goto 98, 3) := by decide +kernel
theorem dX2_valueOf_389 : decode cX2_valueOf 389 = .ok (.aload_n 0, 1) := by decide +kernel
theorem dX2_valueOf_390 : decode cX2_valueOf 390 = .ok (.getfield 24, 3) := by decide +kernel
theorem dX2_valueOf_393 : decode cX2_valueOf 393 = .ok (.iload_n 2, 1) := by decide +kernel
theorem dX2_valueOf_394 : decode cX2_valueOf 394 = .ok (.iconst 1, 1) := by decide +kernel
theorem dX2_valueOf_395 : decode cX2_valueOf 395 = .ok (.isub, 1) := by decide +kernel
theorem dX2_valueOf_396 : decode cX2_valueOf 396 = .ok (.iload 7, 2) := by decide +kernel
theorem dX2_valueOf_398 : decode cX2_valueOf 398 = .ok (.iload 8, 2) := by decide +kernel
theorem dX2_valueOf_400 : decode cX2_valueOf 400 = .ok (.if_icmp .le 7, 3) := by decide +kernel
theorem dX2_valueOf_403 : decode cX2_valueOf 403 = .ok (.iconst 1, 1) := by decide +kernel
theorem dX2_valueOf_404 : decode cX2_valueOf 404 = .ok (.goto 4, 3) := by decide +kernel
theorem dX2_valueOf_407 : decode cX2_valueOf 407 = .ok (.iconst 0, 1) := by decide +kernel
theorem dX2_valueOf_408 : decode cX2_valueOf 408 = .ok (.iastore, 1) := by decide +kernel
theorem dX2_valueOf_409 : decode cX2_valueOf 409 = .ok (.goto 75, 3) := by decide +kernel
theorem dX2_valueOf_412 : decode cX2_valueOf 412 = .ok (.aload_n 0, 1) := by decide +kernel
theorem dX2_valueOf_413 : decode cX2_valueOf 413 = .ok (.getfield 24, 3) := by decide +kernel
theorem dX2_valueOf_416 : decode cX2_valueOf 416 = .ok (.iload_n 2, 1) := by decide +kernel
theorem dX2_valueOf_417 : decode cX2_valueOf 417 = .ok (.iconst 1, 1) := by decide +kernel
theorem dX2_valueOf_418 : decode cX2_valueOf 418 = .ok (.isub, 1) := by decide +kernel
theorem dX2_valueOf_419 : decode cX2_valueOf 419 = .ok (.iload 7, 2) := by decide +kernel
theorem dX2_valueOf_421 : decode cX2_valueOf 421 = .ok (.iload 8, 2) := by decide +kernel
theorem dX2_valueOf_423 : decode cX2_valueOf 423 = .ok (.if_icmp .ne 7, 3) := by decide +kernel
theorem dX2_valueOf_426 : decode cX2_valueOf 426 = .ok (.iconst 1, 1) := by decide +kernel
theorem dX2_valueOf_427 : decode cX2_valueOf 427 = .ok (.goto 4, 3) := by decide +kernel
theorem dX2_valueOf_430 : decode cX2_valueOf 430 = .ok (.iconst 0, 1) := by decide +kernel
theorem dX2_valueOf_431 : decode cX2_valueOf 431 = .ok (.iastore, 1) := by decide +kernel
theorem dX2_valueOf_432 : decode cX2_valueOf 432 = .ok (.goto 52, 3) := by decide +kernel
theorem dX2_valueOf_435 : decode cX2_valueOf 435 = .ok (.aload_n 0, 1) := by decide +kernel
theorem dX2_valueOf_436 : decode cX2_valueOf 436 = .ok (.getfield 24, 3) := by decide +kernel
theorem dX2_valueOf_439 : decode cX2_valueOf 439 = .ok (.iload_n 2, 1) := by decide +kernel
theorem dX2_valueOf_440 : decode cX2_valueOf 440 = .ok (.iconst 1, 1) := by decide +kernel
theorem dX2_valueOf_441 : decode cX2_valueOf 441 = .ok (.isub, 1) := by decide +kernel
theorem dX2_valueOf_442 : decode cX2_valueOf 442 = .ok (.iload 7, 2) := by decide +kernel
theorem dX2_valueOf_444 : decode cX2_valueOf 444 = .ok (.ifCond .eq 12, 3) := by decide +kernel
theorem dX2_valueOf_447 : decode cX2_valueOf 447 = .ok (.iload 8, 2) := by decide +kernel
theorem dX2_valueOf_449 : decode cX2_valueOf 449 = .ok (.ifCond .eq 7, 3) := by decide +kernel
theorem dX2_valueOf_452 : decode cX2_valueOf 452 = .ok (.iconst 1, 1) := by decide +kernel
theorem dX2_valueOf_453 : decode cX2_valueOf 453 = .ok (.goto 4, 3) := by decide +kernel
theorem dX2_valueOf_456 : decode cX2_valueOf 456 = .ok (.iconst 0, 1) := by decide +kernel
theorem dX2_valueOf_457 : decode cX2_valueOf 457 = .ok (.iastore, 1) := by decide +kernel
theorem dX2_valueOf_458 : decode cX2_valueOf 458 = .ok (.goto 26, 3) := by decide +kernel
theorem dX2_valueOf_461 : decode cX2_valueOf 461 = .ok (.aload_n 0, 1) := by decide +kernel
theorem dX2_valueOf_462 : decode cX2_valueOf 462 = .ok (.getfield 24, 3) := by decide +kernel
theorem dX2_valueOf_465 : decode cX2_valueOf 465 = .ok (.iload_n 2, 1) := by decide +kernel
theorem dX2_valueOf_466 : decode cX2_valueOf 466 = .ok (.iconst 1, 1) := by decide +kernel
theorem dX2_valueOf_467 : decode cX2_valueOf 467 = .ok (.isub, 1) := by decide +kernel
theorem dX2_valueOf_468 : decode cX2_valueOf 468 = .ok (.iload 7, 2) := by decide +kernel
theorem dX2_valueOf_470 : decode cX2_valueOf 470 = .ok (.ifCond .ne 8, 3) := by decide +kernel
theorem dX2_valueOf_473 : decode cX2_valueOf 473 = .ok (.iload 8, 2) := by decide +kernel
theorem dX2_valueOf_475 : decode cX2_valueOf 475 = .ok (.ifCond .eq 7, 3) := by decide +kernel
theorem dX2_valueOf_478 : decode cX2_valueOf 478 = .ok (.iconst 1, 1) := by decide +kernel
theorem dX2_valueOf_479 : decode cX2_valueOf 479 = .ok (.goto 4, 3) := by decide +kernel
theorem dX2_valueOf_482 : decode cX2_valueOf 482 = .ok (.iconst 0, 1) := by decide +kernel
theorem dX2_valueOf_483 : decode cX2_valueOf 483 = .ok (.iastore, 1) := by decide +kernel
theorem dX2_valueOf_484 : decode cX2_valueOf 484 = .ok (.iinc 3 1, 3) := by decide +kernel
theorem dX2_valueOf_487 : decode cX2_valueOf 487 = .ok (.goto (-478), 3) := by decide +kernel
theorem dX2_valueOf_490 : decode cX2_valueOf 490 = .ok (.iload_n 2, 1) := by decide +kernel
theorem dX2_valueOf_491 : decode cX2_valueOf 491 = .ok (.ifCond .le 14, 3) := by decide +kernel
theorem dX2_valueOf_494 : decode cX2_valueOf 494 = .ok (.aload_n 0, 1) := by decide +kernel
theorem dX2_valueOf_495 : decode cX2_valueOf 495 = .ok (.getfield 24, 3) := by decide +kernel
theorem dX2_valueOf_498 : decode cX2_valueOf 498 = .ok (.iload_n 2, 1) := by decide +kernel
theorem dX2_valueOf_499 : decode cX2_valueOf 499 = .ok (.iconst 1, 1) := by decide +kernel
theorem dX2_valueOf_500 : decode cX2_valueOf 500 = .ok (.isub, 1) := by decide +kernel
theorem dX2_valueOf_501 : decode cX2_valueOf 501 = .ok (.iaload, 1) := by decide +kernel
theorem dX2_valueOf_502 : decode cX2_valueOf 502 = .ok (.goto 4, 3) := by decide +kernel
theorem dX2_valueOf_505 : decode cX2_valueOf 505 = .ok (.iconst 0, 1) := by decide +kernel
theorem dX2_valueOf_506 : decode cX2_valueOf 506 = .ok (.ireturn, 1) := by decide +kernel
theorem dX0_bitingBorders_0 : decode cX0_bitingBorders 0 = .ok (.aload_n 1, 1) := by decide +kernel
theorem dX0_bitingBorders_1 : decode cX0_bitingBorders 1 = .ok (.getfield 15, 3) := by decide +kernel
theorem dX0_bitingBorders_4 : decode cX0_bitingBorders 4 = .ok (.bipush 39, 2) := by decide +kernel
theorem dX0_bitingBorders_6 : decode cX0_bitingBorders 6 = .ok (.iaload, 1) := by decide +kernel
theorem dX0_bitingBorders_7 : decode cX0_bitingBorders 7 = .ok (.iconst (-1), 1) := by decide +kernel
theorem dX0_bitingBorders_8 : decode cX0_bitingBorders 8 = .ok (.ixor, 1) := by decide +kernel
theorem dX0_bitingBorders_9 : decode cX0_bitingBorders 9 = .ok (.istore_n 3, 1) := by decide +kernel
theorem dX0_bitingBorders_10 : decode cX0_bitingBorders 10 = .ok (.iload_n 3, 1) := by decide +kernel
theorem dX0_bitingBorders_11 : decode cX0_bitingBorders 11 = .ok (.iload_n 2, 1) := by decide +kernel
theorem dX0_bitingBorders_12 : decode cX0_bitingBorders 12 = .ok (.ishr, 1) := by decide +kernel
theorem dX0_bitingBorders_13 : decode cX0_bitingBorders 13 = .ok (.iconst 1, 1) := by decide +kernel
theorem dX0_bitingBorders_14 : decode cX0_bitingBorders 14 = .ok (.iand, 1) := by decide +kernel
theorem dX0_bitingBorders_15 : decode cX0_bitingBorders 15 = .ok (.ifCond .ne 5, 3) := by decide +kernel
theorem dX0_bitingBorders_18 : decode cX0_bitingBorders 18 = .ok (.iconst 0, 1) := by decide +kernel
theorem dX0_bitingBorders_19 : decode cX0_bitingBorders 19 = .ok (.ireturn, 1) := by decide +kernel
theorem dX0_bitingBorders_20 : decode cX0_bitingBorders 20 = .ok (.iconst 0, 1) := by decide +kernel
theorem dX0_bitingBorders_21 : decode cX0_bitingBorders 21 = .ok (.istore 4, 2) := by decide +kernel
theorem dX0_bitingBorders_23 : decode cX0_bitingBorders 23 = .ok (.iconst 0, 1) := by decide +kernel
theorem dX0_bitingBorders_24 : decode cX0_bitingBorders 24 = .ok (.istore 5, 2) := by decide +kernel
theorem dX0_bitingBorders_26 : decode cX0_bitingBorders 26 = .ok (.iload 5, 2) := by decide +kernel
theorem dX0_bitingBorders_28 : decode cX0_bitingBorders 28 = .ok (.aload_n 0, 1) := by decide +kernel
theorem dX0_bitingBorders_29 : decode cX0_bitingBorders 29 = .ok (.getfield 9, 3) := by decide +kernel
theorem dX0_bitingBorders_32 : decode cX0_bitingBorders 32 = .ok (.getfield 50, 3) := by decide +kernel
theorem dX0_bitingBorders_35 : decode cX0_bitingBorders 35 = .ok (.if_icmp .ge 65, 3) := by decide +kernel
theorem dX0_bitingBorders_38 : decode cX0_bitingBorders 38 = .ok (.aload_n 1, 1) := by decide +kernel
theorem dX0_bitingBorders_39 : decode cX0_bitingBorders 39 = .ok (.getfield 15, 3) := by decide +kernel
theorem dX0_bitingBorders_42 : decode cX0_bitingBorders 42 = .ok (.bipush 35, 2) := by decide +kernel
theorem dX0_bitingBorders_44 : decode cX0_bitingBorders 44 = .ok (.iload 5, 2) := by decide +kernel
theorem dX0_bitingBorders_46 : decode cX0_bitingBorders 46 = .ok (.iadd, 1) := by decide +kernel
theorem dX0_bitingBorders_47 : decode cX0_bitingBorders 47 = .ok (.iaload, 1) := by decide +kernel
theorem dX0_bitingBorders_48 : decode cX0_bitingBorders 48 = .ok (.aload_n 1, 1) := by decide +kernel
theorem dX0_bitingBorders_49 : decode cX0_bitingBorders 49 = .ok (.getfield 15, 3) := by decide +kernel
theorem dX0_bitingBorders_52 : decode cX0_bitingBorders 52 = .ok (.bipush 35, 2) := by decide +kernel
theorem dX0_bitingBorders_54 : decode cX0_bitingBorders 54 = .ok (.iload_n 2, 1) := by decide +kernel
theorem dX0_bitingBorders_55 : decode cX0_bitingBorders 55 = .ok (.iadd, 1) := by decide +kernel
theorem dX0_bitingBorders_56 : decode cX0_bitingBorders 56 = .ok (.iaload, 1) := by decide +kernel
theorem dX0_bitingBorders_57 : decode cX0_bitingBorders 57 = .ok (.if_icmp .ne 7, 3) := by decide +kernel
theorem dX0_bitingBorders_60 : decode cX0_bitingBorders 60 = .ok (.iconst 1, 1) := by decide +kernel
theorem dX0_bitingBorders_61 : decode cX0_bitingBorders 61 = .ok (.goto 4, 3) := by decide +kernel
theorem dX0_bitingBorders_64 : decode cX0_bitingBorders 64 = .ok (.iconst 0, 1) := by decide +kernel
theorem dX0_bitingBorders_65 : decode cX0_bitingBorders 65 = .ok (.istore 6, 2) := by decide +kernel
theorem dX0_bitingBorders_67 : decode cX0_bitingBorders 67 = .ok (.iload 6, 2) := by decide +kernel
theorem dX0_bitingBorders_69 : decode cX0_bitingBorders 69 = .ok (.ifCond .eq 25, 3) := by decide +kernel
theorem dX0_bitingBorders_72 : decode cX0_bitingBorders 72 = .ok (.aload_n 0, 1) := by decide +kernel
theorem dX0_bitingBorders_73 : decode cX0_bitingBorders 73 = .ok (.getfield 9, 3) := by decide +kernel
theorem dX0_bitingBorders_76 : decode cX0_bitingBorders 76 = .ok (.getfield 54, 3) := by decide +kernel
theorem dX0_bitingBorders_79 : decode cX0_bitingBorders 79 = .ok (.iload_n 2, 1) := by decide +kernel
theorem dX0_bitingBorders_80 : decode cX0_bitingBorders 80 = .ok (.iaload, 1) := by decide +kernel
theorem dX0_bitingBorders_81 : decode cX0_bitingBorders 81 = .ok (.iload_n 3, 1) := by decide +kernel
theorem dX0_bitingBorders_82 : decode cX0_bitingBorders 82 = .ok (.iand, 1) := by decide +kernel
theorem dX0_bitingBorders_83 : decode cX0_bitingBorders 83 = .ok (.iconst 1, 1) := by decide +kernel
theorem dX0_bitingBorders_84 : decode cX0_bitingBorders 84 = .ok (.iload 5, 2) := by decide +kernel
theorem dX0_bitingBorders_86 : decode cX0_bitingBorders 86 = .ok (.ishl, 1) := by decide +kernel
theorem dX0_bitingBorders_87 : decode cX0_bitingBorders 87 = .ok (.iand, 1) := by decide +kernel
theorem dX0_bitingBorders_88 : decode cX0_bitingBorders 88 = .ok (.ifCond .eq 6, 3) := by decide +kernel
theorem dX0_bitingBorders_91 : decode cX0_bitingBorders 91 = .ok (.iinc 4 1, 3) := by decide +kernel
theorem dX0_bitingBorders_94 : decode cX0_bitingBorders 94 = .ok (.iinc 5 1, 3) := by decide +kernel
theorem dX0_bitingBorders_97 : decode cX0_bitingBorders 97 = .ok (.goto (-71), 3) := by decide +kernel
theorem dX0_bitingBorders_100 : decode cX0_bitingBorders 100 = .ok (.iload 4, 2) := by decide +kernel
theorem dX0_bitingBorders_102 : decode cX0_bitingBorders 102 = .ok (.ireturn, 1) := by decide +kernel
theorem dX0_hungerOf_0 : decode cX0_hungerOf 0 = .ok (.aload_n 1, 1) := by decide +kernel
theorem dX0_hungerOf_1 : decode cX0_hungerOf 1 = .ok (.getfield 15, 3) := by decide +kernel
theorem dX0_hungerOf_4 : decode cX0_hungerOf 4 = .ok (.bipush 39, 2) := by decide +kernel
theorem dX0_hungerOf_6 : decode cX0_hungerOf 6 = .ok (.iaload, 1) := by decide +kernel
theorem dX0_hungerOf_7 : decode cX0_hungerOf 7 = .ok (.iload_n 2, 1) := by decide +kernel
theorem dX0_hungerOf_8 : decode cX0_hungerOf 8 = .ok (.ishr, 1) := by decide +kernel
theorem dX0_hungerOf_9 : decode cX0_hungerOf 9 = .ok (.iconst 1, 1) := by decide +kernel
theorem dX0_hungerOf_10 : decode cX0_hungerOf 10 = .ok (.iand, 1) := by decide +kernel
theorem dX0_hungerOf_11 : decode cX0_hungerOf 11 = .ok (.ifCond .eq 5, 3) := by decide +kernel
theorem dX0_hungerOf_14 : decode cX0_hungerOf 14 = .ok (.iconst 0, 1) := by decide +kernel
theorem dX0_hungerOf_15 : decode cX0_hungerOf 15 = .ok (.ireturn, 1) := by decide +kernel
theorem dX0_hungerOf_16 : decode cX0_hungerOf 16 = .ok (.aload_n 0, 1) := by decide +kernel
theorem dX0_hungerOf_17 : decode cX0_hungerOf 17 = .ok (.aload_n 1, 1) := by decide +kernel
theorem dX0_hungerOf_18 : decode cX0_hungerOf 18 = .ok (.iload_n 2, 1) := by decide +kernel
theorem dX0_hungerOf_19 : decode cX0_hungerOf 19 = .ok (.iconst 0, 1) := by decide +kernel
theorem dX0_hungerOf_20 : decode cX0_hungerOf 20 = .ok (.iconst 0, 1) := by decide +kernel
theorem dX0_hungerOf_21 : decode cX0_hungerOf 21 = .ok (.iconst 0, 1) := by decide +kernel
theorem dX0_hungerOf_22 : decode cX0_hungerOf 22 = .ok (.invokevirtual 21, 3) := by decide +kernel
theorem dX0_hungerOf_25 : decode cX0_hungerOf 25 = .ok (.bipush 99, 2) := by decide +kernel
theorem dX0_hungerOf_27 : decode cX0_hungerOf 27 = .ok (.iconst 0, 1) := by decide +kernel
theorem dX0_hungerOf_28 : decode cX0_hungerOf 28 = .ok (.aload_n 0, 1) := by decide +kernel
theorem dX0_hungerOf_29 : decode cX0_hungerOf 29 = .ok (.getfield 9, 3) := by decide +kernel
theorem dX0_hungerOf_32 : decode cX0_hungerOf 32 = .ok (.getfield 25, 3) := by decide +kernel
theorem dX0_hungerOf_35 : decode cX0_hungerOf 35 = .ok (.iload_n 2, 1) := by decide +kernel
theorem dX0_hungerOf_36 : decode cX0_hungerOf 36 = .ok (.invokevirtual 31, 3) := by decide +kernel
theorem dX0_hungerOf_39 : decode cX0_hungerOf 39 = .ok (.invokestatic 37, 3) := by decide +kernel
theorem dX0_hungerOf_42 : decode cX0_hungerOf 42 = .ok (.invokestatic 43, 3) := by decide +kernel
theorem dX0_hungerOf_45 : decode cX0_hungerOf 45 = .ok (.istore_n 3, 1) := by decide +kernel
theorem dX0_hungerOf_46 : decode cX0_hungerOf 46 = .ok (.bipush 99, 2) := by decide +kernel
theorem dX0_hungerOf_48 : decode cX0_hungerOf 48 = .ok (.iload_n 3, 1) := by decide +kernel
theorem dX0_hungerOf_49 : decode cX0_hungerOf 49 = .ok (.iconst 2, 1) := by decide +kernel
theorem dX0_hungerOf_50 : decode cX0_hungerOf 50 = .ok (.aload_n 0, 1) := by decide +kernel
theorem dX0_hungerOf_51 : decode cX0_hungerOf 51 = .ok (.aload_n 1, 1) := by decide +kernel
theorem dX0_hungerOf_52 : decode cX0_hungerOf 52 = .ok (.iload_n 2, 1) := by decide +kernel
theorem dX0_hungerOf_53 : decode cX0_hungerOf 53 = .ok (.invokevirtual 46, 3) := by decide +kernel
theorem dX0_hungerOf_56 : decode cX0_hungerOf 56 = .ok (.imul, 1) := by decide +kernel
theorem dX0_hungerOf_57 : decode cX0_hungerOf 57 = .ok (.iadd, 1) := by decide +kernel
theorem dX0_hungerOf_58 : decode cX0_hungerOf 58 = .ok (.invokestatic 43, 3) := by decide +kernel
theorem dX0_hungerOf_61 : decode cX0_hungerOf 61 = .ok (.ireturn, 1) := by decide +kernel
theorem dX0_givenTo_0 : decode cX0_givenTo 0 = .ok (.iconst 0, 1) := by decide +kernel
theorem dX0_givenTo_1 : decode cX0_givenTo 1 = .ok (.istore_n 3, 1) := by decide +kernel
theorem dX0_givenTo_2 : decode cX0_givenTo 2 = .ok (.iconst 0, 1) := by decide +kernel
theorem dX0_givenTo_3 : decode cX0_givenTo 3 = .ok (.istore 4, 2) := by decide +kernel
theorem dX0_givenTo_5 : decode cX0_givenTo 5 = .ok (.iload 4, 2) := by decide +kernel
theorem dX0_givenTo_7 : decode cX0_givenTo 7 = .ok (.aload_n 0, 1) := by decide +kernel
theorem dX0_givenTo_8 : decode cX0_givenTo 8 = .ok (.getfield 9, 3) := by decide +kernel
theorem dX0_givenTo_11 : decode cX0_givenTo 11 = .ok (.getfield 57, 3) := by decide +kernel
theorem dX0_givenTo_14 : decode cX0_givenTo 14 = .ok (.if_icmp .ge 40, 3) := by decide +kernel
theorem dX0_givenTo_17 : decode cX0_givenTo 17 = .ok (.iload_n 2, 1) := by decide +kernel
theorem dX0_givenTo_18 : decode cX0_givenTo 18 = .ok (.iconst 3, 1) := by decide +kernel
theorem dX0_givenTo_19 : decode cX0_givenTo 19 = .ok (.imul, 1) := by decide +kernel
theorem dX0_givenTo_20 : decode cX0_givenTo 20 = .ok (.iload 4, 2) := by decide +kernel
theorem dX0_givenTo_22 : decode cX0_givenTo 22 = .ok (.iadd, 1) := by decide +kernel
theorem dX0_givenTo_23 : decode cX0_givenTo 23 = .ok (.istore 5, 2) := by decide +kernel
theorem dX0_givenTo_25 : decode cX0_givenTo 25 = .ok (.iload_n 3, 1) := by decide +kernel
theorem dX0_givenTo_26 : decode cX0_givenTo 26 = .ok (.aload_n 1, 1) := by decide +kernel
theorem dX0_givenTo_27 : decode cX0_givenTo 27 = .ok (.getfield 15, 3) := by decide +kernel
theorem dX0_givenTo_30 : decode cX0_givenTo 30 = .ok (.iconst 3, 1) := by decide +kernel
theorem dX0_givenTo_31 : decode cX0_givenTo 31 = .ok (.iload 5, 2) := by decide +kernel
theorem dX0_givenTo_33 : decode cX0_givenTo 33 = .ok (.iadd, 1) := by decide +kernel
theorem dX0_givenTo_34 : decode cX0_givenTo 34 = .ok (.iaload, 1) := by decide +kernel
theorem dX0_givenTo_35 : decode cX0_givenTo 35 = .ok (.aload_n 0, 1) := by decide +kernel
theorem dX0_givenTo_36 : decode cX0_givenTo 36 = .ok (.getfield 9, 3) := by decide +kernel
theorem dX0_givenTo_39 : decode cX0_givenTo 39 = .ok (.getfield 60, 3) := by decide +kernel
theorem dX0_givenTo_42 : decode cX0_givenTo 42 = .ok (.iload 5, 2) := by decide +kernel
theorem dX0_givenTo_44 : decode cX0_givenTo 44 = .ok (.iaload, 1) := by decide +kernel
theorem dX0_givenTo_45 : decode cX0_givenTo 45 = .ok (.imul, 1) := by decide +kernel
theorem dX0_givenTo_46 : decode cX0_givenTo 46 = .ok (.iadd, 1) := by decide +kernel
theorem dX0_givenTo_47 : decode cX0_givenTo 47 = .ok (.istore_n 3, 1) := by decide +kernel
theorem dX0_givenTo_48 : decode cX0_givenTo 48 = .ok (.iinc 4 1, 3) := by decide +kernel
theorem dX0_givenTo_51 : decode cX0_givenTo 51 = .ok (.goto (-46), 3) := by decide +kernel
theorem dX0_givenTo_54 : decode cX0_givenTo 54 = .ok (.iload_n 3, 1) := by decide +kernel
theorem dX0_givenTo_55 : decode cX0_givenTo 55 = .ok (.ireturn, 1) := by decide +kernel
theorem dX0_tasteOf_0 : decode cX0_tasteOf 0 = .ok (.aload_n 0, 1) := by decide +kernel
theorem dX0_tasteOf_1 : decode cX0_tasteOf 1 = .ok (.getfield 9, 3) := by decide +kernel
theorem dX0_tasteOf_4 : decode cX0_tasteOf 4 = .ok (.getfield 63, 3) := by decide +kernel
theorem dX0_tasteOf_7 : decode cX0_tasteOf 7 = .ok (.ifCond .ne 13, 3) := by decide +kernel
theorem dX0_tasteOf_10 : decode cX0_tasteOf 10 = .ok (.aload_n 1, 1) := by decide +kernel
theorem dX0_tasteOf_11 : decode cX0_tasteOf 11 = .ok (.getfield 15, 3) := by decide +kernel
theorem dX0_tasteOf_14 : decode cX0_tasteOf 14 = .ok (.bipush 15, 2) := by decide +kernel
theorem dX0_tasteOf_16 : decode cX0_tasteOf 16 = .ok (.iload_n 2, 1) := by decide +kernel
theorem dX0_tasteOf_17 : decode cX0_tasteOf 17 = .ok (.iadd, 1) := by decide +kernel
theorem dX0_tasteOf_18 : decode cX0_tasteOf 18 = .ok (.iaload, 1) := by decide +kernel
theorem dX0_tasteOf_19 : decode cX0_tasteOf 19 = .ok (.ireturn, 1) := by decide +kernel
theorem dX0_tasteOf_20 : decode cX0_tasteOf 20 = .ok (.aload_n 0, 1) := by decide +kernel
theorem dX0_tasteOf_21 : decode cX0_tasteOf 21 = .ok (.aload_n 1, 1) := by decide +kernel
theorem dX0_tasteOf_22 : decode cX0_tasteOf 22 = .ok (.iload_n 3, 1) := by decide +kernel
theorem dX0_tasteOf_23 : decode cX0_tasteOf 23 = .ok (.aload_n 1, 1) := by decide +kernel
theorem dX0_tasteOf_24 : decode cX0_tasteOf 24 = .ok (.getfield 15, 3) := by decide +kernel
theorem dX0_tasteOf_27 : decode cX0_tasteOf 27 = .ok (.bipush 15, 2) := by decide +kernel
theorem dX0_tasteOf_29 : decode cX0_tasteOf 29 = .ok (.iload_n 2, 1) := by decide +kernel
theorem dX0_tasteOf_30 : decode cX0_tasteOf 30 = .ok (.iadd, 1) := by decide +kernel
theorem dX0_tasteOf_31 : decode cX0_tasteOf 31 = .ok (.iaload, 1) := by decide +kernel
theorem dX0_tasteOf_32 : decode cX0_tasteOf 32 = .ok (.aload_n 0, 1) := by decide +kernel
theorem dX0_tasteOf_33 : decode cX0_tasteOf 33 = .ok (.getfield 9, 3) := by decide +kernel
theorem dX0_tasteOf_36 : decode cX0_tasteOf 36 = .ok (.getfield 67, 3) := by decide +kernel
theorem dX0_tasteOf_39 : decode cX0_tasteOf 39 = .ok (.iload_n 2, 1) := by decide +kernel
theorem dX0_tasteOf_40 : decode cX0_tasteOf 40 = .ok (.iaload, 1) := by decide +kernel
theorem dX0_tasteOf_41 : decode cX0_tasteOf 41 = .ok (.aload_n 1, 1) := by decide +kernel
theorem dX0_tasteOf_42 : decode cX0_tasteOf 42 = .ok (.getfield 15, 3) := by decide +kernel
theorem dX0_tasteOf_45 : decode cX0_tasteOf 45 = .ok (.bipush 23, 2) := by decide +kernel
theorem dX0_tasteOf_47 : decode cX0_tasteOf 47 = .ok (.iload_n 2, 1) := by decide +kernel
theorem dX0_tasteOf_48 : decode cX0_tasteOf 48 = .ok (.iadd, 1) := by decide +kernel
theorem dX0_tasteOf_49 : decode cX0_tasteOf 49 = .ok (.iaload, 1) := by decide +kernel
theorem dX0_tasteOf_50 : decode cX0_tasteOf 50 = .ok (.invokevirtual 21, 3) := by decide +kernel
theorem dX0_tasteOf_53 : decode cX0_tasteOf 53 = .ok (.aload_n 0, 1) := by decide +kernel
theorem dX0_tasteOf_54 : decode cX0_tasteOf 54 = .ok (.getfield 9, 3) := by decide +kernel
theorem dX0_tasteOf_57 : decode cX0_tasteOf 57 = .ok (.getfield 25, 3) := by decide +kernel
theorem dX0_tasteOf_60 : decode cX0_tasteOf 60 = .ok (.iconst 4, 1) := by decide +kernel
theorem dX0_tasteOf_61 : decode cX0_tasteOf 61 = .ok (.invokevirtual 31, 3) := by decide +kernel
theorem dX0_tasteOf_64 : decode cX0_tasteOf 64 = .ok (.ireturn, 1) := by decide +kernel
theorem dX0_tastiest_0 : decode cX0_tastiest 0 = .ok (.iconst (-1), 1) := by decide +kernel
theorem dX0_tastiest_1 : decode cX0_tastiest 1 = .ok (.istore_n 3, 1) := by decide +kernel
theorem dX0_tastiest_2 : decode cX0_tastiest 2 = .ok (.iconst 0, 1) := by decide +kernel
theorem dX0_tastiest_3 : decode cX0_tastiest 3 = .ok (.istore 4, 2) := by decide +kernel
theorem dX0_tastiest_5 : decode cX0_tastiest 5 = .ok (.iconst 0, 1) := by decide +kernel
theorem dX0_tastiest_6 : decode cX0_tastiest 6 = .ok (.istore 5, 2) := by decide +kernel
theorem dX0_tastiest_8 : decode cX0_tastiest 8 = .ok (.iload 5, 2) := by decide +kernel
theorem dX0_tastiest_10 : decode cX0_tastiest 10 = .ok (.aload_n 0, 1) := by decide +kernel
theorem dX0_tastiest_11 : decode cX0_tastiest 11 = .ok (.getfield 9, 3) := by decide +kernel
theorem dX0_tastiest_14 : decode cX0_tastiest 14 = .ok (.getfield 96, 3) := by decide +kernel
theorem dX0_tastiest_17 : decode cX0_tastiest 17 = .ok (.if_icmp .ge 71, 3) := by decide +kernel
theorem dX0_tastiest_20 : decode cX0_tastiest 20 = .ok (.aload_n 0, 1) := by decide +kernel
theorem dX0_tastiest_21 : decode cX0_tastiest 21 = .ok (.getfield 9, 3) := by decide +kernel
theorem dX0_tastiest_24 : decode cX0_tastiest 24 = .ok (.getfield 99, 3) := by decide +kernel
theorem dX0_tastiest_27 : decode cX0_tastiest 27 = .ok (.iload_n 2, 1) := by decide +kernel
theorem dX0_tastiest_28 : decode cX0_tastiest 28 = .ok (.iaload, 1) := by decide +kernel
theorem dX0_tastiest_29 : decode cX0_tastiest 29 = .ok (.iload 5, 2) := by decide +kernel
theorem dX0_tastiest_31 : decode cX0_tastiest 31 = .ok (.ishr, 1) := by decide +kernel
theorem dX0_tastiest_32 : decode cX0_tastiest 32 = .ok (.iconst 1, 1) := by decide +kernel
theorem dX0_tastiest_33 : decode cX0_tastiest 33 = .ok (.iand, 1) := by decide +kernel
theorem dX0_tastiest_34 : decode cX0_tastiest 34 = .ok (.ifCond .eq 48, 3) := by decide +kernel
theorem dX0_tastiest_37 : decode cX0_tastiest 37 = .ok (.aload_n 1, 1) := by decide +kernel
theorem dX0_tastiest_38 : decode cX0_tastiest 38 = .ok (.getfield 15, 3) := by decide +kernel
theorem dX0_tastiest_41 : decode cX0_tastiest 41 = .ok (.bipush 15, 2) := by decide +kernel
theorem dX0_tastiest_43 : decode cX0_tastiest 43 = .ok (.iload 5, 2) := by decide +kernel
theorem dX0_tastiest_45 : decode cX0_tastiest 45 = .ok (.iadd, 1) := by decide +kernel
theorem dX0_tastiest_46 : decode cX0_tastiest 46 = .ok (.iaload, 1) := by decide +kernel
theorem dX0_tastiest_47 : decode cX0_tastiest 47 = .ok (.ifCond .gt 6, 3) := by decide +kernel
theorem dX0_tastiest_50 : decode cX0_tastiest 50 = .ok (.goto 32, 3) := by decide +kernel
theorem dX0_tastiest_53 : decode cX0_tastiest 53 = .ok (.aload_n 0, 1) := by decide +kernel
theorem dX0_tastiest_54 : decode cX0_tastiest 54 = .ok (.aload_n 1, 1) := by decide +kernel
theorem dX0_tastiest_55 : decode cX0_tastiest 55 = .ok (.iload 5, 2) := by decide +kernel
theorem dX0_tastiest_57 : decode cX0_tastiest 57 = .ok (.iload_n 2, 1) := by decide +kernel
theorem dX0_tastiest_58 : decode cX0_tastiest 58 = .ok (.invokevirtual 102, 3) := by decide +kernel
theorem dX0_tastiest_61 : decode cX0_tastiest 61 = .ok (.istore 6, 2) := by decide +kernel
theorem dX0_tastiest_63 : decode cX0_tastiest 63 = .ok (.iload_n 3, 1) := by decide +kernel
theorem dX0_tastiest_64 : decode cX0_tastiest 64 = .ok (.iconst (-1), 1) := by decide +kernel
theorem dX0_tastiest_65 : decode cX0_tastiest 65 = .ok (.if_icmp .eq 10, 3) := by decide +kernel
theorem dX0_tastiest_68 : decode cX0_tastiest 68 = .ok (.iload 6, 2) := by decide +kernel
theorem dX0_tastiest_70 : decode cX0_tastiest 70 = .ok (.iload 4, 2) := by decide +kernel
theorem dX0_tastiest_72 : decode cX0_tastiest 72 = .ok (.if_icmp .le 10, 3) := by decide +kernel
theorem dX0_tastiest_75 : decode cX0_tastiest 75 = .ok (.iload 5, 2) := by decide +kernel
theorem dX0_tastiest_77 : decode cX0_tastiest 77 = .ok (.istore_n 3, 1) := by decide +kernel
theorem dX0_tastiest_78 : decode cX0_tastiest 78 = .ok (.iload 6, 2) := by decide +kernel
theorem dX0_tastiest_80 : decode cX0_tastiest 80 = .ok (.istore 4, 2) := by decide +kernel
theorem dX0_tastiest_82 : decode cX0_tastiest 82 = .ok (.iinc 5 1, 3) := by decide +kernel
theorem dX0_tastiest_85 : decode cX0_tastiest 85 = .ok (.goto (-77), 3) := by decide +kernel
theorem dX0_tastiest_88 : decode cX0_tastiest 88 = .ok (.iload_n 3, 1) := by decide +kernel
theorem dX0_tastiest_89 : decode cX0_tastiest 89 = .ok (.ireturn, 1) := by decide +kernel
theorem dX0_smallestOn_0 : decode cX0_smallestOn 0 = .ok (.iconst (-1), 1) := by decide +kernel
theorem dX0_smallestOn_1 : decode cX0_smallestOn 1 = .ok (.istore_n 3, 1) := by decide +kernel
theorem dX0_smallestOn_2 : decode cX0_smallestOn 2 = .ok (.iconst 0, 1) := by decide +kernel
theorem dX0_smallestOn_3 : decode cX0_smallestOn 3 = .ok (.istore 4, 2) := by decide +kernel
theorem dX0_smallestOn_5 : decode cX0_smallestOn 5 = .ok (.iload 4, 2) := by decide +kernel
theorem dX0_smallestOn_7 : decode cX0_smallestOn 7 = .ok (.aload_n 0, 1) := by decide +kernel
theorem dX0_smallestOn_8 : decode cX0_smallestOn 8 = .ok (.getfield 9, 3) := by decide +kernel
theorem dX0_smallestOn_11 : decode cX0_smallestOn 11 = .ok (.getfield 96, 3) := by decide +kernel
theorem dX0_smallestOn_14 : decode cX0_smallestOn 14 = .ok (.if_icmp .ge 68, 3) := by decide +kernel
theorem dX0_smallestOn_17 : decode cX0_smallestOn 17 = .ok (.aload_n 0, 1) := by decide +kernel
theorem dX0_smallestOn_18 : decode cX0_smallestOn 18 = .ok (.getfield 9, 3) := by decide +kernel
theorem dX0_smallestOn_21 : decode cX0_smallestOn 21 = .ok (.getfield 99, 3) := by decide +kernel
theorem dX0_smallestOn_24 : decode cX0_smallestOn 24 = .ok (.iload_n 2, 1) := by decide +kernel
theorem dX0_smallestOn_25 : decode cX0_smallestOn 25 = .ok (.iaload, 1) := by decide +kernel
theorem dX0_smallestOn_26 : decode cX0_smallestOn 26 = .ok (.iload 4, 2) := by decide +kernel
theorem dX0_smallestOn_28 : decode cX0_smallestOn 28 = .ok (.ishr, 1) := by decide +kernel
theorem dX0_smallestOn_29 : decode cX0_smallestOn 29 = .ok (.iconst 1, 1) := by decide +kernel
theorem dX0_smallestOn_30 : decode cX0_smallestOn 30 = .ok (.iand, 1) := by decide +kernel
theorem dX0_smallestOn_31 : decode cX0_smallestOn 31 = .ok (.ifCond .eq 7, 3) := by decide +kernel
theorem dX0_smallestOn_34 : decode cX0_smallestOn 34 = .ok (.iconst 1, 1) := by decide +kernel
theorem dX0_smallestOn_35 : decode cX0_smallestOn 35 = .ok (.goto 4, 3) := by decide +kernel
theorem dX0_smallestOn_38 : decode cX0_smallestOn 38 = .ok (.iconst 0, 1) := by decide +kernel
theorem dX0_smallestOn_39 : decode cX0_smallestOn 39 = .ok (.istore 5, 2) := by decide +kernel
theorem dX0_smallestOn_41 : decode cX0_smallestOn 41 = .ok (.iload 5, 2) := by decide +kernel
theorem dX0_smallestOn_43 : decode cX0_smallestOn 43 = .ok (.ifCond .eq 33, 3) := by decide +kernel
theorem dX0_smallestOn_46 : decode cX0_smallestOn 46 = .ok (.iload_n 3, 1) := by decide +kernel
theorem dX0_smallestOn_47 : decode cX0_smallestOn 47 = .ok (.iconst (-1), 1) := by decide +kernel
theorem dX0_smallestOn_48 : decode cX0_smallestOn 48 = .ok (.if_icmp .eq 25, 3) := by decide +kernel
theorem dX0_smallestOn_51 : decode cX0_smallestOn 51 = .ok (.aload_n 1, 1) := by decide +kernel
theorem dX0_smallestOn_52 : decode cX0_smallestOn 52 = .ok (.getfield 15, 3) := by decide +kernel
theorem dX0_smallestOn_55 : decode cX0_smallestOn 55 = .ok (.bipush 15, 2) := by decide +kernel
theorem dX0_smallestOn_57 : decode cX0_smallestOn 57 = .ok (.iload 4, 2) := by decide +kernel
theorem dX0_smallestOn_59 : decode cX0_smallestOn 59 = .ok (.iadd, 1) := by decide +kernel
theorem dX0_smallestOn_60 : decode cX0_smallestOn 60 = .ok (.iaload, 1) := by decide +kernel
theorem dX0_smallestOn_61 : decode cX0_smallestOn 61 = .ok (.aload_n 1, 1) := by decide +kernel
theorem dX0_smallestOn_62 : decode cX0_smallestOn 62 = .ok (.getfield 15, 3) := by decide +kernel
theorem dX0_smallestOn_65 : decode cX0_smallestOn 65 = .ok (.bipush 15, 2) := by decide +kernel
theorem dX0_smallestOn_67 : decode cX0_smallestOn 67 = .ok (.iload_n 3, 1) := by decide +kernel
theorem dX0_smallestOn_68 : decode cX0_smallestOn 68 = .ok (.iadd, 1) := by decide +kernel
theorem dX0_smallestOn_69 : decode cX0_smallestOn 69 = .ok (.iaload, 1) := by decide +kernel
theorem dX0_smallestOn_70 : decode cX0_smallestOn 70 = .ok (.if_icmp .ge 6, 3) := by decide +kernel
theorem dX0_smallestOn_73 : decode cX0_smallestOn 73 = .ok (.iload 4, 2) := by decide +kernel
theorem dX0_smallestOn_75 : decode cX0_smallestOn 75 = .ok (.istore_n 3, 1) := by decide +kernel
theorem dX0_smallestOn_76 : decode cX0_smallestOn 76 = .ok (.iinc 4 1, 3) := by decide +kernel
theorem dX0_smallestOn_79 : decode cX0_smallestOn 79 = .ok (.goto (-74), 3) := by decide +kernel
theorem dX0_smallestOn_82 : decode cX0_smallestOn 82 = .ok (.iload_n 3, 1) := by decide +kernel
theorem dX0_smallestOn_83 : decode cX0_smallestOn 83 = .ok (.ireturn, 1) := by decide +kernel
theorem dX0_eat_0 : decode cX0_eat 0 = .ok (.iload_n 3, 1) := by decide +kernel
theorem dX0_eat_1 : decode cX0_eat 1 = .ok (.aload_n 0, 1) := by decide +kernel
theorem dX0_eat_2 : decode cX0_eat 2 = .ok (.aload_n 1, 1) := by decide +kernel
theorem dX0_eat_3 : decode cX0_eat 3 = .ok (.iload_n 2, 1) := by decide +kernel
theorem dX0_eat_4 : decode cX0_eat 4 = .ok (.invokevirtual 87, 3) := by decide +kernel
theorem dX0_eat_7 : decode cX0_eat 7 = .ok (.isub, 1) := by decide +kernel
theorem dX0_eat_8 : decode cX0_eat 8 = .ok (.istore 4, 2) := by decide +kernel
theorem dX0_eat_10 : decode cX0_eat 10 = .ok (.iconst 0, 1) := by decide +kernel
theorem dX0_eat_11 : decode cX0_eat 11 = .ok (.istore 5, 2) := by decide +kernel
theorem dX0_eat_13 : decode cX0_eat 13 = .ok (.iload 5, 2) := by decide +kernel
theorem dX0_eat_15 : decode cX0_eat 15 = .ok (.bipush 8, 2) := by decide +kernel
theorem dX0_eat_17 : decode cX0_eat 17 = .ok (.if_icmp .ge 98, 3) := by decide +kernel
theorem dX0_eat_20 : decode cX0_eat 20 = .ok (.iload 4, 2) := by decide +kernel
theorem dX0_eat_22 : decode cX0_eat 22 = .ok (.ifCond .le 93, 3) := by decide +kernel
theorem dX0_eat_25 : decode cX0_eat 25 = .ok (.aload_n 0, 1) := by decide +kernel
theorem dX0_eat_26 : decode cX0_eat 26 = .ok (.aload_n 1, 1) := by decide +kernel
theorem dX0_eat_27 : decode cX0_eat 27 = .ok (.iload_n 2, 1) := by decide +kernel
theorem dX0_eat_28 : decode cX0_eat 28 = .ok (.invokevirtual 90, 3) := by decide +kernel
theorem dX0_eat_31 : decode cX0_eat 31 = .ok (.istore 6, 2) := by decide +kernel
theorem dX0_eat_33 : decode cX0_eat 33 = .ok (.iload 6, 2) := by decide +kernel
theorem dX0_eat_35 : decode cX0_eat 35 = .ok (.iconst (-1), 1) := by decide +kernel
theorem dX0_eat_36 : decode cX0_eat 36 = .ok (.if_icmp .ne 6, 3) := by decide +kernel
theorem dX0_eat_39 : decode cX0_eat 39 = .ok (.goto 76, 3) := by decide +kernel
theorem dX0_eat_42 : decode cX0_eat 42 = .ok (.iload 4, 2) := by decide +kernel
theorem dX0_eat_44 : decode cX0_eat 44 = .ok (.aload_n 1, 1) := by decide +kernel
theorem dX0_eat_45 : decode cX0_eat 45 = .ok (.getfield 15, 3) := by decide +kernel
theorem dX0_eat_48 : decode cX0_eat 48 = .ok (.bipush 15, 2) := by decide +kernel
theorem dX0_eat_50 : decode cX0_eat 50 = .ok (.iload 6, 2) := by decide +kernel
theorem dX0_eat_52 : decode cX0_eat 52 = .ok (.iadd, 1) := by decide +kernel
theorem dX0_eat_53 : decode cX0_eat 53 = .ok (.iaload, 1) := by decide +kernel
theorem dX0_eat_54 : decode cX0_eat 54 = .ok (.invokestatic 43, 3) := by decide +kernel
theorem dX0_eat_57 : decode cX0_eat 57 = .ok (.istore 7, 2) := by decide +kernel
theorem dX0_eat_59 : decode cX0_eat 59 = .ok (.aload_n 1, 1) := by decide +kernel
theorem dX0_eat_60 : decode cX0_eat 60 = .ok (.getfield 15, 3) := by decide +kernel
theorem dX0_eat_63 : decode cX0_eat 63 = .ok (.bipush 15, 2) := by decide +kernel
theorem dX0_eat_65 : decode cX0_eat 65 = .ok (.iload 6, 2) := by decide +kernel
theorem dX0_eat_67 : decode cX0_eat 67 = .ok (.iadd, 1) := by decide +kernel
theorem dX0_eat_68 : decode cX0_eat 68 = .ok (.dup2, 1) := by decide +kernel
theorem dX0_eat_69 : decode cX0_eat 69 = .ok (.iaload, 1) := by decide +kernel
theorem dX0_eat_70 : decode cX0_eat 70 = .ok (.iload 7, 2) := by decide +kernel
theorem dX0_eat_72 : decode cX0_eat 72 = .ok (.isub, 1) := by decide +kernel
theorem dX0_eat_73 : decode cX0_eat 73 = .ok (.iastore, 1) := by decide +kernel
theorem dX0_eat_74 : decode cX0_eat 74 = .ok (.aload_n 1, 1) := by decide +kernel
theorem dX0_eat_75 : decode cX0_eat 75 = .ok (.getfield 15, 3) := by decide +kernel
theorem dX0_eat_78 : decode cX0_eat 78 = .ok (.bipush 23, 2) := by decide +kernel
theorem dX0_eat_80 : decode cX0_eat 80 = .ok (.iload 6, 2) := by decide +kernel
theorem dX0_eat_82 : decode cX0_eat 82 = .ok (.iadd, 1) := by decide +kernel
theorem dX0_eat_83 : decode cX0_eat 83 = .ok (.dup2, 1) := by decide +kernel
theorem dX0_eat_84 : decode cX0_eat 84 = .ok (.iaload, 1) := by decide +kernel
theorem dX0_eat_85 : decode cX0_eat 85 = .ok (.iconst 1, 1) := by decide +kernel
theorem dX0_eat_86 : decode cX0_eat 86 = .ok (.iadd, 1) := by decide +kernel
theorem dX0_eat_87 : decode cX0_eat 87 = .ok (.iastore, 1) := by decide +kernel
theorem dX0_eat_88 : decode cX0_eat 88 = .ok (.aload_n 1, 1) := by decide +kernel
theorem dX0_eat_89 : decode cX0_eat 89 = .ok (.getfield 15, 3) := by decide +kernel
theorem dX0_eat_92 : decode cX0_eat 92 = .ok (.bipush 31, 2) := by decide +kernel
theorem dX0_eat_94 : decode cX0_eat 94 = .ok (.iload_n 2, 1) := by decide +kernel
theorem dX0_eat_95 : decode cX0_eat 95 = .ok (.iadd, 1) := by decide +kernel
theorem dX0_eat_96 : decode cX0_eat 96 = .ok (.dup2, 1) := by decide +kernel
theorem dX0_eat_97 : decode cX0_eat 97 = .ok (.iaload, 1) := by decide +kernel
theorem dX0_eat_98 : decode cX0_eat 98 = .ok (.iload 7, 2) := by decide +kernel
theorem dX0_eat_100 : decode cX0_eat 100 = .ok (.iadd, 1) := by decide +kernel
theorem dX0_eat_101 : decode cX0_eat 101 = .ok (.iastore, 1) := by decide +kernel
theorem dX0_eat_102 : decode cX0_eat 102 = .ok (.iload 4, 2) := by decide +kernel
theorem dX0_eat_104 : decode cX0_eat 104 = .ok (.iload 7, 2) := by decide +kernel
theorem dX0_eat_106 : decode cX0_eat 106 = .ok (.isub, 1) := by decide +kernel
theorem dX0_eat_107 : decode cX0_eat 107 = .ok (.istore 4, 2) := by decide +kernel
theorem dX0_eat_109 : decode cX0_eat 109 = .ok (.iinc 5 1, 3) := by decide +kernel
theorem dX0_eat_112 : decode cX0_eat 112 = .ok (.goto (-99), 3) := by decide +kernel
theorem dX0_eat_115 : decode cX0_eat 115 = .ok (.iload 4, 2) := by decide +kernel
theorem dX0_eat_117 : decode cX0_eat 117 = .ok (.ifCond .ge 12, 3) := by decide +kernel
theorem dX0_eat_120 : decode cX0_eat 120 = .ok (.aload_n 0, 1) := by decide +kernel
theorem dX0_eat_121 : decode cX0_eat 121 = .ok (.aload_n 1, 1) := by decide +kernel
theorem dX0_eat_122 : decode cX0_eat 122 = .ok (.iload_n 2, 1) := by decide +kernel
theorem dX0_eat_123 : decode cX0_eat 123 = .ok (.invokevirtual 93, 3) := by decide +kernel
theorem dX0_eat_126 : decode cX0_eat 126 = .ok (.goto 4, 3) := by decide +kernel
theorem dX0_eat_129 : decode cX0_eat 129 = .ok (.iconst (-1), 1) := by decide +kernel
theorem dX0_eat_130 : decode cX0_eat 130 = .ok (.istore 5, 2) := by decide +kernel
theorem dX0_eat_132 : decode cX0_eat 132 = .ok (.iload 5, 2) := by decide +kernel
theorem dX0_eat_134 : decode cX0_eat 134 = .ok (.iconst (-1), 1) := by decide +kernel
theorem dX0_eat_135 : decode cX0_eat 135 = .ok (.if_icmp .eq 35, 3) := by decide +kernel
theorem dX0_eat_138 : decode cX0_eat 138 = .ok (.aload_n 1, 1) := by decide +kernel
theorem dX0_eat_139 : decode cX0_eat 139 = .ok (.getfield 15, 3) := by decide +kernel
theorem dX0_eat_142 : decode cX0_eat 142 = .ok (.bipush 15, 2) := by decide +kernel
theorem dX0_eat_144 : decode cX0_eat 144 = .ok (.iload 5, 2) := by decide +kernel
theorem dX0_eat_146 : decode cX0_eat 146 = .ok (.iadd, 1) := by decide +kernel
theorem dX0_eat_147 : decode cX0_eat 147 = .ok (.iaload, 1) := by decide +kernel
theorem dX0_eat_148 : decode cX0_eat 148 = .ok (.iload 4, 2) := by decide +kernel
theorem dX0_eat_150 : decode cX0_eat 150 = .ok (.isub, 1) := by decide +kernel
theorem dX0_eat_151 : decode cX0_eat 151 = .ok (.istore 6, 2) := by decide +kernel
theorem dX0_eat_153 : decode cX0_eat 153 = .ok (.aload_n 1, 1) := by decide +kernel
theorem dX0_eat_154 : decode cX0_eat 154 = .ok (.getfield 15, 3) := by decide +kernel
theorem dX0_eat_157 : decode cX0_eat 157 = .ok (.bipush 15, 2) := by decide +kernel
theorem dX0_eat_159 : decode cX0_eat 159 = .ok (.iload 5, 2) := by decide +kernel
theorem dX0_eat_161 : decode cX0_eat 161 = .ok (.iadd, 1) := by decide +kernel
theorem dX0_eat_162 : decode cX0_eat 162 = .ok (.bipush 60, 2) := by decide +kernel
theorem dX0_eat_164 : decode cX0_eat 164 = .ok (.iload 6, 2) := by decide +kernel
theorem dX0_eat_166 : decode cX0_eat 166 = .ok (.invokestatic 43, 3) := by decide +kernel
theorem dX0_eat_169 : decode cX0_eat 169 = .ok (.iastore, 1) := by decide +kernel
theorem dX0_eat_170 : decode cX0_eat 170 = .ok (.return_, 1) := by decide +kernel
set_option maxRecDepth 100000 in
theorem m_X0_setInputs (l : Launch) (D : va_G) (cT : Nat → ClassId) (T : Nat → Option Nat) (q : Nat → Int) (hq : qok q) (a0 : Nat) (t0 : T a0 = some 4) (a1 : Nat) (t1 : T a1 = some 10) (y2 : Int32) (j2 : IV y2 0 3) (y3 : Int32) (j3 : IV y3 (-2147483648) 2147483647) (y4 : Int32) (j4 : IV y4 (-2147483648) 2147483647) (y5 : Int32) (j5 : IV y5 (-2147483648) 2147483647) : th_Met l D cT T (kd q) yX0_setInputs cX0_setInputs 7 none (rmk 0 0) [.ref a0, .ref a1, .int y2, .int y3, .int y4, .int y5] (th_R T none) [18] := by
  refine th_start (by decide) (Nat.le_of_ble_eq_true rfl) ?_
  intro p e s m below meth c ls S hK hH hr hlocks hnm hl
  have hx := S.1
  have hb := S.2.1
  have hl : lv_has ls 7 [(0, .ref a0), (1, .ref a1), (2, .int y2), (3, .int y3), (4, .int y4), (5, .int y5)] := hl
  have J0 : ∀ (H : Heap) (locs : List Loc) (ls : Array Slot), th_H D cT T (kd q) H → va_S (th_A T [18]) s.heap H locs → lv_has ls 7 [(0, .ref a0), (1, .ref a1), (2, .int y2), (3, .int y3), (4, .int y4), (5, .int y5)] → W p l e (rmk 0 0) s m [.ref a0, .ref a1, .int y2, .int y3, .int y4, .int y5].toArray below meth c H locs 0 0 (MQ below (th_Q D cT T (kd q) (th_R T none) [18]) [.ref a0, .ref a1, .int y2, .int y3, .int y4, .int y5].toArray s 0 0 (th_A T [18])) (F0 m 0 ls []) := by
    intro H locs ls hH hS hl
    refine lv_aload_n hx hb dX0_setInputs_0 rfl (lv_at hl 0 rfl) ?_
    refine th_get S hK hH inG0 t0 kd_4 rfl 0 (by decide) gm_369 rfl rfl dX0_setInputs_1 (fun v1 hv1 fv1 => ?_)
    obtain ⟨rf2, rfl, trf2⟩ := th_V.ref hv1
    refine th_get S hK hH inG4 trf2 kd_3 rfl 9 (by decide) gm_268 rfl rfl dX0_setInputs_4 (fun v3 hv3 fv3 => ?_)
    obtain ⟨rf4, rfl, trf4⟩ := th_V.ref hv3
    refine th_get S hK hH inG2 trf4 kd_9 rfl 3 (by decide) gm_198 rfl rfl dX0_setInputs_7 (fun v5 hv5 fv5 => ?_)
    obtain ⟨rf6, rfl, trf6⟩ := th_V.ref hv5
    refine lv_astore (lv' := [(6, .ref rf6), (0, .ref a0), (1, .ref a1), (2, .int y2), (3, .int y3), (4, .int y4), (5, .int y5)]) hx hb dX0_setInputs_10 hl (by decide) rfl (fun ls hl => ?_)
    refine lv_aload hx hb dX0_setInputs_12 (lv_at hl 0 rfl) ?_
    refine lv_iconst (v := 0) hx hb dX0_setInputs_14 (by decide) ?_
    refine lv_aload_n hx hb dX0_setInputs_15 rfl (lv_at hl 1 rfl) ?_
    refine th_getK S hK fv1 inG0 rfl (by decide) gm_369 rfl dX0_setInputs_16 ?_
    refine th_get S hK hH inG4 trf2 kd_3 rfl 3 (by decide) gm_243 rfl rfl dX0_setInputs_19 (fun v8 hv8 fv8 => ?_)
    obtain ⟨rf9, rfl, trf9⟩ := th_V.ref hv8
    refine lv_iload_n hx hb dX0_setInputs_22 rfl (lv_at hl 3 rfl) ?_
    refine th_iald S hK hH trf9 kd_23 (th_in (hi := 3) j2 (by decide)) dX0_setInputs_23 (fun v10 hv10 => ?_)
    obtain ⟨x11, rfl, ix11⟩ := th_V.int hv10
    refine th_iast S hK hH hS ⟨18, by decide, trf6⟩ trf6 kd_18 (th_in (hi := 0) (iv_c (by decide) : IV 0 0 0) (by decide)) (th_iv ix11) dX0_setInputs_24 (fun H locs hH hS hq1 => ?_)
    have f12 := fv1.kept (hq1 _ (th_ne t0 trf6 (by decide)))
    refine lv_aload hx hb dX0_setInputs_25 (lv_at hl 0 rfl) ?_
    refine lv_iconst (v := 1) hx hb dX0_setInputs_27 (by decide) ?_
    refine lv_aload_n hx hb dX0_setInputs_28 rfl (lv_at hl 2 rfl) ?_
    refine th_get S hK hH inG7 t1 kd_10 rfl 0 (by decide) gm_226 rfl rfl dX0_setInputs_29 (fun v13 hv13 fv13 => ?_)
    obtain ⟨rf14, rfl, trf14⟩ := th_V.ref hv13
    refine lv_bipush (v := 40) hx hb dX0_setInputs_32 (by decide) ?_
    refine th_iald S hK hH trf14 kd_29 (th_in (hi := 40) (iv_w (iv_c (by decide) : IV 40 40 40) (by decide)) (by decide)) dX0_setInputs_34 (fun v15 hv15 => ?_)
    obtain ⟨x16, rfl, ix16⟩ := th_V.int hv15
    refine th_iast S hK hH hS ⟨18, by decide, trf6⟩ trf6 kd_18 (th_in (hi := 1) (iv_w (iv_c (by decide) : IV 1 1 1) (by decide)) (by decide)) (th_iv ix16) dX0_setInputs_35 (fun H locs hH hS hq1 => ?_)
    have f17 := f12.kept (hq1 _ (th_ne t0 trf6 (by decide)))
    have f18 := fv13.kept (hq1 _ (th_ne t1 trf6 (by decide)))
    refine lv_aload hx hb dX0_setInputs_36 (lv_at hl 0 rfl) ?_
    refine lv_iconst (v := 2) hx hb dX0_setInputs_38 (by decide) ?_
    refine lv_aload_n hx hb dX0_setInputs_39 rfl (lv_at hl 2 rfl) ?_
    refine th_getK S hK f18 inG7 rfl (by decide) gm_226 rfl dX0_setInputs_40 ?_
    refine lv_bipush (v := 31) hx hb dX0_setInputs_43 (by decide) ?_
    refine lv_iload_n hx hb dX0_setInputs_45 rfl (lv_at hl 3 rfl) ?_
    refine lv_iadd hx hb dX0_setInputs_46 ?_
    refine lv_topi (fun x20 ex20 => ?_)
    have ix20 : IV x20 31 34 := by rw [ex20]; exact iv_add (iv_c (by decide) : IV 31 31 31) j2 (by decide)
    refine th_iald S hK hH trf14 kd_29 (th_in (hi := 34) (iv_w ix20 (by decide)) (by decide)) dX0_setInputs_47 (fun v21 hv21 => ?_)
    obtain ⟨x22, rfl, ix22⟩ := th_V.int hv21
    refine th_iast S hK hH hS ⟨18, by decide, trf6⟩ trf6 kd_18 (th_in (hi := 2) (iv_w (iv_c (by decide) : IV 2 2 2) (by decide)) (by decide)) (th_iv ix22) dX0_setInputs_48 (fun H locs hH hS hq1 => ?_)
    have f23 := f17.kept (hq1 _ (th_ne t0 trf6 (by decide)))
    have f24 := f18.kept (hq1 _ (th_ne t1 trf6 (by decide)))
    refine lv_aload hx hb dX0_setInputs_49 (lv_at hl 0 rfl) ?_
    refine lv_iconst (v := 3) hx hb dX0_setInputs_51 (by decide) ?_
    refine lv_aload_n hx hb dX0_setInputs_52 rfl (lv_at hl 2 rfl) ?_
    refine th_getK S hK f24 inG7 rfl (by decide) gm_226 rfl dX0_setInputs_53 ?_
    refine lv_bipush (v := 41) hx hb dX0_setInputs_56 (by decide) ?_
    refine th_iald S hK hH trf14 kd_29 (th_in (hi := 41) (iv_w (iv_c (by decide) : IV 41 41 41) (by decide)) (by decide)) dX0_setInputs_58 (fun v26 hv26 => ?_)
    obtain ⟨x27, rfl, ix27⟩ := th_V.int hv26
    refine th_iast S hK hH hS ⟨18, by decide, trf6⟩ trf6 kd_18 (th_in (hi := 3) (iv_w (iv_c (by decide) : IV 3 3 3) (by decide)) (by decide)) (th_iv ix27) dX0_setInputs_59 (fun H locs hH hS hq1 => ?_)
    have f28 := f23.kept (hq1 _ (th_ne t0 trf6 (by decide)))
    have f29 := f24.kept (hq1 _ (th_ne t1 trf6 (by decide)))
    refine lv_aload hx hb dX0_setInputs_60 (lv_at hl 0 rfl) ?_
    refine lv_iconst (v := 4) hx hb dX0_setInputs_62 (by decide) ?_
    refine lv_iload_n hx hb dX0_setInputs_63 rfl (lv_at hl 4 rfl) ?_
    refine th_iast S hK hH hS ⟨18, by decide, trf6⟩ trf6 kd_18 (th_in (hi := 4) (iv_w (iv_c (by decide) : IV 4 4 4) (by decide)) (by decide)) (th_iv j3) dX0_setInputs_64 (fun H locs hH hS hq1 => ?_)
    have f30 := f28.kept (hq1 _ (th_ne t0 trf6 (by decide)))
    have f31 := f29.kept (hq1 _ (th_ne t1 trf6 (by decide)))
    refine lv_aload hx hb dX0_setInputs_65 (lv_at hl 0 rfl) ?_
    refine lv_iconst (v := 5) hx hb dX0_setInputs_67 (by decide) ?_
    refine lv_iload hx hb dX0_setInputs_68 (lv_at hl 5 rfl) ?_
    refine th_iast S hK hH hS ⟨18, by decide, trf6⟩ trf6 kd_18 (th_in (hi := 5) (iv_w (iv_c (by decide) : IV 5 5 5) (by decide)) (by decide)) (th_iv j4) dX0_setInputs_70 (fun H locs hH hS hq1 => ?_)
    have f32 := f30.kept (hq1 _ (th_ne t0 trf6 (by decide)))
    have f33 := f31.kept (hq1 _ (th_ne t1 trf6 (by decide)))
    refine lv_aload hx hb dX0_setInputs_71 (lv_at hl 0 rfl) ?_
    refine lv_bipush (v := 6) hx hb dX0_setInputs_73 (by decide) ?_
    refine lv_iload hx hb dX0_setInputs_75 (lv_at hl 6 rfl) ?_
    refine th_iast S hK hH hS ⟨18, by decide, trf6⟩ trf6 kd_18 (th_in (hi := 6) (iv_w (iv_c (by decide) : IV 6 6 6) (by decide)) (by decide)) (th_iv j5) dX0_setInputs_77 (fun H locs hH hS hq1 => ?_)
    have f34 := f32.kept (hq1 _ (th_ne t0 trf6 (by decide)))
    have f35 := f33.kept (hq1 _ (th_ne t1 trf6 (by decide)))
    exact th_vret S hK hH hS hr hlocks rfl dX0_setInputs_78
  exact J0 s.heap [] ls hH va_S.rf hl

set_option maxRecDepth 100000 in
theorem m_X2_valueOf (l : Launch) (D : va_G) (cT : Nat → ClassId) (T : Nat → Option Nat) (q : Nat → Int) (hq : qok q) (a0 : Nat) (t0 : T a0 = some 9) (y1 : Int32) (j1 : IV y1 0 4) : th_Met l D cT T (kd q) yX2_valueOf cX2_valueOf 9 (some .int) (rmk 0 0) [.ref a0, .int y1] (th_R T (some (.inl (-2147483648, 2147483647)))) [19] := by
  refine th_start (by decide) (Nat.le_of_ble_eq_true rfl) ?_
  intro p e s m below meth c ls S hK hH hr hlocks hnm hl
  have hx := S.1
  have hb := S.2.1
  have hl : lv_has ls 9 [(0, .ref a0), (1, .int y1)] := hl
  have J506 : ∀ (H : Heap) (locs : List Loc) (ls : Array Slot) (w506_0 : Int32), IV w506_0 (-2147483648) 2147483647 → th_H D cT T (kd q) H → va_S (th_A T [19]) s.heap H locs → lv_has ls 9 [] → W p l e (rmk 0 0) s m [.ref a0, .int y1].toArray below meth c H locs 0 0 (MQ below (th_Q D cT T (kd q) (th_R T (some (.inl (-2147483648, 2147483647)))) [19]) [.ref a0, .int y1].toArray s 0 0 (th_A T [19])) (F0 m 506 ls [.int w506_0]) := by
    intro H locs ls w506_0 iw506_0 hH hS hl
    exact th_iret S hK hH hS hr hlocks (th_R.i iw506_0) dX2_valueOf_506
  have J506_s0_0 : ∀ (H : Heap) (locs : List Loc) (ls : Array Slot), th_H D cT T (kd q) H → va_S (th_A T [19]) s.heap H locs → lv_has ls 9 [] → W p l e (rmk 0 0) s m [.ref a0, .int y1].toArray below meth c H locs 0 0 (MQ below (th_Q D cT T (kd q) (th_R T (some (.inl (-2147483648, 2147483647)))) [19]) [.ref a0, .int y1].toArray s 0 0 (th_A T [19])) (F0 m 506 ls [.int 0]) := by
    intro H locs ls hH hS hl
    exact th_iret S hK hH hS hr hlocks (th_R.i (iv_top _)) dX2_valueOf_506
  have J490 : ∀ (H : Heap) (locs : List Loc) (ls : Array Slot) (v490_2 : Int32), IV v490_2 0 64 → th_H D cT T (kd q) H → va_S (th_A T [19]) s.heap H locs → lv_has ls 9 [(0, .ref a0), (2, .int v490_2)] → W p l e (rmk 0 0) s m [.ref a0, .int y1].toArray below meth c H locs 0 0 (MQ below (th_Q D cT T (kd q) (th_R T (some (.inl (-2147483648, 2147483647)))) [19]) [.ref a0, .int y1].toArray s 0 0 (th_A T [19])) (F0 m 490 ls []) := by
    intro H locs ls v490_2 iv490_2 hH hS hl
    refine lv_iload_n hx hb dX2_valueOf_490 rfl (lv_at hl 1 rfl) ?_
    refine lv_if_le (tgt := 505) hx hb dX2_valueOf_491 (by decide) (fun c1 => ?_) (fun c1 => ?_)
    · skip
      have ir2 : IV v490_2 0 0 := iv_vL iv490_2 (iv_c (by decide) : IV 0 0 0) (iv_le c1) (by decide)
      refine lv_iconst (v := 0) hx hb dX2_valueOf_505 (by decide) ?_
      exact J506_s0_0 H locs ls  hH hS (lv_sub hl [] rfl)
    · skip
      have ir3 : IV v490_2 1 64 := iv_uR (iv_c (by decide) : IV 0 0 0) iv490_2 (iv_nle c1) (by decide)
      refine lv_aload_n hx hb dX2_valueOf_494 rfl (lv_at hl 0 rfl) ?_
      refine th_get S hK hH inG2 t0 kd_9 rfl 4 (by decide) gm_199 rfl rfl dX2_valueOf_495 (fun v4 hv4 fv4 => ?_)
      obtain ⟨rf5, rfl, trf5⟩ := th_V.ref hv4
      refine lv_iload_n hx hb dX2_valueOf_498 rfl (lv_at hl 1 rfl) ?_
      refine lv_iconst (v := 1) hx hb dX2_valueOf_499 (by decide) ?_
      refine lv_isub hx hb dX2_valueOf_500 ?_
      refine lv_topi (fun x6 ex6 => ?_)
      have ix6 : IV x6 0 63 := by rw [ex6]; exact iv_sub ir3 (iv_c (by decide) : IV 1 1 1) (by decide)
      refine th_iald S hK hH trf5 kd_19 (th_in (hi := 63) ix6 (by decide)) dX2_valueOf_501 (fun v7 hv7 => ?_)
      obtain ⟨x8, rfl, ix8⟩ := th_V.int hv7
      refine lv_goto (tgt := 506) hx hb dX2_valueOf_502 (by decide) ?_
      exact J506 H locs ls x8 ix8 hH hS (lv_sub hl [] rfl)
  have J9 : ∀ (n : Nat) (H : Heap) (locs : List Loc) (ls : Array Slot) (v9_2 : Int32) (v9_3 : Int32), IV v9_2 0 64 → IV v9_3 0 1600 → th_H D cT T (kd q) H → va_S (th_A T [19]) s.heap H locs → lv_has ls 9 [(0, .ref a0), (1, .int y1), (2, .int v9_2), (3, .int v9_3)] → (1600 + 1 - v9_3.toInt).toNat < n → W p l e (rmk 0 0) s m [.ref a0, .int y1].toArray below meth c H locs 0 0 (MQ below (th_Q D cT T (kd q) (th_R T (some (.inl (-2147483648, 2147483647)))) [19]) [.ref a0, .int y1].toArray s 0 0 (th_A T [19])) (F0 m 9 ls []) := by
    intro n
    induction n with
    | zero => intro H locs ls v9_2 v9_3 iv9_2 iv9_3 hH hS hl hn; exact absurd hn (Nat.not_lt_zero _)
    | succ n ih9 =>
      intro H locs ls v9_2 v9_3 iv9_2 iv9_3 hH hS hl hn9
      have J484 : ∀ (H : Heap) (locs : List Loc) (ls : Array Slot) (v484_2 : Int32), IV v484_2 0 64 → IV v9_3 0 1599 → th_H D cT T (kd q) H → va_S (th_A T [19]) s.heap H locs → lv_has ls 9 [(0, .ref a0), (1, .int y1), (2, .int v484_2), (3, .int v9_3)] → W p l e (rmk 0 0) s m [.ref a0, .int y1].toArray below meth c H locs 0 0 (MQ below (th_Q D cT T (kd q) (th_R T (some (.inl (-2147483648, 2147483647)))) [19]) [.ref a0, .int y1].toArray s 0 0 (th_A T [19])) (F0 m 484 ls []) := by
        intro H locs ls v484_2 iv484_2 f484_v9_3 hH hS hl
        refine th_iinc S dX2_valueOf_484 hl (k := 3) rfl (by decide) f484_v9_3 (by decide) (fun x9 ls ex9 ix9 hl => ?_)
        have hl : lv_has ls 9 [(3, .int x9), (0, .ref a0), (1, .int y1), (2, .int v484_2)] := hl
        have ix9 : IV x9 1 1600 := ix9
        refine lv_goto (tgt := 9) hx hb dX2_valueOf_487 (by decide) ?_
        exact ih9 H locs ls v484_2 x9 iv484_2 (iv_w ix9 (by decide)) hH hS (lv_sub hl [1, 2, 3, 0] rfl) (th_up iv9_3 ex9 (by decide) hn9)
      have J483_s2_0 : ∀ (H : Heap) (locs : List Loc) (ls : Array Slot) (v483_2 : Int32) (w483_0 : Nat) (w483_1 : Int32), IV v483_2 1 63 → T w483_0 = some 19 → IV w483_1 0 62 → IV v9_3 0 1599 → th_H D cT T (kd q) H → va_S (th_A T [19]) s.heap H locs → lv_has ls 9 [(0, .ref a0), (1, .int y1), (2, .int v483_2), (3, .int v9_3)] → W p l e (rmk 0 0) s m [.ref a0, .int y1].toArray below meth c H locs 0 0 (MQ below (th_Q D cT T (kd q) (th_R T (some (.inl (-2147483648, 2147483647)))) [19]) [.ref a0, .int y1].toArray s 0 0 (th_A T [19])) (F0 m 483 ls [.int 0, .int w483_1, .ref w483_0]) := by
        intro H locs ls v483_2 w483_0 w483_1 iv483_2 tw483_0 iw483_1 f483_v9_3 hH hS hl
        refine th_iast S hK hH hS ⟨19, by decide, tw483_0⟩ tw483_0 kd_19 (th_in (hi := 62) iw483_1 (by decide)) (th_iv (iv_top _)) dX2_valueOf_483 (fun H locs hH hS hq1 => ?_)
        exact J484 H locs ls v483_2 (iv_w iv483_2 (by decide)) f483_v9_3 hH hS (lv_sub hl [0, 1, 2, 3] rfl)
      have J483_s2_1 : ∀ (H : Heap) (locs : List Loc) (ls : Array Slot) (v483_2 : Int32) (w483_0 : Nat) (w483_1 : Int32), IV v483_2 1 63 → T w483_0 = some 19 → IV w483_1 0 62 → IV v9_3 0 1599 → th_H D cT T (kd q) H → va_S (th_A T [19]) s.heap H locs → lv_has ls 9 [(0, .ref a0), (1, .int y1), (2, .int v483_2), (3, .int v9_3)] → W p l e (rmk 0 0) s m [.ref a0, .int y1].toArray below meth c H locs 0 0 (MQ below (th_Q D cT T (kd q) (th_R T (some (.inl (-2147483648, 2147483647)))) [19]) [.ref a0, .int y1].toArray s 0 0 (th_A T [19])) (F0 m 483 ls [.int 1, .int w483_1, .ref w483_0]) := by
        intro H locs ls v483_2 w483_0 w483_1 iv483_2 tw483_0 iw483_1 f483_v9_3 hH hS hl
        refine th_iast S hK hH hS ⟨19, by decide, tw483_0⟩ tw483_0 kd_19 (th_in (hi := 62) iw483_1 (by decide)) (th_iv (iv_top _)) dX2_valueOf_483 (fun H locs hH hS hq1 => ?_)
        exact J484 H locs ls v483_2 (iv_w iv483_2 (by decide)) f483_v9_3 hH hS (lv_sub hl [0, 1, 2, 3] rfl)
      have J478 : ∀ (H : Heap) (locs : List Loc) (ls : Array Slot) (v478_2 : Int32) (w478_0 : Nat) (w478_1 : Int32), IV v478_2 1 63 → T w478_0 = some 19 → IV w478_1 0 62 → IV v9_3 0 1599 → th_H D cT T (kd q) H → va_S (th_A T [19]) s.heap H locs → lv_has ls 9 [(0, .ref a0), (1, .int y1), (2, .int v478_2), (3, .int v9_3)] → W p l e (rmk 0 0) s m [.ref a0, .int y1].toArray below meth c H locs 0 0 (MQ below (th_Q D cT T (kd q) (th_R T (some (.inl (-2147483648, 2147483647)))) [19]) [.ref a0, .int y1].toArray s 0 0 (th_A T [19])) (F0 m 478 ls [.int w478_1, .ref w478_0]) := by
        intro H locs ls v478_2 w478_0 w478_1 iv478_2 tw478_0 iw478_1 f478_v9_3 hH hS hl
        refine lv_iconst (v := 1) hx hb dX2_valueOf_478 (by decide) ?_
        refine lv_goto (tgt := 483) hx hb dX2_valueOf_479 (by decide) ?_
        exact J483_s2_1 H locs ls v478_2 w478_0 w478_1 iv478_2 tw478_0 iw478_1 f478_v9_3 hH hS (lv_sub hl [0, 1, 2, 3] rfl)
      have J457_s2_0 : ∀ (H : Heap) (locs : List Loc) (ls : Array Slot) (v457_2 : Int32) (w457_0 : Nat) (w457_1 : Int32), IV v457_2 1 63 → T w457_0 = some 19 → IV w457_1 0 62 → IV v9_3 0 1599 → th_H D cT T (kd q) H → va_S (th_A T [19]) s.heap H locs → lv_has ls 9 [(0, .ref a0), (1, .int y1), (2, .int v457_2), (3, .int v9_3)] → W p l e (rmk 0 0) s m [.ref a0, .int y1].toArray below meth c H locs 0 0 (MQ below (th_Q D cT T (kd q) (th_R T (some (.inl (-2147483648, 2147483647)))) [19]) [.ref a0, .int y1].toArray s 0 0 (th_A T [19])) (F0 m 457 ls [.int 0, .int w457_1, .ref w457_0]) := by
        intro H locs ls v457_2 w457_0 w457_1 iv457_2 tw457_0 iw457_1 f457_v9_3 hH hS hl
        refine th_iast S hK hH hS ⟨19, by decide, tw457_0⟩ tw457_0 kd_19 (th_in (hi := 62) iw457_1 (by decide)) (th_iv (iv_top _)) dX2_valueOf_457 (fun H locs hH hS hq1 => ?_)
        refine lv_goto (tgt := 484) hx hb dX2_valueOf_458 (by decide) ?_
        exact J484 H locs ls v457_2 (iv_w iv457_2 (by decide)) f457_v9_3 hH hS (lv_sub hl [0, 1, 2, 3] rfl)
      have J457_s2_1 : ∀ (H : Heap) (locs : List Loc) (ls : Array Slot) (v457_2 : Int32) (w457_0 : Nat) (w457_1 : Int32), IV v457_2 1 63 → T w457_0 = some 19 → IV w457_1 0 62 → IV v9_3 0 1599 → th_H D cT T (kd q) H → va_S (th_A T [19]) s.heap H locs → lv_has ls 9 [(0, .ref a0), (1, .int y1), (2, .int v457_2), (3, .int v9_3)] → W p l e (rmk 0 0) s m [.ref a0, .int y1].toArray below meth c H locs 0 0 (MQ below (th_Q D cT T (kd q) (th_R T (some (.inl (-2147483648, 2147483647)))) [19]) [.ref a0, .int y1].toArray s 0 0 (th_A T [19])) (F0 m 457 ls [.int 1, .int w457_1, .ref w457_0]) := by
        intro H locs ls v457_2 w457_0 w457_1 iv457_2 tw457_0 iw457_1 f457_v9_3 hH hS hl
        refine th_iast S hK hH hS ⟨19, by decide, tw457_0⟩ tw457_0 kd_19 (th_in (hi := 62) iw457_1 (by decide)) (th_iv (iv_top _)) dX2_valueOf_457 (fun H locs hH hS hq1 => ?_)
        refine lv_goto (tgt := 484) hx hb dX2_valueOf_458 (by decide) ?_
        exact J484 H locs ls v457_2 (iv_w iv457_2 (by decide)) f457_v9_3 hH hS (lv_sub hl [0, 1, 2, 3] rfl)
      have J456 : ∀ (H : Heap) (locs : List Loc) (ls : Array Slot) (v456_2 : Int32) (w456_0 : Nat) (w456_1 : Int32), IV v456_2 1 63 → T w456_0 = some 19 → IV w456_1 0 62 → IV v9_3 0 1599 → th_H D cT T (kd q) H → va_S (th_A T [19]) s.heap H locs → lv_has ls 9 [(0, .ref a0), (1, .int y1), (2, .int v456_2), (3, .int v9_3)] → W p l e (rmk 0 0) s m [.ref a0, .int y1].toArray below meth c H locs 0 0 (MQ below (th_Q D cT T (kd q) (th_R T (some (.inl (-2147483648, 2147483647)))) [19]) [.ref a0, .int y1].toArray s 0 0 (th_A T [19])) (F0 m 456 ls [.int w456_1, .ref w456_0]) := by
        intro H locs ls v456_2 w456_0 w456_1 iv456_2 tw456_0 iw456_1 f456_v9_3 hH hS hl
        refine lv_iconst (v := 0) hx hb dX2_valueOf_456 (by decide) ?_
        exact J457_s2_0 H locs ls v456_2 w456_0 w456_1 iv456_2 tw456_0 iw456_1 f456_v9_3 hH hS (lv_sub hl [0, 1, 2, 3] rfl)
      have J431_s2_0 : ∀ (H : Heap) (locs : List Loc) (ls : Array Slot) (v431_2 : Int32) (w431_0 : Nat) (w431_1 : Int32), IV v431_2 1 63 → T w431_0 = some 19 → IV w431_1 0 62 → IV v9_3 0 1599 → th_H D cT T (kd q) H → va_S (th_A T [19]) s.heap H locs → lv_has ls 9 [(0, .ref a0), (1, .int y1), (2, .int v431_2), (3, .int v9_3)] → W p l e (rmk 0 0) s m [.ref a0, .int y1].toArray below meth c H locs 0 0 (MQ below (th_Q D cT T (kd q) (th_R T (some (.inl (-2147483648, 2147483647)))) [19]) [.ref a0, .int y1].toArray s 0 0 (th_A T [19])) (F0 m 431 ls [.int 0, .int w431_1, .ref w431_0]) := by
        intro H locs ls v431_2 w431_0 w431_1 iv431_2 tw431_0 iw431_1 f431_v9_3 hH hS hl
        refine th_iast S hK hH hS ⟨19, by decide, tw431_0⟩ tw431_0 kd_19 (th_in (hi := 62) iw431_1 (by decide)) (th_iv (iv_top _)) dX2_valueOf_431 (fun H locs hH hS hq1 => ?_)
        refine lv_goto (tgt := 484) hx hb dX2_valueOf_432 (by decide) ?_
        exact J484 H locs ls v431_2 (iv_w iv431_2 (by decide)) f431_v9_3 hH hS (lv_sub hl [0, 1, 2, 3] rfl)
      have J431_s2_1 : ∀ (H : Heap) (locs : List Loc) (ls : Array Slot) (v431_2 : Int32) (w431_0 : Nat) (w431_1 : Int32), IV v431_2 1 63 → T w431_0 = some 19 → IV w431_1 0 62 → IV v9_3 0 1599 → th_H D cT T (kd q) H → va_S (th_A T [19]) s.heap H locs → lv_has ls 9 [(0, .ref a0), (1, .int y1), (2, .int v431_2), (3, .int v9_3)] → W p l e (rmk 0 0) s m [.ref a0, .int y1].toArray below meth c H locs 0 0 (MQ below (th_Q D cT T (kd q) (th_R T (some (.inl (-2147483648, 2147483647)))) [19]) [.ref a0, .int y1].toArray s 0 0 (th_A T [19])) (F0 m 431 ls [.int 1, .int w431_1, .ref w431_0]) := by
        intro H locs ls v431_2 w431_0 w431_1 iv431_2 tw431_0 iw431_1 f431_v9_3 hH hS hl
        refine th_iast S hK hH hS ⟨19, by decide, tw431_0⟩ tw431_0 kd_19 (th_in (hi := 62) iw431_1 (by decide)) (th_iv (iv_top _)) dX2_valueOf_431 (fun H locs hH hS hq1 => ?_)
        refine lv_goto (tgt := 484) hx hb dX2_valueOf_432 (by decide) ?_
        exact J484 H locs ls v431_2 (iv_w iv431_2 (by decide)) f431_v9_3 hH hS (lv_sub hl [0, 1, 2, 3] rfl)
      have J408_s2_0 : ∀ (H : Heap) (locs : List Loc) (ls : Array Slot) (v408_2 : Int32) (w408_0 : Nat) (w408_1 : Int32), IV v408_2 1 63 → T w408_0 = some 19 → IV w408_1 0 62 → IV v9_3 0 1599 → th_H D cT T (kd q) H → va_S (th_A T [19]) s.heap H locs → lv_has ls 9 [(0, .ref a0), (1, .int y1), (2, .int v408_2), (3, .int v9_3)] → W p l e (rmk 0 0) s m [.ref a0, .int y1].toArray below meth c H locs 0 0 (MQ below (th_Q D cT T (kd q) (th_R T (some (.inl (-2147483648, 2147483647)))) [19]) [.ref a0, .int y1].toArray s 0 0 (th_A T [19])) (F0 m 408 ls [.int 0, .int w408_1, .ref w408_0]) := by
        intro H locs ls v408_2 w408_0 w408_1 iv408_2 tw408_0 iw408_1 f408_v9_3 hH hS hl
        refine th_iast S hK hH hS ⟨19, by decide, tw408_0⟩ tw408_0 kd_19 (th_in (hi := 62) iw408_1 (by decide)) (th_iv (iv_top _)) dX2_valueOf_408 (fun H locs hH hS hq1 => ?_)
        refine lv_goto (tgt := 484) hx hb dX2_valueOf_409 (by decide) ?_
        exact J484 H locs ls v408_2 (iv_w iv408_2 (by decide)) f408_v9_3 hH hS (lv_sub hl [0, 1, 2, 3] rfl)
      have J408_s2_1 : ∀ (H : Heap) (locs : List Loc) (ls : Array Slot) (v408_2 : Int32) (w408_0 : Nat) (w408_1 : Int32), IV v408_2 1 63 → T w408_0 = some 19 → IV w408_1 0 62 → IV v9_3 0 1599 → th_H D cT T (kd q) H → va_S (th_A T [19]) s.heap H locs → lv_has ls 9 [(0, .ref a0), (1, .int y1), (2, .int v408_2), (3, .int v9_3)] → W p l e (rmk 0 0) s m [.ref a0, .int y1].toArray below meth c H locs 0 0 (MQ below (th_Q D cT T (kd q) (th_R T (some (.inl (-2147483648, 2147483647)))) [19]) [.ref a0, .int y1].toArray s 0 0 (th_A T [19])) (F0 m 408 ls [.int 1, .int w408_1, .ref w408_0]) := by
        intro H locs ls v408_2 w408_0 w408_1 iv408_2 tw408_0 iw408_1 f408_v9_3 hH hS hl
        refine th_iast S hK hH hS ⟨19, by decide, tw408_0⟩ tw408_0 kd_19 (th_in (hi := 62) iw408_1 (by decide)) (th_iv (iv_top _)) dX2_valueOf_408 (fun H locs hH hS hq1 => ?_)
        refine lv_goto (tgt := 484) hx hb dX2_valueOf_409 (by decide) ?_
        exact J484 H locs ls v408_2 (iv_w iv408_2 (by decide)) f408_v9_3 hH hS (lv_sub hl [0, 1, 2, 3] rfl)
      have J385_s2_0 : ∀ (H : Heap) (locs : List Loc) (ls : Array Slot) (v385_2 : Int32) (w385_0 : Nat) (w385_1 : Int32), IV v385_2 1 63 → T w385_0 = some 19 → IV w385_1 0 62 → IV v9_3 0 1599 → th_H D cT T (kd q) H → va_S (th_A T [19]) s.heap H locs → lv_has ls 9 [(0, .ref a0), (1, .int y1), (2, .int v385_2), (3, .int v9_3)] → W p l e (rmk 0 0) s m [.ref a0, .int y1].toArray below meth c H locs 0 0 (MQ below (th_Q D cT T (kd q) (th_R T (some (.inl (-2147483648, 2147483647)))) [19]) [.ref a0, .int y1].toArray s 0 0 (th_A T [19])) (F0 m 385 ls [.int 0, .int w385_1, .ref w385_0]) := by
        intro H locs ls v385_2 w385_0 w385_1 iv385_2 tw385_0 iw385_1 f385_v9_3 hH hS hl
        refine th_iast S hK hH hS ⟨19, by decide, tw385_0⟩ tw385_0 kd_19 (th_in (hi := 62) iw385_1 (by decide)) (th_iv (iv_top _)) dX2_valueOf_385 (fun H locs hH hS hq1 => ?_)
        refine lv_goto (tgt := 484) hx hb dX2_valueOf_386 (by decide) ?_
        exact J484 H locs ls v385_2 (iv_w iv385_2 (by decide)) f385_v9_3 hH hS (lv_sub hl [0, 1, 2, 3] rfl)
      have J385_s2_1 : ∀ (H : Heap) (locs : List Loc) (ls : Array Slot) (v385_2 : Int32) (w385_0 : Nat) (w385_1 : Int32), IV v385_2 1 63 → T w385_0 = some 19 → IV w385_1 0 62 → IV v9_3 0 1599 → th_H D cT T (kd q) H → va_S (th_A T [19]) s.heap H locs → lv_has ls 9 [(0, .ref a0), (1, .int y1), (2, .int v385_2), (3, .int v9_3)] → W p l e (rmk 0 0) s m [.ref a0, .int y1].toArray below meth c H locs 0 0 (MQ below (th_Q D cT T (kd q) (th_R T (some (.inl (-2147483648, 2147483647)))) [19]) [.ref a0, .int y1].toArray s 0 0 (th_A T [19])) (F0 m 385 ls [.int 1, .int w385_1, .ref w385_0]) := by
        intro H locs ls v385_2 w385_0 w385_1 iv385_2 tw385_0 iw385_1 f385_v9_3 hH hS hl
        refine th_iast S hK hH hS ⟨19, by decide, tw385_0⟩ tw385_0 kd_19 (th_in (hi := 62) iw385_1 (by decide)) (th_iv (iv_top _)) dX2_valueOf_385 (fun H locs hH hS hq1 => ?_)
        refine lv_goto (tgt := 484) hx hb dX2_valueOf_386 (by decide) ?_
        exact J484 H locs ls v385_2 (iv_w iv385_2 (by decide)) f385_v9_3 hH hS (lv_sub hl [0, 1, 2, 3] rfl)
      have J362 : ∀ (H : Heap) (locs : List Loc) (ls : Array Slot) (v362_2 : Int32) (w362_0 : Nat) (w362_1 : Int32) (w362_2 : Int32), IV v362_2 1 63 → T w362_0 = some 19 → IV w362_1 0 62 → IV w362_2 (-2147483648) 2147483647 → IV v9_3 0 1599 → th_H D cT T (kd q) H → va_S (th_A T [19]) s.heap H locs → lv_has ls 9 [(0, .ref a0), (1, .int y1), (2, .int v362_2), (3, .int v9_3)] → W p l e (rmk 0 0) s m [.ref a0, .int y1].toArray below meth c H locs 0 0 (MQ below (th_Q D cT T (kd q) (th_R T (some (.inl (-2147483648, 2147483647)))) [19]) [.ref a0, .int y1].toArray s 0 0 (th_A T [19])) (F0 m 362 ls [.int w362_2, .int w362_1, .ref w362_0]) := by
        intro H locs ls v362_2 w362_0 w362_1 w362_2 iv362_2 tw362_0 iw362_1 iw362_2 f362_v9_3 hH hS hl
        refine th_iast S hK hH hS ⟨19, by decide, tw362_0⟩ tw362_0 kd_19 (th_in (hi := 62) iw362_1 (by decide)) (th_iv iw362_2) dX2_valueOf_362 (fun H locs hH hS hq1 => ?_)
        refine lv_goto (tgt := 484) hx hb dX2_valueOf_363 (by decide) ?_
        exact J484 H locs ls v362_2 (iv_w iv362_2 (by decide)) f362_v9_3 hH hS (lv_sub hl [0, 1, 2, 3] rfl)
      have J362_s2_0 : ∀ (H : Heap) (locs : List Loc) (ls : Array Slot) (v362_2 : Int32) (w362_0 : Nat) (w362_1 : Int32), IV v362_2 1 63 → T w362_0 = some 19 → IV w362_1 0 62 → IV v9_3 0 1599 → th_H D cT T (kd q) H → va_S (th_A T [19]) s.heap H locs → lv_has ls 9 [(0, .ref a0), (1, .int y1), (2, .int v362_2), (3, .int v9_3)] → W p l e (rmk 0 0) s m [.ref a0, .int y1].toArray below meth c H locs 0 0 (MQ below (th_Q D cT T (kd q) (th_R T (some (.inl (-2147483648, 2147483647)))) [19]) [.ref a0, .int y1].toArray s 0 0 (th_A T [19])) (F0 m 362 ls [.int 0, .int w362_1, .ref w362_0]) := by
        intro H locs ls v362_2 w362_0 w362_1 iv362_2 tw362_0 iw362_1 f362_v9_3 hH hS hl
        refine th_iast S hK hH hS ⟨19, by decide, tw362_0⟩ tw362_0 kd_19 (th_in (hi := 62) iw362_1 (by decide)) (th_iv (iv_top _)) dX2_valueOf_362 (fun H locs hH hS hq1 => ?_)
        refine lv_goto (tgt := 484) hx hb dX2_valueOf_363 (by decide) ?_
        exact J484 H locs ls v362_2 (iv_w iv362_2 (by decide)) f362_v9_3 hH hS (lv_sub hl [0, 1, 2, 3] rfl)
      have J337 : ∀ (H : Heap) (locs : List Loc) (ls : Array Slot) (v337_2 : Int32) (w337_0 : Nat) (w337_1 : Int32) (w337_2 : Int32), IV v337_2 1 63 → T w337_0 = some 19 → IV w337_1 0 62 → IV w337_2 (-2147483648) 2147483647 → IV v9_3 0 1599 → th_H D cT T (kd q) H → va_S (th_A T [19]) s.heap H locs → lv_has ls 9 [(0, .ref a0), (1, .int y1), (2, .int v337_2), (3, .int v9_3)] → W p l e (rmk 0 0) s m [.ref a0, .int y1].toArray below meth c H locs 0 0 (MQ below (th_Q D cT T (kd q) (th_R T (some (.inl (-2147483648, 2147483647)))) [19]) [.ref a0, .int y1].toArray s 0 0 (th_A T [19])) (F0 m 337 ls [.int w337_2, .int w337_1, .ref w337_0]) := by
        intro H locs ls v337_2 w337_0 w337_1 w337_2 iv337_2 tw337_0 iw337_1 iw337_2 f337_v9_3 hH hS hl
        refine th_iast S hK hH hS ⟨19, by decide, tw337_0⟩ tw337_0 kd_19 (th_in (hi := 62) iw337_1 (by decide)) (th_iv iw337_2) dX2_valueOf_337 (fun H locs hH hS hq1 => ?_)
        refine lv_goto (tgt := 484) hx hb dX2_valueOf_338 (by decide) ?_
        exact J484 H locs ls v337_2 (iv_w iv337_2 (by decide)) f337_v9_3 hH hS (lv_sub hl [0, 1, 2, 3] rfl)
      have J337_s2_0 : ∀ (H : Heap) (locs : List Loc) (ls : Array Slot) (v337_2 : Int32) (w337_0 : Nat) (w337_1 : Int32), IV v337_2 1 63 → T w337_0 = some 19 → IV w337_1 0 62 → IV v9_3 0 1599 → th_H D cT T (kd q) H → va_S (th_A T [19]) s.heap H locs → lv_has ls 9 [(0, .ref a0), (1, .int y1), (2, .int v337_2), (3, .int v9_3)] → W p l e (rmk 0 0) s m [.ref a0, .int y1].toArray below meth c H locs 0 0 (MQ below (th_Q D cT T (kd q) (th_R T (some (.inl (-2147483648, 2147483647)))) [19]) [.ref a0, .int y1].toArray s 0 0 (th_A T [19])) (F0 m 337 ls [.int 0, .int w337_1, .ref w337_0]) := by
        intro H locs ls v337_2 w337_0 w337_1 iv337_2 tw337_0 iw337_1 f337_v9_3 hH hS hl
        refine th_iast S hK hH hS ⟨19, by decide, tw337_0⟩ tw337_0 kd_19 (th_in (hi := 62) iw337_1 (by decide)) (th_iv (iv_top _)) dX2_valueOf_337 (fun H locs hH hS hq1 => ?_)
        refine lv_goto (tgt := 484) hx hb dX2_valueOf_338 (by decide) ?_
        exact J484 H locs ls v337_2 (iv_w iv337_2 (by decide)) f337_v9_3 hH hS (lv_sub hl [0, 1, 2, 3] rfl)
      have J156 : ∀ (H : Heap) (locs : List Loc) (ls : Array Slot) (v156_5 : Int32), IV v156_5 (-2147483648) 2147483647 → IV v9_3 0 1599 → th_H D cT T (kd q) H → va_S (th_A T [19]) s.heap H locs → lv_has ls 9 [(0, .ref a0), (1, .int y1), (2, .int v9_2), (3, .int v9_3), (5, .int v156_5)] → W p l e (rmk 0 0) s m [.ref a0, .int y1].toArray below meth c H locs 0 0 (MQ below (th_Q D cT T (kd q) (th_R T (some (.inl (-2147483648, 2147483647)))) [19]) [.ref a0, .int y1].toArray s 0 0 (th_A T [19])) (F0 m 156 ls []) := by
        intro H locs ls v156_5 iv156_5 f156_v9_3 hH hS hl
        refine lv_iload_n hx hb dX2_valueOf_156 rfl (lv_at hl 2 rfl) ?_
        refine lv_iconst (v := 2) hx hb dX2_valueOf_157 (by decide) ?_
        refine lv_icmp_lt (tgt := 484) hx hb dX2_valueOf_158 (by decide) (fun c10 => ?_) (fun c10 => ?_)
        · skip
          have ir11 : IV v9_2 0 1 := iv_uL iv9_2 (iv_c (by decide) : IV 2 2 2) (iv_lt c10) (by decide)
          exact J484 H locs ls v9_2 (iv_w ir11 (by decide)) f156_v9_3 hH hS (lv_sub hl [0, 1, 2, 3] rfl)
        · skip
          have ir12 : IV v9_2 2 64 := iv_vR (iv_c (by decide) : IV 2 2 2) iv9_2 (iv_nlt c10) (by decide)
          refine th_iinc S dX2_valueOf_161 hl (k := 2) rfl (by decide) ir12 (by decide) (fun x13 ls ex13 ix13 hl => ?_)
          have hl : lv_has ls 9 [(2, .int x13), (0, .ref a0), (1, .int y1), (3, .int v9_3), (5, .int v156_5)] := hl
          have ix13 : IV x13 1 63 := ix13
          refine lv_aload_n hx hb dX2_valueOf_164 rfl (lv_at hl 1 rfl) ?_
          refine th_get S hK hH inG2 t0 kd_9 rfl 4 (by decide) gm_199 rfl rfl dX2_valueOf_165 (fun v14 hv14 fv14 => ?_)
          obtain ⟨rf15, rfl, trf15⟩ := th_V.ref hv14
          refine lv_iload_n hx hb dX2_valueOf_168 rfl (lv_at hl 0 rfl) ?_
          refine lv_iconst (v := 1) hx hb dX2_valueOf_169 (by decide) ?_
          refine lv_isub hx hb dX2_valueOf_170 ?_
          refine lv_topi (fun x16 ex16 => ?_)
          have ix16 : IV x16 0 62 := by rw [ex16]; exact iv_sub ix13 (iv_c (by decide) : IV 1 1 1) (by decide)
          refine th_iald S hK hH trf15 kd_19 (th_in (hi := 62) ix16 (by decide)) dX2_valueOf_171 (fun v17 hv17 => ?_)
          obtain ⟨x18, rfl, ix18⟩ := th_V.int hv17
          refine lv_istore (lv' := [(7, .int x18), (2, .int x13), (0, .ref a0), (1, .int y1), (3, .int v9_3), (5, .int v156_5)]) hx hb dX2_valueOf_172 hl (by decide) rfl (fun ls hl => ?_)
          refine lv_aload_n hx hb dX2_valueOf_174 rfl (lv_at hl 2 rfl) ?_
          refine th_getK S hK fv14 inG2 rfl (by decide) gm_199 rfl dX2_valueOf_175 ?_
          refine lv_iload_n hx hb dX2_valueOf_178 rfl (lv_at hl 1 rfl) ?_
          refine th_iald S hK hH trf15 kd_19 (th_in (hi := 63) (iv_w ix13 (by decide)) (by decide)) dX2_valueOf_179 (fun v20 hv20 => ?_)
          obtain ⟨x21, rfl, ix21⟩ := th_V.int hv20
          refine lv_istore (lv' := [(8, .int x21), (7, .int x18), (2, .int x13), (0, .ref a0), (1, .int y1), (3, .int v9_3), (5, .int v156_5)]) hx hb dX2_valueOf_180 hl (by decide) rfl (fun ls hl => ?_)
          refine lv_iload hx hb dX2_valueOf_182 (lv_at hl 6 rfl) ?_
          by_cases c22 : v156_5.toInt = 37
          · refine lv_lookup (tgt := 341) (off := 157) hx hb dX2_valueOf_184 (by decide) (by rw [c22]; rfl) (by decide) ?_
            refine lv_aload_n hx hb dX2_valueOf_341 rfl (lv_at hl 3 rfl) ?_
            refine th_getK S hK fv14 inG2 rfl (by decide) gm_199 rfl dX2_valueOf_342 ?_
            refine lv_iload_n hx hb dX2_valueOf_345 rfl (lv_at hl 2 rfl) ?_
            refine lv_iconst (v := 1) hx hb dX2_valueOf_346 (by decide) ?_
            refine lv_isub hx hb dX2_valueOf_347 ?_
            refine lv_topi (fun x24 ex24 => ?_)
            have zx24 : x16 = x24 := ex16.trans ex24.symm
            subst zx24
            refine lv_iload hx hb dX2_valueOf_348 (lv_at hl 0 rfl) ?_
            refine lv_if_ne (tgt := 357) hx hb dX2_valueOf_350 (by decide) (fun c25 => ?_) (fun c25 => ?_)
            · skip
              refine lv_iload hx hb dX2_valueOf_357 (lv_at hl 1 rfl) ?_
              refine lv_iload hx hb dX2_valueOf_359 (lv_at hl 0 rfl) ?_
              refine lv_irem hx hb dX2_valueOf_361 c25 ?_
              refine lv_topi (fun x26 ex26 => ?_)
              have ix26 := iv_top x26
              exact J362 H locs ls x13 rf15 x16 x26 ix13 trf15 ix16 ix26 f156_v9_3 hH hS (lv_sub hl [3, 4, 2, 5] rfl)
            · skip
              have ir27 : IV x21 0 0 := iv_eL c25 (iv_c (by decide) : IV 0 0 0)
              refine lv_iconst (v := 0) hx hb dX2_valueOf_353 (by decide) ?_
              refine lv_goto (tgt := 362) hx hb dX2_valueOf_354 (by decide) ?_
              exact J362_s2_0 H locs ls x13 rf15 x16 ix13 trf15 ix16 f156_v9_3 hH hS (lv_sub hl [3, 4, 2, 5] rfl)
          · skip
            by_cases c28 : v156_5.toInt = 42
            · refine lv_lookup (tgt := 300) (off := 116) hx hb dX2_valueOf_184 (by decide) (by rw [c28]; rfl) (by decide) ?_
              refine lv_aload_n hx hb dX2_valueOf_300 rfl (lv_at hl 3 rfl) ?_
              refine th_getK S hK fv14 inG2 rfl (by decide) gm_199 rfl dX2_valueOf_301 ?_
              refine lv_iload_n hx hb dX2_valueOf_304 rfl (lv_at hl 2 rfl) ?_
              refine lv_iconst (v := 1) hx hb dX2_valueOf_305 (by decide) ?_
              refine lv_isub hx hb dX2_valueOf_306 ?_
              refine lv_topi (fun x30 ex30 => ?_)
              have zx30 : x16 = x30 := ex16.trans ex30.symm
              subst zx30
              refine lv_iload hx hb dX2_valueOf_307 (lv_at hl 1 rfl) ?_
              refine lv_iload hx hb dX2_valueOf_309 (lv_at hl 0 rfl) ?_
              refine lv_imul hx hb dX2_valueOf_311 ?_
              refine lv_topi (fun x31 ex31 => ?_)
              have ix31 := iv_top x31
              refine th_iast S hK hH hS ⟨19, by decide, trf15⟩ trf15 kd_19 (th_in (hi := 62) ix16 (by decide)) (th_iv ix31) dX2_valueOf_312 (fun H locs hH hS hq1 => ?_)
              have f32 := fv14.kept (hq1 _ (th_ne t0 trf15 (by decide)))
              refine lv_goto (tgt := 484) hx hb dX2_valueOf_313 (by decide) ?_
              exact J484 H locs ls x13 (iv_w ix13 (by decide)) f156_v9_3 hH hS (lv_sub hl [3, 4, 2, 5] rfl)
            · skip
              by_cases c33 : v156_5.toInt = 43
              · refine lv_lookup (tgt := 268) (off := 84) hx hb dX2_valueOf_184 (by decide) (by rw [c33]; rfl) (by decide) ?_
                refine lv_aload_n hx hb dX2_valueOf_268 rfl (lv_at hl 3 rfl) ?_
                refine th_getK S hK fv14 inG2 rfl (by decide) gm_199 rfl dX2_valueOf_269 ?_
                refine lv_iload_n hx hb dX2_valueOf_272 rfl (lv_at hl 2 rfl) ?_
                refine lv_iconst (v := 1) hx hb dX2_valueOf_273 (by decide) ?_
                refine lv_isub hx hb dX2_valueOf_274 ?_
                refine lv_topi (fun x35 ex35 => ?_)
                have zx35 : x16 = x35 := ex16.trans ex35.symm
                subst zx35
                refine lv_iload hx hb dX2_valueOf_275 (lv_at hl 1 rfl) ?_
                refine lv_iload hx hb dX2_valueOf_277 (lv_at hl 0 rfl) ?_
                refine lv_iadd hx hb dX2_valueOf_279 ?_
                refine lv_topi (fun x36 ex36 => ?_)
                have ix36 := iv_top x36
                refine th_iast S hK hH hS ⟨19, by decide, trf15⟩ trf15 kd_19 (th_in (hi := 62) ix16 (by decide)) (th_iv ix36) dX2_valueOf_280 (fun H locs hH hS hq1 => ?_)
                have f37 := fv14.kept (hq1 _ (th_ne t0 trf15 (by decide)))
                refine lv_goto (tgt := 484) hx hb dX2_valueOf_281 (by decide) ?_
                exact J484 H locs ls x13 (iv_w ix13 (by decide)) f156_v9_3 hH hS (lv_sub hl [3, 4, 2, 5] rfl)
              · skip
                by_cases c38 : v156_5.toInt = 45
                · refine lv_lookup (tgt := 284) (off := 100) hx hb dX2_valueOf_184 (by decide) (by rw [c38]; rfl) (by decide) ?_
                  refine lv_aload_n hx hb dX2_valueOf_284 rfl (lv_at hl 3 rfl) ?_
                  refine th_getK S hK fv14 inG2 rfl (by decide) gm_199 rfl dX2_valueOf_285 ?_
                  refine lv_iload_n hx hb dX2_valueOf_288 rfl (lv_at hl 2 rfl) ?_
                  refine lv_iconst (v := 1) hx hb dX2_valueOf_289 (by decide) ?_
                  refine lv_isub hx hb dX2_valueOf_290 ?_
                  refine lv_topi (fun x40 ex40 => ?_)
                  have zx40 : x16 = x40 := ex16.trans ex40.symm
                  subst zx40
                  refine lv_iload hx hb dX2_valueOf_291 (lv_at hl 1 rfl) ?_
                  refine lv_iload hx hb dX2_valueOf_293 (lv_at hl 0 rfl) ?_
                  refine lv_isub hx hb dX2_valueOf_295 ?_
                  refine lv_topi (fun x41 ex41 => ?_)
                  have ix41 := iv_top x41
                  refine th_iast S hK hH hS ⟨19, by decide, trf15⟩ trf15 kd_19 (th_in (hi := 62) ix16 (by decide)) (th_iv ix41) dX2_valueOf_296 (fun H locs hH hS hq1 => ?_)
                  have f42 := fv14.kept (hq1 _ (th_ne t0 trf15 (by decide)))
                  refine lv_goto (tgt := 484) hx hb dX2_valueOf_297 (by decide) ?_
                  exact J484 H locs ls x13 (iv_w ix13 (by decide)) f156_v9_3 hH hS (lv_sub hl [3, 4, 2, 5] rfl)
                · skip
                  by_cases c43 : v156_5.toInt = 47
                  · refine lv_lookup (tgt := 316) (off := 132) hx hb dX2_valueOf_184 (by decide) (by rw [c43]; rfl) (by decide) ?_
                    refine lv_aload_n hx hb dX2_valueOf_316 rfl (lv_at hl 3 rfl) ?_
                    refine th_getK S hK fv14 inG2 rfl (by decide) gm_199 rfl dX2_valueOf_317 ?_
                    refine lv_iload_n hx hb dX2_valueOf_320 rfl (lv_at hl 2 rfl) ?_
                    refine lv_iconst (v := 1) hx hb dX2_valueOf_321 (by decide) ?_
                    refine lv_isub hx hb dX2_valueOf_322 ?_
                    refine lv_topi (fun x45 ex45 => ?_)
                    have zx45 : x16 = x45 := ex16.trans ex45.symm
                    subst zx45
                    refine lv_iload hx hb dX2_valueOf_323 (lv_at hl 0 rfl) ?_
                    refine lv_if_ne (tgt := 332) hx hb dX2_valueOf_325 (by decide) (fun c46 => ?_) (fun c46 => ?_)
                    · skip
                      refine lv_iload hx hb dX2_valueOf_332 (lv_at hl 1 rfl) ?_
                      refine lv_iload hx hb dX2_valueOf_334 (lv_at hl 0 rfl) ?_
                      refine lv_idiv hx hb dX2_valueOf_336 c46 ?_
                      refine lv_topi (fun x47 ex47 => ?_)
                      have ix47 := iv_top x47
                      exact J337 H locs ls x13 rf15 x16 x47 ix13 trf15 ix16 ix47 f156_v9_3 hH hS (lv_sub hl [3, 4, 2, 5] rfl)
                    · skip
                      have ir48 : IV x21 0 0 := iv_eL c46 (iv_c (by decide) : IV 0 0 0)
                      refine lv_iconst (v := 0) hx hb dX2_valueOf_328 (by decide) ?_
                      refine lv_goto (tgt := 337) hx hb dX2_valueOf_329 (by decide) ?_
                      exact J337_s2_0 H locs ls x13 rf15 x16 ix13 trf15 ix16 f156_v9_3 hH hS (lv_sub hl [3, 4, 2, 5] rfl)
                  · skip
                    by_cases c49 : v156_5.toInt = 60
                    · refine lv_lookup (tgt := 366) (off := 182) hx hb dX2_valueOf_184 (by decide) (by rw [c49]; rfl) (by decide) ?_
                      refine lv_aload_n hx hb dX2_valueOf_366 rfl (lv_at hl 3 rfl) ?_
                      refine th_getK S hK fv14 inG2 rfl (by decide) gm_199 rfl dX2_valueOf_367 ?_
                      refine lv_iload_n hx hb dX2_valueOf_370 rfl (lv_at hl 2 rfl) ?_
                      refine lv_iconst (v := 1) hx hb dX2_valueOf_371 (by decide) ?_
                      refine lv_isub hx hb dX2_valueOf_372 ?_
                      refine lv_topi (fun x51 ex51 => ?_)
                      have zx51 : x16 = x51 := ex16.trans ex51.symm
                      subst zx51
                      refine lv_iload hx hb dX2_valueOf_373 (lv_at hl 1 rfl) ?_
                      refine lv_iload hx hb dX2_valueOf_375 (lv_at hl 0 rfl) ?_
                      refine lv_icmp_ge (tgt := 384) hx hb dX2_valueOf_377 (by decide) (fun c52 => ?_) (fun c52 => ?_)
                      · skip
                        refine lv_iconst (v := 0) hx hb dX2_valueOf_384 (by decide) ?_
                        exact J385_s2_0 H locs ls x13 rf15 x16 ix13 trf15 ix16 f156_v9_3 hH hS (lv_sub hl [3, 4, 2, 5] rfl)
                      · skip
                        have ir53 : IV x18 (-2147483648) 2147483646 := iv_uL ix18 ix21 (iv_nle c52) (by decide)
                        have ir54 : IV x21 (-2147483647) 2147483647 := iv_uR ix18 ix21 (iv_nle c52) (by decide)
                        refine lv_iconst (v := 1) hx hb dX2_valueOf_380 (by decide) ?_
                        refine lv_goto (tgt := 385) hx hb dX2_valueOf_381 (by decide) ?_
                        exact J385_s2_1 H locs ls x13 rf15 x16 ix13 trf15 ix16 f156_v9_3 hH hS (lv_sub hl [3, 4, 2, 5] rfl)
                    · skip
                      by_cases c55 : v156_5.toInt = 61
                      · refine lv_lookup (tgt := 412) (off := 228) hx hb dX2_valueOf_184 (by decide) (by rw [c55]; rfl) (by decide) ?_
                        refine lv_aload_n hx hb dX2_valueOf_412 rfl (lv_at hl 3 rfl) ?_
                        refine th_getK S hK fv14 inG2 rfl (by decide) gm_199 rfl dX2_valueOf_413 ?_
                        refine lv_iload_n hx hb dX2_valueOf_416 rfl (lv_at hl 2 rfl) ?_
                        refine lv_iconst (v := 1) hx hb dX2_valueOf_417 (by decide) ?_
                        refine lv_isub hx hb dX2_valueOf_418 ?_
                        refine lv_topi (fun x57 ex57 => ?_)
                        have zx57 : x16 = x57 := ex16.trans ex57.symm
                        subst zx57
                        refine lv_iload hx hb dX2_valueOf_419 (lv_at hl 1 rfl) ?_
                        refine lv_iload hx hb dX2_valueOf_421 (lv_at hl 0 rfl) ?_
                        refine lv_icmp_ne (tgt := 430) hx hb dX2_valueOf_423 (by decide) (fun c58 => ?_) (fun c58 => ?_)
                        · skip
                          refine lv_iconst (v := 0) hx hb dX2_valueOf_430 (by decide) ?_
                          exact J431_s2_0 H locs ls x13 rf15 x16 ix13 trf15 ix16 f156_v9_3 hH hS (lv_sub hl [3, 4, 2, 5] rfl)
                        · skip
                          refine lv_iconst (v := 1) hx hb dX2_valueOf_426 (by decide) ?_
                          refine lv_goto (tgt := 431) hx hb dX2_valueOf_427 (by decide) ?_
                          exact J431_s2_1 H locs ls x13 rf15 x16 ix13 trf15 ix16 f156_v9_3 hH hS (lv_sub hl [3, 4, 2, 5] rfl)
                      · skip
                        by_cases c59 : v156_5.toInt = 62
                        · refine lv_lookup (tgt := 389) (off := 205) hx hb dX2_valueOf_184 (by decide) (by rw [c59]; rfl) (by decide) ?_
                          refine lv_aload_n hx hb dX2_valueOf_389 rfl (lv_at hl 3 rfl) ?_
                          refine th_getK S hK fv14 inG2 rfl (by decide) gm_199 rfl dX2_valueOf_390 ?_
                          refine lv_iload_n hx hb dX2_valueOf_393 rfl (lv_at hl 2 rfl) ?_
                          refine lv_iconst (v := 1) hx hb dX2_valueOf_394 (by decide) ?_
                          refine lv_isub hx hb dX2_valueOf_395 ?_
                          refine lv_topi (fun x61 ex61 => ?_)
                          have zx61 : x16 = x61 := ex16.trans ex61.symm
                          subst zx61
                          refine lv_iload hx hb dX2_valueOf_396 (lv_at hl 1 rfl) ?_
                          refine lv_iload hx hb dX2_valueOf_398 (lv_at hl 0 rfl) ?_
                          refine lv_icmp_le (tgt := 407) hx hb dX2_valueOf_400 (by decide) (fun c62 => ?_) (fun c62 => ?_)
                          · skip
                            refine lv_iconst (v := 0) hx hb dX2_valueOf_407 (by decide) ?_
                            exact J408_s2_0 H locs ls x13 rf15 x16 ix13 trf15 ix16 f156_v9_3 hH hS (lv_sub hl [3, 4, 2, 5] rfl)
                          · skip
                            have ir63 : IV x21 (-2147483648) 2147483646 := iv_uL ix21 ix18 (iv_nle c62) (by decide)
                            have ir64 : IV x18 (-2147483647) 2147483647 := iv_uR ix21 ix18 (iv_nle c62) (by decide)
                            refine lv_iconst (v := 1) hx hb dX2_valueOf_403 (by decide) ?_
                            refine lv_goto (tgt := 408) hx hb dX2_valueOf_404 (by decide) ?_
                            exact J408_s2_1 H locs ls x13 rf15 x16 ix13 trf15 ix16 f156_v9_3 hH hS (lv_sub hl [3, 4, 2, 5] rfl)
                        · skip
                          by_cases c65 : v156_5.toInt = 148
                          · refine lv_lookup (tgt := 435) (off := 251) hx hb dX2_valueOf_184 (by decide) (by rw [c65]; rfl) (by decide) ?_
                            refine lv_aload_n hx hb dX2_valueOf_435 rfl (lv_at hl 3 rfl) ?_
                            refine th_getK S hK fv14 inG2 rfl (by decide) gm_199 rfl dX2_valueOf_436 ?_
                            refine lv_iload_n hx hb dX2_valueOf_439 rfl (lv_at hl 2 rfl) ?_
                            refine lv_iconst (v := 1) hx hb dX2_valueOf_440 (by decide) ?_
                            refine lv_isub hx hb dX2_valueOf_441 ?_
                            refine lv_topi (fun x67 ex67 => ?_)
                            have zx67 : x16 = x67 := ex16.trans ex67.symm
                            subst zx67
                            refine lv_iload hx hb dX2_valueOf_442 (lv_at hl 1 rfl) ?_
                            refine lv_if_eq (tgt := 456) hx hb dX2_valueOf_444 (by decide) (fun c68 => ?_) (fun c68 => ?_)
                            · skip
                              have ir69 : IV x18 0 0 := iv_eL c68 (iv_c (by decide) : IV 0 0 0)
                              exact J456 H locs ls x13 rf15 x16 ix13 trf15 ix16 f156_v9_3 hH hS (lv_sub hl [3, 4, 2, 5] rfl)
                            · skip
                              refine lv_iload hx hb dX2_valueOf_447 (lv_at hl 0 rfl) ?_
                              refine lv_if_eq (tgt := 456) hx hb dX2_valueOf_449 (by decide) (fun c70 => ?_) (fun c70 => ?_)
                              · skip
                                have ir71 : IV x21 0 0 := iv_eL c70 (iv_c (by decide) : IV 0 0 0)
                                exact J456 H locs ls x13 rf15 x16 ix13 trf15 ix16 f156_v9_3 hH hS (lv_sub hl [3, 4, 2, 5] rfl)
                              · skip
                                refine lv_iconst (v := 1) hx hb dX2_valueOf_452 (by decide) ?_
                                refine lv_goto (tgt := 457) hx hb dX2_valueOf_453 (by decide) ?_
                                exact J457_s2_1 H locs ls x13 rf15 x16 ix13 trf15 ix16 f156_v9_3 hH hS (lv_sub hl [3, 4, 2, 5] rfl)
                          · skip
                            refine lv_lookup (tgt := 461) (off := 277) hx hb dX2_valueOf_184 (by decide) (by simp [Op.lookupswitch.offset, Ne.symm c22, Ne.symm c28, Ne.symm c33, Ne.symm c38, Ne.symm c43, Ne.symm c49, Ne.symm c55, Ne.symm c59, Ne.symm c65]) (by decide) ?_
                            refine lv_aload_n hx hb dX2_valueOf_461 rfl (lv_at hl 3 rfl) ?_
                            refine th_getK S hK fv14 inG2 rfl (by decide) gm_199 rfl dX2_valueOf_462 ?_
                            refine lv_iload_n hx hb dX2_valueOf_465 rfl (lv_at hl 2 rfl) ?_
                            refine lv_iconst (v := 1) hx hb dX2_valueOf_466 (by decide) ?_
                            refine lv_isub hx hb dX2_valueOf_467 ?_
                            refine lv_topi (fun x74 ex74 => ?_)
                            have zx74 : x16 = x74 := ex16.trans ex74.symm
                            subst zx74
                            refine lv_iload hx hb dX2_valueOf_468 (lv_at hl 1 rfl) ?_
                            refine lv_if_ne (tgt := 478) hx hb dX2_valueOf_470 (by decide) (fun c75 => ?_) (fun c75 => ?_)
                            · skip
                              exact J478 H locs ls x13 rf15 x16 ix13 trf15 ix16 f156_v9_3 hH hS (lv_sub hl [3, 4, 2, 5] rfl)
                            · skip
                              have ir76 : IV x18 0 0 := iv_eL c75 (iv_c (by decide) : IV 0 0 0)
                              refine lv_iload hx hb dX2_valueOf_473 (lv_at hl 0 rfl) ?_
                              refine lv_if_eq (tgt := 482) hx hb dX2_valueOf_475 (by decide) (fun c77 => ?_) (fun c77 => ?_)
                              · skip
                                have ir78 : IV x21 0 0 := iv_eL c77 (iv_c (by decide) : IV 0 0 0)
                                refine lv_iconst (v := 0) hx hb dX2_valueOf_482 (by decide) ?_
                                exact J483_s2_0 H locs ls x13 rf15 x16 ix13 trf15 ix16 f156_v9_3 hH hS (lv_sub hl [3, 4, 2, 5] rfl)
                              · skip
                                exact J478 H locs ls x13 rf15 x16 ix13 trf15 ix16 f156_v9_3 hH hS (lv_sub hl [3, 4, 2, 5] rfl)
      have J152_s2_0 : ∀ (H : Heap) (locs : List Loc) (ls : Array Slot) (w152_0 : Nat) (w152_1 : Int32), T w152_0 = some 19 → IV w152_1 0 63 → IV v9_2 1 64 → IV v9_3 0 1599 → th_H D cT T (kd q) H → va_S (th_A T [19]) s.heap H locs → lv_has ls 9 [(0, .ref a0), (1, .int y1), (2, .int v9_2), (3, .int v9_3)] → W p l e (rmk 0 0) s m [.ref a0, .int y1].toArray below meth c H locs 0 0 (MQ below (th_Q D cT T (kd q) (th_R T (some (.inl (-2147483648, 2147483647)))) [19]) [.ref a0, .int y1].toArray s 0 0 (th_A T [19])) (F0 m 152 ls [.int 0, .int w152_1, .ref w152_0]) := by
        intro H locs ls w152_0 w152_1 tw152_0 iw152_1 f152_v9_2 f152_v9_3 hH hS hl
        refine th_iast S hK hH hS ⟨19, by decide, tw152_0⟩ tw152_0 kd_19 (th_in (hi := 63) iw152_1 (by decide)) (th_iv (iv_top _)) dX2_valueOf_152 (fun H locs hH hS hq1 => ?_)
        refine lv_goto (tgt := 484) hx hb dX2_valueOf_153 (by decide) ?_
        exact J484 H locs ls v9_2 (iv_w f152_v9_2 (by decide)) f152_v9_3 hH hS (lv_sub hl [0, 1, 2, 3] rfl)
      have J152_s2_1 : ∀ (H : Heap) (locs : List Loc) (ls : Array Slot) (w152_0 : Nat) (w152_1 : Int32), T w152_0 = some 19 → IV w152_1 0 63 → IV v9_2 1 64 → IV v9_3 0 1599 → th_H D cT T (kd q) H → va_S (th_A T [19]) s.heap H locs → lv_has ls 9 [(0, .ref a0), (1, .int y1), (2, .int v9_2), (3, .int v9_3)] → W p l e (rmk 0 0) s m [.ref a0, .int y1].toArray below meth c H locs 0 0 (MQ below (th_Q D cT T (kd q) (th_R T (some (.inl (-2147483648, 2147483647)))) [19]) [.ref a0, .int y1].toArray s 0 0 (th_A T [19])) (F0 m 152 ls [.int 1, .int w152_1, .ref w152_0]) := by
        intro H locs ls w152_0 w152_1 tw152_0 iw152_1 f152_v9_2 f152_v9_3 hH hS hl
        refine th_iast S hK hH hS ⟨19, by decide, tw152_0⟩ tw152_0 kd_19 (th_in (hi := 63) iw152_1 (by decide)) (th_iv (iv_top _)) dX2_valueOf_152 (fun H locs hH hS hq1 => ?_)
        refine lv_goto (tgt := 484) hx hb dX2_valueOf_153 (by decide) ?_
        exact J484 H locs ls v9_2 (iv_w f152_v9_2 (by decide)) f152_v9_3 hH hS (lv_sub hl [0, 1, 2, 3] rfl)
      have J116 : ∀ (H : Heap) (locs : List Loc) (ls : Array Slot) (v116_5 : Int32), IV v116_5 (-2147483648) 2147483647 → IV v9_3 0 1599 → th_H D cT T (kd q) H → va_S (th_A T [19]) s.heap H locs → lv_has ls 9 [(0, .ref a0), (1, .int y1), (2, .int v9_2), (3, .int v9_3), (5, .int v116_5)] → W p l e (rmk 0 0) s m [.ref a0, .int y1].toArray below meth c H locs 0 0 (MQ below (th_Q D cT T (kd q) (th_R T (some (.inl (-2147483648, 2147483647)))) [19]) [.ref a0, .int y1].toArray s 0 0 (th_A T [19])) (F0 m 116 ls []) := by
        intro H locs ls v116_5 iv116_5 f116_v9_3 hH hS hl
        refine lv_iload hx hb dX2_valueOf_116 (lv_at hl 4 rfl) ?_
        refine lv_sipush (v := 149) hx hb dX2_valueOf_118 (by decide) ?_
        refine lv_icmp_ne (tgt := 156) hx hb dX2_valueOf_121 (by decide) (fun c79 => ?_) (fun c79 => ?_)
        · skip
          exact J156 H locs ls v116_5 iv116_5 f116_v9_3 hH hS (lv_sub hl [0, 1, 2, 3, 4] rfl)
        · skip
          have ir80 : IV v116_5 149 149 := iv_eL c79 (iv_c (by decide) : IV 149 149 149)
          refine lv_iload_n hx hb dX2_valueOf_124 rfl (lv_at hl 2 rfl) ?_
          refine lv_iconst (v := 1) hx hb dX2_valueOf_125 (by decide) ?_
          refine lv_icmp_lt (tgt := 156) hx hb dX2_valueOf_126 (by decide) (fun c81 => ?_) (fun c81 => ?_)
          · skip
            have ir82 : IV v9_2 0 0 := iv_uL iv9_2 (iv_c (by decide) : IV 1 1 1) (iv_lt c81) (by decide)
            exact J156 H locs ls v116_5 (iv_top _) f116_v9_3 hH hS (lv_sub hl [0, 1, 2, 3, 4] rfl)
          · skip
            have ir83 : IV v9_2 1 64 := iv_vR (iv_c (by decide) : IV 1 1 1) iv9_2 (iv_nlt c81) (by decide)
            refine lv_aload_n hx hb dX2_valueOf_129 rfl (lv_at hl 0 rfl) ?_
            refine th_get S hK hH inG2 t0 kd_9 rfl 4 (by decide) gm_199 rfl rfl dX2_valueOf_130 (fun v84 hv84 fv84 => ?_)
            obtain ⟨rf85, rfl, trf85⟩ := th_V.ref hv84
            refine lv_iload_n hx hb dX2_valueOf_133 rfl (lv_at hl 2 rfl) ?_
            refine lv_iconst (v := 1) hx hb dX2_valueOf_134 (by decide) ?_
            refine lv_isub hx hb dX2_valueOf_135 ?_
            refine lv_topi (fun x86 ex86 => ?_)
            have ix86 : IV x86 0 63 := by rw [ex86]; exact iv_sub ir83 (iv_c (by decide) : IV 1 1 1) (by decide)
            refine lv_aload_n hx hb dX2_valueOf_136 rfl (lv_at hl 0 rfl) ?_
            refine th_getK S hK fv84 inG2 rfl (by decide) gm_199 rfl dX2_valueOf_137 ?_
            refine lv_iload_n hx hb dX2_valueOf_140 rfl (lv_at hl 2 rfl) ?_
            refine lv_iconst (v := 1) hx hb dX2_valueOf_141 (by decide) ?_
            refine lv_isub hx hb dX2_valueOf_142 ?_
            refine lv_topi (fun x88 ex88 => ?_)
            have zx88 : x86 = x88 := ex86.trans ex88.symm
            subst zx88
            refine th_iald S hK hH trf85 kd_19 (th_in (hi := 63) ix86 (by decide)) dX2_valueOf_143 (fun v89 hv89 => ?_)
            obtain ⟨x90, rfl, ix90⟩ := th_V.int hv89
            refine lv_if_ne (tgt := 151) hx hb dX2_valueOf_144 (by decide) (fun c91 => ?_) (fun c91 => ?_)
            · skip
              refine lv_iconst (v := 0) hx hb dX2_valueOf_151 (by decide) ?_
              exact J152_s2_0 H locs ls rf85 x86 trf85 ix86 ir83 f116_v9_3 hH hS (lv_sub hl [0, 1, 2, 3] rfl)
            · skip
              have ir92 : IV x90 0 0 := iv_eL c91 (iv_c (by decide) : IV 0 0 0)
              refine lv_iconst (v := 1) hx hb dX2_valueOf_147 (by decide) ?_
              refine lv_goto (tgt := 152) hx hb dX2_valueOf_148 (by decide) ?_
              exact J152_s2_1 H locs ls rf85 x86 trf85 ix86 ir83 f116_v9_3 hH hS (lv_sub hl [0, 1, 2, 3] rfl)
      have J109 : ∀ (H : Heap) (locs : List Loc) (ls : Array Slot) (w109_0 : Nat) (w109_2 : Int32), T w109_0 = some 19 → IV w109_2 (-2147483648) 2147483647 → IV v9_2 0 63 → IV v9_3 0 1599 → th_H D cT T (kd q) H → va_S (th_A T [19]) s.heap H locs → lv_has ls 9 [(0, .ref a0), (1, .int y1), (2, .int v9_2), (3, .int v9_3)] → W p l e (rmk 0 0) s m [.ref a0, .int y1].toArray below meth c H locs 0 0 (MQ below (th_Q D cT T (kd q) (th_R T (some (.inl (-2147483648, 2147483647)))) [19]) [.ref a0, .int y1].toArray s 0 0 (th_A T [19])) (F0 m 109 ls [.int w109_2, .int v9_2, .ref w109_0]) := by
        intro H locs ls w109_0 w109_2 tw109_0 iw109_2 f109_v9_2 f109_v9_3 hH hS hl
        refine th_iast S hK hH hS ⟨19, by decide, tw109_0⟩ tw109_0 kd_19 (th_in (hi := 63) f109_v9_2 (by decide)) (th_iv iw109_2) dX2_valueOf_109 (fun H locs hH hS hq1 => ?_)
        refine th_iinc S dX2_valueOf_110 hl (k := 2) rfl (by decide) f109_v9_2 (by decide) (fun x93 ls ex93 ix93 hl => ?_)
        have hl : lv_has ls 9 [(2, .int x93), (0, .ref a0), (1, .int y1), (3, .int v9_3)] := hl
        have ix93 : IV x93 1 64 := ix93
        refine lv_goto (tgt := 484) hx hb dX2_valueOf_113 (by decide) ?_
        exact J484 H locs ls x93 (iv_w ix93 (by decide)) f109_v9_3 hH hS (lv_sub hl [1, 2, 0, 3] rfl)
      have J74_l6_0 : ∀ (H : Heap) (locs : List Loc) (ls : Array Slot) (v74_4 : Int32) (v74_5 : Int32), IV v74_4 0 2147483647 → IV v74_5 (-2147483648) 2147483647 → IV v9_3 0 1599 → th_H D cT T (kd q) H → va_S (th_A T [19]) s.heap H locs → lv_has ls 9 [(0, .ref a0), (1, .int y1), (2, .int v9_2), (3, .int v9_3), (4, .int v74_4), (5, .int v74_5), (6, .int 0)] → W p l e (rmk 0 0) s m [.ref a0, .int y1].toArray below meth c H locs 0 0 (MQ below (th_Q D cT T (kd q) (th_R T (some (.inl (-2147483648, 2147483647)))) [19]) [.ref a0, .int y1].toArray s 0 0 (th_A T [19])) (F0 m 74 ls []) := by
        intro H locs ls v74_4 v74_5 iv74_4 iv74_5 f74_v9_3 hH hS hl
        refine lv_iload_n hx hb dX2_valueOf_74 rfl (lv_at hl 2 rfl) ?_
        refine lv_aload_n hx hb dX2_valueOf_75 rfl (lv_at hl 0 rfl) ?_
        refine th_get S hK hH inG2 t0 kd_9 rfl 4 (by decide) gm_199 rfl rfl dX2_valueOf_76 (fun v94 hv94 fv94 => ?_)
        obtain ⟨rf95, rfl, trf95⟩ := th_V.ref hv94
        refine th_alen S hK hH trf95 kd_19 rfl (v := 64) (by decide) dX2_valueOf_79 ?_
        refine lv_icmp_ge (tgt := 116) hx hb dX2_valueOf_80 (by decide) (fun c96 => ?_) (fun c96 => ?_)
        · skip
          have ir97 : IV v9_2 64 64 := iv_vR (iv_c (by decide) : IV 64 64 64) iv9_2 (iv_le c96) (by decide)
          exact J116 H locs ls v74_5 iv74_5 f74_v9_3 hH hS (lv_sub hl [0, 1, 2, 3, 5] rfl)
        · skip
          have ir98 : IV v9_2 0 63 := iv_uL iv9_2 (iv_c (by decide) : IV 64 64 64) (iv_nle c96) (by decide)
          refine lv_aload_n hx hb dX2_valueOf_83 rfl (lv_at hl 0 rfl) ?_
          refine th_getK S hK fv94 inG2 rfl (by decide) gm_199 rfl dX2_valueOf_84 ?_
          refine lv_iload_n hx hb dX2_valueOf_87 rfl (lv_at hl 2 rfl) ?_
          refine lv_iload hx hb dX2_valueOf_88 (lv_at hl 6 rfl) ?_
          refine lv_if_eq (tgt := 107) hx hb dX2_valueOf_90 (by decide) (fun c100 => ?_) (fun c100 => ?_)
          · skip
            refine lv_iload hx hb dX2_valueOf_107 (lv_at hl 4 rfl) ?_
            exact J109 H locs ls rf95 v74_4 trf95 (iv_top _) ir98 f74_v9_3 hH hS (lv_sub hl [0, 1, 2, 3] rfl)
          · skip
            exact absurd (iv_eqc (iv_c (by decide) : IV 0 0 0) (iv_c (by decide) : IV 0 0 0)) c100
      have J74_l6_1 : ∀ (H : Heap) (locs : List Loc) (ls : Array Slot) (v74_4 : Int32) (v74_5 : Int32), IV v74_4 (-2147483648) 2147483647 → IV v74_5 136 142 → IV v9_3 0 1599 → th_H D cT T (kd q) H → va_S (th_A T [19]) s.heap H locs → lv_has ls 9 [(0, .ref a0), (1, .int y1), (2, .int v9_2), (3, .int v9_3), (4, .int v74_4), (5, .int v74_5), (6, .int 1)] → W p l e (rmk 0 0) s m [.ref a0, .int y1].toArray below meth c H locs 0 0 (MQ below (th_Q D cT T (kd q) (th_R T (some (.inl (-2147483648, 2147483647)))) [19]) [.ref a0, .int y1].toArray s 0 0 (th_A T [19])) (F0 m 74 ls []) := by
        intro H locs ls v74_4 v74_5 iv74_4 iv74_5 f74_v9_3 hH hS hl
        refine lv_iload_n hx hb dX2_valueOf_74 rfl (lv_at hl 2 rfl) ?_
        refine lv_aload_n hx hb dX2_valueOf_75 rfl (lv_at hl 0 rfl) ?_
        refine th_get S hK hH inG2 t0 kd_9 rfl 4 (by decide) gm_199 rfl rfl dX2_valueOf_76 (fun v101 hv101 fv101 => ?_)
        obtain ⟨rf102, rfl, trf102⟩ := th_V.ref hv101
        refine th_alen S hK hH trf102 kd_19 rfl (v := 64) (by decide) dX2_valueOf_79 ?_
        refine lv_icmp_ge (tgt := 116) hx hb dX2_valueOf_80 (by decide) (fun c103 => ?_) (fun c103 => ?_)
        · skip
          have ir104 : IV v9_2 64 64 := iv_vR (iv_c (by decide) : IV 64 64 64) iv9_2 (iv_le c103) (by decide)
          exact J116 H locs ls v74_5 (iv_top _) f74_v9_3 hH hS (lv_sub hl [0, 1, 2, 3, 5] rfl)
        · skip
          have ir105 : IV v9_2 0 63 := iv_uL iv9_2 (iv_c (by decide) : IV 64 64 64) (iv_nle c103) (by decide)
          refine lv_aload_n hx hb dX2_valueOf_83 rfl (lv_at hl 0 rfl) ?_
          refine th_getK S hK fv101 inG2 rfl (by decide) gm_199 rfl dX2_valueOf_84 ?_
          refine lv_iload_n hx hb dX2_valueOf_87 rfl (lv_at hl 2 rfl) ?_
          refine lv_iload hx hb dX2_valueOf_88 (lv_at hl 6 rfl) ?_
          refine lv_if_eq (tgt := 107) hx hb dX2_valueOf_90 (by decide) (fun c107 => ?_) (fun c107 => ?_)
          · skip
            exfalso
            have z1 := congrArg Int32.toInt c107
            have z2 := ((iv_c (by decide) : IV 1 1 1)).1
            have z3 := ((iv_c (by decide) : IV 1 1 1)).2
            have z4 := ((iv_c (by decide) : IV 0 0 0)).1
            have z5 := ((iv_c (by decide) : IV 0 0 0)).2
            omega
          · skip
            refine lv_aload_n hx hb dX2_valueOf_93 rfl (lv_at hl 0 rfl) ?_
            refine th_get S hK hH inG2 t0 kd_9 rfl 3 (by decide) gm_197 rfl rfl dX2_valueOf_94 (fun v108 hv108 fv108 => ?_)
            obtain ⟨rf109, rfl, trf109⟩ := th_V.ref hv108
            refine lv_iload hx hb dX2_valueOf_97 (lv_at hl 5 rfl) ?_
            refine lv_sipush (v := 136) hx hb dX2_valueOf_99 (by decide) ?_
            refine lv_isub hx hb dX2_valueOf_102 ?_
            refine lv_topi (fun x110 ex110 => ?_)
            have ix110 : IV x110 0 6 := by rw [ex110]; exact iv_sub iv74_5 (iv_c (by decide) : IV 136 136 136) (by decide)
            refine th_iald S hK hH trf109 kd_18 (th_in (hi := 6) ix110 (by decide)) dX2_valueOf_103 (fun v111 hv111 => ?_)
            obtain ⟨x112, rfl, ix112⟩ := th_V.int hv111
            refine lv_goto (tgt := 109) hx hb dX2_valueOf_104 (by decide) ?_
            exact J109 H locs ls rf102 x112 trf102 ix112 ir105 f74_v9_3 hH hS (lv_sub hl [0, 1, 2, 3] rfl)
      have J62_s0_0 : ∀ (H : Heap) (locs : List Loc) (ls : Array Slot) (v62_4 : Int32) (v62_5 : Int32), IV v62_4 (-2147483648) 2147483647 → IV v62_5 (-2147483648) 2147483647 → IV v9_3 0 1599 → th_H D cT T (kd q) H → va_S (th_A T [19]) s.heap H locs → lv_has ls 9 [(0, .ref a0), (1, .int y1), (2, .int v9_2), (3, .int v9_3), (4, .int v62_4), (5, .int v62_5)] → W p l e (rmk 0 0) s m [.ref a0, .int y1].toArray below meth c H locs 0 0 (MQ below (th_Q D cT T (kd q) (th_R T (some (.inl (-2147483648, 2147483647)))) [19]) [.ref a0, .int y1].toArray s 0 0 (th_A T [19])) (F0 m 62 ls [.int 0]) := by
        intro H locs ls v62_4 v62_5 iv62_4 iv62_5 f62_v9_3 hH hS hl
        refine lv_istore (lv' := [(6, .int 0), (0, .ref a0), (1, .int y1), (2, .int v9_2), (3, .int v9_3), (4, .int v62_4), (5, .int v62_5)]) hx hb dX2_valueOf_62 hl (by decide) rfl (fun ls hl => ?_)
        refine lv_iload hx hb dX2_valueOf_64 (lv_at hl 5 rfl) ?_
        refine lv_if_ge (tgt := 74) hx hb dX2_valueOf_66 (by decide) (fun c113 => ?_) (fun c113 => ?_)
        · skip
          have ir114 : IV v62_4 0 2147483647 := iv_vR (iv_c (by decide) : IV 0 0 0) iv62_4 (iv_le c113) (by decide)
          exact J74_l6_0 H locs ls v62_4 v62_5 ir114 iv62_5 f62_v9_3 hH hS (lv_sub hl [1, 2, 3, 4, 5, 6, 0] rfl)
        · skip
          have ir115 : IV v62_4 (-2147483648) (-1) := iv_uL iv62_4 (iv_c (by decide) : IV 0 0 0) (iv_nle c113) (by decide)
          refine lv_iload hx hb dX2_valueOf_69 (lv_at hl 0 rfl) ?_
          refine lv_if_eq (tgt := 116) hx hb dX2_valueOf_71 (by decide) (fun c116 => ?_) (fun c116 => ?_)
          · skip
            exact J116 H locs ls v62_5 iv62_5 f62_v9_3 hH hS (lv_sub hl [1, 2, 3, 4, 6] rfl)
          · skip
            exact absurd (iv_eqc (iv_c (by decide) : IV 0 0 0) (iv_c (by decide) : IV 0 0 0)) c116
      have J62_s0_1 : ∀ (H : Heap) (locs : List Loc) (ls : Array Slot) (v62_4 : Int32) (v62_5 : Int32), IV v62_4 (-2147483648) 2147483647 → IV v62_5 136 142 → IV v9_3 0 1599 → th_H D cT T (kd q) H → va_S (th_A T [19]) s.heap H locs → lv_has ls 9 [(0, .ref a0), (1, .int y1), (2, .int v9_2), (3, .int v9_3), (4, .int v62_4), (5, .int v62_5)] → W p l e (rmk 0 0) s m [.ref a0, .int y1].toArray below meth c H locs 0 0 (MQ below (th_Q D cT T (kd q) (th_R T (some (.inl (-2147483648, 2147483647)))) [19]) [.ref a0, .int y1].toArray s 0 0 (th_A T [19])) (F0 m 62 ls [.int 1]) := by
        intro H locs ls v62_4 v62_5 iv62_4 iv62_5 f62_v9_3 hH hS hl
        refine lv_istore (lv' := [(6, .int 1), (0, .ref a0), (1, .int y1), (2, .int v9_2), (3, .int v9_3), (4, .int v62_4), (5, .int v62_5)]) hx hb dX2_valueOf_62 hl (by decide) rfl (fun ls hl => ?_)
        refine lv_iload hx hb dX2_valueOf_64 (lv_at hl 5 rfl) ?_
        refine lv_if_ge (tgt := 74) hx hb dX2_valueOf_66 (by decide) (fun c117 => ?_) (fun c117 => ?_)
        · skip
          have ir118 : IV v62_4 0 2147483647 := iv_vR (iv_c (by decide) : IV 0 0 0) iv62_4 (iv_le c117) (by decide)
          exact J74_l6_1 H locs ls v62_4 v62_5 (iv_top _) iv62_5 f62_v9_3 hH hS (lv_sub hl [1, 2, 3, 4, 5, 6, 0] rfl)
        · skip
          have ir119 : IV v62_4 (-2147483648) (-1) := iv_uL iv62_4 (iv_c (by decide) : IV 0 0 0) (iv_nle c117) (by decide)
          refine lv_iload hx hb dX2_valueOf_69 (lv_at hl 0 rfl) ?_
          refine lv_if_eq (tgt := 116) hx hb dX2_valueOf_71 (by decide) (fun c120 => ?_) (fun c120 => ?_)
          · skip
            exfalso
            have z1 := congrArg Int32.toInt c120
            have z2 := ((iv_c (by decide) : IV 1 1 1)).1
            have z3 := ((iv_c (by decide) : IV 1 1 1)).2
            have z4 := ((iv_c (by decide) : IV 0 0 0)).1
            have z5 := ((iv_c (by decide) : IV 0 0 0)).2
            omega
          · skip
            exact J74_l6_1 H locs ls v62_4 v62_5 (iv_top _) iv62_5 f62_v9_3 hH hS (lv_sub hl [1, 2, 3, 4, 5, 6, 0] rfl)
      have J61 : ∀ (H : Heap) (locs : List Loc) (ls : Array Slot) (v61_4 : Int32) (v61_5 : Int32), IV v61_4 (-2147483648) 2147483647 → IV v61_5 (-2147483648) 2147483647 → IV v9_3 0 1599 → th_H D cT T (kd q) H → va_S (th_A T [19]) s.heap H locs → lv_has ls 9 [(0, .ref a0), (1, .int y1), (2, .int v9_2), (3, .int v9_3), (4, .int v61_4), (5, .int v61_5)] → W p l e (rmk 0 0) s m [.ref a0, .int y1].toArray below meth c H locs 0 0 (MQ below (th_Q D cT T (kd q) (th_R T (some (.inl (-2147483648, 2147483647)))) [19]) [.ref a0, .int y1].toArray s 0 0 (th_A T [19])) (F0 m 61 ls []) := by
        intro H locs ls v61_4 v61_5 iv61_4 iv61_5 f61_v9_3 hH hS hl
        refine lv_iconst (v := 0) hx hb dX2_valueOf_61 (by decide) ?_
        exact J62_s0_0 H locs ls v61_4 v61_5 iv61_4 iv61_5 f61_v9_3 hH hS (lv_sub hl [0, 1, 2, 3, 4, 5] rfl)
      refine lv_iload_n hx hb dX2_valueOf_9 rfl (lv_at hl 3 rfl) ?_
      refine lv_aload_n hx hb dX2_valueOf_10 rfl (lv_at hl 0 rfl) ?_
      refine th_get S hK hH inG2 t0 kd_9 rfl 2 (by decide) gm_196 rfl rfl dX2_valueOf_11 (fun v121 hv121 fv121 => ?_)
      obtain ⟨rf122, rfl, trf122⟩ := th_V.ref hv121
      refine lv_iload_n hx hb dX2_valueOf_14 rfl (lv_at hl 1 rfl) ?_
      refine th_iald S hK hH trf122 kd_17 (th_in (hi := 4) j1 (by decide)) dX2_valueOf_15 (fun v123 hv123 => ?_)
      obtain ⟨x124, rfl, ix124⟩ := th_V.int hv123
      refine lv_icmp_ge (tgt := 490) hx hb dX2_valueOf_16 (by decide) (fun c125 => ?_) (fun c125 => ?_)
      · skip
        exact J490 H locs ls v9_2 iv9_2 hH hS (lv_sub hl [0, 2] rfl)
      · skip
        have ir126 : IV v9_3 0 1599 := iv_uL iv9_3 ix124 (iv_nle c125) (by decide)
        have ir127 : IV x124 1 1600 := iv_uR iv9_3 ix124 (iv_nle c125) (by decide)
        refine lv_iload_n hx hb dX2_valueOf_19 rfl (lv_at hl 3 rfl) ?_
        refine lv_aload_n hx hb dX2_valueOf_20 rfl (lv_at hl 0 rfl) ?_
        refine th_get S hK hH inG2 t0 kd_9 rfl 0 (by decide) gm_194 rfl rfl dX2_valueOf_21 (fun v128 hv128 fv128 => ?_)
        obtain ⟨rf129, rfl, trf129⟩ := th_V.ref hv128
        refine th_alen S hK hH trf129 kd_15 rfl (v := 1600) (by decide) dX2_valueOf_24 ?_
        refine lv_icmp_ge (tgt := 490) hx hb dX2_valueOf_25 (by decide) (fun c130 => ?_) (fun c130 => ?_)
        · skip
          exfalso
          have z1 := iv_le c130
          have z2 := (ir126).1
          have z3 := (ir126).2
          have z4 := ((iv_c (by decide) : IV 1600 1600 1600)).1
          have z5 := ((iv_c (by decide) : IV 1600 1600 1600)).2
          omega
        · skip
          refine lv_aload_n hx hb dX2_valueOf_28 rfl (lv_at hl 0 rfl) ?_
          refine th_getK S hK fv128 inG2 rfl (by decide) gm_194 rfl dX2_valueOf_29 ?_
          refine lv_iload_n hx hb dX2_valueOf_32 rfl (lv_at hl 3 rfl) ?_
          refine th_iald S hK hH trf129 kd_15 (th_in (hi := 1599) ir126 (by decide)) dX2_valueOf_33 (fun v132 hv132 => ?_)
          obtain ⟨x133, rfl, ix133⟩ := th_V.int hv132
          refine lv_istore (lv' := [(4, .int x133), (0, .ref a0), (1, .int y1), (2, .int v9_2), (3, .int v9_3)]) hx hb dX2_valueOf_34 hl (by decide) rfl (fun ls hl => ?_)
          refine lv_iload hx hb dX2_valueOf_36 (lv_at hl 0 rfl) ?_
          refine lv_ineg hx hb dX2_valueOf_38 ?_
          refine lv_topi (fun x134 ex134 => ?_)
          have ix134 := iv_top x134
          refine lv_istore (lv' := [(5, .int x134), (4, .int x133), (0, .ref a0), (1, .int y1), (2, .int v9_2), (3, .int v9_3)]) hx hb dX2_valueOf_39 hl (by decide) rfl (fun ls hl => ?_)
          refine lv_iload hx hb dX2_valueOf_41 (lv_at hl 0 rfl) ?_
          refine lv_sipush (v := 136) hx hb dX2_valueOf_43 (by decide) ?_
          refine lv_icmp_lt (tgt := 61) hx hb dX2_valueOf_46 (by decide) (fun c135 => ?_) (fun c135 => ?_)
          · skip
            have ir136 : IV x134 (-2147483648) 135 := iv_uL ix134 (iv_c (by decide) : IV 136 136 136) (iv_lt c135) (by decide)
            exact J61 H locs ls x133 x134 ix133 (iv_top _) ir126 hH hS (lv_sub hl [2, 3, 4, 5, 1, 0] rfl)
          · skip
            have ir137 : IV x134 136 2147483647 := iv_vR (iv_c (by decide) : IV 136 136 136) ix134 (iv_nlt c135) (by decide)
            refine lv_iload hx hb dX2_valueOf_49 (lv_at hl 0 rfl) ?_
            refine lv_sipush (v := 142) hx hb dX2_valueOf_51 (by decide) ?_
            refine lv_icmp_gt (tgt := 61) hx hb dX2_valueOf_54 (by decide) (fun c138 => ?_) (fun c138 => ?_)
            · skip
              have ir139 : IV x134 143 2147483647 := iv_uR (iv_c (by decide) : IV 142 142 142) ir137 (iv_lt c138) (by decide)
              exact J61 H locs ls x133 x134 ix133 (iv_top _) ir126 hH hS (lv_sub hl [2, 3, 4, 5, 1, 0] rfl)
            · skip
              have ir140 : IV x134 136 142 := iv_vL ir137 (iv_c (by decide) : IV 142 142 142) (iv_nlt c138) (by decide)
              refine lv_iconst (v := 1) hx hb dX2_valueOf_57 (by decide) ?_
              refine lv_goto (tgt := 62) hx hb dX2_valueOf_58 (by decide) ?_
              exact J62_s0_1 H locs ls x133 x134 ix133 ir140 ir126 hH hS (lv_sub hl [2, 3, 4, 5, 1, 0] rfl)
  have J0 : ∀ (H : Heap) (locs : List Loc) (ls : Array Slot), th_H D cT T (kd q) H → va_S (th_A T [19]) s.heap H locs → lv_has ls 9 [(0, .ref a0), (1, .int y1)] → W p l e (rmk 0 0) s m [.ref a0, .int y1].toArray below meth c H locs 0 0 (MQ below (th_Q D cT T (kd q) (th_R T (some (.inl (-2147483648, 2147483647)))) [19]) [.ref a0, .int y1].toArray s 0 0 (th_A T [19])) (F0 m 0 ls []) := by
    intro H locs ls hH hS hl
    refine lv_iconst (v := 0) hx hb dX2_valueOf_0 (by decide) ?_
    refine lv_istore_n (lv' := [(2, .int 0), (0, .ref a0), (1, .int y1)]) hx hb dX2_valueOf_1 rfl hl (by decide) rfl (fun ls hl => ?_)
    refine lv_aload_n hx hb dX2_valueOf_2 rfl (lv_at hl 1 rfl) ?_
    refine th_get S hK hH inG2 t0 kd_9 rfl 1 (by decide) gm_195 rfl rfl dX2_valueOf_3 (fun v141 hv141 fv141 => ?_)
    obtain ⟨rf142, rfl, trf142⟩ := th_V.ref hv141
    refine lv_iload_n hx hb dX2_valueOf_6 rfl (lv_at hl 2 rfl) ?_
    refine th_iald S hK hH trf142 kd_16 (th_in (hi := 4) j1 (by decide)) dX2_valueOf_7 (fun v143 hv143 => ?_)
    obtain ⟨x144, rfl, ix144⟩ := th_V.int hv143
    refine lv_istore_n (lv' := [(3, .int x144), (2, .int 0), (0, .ref a0), (1, .int y1)]) hx hb dX2_valueOf_8 rfl hl (by decide) rfl (fun ls hl => ?_)
    exact J9 ((1600 + 1 - Int32.toInt x144).toNat + 1) H locs ls 0 x144 (iv_w (iv_c (by decide) : IV 0 0 0) (by decide)) ix144 hH hS (lv_sub hl [2, 3, 1, 0] rfl) (Nat.lt_succ_self _)
  exact J0 s.heap [] ls hH va_S.rf hl

set_option maxRecDepth 100000 in
theorem m_X0_bitingBorders (l : Launch) (D : va_G) (cT : Nat → ClassId) (T : Nat → Option Nat) (q : Nat → Int) (hq : qok q) (a0 : Nat) (t0 : T a0 = some 4) (a1 : Nat) (t1 : T a1 = some 10) (y2 : Int32) (j2 : IV y2 0 3) : th_Met l D cT T (kd q) yX0_bitingBorders cX0_bitingBorders 7 (some .int) (rmk 0 0) [.ref a0, .ref a1, .int y2] (th_R T (some (.inl (-2147483648, 2147483647)))) [] := by
  refine th_start (by decide) (Nat.le_of_ble_eq_true rfl) ?_
  intro p e s m below meth c ls S hK hH hr hlocks hnm hl
  have hx := S.1
  have hb := S.2.1
  have hl : lv_has ls 7 [(0, .ref a0), (1, .ref a1), (2, .int y2)] := hl
  have J26 : ∀ (n : Nat) (H : Heap) (locs : List Loc) (ls : Array Slot) (v26_3 : Int32) (v26_4 : Int32) (v26_5 : Int32), IV v26_3 (-2147483648) 2147483647 → IV v26_4 (-2147483648) 2147483647 → IV v26_5 0 4 → th_H D cT T (kd q) H → va_S (th_A T []) s.heap H locs → lv_has ls 7 [(0, .ref a0), (1, .ref a1), (2, .int y2), (3, .int v26_3), (4, .int v26_4), (5, .int v26_5)] → (4 + 1 - v26_5.toInt).toNat < n → W p l e (rmk 0 0) s m [.ref a0, .ref a1, .int y2].toArray below meth c H locs 0 0 (MQ below (th_Q D cT T (kd q) (th_R T (some (.inl (-2147483648, 2147483647)))) []) [.ref a0, .ref a1, .int y2].toArray s 0 0 (th_A T [])) (F0 m 26 ls []) := by
    intro n
    induction n with
    | zero => intro H locs ls v26_3 v26_4 v26_5 iv26_3 iv26_4 iv26_5 hH hS hl hn; exact absurd hn (Nat.not_lt_zero _)
    | succ n ih26 =>
      intro H locs ls v26_3 v26_4 v26_5 iv26_3 iv26_4 iv26_5 hH hS hl hn26
      have J94 : ∀ (H : Heap) (locs : List Loc) (ls : Array Slot) (v94_4 : Int32), IV v94_4 (-2147483648) 2147483647 → IV v26_5 0 3 → th_H D cT T (kd q) H → va_S (th_A T []) s.heap H locs → lv_has ls 7 [(0, .ref a0), (1, .ref a1), (2, .int y2), (3, .int v26_3), (4, .int v94_4), (5, .int v26_5)] → W p l e (rmk 0 0) s m [.ref a0, .ref a1, .int y2].toArray below meth c H locs 0 0 (MQ below (th_Q D cT T (kd q) (th_R T (some (.inl (-2147483648, 2147483647)))) []) [.ref a0, .ref a1, .int y2].toArray s 0 0 (th_A T [])) (F0 m 94 ls []) := by
        intro H locs ls v94_4 iv94_4 f94_v26_5 hH hS hl
        refine th_iinc S dX0_bitingBorders_94 hl (k := 5) rfl (by decide) f94_v26_5 (by decide) (fun x1 ls ex1 ix1 hl => ?_)
        have hl : lv_has ls 7 [(5, .int x1), (0, .ref a0), (1, .ref a1), (2, .int y2), (3, .int v26_3), (4, .int v94_4)] := hl
        have ix1 : IV x1 1 4 := ix1
        refine lv_goto (tgt := 26) hx hb dX0_bitingBorders_97 (by decide) ?_
        exact ih26 H locs ls v26_3 v94_4 x1 iv26_3 iv94_4 (iv_w ix1 (by decide)) hH hS (lv_sub hl [1, 2, 3, 4, 5, 0] rfl) (th_up iv26_5 ex1 (by decide) hn26)
      have J65_s0_0 : ∀ (H : Heap) (locs : List Loc) (ls : Array Slot), IV v26_5 0 3 → th_H D cT T (kd q) H → va_S (th_A T []) s.heap H locs → lv_has ls 7 [(0, .ref a0), (1, .ref a1), (2, .int y2), (3, .int v26_3), (4, .int v26_4), (5, .int v26_5)] → W p l e (rmk 0 0) s m [.ref a0, .ref a1, .int y2].toArray below meth c H locs 0 0 (MQ below (th_Q D cT T (kd q) (th_R T (some (.inl (-2147483648, 2147483647)))) []) [.ref a0, .ref a1, .int y2].toArray s 0 0 (th_A T [])) (F0 m 65 ls [.int 0]) := by
        intro H locs ls f65_v26_5 hH hS hl
        refine lv_istore (lv' := [(6, .int 0), (0, .ref a0), (1, .ref a1), (2, .int y2), (3, .int v26_3), (4, .int v26_4), (5, .int v26_5)]) hx hb dX0_bitingBorders_65 hl (by decide) rfl (fun ls hl => ?_)
        refine lv_iload hx hb dX0_bitingBorders_67 (lv_at hl 0 rfl) ?_
        refine lv_if_eq (tgt := 94) hx hb dX0_bitingBorders_69 (by decide) (fun c2 => ?_) (fun c2 => ?_)
        · skip
          exact J94 H locs ls v26_4 iv26_4 f65_v26_5 hH hS (lv_sub hl [1, 2, 3, 4, 5, 6] rfl)
        · skip
          exact absurd (iv_eqc (iv_c (by decide) : IV 0 0 0) (iv_c (by decide) : IV 0 0 0)) c2
      have J65_s0_1 : ∀ (H : Heap) (locs : List Loc) (ls : Array Slot), IV v26_5 0 3 → th_H D cT T (kd q) H → va_S (th_A T []) s.heap H locs → lv_has ls 7 [(0, .ref a0), (1, .ref a1), (2, .int y2), (3, .int v26_3), (4, .int v26_4), (5, .int v26_5)] → W p l e (rmk 0 0) s m [.ref a0, .ref a1, .int y2].toArray below meth c H locs 0 0 (MQ below (th_Q D cT T (kd q) (th_R T (some (.inl (-2147483648, 2147483647)))) []) [.ref a0, .ref a1, .int y2].toArray s 0 0 (th_A T [])) (F0 m 65 ls [.int 1]) := by
        intro H locs ls f65_v26_5 hH hS hl
        refine lv_istore (lv' := [(6, .int 1), (0, .ref a0), (1, .ref a1), (2, .int y2), (3, .int v26_3), (4, .int v26_4), (5, .int v26_5)]) hx hb dX0_bitingBorders_65 hl (by decide) rfl (fun ls hl => ?_)
        refine lv_iload hx hb dX0_bitingBorders_67 (lv_at hl 0 rfl) ?_
        refine lv_if_eq (tgt := 94) hx hb dX0_bitingBorders_69 (by decide) (fun c3 => ?_) (fun c3 => ?_)
        · skip
          exfalso
          have z1 := congrArg Int32.toInt c3
          have z2 := ((iv_c (by decide) : IV 1 1 1)).1
          have z3 := ((iv_c (by decide) : IV 1 1 1)).2
          have z4 := ((iv_c (by decide) : IV 0 0 0)).1
          have z5 := ((iv_c (by decide) : IV 0 0 0)).2
          omega
        · skip
          refine lv_aload_n hx hb dX0_bitingBorders_72 rfl (lv_at hl 1 rfl) ?_
          refine th_get S hK hH inG0 t0 kd_4 rfl 0 (by decide) gm_369 rfl rfl dX0_bitingBorders_73 (fun v4 hv4 fv4 => ?_)
          obtain ⟨rf5, rfl, trf5⟩ := th_V.ref hv4
          refine th_get S hK hH inG4 trf5 kd_3 rfl 7 (by decide) gm_258 rfl rfl dX0_bitingBorders_76 (fun v6 hv6 fv6 => ?_)
          obtain ⟨rf7, rfl, trf7⟩ := th_V.ref hv6
          refine lv_iload_n hx hb dX0_bitingBorders_79 rfl (lv_at hl 3 rfl) ?_
          refine th_iald S hK hH trf7 kd_27 (th_in (hi := 3) j2 (by decide)) dX0_bitingBorders_80 (fun v8 hv8 => ?_)
          obtain ⟨x9, rfl, ix9⟩ := th_V.int hv8
          refine lv_iload_n hx hb dX0_bitingBorders_81 rfl (lv_at hl 4 rfl) ?_
          refine lv_iand hx hb dX0_bitingBorders_82 ?_
          refine lv_topi (fun x10 ex10 => ?_)
          have ix10 := iv_top x10
          refine lv_iconst (v := 1) hx hb dX0_bitingBorders_83 (by decide) ?_
          refine lv_iload hx hb dX0_bitingBorders_84 (lv_at hl 6 rfl) ?_
          refine lv_ishl hx hb dX0_bitingBorders_86 ?_
          refine lv_topi (fun x11 ex11 => ?_)
          have ix11 := iv_top x11
          refine lv_iand hx hb dX0_bitingBorders_87 ?_
          refine lv_topi (fun x12 ex12 => ?_)
          have ix12 := iv_top x12
          refine lv_if_eq (tgt := 94) hx hb dX0_bitingBorders_88 (by decide) (fun c13 => ?_) (fun c13 => ?_)
          · skip
            have ir14 : IV x12 0 0 := iv_eL c13 (iv_c (by decide) : IV 0 0 0)
            exact J94 H locs ls v26_4 iv26_4 f65_v26_5 hH hS (lv_sub hl [1, 2, 3, 4, 5, 6] rfl)
          · skip
            obtain ⟨x15, ex15⟩ : ∃ z : Int32, z = v26_4 + Int32.ofInt 1 := ⟨_, rfl⟩
            refine lv_iinc (v := x15) (lv' := [(4, .int x15), (6, .int 1), (0, .ref a0), (1, .ref a1), (2, .int y2), (3, .int v26_3), (5, .int v26_5)]) hx hb dX0_bitingBorders_91 hl (k := 5) rfl (by rw [ex15]) (by decide) rfl (fun ls hl => ?_)
            have ix15 := iv_top x15
            exact J94 H locs ls x15 ix15 f65_v26_5 hH hS (lv_sub hl [2, 3, 4, 5, 0, 6] rfl)
      refine lv_iload hx hb dX0_bitingBorders_26 (lv_at hl 5 rfl) ?_
      refine lv_aload_n hx hb dX0_bitingBorders_28 rfl (lv_at hl 0 rfl) ?_
      refine th_get S hK hH inG0 t0 kd_4 rfl 0 (by decide) gm_369 rfl rfl dX0_bitingBorders_29 (fun v16 hv16 fv16 => ?_)
      obtain ⟨rf17, rfl, trf17⟩ := th_V.ref hv16
      refine th_get S hK hH inG4 trf17 kd_3 rfl 12 (by decide) gm_279 rfl rfl dX0_bitingBorders_32 (fun v18 hv18 fv18 => ?_)
      obtain ⟨x19, rfl, ix19⟩ := th_V.int hv18
      refine lv_icmp_ge (tgt := 100) hx hb dX0_bitingBorders_35 (by decide) (fun c20 => ?_) (fun c20 => ?_)
      · skip
        refine lv_iload hx hb dX0_bitingBorders_100 (lv_at hl 4 rfl) ?_
        exact th_iret S hK hH hS hr hlocks (th_R.i iv26_4) dX0_bitingBorders_102
      · skip
        have ir21 : IV v26_5 0 3 := iv_uL iv26_5 ix19 (iv_nle c20) (by decide)
        have ir22 : IV x19 1 4 := iv_uR iv26_5 ix19 (iv_nle c20) (by decide)
        refine lv_aload_n hx hb dX0_bitingBorders_38 rfl (lv_at hl 1 rfl) ?_
        refine th_get S hK hH inG7 t1 kd_10 rfl 0 (by decide) gm_226 rfl rfl dX0_bitingBorders_39 (fun v23 hv23 fv23 => ?_)
        obtain ⟨rf24, rfl, trf24⟩ := th_V.ref hv23
        refine lv_bipush (v := 35) hx hb dX0_bitingBorders_42 (by decide) ?_
        refine lv_iload hx hb dX0_bitingBorders_44 (lv_at hl 5 rfl) ?_
        refine lv_iadd hx hb dX0_bitingBorders_46 ?_
        refine lv_topi (fun x25 ex25 => ?_)
        have ix25 : IV x25 35 38 := by rw [ex25]; exact iv_add (iv_c (by decide) : IV 35 35 35) ir21 (by decide)
        refine th_iald S hK hH trf24 kd_29 (th_in (hi := 38) (iv_w ix25 (by decide)) (by decide)) dX0_bitingBorders_47 (fun v26 hv26 => ?_)
        obtain ⟨x27, rfl, ix27⟩ := th_V.int hv26
        refine lv_aload_n hx hb dX0_bitingBorders_48 rfl (lv_at hl 1 rfl) ?_
        refine th_getK S hK fv23 inG7 rfl (by decide) gm_226 rfl dX0_bitingBorders_49 ?_
        refine lv_bipush (v := 35) hx hb dX0_bitingBorders_52 (by decide) ?_
        refine lv_iload_n hx hb dX0_bitingBorders_54 rfl (lv_at hl 2 rfl) ?_
        refine lv_iadd hx hb dX0_bitingBorders_55 ?_
        refine lv_topi (fun x29 ex29 => ?_)
        have ix29 : IV x29 35 38 := by rw [ex29]; exact iv_add (iv_c (by decide) : IV 35 35 35) j2 (by decide)
        refine th_iald S hK hH trf24 kd_29 (th_in (hi := 38) (iv_w ix29 (by decide)) (by decide)) dX0_bitingBorders_56 (fun v30 hv30 => ?_)
        obtain ⟨x31, rfl, ix31⟩ := th_V.int hv30
        refine lv_icmp_ne (tgt := 64) hx hb dX0_bitingBorders_57 (by decide) (fun c32 => ?_) (fun c32 => ?_)
        · skip
          refine lv_iconst (v := 0) hx hb dX0_bitingBorders_64 (by decide) ?_
          exact J65_s0_0 H locs ls ir21 hH hS (lv_sub hl [0, 1, 2, 3, 4, 5] rfl)
        · skip
          refine lv_iconst (v := 1) hx hb dX0_bitingBorders_60 (by decide) ?_
          refine lv_goto (tgt := 65) hx hb dX0_bitingBorders_61 (by decide) ?_
          exact J65_s0_1 H locs ls ir21 hH hS (lv_sub hl [0, 1, 2, 3, 4, 5] rfl)
  have J0 : ∀ (H : Heap) (locs : List Loc) (ls : Array Slot), th_H D cT T (kd q) H → va_S (th_A T []) s.heap H locs → lv_has ls 7 [(0, .ref a0), (1, .ref a1), (2, .int y2)] → W p l e (rmk 0 0) s m [.ref a0, .ref a1, .int y2].toArray below meth c H locs 0 0 (MQ below (th_Q D cT T (kd q) (th_R T (some (.inl (-2147483648, 2147483647)))) []) [.ref a0, .ref a1, .int y2].toArray s 0 0 (th_A T [])) (F0 m 0 ls []) := by
    intro H locs ls hH hS hl
    refine lv_aload_n hx hb dX0_bitingBorders_0 rfl (lv_at hl 1 rfl) ?_
    refine th_get S hK hH inG7 t1 kd_10 rfl 0 (by decide) gm_226 rfl rfl dX0_bitingBorders_1 (fun v33 hv33 fv33 => ?_)
    obtain ⟨rf34, rfl, trf34⟩ := th_V.ref hv33
    refine lv_bipush (v := 39) hx hb dX0_bitingBorders_4 (by decide) ?_
    refine th_iald S hK hH trf34 kd_29 (th_in (hi := 39) (iv_w (iv_c (by decide) : IV 39 39 39) (by decide)) (by decide)) dX0_bitingBorders_6 (fun v35 hv35 => ?_)
    obtain ⟨x36, rfl, ix36⟩ := th_V.int hv35
    refine lv_iconst (v := (-1)) hx hb dX0_bitingBorders_7 (by decide) ?_
    refine lv_ixor hx hb dX0_bitingBorders_8 ?_
    refine lv_topi (fun x37 ex37 => ?_)
    have ix37 := iv_top x37
    refine lv_istore_n (lv' := [(3, .int x37), (0, .ref a0), (1, .ref a1), (2, .int y2)]) hx hb dX0_bitingBorders_9 rfl hl (by decide) rfl (fun ls hl => ?_)
    refine lv_iload_n hx hb dX0_bitingBorders_10 rfl (lv_at hl 0 rfl) ?_
    refine lv_iload_n hx hb dX0_bitingBorders_11 rfl (lv_at hl 3 rfl) ?_
    refine lv_ishr hx hb dX0_bitingBorders_12 ?_
    refine lv_topi (fun x38 ex38 => ?_)
    have ix38 := iv_top x38
    refine lv_iconst (v := 1) hx hb dX0_bitingBorders_13 (by decide) ?_
    refine lv_iand hx hb dX0_bitingBorders_14 ?_
    refine lv_topi (fun x39 ex39 => ?_)
    have ix39 : IV x39 0 1 := by rw [ex39]; exact iv_and (h2 := 1) (iv_w (iv_c (by decide) : IV 1 1 1) (by decide)) (by decide)
    refine lv_if_ne (tgt := 20) hx hb dX0_bitingBorders_15 (by decide) (fun c40 => ?_) (fun c40 => ?_)
    · skip
      have ir41 : IV x39 1 1 := iv_cutL ix39 (iv_c (by decide) : IV 0 0 0) c40 (by decide)
      refine lv_iconst (v := 0) hx hb dX0_bitingBorders_20 (by decide) ?_
      refine lv_istore (lv' := [(4, .int 0), (3, .int x37), (0, .ref a0), (1, .ref a1), (2, .int y2)]) hx hb dX0_bitingBorders_21 hl (by decide) rfl (fun ls hl => ?_)
      refine lv_iconst (v := 0) hx hb dX0_bitingBorders_23 (by decide) ?_
      refine lv_istore (lv' := [(5, .int 0), (4, .int 0), (3, .int x37), (0, .ref a0), (1, .ref a1), (2, .int y2)]) hx hb dX0_bitingBorders_24 hl (by decide) rfl (fun ls hl => ?_)
      exact J26 ((4 + 1 - Int32.toInt 0).toNat + 1) H locs ls x37 0 0 ix37 (iv_top _) (iv_w (iv_c (by decide) : IV 0 0 0) (by decide)) hH hS (lv_sub hl [3, 4, 5, 2, 1, 0] rfl) (Nat.lt_succ_self _)
    · skip
      have ir42 : IV x39 0 0 := iv_eL c40 (iv_c (by decide) : IV 0 0 0)
      refine lv_iconst (v := 0) hx hb dX0_bitingBorders_18 (by decide) ?_
      exact th_iret S hK hH hS hr hlocks (th_R.i (iv_top _)) dX0_bitingBorders_19
  exact J0 s.heap [] ls hH va_S.rf hl

set_option maxRecDepth 100000 in
theorem m_X0_hungerOf (l : Launch) (D : va_G) (cT : Nat → ClassId) (T : Nat → Option Nat) (q : Nat → Int) (hq : qok q) (a0 : Nat) (t0 : T a0 = some 4) (a1 : Nat) (t1 : T a1 = some 10) (y2 : Int32) (j2 : IV y2 0 3) : th_Met l D cT T (kd q) yX0_hungerOf cX0_hungerOf 4 (some .int) (rmk 1 28) [.ref a0, .ref a1, .int y2] (th_R T (some (.inl (-2147483648, 99)))) [18, 19] := by
  refine th_start (by decide) (Nat.le_of_ble_eq_true rfl) ?_
  intro p e s m below meth c ls S hK hH hr hlocks hnm hl
  have hx := S.1
  have hb := S.2.1
  have hl : lv_has ls 4 [(0, .ref a0), (1, .ref a1), (2, .int y2)] := hl
  have J0 : ∀ (H : Heap) (locs : List Loc) (ls : Array Slot), th_H D cT T (kd q) H → va_S (th_A T [18, 19]) s.heap H locs → lv_has ls 4 [(0, .ref a0), (1, .ref a1), (2, .int y2)] → W p l e (rmk 1 28) s m [.ref a0, .ref a1, .int y2].toArray below meth c H locs 0 0 (MQ below (th_Q D cT T (kd q) (th_R T (some (.inl (-2147483648, 99)))) [18, 19]) [.ref a0, .ref a1, .int y2].toArray s 0 0 (th_A T [18, 19])) (F0 m 0 ls []) := by
    intro H locs ls hH hS hl
    refine lv_aload_n hx hb dX0_hungerOf_0 rfl (lv_at hl 1 rfl) ?_
    refine th_get S hK hH inG7 t1 kd_10 rfl 0 (by decide) gm_226 rfl rfl dX0_hungerOf_1 (fun v1 hv1 fv1 => ?_)
    obtain ⟨rf2, rfl, trf2⟩ := th_V.ref hv1
    refine lv_bipush (v := 39) hx hb dX0_hungerOf_4 (by decide) ?_
    refine th_iald S hK hH trf2 kd_29 (th_in (hi := 39) (iv_w (iv_c (by decide) : IV 39 39 39) (by decide)) (by decide)) dX0_hungerOf_6 (fun v3 hv3 => ?_)
    obtain ⟨x4, rfl, ix4⟩ := th_V.int hv3
    refine lv_iload_n hx hb dX0_hungerOf_7 rfl (lv_at hl 2 rfl) ?_
    refine lv_ishr hx hb dX0_hungerOf_8 ?_
    refine lv_topi (fun x5 ex5 => ?_)
    have ix5 := iv_top x5
    refine lv_iconst (v := 1) hx hb dX0_hungerOf_9 (by decide) ?_
    refine lv_iand hx hb dX0_hungerOf_10 ?_
    refine lv_topi (fun x6 ex6 => ?_)
    have ix6 : IV x6 0 1 := by rw [ex6]; exact iv_and (h2 := 1) (iv_w (iv_c (by decide) : IV 1 1 1) (by decide)) (by decide)
    refine lv_if_eq (tgt := 16) hx hb dX0_hungerOf_11 (by decide) (fun c7 => ?_) (fun c7 => ?_)
    · skip
      have ir8 : IV x6 0 0 := iv_eL c7 (iv_c (by decide) : IV 0 0 0)
      refine lv_aload_n hx hb dX0_hungerOf_16 rfl (lv_at hl 0 rfl) ?_
      refine lv_aload_n hx hb dX0_hungerOf_17 rfl (lv_at hl 1 rfl) ?_
      refine lv_iload_n hx hb dX0_hungerOf_18 rfl (lv_at hl 2 rfl) ?_
      refine lv_iconst (v := 0) hx hb dX0_hungerOf_19 (by decide) ?_
      refine lv_iconst (v := 0) hx hb dX0_hungerOf_20 (by decide) ?_
      refine lv_iconst (v := 0) hx hb dX0_hungerOf_21 (by decide) ?_
      refine th_callVv (n := 5) (As := [.ref a1, .int y2, .int 0, .int 0, .int 0]) S hK hH hS (th_A.sub (by decide)) (m_X0_setInputs l D cT T q hq a0 t0 a1 t1 (y2) j2 (0) (iv_top _) (0) (iv_top _) (0) (iv_top _)) gm_844 gm_841 gm_843 gm_25 gm_119 (by decide +kernel) ⟨rfl, rfl, Nat.le_of_ble_eq_true rfl, Nat.le_of_ble_eq_true rfl⟩ t0 kd_4 rfl rfl hl.1 rfl (Nat.le_of_ble_eq_true rfl) dX0_hungerOf_22 ⟨Nat.zero_le _, Nat.zero_le _⟩ (fun H locs hH hS hF1 => ?_)
      refine lv_bipush (v := 99) hx hb dX0_hungerOf_25 (by decide) ?_
      refine lv_iconst (v := 0) hx hb dX0_hungerOf_27 (by decide) ?_
      refine lv_aload_n hx hb dX0_hungerOf_28 rfl (lv_at hl 0 rfl) ?_
      refine th_get S hK hH inG0 t0 kd_4 rfl 0 (by decide) gm_369 rfl rfl dX0_hungerOf_29 (fun v9 hv9 fv9 => ?_)
      obtain ⟨rf10, rfl, trf10⟩ := th_V.ref hv9
      refine th_get S hK hH inG4 trf10 kd_3 rfl 9 (by decide) gm_268 rfl rfl dX0_hungerOf_32 (fun v11 hv11 fv11 => ?_)
      obtain ⟨rf12, rfl, trf12⟩ := th_V.ref hv11
      refine lv_iload_n hx hb dX0_hungerOf_35 rfl (lv_at hl 2 rfl) ?_
      refine th_callVi (n := 1) (As := [.int y2]) S hK hH hS (th_A.sub (by decide)) (m_X2_valueOf l D cT T q hq rf12 trf12 (y2) (iv_w j2 (by decide))) gm_848 gm_845 gm_846 gm_847 gm_117 (by decide +kernel) ⟨rfl, rfl, Nat.le_of_ble_eq_true rfl, Nat.le_of_ble_eq_true rfl⟩ trf12 kd_9 rfl rfl hl.1 rfl (Nat.le_of_ble_eq_true rfl) dX0_hungerOf_36 ⟨Nat.zero_le _, Nat.zero_le _⟩ (fun x13 H locs ix13 hH hS hF1 => ?_)
      refine va_mmax hx hb (S.2.2.1.trans hl.1.symm) S.2.2.2.1 (S.2.2.2.2 _ gm_849) (S.2.2.2.2 _ gm_625) (S.2.2.2.2 _ gm_129) (S.2.2.2.2 _ gm_626) (Nat.le_of_ble_eq_true rfl) (Nat.le_of_ble_eq_true rfl) (Nat.zero_le _) (Nat.zero_le _) dX0_hungerOf_39 ?_
      refine lv_topi (fun x14 ex14 => ?_)
      have ix14 : IV x14 0 2147483647 := by rw [ex14]; exact iv_max (iv_c (by decide) : IV 0 0 0) ix13 (by decide)
      refine va_mmin hx hb (S.2.2.1.trans hl.1.symm) S.2.2.2.1 (S.2.2.2.2 _ gm_850) (S.2.2.2.2 _ gm_649) (S.2.2.2.2 _ gm_129) (S.2.2.2.2 _ gm_650) (Nat.le_of_ble_eq_true rfl) (Nat.le_of_ble_eq_true rfl) (Nat.zero_le _) (Nat.zero_le _) dX0_hungerOf_42 ?_
      refine lv_topi (fun x15 ex15 => ?_)
      have ix15 : IV x15 0 99 := by rw [ex15]; exact iv_min (iv_c (by decide) : IV 99 99 99) ix14 (by decide)
      refine lv_istore_n (lv' := [(3, .int x15), (0, .ref a0), (1, .ref a1), (2, .int y2)]) hx hb dX0_hungerOf_45 rfl hl (by decide) rfl (fun ls hl => ?_)
      refine lv_bipush (v := 99) hx hb dX0_hungerOf_46 (by decide) ?_
      refine lv_iload_n hx hb dX0_hungerOf_48 rfl (lv_at hl 0 rfl) ?_
      refine lv_iconst (v := 2) hx hb dX0_hungerOf_49 (by decide) ?_
      refine lv_aload_n hx hb dX0_hungerOf_50 rfl (lv_at hl 1 rfl) ?_
      refine lv_aload_n hx hb dX0_hungerOf_51 rfl (lv_at hl 2 rfl) ?_
      refine lv_iload_n hx hb dX0_hungerOf_52 rfl (lv_at hl 3 rfl) ?_
      refine th_callVi (n := 2) (As := [.ref a1, .int y2]) S hK hH hS (th_A.sub (by decide)) (m_X0_bitingBorders l D cT T q hq a0 t0 a1 t1 (y2) j2) gm_854 gm_851 gm_852 gm_853 gm_119 (by decide +kernel) ⟨rfl, rfl, Nat.le_of_ble_eq_true rfl, Nat.le_of_ble_eq_true rfl⟩ t0 kd_4 rfl rfl hl.1 rfl (Nat.le_of_ble_eq_true rfl) dX0_hungerOf_53 ⟨Nat.zero_le _, Nat.zero_le _⟩ (fun x16 H locs ix16 hH hS hF1 => ?_)
      refine lv_imul hx hb dX0_hungerOf_56 ?_
      refine lv_topi (fun x17 ex17 => ?_)
      have ix17 := iv_top x17
      refine lv_iadd hx hb dX0_hungerOf_57 ?_
      refine lv_topi (fun x18 ex18 => ?_)
      have ix18 := iv_top x18
      refine va_mmin hx hb (S.2.2.1.trans hl.1.symm) S.2.2.2.1 (S.2.2.2.2 _ gm_850) (S.2.2.2.2 _ gm_649) (S.2.2.2.2 _ gm_129) (S.2.2.2.2 _ gm_650) (Nat.le_of_ble_eq_true rfl) (Nat.le_of_ble_eq_true rfl) (Nat.zero_le _) (Nat.zero_le _) dX0_hungerOf_58 ?_
      refine lv_topi (fun x19 ex19 => ?_)
      have ix19 : IV x19 (-2147483648) 99 := by rw [ex19]; exact iv_min (iv_c (by decide) : IV 99 99 99) ix18 (by decide)
      exact th_iret S hK hH hS hr hlocks (th_R.i ix19) dX0_hungerOf_61
    · skip
      have ir20 : IV x6 1 1 := iv_cutL ix6 (iv_c (by decide) : IV 0 0 0) c7 (by decide)
      refine lv_iconst (v := 0) hx hb dX0_hungerOf_14 (by decide) ?_
      exact th_iret S hK hH hS hr hlocks (th_R.i (iv_w (iv_c (by decide) : IV 0 0 0) (by decide))) dX0_hungerOf_15
  exact J0 s.heap [] ls hH va_S.rf hl

set_option maxRecDepth 100000 in
theorem m_X0_givenTo (l : Launch) (D : va_G) (cT : Nat → ClassId) (T : Nat → Option Nat) (q : Nat → Int) (hq : qok q) (a0 : Nat) (t0 : T a0 = some 4) (a1 : Nat) (t1 : T a1 = some 10) (y2 : Int32) (j2 : IV y2 0 3) : th_Met l D cT T (kd q) yX0_givenTo cX0_givenTo 6 (some .int) (rmk 0 0) [.ref a0, .ref a1, .int y2] (th_R T (some (.inl (-2147483648, 2147483647)))) [] := by
  refine th_start (by decide) (Nat.le_of_ble_eq_true rfl) ?_
  intro p e s m below meth c ls S hK hH hr hlocks hnm hl
  have hx := S.1
  have hb := S.2.1
  have hl : lv_has ls 6 [(0, .ref a0), (1, .ref a1), (2, .int y2)] := hl
  have J5 : ∀ (n : Nat) (H : Heap) (locs : List Loc) (ls : Array Slot) (v5_3 : Int32) (v5_4 : Int32), IV v5_3 (-2147483648) 2147483647 → IV v5_4 0 3 → th_H D cT T (kd q) H → va_S (th_A T []) s.heap H locs → lv_has ls 6 [(0, .ref a0), (1, .ref a1), (2, .int y2), (3, .int v5_3), (4, .int v5_4)] → (3 + 1 - v5_4.toInt).toNat < n → W p l e (rmk 0 0) s m [.ref a0, .ref a1, .int y2].toArray below meth c H locs 0 0 (MQ below (th_Q D cT T (kd q) (th_R T (some (.inl (-2147483648, 2147483647)))) []) [.ref a0, .ref a1, .int y2].toArray s 0 0 (th_A T [])) (F0 m 5 ls []) := by
    intro n
    induction n with
    | zero => intro H locs ls v5_3 v5_4 iv5_3 iv5_4 hH hS hl hn; exact absurd hn (Nat.not_lt_zero _)
    | succ n ih5 =>
      intro H locs ls v5_3 v5_4 iv5_3 iv5_4 hH hS hl hn5
      refine lv_iload hx hb dX0_givenTo_5 (lv_at hl 4 rfl) ?_
      refine lv_aload_n hx hb dX0_givenTo_7 rfl (lv_at hl 0 rfl) ?_
      refine th_get S hK hH inG0 t0 kd_4 rfl 0 (by decide) gm_369 rfl rfl dX0_givenTo_8 (fun v1 hv1 fv1 => ?_)
      obtain ⟨rf2, rfl, trf2⟩ := th_V.ref hv1
      refine th_get S hK hH inG4 trf2 kd_3 rfl 11 (by decide) gm_276 rfl rfl dX0_givenTo_11 (fun v3 hv3 fv3 => ?_)
      obtain ⟨x4, rfl, ix4⟩ := th_V.int hv3
      refine lv_icmp_ge (tgt := 54) hx hb dX0_givenTo_14 (by decide) (fun c5 => ?_) (fun c5 => ?_)
      · skip
        refine lv_iload_n hx hb dX0_givenTo_54 rfl (lv_at hl 3 rfl) ?_
        exact th_iret S hK hH hS hr hlocks (th_R.i iv5_3) dX0_givenTo_55
      · skip
        have ir6 : IV v5_4 0 2 := iv_uL iv5_4 ix4 (iv_nle c5) (by decide)
        have ir7 : IV x4 1 3 := iv_uR iv5_4 ix4 (iv_nle c5) (by decide)
        refine lv_iload_n hx hb dX0_givenTo_17 rfl (lv_at hl 2 rfl) ?_
        refine lv_iconst (v := 3) hx hb dX0_givenTo_18 (by decide) ?_
        refine lv_imul hx hb dX0_givenTo_19 ?_
        refine lv_topi (fun x8 ex8 => ?_)
        have ix8 : IV x8 0 9 := by rw [ex8]; exact iv_mul j2 (iv_c (by decide) : IV 3 3 3) (by decide) (by decide)
        refine lv_iload hx hb dX0_givenTo_20 (lv_at hl 4 rfl) ?_
        refine lv_iadd hx hb dX0_givenTo_22 ?_
        refine lv_topi (fun x9 ex9 => ?_)
        have ix9 : IV x9 0 11 := by rw [ex9]; exact iv_add ix8 ir6 (by decide)
        refine lv_istore (lv' := [(5, .int x9), (0, .ref a0), (1, .ref a1), (2, .int y2), (3, .int v5_3), (4, .int v5_4)]) hx hb dX0_givenTo_23 hl (by decide) rfl (fun ls hl => ?_)
        refine lv_iload_n hx hb dX0_givenTo_25 rfl (lv_at hl 4 rfl) ?_
        refine lv_aload_n hx hb dX0_givenTo_26 rfl (lv_at hl 2 rfl) ?_
        refine th_get S hK hH inG7 t1 kd_10 rfl 0 (by decide) gm_226 rfl rfl dX0_givenTo_27 (fun v10 hv10 fv10 => ?_)
        obtain ⟨rf11, rfl, trf11⟩ := th_V.ref hv10
        refine lv_iconst (v := 3) hx hb dX0_givenTo_30 (by decide) ?_
        refine lv_iload hx hb dX0_givenTo_31 (lv_at hl 0 rfl) ?_
        refine lv_iadd hx hb dX0_givenTo_33 ?_
        refine lv_topi (fun x12 ex12 => ?_)
        have ix12 : IV x12 3 14 := by rw [ex12]; exact iv_add (iv_c (by decide) : IV 3 3 3) ix9 (by decide)
        refine th_iald S hK hH trf11 kd_29 (th_in (hi := 14) (iv_w ix12 (by decide)) (by decide)) dX0_givenTo_34 (fun v13 hv13 => ?_)
        obtain ⟨x14, rfl, ix14⟩ := th_V.int hv13
        refine lv_aload_n hx hb dX0_givenTo_35 rfl (lv_at hl 1 rfl) ?_
        refine th_getK S hK fv1 inG0 rfl (by decide) gm_369 rfl dX0_givenTo_36 ?_
        refine th_get S hK hH inG4 trf2 kd_3 rfl 8 (by decide) gm_263 rfl rfl dX0_givenTo_39 (fun v16 hv16 fv16 => ?_)
        obtain ⟨rf17, rfl, trf17⟩ := th_V.ref hv16
        refine lv_iload hx hb dX0_givenTo_42 (lv_at hl 0 rfl) ?_
        refine th_iald S hK hH trf17 kd_28 (th_in (hi := 11) ix9 (by decide)) dX0_givenTo_44 (fun v18 hv18 => ?_)
        obtain ⟨x19, rfl, ix19⟩ := th_V.int hv18
        refine lv_imul hx hb dX0_givenTo_45 ?_
        refine lv_topi (fun x20 ex20 => ?_)
        have ix20 := iv_top x20
        refine lv_iadd hx hb dX0_givenTo_46 ?_
        refine lv_topi (fun x21 ex21 => ?_)
        have ix21 := iv_top x21
        refine lv_istore_n (lv' := [(3, .int x21), (5, .int x9), (0, .ref a0), (1, .ref a1), (2, .int y2), (4, .int v5_4)]) hx hb dX0_givenTo_47 rfl hl (by decide) rfl (fun ls hl => ?_)
        refine th_iinc S dX0_givenTo_48 hl (k := 5) rfl (by decide) ir6 (by decide) (fun x22 ls ex22 ix22 hl => ?_)
        have hl : lv_has ls 6 [(4, .int x22), (3, .int x21), (5, .int x9), (0, .ref a0), (1, .ref a1), (2, .int y2)] := hl
        have ix22 : IV x22 1 3 := ix22
        refine lv_goto (tgt := 5) hx hb dX0_givenTo_51 (by decide) ?_
        exact ih5 H locs ls x21 x22 ix21 (iv_w ix22 (by decide)) hH hS (lv_sub hl [3, 4, 5, 1, 0] rfl) (th_up iv5_4 ex22 (by decide) hn5)
  have J0 : ∀ (H : Heap) (locs : List Loc) (ls : Array Slot), th_H D cT T (kd q) H → va_S (th_A T []) s.heap H locs → lv_has ls 6 [(0, .ref a0), (1, .ref a1), (2, .int y2)] → W p l e (rmk 0 0) s m [.ref a0, .ref a1, .int y2].toArray below meth c H locs 0 0 (MQ below (th_Q D cT T (kd q) (th_R T (some (.inl (-2147483648, 2147483647)))) []) [.ref a0, .ref a1, .int y2].toArray s 0 0 (th_A T [])) (F0 m 0 ls []) := by
    intro H locs ls hH hS hl
    refine lv_iconst (v := 0) hx hb dX0_givenTo_0 (by decide) ?_
    refine lv_istore_n (lv' := [(3, .int 0), (0, .ref a0), (1, .ref a1), (2, .int y2)]) hx hb dX0_givenTo_1 rfl hl (by decide) rfl (fun ls hl => ?_)
    refine lv_iconst (v := 0) hx hb dX0_givenTo_2 (by decide) ?_
    refine lv_istore (lv' := [(4, .int 0), (3, .int 0), (0, .ref a0), (1, .ref a1), (2, .int y2)]) hx hb dX0_givenTo_3 hl (by decide) rfl (fun ls hl => ?_)
    exact J5 ((3 + 1 - Int32.toInt 0).toNat + 1) H locs ls 0 0 (iv_top _) (iv_w (iv_c (by decide) : IV 0 0 0) (by decide)) hH hS (lv_sub hl [2, 3, 4, 1, 0] rfl) (Nat.lt_succ_self _)
  exact J0 s.heap [] ls hH va_S.rf hl

set_option maxRecDepth 100000 in
theorem m_X0_tasteOf (l : Launch) (D : va_G) (cT : Nat → ClassId) (T : Nat → Option Nat) (q : Nat → Int) (hq : qok q) (a0 : Nat) (t0 : T a0 = some 4) (a1 : Nat) (t1 : T a1 = some 10) (y2 : Int32) (j2 : IV y2 0 7) (y3 : Int32) (j3 : IV y3 0 3) : th_Met l D cT T (kd q) yX0_tasteOf cX0_tasteOf 4 (some .int) (rmk 1 28) [.ref a0, .ref a1, .int y2, .int y3] (th_R T (some (.inl (-2147483648, 2147483647)))) [18, 19] := by
  refine th_start (by decide) (Nat.le_of_ble_eq_true rfl) ?_
  intro p e s m below meth c ls S hK hH hr hlocks hnm hl
  have hx := S.1
  have hb := S.2.1
  have hl : lv_has ls 4 [(0, .ref a0), (1, .ref a1), (2, .int y2), (3, .int y3)] := hl
  have J0 : ∀ (H : Heap) (locs : List Loc) (ls : Array Slot), th_H D cT T (kd q) H → va_S (th_A T [18, 19]) s.heap H locs → lv_has ls 4 [(0, .ref a0), (1, .ref a1), (2, .int y2), (3, .int y3)] → W p l e (rmk 1 28) s m [.ref a0, .ref a1, .int y2, .int y3].toArray below meth c H locs 0 0 (MQ below (th_Q D cT T (kd q) (th_R T (some (.inl (-2147483648, 2147483647)))) [18, 19]) [.ref a0, .ref a1, .int y2, .int y3].toArray s 0 0 (th_A T [18, 19])) (F0 m 0 ls []) := by
    intro H locs ls hH hS hl
    refine lv_aload_n hx hb dX0_tasteOf_0 rfl (lv_at hl 0 rfl) ?_
    refine th_get S hK hH inG0 t0 kd_4 rfl 0 (by decide) gm_369 rfl rfl dX0_tasteOf_1 (fun v1 hv1 fv1 => ?_)
    obtain ⟨rf2, rfl, trf2⟩ := th_V.ref hv1
    refine th_get S hK hH inG4 trf2 kd_3 rfl 16 (by decide) gm_295 rfl rfl dX0_tasteOf_4 (fun v3 hv3 fv3 => ?_)
    obtain ⟨x4, rfl, ix4⟩ := th_V.int hv3
    refine lv_if_ne (tgt := 20) hx hb dX0_tasteOf_7 (by decide) (fun c5 => ?_) (fun c5 => ?_)
    · skip
      have ir6 : IV x4 1 1 := iv_cutL ix4 (iv_c (by decide) : IV 0 0 0) c5 (by decide)
      refine lv_aload_n hx hb dX0_tasteOf_20 rfl (lv_at hl 0 rfl) ?_
      refine lv_aload_n hx hb dX0_tasteOf_21 rfl (lv_at hl 1 rfl) ?_
      refine lv_iload_n hx hb dX0_tasteOf_22 rfl (lv_at hl 3 rfl) ?_
      refine lv_aload_n hx hb dX0_tasteOf_23 rfl (lv_at hl 1 rfl) ?_
      refine th_get S hK hH inG7 t1 kd_10 rfl 0 (by decide) gm_226 rfl rfl dX0_tasteOf_24 (fun v7 hv7 fv7 => ?_)
      obtain ⟨rf8, rfl, trf8⟩ := th_V.ref hv7
      refine lv_bipush (v := 15) hx hb dX0_tasteOf_27 (by decide) ?_
      refine lv_iload_n hx hb dX0_tasteOf_29 rfl (lv_at hl 2 rfl) ?_
      refine lv_iadd hx hb dX0_tasteOf_30 ?_
      refine lv_topi (fun x9 ex9 => ?_)
      have ix9 : IV x9 15 22 := by rw [ex9]; exact iv_add (iv_c (by decide) : IV 15 15 15) j2 (by decide)
      refine th_iald S hK hH trf8 kd_29 (th_in (hi := 22) (iv_w ix9 (by decide)) (by decide)) dX0_tasteOf_31 (fun v10 hv10 => ?_)
      obtain ⟨x11, rfl, ix11⟩ := th_V.int hv10
      refine lv_aload_n hx hb dX0_tasteOf_32 rfl (lv_at hl 0 rfl) ?_
      refine th_getK S hK fv1 inG0 rfl (by decide) gm_369 rfl dX0_tasteOf_33 ?_
      refine th_get S hK hH inG4 trf2 kd_3 rfl 4 (by decide) gm_246 rfl rfl dX0_tasteOf_36 (fun v13 hv13 fv13 => ?_)
      obtain ⟨rf14, rfl, trf14⟩ := th_V.ref hv13
      refine lv_iload_n hx hb dX0_tasteOf_39 rfl (lv_at hl 2 rfl) ?_
      refine th_iald S hK hH trf14 kd_24 (th_in (hi := 7) j2 (by decide)) dX0_tasteOf_40 (fun v15 hv15 => ?_)
      obtain ⟨x16, rfl, ix16⟩ := th_V.int hv15
      refine lv_aload_n hx hb dX0_tasteOf_41 rfl (lv_at hl 1 rfl) ?_
      refine th_getK S hK fv7 inG7 rfl (by decide) gm_226 rfl dX0_tasteOf_42 ?_
      refine lv_bipush (v := 23) hx hb dX0_tasteOf_45 (by decide) ?_
      refine lv_iload_n hx hb dX0_tasteOf_47 rfl (lv_at hl 2 rfl) ?_
      refine lv_iadd hx hb dX0_tasteOf_48 ?_
      refine lv_topi (fun x18 ex18 => ?_)
      have ix18 : IV x18 23 30 := by rw [ex18]; exact iv_add (iv_c (by decide) : IV 23 23 23) j2 (by decide)
      refine th_iald S hK hH trf8 kd_29 (th_in (hi := 30) (iv_w ix18 (by decide)) (by decide)) dX0_tasteOf_49 (fun v19 hv19 => ?_)
      obtain ⟨x20, rfl, ix20⟩ := th_V.int hv19
      refine th_callVv (n := 5) (As := [.ref a1, .int y3, .int x11, .int x16, .int x20]) S hK hH hS (th_A.sub (by decide)) (m_X0_setInputs l D cT T q hq a0 t0 a1 t1 (y3) j3 (x11) ix11 (x16) ix16 (x20) ix20) gm_844 gm_841 gm_843 gm_25 gm_119 (by decide +kernel) ⟨rfl, rfl, Nat.le_of_ble_eq_true rfl, Nat.le_of_ble_eq_true rfl⟩ t0 kd_4 rfl rfl hl.1 rfl (Nat.le_of_ble_eq_true rfl) dX0_tasteOf_50 ⟨Nat.zero_le _, Nat.zero_le _⟩ (fun H locs hH hS hF1 => ?_)
      have f21 := fv1.kept (hF1 _ fv1.lt (th_off t0 (by decide)))
      have f22 := fv7.kept (hF1 _ fv7.lt (th_off t1 (by decide)))
      refine lv_aload_n hx hb dX0_tasteOf_53 rfl (lv_at hl 0 rfl) ?_
      refine th_getK S hK f21 inG0 rfl (by decide) gm_369 rfl dX0_tasteOf_54 ?_
      refine th_get S hK hH inG4 trf2 kd_3 rfl 9 (by decide) gm_268 rfl rfl dX0_tasteOf_57 (fun v24 hv24 fv24 => ?_)
      obtain ⟨rf25, rfl, trf25⟩ := th_V.ref hv24
      refine lv_iconst (v := 4) hx hb dX0_tasteOf_60 (by decide) ?_
      refine th_callVi (n := 1) (As := [.int 4]) S hK hH hS (th_A.sub (by decide)) (m_X2_valueOf l D cT T q hq rf25 trf25 (4) (iv_w (iv_c (by decide) : IV 4 4 4) (by decide))) gm_848 gm_845 gm_846 gm_847 gm_117 (by decide +kernel) ⟨rfl, rfl, Nat.le_of_ble_eq_true rfl, Nat.le_of_ble_eq_true rfl⟩ trf25 kd_9 rfl rfl hl.1 rfl (Nat.le_of_ble_eq_true rfl) dX0_tasteOf_61 ⟨Nat.zero_le _, Nat.zero_le _⟩ (fun x26 H locs ix26 hH hS hF1 => ?_)
      have f27 := f21.kept (hF1 _ f21.lt (th_off t0 (by decide)))
      have f28 := f22.kept (hF1 _ f22.lt (th_off t1 (by decide)))
      exact th_iret S hK hH hS hr hlocks (th_R.i ix26) dX0_tasteOf_64
    · skip
      have ir29 : IV x4 0 0 := iv_eL c5 (iv_c (by decide) : IV 0 0 0)
      refine lv_aload_n hx hb dX0_tasteOf_10 rfl (lv_at hl 1 rfl) ?_
      refine th_get S hK hH inG7 t1 kd_10 rfl 0 (by decide) gm_226 rfl rfl dX0_tasteOf_11 (fun v30 hv30 fv30 => ?_)
      obtain ⟨rf31, rfl, trf31⟩ := th_V.ref hv30
      refine lv_bipush (v := 15) hx hb dX0_tasteOf_14 (by decide) ?_
      refine lv_iload_n hx hb dX0_tasteOf_16 rfl (lv_at hl 2 rfl) ?_
      refine lv_iadd hx hb dX0_tasteOf_17 ?_
      refine lv_topi (fun x32 ex32 => ?_)
      have ix32 : IV x32 15 22 := by rw [ex32]; exact iv_add (iv_c (by decide) : IV 15 15 15) j2 (by decide)
      refine th_iald S hK hH trf31 kd_29 (th_in (hi := 22) (iv_w ix32 (by decide)) (by decide)) dX0_tasteOf_18 (fun v33 hv33 => ?_)
      obtain ⟨x34, rfl, ix34⟩ := th_V.int hv33
      exact th_iret S hK hH hS hr hlocks (th_R.i ix34) dX0_tasteOf_19
  exact J0 s.heap [] ls hH va_S.rf hl

set_option maxRecDepth 100000 in
theorem m_X0_tastiest (l : Launch) (D : va_G) (cT : Nat → ClassId) (T : Nat → Option Nat) (q : Nat → Int) (hq : qok q) (a0 : Nat) (t0 : T a0 = some 4) (a1 : Nat) (t1 : T a1 = some 10) (y2 : Int32) (j2 : IV y2 0 3) : th_Met l D cT T (kd q) yX0_tastiest cX0_tastiest 7 (some .int) (rmk 2 51) [.ref a0, .ref a1, .int y2] (th_R T (some (.inl (-1, 7)))) [18, 19] := by
  refine th_start (by decide) (Nat.le_of_ble_eq_true rfl) ?_
  intro p e s m below meth c ls S hK hH hr hlocks hnm hl
  have hx := S.1
  have hb := S.2.1
  have hl : lv_has ls 7 [(0, .ref a0), (1, .ref a1), (2, .int y2)] := hl
  have J8 : ∀ (n : Nat) (H : Heap) (locs : List Loc) (ls : Array Slot) (v8_3 : Int32) (v8_4 : Int32) (v8_5 : Int32), IV v8_3 (-1) 7 → IV v8_4 (-2147483648) 2147483647 → IV v8_5 0 8 → th_H D cT T (kd q) H → va_S (th_A T [18, 19]) s.heap H locs → lv_has ls 7 [(0, .ref a0), (1, .ref a1), (2, .int y2), (3, .int v8_3), (4, .int v8_4), (5, .int v8_5)] → (8 + 1 - v8_5.toInt).toNat < n → W p l e (rmk 2 51) s m [.ref a0, .ref a1, .int y2].toArray below meth c H locs 0 0 (MQ below (th_Q D cT T (kd q) (th_R T (some (.inl (-1, 7)))) [18, 19]) [.ref a0, .ref a1, .int y2].toArray s 0 0 (th_A T [18, 19])) (F0 m 8 ls []) := by
    intro n
    induction n with
    | zero => intro H locs ls v8_3 v8_4 v8_5 iv8_3 iv8_4 iv8_5 hH hS hl hn; exact absurd hn (Nat.not_lt_zero _)
    | succ n ih8 =>
      intro H locs ls v8_3 v8_4 v8_5 iv8_3 iv8_4 iv8_5 hH hS hl hn8
      have J82 : ∀ (H : Heap) (locs : List Loc) (ls : Array Slot) (v82_3 : Int32) (v82_4 : Int32), IV v82_3 (-1) 7 → IV v82_4 (-2147483648) 2147483647 → IV v8_5 0 7 → th_H D cT T (kd q) H → va_S (th_A T [18, 19]) s.heap H locs → lv_has ls 7 [(0, .ref a0), (1, .ref a1), (2, .int y2), (3, .int v82_3), (4, .int v82_4), (5, .int v8_5)] → W p l e (rmk 2 51) s m [.ref a0, .ref a1, .int y2].toArray below meth c H locs 0 0 (MQ below (th_Q D cT T (kd q) (th_R T (some (.inl (-1, 7)))) [18, 19]) [.ref a0, .ref a1, .int y2].toArray s 0 0 (th_A T [18, 19])) (F0 m 82 ls []) := by
        intro H locs ls v82_3 v82_4 iv82_3 iv82_4 f82_v8_5 hH hS hl
        refine th_iinc S dX0_tastiest_82 hl (k := 5) rfl (by decide) f82_v8_5 (by decide) (fun x1 ls ex1 ix1 hl => ?_)
        have hl : lv_has ls 7 [(5, .int x1), (0, .ref a0), (1, .ref a1), (2, .int y2), (3, .int v82_3), (4, .int v82_4)] := hl
        have ix1 : IV x1 1 8 := ix1
        refine lv_goto (tgt := 8) hx hb dX0_tastiest_85 (by decide) ?_
        exact ih8 H locs ls v82_3 v82_4 x1 iv82_3 iv82_4 (iv_w ix1 (by decide)) hH hS (lv_sub hl [1, 2, 3, 4, 5, 0] rfl) (th_up iv8_5 ex1 (by decide) hn8)
      have J75 : ∀ (H : Heap) (locs : List Loc) (ls : Array Slot) (v75_6 : Int32), IV v75_6 (-2147483648) 2147483647 → IV v8_5 0 7 → th_H D cT T (kd q) H → va_S (th_A T [18, 19]) s.heap H locs → lv_has ls 7 [(0, .ref a0), (1, .ref a1), (2, .int y2), (5, .int v8_5), (6, .int v75_6)] → W p l e (rmk 2 51) s m [.ref a0, .ref a1, .int y2].toArray below meth c H locs 0 0 (MQ below (th_Q D cT T (kd q) (th_R T (some (.inl (-1, 7)))) [18, 19]) [.ref a0, .ref a1, .int y2].toArray s 0 0 (th_A T [18, 19])) (F0 m 75 ls []) := by
        intro H locs ls v75_6 iv75_6 f75_v8_5 hH hS hl
        refine lv_iload hx hb dX0_tastiest_75 (lv_at hl 3 rfl) ?_
        refine lv_istore_n (lv' := [(3, .int v8_5), (0, .ref a0), (1, .ref a1), (2, .int y2), (5, .int v8_5), (6, .int v75_6)]) hx hb dX0_tastiest_77 rfl hl (by decide) rfl (fun ls hl => ?_)
        refine lv_iload hx hb dX0_tastiest_78 (lv_at hl 5 rfl) ?_
        refine lv_istore (lv' := [(4, .int v75_6), (3, .int v8_5), (0, .ref a0), (1, .ref a1), (2, .int y2), (5, .int v8_5), (6, .int v75_6)]) hx hb dX0_tastiest_80 hl (by decide) rfl (fun ls hl => ?_)
        exact J82 H locs ls v8_5 v75_6 (iv_w f75_v8_5 (by decide)) iv75_6 f75_v8_5 hH hS (lv_sub hl [2, 3, 4, 1, 0, 5] rfl)
      refine lv_iload hx hb dX0_tastiest_8 (lv_at hl 5 rfl) ?_
      refine lv_aload_n hx hb dX0_tastiest_10 rfl (lv_at hl 0 rfl) ?_
      refine th_get S hK hH inG0 t0 kd_4 rfl 0 (by decide) gm_369 rfl rfl dX0_tastiest_11 (fun v2 hv2 fv2 => ?_)
      obtain ⟨rf3, rfl, trf3⟩ := th_V.ref hv2
      refine th_get S hK hH inG4 trf3 kd_3 rfl 13 (by decide) gm_286 rfl rfl dX0_tastiest_14 (fun v4 hv4 fv4 => ?_)
      obtain ⟨x5, rfl, ix5⟩ := th_V.int hv4
      refine lv_icmp_ge (tgt := 88) hx hb dX0_tastiest_17 (by decide) (fun c6 => ?_) (fun c6 => ?_)
      · skip
        refine lv_iload_n hx hb dX0_tastiest_88 rfl (lv_at hl 3 rfl) ?_
        exact th_iret S hK hH hS hr hlocks (th_R.i iv8_3) dX0_tastiest_89
      · skip
        have ir7 : IV v8_5 0 7 := iv_uL iv8_5 ix5 (iv_nle c6) (by decide)
        have ir8 : IV x5 1 8 := iv_uR iv8_5 ix5 (iv_nle c6) (by decide)
        refine lv_aload_n hx hb dX0_tastiest_20 rfl (lv_at hl 0 rfl) ?_
        refine th_getK S hK fv2 inG0 rfl (by decide) gm_369 rfl dX0_tastiest_21 ?_
        refine th_get S hK hH inG4 trf3 kd_3 rfl 6 (by decide) gm_256 rfl rfl dX0_tastiest_24 (fun v10 hv10 fv10 => ?_)
        obtain ⟨rf11, rfl, trf11⟩ := th_V.ref hv10
        refine lv_iload_n hx hb dX0_tastiest_27 rfl (lv_at hl 2 rfl) ?_
        refine th_iald S hK hH trf11 kd_26 (th_in (hi := 3) j2 (by decide)) dX0_tastiest_28 (fun v12 hv12 => ?_)
        obtain ⟨x13, rfl, ix13⟩ := th_V.int hv12
        refine lv_iload hx hb dX0_tastiest_29 (lv_at hl 5 rfl) ?_
        refine lv_ishr hx hb dX0_tastiest_31 ?_
        refine lv_topi (fun x14 ex14 => ?_)
        have ix14 := iv_top x14
        refine lv_iconst (v := 1) hx hb dX0_tastiest_32 (by decide) ?_
        refine lv_iand hx hb dX0_tastiest_33 ?_
        refine lv_topi (fun x15 ex15 => ?_)
        have ix15 : IV x15 0 1 := by rw [ex15]; exact iv_and (h2 := 1) (iv_w (iv_c (by decide) : IV 1 1 1) (by decide)) (by decide)
        refine lv_if_eq (tgt := 82) hx hb dX0_tastiest_34 (by decide) (fun c16 => ?_) (fun c16 => ?_)
        · skip
          have ir17 : IV x15 0 0 := iv_eL c16 (iv_c (by decide) : IV 0 0 0)
          exact J82 H locs ls v8_3 v8_4 iv8_3 iv8_4 ir7 hH hS (lv_sub hl [0, 1, 2, 3, 4, 5] rfl)
        · skip
          have ir18 : IV x15 1 1 := iv_cutL ix15 (iv_c (by decide) : IV 0 0 0) c16 (by decide)
          refine lv_aload_n hx hb dX0_tastiest_37 rfl (lv_at hl 1 rfl) ?_
          refine th_get S hK hH inG7 t1 kd_10 rfl 0 (by decide) gm_226 rfl rfl dX0_tastiest_38 (fun v19 hv19 fv19 => ?_)
          obtain ⟨rf20, rfl, trf20⟩ := th_V.ref hv19
          refine lv_bipush (v := 15) hx hb dX0_tastiest_41 (by decide) ?_
          refine lv_iload hx hb dX0_tastiest_43 (lv_at hl 5 rfl) ?_
          refine lv_iadd hx hb dX0_tastiest_45 ?_
          refine lv_topi (fun x21 ex21 => ?_)
          have ix21 : IV x21 15 22 := by rw [ex21]; exact iv_add (iv_c (by decide) : IV 15 15 15) ir7 (by decide)
          refine th_iald S hK hH trf20 kd_29 (th_in (hi := 22) (iv_w ix21 (by decide)) (by decide)) dX0_tastiest_46 (fun v22 hv22 => ?_)
          obtain ⟨x23, rfl, ix23⟩ := th_V.int hv22
          refine lv_if_gt (tgt := 53) hx hb dX0_tastiest_47 (by decide) (fun c24 => ?_) (fun c24 => ?_)
          · skip
            have ir25 : IV x23 1 2147483647 := iv_uR (iv_c (by decide) : IV 0 0 0) ix23 (iv_lt c24) (by decide)
            refine lv_aload_n hx hb dX0_tastiest_53 rfl (lv_at hl 0 rfl) ?_
            refine lv_aload_n hx hb dX0_tastiest_54 rfl (lv_at hl 1 rfl) ?_
            refine lv_iload hx hb dX0_tastiest_55 (lv_at hl 5 rfl) ?_
            refine lv_iload_n hx hb dX0_tastiest_57 rfl (lv_at hl 2 rfl) ?_
            refine th_callVi (n := 3) (As := [.ref a1, .int v8_5, .int y2]) S hK hH hS (th_A.sub (by decide)) (m_X0_tasteOf l D cT T q hq a0 t0 a1 t1 (v8_5) ir7 (y2) j2) gm_875 gm_919 gm_873 gm_874 gm_119 (by decide +kernel) ⟨rfl, rfl, Nat.le_of_ble_eq_true rfl, Nat.le_of_ble_eq_true rfl⟩ t0 kd_4 rfl rfl hl.1 rfl (Nat.le_of_ble_eq_true rfl) dX0_tastiest_58 ⟨Nat.zero_le _, Nat.zero_le _⟩ (fun x26 H locs ix26 hH hS hF1 => ?_)
            have f27 := fv2.kept (hF1 _ fv2.lt (th_off t0 (by decide)))
            refine lv_istore (lv' := [(6, .int x26), (0, .ref a0), (1, .ref a1), (2, .int y2), (3, .int v8_3), (4, .int v8_4), (5, .int v8_5)]) hx hb dX0_tastiest_61 hl (by decide) rfl (fun ls hl => ?_)
            refine lv_iload_n hx hb dX0_tastiest_63 rfl (lv_at hl 4 rfl) ?_
            refine lv_iconst (v := (-1)) hx hb dX0_tastiest_64 (by decide) ?_
            refine lv_icmp_eq (tgt := 75) hx hb dX0_tastiest_65 (by decide) (fun c28 => ?_) (fun c28 => ?_)
            · skip
              have ir29 : IV v8_3 (-1) (-1) := iv_eL c28 (iv_c (by decide) : IV (-1) (-1) (-1))
              exact J75 H locs ls x26 ix26 ir7 hH hS (lv_sub hl [1, 2, 3, 6, 0] rfl)
            · skip
              have ir30 : IV v8_3 0 7 := iv_cutL iv8_3 (iv_c (by decide) : IV (-1) (-1) (-1)) c28 (by decide)
              refine lv_iload hx hb dX0_tastiest_68 (lv_at hl 0 rfl) ?_
              refine lv_iload hx hb dX0_tastiest_70 (lv_at hl 5 rfl) ?_
              refine lv_icmp_le (tgt := 82) hx hb dX0_tastiest_72 (by decide) (fun c31 => ?_) (fun c31 => ?_)
              · skip
                exact J82 H locs ls v8_3 v8_4 (iv_w ir30 (by decide)) iv8_4 ir7 hH hS (lv_sub hl [1, 2, 3, 4, 5, 6] rfl)
              · skip
                have ir32 : IV v8_4 (-2147483648) 2147483646 := iv_uL iv8_4 ix26 (iv_nle c31) (by decide)
                have ir33 : IV x26 (-2147483647) 2147483647 := iv_uR iv8_4 ix26 (iv_nle c31) (by decide)
                exact J75 H locs ls x26 (iv_top _) ir7 hH hS (lv_sub hl [1, 2, 3, 6, 0] rfl)
          · skip
            have ir34 : IV x23 (-2147483648) 0 := iv_vL ix23 (iv_c (by decide) : IV 0 0 0) (iv_nlt c24) (by decide)
            refine lv_goto (tgt := 82) hx hb dX0_tastiest_50 (by decide) ?_
            exact J82 H locs ls v8_3 v8_4 iv8_3 iv8_4 ir7 hH hS (lv_sub hl [0, 1, 2, 3, 4, 5] rfl)
  have J0 : ∀ (H : Heap) (locs : List Loc) (ls : Array Slot), th_H D cT T (kd q) H → va_S (th_A T [18, 19]) s.heap H locs → lv_has ls 7 [(0, .ref a0), (1, .ref a1), (2, .int y2)] → W p l e (rmk 2 51) s m [.ref a0, .ref a1, .int y2].toArray below meth c H locs 0 0 (MQ below (th_Q D cT T (kd q) (th_R T (some (.inl (-1, 7)))) [18, 19]) [.ref a0, .ref a1, .int y2].toArray s 0 0 (th_A T [18, 19])) (F0 m 0 ls []) := by
    intro H locs ls hH hS hl
    refine lv_iconst (v := (-1)) hx hb dX0_tastiest_0 (by decide) ?_
    refine lv_istore_n (lv' := [(3, .int (-1)), (0, .ref a0), (1, .ref a1), (2, .int y2)]) hx hb dX0_tastiest_1 rfl hl (by decide) rfl (fun ls hl => ?_)
    refine lv_iconst (v := 0) hx hb dX0_tastiest_2 (by decide) ?_
    refine lv_istore (lv' := [(4, .int 0), (3, .int (-1)), (0, .ref a0), (1, .ref a1), (2, .int y2)]) hx hb dX0_tastiest_3 hl (by decide) rfl (fun ls hl => ?_)
    refine lv_iconst (v := 0) hx hb dX0_tastiest_5 (by decide) ?_
    refine lv_istore (lv' := [(5, .int 0), (4, .int 0), (3, .int (-1)), (0, .ref a0), (1, .ref a1), (2, .int y2)]) hx hb dX0_tastiest_6 hl (by decide) rfl (fun ls hl => ?_)
    exact J8 ((8 + 1 - Int32.toInt 0).toNat + 1) H locs ls (-1) 0 0 (iv_w (iv_c (by decide) : IV (-1) (-1) (-1)) (by decide)) (iv_top _) (iv_w (iv_c (by decide) : IV 0 0 0) (by decide)) hH hS (lv_sub hl [3, 4, 5, 2, 1, 0] rfl) (Nat.lt_succ_self _)
  exact J0 s.heap [] ls hH va_S.rf hl

set_option maxRecDepth 100000 in
theorem m_X0_smallestOn (l : Launch) (D : va_G) (cT : Nat → ClassId) (T : Nat → Option Nat) (q : Nat → Int) (hq : qok q) (a0 : Nat) (t0 : T a0 = some 4) (a1 : Nat) (t1 : T a1 = some 10) (y2 : Int32) (j2 : IV y2 0 3) : th_Met l D cT T (kd q) yX0_smallestOn cX0_smallestOn 6 (some .int) (rmk 0 0) [.ref a0, .ref a1, .int y2] (th_R T (some (.inl (-1, 7)))) [] := by
  refine th_start (by decide) (Nat.le_of_ble_eq_true rfl) ?_
  intro p e s m below meth c ls S hK hH hr hlocks hnm hl
  have hx := S.1
  have hb := S.2.1
  have hl : lv_has ls 6 [(0, .ref a0), (1, .ref a1), (2, .int y2)] := hl
  have J5 : ∀ (n : Nat) (H : Heap) (locs : List Loc) (ls : Array Slot) (v5_3 : Int32) (v5_4 : Int32), IV v5_3 (-1) 7 → IV v5_4 0 8 → th_H D cT T (kd q) H → va_S (th_A T []) s.heap H locs → lv_has ls 6 [(0, .ref a0), (1, .ref a1), (2, .int y2), (3, .int v5_3), (4, .int v5_4)] → (8 + 1 - v5_4.toInt).toNat < n → W p l e (rmk 0 0) s m [.ref a0, .ref a1, .int y2].toArray below meth c H locs 0 0 (MQ below (th_Q D cT T (kd q) (th_R T (some (.inl (-1, 7)))) []) [.ref a0, .ref a1, .int y2].toArray s 0 0 (th_A T [])) (F0 m 5 ls []) := by
    intro n
    induction n with
    | zero => intro H locs ls v5_3 v5_4 iv5_3 iv5_4 hH hS hl hn; exact absurd hn (Nat.not_lt_zero _)
    | succ n ih5 =>
      intro H locs ls v5_3 v5_4 iv5_3 iv5_4 hH hS hl hn5
      have J76 : ∀ (H : Heap) (locs : List Loc) (ls : Array Slot) (v76_3 : Int32), IV v76_3 (-1) 7 → IV v5_4 0 7 → th_H D cT T (kd q) H → va_S (th_A T []) s.heap H locs → lv_has ls 6 [(0, .ref a0), (1, .ref a1), (2, .int y2), (3, .int v76_3), (4, .int v5_4)] → W p l e (rmk 0 0) s m [.ref a0, .ref a1, .int y2].toArray below meth c H locs 0 0 (MQ below (th_Q D cT T (kd q) (th_R T (some (.inl (-1, 7)))) []) [.ref a0, .ref a1, .int y2].toArray s 0 0 (th_A T [])) (F0 m 76 ls []) := by
        intro H locs ls v76_3 iv76_3 f76_v5_4 hH hS hl
        refine th_iinc S dX0_smallestOn_76 hl (k := 4) rfl (by decide) f76_v5_4 (by decide) (fun x1 ls ex1 ix1 hl => ?_)
        have hl : lv_has ls 6 [(4, .int x1), (0, .ref a0), (1, .ref a1), (2, .int y2), (3, .int v76_3)] := hl
        have ix1 : IV x1 1 8 := ix1
        refine lv_goto (tgt := 5) hx hb dX0_smallestOn_79 (by decide) ?_
        exact ih5 H locs ls v76_3 x1 iv76_3 (iv_w ix1 (by decide)) hH hS (lv_sub hl [1, 2, 3, 4, 0] rfl) (th_up iv5_4 ex1 (by decide) hn5)
      have J73 : ∀ (H : Heap) (locs : List Loc) (ls : Array Slot), IV v5_4 0 7 → th_H D cT T (kd q) H → va_S (th_A T []) s.heap H locs → lv_has ls 6 [(0, .ref a0), (1, .ref a1), (2, .int y2), (4, .int v5_4)] → W p l e (rmk 0 0) s m [.ref a0, .ref a1, .int y2].toArray below meth c H locs 0 0 (MQ below (th_Q D cT T (kd q) (th_R T (some (.inl (-1, 7)))) []) [.ref a0, .ref a1, .int y2].toArray s 0 0 (th_A T [])) (F0 m 73 ls []) := by
        intro H locs ls f73_v5_4 hH hS hl
        refine lv_iload hx hb dX0_smallestOn_73 (lv_at hl 3 rfl) ?_
        refine lv_istore_n (lv' := [(3, .int v5_4), (0, .ref a0), (1, .ref a1), (2, .int y2), (4, .int v5_4)]) hx hb dX0_smallestOn_75 rfl hl (by decide) rfl (fun ls hl => ?_)
        exact J76 H locs ls v5_4 (iv_w f73_v5_4 (by decide)) f73_v5_4 hH hS (lv_sub hl [1, 2, 3, 0, 4] rfl)
      have J39_s0_0 : ∀ (H : Heap) (locs : List Loc) (ls : Array Slot), IV v5_4 0 7 → th_H D cT T (kd q) H → va_S (th_A T []) s.heap H locs → lv_has ls 6 [(0, .ref a0), (1, .ref a1), (2, .int y2), (3, .int v5_3), (4, .int v5_4)] → W p l e (rmk 0 0) s m [.ref a0, .ref a1, .int y2].toArray below meth c H locs 0 0 (MQ below (th_Q D cT T (kd q) (th_R T (some (.inl (-1, 7)))) []) [.ref a0, .ref a1, .int y2].toArray s 0 0 (th_A T [])) (F0 m 39 ls [.int 0]) := by
        intro H locs ls f39_v5_4 hH hS hl
        refine lv_istore (lv' := [(5, .int 0), (0, .ref a0), (1, .ref a1), (2, .int y2), (3, .int v5_3), (4, .int v5_4)]) hx hb dX0_smallestOn_39 hl (by decide) rfl (fun ls hl => ?_)
        refine lv_iload hx hb dX0_smallestOn_41 (lv_at hl 0 rfl) ?_
        refine lv_if_eq (tgt := 76) hx hb dX0_smallestOn_43 (by decide) (fun c2 => ?_) (fun c2 => ?_)
        · skip
          exact J76 H locs ls v5_3 iv5_3 f39_v5_4 hH hS (lv_sub hl [1, 2, 3, 4, 5] rfl)
        · skip
          exact absurd (iv_eqc (iv_c (by decide) : IV 0 0 0) (iv_c (by decide) : IV 0 0 0)) c2
      have J39_s0_1 : ∀ (H : Heap) (locs : List Loc) (ls : Array Slot), IV v5_4 0 7 → th_H D cT T (kd q) H → va_S (th_A T []) s.heap H locs → lv_has ls 6 [(0, .ref a0), (1, .ref a1), (2, .int y2), (3, .int v5_3), (4, .int v5_4)] → W p l e (rmk 0 0) s m [.ref a0, .ref a1, .int y2].toArray below meth c H locs 0 0 (MQ below (th_Q D cT T (kd q) (th_R T (some (.inl (-1, 7)))) []) [.ref a0, .ref a1, .int y2].toArray s 0 0 (th_A T [])) (F0 m 39 ls [.int 1]) := by
        intro H locs ls f39_v5_4 hH hS hl
        refine lv_istore (lv' := [(5, .int 1), (0, .ref a0), (1, .ref a1), (2, .int y2), (3, .int v5_3), (4, .int v5_4)]) hx hb dX0_smallestOn_39 hl (by decide) rfl (fun ls hl => ?_)
        refine lv_iload hx hb dX0_smallestOn_41 (lv_at hl 0 rfl) ?_
        refine lv_if_eq (tgt := 76) hx hb dX0_smallestOn_43 (by decide) (fun c3 => ?_) (fun c3 => ?_)
        · skip
          exfalso
          have z1 := congrArg Int32.toInt c3
          have z2 := ((iv_c (by decide) : IV 1 1 1)).1
          have z3 := ((iv_c (by decide) : IV 1 1 1)).2
          have z4 := ((iv_c (by decide) : IV 0 0 0)).1
          have z5 := ((iv_c (by decide) : IV 0 0 0)).2
          omega
        · skip
          refine lv_iload_n hx hb dX0_smallestOn_46 rfl (lv_at hl 4 rfl) ?_
          refine lv_iconst (v := (-1)) hx hb dX0_smallestOn_47 (by decide) ?_
          refine lv_icmp_eq (tgt := 73) hx hb dX0_smallestOn_48 (by decide) (fun c4 => ?_) (fun c4 => ?_)
          · skip
            have ir5 : IV v5_3 (-1) (-1) := iv_eL c4 (iv_c (by decide) : IV (-1) (-1) (-1))
            exact J73 H locs ls f39_v5_4 hH hS (lv_sub hl [1, 2, 3, 5] rfl)
          · skip
            have ir6 : IV v5_3 0 7 := iv_cutL iv5_3 (iv_c (by decide) : IV (-1) (-1) (-1)) c4 (by decide)
            refine lv_aload_n hx hb dX0_smallestOn_51 rfl (lv_at hl 2 rfl) ?_
            refine th_get S hK hH inG7 t1 kd_10 rfl 0 (by decide) gm_226 rfl rfl dX0_smallestOn_52 (fun v7 hv7 fv7 => ?_)
            obtain ⟨rf8, rfl, trf8⟩ := th_V.ref hv7
            refine lv_bipush (v := 15) hx hb dX0_smallestOn_55 (by decide) ?_
            refine lv_iload hx hb dX0_smallestOn_57 (lv_at hl 5 rfl) ?_
            refine lv_iadd hx hb dX0_smallestOn_59 ?_
            refine lv_topi (fun x9 ex9 => ?_)
            have ix9 : IV x9 15 22 := by rw [ex9]; exact iv_add (iv_c (by decide) : IV 15 15 15) f39_v5_4 (by decide)
            refine th_iald S hK hH trf8 kd_29 (th_in (hi := 22) (iv_w ix9 (by decide)) (by decide)) dX0_smallestOn_60 (fun v10 hv10 => ?_)
            obtain ⟨x11, rfl, ix11⟩ := th_V.int hv10
            refine lv_aload_n hx hb dX0_smallestOn_61 rfl (lv_at hl 2 rfl) ?_
            refine th_getK S hK fv7 inG7 rfl (by decide) gm_226 rfl dX0_smallestOn_62 ?_
            refine lv_bipush (v := 15) hx hb dX0_smallestOn_65 (by decide) ?_
            refine lv_iload_n hx hb dX0_smallestOn_67 rfl (lv_at hl 4 rfl) ?_
            refine lv_iadd hx hb dX0_smallestOn_68 ?_
            refine lv_topi (fun x13 ex13 => ?_)
            have ix13 : IV x13 15 22 := by rw [ex13]; exact iv_add (iv_c (by decide) : IV 15 15 15) ir6 (by decide)
            refine th_iald S hK hH trf8 kd_29 (th_in (hi := 22) (iv_w ix13 (by decide)) (by decide)) dX0_smallestOn_69 (fun v14 hv14 => ?_)
            obtain ⟨x15, rfl, ix15⟩ := th_V.int hv14
            refine lv_icmp_ge (tgt := 76) hx hb dX0_smallestOn_70 (by decide) (fun c16 => ?_) (fun c16 => ?_)
            · skip
              exact J76 H locs ls v5_3 (iv_w ir6 (by decide)) f39_v5_4 hH hS (lv_sub hl [1, 2, 3, 4, 5] rfl)
            · skip
              have ir17 : IV x11 (-2147483648) 2147483646 := iv_uL ix11 ix15 (iv_nle c16) (by decide)
              have ir18 : IV x15 (-2147483647) 2147483647 := iv_uR ix11 ix15 (iv_nle c16) (by decide)
              exact J73 H locs ls f39_v5_4 hH hS (lv_sub hl [1, 2, 3, 5] rfl)
      refine lv_iload hx hb dX0_smallestOn_5 (lv_at hl 4 rfl) ?_
      refine lv_aload_n hx hb dX0_smallestOn_7 rfl (lv_at hl 0 rfl) ?_
      refine th_get S hK hH inG0 t0 kd_4 rfl 0 (by decide) gm_369 rfl rfl dX0_smallestOn_8 (fun v19 hv19 fv19 => ?_)
      obtain ⟨rf20, rfl, trf20⟩ := th_V.ref hv19
      refine th_get S hK hH inG4 trf20 kd_3 rfl 13 (by decide) gm_286 rfl rfl dX0_smallestOn_11 (fun v21 hv21 fv21 => ?_)
      obtain ⟨x22, rfl, ix22⟩ := th_V.int hv21
      refine lv_icmp_ge (tgt := 82) hx hb dX0_smallestOn_14 (by decide) (fun c23 => ?_) (fun c23 => ?_)
      · skip
        refine lv_iload_n hx hb dX0_smallestOn_82 rfl (lv_at hl 3 rfl) ?_
        exact th_iret S hK hH hS hr hlocks (th_R.i iv5_3) dX0_smallestOn_83
      · skip
        have ir24 : IV v5_4 0 7 := iv_uL iv5_4 ix22 (iv_nle c23) (by decide)
        have ir25 : IV x22 1 8 := iv_uR iv5_4 ix22 (iv_nle c23) (by decide)
        refine lv_aload_n hx hb dX0_smallestOn_17 rfl (lv_at hl 0 rfl) ?_
        refine th_getK S hK fv19 inG0 rfl (by decide) gm_369 rfl dX0_smallestOn_18 ?_
        refine th_get S hK hH inG4 trf20 kd_3 rfl 6 (by decide) gm_256 rfl rfl dX0_smallestOn_21 (fun v27 hv27 fv27 => ?_)
        obtain ⟨rf28, rfl, trf28⟩ := th_V.ref hv27
        refine lv_iload_n hx hb dX0_smallestOn_24 rfl (lv_at hl 2 rfl) ?_
        refine th_iald S hK hH trf28 kd_26 (th_in (hi := 3) j2 (by decide)) dX0_smallestOn_25 (fun v29 hv29 => ?_)
        obtain ⟨x30, rfl, ix30⟩ := th_V.int hv29
        refine lv_iload hx hb dX0_smallestOn_26 (lv_at hl 4 rfl) ?_
        refine lv_ishr hx hb dX0_smallestOn_28 ?_
        refine lv_topi (fun x31 ex31 => ?_)
        have ix31 := iv_top x31
        refine lv_iconst (v := 1) hx hb dX0_smallestOn_29 (by decide) ?_
        refine lv_iand hx hb dX0_smallestOn_30 ?_
        refine lv_topi (fun x32 ex32 => ?_)
        have ix32 : IV x32 0 1 := by rw [ex32]; exact iv_and (h2 := 1) (iv_w (iv_c (by decide) : IV 1 1 1) (by decide)) (by decide)
        refine lv_if_eq (tgt := 38) hx hb dX0_smallestOn_31 (by decide) (fun c33 => ?_) (fun c33 => ?_)
        · skip
          have ir34 : IV x32 0 0 := iv_eL c33 (iv_c (by decide) : IV 0 0 0)
          refine lv_iconst (v := 0) hx hb dX0_smallestOn_38 (by decide) ?_
          exact J39_s0_0 H locs ls ir24 hH hS (lv_sub hl [0, 1, 2, 3, 4] rfl)
        · skip
          have ir35 : IV x32 1 1 := iv_cutL ix32 (iv_c (by decide) : IV 0 0 0) c33 (by decide)
          refine lv_iconst (v := 1) hx hb dX0_smallestOn_34 (by decide) ?_
          refine lv_goto (tgt := 39) hx hb dX0_smallestOn_35 (by decide) ?_
          exact J39_s0_1 H locs ls ir24 hH hS (lv_sub hl [0, 1, 2, 3, 4] rfl)
  have J0 : ∀ (H : Heap) (locs : List Loc) (ls : Array Slot), th_H D cT T (kd q) H → va_S (th_A T []) s.heap H locs → lv_has ls 6 [(0, .ref a0), (1, .ref a1), (2, .int y2)] → W p l e (rmk 0 0) s m [.ref a0, .ref a1, .int y2].toArray below meth c H locs 0 0 (MQ below (th_Q D cT T (kd q) (th_R T (some (.inl (-1, 7)))) []) [.ref a0, .ref a1, .int y2].toArray s 0 0 (th_A T [])) (F0 m 0 ls []) := by
    intro H locs ls hH hS hl
    refine lv_iconst (v := (-1)) hx hb dX0_smallestOn_0 (by decide) ?_
    refine lv_istore_n (lv' := [(3, .int (-1)), (0, .ref a0), (1, .ref a1), (2, .int y2)]) hx hb dX0_smallestOn_1 rfl hl (by decide) rfl (fun ls hl => ?_)
    refine lv_iconst (v := 0) hx hb dX0_smallestOn_2 (by decide) ?_
    refine lv_istore (lv' := [(4, .int 0), (3, .int (-1)), (0, .ref a0), (1, .ref a1), (2, .int y2)]) hx hb dX0_smallestOn_3 hl (by decide) rfl (fun ls hl => ?_)
    exact J5 ((8 + 1 - Int32.toInt 0).toNat + 1) H locs ls (-1) 0 (iv_w (iv_c (by decide) : IV (-1) (-1) (-1)) (by decide)) (iv_w (iv_c (by decide) : IV 0 0 0) (by decide)) hH hS (lv_sub hl [2, 3, 4, 1, 0] rfl) (Nat.lt_succ_self _)
  exact J0 s.heap [] ls hH va_S.rf hl

set_option maxRecDepth 100000 in
theorem m_X0_eat (l : Launch) (D : va_G) (cT : Nat → ClassId) (T : Nat → Option Nat) (q : Nat → Int) (hq : qok q) (a0 : Nat) (t0 : T a0 = some 4) (a1 : Nat) (t1 : T a1 = some 10) (y2 : Int32) (j2 : IV y2 0 3) (y3 : Int32) (j3 : IV y3 (-2147483648) 2147483647) : th_Met l D cT T (kd q) yX0_eat cX0_eat 8 none (rmk 3 77) [.ref a0, .ref a1, .int y2, .int y3] (th_R T none) [18, 19, 29] := by
  refine th_start (by decide) (Nat.le_of_ble_eq_true rfl) ?_
  intro p e s m below meth c ls S hK hH hr hlocks hnm hl
  have hx := S.1
  have hb := S.2.1
  have hl : lv_has ls 8 [(0, .ref a0), (1, .ref a1), (2, .int y2), (3, .int y3)] := hl
  have J170 : ∀ (H : Heap) (locs : List Loc) (ls : Array Slot), th_H D cT T (kd q) H → va_S (th_A T [18, 19, 29]) s.heap H locs → lv_has ls 8 [] → W p l e (rmk 3 77) s m [.ref a0, .ref a1, .int y2, .int y3].toArray below meth c H locs 0 0 (MQ below (th_Q D cT T (kd q) (th_R T none) [18, 19, 29]) [.ref a0, .ref a1, .int y2, .int y3].toArray s 0 0 (th_A T [18, 19, 29])) (F0 m 170 ls []) := by
    intro H locs ls hH hS hl
    exact th_vret S hK hH hS hr hlocks rfl dX0_eat_170
  have J130 : ∀ (H : Heap) (locs : List Loc) (ls : Array Slot) (v130_4 : Int32) (w130_0 : Int32), IV v130_4 (-2147483648) (-1) → IV w130_0 (-1) 7 → th_H D cT T (kd q) H → va_S (th_A T [18, 19, 29]) s.heap H locs → lv_has ls 8 [(1, .ref a1), (4, .int v130_4)] → W p l e (rmk 3 77) s m [.ref a0, .ref a1, .int y2, .int y3].toArray below meth c H locs 0 0 (MQ below (th_Q D cT T (kd q) (th_R T none) [18, 19, 29]) [.ref a0, .ref a1, .int y2, .int y3].toArray s 0 0 (th_A T [18, 19, 29])) (F0 m 130 ls [.int w130_0]) := by
    intro H locs ls v130_4 w130_0 iv130_4 iw130_0 hH hS hl
    refine lv_istore (lv' := [(5, .int w130_0), (1, .ref a1), (4, .int v130_4)]) hx hb dX0_eat_130 hl (by decide) rfl (fun ls hl => ?_)
    refine lv_iload hx hb dX0_eat_132 (lv_at hl 0 rfl) ?_
    refine lv_iconst (v := (-1)) hx hb dX0_eat_134 (by decide) ?_
    refine lv_icmp_eq (tgt := 170) hx hb dX0_eat_135 (by decide) (fun c1 => ?_) (fun c1 => ?_)
    · skip
      have ir2 : IV w130_0 (-1) (-1) := iv_eL c1 (iv_c (by decide) : IV (-1) (-1) (-1))
      exact J170 H locs ls  hH hS (lv_sub hl [] rfl)
    · skip
      have ir3 : IV w130_0 0 7 := iv_cutL iw130_0 (iv_c (by decide) : IV (-1) (-1) (-1)) c1 (by decide)
      refine lv_aload_n hx hb dX0_eat_138 rfl (lv_at hl 1 rfl) ?_
      refine th_get S hK hH inG7 t1 kd_10 rfl 0 (by decide) gm_226 rfl rfl dX0_eat_139 (fun v4 hv4 fv4 => ?_)
      obtain ⟨rf5, rfl, trf5⟩ := th_V.ref hv4
      refine lv_bipush (v := 15) hx hb dX0_eat_142 (by decide) ?_
      refine lv_iload hx hb dX0_eat_144 (lv_at hl 0 rfl) ?_
      refine lv_iadd hx hb dX0_eat_146 ?_
      refine lv_topi (fun x6 ex6 => ?_)
      have ix6 : IV x6 15 22 := by rw [ex6]; exact iv_add (iv_c (by decide) : IV 15 15 15) ir3 (by decide)
      refine th_iald S hK hH trf5 kd_29 (th_in (hi := 22) (iv_w ix6 (by decide)) (by decide)) dX0_eat_147 (fun v7 hv7 => ?_)
      obtain ⟨x8, rfl, ix8⟩ := th_V.int hv7
      refine lv_iload hx hb dX0_eat_148 (lv_at hl 2 rfl) ?_
      refine lv_isub hx hb dX0_eat_150 ?_
      refine lv_topi (fun x9 ex9 => ?_)
      have ix9 := iv_top x9
      refine lv_istore (lv' := [(6, .int x9), (5, .int w130_0), (1, .ref a1), (4, .int v130_4)]) hx hb dX0_eat_151 hl (by decide) rfl (fun ls hl => ?_)
      refine lv_aload_n hx hb dX0_eat_153 rfl (lv_at hl 2 rfl) ?_
      refine th_getK S hK fv4 inG7 rfl (by decide) gm_226 rfl dX0_eat_154 ?_
      refine lv_bipush (v := 15) hx hb dX0_eat_157 (by decide) ?_
      refine lv_iload hx hb dX0_eat_159 (lv_at hl 1 rfl) ?_
      refine lv_iadd hx hb dX0_eat_161 ?_
      refine lv_topi (fun x11 ex11 => ?_)
      have zx11 : x6 = x11 := ex6.trans ex11.symm
      subst zx11
      refine lv_bipush (v := 60) hx hb dX0_eat_162 (by decide) ?_
      refine lv_iload hx hb dX0_eat_164 (lv_at hl 0 rfl) ?_
      refine va_mmin hx hb (S.2.2.1.trans hl.1.symm) S.2.2.2.1 (S.2.2.2.2 _ gm_850) (S.2.2.2.2 _ gm_649) (S.2.2.2.2 _ gm_129) (S.2.2.2.2 _ gm_650) (Nat.le_of_ble_eq_true rfl) (Nat.le_of_ble_eq_true rfl) (Nat.zero_le _) (Nat.zero_le _) dX0_eat_166 ?_
      refine lv_topi (fun x12 ex12 => ?_)
      have ix12 : IV x12 (-2147483648) 60 := by rw [ex12]; exact iv_min (iv_c (by decide) : IV 60 60 60) ix9 (by decide)
      refine th_iast S hK hH hS ⟨29, by decide, trf5⟩ trf5 kd_29 (th_in (hi := 22) (iv_w ix6 (by decide)) (by decide)) (th_iv (iv_top _)) dX0_eat_169 (fun H locs hH hS hq1 => ?_)
      have f13 := fv4.kept (hq1 _ (th_ne t1 trf5 (by decide)))
      exact J170 H locs ls  hH hS (lv_sub hl [] rfl)
  have J130_s0_m1 : ∀ (H : Heap) (locs : List Loc) (ls : Array Slot) (v130_4 : Int32), IV v130_4 0 2147483647 → th_H D cT T (kd q) H → va_S (th_A T [18, 19, 29]) s.heap H locs → lv_has ls 8 [(1, .ref a1), (4, .int v130_4)] → W p l e (rmk 3 77) s m [.ref a0, .ref a1, .int y2, .int y3].toArray below meth c H locs 0 0 (MQ below (th_Q D cT T (kd q) (th_R T none) [18, 19, 29]) [.ref a0, .ref a1, .int y2, .int y3].toArray s 0 0 (th_A T [18, 19, 29])) (F0 m 130 ls [.int (-1)]) := by
    intro H locs ls v130_4 iv130_4 hH hS hl
    refine lv_istore (lv' := [(5, .int (-1)), (1, .ref a1), (4, .int v130_4)]) hx hb dX0_eat_130 hl (by decide) rfl (fun ls hl => ?_)
    refine lv_iload hx hb dX0_eat_132 (lv_at hl 0 rfl) ?_
    refine lv_iconst (v := (-1)) hx hb dX0_eat_134 (by decide) ?_
    refine lv_icmp_eq (tgt := 170) hx hb dX0_eat_135 (by decide) (fun c14 => ?_) (fun c14 => ?_)
    · skip
      exact J170 H locs ls  hH hS (lv_sub hl [] rfl)
    · skip
      exact absurd (iv_eqc (iv_c (by decide) : IV (-1) (-1) (-1)) (iv_c (by decide) : IV (-1) (-1) (-1))) c14
  have J115 : ∀ (H : Heap) (locs : List Loc) (ls : Array Slot) (v115_4 : Int32), IV v115_4 (-2147483648) 2147483647 → th_H D cT T (kd q) H → va_S (th_A T [18, 19, 29]) s.heap H locs → lv_has ls 8 [(0, .ref a0), (1, .ref a1), (2, .int y2), (4, .int v115_4)] → W p l e (rmk 3 77) s m [.ref a0, .ref a1, .int y2, .int y3].toArray below meth c H locs 0 0 (MQ below (th_Q D cT T (kd q) (th_R T none) [18, 19, 29]) [.ref a0, .ref a1, .int y2, .int y3].toArray s 0 0 (th_A T [18, 19, 29])) (F0 m 115 ls []) := by
    intro H locs ls v115_4 iv115_4 hH hS hl
    refine lv_iload hx hb dX0_eat_115 (lv_at hl 3 rfl) ?_
    refine lv_if_ge (tgt := 129) hx hb dX0_eat_117 (by decide) (fun c15 => ?_) (fun c15 => ?_)
    · skip
      have ir16 : IV v115_4 0 2147483647 := iv_vR (iv_c (by decide) : IV 0 0 0) iv115_4 (iv_le c15) (by decide)
      refine lv_iconst (v := (-1)) hx hb dX0_eat_129 (by decide) ?_
      exact J130_s0_m1 H locs ls v115_4 ir16 hH hS (lv_sub hl [1, 3] rfl)
    · skip
      have ir17 : IV v115_4 (-2147483648) (-1) := iv_uL iv115_4 (iv_c (by decide) : IV 0 0 0) (iv_nle c15) (by decide)
      refine lv_aload_n hx hb dX0_eat_120 rfl (lv_at hl 0 rfl) ?_
      refine lv_aload_n hx hb dX0_eat_121 rfl (lv_at hl 1 rfl) ?_
      refine lv_iload_n hx hb dX0_eat_122 rfl (lv_at hl 2 rfl) ?_
      refine th_callVi (n := 2) (As := [.ref a1, .int y2]) S hK hH hS (th_A.sub (by decide)) (m_X0_smallestOn l D cT T q hq a0 t0 a1 t1 (y2) j2) gm_923 gm_920 gm_922 gm_28 gm_119 (by decide +kernel) ⟨rfl, rfl, Nat.le_of_ble_eq_true rfl, Nat.le_of_ble_eq_true rfl⟩ t0 kd_4 rfl rfl hl.1 rfl (Nat.le_of_ble_eq_true rfl) dX0_eat_123 ⟨Nat.zero_le _, Nat.zero_le _⟩ (fun x18 H locs ix18 hH hS hF1 => ?_)
      refine lv_goto (tgt := 130) hx hb dX0_eat_126 (by decide) ?_
      exact J130 H locs ls v115_4 x18 ir17 ix18 hH hS (lv_sub hl [1, 3] rfl)
  have J13 : ∀ (n : Nat) (H : Heap) (locs : List Loc) (ls : Array Slot) (v13_4 : Int32) (v13_5 : Int32), IV v13_4 (-2147483648) 2147483647 → IV v13_5 0 8 → th_H D cT T (kd q) H → va_S (th_A T [18, 19, 29]) s.heap H locs → lv_has ls 8 [(0, .ref a0), (1, .ref a1), (2, .int y2), (4, .int v13_4), (5, .int v13_5)] → (8 + 1 - v13_5.toInt).toNat < n → W p l e (rmk 3 77) s m [.ref a0, .ref a1, .int y2, .int y3].toArray below meth c H locs 0 0 (MQ below (th_Q D cT T (kd q) (th_R T none) [18, 19, 29]) [.ref a0, .ref a1, .int y2, .int y3].toArray s 0 0 (th_A T [18, 19, 29])) (F0 m 13 ls []) := by
    intro n
    induction n with
    | zero => intro H locs ls v13_4 v13_5 iv13_4 iv13_5 hH hS hl hn; exact absurd hn (Nat.not_lt_zero _)
    | succ n ih13 =>
      intro H locs ls v13_4 v13_5 iv13_4 iv13_5 hH hS hl hn13
      refine lv_iload hx hb dX0_eat_13 (lv_at hl 4 rfl) ?_
      refine lv_bipush (v := 8) hx hb dX0_eat_15 (by decide) ?_
      refine lv_icmp_ge (tgt := 115) hx hb dX0_eat_17 (by decide) (fun c19 => ?_) (fun c19 => ?_)
      · skip
        have ir20 : IV v13_5 8 8 := iv_vR (iv_c (by decide) : IV 8 8 8) iv13_5 (iv_le c19) (by decide)
        exact J115 H locs ls v13_4 iv13_4 hH hS (lv_sub hl [0, 1, 2, 3] rfl)
      · skip
        have ir21 : IV v13_5 0 7 := iv_uL iv13_5 (iv_c (by decide) : IV 8 8 8) (iv_nle c19) (by decide)
        refine lv_iload hx hb dX0_eat_20 (lv_at hl 3 rfl) ?_
        refine lv_if_le (tgt := 115) hx hb dX0_eat_22 (by decide) (fun c22 => ?_) (fun c22 => ?_)
        · skip
          have ir23 : IV v13_4 (-2147483648) 0 := iv_vL iv13_4 (iv_c (by decide) : IV 0 0 0) (iv_le c22) (by decide)
          exact J115 H locs ls v13_4 (iv_top _) hH hS (lv_sub hl [0, 1, 2, 3] rfl)
        · skip
          have ir24 : IV v13_4 1 2147483647 := iv_uR (iv_c (by decide) : IV 0 0 0) iv13_4 (iv_nle c22) (by decide)
          refine lv_aload_n hx hb dX0_eat_25 rfl (lv_at hl 0 rfl) ?_
          refine lv_aload_n hx hb dX0_eat_26 rfl (lv_at hl 1 rfl) ?_
          refine lv_iload_n hx hb dX0_eat_27 rfl (lv_at hl 2 rfl) ?_
          refine th_callVi (n := 2) (As := [.ref a1, .int y2]) S hK hH hS (th_A.sub (by decide)) (m_X0_tastiest l D cT T q hq a0 t0 a1 t1 (y2) j2) gm_918 gm_915 gm_917 gm_27 gm_119 (by decide +kernel) ⟨rfl, rfl, Nat.le_of_ble_eq_true rfl, Nat.le_of_ble_eq_true rfl⟩ t0 kd_4 rfl rfl hl.1 rfl (Nat.le_of_ble_eq_true rfl) dX0_eat_28 ⟨Nat.zero_le _, Nat.zero_le _⟩ (fun x25 H locs ix25 hH hS hF1 => ?_)
          refine lv_istore (lv' := [(6, .int x25), (0, .ref a0), (1, .ref a1), (2, .int y2), (4, .int v13_4), (5, .int v13_5)]) hx hb dX0_eat_31 hl (by decide) rfl (fun ls hl => ?_)
          refine lv_iload hx hb dX0_eat_33 (lv_at hl 0 rfl) ?_
          refine lv_iconst (v := (-1)) hx hb dX0_eat_35 (by decide) ?_
          refine lv_icmp_ne (tgt := 42) hx hb dX0_eat_36 (by decide) (fun c26 => ?_) (fun c26 => ?_)
          · skip
            have ir27 : IV x25 0 7 := iv_cutL ix25 (iv_c (by decide) : IV (-1) (-1) (-1)) c26 (by decide)
            refine lv_iload hx hb dX0_eat_42 (lv_at hl 4 rfl) ?_
            refine lv_aload_n hx hb dX0_eat_44 rfl (lv_at hl 2 rfl) ?_
            refine th_get S hK hH inG7 t1 kd_10 rfl 0 (by decide) gm_226 rfl rfl dX0_eat_45 (fun v28 hv28 fv28 => ?_)
            obtain ⟨rf29, rfl, trf29⟩ := th_V.ref hv28
            refine lv_bipush (v := 15) hx hb dX0_eat_48 (by decide) ?_
            refine lv_iload hx hb dX0_eat_50 (lv_at hl 0 rfl) ?_
            refine lv_iadd hx hb dX0_eat_52 ?_
            refine lv_topi (fun x30 ex30 => ?_)
            have ix30 : IV x30 15 22 := by rw [ex30]; exact iv_add (iv_c (by decide) : IV 15 15 15) ir27 (by decide)
            refine th_iald S hK hH trf29 kd_29 (th_in (hi := 22) (iv_w ix30 (by decide)) (by decide)) dX0_eat_53 (fun v31 hv31 => ?_)
            obtain ⟨x32, rfl, ix32⟩ := th_V.int hv31
            refine va_mmin hx hb (S.2.2.1.trans hl.1.symm) S.2.2.2.1 (S.2.2.2.2 _ gm_850) (S.2.2.2.2 _ gm_649) (S.2.2.2.2 _ gm_129) (S.2.2.2.2 _ gm_650) (Nat.le_of_ble_eq_true rfl) (Nat.le_of_ble_eq_true rfl) (Nat.zero_le _) (Nat.zero_le _) dX0_eat_54 ?_
            refine lv_topi (fun x33 ex33 => ?_)
            have ix33 : IV x33 (-2147483648) 2147483647 := by rw [ex33]; exact iv_min ir24 ix32 (by decide)
            refine lv_istore (lv' := [(7, .int x33), (6, .int x25), (0, .ref a0), (1, .ref a1), (2, .int y2), (4, .int v13_4), (5, .int v13_5)]) hx hb dX0_eat_57 hl (by decide) rfl (fun ls hl => ?_)
            refine lv_aload_n hx hb dX0_eat_59 rfl (lv_at hl 3 rfl) ?_
            refine th_getK S hK fv28 inG7 rfl (by decide) gm_226 rfl dX0_eat_60 ?_
            refine lv_bipush (v := 15) hx hb dX0_eat_63 (by decide) ?_
            refine lv_iload hx hb dX0_eat_65 (lv_at hl 1 rfl) ?_
            refine lv_iadd hx hb dX0_eat_67 ?_
            refine lv_topi (fun x35 ex35 => ?_)
            have zx35 : x30 = x35 := ex30.trans ex35.symm
            subst zx35
            refine lv_dup2_11 hx hb dX0_eat_68 rfl rfl ?_
            refine th_iald S hK hH trf29 kd_29 (th_in (hi := 22) (iv_w ix30 (by decide)) (by decide)) dX0_eat_69 (fun v36 hv36 => ?_)
            obtain ⟨x37, rfl, ix37⟩ := th_V.int hv36
            refine lv_iload hx hb dX0_eat_70 (lv_at hl 0 rfl) ?_
            refine lv_isub hx hb dX0_eat_72 ?_
            refine lv_topi (fun x38 ex38 => ?_)
            have ix38 := iv_top x38
            refine th_iast S hK hH hS ⟨29, by decide, trf29⟩ trf29 kd_29 (th_in (hi := 22) (iv_w ix30 (by decide)) (by decide)) (th_iv ix38) dX0_eat_73 (fun H locs hH hS hq1 => ?_)
            have f39 := fv28.kept (hq1 _ (th_ne t1 trf29 (by decide)))
            refine lv_aload_n hx hb dX0_eat_74 rfl (lv_at hl 3 rfl) ?_
            refine th_getK S hK f39 inG7 rfl (by decide) gm_226 rfl dX0_eat_75 ?_
            refine lv_bipush (v := 23) hx hb dX0_eat_78 (by decide) ?_
            refine lv_iload hx hb dX0_eat_80 (lv_at hl 1 rfl) ?_
            refine lv_iadd hx hb dX0_eat_82 ?_
            refine lv_topi (fun x41 ex41 => ?_)
            have ix41 : IV x41 23 30 := by rw [ex41]; exact iv_add (iv_c (by decide) : IV 23 23 23) ir27 (by decide)
            refine lv_dup2_11 hx hb dX0_eat_83 rfl rfl ?_
            refine th_iald S hK hH trf29 kd_29 (th_in (hi := 30) (iv_w ix41 (by decide)) (by decide)) dX0_eat_84 (fun v42 hv42 => ?_)
            obtain ⟨x43, rfl, ix43⟩ := th_V.int hv42
            refine lv_iconst (v := 1) hx hb dX0_eat_85 (by decide) ?_
            refine lv_iadd hx hb dX0_eat_86 ?_
            refine lv_topi (fun x44 ex44 => ?_)
            have ix44 := iv_top x44
            refine th_iast S hK hH hS ⟨29, by decide, trf29⟩ trf29 kd_29 (th_in (hi := 30) (iv_w ix41 (by decide)) (by decide)) (th_iv ix44) dX0_eat_87 (fun H locs hH hS hq1 => ?_)
            have f45 := f39.kept (hq1 _ (th_ne t1 trf29 (by decide)))
            refine lv_aload_n hx hb dX0_eat_88 rfl (lv_at hl 3 rfl) ?_
            refine th_getK S hK f45 inG7 rfl (by decide) gm_226 rfl dX0_eat_89 ?_
            refine lv_bipush (v := 31) hx hb dX0_eat_92 (by decide) ?_
            refine lv_iload_n hx hb dX0_eat_94 rfl (lv_at hl 4 rfl) ?_
            refine lv_iadd hx hb dX0_eat_95 ?_
            refine lv_topi (fun x47 ex47 => ?_)
            have ix47 : IV x47 31 34 := by rw [ex47]; exact iv_add (iv_c (by decide) : IV 31 31 31) j2 (by decide)
            refine lv_dup2_11 hx hb dX0_eat_96 rfl rfl ?_
            refine th_iald S hK hH trf29 kd_29 (th_in (hi := 34) (iv_w ix47 (by decide)) (by decide)) dX0_eat_97 (fun v48 hv48 => ?_)
            obtain ⟨x49, rfl, ix49⟩ := th_V.int hv48
            refine lv_iload hx hb dX0_eat_98 (lv_at hl 0 rfl) ?_
            refine lv_iadd hx hb dX0_eat_100 ?_
            refine lv_topi (fun x50 ex50 => ?_)
            have ix50 := iv_top x50
            refine th_iast S hK hH hS ⟨29, by decide, trf29⟩ trf29 kd_29 (th_in (hi := 34) (iv_w ix47 (by decide)) (by decide)) (th_iv ix50) dX0_eat_101 (fun H locs hH hS hq1 => ?_)
            have f51 := f45.kept (hq1 _ (th_ne t1 trf29 (by decide)))
            refine lv_iload hx hb dX0_eat_102 (lv_at hl 5 rfl) ?_
            refine lv_iload hx hb dX0_eat_104 (lv_at hl 0 rfl) ?_
            refine lv_isub hx hb dX0_eat_106 ?_
            refine lv_topi (fun x52 ex52 => ?_)
            have ix52 := iv_top x52
            refine lv_istore (lv' := [(4, .int x52), (7, .int x33), (6, .int x25), (0, .ref a0), (1, .ref a1), (2, .int y2), (5, .int v13_5)]) hx hb dX0_eat_107 hl (by decide) rfl (fun ls hl => ?_)
            refine th_iinc S dX0_eat_109 hl (k := 6) rfl (by decide) ir21 (by decide) (fun x53 ls ex53 ix53 hl => ?_)
            have hl : lv_has ls 8 [(5, .int x53), (4, .int x52), (7, .int x33), (6, .int x25), (0, .ref a0), (1, .ref a1), (2, .int y2)] := hl
            have ix53 : IV x53 1 8 := ix53
            refine lv_goto (tgt := 13) hx hb dX0_eat_112 (by decide) ?_
            exact ih13 H locs ls x52 x53 ix52 (iv_w ix53 (by decide)) hH hS (lv_sub hl [4, 5, 6, 1, 0] rfl) (th_up iv13_5 ex53 (by decide) hn13)
          · skip
            have ir54 : IV x25 (-1) (-1) := iv_eL c26 (iv_c (by decide) : IV (-1) (-1) (-1))
            refine lv_goto (tgt := 115) hx hb dX0_eat_39 (by decide) ?_
            exact J115 H locs ls v13_4 (iv_top _) hH hS (lv_sub hl [1, 2, 3, 4] rfl)
  have J0 : ∀ (H : Heap) (locs : List Loc) (ls : Array Slot), th_H D cT T (kd q) H → va_S (th_A T [18, 19, 29]) s.heap H locs → lv_has ls 8 [(0, .ref a0), (1, .ref a1), (2, .int y2), (3, .int y3)] → W p l e (rmk 3 77) s m [.ref a0, .ref a1, .int y2, .int y3].toArray below meth c H locs 0 0 (MQ below (th_Q D cT T (kd q) (th_R T none) [18, 19, 29]) [.ref a0, .ref a1, .int y2, .int y3].toArray s 0 0 (th_A T [18, 19, 29])) (F0 m 0 ls []) := by
    intro H locs ls hH hS hl
    refine lv_iload_n hx hb dX0_eat_0 rfl (lv_at hl 3 rfl) ?_
    refine lv_aload_n hx hb dX0_eat_1 rfl (lv_at hl 0 rfl) ?_
    refine lv_aload_n hx hb dX0_eat_2 rfl (lv_at hl 1 rfl) ?_
    refine lv_iload_n hx hb dX0_eat_3 rfl (lv_at hl 2 rfl) ?_
    refine th_callVi (n := 2) (As := [.ref a1, .int y2]) S hK hH hS (th_A.sub (by decide)) (m_X0_givenTo l D cT T q hq a0 t0 a1 t1 (y2) j2) gm_858 gm_914 gm_856 gm_857 gm_119 (by decide +kernel) ⟨rfl, rfl, Nat.le_of_ble_eq_true rfl, Nat.le_of_ble_eq_true rfl⟩ t0 kd_4 rfl rfl hl.1 rfl (Nat.le_of_ble_eq_true rfl) dX0_eat_4 ⟨Nat.zero_le _, Nat.zero_le _⟩ (fun x55 H locs ix55 hH hS hF1 => ?_)
    refine lv_isub hx hb dX0_eat_7 ?_
    refine lv_topi (fun x56 ex56 => ?_)
    have ix56 := iv_top x56
    refine lv_istore (lv' := [(4, .int x56), (0, .ref a0), (1, .ref a1), (2, .int y2), (3, .int y3)]) hx hb dX0_eat_8 hl (by decide) rfl (fun ls hl => ?_)
    refine lv_iconst (v := 0) hx hb dX0_eat_10 (by decide) ?_
    refine lv_istore (lv' := [(5, .int 0), (4, .int x56), (0, .ref a0), (1, .ref a1), (2, .int y2), (3, .int y3)]) hx hb dX0_eat_11 hl (by decide) rfl (fun ls hl => ?_)
    exact J13 ((8 + 1 - Int32.toInt 0).toNat + 1) H locs ls x56 0 ix56 (iv_w (iv_c (by decide) : IV 0 0 0) (by decide)) hH hS (lv_sub hl [2, 3, 4, 1, 0] rfl) (Nat.lt_succ_self _)
  exact J0 s.heap [] ls hH va_S.rf hl
