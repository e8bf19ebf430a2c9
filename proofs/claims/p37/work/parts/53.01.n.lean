theorem dX11_isSign_0 : decode cX11_isSign 0 = .ok (.iload_n 0, 1) := by decide +kernel
theorem dX11_isSign_1 : decode cX11_isSign 1 = .ok (.bipush 59, 2) := by decide +kernel
theorem dX11_isSign_3 : decode cX11_isSign 3 = .ok (.if_icmp .eq 63, 3) := by decide +kernel
theorem dX11_isSign_6 : decode cX11_isSign 6 = .ok (.iload_n 0, 1) := by decide +kernel
theorem dX11_isSign_7 : decode cX11_isSign 7 = .ok (.bipush 40, 2) := by decide +kernel
theorem dX11_isSign_9 : decode cX11_isSign 9 = .ok (.if_icmp .eq 57, 3) := by decide +kernel
theorem dX11_isSign_12 : decode cX11_isSign 12 = .ok (.iload_n 0, 1) := by decide +kernel
theorem dX11_isSign_13 : decode cX11_isSign 13 = .ok (.bipush 41, 2) := by decide +kernel
theorem dX11_isSign_15 : decode cX11_isSign 15 = .ok (.if_icmp .eq 51, 3) := by decide +kernel
theorem dX11_isSign_18 : decode cX11_isSign 18 = .ok (.iload_n 0, 1) := by decide +kernel
theorem dX11_isSign_19 : decode cX11_isSign 19 = .ok (.bipush 60, 2) := by decide +kernel
theorem dX11_isSign_21 : decode cX11_isSign 21 = .ok (.if_icmp .eq 45, 3) := by decide +kernel
theorem dX11_isSign_24 : decode cX11_isSign 24 = .ok (.iload_n 0, 1) := by decide +kernel
theorem dX11_isSign_25 : decode cX11_isSign 25 = .ok (.bipush 62, 2) := by decide +kernel
theorem dX11_isSign_27 : decode cX11_isSign 27 = .ok (.if_icmp .eq 39, 3) := by decide +kernel
theorem dX11_isSign_30 : decode cX11_isSign 30 = .ok (.iload_n 0, 1) := by decide +kernel
theorem dX11_isSign_31 : decode cX11_isSign 31 = .ok (.bipush 61, 2) := by decide +kernel
theorem dX11_isSign_33 : decode cX11_isSign 33 = .ok (.if_icmp .eq 33, 3) := by decide +kernel
theorem dX11_isSign_36 : decode cX11_isSign 36 = .ok (.iload_n 0, 1) := by decide +kernel
theorem dX11_isSign_37 : decode cX11_isSign 37 = .ok (.bipush 43, 2) := by decide +kernel
theorem dX11_isSign_39 : decode cX11_isSign 39 = .ok (.if_icmp .eq 27, 3) := by decide +kernel
theorem dX11_isSign_42 : decode cX11_isSign 42 = .ok (.iload_n 0, 1) := by decide +kernel
theorem dX11_isSign_43 : decode cX11_isSign 43 = .ok (.bipush 45, 2) := by decide +kernel
theorem dX11_isSign_45 : decode cX11_isSign 45 = .ok (.if_icmp .eq 21, 3) := by decide +kernel
theorem dX11_isSign_48 : decode cX11_isSign 48 = .ok (.iload_n 0, 1) := by decide +kernel
theorem dX11_isSign_49 : decode cX11_isSign 49 = .ok (.bipush 42, 2) := by decide +kernel
theorem dX11_isSign_51 : decode cX11_isSign 51 = .ok (.if_icmp .eq 15, 3) := by decide +kernel
theorem dX11_isSign_54 : decode cX11_isSign 54 = .ok (.iload_n 0, 1) := by decide +kernel
theorem dX11_isSign_55 : decode cX11_isSign 55 = .ok (.bipush 47, 2) := by decide +kernel
theorem dX11_isSign_57 : decode cX11_isSign 57 = .ok (.if_icmp .eq 9, 3) := by decide +kernel
theorem dX11_isSign_60 : decode cX11_isSign 60 = .ok (.iload_n 0, 1) := by decide +kernel
theorem dX11_isSign_61 : decode cX11_isSign 61 = .ok (.bipush 37, 2) := by decide +kernel
theorem dX11_isSign_63 : decode cX11_isSign 63 = .ok (.if_icmp .ne 7, 3) := by decide +kernel
theorem dX11_isSign_66 : decode cX11_isSign 66 = .ok (.iconst 1, 1) := by decide +kernel
theorem dX11_isSign_67 : decode cX11_isSign 67 = .ok (.goto 4, 3) := by decide +kernel
theorem dX11_isSign_70 : decode cX11_isSign 70 = .ok (.iconst 0, 1) := by decide +kernel
theorem dX11_isSign_71 : decode cX11_isSign 71 = .ok (.ireturn, 1) := by decide +kernel
theorem dX11_goOn_0 : decode cX11_goOn 0 = .ok (.aload_n 0, 1) := by decide +kernel
theorem dX11_goOn_1 : decode cX11_goOn 1 = .ok (.aload_n 0, 1) := by decide +kernel
theorem dX11_goOn_2 : decode cX11_goOn 2 = .ok (.getfield 205, 3) := by decide +kernel
theorem dX11_goOn_5 : decode cX11_goOn 5 = .ok (.putfield 208, 3) := by decide +kernel
theorem dX11_goOn_8 : decode cX11_goOn 8 = .ok (.aload_n 0, 1) := by decide +kernel
theorem dX11_goOn_9 : decode cX11_goOn 9 = .ok (.getfield 208, 3) := by decide +kernel
theorem dX11_goOn_12 : decode cX11_goOn 12 = .ok (.aload_n 0, 1) := by decide +kernel
theorem dX11_goOn_13 : decode cX11_goOn 13 = .ok (.getfield 155, 3) := by decide +kernel
theorem dX11_goOn_16 : decode cX11_goOn 16 = .ok (.if_icmp .ge 42, 3) := by decide +kernel
theorem dX11_goOn_19 : decode cX11_goOn 19 = .ok (.aload_n 0, 1) := by decide +kernel
theorem dX11_goOn_20 : decode cX11_goOn 20 = .ok (.aload_n 0, 1) := by decide +kernel
theorem dX11_goOn_21 : decode cX11_goOn 21 = .ok (.getfield 208, 3) := by decide +kernel
theorem dX11_goOn_24 : decode cX11_goOn 24 = .ok (.invokevirtual 211, 3) := by decide +kernel
theorem dX11_goOn_27 : decode cX11_goOn 27 = .ok (.bipush 32, 2) := by decide +kernel
theorem dX11_goOn_29 : decode cX11_goOn 29 = .ok (.if_icmp .eq 16, 3) := by decide +kernel
theorem dX11_goOn_32 : decode cX11_goOn 32 = .ok (.aload_n 0, 1) := by decide +kernel
theorem dX11_goOn_33 : decode cX11_goOn 33 = .ok (.aload_n 0, 1) := by decide +kernel
theorem dX11_goOn_34 : decode cX11_goOn 34 = .ok (.getfield 208, 3) := by decide +kernel
theorem dX11_goOn_37 : decode cX11_goOn 37 = .ok (.invokevirtual 211, 3) := by decide +kernel
theorem dX11_goOn_40 : decode cX11_goOn 40 = .ok (.bipush 10, 2) := by decide +kernel
theorem dX11_goOn_42 : decode cX11_goOn 42 = .ok (.if_icmp .ne 16, 3) := by decide +kernel
theorem dX11_goOn_45 : decode cX11_goOn 45 = .ok (.aload_n 0, 1) := by decide +kernel
theorem dX11_goOn_46 : decode cX11_goOn 46 = .ok (.dup, 1) := by decide +kernel
theorem dX11_goOn_47 : decode cX11_goOn 47 = .ok (.getfield 208, 3) := by decide +kernel
theorem dX11_goOn_50 : decode cX11_goOn 50 = .ok (.iconst 1, 1) := by decide +kernel
theorem dX11_goOn_51 : decode cX11_goOn 51 = .ok (.iadd, 1) := by decide +kernel
theorem dX11_goOn_52 : decode cX11_goOn 52 = .ok (.putfield 208, 3) := by decide +kernel
theorem dX11_goOn_55 : decode cX11_goOn 55 = .ok (.goto (-47), 3) := by decide +kernel
theorem dX11_goOn_58 : decode cX11_goOn 58 = .ok (.aload_n 0, 1) := by decide +kernel
theorem dX11_goOn_59 : decode cX11_goOn 59 = .ok (.aload_n 0, 1) := by decide +kernel
theorem dX11_goOn_60 : decode cX11_goOn 60 = .ok (.getfield 208, 3) := by decide +kernel
theorem dX11_goOn_63 : decode cX11_goOn 63 = .ok (.invokevirtual 211, 3) := by decide +kernel
theorem dX11_goOn_66 : decode cX11_goOn 66 = .ok (.istore_n 1, 1) := by decide +kernel
theorem dX11_goOn_67 : decode cX11_goOn 67 = .ok (.aload_n 0, 1) := by decide +kernel
theorem dX11_goOn_68 : decode cX11_goOn 68 = .ok (.aload_n 0, 1) := by decide +kernel
theorem dX11_goOn_69 : decode cX11_goOn 69 = .ok (.getfield 208, 3) := by decide +kernel
theorem dX11_goOn_72 : decode cX11_goOn 72 = .ok (.iconst 1, 1) := by decide +kernel
theorem dX11_goOn_73 : decode cX11_goOn 73 = .ok (.iadd, 1) := by decide +kernel
theorem dX11_goOn_74 : decode cX11_goOn 74 = .ok (.putfield 205, 3) := by decide +kernel
theorem dX11_goOn_77 : decode cX11_goOn 77 = .ok (.aload_n 0, 1) := by decide +kernel
theorem dX11_goOn_78 : decode cX11_goOn 78 = .ok (.getfield 208, 3) := by decide +kernel
theorem dX11_goOn_81 : decode cX11_goOn 81 = .ok (.aload_n 0, 1) := by decide +kernel
theorem dX11_goOn_82 : decode cX11_goOn 82 = .ok (.getfield 155, 3) := by decide +kernel
theorem dX11_goOn_85 : decode cX11_goOn 85 = .ok (.if_icmp .lt 27, 3) := by decide +kernel
theorem dX11_goOn_88 : decode cX11_goOn 88 = .ok (.aload_n 0, 1) := by decide +kernel
theorem dX11_goOn_89 : decode cX11_goOn 89 = .ok (.iconst 0, 1) := by decide +kernel
theorem dX11_goOn_90 : decode cX11_goOn 90 = .ok (.putfield 215, 3) := by decide +kernel
theorem dX11_goOn_93 : decode cX11_goOn 93 = .ok (.aload_n 0, 1) := by decide +kernel
theorem dX11_goOn_94 : decode cX11_goOn 94 = .ok (.aload_n 0, 1) := by decide +kernel
theorem dX11_goOn_95 : decode cX11_goOn 95 = .ok (.getfield 155, 3) := by decide +kernel
theorem dX11_goOn_98 : decode cX11_goOn 98 = .ok (.putfield 208, 3) := by decide +kernel
theorem dX11_goOn_101 : decode cX11_goOn 101 = .ok (.aload_n 0, 1) := by decide +kernel
theorem dX11_goOn_102 : decode cX11_goOn 102 = .ok (.aload_n 0, 1) := by decide +kernel
theorem dX11_goOn_103 : decode cX11_goOn 103 = .ok (.getfield 155, 3) := by decide +kernel
theorem dX11_goOn_106 : decode cX11_goOn 106 = .ok (.putfield 205, 3) := by decide +kernel
theorem dX11_goOn_109 : decode cX11_goOn 109 = .ok (.goto 268, 3) := by decide +kernel
theorem dX11_goOn_112 : decode cX11_goOn 112 = .ok (.iload_n 1, 1) := by decide +kernel
theorem dX11_goOn_113 : decode cX11_goOn 113 = .ok (.invokestatic 218, 3) := by decide +kernel
theorem dX11_goOn_116 : decode cX11_goOn 116 = .ok (.ifCond .eq 123, 3) := by decide +kernel
theorem dX11_goOn_119 : decode cX11_goOn 119 = .ok (.aload_n 0, 1) := by decide +kernel
theorem dX11_goOn_120 : decode cX11_goOn 120 = .ok (.aload_n 0, 1) := by decide +kernel
theorem dX11_goOn_121 : decode cX11_goOn 121 = .ok (.getfield 205, 3) := by decide +kernel
theorem dX11_goOn_124 : decode cX11_goOn 124 = .ok (.invokevirtual 211, 3) := by decide +kernel
theorem dX11_goOn_127 : decode cX11_goOn 127 = .ok (.invokestatic 218, 3) := by decide +kernel
theorem dX11_goOn_130 : decode cX11_goOn 130 = .ok (.ifCond .eq 16, 3) := by decide +kernel
theorem dX11_goOn_133 : decode cX11_goOn 133 = .ok (.aload_n 0, 1) := by decide +kernel
theorem dX11_goOn_134 : decode cX11_goOn 134 = .ok (.dup, 1) := by decide +kernel
theorem dX11_goOn_135 : decode cX11_goOn 135 = .ok (.getfield 205, 3) := by decide +kernel
theorem dX11_goOn_138 : decode cX11_goOn 138 = .ok (.iconst 1, 1) := by decide +kernel
theorem dX11_goOn_139 : decode cX11_goOn 139 = .ok (.iadd, 1) := by decide +kernel
theorem dX11_goOn_140 : decode cX11_goOn 140 = .ok (.putfield 205, 3) := by decide +kernel
theorem dX11_goOn_143 : decode cX11_goOn 143 = .ok (.goto (-24), 3) := by decide +kernel
theorem dX11_goOn_146 : decode cX11_goOn 146 = .ok (.aload_n 0, 1) := by decide +kernel
theorem dX11_goOn_147 : decode cX11_goOn 147 = .ok (.lconst 0, 1) := by decide +kernel
theorem dX11_goOn_148 : decode cX11_goOn 148 = .ok (.putfield 222, 3) := by decide +kernel
theorem dX11_goOn_151 : decode cX11_goOn 151 = .ok (.aload_n 0, 1) := by decide +kernel
theorem dX11_goOn_152 : decode cX11_goOn 152 = .ok (.getfield 208, 3) := by decide +kernel
theorem dX11_goOn_155 : decode cX11_goOn 155 = .ok (.istore_n 2, 1) := by decide +kernel
theorem dX11_goOn_156 : decode cX11_goOn 156 = .ok (.iload_n 2, 1) := by decide +kernel
theorem dX11_goOn_157 : decode cX11_goOn 157 = .ok (.aload_n 0, 1) := by decide +kernel
theorem dX11_goOn_158 : decode cX11_goOn 158 = .ok (.getfield 205, 3) := by decide +kernel
theorem dX11_goOn_161 : decode cX11_goOn 161 = .ok (.if_icmp .ge 38, 3) := by decide +kernel
theorem dX11_goOn_164 : decode cX11_goOn 164 = .ok (.iload_n 2, 1) := by decide +kernel
theorem dX11_goOn_165 : decode cX11_goOn 165 = .ok (.aload_n 0, 1) := by decide +kernel
theorem dX11_goOn_166 : decode cX11_goOn 166 = .ok (.getfield 208, 3) := by decide +kernel
theorem dX11_goOn_169 : decode cX11_goOn 169 = .ok (.bipush 8, 2) := by decide +kernel
theorem dX11_goOn_171 : decode cX11_goOn 171 = .ok (.iadd, 1) := by decide +kernel
theorem dX11_goOn_172 : decode cX11_goOn 172 = .ok (.if_icmp .ge 27, 3) := by decide +kernel
theorem dX11_goOn_175 : decode cX11_goOn 175 = .ok (.aload_n 0, 1) := by decide +kernel
theorem dX11_goOn_176 : decode cX11_goOn 176 = .ok (.aload_n 0, 1) := by decide +kernel
theorem dX11_goOn_177 : decode cX11_goOn 177 = .ok (.getfield 222, 3) := by decide +kernel
theorem dX11_goOn_180 : decode cX11_goOn 180 = .ok (.bipush 8, 2) := by decide +kernel
theorem dX11_goOn_182 : decode cX11_goOn 182 = .ok (.lshl, 1) := by decide +kernel
theorem dX11_goOn_183 : decode cX11_goOn 183 = .ok (.aload_n 0, 1) := by decide +kernel
theorem dX11_goOn_184 : decode cX11_goOn 184 = .ok (.iload_n 2, 1) := by decide +kernel
theorem dX11_goOn_185 : decode cX11_goOn 185 = .ok (.invokevirtual 211, 3) := by decide +kernel
theorem dX11_goOn_188 : decode cX11_goOn 188 = .ok (.i2l, 1) := by decide +kernel
theorem dX11_goOn_189 : decode cX11_goOn 189 = .ok (.lor, 1) := by decide +kernel
theorem dX11_goOn_190 : decode cX11_goOn 190 = .ok (.putfield 222, 3) := by decide +kernel
theorem dX11_goOn_193 : decode cX11_goOn 193 = .ok (.iinc 2 1, 3) := by decide +kernel
theorem dX11_goOn_196 : decode cX11_goOn 196 = .ok (.goto (-40), 3) := by decide +kernel
theorem dX11_goOn_199 : decode cX11_goOn 199 = .ok (.aload_n 0, 1) := by decide +kernel
theorem dX11_goOn_200 : decode cX11_goOn 200 = .ok (.aload_n 0, 1) := by decide +kernel
theorem dX11_goOn_201 : decode cX11_goOn 201 = .ok (.getfield 205, 3) := by decide +kernel
theorem dX11_goOn_204 : decode cX11_goOn 204 = .ok (.aload_n 0, 1) := by decide +kernel
theorem dX11_goOn_205 : decode cX11_goOn 205 = .ok (.getfield 208, 3) := by decide +kernel
theorem dX11_goOn_208 : decode cX11_goOn 208 = .ok (.isub, 1) := by decide +kernel
theorem dX11_goOn_209 : decode cX11_goOn 209 = .ok (.bipush 8, 2) := by decide +kernel
theorem dX11_goOn_211 : decode cX11_goOn 211 = .ok (.if_icmp .le 7, 3) := by decide +kernel
theorem dX11_goOn_214 : decode cX11_goOn 214 = .ok (.iconst 1, 1) := by decide +kernel
theorem dX11_goOn_215 : decode cX11_goOn 215 = .ok (.goto 18, 3) := by decide +kernel
theorem dX11_goOn_218 : decode cX11_goOn 218 = .ok (.aload_n 0, 1) := by decide +kernel
theorem dX11_goOn_219 : decode cX11_goOn 219 = .ok (.getfield 222, 3) := by decide +kernel
theorem dX11_goOn_222 : decode cX11_goOn 222 = .ok (.invokestatic 226, 3) := by decide +kernel
theorem dX11_goOn_225 : decode cX11_goOn 225 = .ok (.ifCond .eq 7, 3) := by decide +kernel
theorem dX11_goOn_228 : decode cX11_goOn 228 = .ok (.iconst 3, 1) := by decide +kernel
theorem dX11_goOn_229 : decode cX11_goOn 229 = .ok (.goto 4, 3) := by decide +kernel
theorem dX11_goOn_232 : decode cX11_goOn 232 = .ok (.iconst 2, 1) := by decide +kernel
theorem dX11_goOn_233 : decode cX11_goOn 233 = .ok (.putfield 215, 3) := by decide +kernel
theorem dX11_goOn_236 : decode cX11_goOn 236 = .ok (.goto 141, 3) := by decide +kernel
theorem dX11_goOn_239 : decode cX11_goOn 239 = .ok (.iload_n 1, 1) := by decide +kernel
theorem dX11_goOn_240 : decode cX11_goOn 240 = .ok (.invokestatic 230, 3) := by decide +kernel
theorem dX11_goOn_243 : decode cX11_goOn 243 = .ok (.ifCond .eq 118, 3) := by decide +kernel
theorem dX11_goOn_246 : decode cX11_goOn 246 = .ok (.aload_n 0, 1) := by decide +kernel
theorem dX11_goOn_247 : decode cX11_goOn 247 = .ok (.iconst 0, 1) := by decide +kernel
theorem dX11_goOn_248 : decode cX11_goOn 248 = .ok (.putfield 233, 3) := by decide +kernel
theorem dX11_goOn_251 : decode cX11_goOn 251 = .ok (.aload_n 0, 1) := by decide +kernel
theorem dX11_goOn_252 : decode cX11_goOn 252 = .ok (.aload_n 0, 1) := by decide +kernel
theorem dX11_goOn_253 : decode cX11_goOn 253 = .ok (.getfield 208, 3) := by decide +kernel
theorem dX11_goOn_256 : decode cX11_goOn 256 = .ok (.putfield 205, 3) := by decide +kernel
theorem dX11_goOn_259 : decode cX11_goOn 259 = .ok (.aload_n 0, 1) := by decide +kernel
theorem dX11_goOn_260 : decode cX11_goOn 260 = .ok (.aload_n 0, 1) := by decide +kernel
theorem dX11_goOn_261 : decode cX11_goOn 261 = .ok (.getfield 205, 3) := by decide +kernel
theorem dX11_goOn_264 : decode cX11_goOn 264 = .ok (.invokevirtual 211, 3) := by decide +kernel
theorem dX11_goOn_267 : decode cX11_goOn 267 = .ok (.invokestatic 230, 3) := by decide +kernel
theorem dX11_goOn_270 : decode cX11_goOn 270 = .ok (.ifCond .eq 52, 3) := by decide +kernel
theorem dX11_goOn_273 : decode cX11_goOn 273 = .ok (.aload_n 0, 1) := by decide +kernel
theorem dX11_goOn_274 : decode cX11_goOn 274 = .ok (.getfield 205, 3) := by decide +kernel
theorem dX11_goOn_277 : decode cX11_goOn 277 = .ok (.aload_n 0, 1) := by decide +kernel
theorem dX11_goOn_278 : decode cX11_goOn 278 = .ok (.getfield 208, 3) := by decide +kernel
theorem dX11_goOn_281 : decode cX11_goOn 281 = .ok (.isub, 1) := by decide +kernel
theorem dX11_goOn_282 : decode cX11_goOn 282 = .ok (.iconst 4, 1) := by decide +kernel
theorem dX11_goOn_283 : decode cX11_goOn 283 = .ok (.if_icmp .ge 26, 3) := by decide +kernel
theorem dX11_goOn_286 : decode cX11_goOn 286 = .ok (.aload_n 0, 1) := by decide +kernel
theorem dX11_goOn_287 : decode cX11_goOn 287 = .ok (.bipush 10, 2) := by decide +kernel
theorem dX11_goOn_289 : decode cX11_goOn 289 = .ok (.aload_n 0, 1) := by decide +kernel
theorem dX11_goOn_290 : decode cX11_goOn 290 = .ok (.getfield 233, 3) := by decide +kernel
theorem dX11_goOn_293 : decode cX11_goOn 293 = .ok (.imul, 1) := by decide +kernel
theorem dX11_goOn_294 : decode cX11_goOn 294 = .ok (.aload_n 0, 1) := by decide +kernel
theorem dX11_goOn_295 : decode cX11_goOn 295 = .ok (.aload_n 0, 1) := by decide +kernel
theorem dX11_goOn_296 : decode cX11_goOn 296 = .ok (.getfield 205, 3) := by decide +kernel
theorem dX11_goOn_299 : decode cX11_goOn 299 = .ok (.invokevirtual 211, 3) := by decide +kernel
theorem dX11_goOn_302 : decode cX11_goOn 302 = .ok (.iadd, 1) := by decide +kernel
theorem dX11_goOn_303 : decode cX11_goOn 303 = .ok (.bipush 48, 2) := by decide +kernel
theorem dX11_goOn_305 : decode cX11_goOn 305 = .ok (.isub, 1) := by decide +kernel
theorem dX11_goOn_306 : decode cX11_goOn 306 = .ok (.putfield 233, 3) := by decide +kernel
theorem dX11_goOn_309 : decode cX11_goOn 309 = .ok (.aload_n 0, 1) := by decide +kernel
theorem dX11_goOn_310 : decode cX11_goOn 310 = .ok (.dup, 1) := by decide +kernel
theorem dX11_goOn_311 : decode cX11_goOn 311 = .ok (.getfield 205, 3) := by decide +kernel
theorem dX11_goOn_314 : decode cX11_goOn 314 = .ok (.iconst 1, 1) := by decide +kernel
theorem dX11_goOn_315 : decode cX11_goOn 315 = .ok (.iadd, 1) := by decide +kernel
theorem dX11_goOn_316 : decode cX11_goOn 316 = .ok (.putfield 205, 3) := by decide +kernel
theorem dX11_goOn_319 : decode cX11_goOn 319 = .ok (.goto (-60), 3) := by decide +kernel
theorem dX11_goOn_322 : decode cX11_goOn 322 = .ok (.aload_n 0, 1) := by decide +kernel
theorem dX11_goOn_323 : decode cX11_goOn 323 = .ok (.aload_n 0, 1) := by decide +kernel
theorem dX11_goOn_324 : decode cX11_goOn 324 = .ok (.getfield 205, 3) := by decide +kernel
theorem dX11_goOn_327 : decode cX11_goOn 327 = .ok (.aload_n 0, 1) := by decide +kernel
theorem dX11_goOn_328 : decode cX11_goOn 328 = .ok (.getfield 208, 3) := by decide +kernel
theorem dX11_goOn_331 : decode cX11_goOn 331 = .ok (.isub, 1) := by decide +kernel
theorem dX11_goOn_332 : decode cX11_goOn 332 = .ok (.iconst 4, 1) := by decide +kernel
theorem dX11_goOn_333 : decode cX11_goOn 333 = .ok (.if_icmp .gt 17, 3) := by decide +kernel
theorem dX11_goOn_336 : decode cX11_goOn 336 = .ok (.aload_n 0, 1) := by decide +kernel
theorem dX11_goOn_337 : decode cX11_goOn 337 = .ok (.aload_n 0, 1) := by decide +kernel
theorem dX11_goOn_338 : decode cX11_goOn 338 = .ok (.getfield 205, 3) := by decide +kernel
theorem dX11_goOn_341 : decode cX11_goOn 341 = .ok (.invokevirtual 211, 3) := by decide +kernel
theorem dX11_goOn_344 : decode cX11_goOn 344 = .ok (.invokestatic 218, 3) := by decide +kernel
theorem dX11_goOn_347 : decode cX11_goOn 347 = .ok (.ifCond .eq 7, 3) := by decide +kernel
theorem dX11_goOn_350 : decode cX11_goOn 350 = .ok (.iconst 1, 1) := by decide +kernel
theorem dX11_goOn_351 : decode cX11_goOn 351 = .ok (.goto 4, 3) := by decide +kernel
theorem dX11_goOn_354 : decode cX11_goOn 354 = .ok (.iconst 4, 1) := by decide +kernel
theorem dX11_goOn_355 : decode cX11_goOn 355 = .ok (.putfield 215, 3) := by decide +kernel
theorem dX11_goOn_358 : decode cX11_goOn 358 = .ok (.goto 19, 3) := by decide +kernel
theorem dX11_goOn_361 : decode cX11_goOn 361 = .ok (.aload_n 0, 1) := by decide +kernel
theorem dX11_goOn_362 : decode cX11_goOn 362 = .ok (.iload_n 1, 1) := by decide +kernel
theorem dX11_goOn_363 : decode cX11_goOn 363 = .ok (.invokestatic 236, 3) := by decide +kernel
theorem dX11_goOn_366 : decode cX11_goOn 366 = .ok (.ifCond .eq 7, 3) := by decide +kernel
theorem dX11_goOn_369 : decode cX11_goOn 369 = .ok (.iconst 5, 1) := by decide +kernel
theorem dX11_goOn_370 : decode cX11_goOn 370 = .ok (.goto 4, 3) := by decide +kernel
theorem dX11_goOn_373 : decode cX11_goOn 373 = .ok (.iconst 1, 1) := by decide +kernel
theorem dX11_goOn_374 : decode cX11_goOn 374 = .ok (.putfield 215, 3) := by decide +kernel
theorem dX11_goOn_377 : decode cX11_goOn 377 = .ok (.return_, 1) := by decide +kernel
set_option maxHeartbeats 20000000 in
set_option maxRecDepth 100000 in
theorem m_X11_isSign (l : Launch) (D : va_G) (cT : Nat → ClassId) (T : Nat → Option Nat) (q : Nat → Int) (hT : tokm T) (hq : qkm q) (y0 : Int32) (j0 : IV y0 (-2147483648) 2147483647) : th_Met l D cT T (km q) yX11_isSign cX11_isSign 1 (some .boolean) (rmk 0 0) [.int y0] (th_R T (some (.inl (0, 1)))) [] := by
  refine th_start (by decide) (Nat.le_of_ble_eq_true rfl) ?_
  intro p e s m below meth c ls S hK hH hr hlocks hnm hl
  have hx := S.1
  have hb := S.2.1
  have hl : lv_has ls 1 [(0, .int y0)] := hl
  have J71_s0_0 : ∀ (H : Heap) (locs : List Loc) (ls : Array Slot), th_H D cT T (km q) H → va_S (th_A T []) s.heap H locs → lv_has ls 1 [] → W p l e (rmk 0 0) s m [.int y0].toArray below meth c H locs 0 0 (MQ below (th_Q D cT T (km q) (th_R T (some (.inl (0, 1)))) []) [.int y0].toArray s 0 0 (th_A T [])) (F0 m 71 ls [.int 0]) := by
    intro H locs ls hH hS hl
    exact th_zret S hK hH hS hr hlocks (iv_w (iv_c (by decide) : IV 0 0 0) (by decide)) (th_R.i (iv_w (iv_c (by decide) : IV 0 0 0) (by decide))) dX11_isSign_71
  have J71_s0_1 : ∀ (H : Heap) (locs : List Loc) (ls : Array Slot), th_H D cT T (km q) H → va_S (th_A T []) s.heap H locs → lv_has ls 1 [] → W p l e (rmk 0 0) s m [.int y0].toArray below meth c H locs 0 0 (MQ below (th_Q D cT T (km q) (th_R T (some (.inl (0, 1)))) []) [.int y0].toArray s 0 0 (th_A T [])) (F0 m 71 ls [.int 1]) := by
    intro H locs ls hH hS hl
    exact th_zret S hK hH hS hr hlocks (iv_w (iv_c (by decide) : IV 1 1 1) (by decide)) (th_R.i (iv_w (iv_c (by decide) : IV 1 1 1) (by decide))) dX11_isSign_71
  have J66 : ∀ (H : Heap) (locs : List Loc) (ls : Array Slot), th_H D cT T (km q) H → va_S (th_A T []) s.heap H locs → lv_has ls 1 [] → W p l e (rmk 0 0) s m [.int y0].toArray below meth c H locs 0 0 (MQ below (th_Q D cT T (km q) (th_R T (some (.inl (0, 1)))) []) [.int y0].toArray s 0 0 (th_A T [])) (F0 m 66 ls []) := by
    intro H locs ls hH hS hl
    refine lv_iconst (v := 1) hx hb dX11_isSign_66 (by decide) ?_
    refine lv_goto (tgt := 71) hx hb dX11_isSign_67 (by decide) ?_
    exact J71_s0_1 H locs ls  hH hS (lv_sub hl [] rfl)
  have J0 : ∀ (H : Heap) (locs : List Loc) (ls : Array Slot), th_H D cT T (km q) H → va_S (th_A T []) s.heap H locs → lv_has ls 1 [(0, .int y0)] → W p l e (rmk 0 0) s m [.int y0].toArray below meth c H locs 0 0 (MQ below (th_Q D cT T (km q) (th_R T (some (.inl (0, 1)))) []) [.int y0].toArray s 0 0 (th_A T [])) (F0 m 0 ls []) := by
    intro H locs ls hH hS hl
    refine lv_iload_n hx hb dX11_isSign_0 rfl (lv_at hl 0 rfl) ?_
    refine lv_bipush (v := 59) hx hb dX11_isSign_1 (by decide) ?_
    refine lv_icmp_eq (tgt := 66) hx hb dX11_isSign_3 (by decide) (fun c1 => ?_) (fun c1 => ?_)
    · skip
      have rlc1 : y0.toInt = (59 : Int) := congrArg Int32.toInt c1
      have ir2 : IV y0 59 59 := iv_eL c1 (iv_c (by decide) : IV 59 59 59)
      have ir2a := ir2.1; have ir2b := ir2.2
      exact J66 H locs ls  hH hS (lv_sub hl [] rfl)
    · skip
      have rlc1 : y0.toInt ≠ (59 : Int) := iv_ne c1
      refine lv_iload_n hx hb dX11_isSign_6 rfl (lv_at hl 0 rfl) ?_
      refine lv_bipush (v := 40) hx hb dX11_isSign_7 (by decide) ?_
      refine lv_icmp_eq (tgt := 66) hx hb dX11_isSign_9 (by decide) (fun c3 => ?_) (fun c3 => ?_)
      · skip
        have rlc3 : y0.toInt = (40 : Int) := congrArg Int32.toInt c3
        have ir4 : IV y0 40 40 := iv_eL c3 (iv_c (by decide) : IV 40 40 40)
        have ir4a := ir4.1; have ir4b := ir4.2
        exact J66 H locs ls  hH hS (lv_sub hl [] rfl)
      · skip
        have rlc3 : y0.toInt ≠ (40 : Int) := iv_ne c3
        refine lv_iload_n hx hb dX11_isSign_12 rfl (lv_at hl 0 rfl) ?_
        refine lv_bipush (v := 41) hx hb dX11_isSign_13 (by decide) ?_
        refine lv_icmp_eq (tgt := 66) hx hb dX11_isSign_15 (by decide) (fun c5 => ?_) (fun c5 => ?_)
        · skip
          have rlc5 : y0.toInt = (41 : Int) := congrArg Int32.toInt c5
          have ir6 : IV y0 41 41 := iv_eL c5 (iv_c (by decide) : IV 41 41 41)
          have ir6a := ir6.1; have ir6b := ir6.2
          exact J66 H locs ls  hH hS (lv_sub hl [] rfl)
        · skip
          have rlc5 : y0.toInt ≠ (41 : Int) := iv_ne c5
          refine lv_iload_n hx hb dX11_isSign_18 rfl (lv_at hl 0 rfl) ?_
          refine lv_bipush (v := 60) hx hb dX11_isSign_19 (by decide) ?_
          refine lv_icmp_eq (tgt := 66) hx hb dX11_isSign_21 (by decide) (fun c7 => ?_) (fun c7 => ?_)
          · skip
            have rlc7 : y0.toInt = (60 : Int) := congrArg Int32.toInt c7
            have ir8 : IV y0 60 60 := iv_eL c7 (iv_c (by decide) : IV 60 60 60)
            have ir8a := ir8.1; have ir8b := ir8.2
            exact J66 H locs ls  hH hS (lv_sub hl [] rfl)
          · skip
            have rlc7 : y0.toInt ≠ (60 : Int) := iv_ne c7
            refine lv_iload_n hx hb dX11_isSign_24 rfl (lv_at hl 0 rfl) ?_
            refine lv_bipush (v := 62) hx hb dX11_isSign_25 (by decide) ?_
            refine lv_icmp_eq (tgt := 66) hx hb dX11_isSign_27 (by decide) (fun c9 => ?_) (fun c9 => ?_)
            · skip
              have rlc9 : y0.toInt = (62 : Int) := congrArg Int32.toInt c9
              have ir10 : IV y0 62 62 := iv_eL c9 (iv_c (by decide) : IV 62 62 62)
              have ir10a := ir10.1; have ir10b := ir10.2
              exact J66 H locs ls  hH hS (lv_sub hl [] rfl)
            · skip
              have rlc9 : y0.toInt ≠ (62 : Int) := iv_ne c9
              refine lv_iload_n hx hb dX11_isSign_30 rfl (lv_at hl 0 rfl) ?_
              refine lv_bipush (v := 61) hx hb dX11_isSign_31 (by decide) ?_
              refine lv_icmp_eq (tgt := 66) hx hb dX11_isSign_33 (by decide) (fun c11 => ?_) (fun c11 => ?_)
              · skip
                have rlc11 : y0.toInt = (61 : Int) := congrArg Int32.toInt c11
                have ir12 : IV y0 61 61 := iv_eL c11 (iv_c (by decide) : IV 61 61 61)
                have ir12a := ir12.1; have ir12b := ir12.2
                exact J66 H locs ls  hH hS (lv_sub hl [] rfl)
              · skip
                have rlc11 : y0.toInt ≠ (61 : Int) := iv_ne c11
                refine lv_iload_n hx hb dX11_isSign_36 rfl (lv_at hl 0 rfl) ?_
                refine lv_bipush (v := 43) hx hb dX11_isSign_37 (by decide) ?_
                refine lv_icmp_eq (tgt := 66) hx hb dX11_isSign_39 (by decide) (fun c13 => ?_) (fun c13 => ?_)
                · skip
                  have rlc13 : y0.toInt = (43 : Int) := congrArg Int32.toInt c13
                  have ir14 : IV y0 43 43 := iv_eL c13 (iv_c (by decide) : IV 43 43 43)
                  have ir14a := ir14.1; have ir14b := ir14.2
                  exact J66 H locs ls  hH hS (lv_sub hl [] rfl)
                · skip
                  have rlc13 : y0.toInt ≠ (43 : Int) := iv_ne c13
                  refine lv_iload_n hx hb dX11_isSign_42 rfl (lv_at hl 0 rfl) ?_
                  refine lv_bipush (v := 45) hx hb dX11_isSign_43 (by decide) ?_
                  refine lv_icmp_eq (tgt := 66) hx hb dX11_isSign_45 (by decide) (fun c15 => ?_) (fun c15 => ?_)
                  · skip
                    have rlc15 : y0.toInt = (45 : Int) := congrArg Int32.toInt c15
                    have ir16 : IV y0 45 45 := iv_eL c15 (iv_c (by decide) : IV 45 45 45)
                    have ir16a := ir16.1; have ir16b := ir16.2
                    exact J66 H locs ls  hH hS (lv_sub hl [] rfl)
                  · skip
                    have rlc15 : y0.toInt ≠ (45 : Int) := iv_ne c15
                    refine lv_iload_n hx hb dX11_isSign_48 rfl (lv_at hl 0 rfl) ?_
                    refine lv_bipush (v := 42) hx hb dX11_isSign_49 (by decide) ?_
                    refine lv_icmp_eq (tgt := 66) hx hb dX11_isSign_51 (by decide) (fun c17 => ?_) (fun c17 => ?_)
                    · skip
                      have rlc17 : y0.toInt = (42 : Int) := congrArg Int32.toInt c17
                      have ir18 : IV y0 42 42 := iv_eL c17 (iv_c (by decide) : IV 42 42 42)
                      have ir18a := ir18.1; have ir18b := ir18.2
                      exact J66 H locs ls  hH hS (lv_sub hl [] rfl)
                    · skip
                      have rlc17 : y0.toInt ≠ (42 : Int) := iv_ne c17
                      refine lv_iload_n hx hb dX11_isSign_54 rfl (lv_at hl 0 rfl) ?_
                      refine lv_bipush (v := 47) hx hb dX11_isSign_55 (by decide) ?_
                      refine lv_icmp_eq (tgt := 66) hx hb dX11_isSign_57 (by decide) (fun c19 => ?_) (fun c19 => ?_)
                      · skip
                        have rlc19 : y0.toInt = (47 : Int) := congrArg Int32.toInt c19
                        have ir20 : IV y0 47 47 := iv_eL c19 (iv_c (by decide) : IV 47 47 47)
                        have ir20a := ir20.1; have ir20b := ir20.2
                        exact J66 H locs ls  hH hS (lv_sub hl [] rfl)
                      · skip
                        have rlc19 : y0.toInt ≠ (47 : Int) := iv_ne c19
                        refine lv_iload_n hx hb dX11_isSign_60 rfl (lv_at hl 0 rfl) ?_
                        refine lv_bipush (v := 37) hx hb dX11_isSign_61 (by decide) ?_
                        refine lv_icmp_ne (tgt := 70) hx hb dX11_isSign_63 (by decide) (fun c21 => ?_) (fun c21 => ?_)
                        · skip
                          have rlc21 : y0.toInt ≠ (37 : Int) := iv_ne c21
                          refine lv_iconst (v := 0) hx hb dX11_isSign_70 (by decide) ?_
                          exact J71_s0_0 H locs ls  hH hS (lv_sub hl [] rfl)
                        · skip
                          have rlc21 : y0.toInt = (37 : Int) := congrArg Int32.toInt c21
                          have ir22 : IV y0 37 37 := iv_eL c21 (iv_c (by decide) : IV 37 37 37)
                          have ir22a := ir22.1; have ir22b := ir22.2
                          exact J66 H locs ls  hH hS (lv_sub hl [] rfl)
  exact J0 s.heap [] ls hH va_S.rf hl

set_option maxHeartbeats 20000000 in
set_option maxRecDepth 100000 in
theorem m_X11_goOn (l : Launch) (D : va_G) (cT : Nat → ClassId) (T : Nat → Option Nat) (q : Nat → Int) (hT : tokm T) (hq : qkm q) (a0 : Nat) (t0 : T a0 = some 0) (hp0 : q 28 ≤ q 26) : th_MetM l D cT T q yX11_goOn cX11_goOn 3 none (rmk 1 22) [.ref a0] (fun v q2 => v = none ∧ qkm q2 ∧ fr [27, 28, 29, 31] q q2 ∧ ((q2 29 = 0 ∧ q2 27 = q2 26 ∧ q2 28 = q2 26) ∨ (1 ≤ q2 29 ∧ q2 27 < q2 28 ∧ q2 28 ≤ q2 26)) ∧ (q2 29 = 3 → sg q2 (q2 28) < 97 ∨ 122 < sg q2 (q2 28)) ∧ (q2 29 = 3 → q2 31 = 7237492 → q2 27 + 3 ≤ q2 28) ∧ (q 28 ≤ q2 27) ∧ (q2 29 = 3 → 97 ≤ sg q (q2 27) ∧ sg q (q2 27) ≤ 122)) [0] := by
  refine th_startM (by decide) (Nat.le_of_ble_eq_true rfl) ?_
  intro p e s m below meth c ls S hK hH hr hlocks hnm hl
  have hx := S.1
  have hb := S.2.1
  have b26 := qkm_26 hq; have b28 := qkm_28 hq
  have hl : lv_has ls 3 [(0, .ref a0)] := hl
  have J377 : ∀ (q377 : Nat → Int) (H : Heap) (locs : List Loc) (ls : Array Slot), qkm q377 → fr [27, 28, 29, 31] q q377 → ((q377 29 = 0 ∧ q377 27 = q377 26 ∧ q377 28 = q377 26) ∨ (1 ≤ q377 29 ∧ q377 27 < q377 28 ∧ q377 28 ≤ q377 26)) → (q377 29 = 3 → sg q (q377 28) < 97 ∨ 122 < sg q (q377 28)) → (q377 29 = 3 → q377 31 = 7237492 → q377 27 + 3 ≤ q377 28) → (q 28 ≤ q377 27) → (q377 29 = 3 → 97 ≤ sg q (q377 27) ∧ sg q (q377 27) ≤ 122) → th_H D cT T (km q377) H → va_S (th_A T [0]) s.heap H locs → lv_has ls 3 [] → W p l e (rmk 1 22) s m [.ref a0].toArray below meth c H locs 0 0 (MQ below (th_QM D cT T (fun v q2 => v = none ∧ qkm q2 ∧ fr [27, 28, 29, 31] q q2 ∧ ((q2 29 = 0 ∧ q2 27 = q2 26 ∧ q2 28 = q2 26) ∨ (1 ≤ q2 29 ∧ q2 27 < q2 28 ∧ q2 28 ≤ q2 26)) ∧ (q2 29 = 3 → sg q2 (q2 28) < 97 ∨ 122 < sg q2 (q2 28)) ∧ (q2 29 = 3 → q2 31 = 7237492 → q2 27 + 3 ≤ q2 28) ∧ (q 28 ≤ q2 27) ∧ (q2 29 = 3 → 97 ≤ sg q (q2 27) ∧ sg q (q2 27) ≤ 122)) [0]) [.ref a0].toArray s 0 0 (th_A T [0])) (F0 m 377 ls []) := by
    intro q377 H locs ls hq377 h0377 v377_inv0 v377_inv1 v377_inv2 v377_inv3 v377_inv4 hH hS hl
    have w377_26 : q377 26 = q 26 := h0377 26 (by decide) (Or.inl (by decide))
    exact th_vretM S hK hH hS hr hlocks ⟨rfl, hq377, h0377, (show (q377 29 = 0 ∧ q377 27 = q377 26 ∧ q377 28 = q377 26) ∨ (1 ≤ q377 29 ∧ q377 27 < q377 28 ∧ q377 28 ≤ q377 26) by omega), (show q377 29 = 3 → sg q377 (q377 28) < 97 ∨ 122 < sg q377 (q377 28) by rw [sg_fr h0377 (by decide) (by decide) (by decide)]; assumption), (show q377 29 = 3 → q377 31 = 7237492 → q377 27 + 3 ≤ q377 28 by omega), (show q 28 ≤ q377 27 by omega), (show q377 29 = 3 → 97 ≤ sg q (q377 27) ∧ sg q (q377 27) ≤ 122 by assumption)⟩ dX11_goOn_377
  have J374_s1_1 : ∀ (q374 : Nat → Int) (H : Heap) (locs : List Loc) (ls : Array Slot), qkm q374 → fr [27, 28, 29, 31] q q374 → (q374 27 < q374 28 ∧ q374 28 ≤ q374 26 ∧ q 28 ≤ q374 27) → th_H D cT T (km q374) H → va_S (th_A T [0]) s.heap H locs → lv_has ls 3 [] → W p l e (rmk 1 22) s m [.ref a0].toArray below meth c H locs 0 0 (MQ below (th_QM D cT T (fun v q2 => v = none ∧ qkm q2 ∧ fr [27, 28, 29, 31] q q2 ∧ ((q2 29 = 0 ∧ q2 27 = q2 26 ∧ q2 28 = q2 26) ∨ (1 ≤ q2 29 ∧ q2 27 < q2 28 ∧ q2 28 ≤ q2 26)) ∧ (q2 29 = 3 → sg q2 (q2 28) < 97 ∨ 122 < sg q2 (q2 28)) ∧ (q2 29 = 3 → q2 31 = 7237492 → q2 27 + 3 ≤ q2 28) ∧ (q 28 ≤ q2 27) ∧ (q2 29 = 3 → 97 ≤ sg q (q2 27) ∧ sg q (q2 27) ≤ 122)) [0]) [.ref a0].toArray s 0 0 (th_A T [0])) (F0 m 374 ls [.int 1, .ref a0]) := by
    intro q374 H locs ls hq374 h0374 v374_inv0 hH hS hl
    have w374_26 : q374 26 = q 26 := h0374 26 (by decide) (Or.inl (by decide))
    obtain ⟨n2, en2⟩ : ∃ z : Int, z = Int32.toInt 1 := ⟨_, rfl⟩
    have fn2 : n2 = 1 := by rw [en2]; rfl
    refine mput_29 S hK hH hS ⟨0, by decide, t0⟩ hT t0 en2 gm_1238 dX11_goOn_374 (fun q1 H locs eq1 hH hS hq1 => ?_)
    have hqq1 : qkm q1 := by rw [eq1]; exact qum_ok29 hq374 (iv_z en2 (iv_w (iv_c (by decide) : IV 1 1 1) (by decide)))
    have h0q1 : fr [27, 28, 29, 31] q q1 := by rw [eq1]; exact fr_up h0374 (by decide)
    have wq1_26 : q1 26 = q374 26 := by rw [eq1]; rfl
    have wq1_27 : q1 27 = q374 27 := by rw [eq1]; rfl
    have wq1_28 : q1 28 = q374 28 := by rw [eq1]; rfl
    have wq1_29 : q1 29 = n2 := by rw [eq1]; rfl
    have wq1_31 : q1 31 = q374 31 := by rw [eq1]; rfl
    exact J377 q1 H locs ls hqq1 h0q1 (show (q1 29 = 0 ∧ q1 27 = q1 26 ∧ q1 28 = q1 26) ∨ (1 ≤ q1 29 ∧ q1 27 < q1 28 ∧ q1 28 ≤ q1 26) by omega) (show q1 29 = 3 → sg q (q1 28) < 97 ∨ 122 < sg q (q1 28) by first | (intro z; exact absurd z (by omega)) | (intro _; rw [wq1_28]; assumption)) (show q1 29 = 3 → q1 31 = 7237492 → q1 27 + 3 ≤ q1 28 by omega) (show q 28 ≤ q1 27 by omega) (show q1 29 = 3 → 97 ≤ sg q (q1 27) ∧ sg q (q1 27) ≤ 122 by first | (intro z; exact absurd z (by omega)) | (intro _; rw [wq1_27]; assumption)) hH hS (lv_sub hl [] rfl)
  have J374_s1_5 : ∀ (q374 : Nat → Int) (H : Heap) (locs : List Loc) (ls : Array Slot), qkm q374 → fr [27, 28, 29, 31] q q374 → (q374 27 < q374 28 ∧ q374 28 ≤ q374 26 ∧ q 28 ≤ q374 27) → th_H D cT T (km q374) H → va_S (th_A T [0]) s.heap H locs → lv_has ls 3 [] → W p l e (rmk 1 22) s m [.ref a0].toArray below meth c H locs 0 0 (MQ below (th_QM D cT T (fun v q2 => v = none ∧ qkm q2 ∧ fr [27, 28, 29, 31] q q2 ∧ ((q2 29 = 0 ∧ q2 27 = q2 26 ∧ q2 28 = q2 26) ∨ (1 ≤ q2 29 ∧ q2 27 < q2 28 ∧ q2 28 ≤ q2 26)) ∧ (q2 29 = 3 → sg q2 (q2 28) < 97 ∨ 122 < sg q2 (q2 28)) ∧ (q2 29 = 3 → q2 31 = 7237492 → q2 27 + 3 ≤ q2 28) ∧ (q 28 ≤ q2 27) ∧ (q2 29 = 3 → 97 ≤ sg q (q2 27) ∧ sg q (q2 27) ≤ 122)) [0]) [.ref a0].toArray s 0 0 (th_A T [0])) (F0 m 374 ls [.int 5, .ref a0]) := by
    intro q374 H locs ls hq374 h0374 v374_inv0 hH hS hl
    have w374_26 : q374 26 = q 26 := h0374 26 (by decide) (Or.inl (by decide))
    obtain ⟨n4, en4⟩ : ∃ z : Int, z = Int32.toInt 5 := ⟨_, rfl⟩
    have fn4 : n4 = 5 := by rw [en4]; rfl
    refine mput_29 S hK hH hS ⟨0, by decide, t0⟩ hT t0 en4 gm_1238 dX11_goOn_374 (fun q3 H locs eq3 hH hS hq1 => ?_)
    have hqq3 : qkm q3 := by rw [eq3]; exact qum_ok29 hq374 (iv_z en4 (iv_w (iv_c (by decide) : IV 5 5 5) (by decide)))
    have h0q3 : fr [27, 28, 29, 31] q q3 := by rw [eq3]; exact fr_up h0374 (by decide)
    have wq3_26 : q3 26 = q374 26 := by rw [eq3]; rfl
    have wq3_27 : q3 27 = q374 27 := by rw [eq3]; rfl
    have wq3_28 : q3 28 = q374 28 := by rw [eq3]; rfl
    have wq3_29 : q3 29 = n4 := by rw [eq3]; rfl
    have wq3_31 : q3 31 = q374 31 := by rw [eq3]; rfl
    exact J377 q3 H locs ls hqq3 h0q3 (show (q3 29 = 0 ∧ q3 27 = q3 26 ∧ q3 28 = q3 26) ∨ (1 ≤ q3 29 ∧ q3 27 < q3 28 ∧ q3 28 ≤ q3 26) by omega) (show q3 29 = 3 → sg q (q3 28) < 97 ∨ 122 < sg q (q3 28) by first | (intro z; exact absurd z (by omega)) | (intro _; rw [wq3_28]; assumption)) (show q3 29 = 3 → q3 31 = 7237492 → q3 27 + 3 ≤ q3 28 by omega) (show q 28 ≤ q3 27 by omega) (show q3 29 = 3 → 97 ≤ sg q (q3 27) ∧ sg q (q3 27) ≤ 122 by first | (intro z; exact absurd z (by omega)) | (intro _; rw [wq3_27]; assumption)) hH hS (lv_sub hl [] rfl)
  have J355_s1_1 : ∀ (q355 : Nat → Int) (H : Heap) (locs : List Loc) (ls : Array Slot), qkm q355 → fr [27, 28, 29, 31] q q355 → (q355 27 < q355 28 ∧ q355 28 ≤ q355 26 ∧ q 28 ≤ q355 27) → th_H D cT T (km q355) H → va_S (th_A T [0]) s.heap H locs → lv_has ls 3 [] → W p l e (rmk 1 22) s m [.ref a0].toArray below meth c H locs 0 0 (MQ below (th_QM D cT T (fun v q2 => v = none ∧ qkm q2 ∧ fr [27, 28, 29, 31] q q2 ∧ ((q2 29 = 0 ∧ q2 27 = q2 26 ∧ q2 28 = q2 26) ∨ (1 ≤ q2 29 ∧ q2 27 < q2 28 ∧ q2 28 ≤ q2 26)) ∧ (q2 29 = 3 → sg q2 (q2 28) < 97 ∨ 122 < sg q2 (q2 28)) ∧ (q2 29 = 3 → q2 31 = 7237492 → q2 27 + 3 ≤ q2 28) ∧ (q 28 ≤ q2 27) ∧ (q2 29 = 3 → 97 ≤ sg q (q2 27) ∧ sg q (q2 27) ≤ 122)) [0]) [.ref a0].toArray s 0 0 (th_A T [0])) (F0 m 355 ls [.int 1, .ref a0]) := by
    intro q355 H locs ls hq355 h0355 v355_inv0 hH hS hl
    have w355_26 : q355 26 = q 26 := h0355 26 (by decide) (Or.inl (by decide))
    obtain ⟨n6, en6⟩ : ∃ z : Int, z = Int32.toInt 1 := ⟨_, rfl⟩
    have fn6 : n6 = 1 := by rw [en6]; rfl
    refine mput_29 S hK hH hS ⟨0, by decide, t0⟩ hT t0 en6 gm_1238 dX11_goOn_355 (fun q5 H locs eq5 hH hS hq1 => ?_)
    have hqq5 : qkm q5 := by rw [eq5]; exact qum_ok29 hq355 (iv_z en6 (iv_w (iv_c (by decide) : IV 1 1 1) (by decide)))
    have h0q5 : fr [27, 28, 29, 31] q q5 := by rw [eq5]; exact fr_up h0355 (by decide)
    have wq5_26 : q5 26 = q355 26 := by rw [eq5]; rfl
    have wq5_27 : q5 27 = q355 27 := by rw [eq5]; rfl
    have wq5_28 : q5 28 = q355 28 := by rw [eq5]; rfl
    have wq5_29 : q5 29 = n6 := by rw [eq5]; rfl
    have wq5_31 : q5 31 = q355 31 := by rw [eq5]; rfl
    refine lv_goto (tgt := 377) hx hb dX11_goOn_358 (by decide) ?_
    exact J377 q5 H locs ls hqq5 h0q5 (show (q5 29 = 0 ∧ q5 27 = q5 26 ∧ q5 28 = q5 26) ∨ (1 ≤ q5 29 ∧ q5 27 < q5 28 ∧ q5 28 ≤ q5 26) by omega) (show q5 29 = 3 → sg q (q5 28) < 97 ∨ 122 < sg q (q5 28) by first | (intro z; exact absurd z (by omega)) | (intro _; rw [wq5_28]; assumption)) (show q5 29 = 3 → q5 31 = 7237492 → q5 27 + 3 ≤ q5 28 by omega) (show q 28 ≤ q5 27 by omega) (show q5 29 = 3 → 97 ≤ sg q (q5 27) ∧ sg q (q5 27) ≤ 122 by first | (intro z; exact absurd z (by omega)) | (intro _; rw [wq5_27]; assumption)) hH hS (lv_sub hl [] rfl)
  have J355_s1_4 : ∀ (q355 : Nat → Int) (H : Heap) (locs : List Loc) (ls : Array Slot), qkm q355 → fr [27, 28, 29, 31] q q355 → (q355 27 < q355 28 ∧ q355 28 ≤ q355 26 ∧ q 28 ≤ q355 27) → th_H D cT T (km q355) H → va_S (th_A T [0]) s.heap H locs → lv_has ls 3 [] → W p l e (rmk 1 22) s m [.ref a0].toArray below meth c H locs 0 0 (MQ below (th_QM D cT T (fun v q2 => v = none ∧ qkm q2 ∧ fr [27, 28, 29, 31] q q2 ∧ ((q2 29 = 0 ∧ q2 27 = q2 26 ∧ q2 28 = q2 26) ∨ (1 ≤ q2 29 ∧ q2 27 < q2 28 ∧ q2 28 ≤ q2 26)) ∧ (q2 29 = 3 → sg q2 (q2 28) < 97 ∨ 122 < sg q2 (q2 28)) ∧ (q2 29 = 3 → q2 31 = 7237492 → q2 27 + 3 ≤ q2 28) ∧ (q 28 ≤ q2 27) ∧ (q2 29 = 3 → 97 ≤ sg q (q2 27) ∧ sg q (q2 27) ≤ 122)) [0]) [.ref a0].toArray s 0 0 (th_A T [0])) (F0 m 355 ls [.int 4, .ref a0]) := by
    intro q355 H locs ls hq355 h0355 v355_inv0 hH hS hl
    have w355_26 : q355 26 = q 26 := h0355 26 (by decide) (Or.inl (by decide))
    obtain ⟨n8, en8⟩ : ∃ z : Int, z = Int32.toInt 4 := ⟨_, rfl⟩
    have fn8 : n8 = 4 := by rw [en8]; rfl
    refine mput_29 S hK hH hS ⟨0, by decide, t0⟩ hT t0 en8 gm_1238 dX11_goOn_355 (fun q7 H locs eq7 hH hS hq1 => ?_)
    have hqq7 : qkm q7 := by rw [eq7]; exact qum_ok29 hq355 (iv_z en8 (iv_w (iv_c (by decide) : IV 4 4 4) (by decide)))
    have h0q7 : fr [27, 28, 29, 31] q q7 := by rw [eq7]; exact fr_up h0355 (by decide)
    have wq7_26 : q7 26 = q355 26 := by rw [eq7]; rfl
    have wq7_27 : q7 27 = q355 27 := by rw [eq7]; rfl
    have wq7_28 : q7 28 = q355 28 := by rw [eq7]; rfl
    have wq7_29 : q7 29 = n8 := by rw [eq7]; rfl
    have wq7_31 : q7 31 = q355 31 := by rw [eq7]; rfl
    refine lv_goto (tgt := 377) hx hb dX11_goOn_358 (by decide) ?_
    exact J377 q7 H locs ls hqq7 h0q7 (show (q7 29 = 0 ∧ q7 27 = q7 26 ∧ q7 28 = q7 26) ∨ (1 ≤ q7 29 ∧ q7 27 < q7 28 ∧ q7 28 ≤ q7 26) by omega) (show q7 29 = 3 → sg q (q7 28) < 97 ∨ 122 < sg q (q7 28) by first | (intro z; exact absurd z (by omega)) | (intro _; rw [wq7_28]; assumption)) (show q7 29 = 3 → q7 31 = 7237492 → q7 27 + 3 ≤ q7 28 by omega) (show q 28 ≤ q7 27 by omega) (show q7 29 = 3 → 97 ≤ sg q (q7 27) ∧ sg q (q7 27) ≤ 122 by first | (intro z; exact absurd z (by omega)) | (intro _; rw [wq7_27]; assumption)) hH hS (lv_sub hl [] rfl)
  have J350 : ∀ (q350 : Nat → Int) (H : Heap) (locs : List Loc) (ls : Array Slot), qkm q350 → fr [27, 28, 29, 31] q q350 → (q350 27 < q350 28 ∧ q350 28 ≤ q350 26 ∧ q 28 ≤ q350 27) → th_H D cT T (km q350) H → va_S (th_A T [0]) s.heap H locs → lv_has ls 3 [] → W p l e (rmk 1 22) s m [.ref a0].toArray below meth c H locs 0 0 (MQ below (th_QM D cT T (fun v q2 => v = none ∧ qkm q2 ∧ fr [27, 28, 29, 31] q q2 ∧ ((q2 29 = 0 ∧ q2 27 = q2 26 ∧ q2 28 = q2 26) ∨ (1 ≤ q2 29 ∧ q2 27 < q2 28 ∧ q2 28 ≤ q2 26)) ∧ (q2 29 = 3 → sg q2 (q2 28) < 97 ∨ 122 < sg q2 (q2 28)) ∧ (q2 29 = 3 → q2 31 = 7237492 → q2 27 + 3 ≤ q2 28) ∧ (q 28 ≤ q2 27) ∧ (q2 29 = 3 → 97 ≤ sg q (q2 27) ∧ sg q (q2 27) ≤ 122)) [0]) [.ref a0].toArray s 0 0 (th_A T [0])) (F0 m 350 ls [.ref a0]) := by
    intro q350 H locs ls hq350 h0350 v350_inv0 hH hS hl
    have w350_26 : q350 26 = q 26 := h0350 26 (by decide) (Or.inl (by decide))
    refine lv_iconst (v := 1) hx hb dX11_goOn_350 (by decide) ?_
    refine lv_goto (tgt := 355) hx hb dX11_goOn_351 (by decide) ?_
    exact J355_s1_1 q350 H locs ls hq350 h0350 (show q350 27 < q350 28 ∧ q350 28 ≤ q350 26 ∧ q 28 ≤ q350 27 by omega) hH hS (lv_sub hl [] rfl)
  have J259 : ∀ (n : Nat) (q259 : Nat → Int) (H : Heap) (locs : List Loc) (ls : Array Slot), qkm q259 → fr [27, 28, 29, 31] q q259 → (q 28 ≤ q259 27 ∧ q259 27 ≤ q259 28 ∧ q259 28 ≤ q259 26 ∧ q259 27 < q259 26) → (q259 28 = q259 27 → 48 ≤ sg q (q259 27) ∧ sg q (q259 27) ≤ 57) → th_H D cT T (km q259) H → va_S (th_A T [0]) s.heap H locs → lv_has ls 3 [(0, .ref a0)] → (q259 26 - q259 28).toNat < n → W p l e (rmk 1 22) s m [.ref a0].toArray below meth c H locs 0 0 (MQ below (th_QM D cT T (fun v q2 => v = none ∧ qkm q2 ∧ fr [27, 28, 29, 31] q q2 ∧ ((q2 29 = 0 ∧ q2 27 = q2 26 ∧ q2 28 = q2 26) ∨ (1 ≤ q2 29 ∧ q2 27 < q2 28 ∧ q2 28 ≤ q2 26)) ∧ (q2 29 = 3 → sg q2 (q2 28) < 97 ∨ 122 < sg q2 (q2 28)) ∧ (q2 29 = 3 → q2 31 = 7237492 → q2 27 + 3 ≤ q2 28) ∧ (q 28 ≤ q2 27) ∧ (q2 29 = 3 → 97 ≤ sg q (q2 27) ∧ sg q (q2 27) ≤ 122)) [0]) [.ref a0].toArray s 0 0 (th_A T [0])) (F0 m 259 ls []) := by
    intro n
    induction n with
    | zero => intro q259 H locs ls hq259 h0259 v259_inv0 v259_inv1 hH hS hl hn; exact absurd hn (Nat.not_lt_zero _)
    | succ n ih259 =>
      intro q259 H locs ls hq259 h0259 v259_inv0 v259_inv1 hH hS hl hn259
      have w259_26 : q259 26 = q 26 := h0259 26 (by decide) (Or.inl (by decide))
      have J309 : ∀ (H : Heap) (locs : List Loc) (ls : Array Slot), (q259 28 < q259 26) → th_H D cT T (km q259) H → va_S (th_A T [0]) s.heap H locs → lv_has ls 3 [(0, .ref a0)] → W p l e (rmk 1 22) s m [.ref a0].toArray below meth c H locs 0 0 (MQ below (th_QM D cT T (fun v q2 => v = none ∧ qkm q2 ∧ fr [27, 28, 29, 31] q q2 ∧ ((q2 29 = 0 ∧ q2 27 = q2 26 ∧ q2 28 = q2 26) ∨ (1 ≤ q2 29 ∧ q2 27 < q2 28 ∧ q2 28 ≤ q2 26)) ∧ (q2 29 = 3 → sg q2 (q2 28) < 97 ∨ 122 < sg q2 (q2 28)) ∧ (q2 29 = 3 → q2 31 = 7237492 → q2 27 + 3 ≤ q2 28) ∧ (q 28 ≤ q2 27) ∧ (q2 29 = 3 → 97 ≤ sg q (q2 27) ∧ sg q (q2 27) ≤ 122)) [0]) [.ref a0].toArray s 0 0 (th_A T [0])) (F0 m 309 ls []) := by
        intro H locs ls v309_inv0 hH hS hl
        refine lv_aload_n hx hb dX11_goOn_309 rfl (lv_at hl 0 rfl) ?_
        refine lv_dup hx hb dX11_goOn_310 rfl ?_
        refine th_get S hK hH inG11 t0 km_0 rfl 7 (by decide) gm_1237 rfl rfl dX11_goOn_311 (fun v9 hv9 fv9 => ?_)
        obtain ⟨x10, rfl, ix10⟩ := th_V.int hv9
        have kx10a : q259 28 ≤ x10.toInt := ix10.1
        have kx10b : x10.toInt ≤ q259 28 := ix10.2
        have bx10 := qkm_28 hq259
        have ix10 : IV x10 0 1601 := iv_w ix10 (qkm_28 hq259)
        refine lv_iconst (v := 1) hx hb dX11_goOn_314 (by decide) ?_
        refine lv_iadd hx hb dX11_goOn_315 ?_
        refine lv_topi (fun x11 ex11 => ?_)
        have ix11 : IV x11 1 1602 := by rw [ex11]; exact iv_add ix10 (iv_c (by decide) : IV 1 1 1) (by decide)
        have ux11 : x11.toInt = x10.toInt + (1 : Int) := by rw [ex11]; exact iv_addE (by have z1 := (ix10).1; have z2 := (ix10).2; have z3 := ((iv_c (by decide) : IV 1 1 1)).1; have z4 := ((iv_c (by decide) : IV 1 1 1)).2; omega)
        obtain ⟨n13, en13⟩ : ∃ z : Int, z = Int32.toInt x11 := ⟨_, rfl⟩
        refine mput_28 S hK hH hS ⟨0, by decide, t0⟩ hT t0 en13 gm_1237 dX11_goOn_316 (fun q12 H locs eq12 hH hS hq1 => ?_)
        have hqq12 : qkm q12 := by rw [eq12]; exact qum_ok28 hq259 (by have z1 := (ix11).1; have z2 := (ix11).2; exact ⟨by omega, by omega⟩)
        have h0q12 : fr [27, 28, 29, 31] q q12 := by rw [eq12]; exact fr_up h0259 (by decide)
        have wq12_26 : q12 26 = q259 26 := by rw [eq12]; rfl
        have wq12_27 : q12 27 = q259 27 := by rw [eq12]; rfl
        have wq12_28 : q12 28 = n13 := by rw [eq12]; rfl
        have wq12_29 : q12 29 = q259 29 := by rw [eq12]; rfl
        have wq12_31 : q12 31 = q259 31 := by rw [eq12]; rfl
        refine lv_goto (tgt := 259) hx hb dX11_goOn_319 (by decide) ?_
        exact ih259 q12 H locs ls hqq12 h0q12 (show q 28 ≤ q12 27 ∧ q12 27 ≤ q12 28 ∧ q12 28 ≤ q12 26 ∧ q12 27 < q12 26 by omega) (show q12 28 = q12 27 → 48 ≤ sg q (q12 27) ∧ sg q (q12 27) ≤ 57 by first | (intro z; exact absurd z (by omega)) | (intro _; rw [wq12_27, ← hc2]; exact ⟨by omega, by omega⟩)) hH hS (lv_sub hl [0] rfl) (show (q12 26 - q12 28).toNat < n by omega)
      refine lv_aload_n hx hb dX11_goOn_259 rfl (lv_at hl 0 rfl) ?_
      refine lv_aload_n hx hb dX11_goOn_260 rfl (lv_at hl 0 rfl) ?_
      refine th_get S hK hH inG11 t0 km_0 rfl 7 (by decide) gm_1237 rfl rfl dX11_goOn_261 (fun v14 hv14 fv14 => ?_)
      obtain ⟨x15, rfl, ix15⟩ := th_V.int hv14
      have kx15a : q259 28 ≤ x15.toInt := ix15.1
      have kx15b : x15.toInt ≤ q259 28 := ix15.2
      have bx15 := qkm_28 hq259
      have ix15 : IV x15 0 1601 := iv_w ix15 (qkm_28 hq259)
      refine th_callVp (n := 1) (As := [.int x15]) S hK hH hS (th_A.sub (by decide)) (m_X11_sign l D cT T q259 hT hq259 a0 t0 (x15) ix15) gm_1449 gm_1446 gm_1448 gm_48 gm_124 (by decide +kernel) ⟨rfl, rfl, Nat.le_of_ble_eq_true rfl, Nat.le_of_ble_eq_true rfl⟩ t0 km_0 rfl rfl hl.1 rfl (Nat.le_of_ble_eq_true rfl) dX11_goOn_264 ⟨Nat.zero_le _, Nat.zero_le _⟩ (fun x16 H locs ix16 ox16 hH hS hF1 => ?_)
      have ox16 : x16.toInt = sg q259 x15.toInt := ox16
      have l1x16 := ix16.1; have l2x16 := ix16.2
      refine th_callSp (n := 1) (As := [.int x16]) S hK hH hS (th_A.sub (by decide)) (m_X11_isDigit l D cT T q259 hT hq259 (x16) (iv_top _)) gm_1480 gm_1478 gm_1479 gm_124 (by decide +kernel) ⟨rfl, rfl, Nat.le_of_ble_eq_true rfl, Nat.le_of_ble_eq_true rfl⟩ rfl hl.1 rfl (Nat.le_of_ble_eq_true rfl) dX11_goOn_267 ⟨Nat.zero_le _, Nat.zero_le _⟩ (fun x17 H locs ix17 ox17 hH hS hF1 => ?_)
      obtain ⟨ox17_0, ox17_1⟩ := ox17
      have ox17_0 : x17.toInt ≠ 0 → 48 ≤ x16.toInt ∧ x16.toInt ≤ 57 := ox17_0
      have ox17_1 : x17.toInt = 0 → x16.toInt < 48 ∨ 57 < x16.toInt := ox17_1
      have l1x17 := ix17.1; have l2x17 := ix17.2
      refine lv_if_eq (tgt := 322) hx hb dX11_goOn_270 (by decide) (fun c18 => ?_) (fun c18 => ?_)
      · skip
        have rlc18 : x17.toInt = (0 : Int) := congrArg Int32.toInt c18
        have ir19 : IV x17 0 0 := iv_eL c18 (iv_c (by decide) : IV 0 0 0)
        have ir19a := ir19.1; have ir19b := ir19.2
        have hz : x16.toInt = sg q (q259 28) := sg_at ox16 h0259 (by decide) (by decide) (by decide) (by omega)
        have hgt : q259 27 < q259 28 := by
          by_cases z : q259 28 = q259 27
          · have z1 := v259_inv1 z; rw [z] at hz; omega
          · omega
        refine lv_aload_n hx hb dX11_goOn_322 rfl (lv_at hl 0 rfl) ?_
        refine lv_aload_n hx hb dX11_goOn_323 rfl (lv_at hl 0 rfl) ?_
        refine th_get S hK hH inG11 t0 km_0 rfl 7 (by decide) gm_1237 rfl rfl dX11_goOn_324 (fun v20 hv20 fv20 => ?_)
        obtain ⟨x21, rfl, ix21⟩ := th_V.int hv20
        have kx21a : q259 28 ≤ x21.toInt := ix21.1
        have kx21b : x21.toInt ≤ q259 28 := ix21.2
        have bx21 := qkm_28 hq259
        have ix21 : IV x21 0 1601 := iv_w ix21 (qkm_28 hq259)
        refine lv_aload_n hx hb dX11_goOn_327 rfl (lv_at hl 0 rfl) ?_
        refine th_get S hK hH inG11 t0 km_0 rfl 6 (by decide) gm_1236 rfl rfl dX11_goOn_328 (fun v22 hv22 fv22 => ?_)
        obtain ⟨x23, rfl, ix23⟩ := th_V.int hv22
        have kx23a : q259 27 ≤ x23.toInt := ix23.1
        have kx23b : x23.toInt ≤ q259 27 := ix23.2
        have bx23 := qkm_27 hq259
        have ix23 : IV x23 0 1600 := iv_w ix23 (qkm_27 hq259)
        refine lv_isub hx hb dX11_goOn_331 ?_
        refine lv_topi (fun x24 ex24 => ?_)
        have ix24 : IV x24 (-1600) 1601 := by rw [ex24]; exact iv_sub ix21 ix23 (by decide)
        have ux24 : x24.toInt = x21.toInt - x23.toInt := by rw [ex24]; exact iv_subE (by have z1 := (ix21).1; have z2 := (ix21).2; have z3 := (ix23).1; have z4 := (ix23).2; omega)
        refine lv_iconst (v := 4) hx hb dX11_goOn_332 (by decide) ?_
        refine lv_icmp_gt (tgt := 350) hx hb dX11_goOn_333 (by decide) (fun c25 => ?_) (fun c25 => ?_)
        · skip
          have rlc25 : (4 : Int) < x24.toInt := iv_lt c25
          have ir26 : IV x24 5 1601 := iv_uR (iv_c (by decide) : IV 4 4 4) ix24 (iv_lt c25) (by decide)
          have ir26a := ir26.1; have ir26b := ir26.2
          exact J350 q259 H locs ls hq259 h0259 (show q259 27 < q259 28 ∧ q259 28 ≤ q259 26 ∧ q 28 ≤ q259 27 by omega) hH hS (lv_sub hl [] rfl)
        · skip
          have rlc25 : x24.toInt ≤ (4 : Int) := iv_nlt c25
          have ir27 : IV x24 (-1600) 4 := iv_vL ix24 (iv_c (by decide) : IV 4 4 4) (iv_nlt c25) (by decide)
          have ir27a := ir27.1; have ir27b := ir27.2
          refine lv_aload_n hx hb dX11_goOn_336 rfl (lv_at hl 0 rfl) ?_
          refine lv_aload_n hx hb dX11_goOn_337 rfl (lv_at hl 0 rfl) ?_
          refine th_get S hK hH inG11 t0 km_0 rfl 7 (by decide) gm_1237 rfl rfl dX11_goOn_338 (fun v28 hv28 fv28 => ?_)
          obtain ⟨x29, rfl, ix29⟩ := th_V.int hv28
          have kx29a : q259 28 ≤ x29.toInt := ix29.1
          have kx29b : x29.toInt ≤ q259 28 := ix29.2
          have bx29 := qkm_28 hq259
          have ix29 : IV x29 0 1601 := iv_w ix29 (qkm_28 hq259)
          refine th_callVp (n := 1) (As := [.int x29]) S hK hH hS (th_A.sub (by decide)) (m_X11_sign l D cT T q259 hT hq259 a0 t0 (x29) ix29) gm_1449 gm_1446 gm_1448 gm_48 gm_124 (by decide +kernel) ⟨rfl, rfl, Nat.le_of_ble_eq_true rfl, Nat.le_of_ble_eq_true rfl⟩ t0 km_0 rfl rfl hl.1 rfl (Nat.le_of_ble_eq_true rfl) dX11_goOn_341 ⟨Nat.zero_le _, Nat.zero_le _⟩ (fun x30 H locs ix30 ox30 hH hS hF1 => ?_)
          have ox30 : x30.toInt = sg q259 x29.toInt := ox30
          have l1x30 := ix30.1; have l2x30 := ix30.2
          refine th_callSp (n := 1) (As := [.int x30]) S hK hH hS (th_A.sub (by decide)) (m_X11_isLetter l D cT T q259 hT hq259 (x30) (iv_top _)) gm_1452 gm_1450 gm_1451 gm_124 (by decide +kernel) ⟨rfl, rfl, Nat.le_of_ble_eq_true rfl, Nat.le_of_ble_eq_true rfl⟩ rfl hl.1 rfl (Nat.le_of_ble_eq_true rfl) dX11_goOn_344 ⟨Nat.zero_le _, Nat.zero_le _⟩ (fun x31 H locs ix31 ox31 hH hS hF1 => ?_)
          obtain ⟨ox31_0, ox31_1⟩ := ox31
          have ox31_0 : x31.toInt ≠ 0 → 97 ≤ x30.toInt ∧ x30.toInt ≤ 122 := ox31_0
          have ox31_1 : x31.toInt = 0 → x30.toInt < 97 ∨ 122 < x30.toInt := ox31_1
          have l1x31 := ix31.1; have l2x31 := ix31.2
          refine lv_if_eq (tgt := 354) hx hb dX11_goOn_347 (by decide) (fun c32 => ?_) (fun c32 => ?_)
          · skip
            have rlc32 : x31.toInt = (0 : Int) := congrArg Int32.toInt c32
            have ir33 : IV x31 0 0 := iv_eL c32 (iv_c (by decide) : IV 0 0 0)
            have ir33a := ir33.1; have ir33b := ir33.2
            refine lv_iconst (v := 4) hx hb dX11_goOn_354 (by decide) ?_
            exact J355_s1_4 q259 H locs ls hq259 h0259 (show q259 27 < q259 28 ∧ q259 28 ≤ q259 26 ∧ q 28 ≤ q259 27 by omega) hH hS (lv_sub hl [] rfl)
          · skip
            have rlc32 : x31.toInt ≠ (0 : Int) := iv_ne c32
            have ir34 : IV x31 1 1 := iv_cutL ix31 (iv_c (by decide) : IV 0 0 0) c32 (by decide)
            have ir34a := ir34.1; have ir34b := ir34.2
            exact J350 q259 H locs ls hq259 h0259 (show q259 27 < q259 28 ∧ q259 28 ≤ q259 26 ∧ q 28 ≤ q259 27 by omega) hH hS (lv_sub hl [] rfl)
      · skip
        have rlc18 : x17.toInt ≠ (0 : Int) := iv_ne c18
        have ir35 : IV x17 1 1 := iv_cutL ix17 (iv_c (by decide) : IV 0 0 0) c18 (by decide)
        have ir35a := ir35.1; have ir35b := ir35.2
        have hlt := sg_lt ox16 (by omega)
        refine lv_aload_n hx hb dX11_goOn_273 rfl (lv_at hl 0 rfl) ?_
        refine th_get S hK hH inG11 t0 km_0 rfl 7 (by decide) gm_1237 rfl rfl dX11_goOn_274 (fun v36 hv36 fv36 => ?_)
        obtain ⟨x37, rfl, ix37⟩ := th_V.int hv36
        have kx37a : q259 28 ≤ x37.toInt := ix37.1
        have kx37b : x37.toInt ≤ q259 28 := ix37.2
        have bx37 := qkm_28 hq259
        have ix37 : IV x37 0 1601 := iv_w ix37 (qkm_28 hq259)
        refine lv_aload_n hx hb dX11_goOn_277 rfl (lv_at hl 0 rfl) ?_
        refine th_get S hK hH inG11 t0 km_0 rfl 6 (by decide) gm_1236 rfl rfl dX11_goOn_278 (fun v38 hv38 fv38 => ?_)
        obtain ⟨x39, rfl, ix39⟩ := th_V.int hv38
        have kx39a : q259 27 ≤ x39.toInt := ix39.1
        have kx39b : x39.toInt ≤ q259 27 := ix39.2
        have bx39 := qkm_27 hq259
        have ix39 : IV x39 0 1600 := iv_w ix39 (qkm_27 hq259)
        refine lv_isub hx hb dX11_goOn_281 ?_
        refine lv_topi (fun x40 ex40 => ?_)
        have ix40 : IV x40 (-1600) 1601 := by rw [ex40]; exact iv_sub ix37 ix39 (by decide)
        have ux40 : x40.toInt = x37.toInt - x39.toInt := by rw [ex40]; exact iv_subE (by have z1 := (ix37).1; have z2 := (ix37).2; have z3 := (ix39).1; have z4 := (ix39).2; omega)
        refine lv_iconst (v := 4) hx hb dX11_goOn_282 (by decide) ?_
        refine lv_icmp_ge (tgt := 309) hx hb dX11_goOn_283 (by decide) (fun c41 => ?_) (fun c41 => ?_)
        · skip
          have rlc41 : (4 : Int) ≤ x40.toInt := iv_le c41
          have ir42 : IV x40 4 1601 := iv_vR (iv_c (by decide) : IV 4 4 4) ix40 (iv_le c41) (by decide)
          have ir42a := ir42.1; have ir42b := ir42.2
          exact J309 H locs ls (show q259 28 < q259 26 by omega) hH hS (lv_sub hl [0] rfl)
        · skip
          have rlc41 : x40.toInt < (4 : Int) := iv_nle c41
          have ir43 : IV x40 (-1600) 3 := iv_uL ix40 (iv_c (by decide) : IV 4 4 4) (iv_nle c41) (by decide)
          have ir43a := ir43.1; have ir43b := ir43.2
          refine lv_aload_n hx hb dX11_goOn_286 rfl (lv_at hl 0 rfl) ?_
          refine lv_bipush (v := 10) hx hb dX11_goOn_287 (by decide) ?_
          refine lv_aload_n hx hb dX11_goOn_289 rfl (lv_at hl 0 rfl) ?_
          refine th_get S hK hH inG11 t0 km_0 rfl 9 (by decide) gm_1239 rfl rfl dX11_goOn_290 (fun v44 hv44 fv44 => ?_)
          obtain ⟨x45, rfl, ix45⟩ := th_V.int hv44
          refine lv_imul hx hb dX11_goOn_293 ?_
          refine lv_topi (fun x46 ex46 => ?_)
          have ix46 := iv_top x46
          refine lv_aload_n hx hb dX11_goOn_294 rfl (lv_at hl 0 rfl) ?_
          refine lv_aload_n hx hb dX11_goOn_295 rfl (lv_at hl 0 rfl) ?_
          refine th_get S hK hH inG11 t0 km_0 rfl 7 (by decide) gm_1237 rfl rfl dX11_goOn_296 (fun v47 hv47 fv47 => ?_)
          obtain ⟨x48, rfl, ix48⟩ := th_V.int hv47
          have kx48a : q259 28 ≤ x48.toInt := ix48.1
          have kx48b : x48.toInt ≤ q259 28 := ix48.2
          have bx48 := qkm_28 hq259
          have ix48 : IV x48 0 1601 := iv_w ix48 (qkm_28 hq259)
          refine th_callVp (n := 1) (As := [.int x48]) S hK hH hS (th_A.sub (by decide)) (m_X11_sign l D cT T q259 hT hq259 a0 t0 (x48) ix48) gm_1449 gm_1446 gm_1448 gm_48 gm_124 (by decide +kernel) ⟨rfl, rfl, Nat.le_of_ble_eq_true rfl, Nat.le_of_ble_eq_true rfl⟩ t0 km_0 rfl rfl hl.1 rfl (Nat.le_of_ble_eq_true rfl) dX11_goOn_299 ⟨Nat.zero_le _, Nat.zero_le _⟩ (fun x49 H locs ix49 ox49 hH hS hF1 => ?_)
          have ox49 : x49.toInt = sg q259 x48.toInt := ox49
          have l1x49 := ix49.1; have l2x49 := ix49.2
          refine lv_iadd hx hb dX11_goOn_302 ?_
          refine lv_topi (fun x50 ex50 => ?_)
          have ix50 := iv_top x50
          refine lv_bipush (v := 48) hx hb dX11_goOn_303 (by decide) ?_
          refine lv_isub hx hb dX11_goOn_305 ?_
          refine lv_topi (fun x51 ex51 => ?_)
          have ix51 := iv_top x51
          refine th_put S hK hH hS ⟨0, by decide, t0⟩ inG11 tyX11 tyX11_ok nmX11 t0 km_0 rfl 9 (by decide) gm_1239 rfl rfl rfl rfl (th_iv ix51) (fun vs h => nmR_set h.2.2 (by decide) rfl) (ty := .int) (by decide +kernel) rfl rfl dX11_goOn_306 (fun H locs hH hS hq1 hp1 => ?_)
          have f52 := hp1.1
          exact J309 H locs ls (show q259 28 < q259 26 by omega) hH hS (lv_sub hl [0] rfl)
  have J233_s1_1 : ∀ (q233 : Nat → Int) (H : Heap) (locs : List Loc) (ls : Array Slot), qkm q233 → fr [27, 28, 29, 31] q q233 → (q233 27 < q233 28 ∧ q233 28 ≤ q233 26 ∧ q 28 ≤ q233 27) → (97 ≤ sg q (q233 27) ∧ sg q (q233 27) ≤ 122) → (sg q (q233 28) < 97 ∨ 122 < sg q (q233 28)) → (q233 31 = 7237492 → q233 27 + 3 ≤ q233 28) → th_H D cT T (km q233) H → va_S (th_A T [0]) s.heap H locs → lv_has ls 3 [] → W p l e (rmk 1 22) s m [.ref a0].toArray below meth c H locs 0 0 (MQ below (th_QM D cT T (fun v q2 => v = none ∧ qkm q2 ∧ fr [27, 28, 29, 31] q q2 ∧ ((q2 29 = 0 ∧ q2 27 = q2 26 ∧ q2 28 = q2 26) ∨ (1 ≤ q2 29 ∧ q2 27 < q2 28 ∧ q2 28 ≤ q2 26)) ∧ (q2 29 = 3 → sg q2 (q2 28) < 97 ∨ 122 < sg q2 (q2 28)) ∧ (q2 29 = 3 → q2 31 = 7237492 → q2 27 + 3 ≤ q2 28) ∧ (q 28 ≤ q2 27) ∧ (q2 29 = 3 → 97 ≤ sg q (q2 27) ∧ sg q (q2 27) ≤ 122)) [0]) [.ref a0].toArray s 0 0 (th_A T [0])) (F0 m 233 ls [.int 1, .ref a0]) := by
    intro q233 H locs ls hq233 h0233 v233_inv0 v233_inv1 v233_inv2 v233_inv3 hH hS hl
    have w233_26 : q233 26 = q 26 := h0233 26 (by decide) (Or.inl (by decide))
    obtain ⟨n54, en54⟩ : ∃ z : Int, z = Int32.toInt 1 := ⟨_, rfl⟩
    have fn54 : n54 = 1 := by rw [en54]; rfl
    refine mput_29 S hK hH hS ⟨0, by decide, t0⟩ hT t0 en54 gm_1238 dX11_goOn_233 (fun q53 H locs eq53 hH hS hq1 => ?_)
    have hqq53 : qkm q53 := by rw [eq53]; exact qum_ok29 hq233 (iv_z en54 (iv_w (iv_c (by decide) : IV 1 1 1) (by decide)))
    have h0q53 : fr [27, 28, 29, 31] q q53 := by rw [eq53]; exact fr_up h0233 (by decide)
    have wq53_26 : q53 26 = q233 26 := by rw [eq53]; rfl
    have wq53_27 : q53 27 = q233 27 := by rw [eq53]; rfl
    have wq53_28 : q53 28 = q233 28 := by rw [eq53]; rfl
    have wq53_29 : q53 29 = n54 := by rw [eq53]; rfl
    have wq53_31 : q53 31 = q233 31 := by rw [eq53]; rfl
    refine lv_goto (tgt := 377) hx hb dX11_goOn_236 (by decide) ?_
    exact J377 q53 H locs ls hqq53 h0q53 (show (q53 29 = 0 ∧ q53 27 = q53 26 ∧ q53 28 = q53 26) ∨ (1 ≤ q53 29 ∧ q53 27 < q53 28 ∧ q53 28 ≤ q53 26) by omega) (show q53 29 = 3 → sg q (q53 28) < 97 ∨ 122 < sg q (q53 28) by first | (intro z; exact absurd z (by omega)) | (intro _; rw [wq53_28]; assumption)) (show q53 29 = 3 → q53 31 = 7237492 → q53 27 + 3 ≤ q53 28 by omega) (show q 28 ≤ q53 27 by omega) (show q53 29 = 3 → 97 ≤ sg q (q53 27) ∧ sg q (q53 27) ≤ 122 by first | (intro z; exact absurd z (by omega)) | (intro _; rw [wq53_27]; assumption)) hH hS (lv_sub hl [] rfl)
  have J233_s1_2 : ∀ (q233 : Nat → Int) (H : Heap) (locs : List Loc) (ls : Array Slot), qkm q233 → fr [27, 28, 29, 31] q q233 → (q233 27 < q233 28 ∧ q233 28 ≤ q233 26 ∧ q 28 ≤ q233 27) → (97 ≤ sg q (q233 27) ∧ sg q (q233 27) ≤ 122) → (sg q (q233 28) < 97 ∨ 122 < sg q (q233 28)) → (q233 31 = 7237492 → q233 27 + 3 ≤ q233 28) → th_H D cT T (km q233) H → va_S (th_A T [0]) s.heap H locs → lv_has ls 3 [] → W p l e (rmk 1 22) s m [.ref a0].toArray below meth c H locs 0 0 (MQ below (th_QM D cT T (fun v q2 => v = none ∧ qkm q2 ∧ fr [27, 28, 29, 31] q q2 ∧ ((q2 29 = 0 ∧ q2 27 = q2 26 ∧ q2 28 = q2 26) ∨ (1 ≤ q2 29 ∧ q2 27 < q2 28 ∧ q2 28 ≤ q2 26)) ∧ (q2 29 = 3 → sg q2 (q2 28) < 97 ∨ 122 < sg q2 (q2 28)) ∧ (q2 29 = 3 → q2 31 = 7237492 → q2 27 + 3 ≤ q2 28) ∧ (q 28 ≤ q2 27) ∧ (q2 29 = 3 → 97 ≤ sg q (q2 27) ∧ sg q (q2 27) ≤ 122)) [0]) [.ref a0].toArray s 0 0 (th_A T [0])) (F0 m 233 ls [.int 2, .ref a0]) := by
    intro q233 H locs ls hq233 h0233 v233_inv0 v233_inv1 v233_inv2 v233_inv3 hH hS hl
    have w233_26 : q233 26 = q 26 := h0233 26 (by decide) (Or.inl (by decide))
    obtain ⟨n56, en56⟩ : ∃ z : Int, z = Int32.toInt 2 := ⟨_, rfl⟩
    have fn56 : n56 = 2 := by rw [en56]; rfl
    refine mput_29 S hK hH hS ⟨0, by decide, t0⟩ hT t0 en56 gm_1238 dX11_goOn_233 (fun q55 H locs eq55 hH hS hq1 => ?_)
    have hqq55 : qkm q55 := by rw [eq55]; exact qum_ok29 hq233 (iv_z en56 (iv_w (iv_c (by decide) : IV 2 2 2) (by decide)))
    have h0q55 : fr [27, 28, 29, 31] q q55 := by rw [eq55]; exact fr_up h0233 (by decide)
    have wq55_26 : q55 26 = q233 26 := by rw [eq55]; rfl
    have wq55_27 : q55 27 = q233 27 := by rw [eq55]; rfl
    have wq55_28 : q55 28 = q233 28 := by rw [eq55]; rfl
    have wq55_29 : q55 29 = n56 := by rw [eq55]; rfl
    have wq55_31 : q55 31 = q233 31 := by rw [eq55]; rfl
    refine lv_goto (tgt := 377) hx hb dX11_goOn_236 (by decide) ?_
    exact J377 q55 H locs ls hqq55 h0q55 (show (q55 29 = 0 ∧ q55 27 = q55 26 ∧ q55 28 = q55 26) ∨ (1 ≤ q55 29 ∧ q55 27 < q55 28 ∧ q55 28 ≤ q55 26) by omega) (show q55 29 = 3 → sg q (q55 28) < 97 ∨ 122 < sg q (q55 28) by first | (intro z; exact absurd z (by omega)) | (intro _; rw [wq55_28]; assumption)) (show q55 29 = 3 → q55 31 = 7237492 → q55 27 + 3 ≤ q55 28 by omega) (show q 28 ≤ q55 27 by omega) (show q55 29 = 3 → 97 ≤ sg q (q55 27) ∧ sg q (q55 27) ≤ 122 by first | (intro z; exact absurd z (by omega)) | (intro _; rw [wq55_27]; assumption)) hH hS (lv_sub hl [] rfl)
  have J233_s1_3 : ∀ (q233 : Nat → Int) (H : Heap) (locs : List Loc) (ls : Array Slot), qkm q233 → fr [27, 28, 29, 31] q q233 → (q233 27 < q233 28 ∧ q233 28 ≤ q233 26 ∧ q 28 ≤ q233 27) → (97 ≤ sg q (q233 27) ∧ sg q (q233 27) ≤ 122) → (sg q (q233 28) < 97 ∨ 122 < sg q (q233 28)) → (q233 31 = 7237492 → q233 27 + 3 ≤ q233 28) → th_H D cT T (km q233) H → va_S (th_A T [0]) s.heap H locs → lv_has ls 3 [] → W p l e (rmk 1 22) s m [.ref a0].toArray below meth c H locs 0 0 (MQ below (th_QM D cT T (fun v q2 => v = none ∧ qkm q2 ∧ fr [27, 28, 29, 31] q q2 ∧ ((q2 29 = 0 ∧ q2 27 = q2 26 ∧ q2 28 = q2 26) ∨ (1 ≤ q2 29 ∧ q2 27 < q2 28 ∧ q2 28 ≤ q2 26)) ∧ (q2 29 = 3 → sg q2 (q2 28) < 97 ∨ 122 < sg q2 (q2 28)) ∧ (q2 29 = 3 → q2 31 = 7237492 → q2 27 + 3 ≤ q2 28) ∧ (q 28 ≤ q2 27) ∧ (q2 29 = 3 → 97 ≤ sg q (q2 27) ∧ sg q (q2 27) ≤ 122)) [0]) [.ref a0].toArray s 0 0 (th_A T [0])) (F0 m 233 ls [.int 3, .ref a0]) := by
    intro q233 H locs ls hq233 h0233 v233_inv0 v233_inv1 v233_inv2 v233_inv3 hH hS hl
    have w233_26 : q233 26 = q 26 := h0233 26 (by decide) (Or.inl (by decide))
    obtain ⟨n58, en58⟩ : ∃ z : Int, z = Int32.toInt 3 := ⟨_, rfl⟩
    have fn58 : n58 = 3 := by rw [en58]; rfl
    refine mput_29 S hK hH hS ⟨0, by decide, t0⟩ hT t0 en58 gm_1238 dX11_goOn_233 (fun q57 H locs eq57 hH hS hq1 => ?_)
    have hqq57 : qkm q57 := by rw [eq57]; exact qum_ok29 hq233 (iv_z en58 (iv_w (iv_c (by decide) : IV 3 3 3) (by decide)))
    have h0q57 : fr [27, 28, 29, 31] q q57 := by rw [eq57]; exact fr_up h0233 (by decide)
    have wq57_26 : q57 26 = q233 26 := by rw [eq57]; rfl
    have wq57_27 : q57 27 = q233 27 := by rw [eq57]; rfl
    have wq57_28 : q57 28 = q233 28 := by rw [eq57]; rfl
    have wq57_29 : q57 29 = n58 := by rw [eq57]; rfl
    have wq57_31 : q57 31 = q233 31 := by rw [eq57]; rfl
    refine lv_goto (tgt := 377) hx hb dX11_goOn_236 (by decide) ?_
    exact J377 q57 H locs ls hqq57 h0q57 (show (q57 29 = 0 ∧ q57 27 = q57 26 ∧ q57 28 = q57 26) ∨ (1 ≤ q57 29 ∧ q57 27 < q57 28 ∧ q57 28 ≤ q57 26) by omega) (show q57 29 = 3 → sg q (q57 28) < 97 ∨ 122 < sg q (q57 28) by first | (intro z; exact absurd z (by omega)) | (intro _; rw [wq57_28]; assumption)) (show q57 29 = 3 → q57 31 = 7237492 → q57 27 + 3 ≤ q57 28 by omega) (show q 28 ≤ q57 27 by omega) (show q57 29 = 3 → 97 ≤ sg q (q57 27) ∧ sg q (q57 27) ≤ 122 by first | (intro z; exact absurd z (by omega)) | (intro _; rw [wq57_27]; assumption)) hH hS (lv_sub hl [] rfl)
  have J199 : ∀ (q199 : Nat → Int) (H : Heap) (locs : List Loc) (ls : Array Slot), qkm q199 → fr [27, 28, 29, 31] q q199 → (q199 27 < q199 28 ∧ q199 28 ≤ q199 26 ∧ q 28 ≤ q199 27) → (97 ≤ sg q (q199 27) ∧ sg q (q199 27) ≤ 122) → (sg q (q199 28) < 97 ∨ 122 < sg q (q199 28)) → (q199 31 = 7237492 → q199 27 + 3 ≤ q199 28) → th_H D cT T (km q199) H → va_S (th_A T [0]) s.heap H locs → lv_has ls 3 [(0, .ref a0)] → W p l e (rmk 1 22) s m [.ref a0].toArray below meth c H locs 0 0 (MQ below (th_QM D cT T (fun v q2 => v = none ∧ qkm q2 ∧ fr [27, 28, 29, 31] q q2 ∧ ((q2 29 = 0 ∧ q2 27 = q2 26 ∧ q2 28 = q2 26) ∨ (1 ≤ q2 29 ∧ q2 27 < q2 28 ∧ q2 28 ≤ q2 26)) ∧ (q2 29 = 3 → sg q2 (q2 28) < 97 ∨ 122 < sg q2 (q2 28)) ∧ (q2 29 = 3 → q2 31 = 7237492 → q2 27 + 3 ≤ q2 28) ∧ (q 28 ≤ q2 27) ∧ (q2 29 = 3 → 97 ≤ sg q (q2 27) ∧ sg q (q2 27) ≤ 122)) [0]) [.ref a0].toArray s 0 0 (th_A T [0])) (F0 m 199 ls []) := by
    intro q199 H locs ls hq199 h0199 v199_inv0 v199_inv1 v199_inv2 v199_inv3 hH hS hl
    have w199_26 : q199 26 = q 26 := h0199 26 (by decide) (Or.inl (by decide))
    refine lv_aload_n hx hb dX11_goOn_199 rfl (lv_at hl 0 rfl) ?_
    refine lv_aload_n hx hb dX11_goOn_200 rfl (lv_at hl 0 rfl) ?_
    refine th_get S hK hH inG11 t0 km_0 rfl 7 (by decide) gm_1237 rfl rfl dX11_goOn_201 (fun v59 hv59 fv59 => ?_)
    obtain ⟨x60, rfl, ix60⟩ := th_V.int hv59
    have kx60a : q199 28 ≤ x60.toInt := ix60.1
    have kx60b : x60.toInt ≤ q199 28 := ix60.2
    have bx60 := qkm_28 hq199
    have ix60 : IV x60 0 1601 := iv_w ix60 (qkm_28 hq199)
    refine lv_aload_n hx hb dX11_goOn_204 rfl (lv_at hl 0 rfl) ?_
    refine th_get S hK hH inG11 t0 km_0 rfl 6 (by decide) gm_1236 rfl rfl dX11_goOn_205 (fun v61 hv61 fv61 => ?_)
    obtain ⟨x62, rfl, ix62⟩ := th_V.int hv61
    have kx62a : q199 27 ≤ x62.toInt := ix62.1
    have kx62b : x62.toInt ≤ q199 27 := ix62.2
    have bx62 := qkm_27 hq199
    have ix62 : IV x62 0 1600 := iv_w ix62 (qkm_27 hq199)
    refine lv_isub hx hb dX11_goOn_208 ?_
    refine lv_topi (fun x63 ex63 => ?_)
    have ix63 : IV x63 (-1600) 1601 := by rw [ex63]; exact iv_sub ix60 ix62 (by decide)
    have ux63 : x63.toInt = x60.toInt - x62.toInt := by rw [ex63]; exact iv_subE (by have z1 := (ix60).1; have z2 := (ix60).2; have z3 := (ix62).1; have z4 := (ix62).2; omega)
    refine lv_bipush (v := 8) hx hb dX11_goOn_209 (by decide) ?_
    refine lv_icmp_le (tgt := 218) hx hb dX11_goOn_211 (by decide) (fun c64 => ?_) (fun c64 => ?_)
    · skip
      have rlc64 : x63.toInt ≤ (8 : Int) := iv_le c64
      have ir65 : IV x63 (-1600) 8 := iv_vL ix63 (iv_c (by decide) : IV 8 8 8) (iv_le c64) (by decide)
      have ir65a := ir65.1; have ir65b := ir65.2
      refine lv_aload_n hx hb dX11_goOn_218 rfl (lv_at hl 0 rfl) ?_
      refine th_getM S hK hH inG11 t0 km_0 rfl 10 (by decide) gm_1240 rfl rfl dX11_goOn_219 (fun v66 hv66 wv66 => ?_)
      obtain ⟨lg67, rfl⟩ := th_V.long hv66
      have klg67 : lg67.toInt = q199 31 := by obtain ⟨vs, z1, z2⟩ := wv66; exact z2 _ z1
      refine th_callSi (n := 1) (As := [.long lg67]) S hK hH hS (th_A.sub (by decide)) (m_X11_isKept l D cT T q199 hT hq199 (lg67)) gm_1455 gm_1453 gm_1454 gm_124 (by decide +kernel) ⟨rfl, rfl, Nat.le_of_ble_eq_true rfl, Nat.le_of_ble_eq_true rfl⟩ rfl hl.1 rfl (Nat.le_of_ble_eq_true rfl) dX11_goOn_222 ⟨Nat.zero_le _, Nat.zero_le _⟩ (fun x68 H locs ix68 hH hS hF1 => ?_)
      have l1x68 := ix68.1; have l2x68 := ix68.2
      refine lv_if_eq (tgt := 232) hx hb dX11_goOn_225 (by decide) (fun c69 => ?_) (fun c69 => ?_)
      · skip
        have rlc69 : x68.toInt = (0 : Int) := congrArg Int32.toInt c69
        have ir70 : IV x68 0 0 := iv_eL c69 (iv_c (by decide) : IV 0 0 0)
        have ir70a := ir70.1; have ir70b := ir70.2
        refine lv_iconst (v := 2) hx hb dX11_goOn_232 (by decide) ?_
        exact J233_s1_2 q199 H locs ls hq199 h0199 (show q199 27 < q199 28 ∧ q199 28 ≤ q199 26 ∧ q 28 ≤ q199 27 by omega) (show 97 ≤ sg q (q199 27) ∧ sg q (q199 27) ≤ 122 by first | assumption | (rw [wq199_27]; assumption) | (rw [wq199_27, ← hc]; exact ⟨by omega, by omega⟩)) (show sg q (q199 28) < 97 ∨ 122 < sg q (q199 28) by first | assumption | (rw [wq199_28]; assumption)) (show q199 31 = 7237492 → q199 27 + 3 ≤ q199 28 by omega) hH hS (lv_sub hl [] rfl)
      · skip
        have rlc69 : x68.toInt ≠ (0 : Int) := iv_ne c69
        have ir71 : IV x68 1 1 := iv_cutL ix68 (iv_c (by decide) : IV 0 0 0) c69 (by decide)
        have ir71a := ir71.1; have ir71b := ir71.2
        refine lv_iconst (v := 3) hx hb dX11_goOn_228 (by decide) ?_
        refine lv_goto (tgt := 233) hx hb dX11_goOn_229 (by decide) ?_
        exact J233_s1_3 q199 H locs ls hq199 h0199 (show q199 27 < q199 28 ∧ q199 28 ≤ q199 26 ∧ q 28 ≤ q199 27 by omega) (show 97 ≤ sg q (q199 27) ∧ sg q (q199 27) ≤ 122 by first | assumption | (rw [wq199_27]; assumption) | (rw [wq199_27, ← hc]; exact ⟨by omega, by omega⟩)) (show sg q (q199 28) < 97 ∨ 122 < sg q (q199 28) by first | assumption | (rw [wq199_28]; assumption)) (show q199 31 = 7237492 → q199 27 + 3 ≤ q199 28 by omega) hH hS (lv_sub hl [] rfl)
    · skip
      have rlc64 : (8 : Int) < x63.toInt := iv_nle c64
      have ir72 : IV x63 9 1601 := iv_uR (iv_c (by decide) : IV 8 8 8) ix63 (iv_nle c64) (by decide)
      have ir72a := ir72.1; have ir72b := ir72.2
      refine lv_iconst (v := 1) hx hb dX11_goOn_214 (by decide) ?_
      refine lv_goto (tgt := 233) hx hb dX11_goOn_215 (by decide) ?_
      exact J233_s1_1 q199 H locs ls hq199 h0199 (show q199 27 < q199 28 ∧ q199 28 ≤ q199 26 ∧ q 28 ≤ q199 27 by omega) (show 97 ≤ sg q (q199 27) ∧ sg q (q199 27) ≤ 122 by first | assumption | (rw [wq199_27]; assumption) | (rw [wq199_27, ← hc]; exact ⟨by omega, by omega⟩)) (show sg q (q199 28) < 97 ∨ 122 < sg q (q199 28) by first | assumption | (rw [wq199_28]; assumption)) (show q199 31 = 7237492 → q199 27 + 3 ≤ q199 28 by omega) hH hS (lv_sub hl [] rfl)
  have J156 : ∀ (n : Nat) (q156 : Nat → Int) (H : Heap) (locs : List Loc) (ls : Array Slot) (v156_2 : Int32), qkm q156 → fr [27, 28, 29, 31] q q156 → IV v156_2 0 1601 → (q156 27 < q156 28 ∧ q156 28 ≤ q156 26 ∧ q 28 ≤ q156 27) → (97 ≤ sg q (q156 27) ∧ sg q (q156 27) ≤ 122) → (sg q (q156 28) < 97 ∨ 122 < sg q (q156 28)) → (q156 27 ≤ v156_2.toInt ∧ v156_2.toInt ≤ q156 28) → ((v156_2.toInt = q156 27 → q156 31 = 0) ∧ (v156_2.toInt = q156 27 + 1 → 0 ≤ q156 31 ∧ q156 31 < 256) ∧ (v156_2.toInt = q156 27 + 2 → 0 ≤ q156 31 ∧ q156 31 < 65536)) → th_H D cT T (km q156) H → va_S (th_A T [0]) s.heap H locs → lv_has ls 3 [(0, .ref a0), (2, .int v156_2)] → (1601 + 1 - Int32.toInt v156_2).toNat < n → W p l e (rmk 1 22) s m [.ref a0].toArray below meth c H locs 0 0 (MQ below (th_QM D cT T (fun v q2 => v = none ∧ qkm q2 ∧ fr [27, 28, 29, 31] q q2 ∧ ((q2 29 = 0 ∧ q2 27 = q2 26 ∧ q2 28 = q2 26) ∨ (1 ≤ q2 29 ∧ q2 27 < q2 28 ∧ q2 28 ≤ q2 26)) ∧ (q2 29 = 3 → sg q2 (q2 28) < 97 ∨ 122 < sg q2 (q2 28)) ∧ (q2 29 = 3 → q2 31 = 7237492 → q2 27 + 3 ≤ q2 28) ∧ (q 28 ≤ q2 27) ∧ (q2 29 = 3 → 97 ≤ sg q (q2 27) ∧ sg q (q2 27) ≤ 122)) [0]) [.ref a0].toArray s 0 0 (th_A T [0])) (F0 m 156 ls []) := by
    intro n
    induction n with
    | zero => intro q156 H locs ls v156_2 hq156 h0156 iv156_2 v156_inv0 v156_inv1 v156_inv2 v156_inv3 v156_inv4 hH hS hl hn; exact absurd hn (Nat.not_lt_zero _)
    | succ n ih156 =>
      intro q156 H locs ls v156_2 hq156 h0156 iv156_2 v156_inv0 v156_inv1 v156_inv2 v156_inv3 v156_inv4 hH hS hl hn156
      have w156_26 : q156 26 = q 26 := h0156 26 (by decide) (Or.inl (by decide))
      have l1v156_2 := iv156_2.1; have l2v156_2 := iv156_2.2
      refine lv_iload_n hx hb dX11_goOn_156 rfl (lv_at hl 1 rfl) ?_
      refine lv_aload_n hx hb dX11_goOn_157 rfl (lv_at hl 0 rfl) ?_
      refine th_get S hK hH inG11 t0 km_0 rfl 7 (by decide) gm_1237 rfl rfl dX11_goOn_158 (fun v73 hv73 fv73 => ?_)
      obtain ⟨x74, rfl, ix74⟩ := th_V.int hv73
      have kx74a : q156 28 ≤ x74.toInt := ix74.1
      have kx74b : x74.toInt ≤ q156 28 := ix74.2
      have bx74 := qkm_28 hq156
      have ix74 : IV x74 0 1601 := iv_w ix74 (qkm_28 hq156)
      refine lv_icmp_ge (tgt := 199) hx hb dX11_goOn_161 (by decide) (fun c75 => ?_) (fun c75 => ?_)
      · skip
        have rlc75 : x74.toInt ≤ v156_2.toInt := iv_le c75
        exact J199 q156 H locs ls hq156 h0156 (show q156 27 < q156 28 ∧ q156 28 ≤ q156 26 ∧ q 28 ≤ q156 27 by omega) (show 97 ≤ sg q (q156 27) ∧ sg q (q156 27) ≤ 122 by first | assumption | (rw [wq156_27]; assumption) | (rw [wq156_27, ← hc]; exact ⟨by omega, by omega⟩)) (show sg q (q156 28) < 97 ∨ 122 < sg q (q156 28) by first | assumption | (rw [wq156_28]; assumption)) (show q156 31 = 7237492 → q156 27 + 3 ≤ q156 28 by omega) hH hS (lv_sub hl [0] rfl)
      · skip
        have rlc75 : v156_2.toInt < x74.toInt := iv_nle c75
        have ir76 : IV v156_2 0 1600 := iv_uL iv156_2 ix74 (iv_nle c75) (by decide)
        have ir76a := ir76.1; have ir76b := ir76.2
        have ir77 : IV x74 1 1601 := iv_uR iv156_2 ix74 (iv_nle c75) (by decide)
        have ir77a := ir77.1; have ir77b := ir77.2
        refine lv_iload_n hx hb dX11_goOn_164 rfl (lv_at hl 1 rfl) ?_
        refine lv_aload_n hx hb dX11_goOn_165 rfl (lv_at hl 0 rfl) ?_
        refine th_get S hK hH inG11 t0 km_0 rfl 6 (by decide) gm_1236 rfl rfl dX11_goOn_166 (fun v78 hv78 fv78 => ?_)
        obtain ⟨x79, rfl, ix79⟩ := th_V.int hv78
        have kx79a : q156 27 ≤ x79.toInt := ix79.1
        have kx79b : x79.toInt ≤ q156 27 := ix79.2
        have bx79 := qkm_27 hq156
        have ix79 : IV x79 0 1600 := iv_w ix79 (qkm_27 hq156)
        refine lv_bipush (v := 8) hx hb dX11_goOn_169 (by decide) ?_
        refine lv_iadd hx hb dX11_goOn_171 ?_
        refine lv_topi (fun x80 ex80 => ?_)
        have ix80 : IV x80 8 1608 := by rw [ex80]; exact iv_add ix79 (iv_c (by decide) : IV 8 8 8) (by decide)
        have ux80 : x80.toInt = x79.toInt + (8 : Int) := by rw [ex80]; exact iv_addE (by have z1 := (ix79).1; have z2 := (ix79).2; have z3 := ((iv_c (by decide) : IV 8 8 8)).1; have z4 := ((iv_c (by decide) : IV 8 8 8)).2; omega)
        refine lv_icmp_ge (tgt := 199) hx hb dX11_goOn_172 (by decide) (fun c81 => ?_) (fun c81 => ?_)
        · skip
          have rlc81 : x80.toInt ≤ v156_2.toInt := iv_le c81
          have ir82 : IV v156_2 8 1600 := iv_vR ix80 ir76 (iv_le c81) (by decide)
          have ir82a := ir82.1; have ir82b := ir82.2
          have ir83 : IV x80 8 1600 := iv_vL ix80 ir76 (iv_le c81) (by decide)
          have ir83a := ir83.1; have ir83b := ir83.2
          have z1 := ir83.1; have z2 := ir83.2; have z3 := (ix79).1; have z4 := (ix79).2
          have ir84 : IV x79 0 1592 := ⟨by omega, by omega⟩
          exact J199 q156 H locs ls hq156 h0156 (show q156 27 < q156 28 ∧ q156 28 ≤ q156 26 ∧ q 28 ≤ q156 27 by omega) (show 97 ≤ sg q (q156 27) ∧ sg q (q156 27) ≤ 122 by first | assumption | (rw [wq156_27]; assumption) | (rw [wq156_27, ← hc]; exact ⟨by omega, by omega⟩)) (show sg q (q156 28) < 97 ∨ 122 < sg q (q156 28) by first | assumption | (rw [wq156_28]; assumption)) (show q156 31 = 7237492 → q156 27 + 3 ≤ q156 28 by omega) hH hS (lv_sub hl [0] rfl)
        · skip
          have rlc81 : v156_2.toInt < x80.toInt := iv_nle c81
          refine lv_aload_n hx hb dX11_goOn_175 rfl (lv_at hl 0 rfl) ?_
          refine lv_aload_n hx hb dX11_goOn_176 rfl (lv_at hl 0 rfl) ?_
          refine th_getM S hK hH inG11 t0 km_0 rfl 10 (by decide) gm_1240 rfl rfl dX11_goOn_177 (fun v85 hv85 wv85 => ?_)
          obtain ⟨lg86, rfl⟩ := th_V.long hv85
          have klg86 : lg86.toInt = q156 31 := by obtain ⟨vs, z1, z2⟩ := wv85; exact z2 _ z1
          refine lv_bipush (v := 8) hx hb dX11_goOn_180 (by decide) ?_
          refine lv_lshl (v := _) hx hb dX11_goOn_182 rfl ?_
          refine lv_topl (fun lg87 elg87 => ?_)
          refine lv_aload_n hx hb dX11_goOn_183 rfl (lv_at hl 0 rfl) ?_
          refine lv_iload_n hx hb dX11_goOn_184 rfl (lv_at hl 1 rfl) ?_
          refine th_callVp (n := 1) (As := [.int v156_2]) S hK hH hS (th_A.sub (by decide)) (m_X11_sign l D cT T q156 hT hq156 a0 t0 (v156_2) (iv_w ir76 (by decide))) gm_1449 gm_1446 gm_1448 gm_48 gm_124 (by decide +kernel) ⟨rfl, rfl, Nat.le_of_ble_eq_true rfl, Nat.le_of_ble_eq_true rfl⟩ t0 km_0 rfl rfl hl.1 rfl (Nat.le_of_ble_eq_true rfl) dX11_goOn_185 ⟨Nat.zero_le _, Nat.zero_le _⟩ (fun x88 H locs ix88 ox88 hH hS hF1 => ?_)
          have ox88 : x88.toInt = sg q156 v156_2.toInt := ox88
          have l1x88 := ix88.1; have l2x88 := ix88.2
          refine lv_i2l (v := _) hx hb dX11_goOn_188 rfl ?_
          refine lv_topl (fun lg89 elg89 => ?_)
          refine lv_lor hx hb dX11_goOn_189 ?_
          refine lv_topl (fun lg90 elg90 => ?_)
          have hns := name_step elg90 (by assumption) (by assumption) ix88
          have hns1 := hns.1; have hns2 := hns.2
          obtain ⟨n92, en92⟩ : ∃ z : Int, z = Int64.toInt lg90 := ⟨_, rfl⟩
          refine mput_name S hK hH hS ⟨0, by decide, t0⟩ hT t0 en92 gm_1240 dX11_goOn_190 (fun q91 H locs eq91 hH hS hq1 => ?_)
          have hqq91 : qkm q91 := by rw [eq91]; exact qum_ok31 hq156 (by rw [en92]; exact l64 _)
          have h0q91 : fr [27, 28, 29, 31] q q91 := by rw [eq91]; exact fr_up h0156 (by decide)
          have wq91_26 : q91 26 = q156 26 := by rw [eq91]; rfl
          have wq91_27 : q91 27 = q156 27 := by rw [eq91]; rfl
          have wq91_28 : q91 28 = q156 28 := by rw [eq91]; rfl
          have wq91_29 : q91 29 = q156 29 := by rw [eq91]; rfl
          have wq91_31 : q91 31 = n92 := by rw [eq91]; rfl
          refine th_iinc S dX11_goOn_193 hl (k := 1) rfl (by decide) ir76 (by decide) (fun x93 ls ex93 ix93 hl => ?_)
          have hl : lv_has ls 3 [(2, .int x93), (0, .ref a0)] := hl
          have ix93 : IV x93 1 1601 := ix93
          refine lv_goto (tgt := 156) hx hb dX11_goOn_196 (by decide) ?_
          exact ih156 q91 H locs ls x93 hqq91 h0q91 (iv_w ix93 (by decide)) (show q91 27 < q91 28 ∧ q91 28 ≤ q91 26 ∧ q 28 ≤ q91 27 by omega) (show 97 ≤ sg q (q91 27) ∧ sg q (q91 27) ≤ 122 by first | assumption | (rw [wq91_27]; assumption) | (rw [wq91_27, ← hc]; exact ⟨by omega, by omega⟩)) (show sg q (q91 28) < 97 ∨ 122 < sg q (q91 28) by first | assumption | (rw [wq91_28]; assumption)) (show q91 27 ≤ x93.toInt ∧ x93.toInt ≤ q91 28 by omega) (show (x93.toInt = q91 27 → q91 31 = 0) ∧ (x93.toInt = q91 27 + 1 → 0 ≤ q91 31 ∧ q91 31 < 256) ∧ (x93.toInt = q91 27 + 2 → 0 ≤ q91 31 ∧ q91 31 < 65536) by omega) hH hS (lv_sub hl [1, 0] rfl) (th_up iv156_2 ex93 (by decide) hn156)
  have J119 : ∀ (n : Nat) (q119 : Nat → Int) (H : Heap) (locs : List Loc) (ls : Array Slot), qkm q119 → fr [27, 28, 29, 31] q q119 → (q119 27 < q119 28 ∧ q119 28 ≤ q119 26 ∧ q 28 ≤ q119 27) → (97 ≤ sg q (q119 27) ∧ sg q (q119 27) ≤ 122) → th_H D cT T (km q119) H → va_S (th_A T [0]) s.heap H locs → lv_has ls 3 [(0, .ref a0)] → (q119 26 - q119 28).toNat < n → W p l e (rmk 1 22) s m [.ref a0].toArray below meth c H locs 0 0 (MQ below (th_QM D cT T (fun v q2 => v = none ∧ qkm q2 ∧ fr [27, 28, 29, 31] q q2 ∧ ((q2 29 = 0 ∧ q2 27 = q2 26 ∧ q2 28 = q2 26) ∨ (1 ≤ q2 29 ∧ q2 27 < q2 28 ∧ q2 28 ≤ q2 26)) ∧ (q2 29 = 3 → sg q2 (q2 28) < 97 ∨ 122 < sg q2 (q2 28)) ∧ (q2 29 = 3 → q2 31 = 7237492 → q2 27 + 3 ≤ q2 28) ∧ (q 28 ≤ q2 27) ∧ (q2 29 = 3 → 97 ≤ sg q (q2 27) ∧ sg q (q2 27) ≤ 122)) [0]) [.ref a0].toArray s 0 0 (th_A T [0])) (F0 m 119 ls []) := by
    intro n
    induction n with
    | zero => intro q119 H locs ls hq119 h0119 v119_inv0 v119_inv1 hH hS hl hn; exact absurd hn (Nat.not_lt_zero _)
    | succ n ih119 =>
      intro q119 H locs ls hq119 h0119 v119_inv0 v119_inv1 hH hS hl hn119
      have w119_26 : q119 26 = q 26 := h0119 26 (by decide) (Or.inl (by decide))
      refine lv_aload_n hx hb dX11_goOn_119 rfl (lv_at hl 0 rfl) ?_
      refine lv_aload_n hx hb dX11_goOn_120 rfl (lv_at hl 0 rfl) ?_
      refine th_get S hK hH inG11 t0 km_0 rfl 7 (by decide) gm_1237 rfl rfl dX11_goOn_121 (fun v94 hv94 fv94 => ?_)
      obtain ⟨x95, rfl, ix95⟩ := th_V.int hv94
      have kx95a : q119 28 ≤ x95.toInt := ix95.1
      have kx95b : x95.toInt ≤ q119 28 := ix95.2
      have bx95 := qkm_28 hq119
      have ix95 : IV x95 0 1601 := iv_w ix95 (qkm_28 hq119)
      refine th_callVp (n := 1) (As := [.int x95]) S hK hH hS (th_A.sub (by decide)) (m_X11_sign l D cT T q119 hT hq119 a0 t0 (x95) ix95) gm_1449 gm_1446 gm_1448 gm_48 gm_124 (by decide +kernel) ⟨rfl, rfl, Nat.le_of_ble_eq_true rfl, Nat.le_of_ble_eq_true rfl⟩ t0 km_0 rfl rfl hl.1 rfl (Nat.le_of_ble_eq_true rfl) dX11_goOn_124 ⟨Nat.zero_le _, Nat.zero_le _⟩ (fun x96 H locs ix96 ox96 hH hS hF1 => ?_)
      have ox96 : x96.toInt = sg q119 x95.toInt := ox96
      have l1x96 := ix96.1; have l2x96 := ix96.2
      refine th_callSp (n := 1) (As := [.int x96]) S hK hH hS (th_A.sub (by decide)) (m_X11_isLetter l D cT T q119 hT hq119 (x96) (iv_top _)) gm_1452 gm_1450 gm_1451 gm_124 (by decide +kernel) ⟨rfl, rfl, Nat.le_of_ble_eq_true rfl, Nat.le_of_ble_eq_true rfl⟩ rfl hl.1 rfl (Nat.le_of_ble_eq_true rfl) dX11_goOn_127 ⟨Nat.zero_le _, Nat.zero_le _⟩ (fun x97 H locs ix97 ox97 hH hS hF1 => ?_)
      obtain ⟨ox97_0, ox97_1⟩ := ox97
      have ox97_0 : x97.toInt ≠ 0 → 97 ≤ x96.toInt ∧ x96.toInt ≤ 122 := ox97_0
      have ox97_1 : x97.toInt = 0 → x96.toInt < 97 ∨ 122 < x96.toInt := ox97_1
      have l1x97 := ix97.1; have l2x97 := ix97.2
      refine lv_if_eq (tgt := 146) hx hb dX11_goOn_130 (by decide) (fun c98 => ?_) (fun c98 => ?_)
      · skip
        have rlc98 : x97.toInt = (0 : Int) := congrArg Int32.toInt c98
        have ir99 : IV x97 0 0 := iv_eL c98 (iv_c (by decide) : IV 0 0 0)
        have ir99a := ir99.1; have ir99b := ir99.2
        have hz : x96.toInt = sg q (q119 28) := sg_at ox96 h0119 (by decide) (by decide) (by decide) (by omega)
        have hnl : sg q (q119 28) < 97 ∨ 122 < sg q (q119 28) := by omega
        refine lv_aload_n hx hb dX11_goOn_146 rfl (lv_at hl 0 rfl) ?_
        refine lv_lconst (v := 0) hx hb dX11_goOn_147 (by decide) ?_
        obtain ⟨n101, en101⟩ : ∃ z : Int, z = Int64.toInt 0 := ⟨_, rfl⟩
        have fn101 : n101 = 0 := by rw [en101]; rfl
        refine mput_name S hK hH hS ⟨0, by decide, t0⟩ hT t0 en101 gm_1240 dX11_goOn_148 (fun q100 H locs eq100 hH hS hq1 => ?_)
        have hqq100 : qkm q100 := by rw [eq100]; exact qum_ok31 hq119 (by rw [en101]; exact l64 _)
        have h0q100 : fr [27, 28, 29, 31] q q100 := by rw [eq100]; exact fr_up h0119 (by decide)
        have wq100_26 : q100 26 = q119 26 := by rw [eq100]; rfl
        have wq100_27 : q100 27 = q119 27 := by rw [eq100]; rfl
        have wq100_28 : q100 28 = q119 28 := by rw [eq100]; rfl
        have wq100_29 : q100 29 = q119 29 := by rw [eq100]; rfl
        have wq100_31 : q100 31 = n101 := by rw [eq100]; rfl
        refine lv_aload_n hx hb dX11_goOn_151 rfl (lv_at hl 0 rfl) ?_
        refine th_get S hK hH inG11 t0 km_0 rfl 6 (by decide) gm_1236 rfl rfl dX11_goOn_152 (fun v102 hv102 fv102 => ?_)
        obtain ⟨x103, rfl, ix103⟩ := th_V.int hv102
        have kx103a : q100 27 ≤ x103.toInt := ix103.1
        have kx103b : x103.toInt ≤ q100 27 := ix103.2
        have bx103 := qkm_27 hqq100
        have ix103 : IV x103 0 1600 := iv_w ix103 (qkm_27 hqq100)
        refine lv_istore_n (lv' := [(2, .int x103), (0, .ref a0)]) hx hb dX11_goOn_155 rfl hl (by decide) rfl (fun ls hl => ?_)
        exact J156 ((1601 + 1 - Int32.toInt x103).toNat + 1) q100 H locs ls x103 hqq100 h0q100 (iv_w ix103 (by decide)) (show q100 27 < q100 28 ∧ q100 28 ≤ q100 26 ∧ q 28 ≤ q100 27 by omega) (show 97 ≤ sg q (q100 27) ∧ sg q (q100 27) ≤ 122 by first | assumption | (rw [wq100_27]; assumption) | (rw [wq100_27, ← hc]; exact ⟨by omega, by omega⟩)) (show sg q (q100 28) < 97 ∨ 122 < sg q (q100 28) by first | assumption | (rw [wq100_28]; assumption)) (show q100 27 ≤ x103.toInt ∧ x103.toInt ≤ q100 28 by omega) (show (x103.toInt = q100 27 → q100 31 = 0) ∧ (x103.toInt = q100 27 + 1 → 0 ≤ q100 31 ∧ q100 31 < 256) ∧ (x103.toInt = q100 27 + 2 → 0 ≤ q100 31 ∧ q100 31 < 65536) by omega) hH hS (lv_sub hl [1, 0] rfl) (Nat.lt_succ_self _)
      · skip
        have rlc98 : x97.toInt ≠ (0 : Int) := iv_ne c98
        have ir104 : IV x97 1 1 := iv_cutL ix97 (iv_c (by decide) : IV 0 0 0) c98 (by decide)
        have ir104a := ir104.1; have ir104b := ir104.2
        have hlt := sg_lt ox96 (by omega)
        refine lv_aload_n hx hb dX11_goOn_133 rfl (lv_at hl 0 rfl) ?_
        refine lv_dup hx hb dX11_goOn_134 rfl ?_
        refine th_get S hK hH inG11 t0 km_0 rfl 7 (by decide) gm_1237 rfl rfl dX11_goOn_135 (fun v105 hv105 fv105 => ?_)
        obtain ⟨x106, rfl, ix106⟩ := th_V.int hv105
        have kx106a : q119 28 ≤ x106.toInt := ix106.1
        have kx106b : x106.toInt ≤ q119 28 := ix106.2
        have bx106 := qkm_28 hq119
        have ix106 : IV x106 0 1601 := iv_w ix106 (qkm_28 hq119)
        refine lv_iconst (v := 1) hx hb dX11_goOn_138 (by decide) ?_
        refine lv_iadd hx hb dX11_goOn_139 ?_
        refine lv_topi (fun x107 ex107 => ?_)
        have ix107 : IV x107 1 1602 := by rw [ex107]; exact iv_add ix106 (iv_c (by decide) : IV 1 1 1) (by decide)
        have ux107 : x107.toInt = x106.toInt + (1 : Int) := by rw [ex107]; exact iv_addE (by have z1 := (ix106).1; have z2 := (ix106).2; have z3 := ((iv_c (by decide) : IV 1 1 1)).1; have z4 := ((iv_c (by decide) : IV 1 1 1)).2; omega)
        obtain ⟨n109, en109⟩ : ∃ z : Int, z = Int32.toInt x107 := ⟨_, rfl⟩
        refine mput_28 S hK hH hS ⟨0, by decide, t0⟩ hT t0 en109 gm_1237 dX11_goOn_140 (fun q108 H locs eq108 hH hS hq1 => ?_)
        have hqq108 : qkm q108 := by rw [eq108]; exact qum_ok28 hq119 (by have z1 := (ix107).1; have z2 := (ix107).2; exact ⟨by omega, by omega⟩)
        have h0q108 : fr [27, 28, 29, 31] q q108 := by rw [eq108]; exact fr_up h0119 (by decide)
        have wq108_26 : q108 26 = q119 26 := by rw [eq108]; rfl
        have wq108_27 : q108 27 = q119 27 := by rw [eq108]; rfl
        have wq108_28 : q108 28 = n109 := by rw [eq108]; rfl
        have wq108_29 : q108 29 = q119 29 := by rw [eq108]; rfl
        have wq108_31 : q108 31 = q119 31 := by rw [eq108]; rfl
        refine lv_goto (tgt := 119) hx hb dX11_goOn_143 (by decide) ?_
        exact ih119 q108 H locs ls hqq108 h0q108 (show q108 27 < q108 28 ∧ q108 28 ≤ q108 26 ∧ q 28 ≤ q108 27 by omega) (show 97 ≤ sg q (q108 27) ∧ sg q (q108 27) ≤ 122 by first | assumption | (rw [wq108_27]; assumption) | (rw [wq108_27, ← hc]; exact ⟨by omega, by omega⟩)) hH hS (lv_sub hl [0] rfl) (show (q108 26 - q108 28).toNat < n by omega)
  have J58 : ∀ (q58 : Nat → Int) (H : Heap) (locs : List Loc) (ls : Array Slot), qkm q58 → fr [27, 28, 29, 31] q q58 → (q58 28 = q 28 ∧ q 28 ≤ q58 27 ∧ q58 27 ≤ q58 26) → th_H D cT T (km q58) H → va_S (th_A T [0]) s.heap H locs → lv_has ls 3 [(0, .ref a0)] → W p l e (rmk 1 22) s m [.ref a0].toArray below meth c H locs 0 0 (MQ below (th_QM D cT T (fun v q2 => v = none ∧ qkm q2 ∧ fr [27, 28, 29, 31] q q2 ∧ ((q2 29 = 0 ∧ q2 27 = q2 26 ∧ q2 28 = q2 26) ∨ (1 ≤ q2 29 ∧ q2 27 < q2 28 ∧ q2 28 ≤ q2 26)) ∧ (q2 29 = 3 → sg q2 (q2 28) < 97 ∨ 122 < sg q2 (q2 28)) ∧ (q2 29 = 3 → q2 31 = 7237492 → q2 27 + 3 ≤ q2 28) ∧ (q 28 ≤ q2 27) ∧ (q2 29 = 3 → 97 ≤ sg q (q2 27) ∧ sg q (q2 27) ≤ 122)) [0]) [.ref a0].toArray s 0 0 (th_A T [0])) (F0 m 58 ls []) := by
    intro q58 H locs ls hq58 h058 v58_inv0 hH hS hl
    have w58_26 : q58 26 = q 26 := h058 26 (by decide) (Or.inl (by decide))
    refine lv_aload_n hx hb dX11_goOn_58 rfl (lv_at hl 0 rfl) ?_
    refine lv_aload_n hx hb dX11_goOn_59 rfl (lv_at hl 0 rfl) ?_
    refine th_get S hK hH inG11 t0 km_0 rfl 6 (by decide) gm_1236 rfl rfl dX11_goOn_60 (fun v110 hv110 fv110 => ?_)
    obtain ⟨x111, rfl, ix111⟩ := th_V.int hv110
    have kx111a : q58 27 ≤ x111.toInt := ix111.1
    have kx111b : x111.toInt ≤ q58 27 := ix111.2
    have bx111 := qkm_27 hq58
    have ix111 : IV x111 0 1600 := iv_w ix111 (qkm_27 hq58)
    refine th_callVp (n := 1) (As := [.int x111]) S hK hH hS (th_A.sub (by decide)) (m_X11_sign l D cT T q58 hT hq58 a0 t0 (x111) (iv_w ix111 (by decide))) gm_1449 gm_1446 gm_1448 gm_48 gm_124 (by decide +kernel) ⟨rfl, rfl, Nat.le_of_ble_eq_true rfl, Nat.le_of_ble_eq_true rfl⟩ t0 km_0 rfl rfl hl.1 rfl (Nat.le_of_ble_eq_true rfl) dX11_goOn_63 ⟨Nat.zero_le _, Nat.zero_le _⟩ (fun x112 H locs ix112 ox112 hH hS hF1 => ?_)
    have ox112 : x112.toInt = sg q58 x111.toInt := ox112
    have l1x112 := ix112.1; have l2x112 := ix112.2
    have hc : x112.toInt = sg q (q58 27) := sg_at ox112 h058 (by decide) (by decide) (by decide) (by omega)
    refine lv_istore_n (lv' := [(1, .int x112), (0, .ref a0)]) hx hb dX11_goOn_66 rfl hl (by decide) rfl (fun ls hl => ?_)
    refine lv_aload_n hx hb dX11_goOn_67 rfl (lv_at hl 1 rfl) ?_
    refine lv_aload_n hx hb dX11_goOn_68 rfl (lv_at hl 1 rfl) ?_
    refine th_get S hK hH inG11 t0 km_0 rfl 6 (by decide) gm_1236 rfl rfl dX11_goOn_69 (fun v113 hv113 fv113 => ?_)
    obtain ⟨x114, rfl, ix114⟩ := th_V.int hv113
    have kx114a : q58 27 ≤ x114.toInt := ix114.1
    have kx114b : x114.toInt ≤ q58 27 := ix114.2
    have bx114 := qkm_27 hq58
    have ix114 : IV x114 0 1600 := iv_w ix114 (qkm_27 hq58)
    refine lv_iconst (v := 1) hx hb dX11_goOn_72 (by decide) ?_
    refine lv_iadd hx hb dX11_goOn_73 ?_
    refine lv_topi (fun x115 ex115 => ?_)
    have ix115 : IV x115 1 1601 := by rw [ex115]; exact iv_add ix114 (iv_c (by decide) : IV 1 1 1) (by decide)
    have ux115 : x115.toInt = x114.toInt + (1 : Int) := by rw [ex115]; exact iv_addE (by have z1 := (ix114).1; have z2 := (ix114).2; have z3 := ((iv_c (by decide) : IV 1 1 1)).1; have z4 := ((iv_c (by decide) : IV 1 1 1)).2; omega)
    obtain ⟨n117, en117⟩ : ∃ z : Int, z = Int32.toInt x115 := ⟨_, rfl⟩
    refine mput_28 S hK hH hS ⟨0, by decide, t0⟩ hT t0 en117 gm_1237 dX11_goOn_74 (fun q116 H locs eq116 hH hS hq1 => ?_)
    have hqq116 : qkm q116 := by rw [eq116]; exact qum_ok28 hq58 (iv_z en117 (iv_w ix115 (by decide)))
    have h0q116 : fr [27, 28, 29, 31] q q116 := by rw [eq116]; exact fr_up h058 (by decide)
    have wq116_26 : q116 26 = q58 26 := by rw [eq116]; rfl
    have wq116_27 : q116 27 = q58 27 := by rw [eq116]; rfl
    have wq116_28 : q116 28 = n117 := by rw [eq116]; rfl
    have wq116_29 : q116 29 = q58 29 := by rw [eq116]; rfl
    have wq116_31 : q116 31 = q58 31 := by rw [eq116]; rfl
    refine lv_aload_n hx hb dX11_goOn_77 rfl (lv_at hl 1 rfl) ?_
    refine th_get S hK hH inG11 t0 km_0 rfl 6 (by decide) gm_1236 rfl rfl dX11_goOn_78 (fun v118 hv118 fv118 => ?_)
    obtain ⟨x119, rfl, ix119⟩ := th_V.int hv118
    have kx119a : q116 27 ≤ x119.toInt := ix119.1
    have kx119b : x119.toInt ≤ q116 27 := ix119.2
    have bx119 := qkm_27 hqq116
    have ix119 : IV x119 0 1600 := iv_w ix119 (qkm_27 hqq116)
    refine lv_aload_n hx hb dX11_goOn_81 rfl (lv_at hl 1 rfl) ?_
    refine th_get S hK hH inG11 t0 km_0 rfl 3 (by decide) gm_1233 rfl rfl dX11_goOn_82 (fun v120 hv120 fv120 => ?_)
    obtain ⟨x121, rfl, ix121⟩ := th_V.int hv120
    have kx121a : q116 26 ≤ x121.toInt := ix121.1
    have kx121b : x121.toInt ≤ q116 26 := ix121.2
    have bx121 := qkm_26 hqq116
    have ix121 : IV x121 0 1600 := iv_w ix121 (qkm_26 hqq116)
    refine lv_icmp_lt (tgt := 112) hx hb dX11_goOn_85 (by decide) (fun c122 => ?_) (fun c122 => ?_)
    · skip
      have rlc122 : x119.toInt < x121.toInt := iv_lt c122
      have ir123 : IV x119 0 1599 := iv_uL ix119 ix121 (iv_lt c122) (by decide)
      have ir123a := ir123.1; have ir123b := ir123.2
      have ir124 : IV x121 1 1600 := iv_uR ix119 ix121 (iv_lt c122) (by decide)
      have ir124a := ir124.1; have ir124b := ir124.2
      refine lv_iload_n hx hb dX11_goOn_112 rfl (lv_at hl 0 rfl) ?_
      refine th_callSp (n := 1) (As := [.int x112]) S hK hH hS (th_A.sub (by decide)) (m_X11_isLetter l D cT T q116 hT hqq116 (x112) (iv_top _)) gm_1452 gm_1450 gm_1451 gm_124 (by decide +kernel) ⟨rfl, rfl, Nat.le_of_ble_eq_true rfl, Nat.le_of_ble_eq_true rfl⟩ rfl hl.1 rfl (Nat.le_of_ble_eq_true rfl) dX11_goOn_113 ⟨Nat.zero_le _, Nat.zero_le _⟩ (fun x125 H locs ix125 ox125 hH hS hF1 => ?_)
      obtain ⟨ox125_0, ox125_1⟩ := ox125
      have ox125_0 : x125.toInt ≠ 0 → 97 ≤ x112.toInt ∧ x112.toInt ≤ 122 := ox125_0
      have ox125_1 : x125.toInt = 0 → x112.toInt < 97 ∨ 122 < x112.toInt := ox125_1
      have l1x125 := ix125.1; have l2x125 := ix125.2
      refine lv_if_eq (tgt := 239) hx hb dX11_goOn_116 (by decide) (fun c126 => ?_) (fun c126 => ?_)
      · skip
        have rlc126 : x125.toInt = (0 : Int) := congrArg Int32.toInt c126
        have ir127 : IV x125 0 0 := iv_eL c126 (iv_c (by decide) : IV 0 0 0)
        have ir127a := ir127.1; have ir127b := ir127.2
        refine lv_iload_n hx hb dX11_goOn_239 rfl (lv_at hl 0 rfl) ?_
        refine th_callSp (n := 1) (As := [.int x112]) S hK hH hS (th_A.sub (by decide)) (m_X11_isDigit l D cT T q116 hT hqq116 (x112) (iv_top _)) gm_1480 gm_1478 gm_1479 gm_124 (by decide +kernel) ⟨rfl, rfl, Nat.le_of_ble_eq_true rfl, Nat.le_of_ble_eq_true rfl⟩ rfl hl.1 rfl (Nat.le_of_ble_eq_true rfl) dX11_goOn_240 ⟨Nat.zero_le _, Nat.zero_le _⟩ (fun x128 H locs ix128 ox128 hH hS hF1 => ?_)
        obtain ⟨ox128_0, ox128_1⟩ := ox128
        have ox128_0 : x128.toInt ≠ 0 → 48 ≤ x112.toInt ∧ x112.toInt ≤ 57 := ox128_0
        have ox128_1 : x128.toInt = 0 → x112.toInt < 48 ∨ 57 < x112.toInt := ox128_1
        have l1x128 := ix128.1; have l2x128 := ix128.2
        refine lv_if_eq (tgt := 361) hx hb dX11_goOn_243 (by decide) (fun c129 => ?_) (fun c129 => ?_)
        · skip
          have rlc129 : x128.toInt = (0 : Int) := congrArg Int32.toInt c129
          have ir130 : IV x128 0 0 := iv_eL c129 (iv_c (by decide) : IV 0 0 0)
          have ir130a := ir130.1; have ir130b := ir130.2
          refine lv_aload_n hx hb dX11_goOn_361 rfl (lv_at hl 1 rfl) ?_
          refine lv_iload_n hx hb dX11_goOn_362 rfl (lv_at hl 0 rfl) ?_
          refine th_callSi (n := 1) (As := [.int x112]) S hK hH hS (th_A.sub (by decide)) (m_X11_isSign l D cT T q116 hT hqq116 (x112) (iv_top _)) gm_1483 gm_1481 gm_1482 gm_124 (by decide +kernel) ⟨rfl, rfl, Nat.le_of_ble_eq_true rfl, Nat.le_of_ble_eq_true rfl⟩ rfl hl.1 rfl (Nat.le_of_ble_eq_true rfl) dX11_goOn_363 ⟨Nat.zero_le _, Nat.zero_le _⟩ (fun x131 H locs ix131 hH hS hF1 => ?_)
          have l1x131 := ix131.1; have l2x131 := ix131.2
          refine lv_if_eq (tgt := 373) hx hb dX11_goOn_366 (by decide) (fun c132 => ?_) (fun c132 => ?_)
          · skip
            have rlc132 : x131.toInt = (0 : Int) := congrArg Int32.toInt c132
            have ir133 : IV x131 0 0 := iv_eL c132 (iv_c (by decide) : IV 0 0 0)
            have ir133a := ir133.1; have ir133b := ir133.2
            refine lv_iconst (v := 1) hx hb dX11_goOn_373 (by decide) ?_
            exact J374_s1_1 q116 H locs ls hqq116 h0q116 (show q116 27 < q116 28 ∧ q116 28 ≤ q116 26 ∧ q 28 ≤ q116 27 by omega) hH hS (lv_sub hl [] rfl)
          · skip
            have rlc132 : x131.toInt ≠ (0 : Int) := iv_ne c132
            have ir134 : IV x131 1 1 := iv_cutL ix131 (iv_c (by decide) : IV 0 0 0) c132 (by decide)
            have ir134a := ir134.1; have ir134b := ir134.2
            refine lv_iconst (v := 5) hx hb dX11_goOn_369 (by decide) ?_
            refine lv_goto (tgt := 374) hx hb dX11_goOn_370 (by decide) ?_
            exact J374_s1_5 q116 H locs ls hqq116 h0q116 (show q116 27 < q116 28 ∧ q116 28 ≤ q116 26 ∧ q 28 ≤ q116 27 by omega) hH hS (lv_sub hl [] rfl)
        · skip
          have rlc129 : x128.toInt ≠ (0 : Int) := iv_ne c129
          have ir135 : IV x128 1 1 := iv_cutL ix128 (iv_c (by decide) : IV 0 0 0) c129 (by decide)
          have ir135a := ir135.1; have ir135b := ir135.2
          have hc2 : x112.toInt = sg q (q116 27) := by rw [wq116_27]; exact hc
          refine lv_aload_n hx hb dX11_goOn_246 rfl (lv_at hl 1 rfl) ?_
          refine lv_iconst (v := 0) hx hb dX11_goOn_247 (by decide) ?_
          refine th_put S hK hH hS ⟨0, by decide, t0⟩ inG11 tyX11 tyX11_ok nmX11 t0 km_0 rfl 9 (by decide) gm_1239 rfl rfl rfl rfl (th_iv (iv_top _)) (fun vs h => nmR_set h.2.2 (by decide) rfl) (ty := .int) (by decide +kernel) rfl rfl dX11_goOn_248 (fun H locs hH hS hq1 hp1 => ?_)
          have f136 := hp1.1
          refine lv_aload_n hx hb dX11_goOn_251 rfl (lv_at hl 1 rfl) ?_
          refine lv_aload_n hx hb dX11_goOn_252 rfl (lv_at hl 1 rfl) ?_
          refine th_get S hK hH inG11 t0 km_0 rfl 6 (by decide) gm_1236 rfl rfl dX11_goOn_253 (fun v137 hv137 fv137 => ?_)
          obtain ⟨x138, rfl, ix138⟩ := th_V.int hv137
          have kx138a : q116 27 ≤ x138.toInt := ix138.1
          have kx138b : x138.toInt ≤ q116 27 := ix138.2
          have bx138 := qkm_27 hqq116
          have ix138 : IV x138 0 1600 := iv_w ix138 (qkm_27 hqq116)
          obtain ⟨n140, en140⟩ : ∃ z : Int, z = Int32.toInt x138 := ⟨_, rfl⟩
          refine mput_28 S hK hH hS ⟨0, by decide, t0⟩ hT t0 en140 gm_1237 dX11_goOn_256 (fun q139 H locs eq139 hH hS hq1 => ?_)
          have hqq139 : qkm q139 := by rw [eq139]; exact qum_ok28 hqq116 (iv_z en140 (iv_w ix138 (by decide)))
          have h0q139 : fr [27, 28, 29, 31] q q139 := by rw [eq139]; exact fr_up h0q116 (by decide)
          have wq139_26 : q139 26 = q116 26 := by rw [eq139]; rfl
          have wq139_27 : q139 27 = q116 27 := by rw [eq139]; rfl
          have wq139_28 : q139 28 = n140 := by rw [eq139]; rfl
          have wq139_29 : q139 29 = q116 29 := by rw [eq139]; rfl
          have wq139_31 : q139 31 = q116 31 := by rw [eq139]; rfl
          exact J259 ((q139 26 - q139 28).toNat + 1) q139 H locs ls hqq139 h0q139 (show q 28 ≤ q139 27 ∧ q139 27 ≤ q139 28 ∧ q139 28 ≤ q139 26 ∧ q139 27 < q139 26 by omega) (show q139 28 = q139 27 → 48 ≤ sg q (q139 27) ∧ sg q (q139 27) ≤ 57 by first | (intro z; exact absurd z (by omega)) | (intro _; rw [wq139_27, ← hc2]; exact ⟨by omega, by omega⟩)) hH hS (lv_sub hl [1] rfl) (Nat.lt_succ_self _)
      · skip
        have rlc126 : x125.toInt ≠ (0 : Int) := iv_ne c126
        have ir141 : IV x125 1 1 := iv_cutL ix125 (iv_c (by decide) : IV 0 0 0) c126 (by decide)
        have ir141a := ir141.1; have ir141b := ir141.2
        exact J119 ((q116 26 - q116 28).toNat + 1) q116 H locs ls hqq116 h0q116 (show q116 27 < q116 28 ∧ q116 28 ≤ q116 26 ∧ q 28 ≤ q116 27 by omega) (show 97 ≤ sg q (q116 27) ∧ sg q (q116 27) ≤ 122 by first | assumption | (rw [wq116_27]; assumption) | (rw [wq116_27, ← hc]; exact ⟨by omega, by omega⟩)) hH hS (lv_sub hl [1] rfl) (Nat.lt_succ_self _)
    · skip
      have rlc122 : x121.toInt ≤ x119.toInt := iv_nlt c122
      refine lv_aload_n hx hb dX11_goOn_88 rfl (lv_at hl 1 rfl) ?_
      refine lv_iconst (v := 0) hx hb dX11_goOn_89 (by decide) ?_
      obtain ⟨n143, en143⟩ : ∃ z : Int, z = Int32.toInt 0 := ⟨_, rfl⟩
      have fn143 : n143 = 0 := by rw [en143]; rfl
      refine mput_29 S hK hH hS ⟨0, by decide, t0⟩ hT t0 en143 gm_1238 dX11_goOn_90 (fun q142 H locs eq142 hH hS hq1 => ?_)
      have hqq142 : qkm q142 := by rw [eq142]; exact qum_ok29 hqq116 (iv_z en143 (iv_w (iv_c (by decide) : IV 0 0 0) (by decide)))
      have h0q142 : fr [27, 28, 29, 31] q q142 := by rw [eq142]; exact fr_up h0q116 (by decide)
      have wq142_26 : q142 26 = q116 26 := by rw [eq142]; rfl
      have wq142_27 : q142 27 = q116 27 := by rw [eq142]; rfl
      have wq142_28 : q142 28 = q116 28 := by rw [eq142]; rfl
      have wq142_29 : q142 29 = n143 := by rw [eq142]; rfl
      have wq142_31 : q142 31 = q116 31 := by rw [eq142]; rfl
      refine lv_aload_n hx hb dX11_goOn_93 rfl (lv_at hl 1 rfl) ?_
      refine lv_aload_n hx hb dX11_goOn_94 rfl (lv_at hl 1 rfl) ?_
      refine th_get S hK hH inG11 t0 km_0 rfl 3 (by decide) gm_1233 rfl rfl dX11_goOn_95 (fun v144 hv144 fv144 => ?_)
      obtain ⟨x145, rfl, ix145⟩ := th_V.int hv144
      have kx145a : q142 26 ≤ x145.toInt := ix145.1
      have kx145b : x145.toInt ≤ q142 26 := ix145.2
      have bx145 := qkm_26 hqq142
      have ix145 : IV x145 0 1600 := iv_w ix145 (qkm_26 hqq142)
      obtain ⟨n147, en147⟩ : ∃ z : Int, z = Int32.toInt x145 := ⟨_, rfl⟩
      refine mput_27 S hK hH hS ⟨0, by decide, t0⟩ hT t0 en147 gm_1236 dX11_goOn_98 (fun q146 H locs eq146 hH hS hq1 => ?_)
      have hqq146 : qkm q146 := by rw [eq146]; exact qum_ok27 hqq142 (iv_z en147 ix145)
      have h0q146 : fr [27, 28, 29, 31] q q146 := by rw [eq146]; exact fr_up h0q142 (by decide)
      have wq146_26 : q146 26 = q142 26 := by rw [eq146]; rfl
      have wq146_27 : q146 27 = n147 := by rw [eq146]; rfl
      have wq146_28 : q146 28 = q142 28 := by rw [eq146]; rfl
      have wq146_29 : q146 29 = q142 29 := by rw [eq146]; rfl
      have wq146_31 : q146 31 = q142 31 := by rw [eq146]; rfl
      refine lv_aload_n hx hb dX11_goOn_101 rfl (lv_at hl 1 rfl) ?_
      refine lv_aload_n hx hb dX11_goOn_102 rfl (lv_at hl 1 rfl) ?_
      refine th_get S hK hH inG11 t0 km_0 rfl 3 (by decide) gm_1233 rfl rfl dX11_goOn_103 (fun v148 hv148 fv148 => ?_)
      obtain ⟨x149, rfl, ix149⟩ := th_V.int hv148
      have kx149a : q146 26 ≤ x149.toInt := ix149.1
      have kx149b : x149.toInt ≤ q146 26 := ix149.2
      have bx149 := qkm_26 hqq146
      have ix149 : IV x149 0 1600 := iv_w ix149 (qkm_26 hqq146)
      obtain ⟨n151, en151⟩ : ∃ z : Int, z = Int32.toInt x149 := ⟨_, rfl⟩
      refine mput_28 S hK hH hS ⟨0, by decide, t0⟩ hT t0 en151 gm_1237 dX11_goOn_106 (fun q150 H locs eq150 hH hS hq1 => ?_)
      have hqq150 : qkm q150 := by rw [eq150]; exact qum_ok28 hqq146 (iv_z en151 (iv_w ix149 (by decide)))
      have h0q150 : fr [27, 28, 29, 31] q q150 := by rw [eq150]; exact fr_up h0q146 (by decide)
      have wq150_26 : q150 26 = q146 26 := by rw [eq150]; rfl
      have wq150_27 : q150 27 = q146 27 := by rw [eq150]; rfl
      have wq150_28 : q150 28 = n151 := by rw [eq150]; rfl
      have wq150_29 : q150 29 = q146 29 := by rw [eq150]; rfl
      have wq150_31 : q150 31 = q146 31 := by rw [eq150]; rfl
      refine lv_goto (tgt := 377) hx hb dX11_goOn_109 (by decide) ?_
      exact J377 q150 H locs ls hqq150 h0q150 (show (q150 29 = 0 ∧ q150 27 = q150 26 ∧ q150 28 = q150 26) ∨ (1 ≤ q150 29 ∧ q150 27 < q150 28 ∧ q150 28 ≤ q150 26) by omega) (show q150 29 = 3 → sg q (q150 28) < 97 ∨ 122 < sg q (q150 28) by first | (intro z; exact absurd z (by omega)) | (intro _; rw [wq150_28]; assumption)) (show q150 29 = 3 → q150 31 = 7237492 → q150 27 + 3 ≤ q150 28 by omega) (show q 28 ≤ q150 27 by omega) (show q150 29 = 3 → 97 ≤ sg q (q150 27) ∧ sg q (q150 27) ≤ 122 by first | (intro z; exact absurd z (by omega)) | (intro _; rw [wq150_27]; assumption)) hH hS (lv_sub hl [] rfl)
  have J8 : ∀ (n : Nat) (q8 : Nat → Int) (H : Heap) (locs : List Loc) (ls : Array Slot), qkm q8 → fr [27, 28, 29, 31] q q8 → (q8 28 = q 28 ∧ q 28 ≤ q8 27 ∧ q8 27 ≤ q8 26) → th_H D cT T (km q8) H → va_S (th_A T [0]) s.heap H locs → lv_has ls 3 [(0, .ref a0)] → (q8 26 - q8 27).toNat < n → W p l e (rmk 1 22) s m [.ref a0].toArray below meth c H locs 0 0 (MQ below (th_QM D cT T (fun v q2 => v = none ∧ qkm q2 ∧ fr [27, 28, 29, 31] q q2 ∧ ((q2 29 = 0 ∧ q2 27 = q2 26 ∧ q2 28 = q2 26) ∨ (1 ≤ q2 29 ∧ q2 27 < q2 28 ∧ q2 28 ≤ q2 26)) ∧ (q2 29 = 3 → sg q2 (q2 28) < 97 ∨ 122 < sg q2 (q2 28)) ∧ (q2 29 = 3 → q2 31 = 7237492 → q2 27 + 3 ≤ q2 28) ∧ (q 28 ≤ q2 27) ∧ (q2 29 = 3 → 97 ≤ sg q (q2 27) ∧ sg q (q2 27) ≤ 122)) [0]) [.ref a0].toArray s 0 0 (th_A T [0])) (F0 m 8 ls []) := by
    intro n
    induction n with
    | zero => intro q8 H locs ls hq8 h08 v8_inv0 hH hS hl hn; exact absurd hn (Nat.not_lt_zero _)
    | succ n ih8 =>
      intro q8 H locs ls hq8 h08 v8_inv0 hH hS hl hn8
      have w8_26 : q8 26 = q 26 := h08 26 (by decide) (Or.inl (by decide))
      have J45 : ∀ (H : Heap) (locs : List Loc) (ls : Array Slot), (q8 28 = q 28 ∧ q 28 ≤ q8 27 ∧ q8 27 ≤ q8 26) → (q8 27 < q8 26) → th_H D cT T (km q8) H → va_S (th_A T [0]) s.heap H locs → lv_has ls 3 [(0, .ref a0)] → W p l e (rmk 1 22) s m [.ref a0].toArray below meth c H locs 0 0 (MQ below (th_QM D cT T (fun v q2 => v = none ∧ qkm q2 ∧ fr [27, 28, 29, 31] q q2 ∧ ((q2 29 = 0 ∧ q2 27 = q2 26 ∧ q2 28 = q2 26) ∨ (1 ≤ q2 29 ∧ q2 27 < q2 28 ∧ q2 28 ≤ q2 26)) ∧ (q2 29 = 3 → sg q2 (q2 28) < 97 ∨ 122 < sg q2 (q2 28)) ∧ (q2 29 = 3 → q2 31 = 7237492 → q2 27 + 3 ≤ q2 28) ∧ (q 28 ≤ q2 27) ∧ (q2 29 = 3 → 97 ≤ sg q (q2 27) ∧ sg q (q2 27) ≤ 122)) [0]) [.ref a0].toArray s 0 0 (th_A T [0])) (F0 m 45 ls []) := by
        intro H locs ls v45_inv0 v45_inv1 hH hS hl
        refine lv_aload_n hx hb dX11_goOn_45 rfl (lv_at hl 0 rfl) ?_
        refine lv_dup hx hb dX11_goOn_46 rfl ?_
        refine th_get S hK hH inG11 t0 km_0 rfl 6 (by decide) gm_1236 rfl rfl dX11_goOn_47 (fun v152 hv152 fv152 => ?_)
        obtain ⟨x153, rfl, ix153⟩ := th_V.int hv152
        have kx153a : q8 27 ≤ x153.toInt := ix153.1
        have kx153b : x153.toInt ≤ q8 27 := ix153.2
        have bx153 := qkm_27 hq8
        have ix153 : IV x153 0 1600 := iv_w ix153 (qkm_27 hq8)
        refine lv_iconst (v := 1) hx hb dX11_goOn_50 (by decide) ?_
        refine lv_iadd hx hb dX11_goOn_51 ?_
        refine lv_topi (fun x154 ex154 => ?_)
        have ix154 : IV x154 1 1601 := by rw [ex154]; exact iv_add ix153 (iv_c (by decide) : IV 1 1 1) (by decide)
        have ux154 : x154.toInt = x153.toInt + (1 : Int) := by rw [ex154]; exact iv_addE (by have z1 := (ix153).1; have z2 := (ix153).2; have z3 := ((iv_c (by decide) : IV 1 1 1)).1; have z4 := ((iv_c (by decide) : IV 1 1 1)).2; omega)
        obtain ⟨n156, en156⟩ : ∃ z : Int, z = Int32.toInt x154 := ⟨_, rfl⟩
        refine mput_27 S hK hH hS ⟨0, by decide, t0⟩ hT t0 en156 gm_1236 dX11_goOn_52 (fun q155 H locs eq155 hH hS hq1 => ?_)
        have hqq155 : qkm q155 := by rw [eq155]; exact qum_ok27 hq8 (by have z1 := (ix154).1; have z2 := (ix154).2; exact ⟨by omega, by omega⟩)
        have h0q155 : fr [27, 28, 29, 31] q q155 := by rw [eq155]; exact fr_up h08 (by decide)
        have wq155_26 : q155 26 = q8 26 := by rw [eq155]; rfl
        have wq155_27 : q155 27 = n156 := by rw [eq155]; rfl
        have wq155_28 : q155 28 = q8 28 := by rw [eq155]; rfl
        have wq155_29 : q155 29 = q8 29 := by rw [eq155]; rfl
        have wq155_31 : q155 31 = q8 31 := by rw [eq155]; rfl
        refine lv_goto (tgt := 8) hx hb dX11_goOn_55 (by decide) ?_
        exact ih8 q155 H locs ls hqq155 h0q155 (show q155 28 = q 28 ∧ q 28 ≤ q155 27 ∧ q155 27 ≤ q155 26 by omega) hH hS (lv_sub hl [0] rfl) (show (q155 26 - q155 27).toNat < n by omega)
      refine lv_aload_n hx hb dX11_goOn_8 rfl (lv_at hl 0 rfl) ?_
      refine th_get S hK hH inG11 t0 km_0 rfl 6 (by decide) gm_1236 rfl rfl dX11_goOn_9 (fun v157 hv157 fv157 => ?_)
      obtain ⟨x158, rfl, ix158⟩ := th_V.int hv157
      have kx158a : q8 27 ≤ x158.toInt := ix158.1
      have kx158b : x158.toInt ≤ q8 27 := ix158.2
      have bx158 := qkm_27 hq8
      have ix158 : IV x158 0 1600 := iv_w ix158 (qkm_27 hq8)
      refine lv_aload_n hx hb dX11_goOn_12 rfl (lv_at hl 0 rfl) ?_
      refine th_get S hK hH inG11 t0 km_0 rfl 3 (by decide) gm_1233 rfl rfl dX11_goOn_13 (fun v159 hv159 fv159 => ?_)
      obtain ⟨x160, rfl, ix160⟩ := th_V.int hv159
      have kx160a : q8 26 ≤ x160.toInt := ix160.1
      have kx160b : x160.toInt ≤ q8 26 := ix160.2
      have bx160 := qkm_26 hq8
      have ix160 : IV x160 0 1600 := iv_w ix160 (qkm_26 hq8)
      refine lv_icmp_ge (tgt := 58) hx hb dX11_goOn_16 (by decide) (fun c161 => ?_) (fun c161 => ?_)
      · skip
        have rlc161 : x160.toInt ≤ x158.toInt := iv_le c161
        exact J58 q8 H locs ls hq8 h08 (show q8 28 = q 28 ∧ q 28 ≤ q8 27 ∧ q8 27 ≤ q8 26 by omega) hH hS (lv_sub hl [0] rfl)
      · skip
        have rlc161 : x158.toInt < x160.toInt := iv_nle c161
        have ir162 : IV x158 0 1599 := iv_uL ix158 ix160 (iv_nle c161) (by decide)
        have ir162a := ir162.1; have ir162b := ir162.2
        have ir163 : IV x160 1 1600 := iv_uR ix158 ix160 (iv_nle c161) (by decide)
        have ir163a := ir163.1; have ir163b := ir163.2
        refine lv_aload_n hx hb dX11_goOn_19 rfl (lv_at hl 0 rfl) ?_
        refine lv_aload_n hx hb dX11_goOn_20 rfl (lv_at hl 0 rfl) ?_
        refine th_get S hK hH inG11 t0 km_0 rfl 6 (by decide) gm_1236 rfl rfl dX11_goOn_21 (fun v164 hv164 fv164 => ?_)
        obtain ⟨x165, rfl, ix165⟩ := th_V.int hv164
        have kx165a : q8 27 ≤ x165.toInt := ix165.1
        have kx165b : x165.toInt ≤ q8 27 := ix165.2
        have bx165 := qkm_27 hq8
        have ix165 : IV x165 0 1600 := iv_w ix165 (qkm_27 hq8)
        refine th_callVp (n := 1) (As := [.int x165]) S hK hH hS (th_A.sub (by decide)) (m_X11_sign l D cT T q8 hT hq8 a0 t0 (x165) (iv_w ix165 (by decide))) gm_1449 gm_1446 gm_1448 gm_48 gm_124 (by decide +kernel) ⟨rfl, rfl, Nat.le_of_ble_eq_true rfl, Nat.le_of_ble_eq_true rfl⟩ t0 km_0 rfl rfl hl.1 rfl (Nat.le_of_ble_eq_true rfl) dX11_goOn_24 ⟨Nat.zero_le _, Nat.zero_le _⟩ (fun x166 H locs ix166 ox166 hH hS hF1 => ?_)
        have ox166 : x166.toInt = sg q8 x165.toInt := ox166
        have l1x166 := ix166.1; have l2x166 := ix166.2
        refine lv_bipush (v := 32) hx hb dX11_goOn_27 (by decide) ?_
        refine lv_icmp_eq (tgt := 45) hx hb dX11_goOn_29 (by decide) (fun c167 => ?_) (fun c167 => ?_)
        · skip
          have rlc167 : x166.toInt = (32 : Int) := congrArg Int32.toInt c167
          have ir168 : IV x166 32 32 := iv_eL c167 (iv_c (by decide) : IV 32 32 32)
          have ir168a := ir168.1; have ir168b := ir168.2
          exact J45 H locs ls (show q8 28 = q 28 ∧ q 28 ≤ q8 27 ∧ q8 27 ≤ q8 26 by omega) (show q8 27 < q8 26 by omega) hH hS (lv_sub hl [0] rfl)
        · skip
          have rlc167 : x166.toInt ≠ (32 : Int) := iv_ne c167
          refine lv_aload_n hx hb dX11_goOn_32 rfl (lv_at hl 0 rfl) ?_
          refine lv_aload_n hx hb dX11_goOn_33 rfl (lv_at hl 0 rfl) ?_
          refine th_get S hK hH inG11 t0 km_0 rfl 6 (by decide) gm_1236 rfl rfl dX11_goOn_34 (fun v169 hv169 fv169 => ?_)
          obtain ⟨x170, rfl, ix170⟩ := th_V.int hv169
          have kx170a : q8 27 ≤ x170.toInt := ix170.1
          have kx170b : x170.toInt ≤ q8 27 := ix170.2
          have bx170 := qkm_27 hq8
          have ix170 : IV x170 0 1600 := iv_w ix170 (qkm_27 hq8)
          refine th_callVp (n := 1) (As := [.int x170]) S hK hH hS (th_A.sub (by decide)) (m_X11_sign l D cT T q8 hT hq8 a0 t0 (x170) (iv_w ix170 (by decide))) gm_1449 gm_1446 gm_1448 gm_48 gm_124 (by decide +kernel) ⟨rfl, rfl, Nat.le_of_ble_eq_true rfl, Nat.le_of_ble_eq_true rfl⟩ t0 km_0 rfl rfl hl.1 rfl (Nat.le_of_ble_eq_true rfl) dX11_goOn_37 ⟨Nat.zero_le _, Nat.zero_le _⟩ (fun x171 H locs ix171 ox171 hH hS hF1 => ?_)
          have ox171 : x171.toInt = sg q8 x170.toInt := ox171
          have l1x171 := ix171.1; have l2x171 := ix171.2
          refine lv_bipush (v := 10) hx hb dX11_goOn_40 (by decide) ?_
          refine lv_icmp_ne (tgt := 58) hx hb dX11_goOn_42 (by decide) (fun c172 => ?_) (fun c172 => ?_)
          · skip
            have rlc172 : x171.toInt ≠ (10 : Int) := iv_ne c172
            exact J58 q8 H locs ls hq8 h08 (show q8 28 = q 28 ∧ q 28 ≤ q8 27 ∧ q8 27 ≤ q8 26 by omega) hH hS (lv_sub hl [0] rfl)
          · skip
            have rlc172 : x171.toInt = (10 : Int) := congrArg Int32.toInt c172
            have ir173 : IV x171 10 10 := iv_eL c172 (iv_c (by decide) : IV 10 10 10)
            have ir173a := ir173.1; have ir173b := ir173.2
            exact J45 H locs ls (show q8 28 = q 28 ∧ q 28 ≤ q8 27 ∧ q8 27 ≤ q8 26 by omega) (show q8 27 < q8 26 by omega) hH hS (lv_sub hl [0] rfl)
  have J0 : ∀ (H : Heap) (locs : List Loc) (ls : Array Slot), th_H D cT T (km q) H → va_S (th_A T [0]) s.heap H locs → lv_has ls 3 [(0, .ref a0)] → W p l e (rmk 1 22) s m [.ref a0].toArray below meth c H locs 0 0 (MQ below (th_QM D cT T (fun v q2 => v = none ∧ qkm q2 ∧ fr [27, 28, 29, 31] q q2 ∧ ((q2 29 = 0 ∧ q2 27 = q2 26 ∧ q2 28 = q2 26) ∨ (1 ≤ q2 29 ∧ q2 27 < q2 28 ∧ q2 28 ≤ q2 26)) ∧ (q2 29 = 3 → sg q2 (q2 28) < 97 ∨ 122 < sg q2 (q2 28)) ∧ (q2 29 = 3 → q2 31 = 7237492 → q2 27 + 3 ≤ q2 28) ∧ (q 28 ≤ q2 27) ∧ (q2 29 = 3 → 97 ≤ sg q (q2 27) ∧ sg q (q2 27) ≤ 122)) [0]) [.ref a0].toArray s 0 0 (th_A T [0])) (F0 m 0 ls []) := by
    intro H locs ls hH hS hl
    refine lv_aload_n hx hb dX11_goOn_0 rfl (lv_at hl 0 rfl) ?_
    refine lv_aload_n hx hb dX11_goOn_1 rfl (lv_at hl 0 rfl) ?_
    refine th_get S hK hH inG11 t0 km_0 rfl 7 (by decide) gm_1237 rfl rfl dX11_goOn_2 (fun v174 hv174 fv174 => ?_)
    obtain ⟨x175, rfl, ix175⟩ := th_V.int hv174
    have kx175a : q 28 ≤ x175.toInt := ix175.1
    have kx175b : x175.toInt ≤ q 28 := ix175.2
    have bx175 := qkm_28 hq
    have ix175 : IV x175 0 1601 := iv_w ix175 (qkm_28 hq)
    obtain ⟨n177, en177⟩ : ∃ z : Int, z = Int32.toInt x175 := ⟨_, rfl⟩
    refine mput_27 S hK hH hS ⟨0, by decide, t0⟩ hT t0 en177 gm_1236 dX11_goOn_5 (fun q176 H locs eq176 hH hS hq1 => ?_)
    have hqq176 : qkm q176 := by rw [eq176]; exact qum_ok27 hq (by have z1 := (ix175).1; have z2 := (ix175).2; exact ⟨by omega, by omega⟩)
    have h0q176 : fr [27, 28, 29, 31] q q176 := by rw [eq176]; exact fr_up fr_rf (by decide)
    have wq176_26 : q176 26 = q 26 := by rw [eq176]; rfl
    have wq176_27 : q176 27 = n177 := by rw [eq176]; rfl
    have wq176_28 : q176 28 = q 28 := by rw [eq176]; rfl
    have wq176_29 : q176 29 = q 29 := by rw [eq176]; rfl
    have wq176_31 : q176 31 = q 31 := by rw [eq176]; rfl
    exact J8 ((q176 26 - q176 27).toNat + 1) q176 H locs ls hqq176 h0q176 (show q176 28 = q 28 ∧ q 28 ≤ q176 27 ∧ q176 27 ≤ q176 26 by omega) hH hS (lv_sub hl [0] rfl) (Nat.lt_succ_self _)
  exact J0 s.heap [] ls hH va_S.rf hl
