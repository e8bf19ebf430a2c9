theorem dX11_isSign_0 : decode cX11_isSign 0 = .ok (.iload_n 0, 1) := by decide +kernel
theorem dX11_isSign_1 : decode cX11_isSign 1 = .ok (.bipush 59, 2) := by decide +kernel
theorem dX11_isSign_3 : decode cX11_isSign 3 = .ok (.if_icmp .eq 63, 3) := by decide +kernel
theorem dX11_isSign_6 : decode cX11_isSign 6 = .ok (.iload_n 0, 1) := by decide +kernel
theorem dX11_isSign_7 : decode cX11_isSign 7 = .ok (.bipush 40, 2) := by decide +kernel
theorem dX11_isSign_9 : decode cX11_isSign 9 = .ok (.if_icmp .eq 57, 3) := by decide +kernel
theorem dX11_isSign_12 : decode cX11_isSign 12 = .ok (.iload_n 0, 1) := by decide +kernel
theorem dX11_isSign_13 : decode cX11_isSign 13 = .ok (.bipush 41, 2) := by decide +kernel
theorem dX11_isSign_15 : decode cX11_isSign 15 = .ok (.if_icmp .eq 51, 3) := by decide +kernel
theorem dX11_isSign_18 : decode cX11_isSign 18 = .ok (.iload_n 0, 1) := by decide +kernel
theorem dX11_isSign_19 : decode cX11_isSign 19 = .ok (.bipush 60, 2) := by decide +kernel
theorem dX11_isSign_21 : decode cX11_isSign 21 = .ok (.if_icmp .eq 45, 3) := by decide +kernel
theorem dX11_isSign_24 : decode cX11_isSign 24 = .ok (.iload_n 0, 1) := by decide +kernel
theorem dX11_isSign_25 : decode cX11_isSign 25 = .ok (.bipush 62, 2) := by decide +kernel
theorem dX11_isSign_27 : decode cX11_isSign 27 = .ok (.if_icmp .eq 39, 3) := by decide +kernel
theorem dX11_isSign_30 : decode cX11_isSign 30 = .ok (.iload_n 0, 1) := by decide +kernel
theorem dX11_isSign_31 : decode cX11_isSign 31 = .ok (.bipush 61, 2) := by decide +kernel
theorem dX11_isSign_33 : decode cX11_isSign 33 = .ok (.if_icmp .eq 33, 3) := by decide +kernel
theorem dX11_isSign_36 : decode cX11_isSign 36 = .ok (.iload_n 0, 1) := by decide +kernel
theorem dX11_isSign_37 : decode cX11_isSign 37 = .ok (.bipush 43, 2) := by decide +kernel
theorem dX11_isSign_39 : decode cX11_isSign 39 = .ok (.if_icmp .eq 27, 3) := by decide +kernel
theorem dX11_isSign_42 : decode cX11_isSign 42 = .ok (.iload_n 0, 1) := by decide +kernel
theorem dX11_isSign_43 : decode cX11_isSign 43 = .ok (.bipush 45, 2) := by decide +kernel
theorem dX11_isSign_45 : decode cX11_isSign 45 = .ok (.if_icmp .eq 21, 3) := by decide +kernel
theorem dX11_isSign_48 : decode cX11_isSign 48 = .ok (.iload_n 0, 1) := by decide +kernel
theorem dX11_isSign_49 : decode cX11_isSign 49 = .ok (.bipush 42, 2) := by decide +kernel
theorem dX11_isSign_51 : decode cX11_isSign 51 = .ok (.if_icmp .eq 15, 3) := by decide +kernel
theorem dX11_isSign_54 : decode cX11_isSign 54 = .ok (.iload_n 0, 1) := by decide +kernel
theorem dX11_isSign_55 : decode cX11_isSign 55 = .ok (.bipush 47, 2) := by decide +kernel
theorem dX11_isSign_57 : decode cX11_isSign 57 = .ok (.if_icmp .eq 9, 3) := by decide +kernel
theorem dX11_isSign_60 : decode cX11_isSign 60 = .ok (.iload_n 0, 1) := by decide +kernel
theorem dX11_isSign_61 : decode cX11_isSign 61 = .ok (.bipush 37, 2) := by decide +kernel
theorem dX11_isSign_63 : decode cX11_isSign 63 = .ok (.if_icmp .ne 7, 3) := by decide +kernel
theorem dX11_isSign_66 : decode cX11_isSign 66 = .ok (.iconst 1, 1) := by decide +kernel
theorem dX11_isSign_67 : decode cX11_isSign 67 = .ok (.goto 4, 3) := by decide +kernel
theorem dX11_isSign_70 : decode cX11_isSign 70 = .ok (.iconst 0, 1) := by decide +kernel
theorem dX11_isSign_71 : decode cX11_isSign 71 = .ok (.ireturn, 1) := by decide +kernel
theorem dX11_goOn_0 : decode cX11_goOn 0 = .ok (.aload_n 0, 1) := by decide +kernel
theorem dX11_goOn_1 : decode cX11_goOn 1 = .ok (.aload_n 0, 1) := by decide +kernel
theorem dX11_goOn_2 : decode cX11_goOn 2 = .ok (.getfield 205, 3) := by decide +kernel
theorem dX11_goOn_5 : decode cX11_goOn 5 = .ok (.putfield 208, 3) := by decide +kernel
theorem dX11_goOn_8 : decode cX11_goOn 8 = .ok (.aload_n 0, 1) := by decide +kernel
theorem dX11_goOn_9 : decode cX11_goOn 9 = .ok (.getfield 208, 3) := by decide +kernel
theorem dX11_goOn_12 : decode cX11_goOn 12 = .ok (.aload_n 0, 1) := by decide +kernel
theorem dX11_goOn_13 : decode cX11_goOn 13 = .ok (.getfield 155, 3) := by decide +kernel
theorem dX11_goOn_16 : decode cX11_goOn 16 = .ok (.if_icmp .ge 42, 3) := by decide +kernel
theorem dX11_goOn_19 : decode cX11_goOn 19 = .ok (.aload_n 0, 1) := by decide +kernel
theorem dX11_goOn_20 : decode cX11_goOn 20 = .ok (.aload_n 0, 1) := by decide +kernel
theorem dX11_goOn_21 : decode cX11_goOn 21 = .ok (.getfield 208, 3) := by decide +kernel
theorem dX11_goOn_24 : decode cX11_goOn 24 = .ok (.invokevirtual 211, 3) := by decide +kernel
theorem dX11_goOn_27 : decode cX11_goOn 27 = .ok (.bipush 32, 2) := by decide +kernel
theorem dX11_goOn_29 : decode cX11_goOn 29 = .ok (.if_icmp .eq 16, 3) := by decide +kernel
theorem dX11_goOn_32 : decode cX11_goOn 32 = .ok (.aload_n 0, 1) := by decide +kernel
theorem dX11_goOn_33 : decode cX11_goOn 33 = .ok (.aload_n 0, 1) := by decide +kernel
theorem dX11_goOn_34 : decode cX11_goOn 34 = .ok (.getfield 208, 3) := by decide +kernel
theorem dX11_goOn_37 : decode cX11_goOn 37 = .ok (.invokevirtual 211, 3) := by decide +kernel
theorem dX11_goOn_40 : decode cX11_goOn 40 = .ok (.bipush 10, 2) := by decide +kernel
theorem dX11_goOn_42 : decode cX11_goOn 42 = .ok (.if_icmp .ne 16, 3) := by decide +kernel
theorem dX11_goOn_45 : decode cX11_goOn 45 = .ok (.aload_n 0, 1) := by decide +kernel
theorem dX11_goOn_46 : decode cX11_goOn 46 = .ok (.dup, 1) := by decide +kernel
theorem dX11_goOn_47 : decode cX11_goOn 47 = .ok (.getfield 208, 3) := by decide +kernel
theorem dX11_goOn_50 : decode cX11_goOn 50 = .ok (.iconst 1, 1) := by decide +kernel
theorem dX11_goOn_51 : decode cX11_goOn 51 = .ok (.iadd, 1) := by decide +kernel
theorem dX11_goOn_52 : decode cX11_goOn 52 = .ok (.putfield 208, 3) := by decide +kernel
theorem dX11_goOn_55 : decode cX11_goOn 55 = .ok (.goto (-47), 3) := by decide +kernel
theorem dX11_goOn_58 : decode cX11_goOn 58 = .ok (.aload_n 0, 1) := by decide +kernel
theorem dX11_goOn_59 : decode cX11_goOn 59 = .ok (.aload_n 0, 1) := by decide +kernel
theorem dX11_goOn_60 : decode cX11_goOn 60 = .ok (.getfield 208, 3) := by decide +kernel
theorem dX11_goOn_63 : decode cX11_goOn 63 = .ok (.invokevirtual 211, 3) := by decide +kernel
theorem dX11_goOn_66 : decode cX11_goOn 66 = .ok (.istore_n 1, 1) := by decide +kernel
theorem dX11_goOn_67 : decode cX11_goOn 67 = .ok (.aload_n 0, 1) := by decide +kernel
theorem dX11_goOn_68 : decode cX11_goOn 68 = .ok (.aload_n 0, 1) := by decide +kernel
theorem dX11_goOn_69 : decode cX11_goOn 69 = .ok (.getfield 208, 3) := by decide +kernel
theorem dX11_goOn_72 : decode cX11_goOn 72 = .ok (.iconst 1, 1) := by decide +kernel
theorem dX11_goOn_73 : decode cX11_goOn 73 = .ok (.iadd, 1) := by decide +kernel
theorem dX11_goOn_74 : decode cX11_goOn 74 = .ok (.putfield 205, 3) := by decide +kernel
theorem dX11_goOn_77 : decode cX11_goOn 77 = .ok (.aload_n 0, 1) := by decide +kernel
theorem dX11_goOn_78 : decode cX11_goOn 78 = .ok (.getfield 208, 3) := by decide +kernel
theorem dX11_goOn_81 : decode cX11_goOn 81 = .ok (.aload_n 0, 1) := by decide +kernel
theorem dX11_goOn_82 : decode cX11_goOn 82 = .ok (.getfield 155, 3) := by decide +kernel
theorem dX11_goOn_85 : decode cX11_goOn 85 = .ok (.if_icmp .lt 27, 3) := by decide +kernel
theorem dX11_goOn_88 : decode cX11_goOn 88 = .ok (.aload_n 0, 1) := by decide +kernel
theorem dX11_goOn_89 : decode cX11_goOn 89 = .ok (.iconst 0, 1) := by decide +kernel
theorem dX11_goOn_90 : decode cX11_goOn 90 = .ok (.putfield 215, 3) := by decide +kernel
theorem dX11_goOn_93 : decode cX11_goOn 93 = .ok (.aload_n 0, 1) := by decide +kernel
theorem dX11_goOn_94 : decode cX11_goOn 94 = .ok (.aload_n 0, 1) := by decide +kernel
theorem dX11_goOn_95 : decode cX11_goOn 95 = .ok (.getfield 155, 3) := by decide +kernel
theorem dX11_goOn_98 : decode cX11_goOn 98 = .ok (.putfield 208, 3) := by decide +kernel
theorem dX11_goOn_101 : decode cX11_goOn 101 = .ok (.aload_n 0, 1) := by decide +kernel
theorem dX11_goOn_102 : decode cX11_goOn 102 = .ok (.aload_n 0, 1) := by decide +kernel
theorem dX11_goOn_103 : decode cX11_goOn 103 = .ok (.getfield 155, 3) := by decide +kernel
theorem dX11_goOn_106 : decode cX11_goOn 106 = .ok (.putfield 205, 3) := by decide +kernel
theorem dX11_goOn_109 : decode cX11_goOn 109 = .ok (.goto 268, 3) := by decide +kernel
theorem dX11_goOn_112 : decode cX11_goOn 112 = .ok (.iload_n 1, 1) := by decide +kernel
theorem dX11_goOn_113 : decode cX11_goOn 113 = .ok (.invokestatic 218, 3) := by decide +kernel
theorem dX11_goOn_116 : decode cX11_goOn 116 = .ok (.ifCond .eq 123, 3) := by decide +kernel
theorem dX11_goOn_119 : decode cX11_goOn 119 = .ok (.aload_n 0, 1) := by decide +kernel
theorem dX11_goOn_120 : decode cX11_goOn 120 = .ok (.aload_n 0, 1) := by decide +kernel
theorem dX11_goOn_121 : decode cX11_goOn 121 = .ok (.getfield 205, 3) := by decide +kernel
theorem dX11_goOn_124 : decode cX11_goOn 124 = .ok (.invokevirtual 211, 3) := by decide +kernel
theorem dX11_goOn_127 : decode cX11_goOn 127 = .ok (.invokestatic 218, 3) := by decide +kernel
theorem dX11_goOn_130 : decode cX11_goOn 130 = .ok (.ifCond .eq 16, 3) := by decide +kernel
theorem dX11_goOn_133 : decode cX11_goOn 133 = .ok (.aload_n 0, 1) := by decide +kernel
theorem dX11_goOn_134 : decode cX11_goOn 134 = .ok (.dup, 1) := by decide +kernel
theorem dX11_goOn_135 : decode cX11_goOn 135 = .ok (.getfield 205, 3) := by decide +kernel
theorem dX11_goOn_138 : decode cX11_goOn 138 = .ok (.iconst 1, 1) := by decide +kernel
theorem dX11_goOn_139 : decode cX11_goOn 139 = .ok (.iadd, 1) := by decide +kernel
theorem dX11_goOn_140 : decode cX11_goOn 140 = .ok (.putfield 205, 3) := by decide +kernel
theorem dX11_goOn_143 : decode cX11_goOn 143 = .ok (.goto (-24), 3) := by decide +kernel
theorem dX11_goOn_146 : decode cX11_goOn 146 = .ok (.aload_n 0, 1) := by decide +kernel
theorem dX11_goOn_147 : decode cX11_goOn 147 = .ok (.lconst 0, 1) := by decide +kernel
theorem dX11_goOn_148 : decode cX11_goOn 148 = .ok (.putfield 222, 3) := by decide +kernel
theorem dX11_goOn_151 : decode cX11_goOn 151 = .ok (.aload_n 0, 1) := by decide +kernel
theorem dX11_goOn_152 : decode cX11_goOn 152 = .ok (.getfield 208, 3) := by decide +kernel
theorem dX11_goOn_155 : decode cX11_goOn 155 = .ok (.istore_n 2, 1) := by decide +kernel
theorem dX11_goOn_156 : decode cX11_goOn 156 = .ok (.iload_n 2, 1) := by decide +kernel
theorem dX11_goOn_157 : decode cX11_goOn 157 = .ok (.aload_n 0, 1) := by decide +kernel
theorem dX11_goOn_158 : decode cX11_goOn 158 = .ok (.getfield 205, 3) := by decide +kernel
theorem dX11_goOn_161 : decode cX11_goOn 161 = .ok (.if_icmp .ge 38, 3) := by decide +kernel
theorem dX11_goOn_164 : decode cX11_goOn 164 = .ok (.iload_n 2, 1) := by decide +kernel
theorem dX11_goOn_165 : decode cX11_goOn 165 = .ok (.aload_n 0, 1) := by decide +kernel
theorem dX11_goOn_166 : decode cX11_goOn 166 = .ok (.getfield 208, 3) := by decide +kernel
theorem dX11_goOn_169 : decode cX11_goOn 169 = .ok (.bipush 8, 2) := by decide +kernel
theorem dX11_goOn_171 : decode cX11_goOn 171 = .ok (.iadd, 1) := by decide +kernel
theorem dX11_goOn_172 : decode cX11_goOn 172 = .ok (.if_icmp .ge 27, 3) := by decide +kernel
theorem dX11_goOn_175 : decode cX11_goOn 175 = .ok (.aload_n 0, 1) := by decide +kernel
theorem dX11_goOn_176 : decode cX11_goOn 176 = .ok (.aload_n 0, 1) := by decide +kernel
theorem dX11_goOn_177 : decode cX11_goOn 177 = .ok (.getfield 222, 3) := by decide +kernel
theorem dX11_goOn_180 : decode cX11_goOn 180 = .ok (.bipush 8, 2) := by decide +kernel
theorem dX11_goOn_182 : decode cX11_goOn 182 = .ok (.lshl, 1) := by decide +kernel
theorem dX11_goOn_183 : decode cX11_goOn 183 = .ok (.aload_n 0, 1) := by decide +kernel
theorem dX11_goOn_184 : decode cX11_goOn 184 = .ok (.iload_n 2, 1) := by decide +kernel
theorem dX11_goOn_185 : decode cX11_goOn 185 = .ok (.invokevirtual 211, 3) := by decide +kernel
theorem dX11_goOn_188 : decode cX11_goOn 188 = .ok (.i2l, 1) := by decide +kernel
theorem dX11_goOn_189 : decode cX11_goOn 189 = .ok (.lor, 1) := by decide +kernel
theorem dX11_goOn_190 : decode cX11_goOn 190 = .ok (.putfield 222, 3) := by decide +kernel
theorem dX11_goOn_193 : decode cX11_goOn 193 = .ok (.iinc 2 1, 3) := by decide +kernel
theorem dX11_goOn_196 : decode cX11_goOn 196 = .ok (.goto (-40), 3) := by decide +kernel
theorem dX11_goOn_199 : decode cX11_goOn 199 = .ok (.aload_n 0, 1) := by decide +kernel
theorem dX11_goOn_200 : decode cX11_goOn 200 = .ok (.aload_n 0, 1) := by decide +kernel
theorem dX11_goOn_201 : decode cX11_goOn 201 = .ok (.getfield 205, 3) := by decide +kernel
theorem dX11_goOn_204 : decode cX11_goOn 204 = .ok (.aload_n 0, 1) := by decide +kernel
theorem dX11_goOn_205 : decode cX11_goOn 205 = .ok (.getfield 208, 3) := by decide +kernel
theorem dX11_goOn_208 : decode cX11_goOn 208 = .ok (.isub, 1) := by decide +kernel
theorem dX11_goOn_209 : decode cX11_goOn 209 = .ok (.bipush 8, 2) := by decide +kernel
theorem dX11_goOn_211 : decode cX11_goOn 211 = .ok (.if_icmp .le 7, 3) := by decide +kernel
theorem dX11_goOn_214 : decode cX11_goOn 214 = .ok (.iconst 1, 1) := by decide +kernel
theorem dX11_goOn_215 : decode cX11_goOn 215 = .ok (.goto 18, 3) := by decide +kernel
theorem dX11_goOn_218 : decode cX11_goOn 218 = .ok (.aload_n 0, 1) := by decide +kernel
theorem dX11_goOn_219 : decode cX11_goOn 219 = .ok (.getfield 222, 3) := by decide +kernel
theorem dX11_goOn_222 : decode cX11_goOn 222 = .ok (.invokestatic 226, 3) := by decide +kernel
theorem dX11_goOn_225 : decode cX11_goOn 225 = .ok (.ifCond .eq 7, 3) := by decide +kernel
theorem dX11_goOn_228 : decode cX11_goOn 228 = .ok (.iconst 3, 1) := by decide +kernel
theorem dX11_goOn_229 : decode cX11_goOn 229 = .ok (.goto 4, 3) := by decide +kernel
theorem dX11_goOn_232 : decode cX11_goOn 232 = .ok (.iconst 2, 1) := by decide +kernel
theorem dX11_goOn_233 : decode cX11_goOn 233 = .ok (.putfield 215, 3) := by decide +kernel
theorem dX11_goOn_236 : decode cX11_goOn 236 = .ok (.goto 141, 3) := by decide +kernel
theorem dX11_goOn_239 : decode cX11_goOn 239 = .ok (.iload_n 1, 1) := by decide +kernel
theorem dX11_goOn_240 : decode cX11_goOn 240 = .ok (.invokestatic 230, 3) := by decide +kernel
theorem dX11_goOn_243 : decode cX11_goOn 243 = .ok (.ifCond .eq 118, 3) := by decide +kernel
theorem dX11_goOn_246 : decode cX11_goOn 246 = .ok (.aload_n 0, 1) := by decide +kernel
theorem dX11_goOn_247 : decode cX11_goOn 247 = .ok (.iconst 0, 1) := by decide +kernel
theorem dX11_goOn_248 : decode cX11_goOn 248 = .ok (.putfield 233, 3) := by decide +kernel
theorem dX11_goOn_251 : decode cX11_goOn 251 = .ok (.aload_n 0, 1) := by decide +kernel
theorem dX11_goOn_252 : decode cX11_goOn 252 = .ok (.aload_n 0, 1) := by decide +kernel
theorem dX11_goOn_253 : decode cX11_goOn 253 = .ok (.getfield 208, 3) := by decide +kernel
theorem dX11_goOn_256 : decode cX11_goOn 256 = .ok (.putfield 205, 3) := by decide +kernel
theorem dX11_goOn_259 : decode cX11_goOn 259 = .ok (.aload_n 0, 1) := by decide +kernel
theorem dX11_goOn_260 : decode cX11_goOn 260 = .ok (.aload_n 0, 1) := by decide +kernel
theorem dX11_goOn_261 : decode cX11_goOn 261 = .ok (.getfield 205, 3) := by decide +kernel
theorem dX11_goOn_264 : decode cX11_goOn 264 = .ok (.invokevirtual 211, 3) := by decide +kernel
theorem dX11_goOn_267 : decode cX11_goOn 267 = .ok (.invokestatic 230, 3) := by decide +kernel
theorem dX11_goOn_270 : decode cX11_goOn 270 = .ok (.ifCond .eq 52, 3) := by decide +kernel
theorem dX11_goOn_273 : decode cX11_goOn 273 = .ok (.aload_n 0, 1) := by decide +kernel
theorem dX11_goOn_274 : decode cX11_goOn 274 = .ok (.getfield 205, 3) := by decide +kernel
theorem dX11_goOn_277 : decode cX11_goOn 277 = .ok (.aload_n 0, 1) := by decide +kernel
theorem dX11_goOn_278 : decode cX11_goOn 278 = .ok (.getfield 208, 3) := by decide +kernel
theorem dX11_goOn_281 : decode cX11_goOn 281 = .ok (.isub, 1) := by decide +kernel
theorem dX11_goOn_282 : decode cX11_goOn 282 = .ok (.iconst 4, 1) := by decide +kernel
theorem dX11_goOn_283 : decode cX11_goOn 283 = .ok (.if_icmp .ge 26, 3) := by decide +kernel
theorem dX11_goOn_286 : decode cX11_goOn 286 = .ok (.aload_n 0, 1) := by decide +kernel
theorem dX11_goOn_287 : decode cX11_goOn 287 = .ok (.bipush 10, 2) := by decide +kernel
theorem dX11_goOn_289 : decode cX11_goOn 289 = .ok (.aload_n 0, 1) := by decide +kernel
theorem dX11_goOn_290 : decode cX11_goOn 290 = .ok (.getfield 233, 3) := by decide +kernel
theorem dX11_goOn_293 : decode cX11_goOn 293 = .ok (.imul, 1) := by decide +kernel
theorem dX11_goOn_294 : decode cX11_goOn 294 = .ok (.aload_n 0, 1) := by decide +kernel
theorem dX11_goOn_295 : decode cX11_goOn 295 = .ok (.aload_n 0, 1) := by decide +kernel
theorem dX11_goOn_296 : decode cX11_goOn 296 = .ok (.getfield 205, 3) := by decide +kernel
theorem dX11_goOn_299 : decode cX11_goOn 299 = .ok (.invokevirtual 211, 3) := by decide +kernel
theorem dX11_goOn_302 : decode cX11_goOn 302 = .ok (.iadd, 1) := by decide +kernel
theorem dX11_goOn_303 : decode cX11_goOn 303 = .ok (.bipush 48, 2) := by decide +kernel
theorem dX11_goOn_305 : decode cX11_goOn 305 = .ok (.isub, 1) := by decide +kernel
theorem dX11_goOn_306 : decode cX11_goOn 306 = .ok (.putfield 233, 3) := by decide +kernel
theorem dX11_goOn_309 : decode cX11_goOn 309 = .ok (.aload_n 0, 1) := by decide +kernel
theorem dX11_goOn_310 : decode cX11_goOn 310 = .ok (.dup, 1) := by decide +kernel
theorem dX11_goOn_311 : decode cX11_goOn 311 = .ok (.getfield 205, 3) := by decide +kernel
theorem dX11_goOn_314 : decode cX11_goOn 314 = .ok (.iconst 1, 1) := by decide +kernel
theorem dX11_goOn_315 : decode cX11_goOn 315 = .ok (.iadd, 1) := by decide +kernel
theorem dX11_goOn_316 : decode cX11_goOn 316 = .ok (.putfield 205, 3) := by decide +kernel
theorem dX11_goOn_319 : decode cX11_goOn 319 = .ok (.goto (-60), 3) := by decide +kernel
theorem dX11_goOn_322 : decode cX11_goOn 322 = .ok (.aload_n 0, 1) := by decide +kernel
theorem dX11_goOn_323 : decode cX11_goOn 323 = .ok (.aload_n 0, 1) := by decide +kernel
theorem dX11_goOn_324 : decode cX11_goOn 324 = .ok (.getfield 205, 3) := by decide +kernel
theorem dX11_goOn_327 : decode cX11_goOn 327 = .ok (.aload_n 0, 1) := by decide +kernel
theorem dX11_goOn_328 : decode cX11_goOn 328 = .ok (.getfield 208, 3) := by decide +kernel
theorem dX11_goOn_331 : decode cX11_goOn 331 = .ok (.isub, 1) := by decide +kernel
theorem dX11_goOn_332 : decode cX11_goOn 332 = .ok (.iconst 4, 1) := by decide +kernel
theorem dX11_goOn_333 : decode cX11_goOn 333 = .ok (.if_icmp .gt 17, 3) := by decide +kernel
theorem dX11_goOn_336 : decode cX11_goOn 336 = .ok (.aload_n 0, 1) := by decide +kernel
theorem dX11_goOn_337 : decode cX11_goOn 337 = .ok (.aload_n 0, 1) := by decide +kernel
theorem dX11_goOn_338 : decode cX11_goOn 338 = .ok (.getfield 205, 3) := by decide +kernel
theorem dX11_goOn_341 : decode cX11_goOn 341 = .ok (.invokevirtual 211, 3) := by decide +kernel
theorem dX11_goOn_344 : decode cX11_goOn 344 = .ok (.invokestatic 218, 3) := by decide +kernel
theorem dX11_goOn_347 : decode cX11_goOn 347 = .ok (.ifCond .eq 7, 3) := by decide +kernel
theorem dX11_goOn_350 : decode cX11_goOn 350 = .ok (.iconst 1, 1) := by decide +kernel
theorem dX11_goOn_351 : decode cX11_goOn 351 = .ok (.goto 4, 3) := by decide +kernel
theorem dX11_goOn_354 : decode cX11_goOn 354 = .ok (.iconst 4, 1) := by decide +kernel
theorem dX11_goOn_355 : decode cX11_goOn 355 = .ok (.putfield 215, 3) := by decide +kernel
theorem dX11_goOn_358 : decode cX11_goOn 358 = .ok (.goto 19, 3) := by decide +kernel
theorem dX11_goOn_361 : decode cX11_goOn 361 = .ok (.aload_n 0, 1) := by decide +kernel
theorem dX11_goOn_362 : decode cX11_goOn 362 = .ok (.iload_n 1, 1) := by decide +kernel
theorem dX11_goOn_363 : decode cX11_goOn 363 = .ok (.invokestatic 236, 3) := by decide +kernel
theorem dX11_goOn_366 : decode cX11_goOn 366 = .ok (.ifCond .eq 7, 3) := by decide +kernel
theorem dX11_goOn_369 : decode cX11_goOn 369 = .ok (.iconst 5, 1) := by decide +kernel
theorem dX11_goOn_370 : decode cX11_goOn 370 = .ok (.goto 4, 3) := by decide +kernel
theorem dX11_goOn_373 : decode cX11_goOn 373 = .ok (.iconst 1, 1) := by decide +kernel
theorem dX11_goOn_374 : decode cX11_goOn 374 = .ok (.putfield 215, 3) := by decide +kernel
theorem dX11_goOn_377 : decode cX11_goOn 377 = .ok (.return_, 1) := by decide +kernel
set_option maxHeartbeats 20000000 in
set_option maxRecDepth 100000 in
theorem J71_s0_0_X11_isSign (l : Launch) (D : va_G) (cT : Nat → ClassId) (T : Nat → Option Nat) (q : Nat → Int) (hT : tokm T) (hq : qkm q) (y0 : Int32) (j0 : IV y0 (-2147483648) 2147483647) (p : Program) (e : Env) (s : State) (m : MethodId) (below : List Frame) (meth : Method) (c : Code) (S : CallFix p m c cX11_isSign 1 s [.int y0].toArray gw yX11_isSign.cls) (hK : va_K D classes (th_tys cT) s) (hr : meth.sig.returnType = (some .boolean)) (hlocks : meth.locks = false) : ∀ (H : Heap) (locs : List Loc) (ls : Array Slot), th_H D cT T (km q) H → va_S (th_A T []) s.heap H locs → lv_has ls 1 [] → W p l e (rmk 0 0) s m [.int y0].toArray below meth c H locs 0 0 (MQ below (th_Q D cT T (km q) (th_R T (some (.inl (0, 1)))) []) [.int y0].toArray s 0 0 (th_A T [])) (F0 m 71 ls [.int 0]) := by
    have hx := S.1
    have hb := S.2.1
    intro H locs ls hH hS hl
    exact th_zret S hK hH hS hr hlocks (iv_w (iv_c (by decide) : IV 0 0 0) (by decide)) (th_R.i (iv_w (iv_c (by decide) : IV 0 0 0) (by decide))) dX11_isSign_71


set_option maxHeartbeats 20000000 in
set_option maxRecDepth 100000 in
theorem J71_s0_1_X11_isSign (l : Launch) (D : va_G) (cT : Nat → ClassId) (T : Nat → Option Nat) (q : Nat → Int) (hT : tokm T) (hq : qkm q) (y0 : Int32) (j0 : IV y0 (-2147483648) 2147483647) (p : Program) (e : Env) (s : State) (m : MethodId) (below : List Frame) (meth : Method) (c : Code) (S : CallFix p m c cX11_isSign 1 s [.int y0].toArray gw yX11_isSign.cls) (hK : va_K D classes (th_tys cT) s) (hr : meth.sig.returnType = (some .boolean)) (hlocks : meth.locks = false) : ∀ (H : Heap) (locs : List Loc) (ls : Array Slot), th_H D cT T (km q) H → va_S (th_A T []) s.heap H locs → lv_has ls 1 [] → W p l e (rmk 0 0) s m [.int y0].toArray below meth c H locs 0 0 (MQ below (th_Q D cT T (km q) (th_R T (some (.inl (0, 1)))) []) [.int y0].toArray s 0 0 (th_A T [])) (F0 m 71 ls [.int 1]) := by
    have hx := S.1
    have hb := S.2.1
    intro H locs ls hH hS hl
    exact th_zret S hK hH hS hr hlocks (iv_w (iv_c (by decide) : IV 1 1 1) (by decide)) (th_R.i (iv_w (iv_c (by decide) : IV 1 1 1) (by decide))) dX11_isSign_71


set_option maxHeartbeats 20000000 in
set_option maxRecDepth 100000 in
theorem J66_X11_isSign (l : Launch) (D : va_G) (cT : Nat → ClassId) (T : Nat → Option Nat) (q : Nat → Int) (hT : tokm T) (hq : qkm q) (y0 : Int32) (j0 : IV y0 (-2147483648) 2147483647) (p : Program) (e : Env) (s : State) (m : MethodId) (below : List Frame) (meth : Method) (c : Code) (S : CallFix p m c cX11_isSign 1 s [.int y0].toArray gw yX11_isSign.cls) (hK : va_K D classes (th_tys cT) s) (hr : meth.sig.returnType = (some .boolean)) (hlocks : meth.locks = false) : ∀ (H : Heap) (locs : List Loc) (ls : Array Slot), th_H D cT T (km q) H → va_S (th_A T []) s.heap H locs → lv_has ls 1 [] → W p l e (rmk 0 0) s m [.int y0].toArray below meth c H locs 0 0 (MQ below (th_Q D cT T (km q) (th_R T (some (.inl (0, 1)))) []) [.int y0].toArray s 0 0 (th_A T [])) (F0 m 66 ls []) := by
    have hx := S.1
    have hb := S.2.1
    have J71_s0_1 := J71_s0_1_X11_isSign l D cT T q hT hq y0 j0 p e s m below meth c S hK hr hlocks
    intro H locs ls hH hS hl
    refine lv_iconst (v := 1) hx hb dX11_isSign_66 (by decide) ?_
    refine lv_goto (tgt := 71) hx hb dX11_isSign_67 (by decide) ?_
    exact J71_s0_1 H locs ls  hH hS (lv_sub hl [] rfl)

set_option maxHeartbeats 20000000 in
set_option maxRecDepth 100000 in
theorem m_X11_isSign (l : Launch) (D : va_G) (cT : Nat → ClassId) (T : Nat → Option Nat) (q : Nat → Int) (hT : tokm T) (hq : qkm q) (y0 : Int32) (j0 : IV y0 (-2147483648) 2147483647) : th_Met l D cT T (km q) yX11_isSign cX11_isSign 1 (some .boolean) (rmk 0 0) [.int y0] (th_R T (some (.inl (0, 1)))) [] := by
  refine th_start (by decide) (Nat.le_of_ble_eq_true rfl) ?_
  intro p e s m below meth c ls S hK hH hr hlocks hnm hl
  have hx := S.1
  have hb := S.2.1
  have hl : lv_has ls 1 [(0, .int y0)] := hl
  have J71_s0_0 := J71_s0_0_X11_isSign l D cT T q hT hq y0 j0 p e s m below meth c S hK hr hlocks
  have J71_s0_1 := J71_s0_1_X11_isSign l D cT T q hT hq y0 j0 p e s m below meth c S hK hr hlocks
  have J66 := J66_X11_isSign l D cT T q hT hq y0 j0 p e s m below meth c S hK hr hlocks
  have J0 : ∀ (H : Heap) (locs : List Loc) (ls : Array Slot), th_H D cT T (km q) H → va_S (th_A T []) s.heap H locs → lv_has ls 1 [(0, .int y0)] → W p l e (rmk 0 0) s m [.int y0].toArray below meth c H locs 0 0 (MQ below (th_Q D cT T (km q) (th_R T (some (.inl (0, 1)))) []) [.int y0].toArray s 0 0 (th_A T [])) (F0 m 0 ls []) := by
    intro H locs ls hH hS hl
    refine lv_iload_n hx hb dX11_isSign_0 rfl (lv_at hl 0 rfl) ?_
    refine lv_bipush (v := 59) hx hb dX11_isSign_1 (by decide) ?_
    refine lv_icmp_eq (tgt := 66) hx hb dX11_isSign_3 (by decide) (fun c1 => ?_) (fun c1 => ?_)
    · skip
      have rlc1 : y0.toInt = (59 : Int) := congrArg Int32.toInt c1
      have ir2 : IV y0 59 59 := iv_eL c1 (iv_c (by decide) : IV 59 59 59)
      have ir2a := ir2.1; have ir2b := ir2.2
      exact J66 H locs ls  hH hS (lv_sub hl [] rfl)
    · skip
      have rlc1 : y0.toInt ≠ (59 : Int) := iv_ne c1
      clear rlc1
      refine lv_iload_n hx hb dX11_isSign_6 rfl (lv_at hl 0 rfl) ?_
      refine lv_bipush (v := 40) hx hb dX11_isSign_7 (by decide) ?_
      refine lv_icmp_eq (tgt := 66) hx hb dX11_isSign_9 (by decide) (fun c3 => ?_) (fun c3 => ?_)
      · skip
        have rlc3 : y0.toInt = (40 : Int) := congrArg Int32.toInt c3
        have ir4 : IV y0 40 40 := iv_eL c3 (iv_c (by decide) : IV 40 40 40)
        have ir4a := ir4.1; have ir4b := ir4.2
        exact J66 H locs ls  hH hS (lv_sub hl [] rfl)
      · skip
        have rlc3 : y0.toInt ≠ (40 : Int) := iv_ne c3
        clear rlc3
        refine lv_iload_n hx hb dX11_isSign_12 rfl (lv_at hl 0 rfl) ?_
        refine lv_bipush (v := 41) hx hb dX11_isSign_13 (by decide) ?_
        refine lv_icmp_eq (tgt := 66) hx hb dX11_isSign_15 (by decide) (fun c5 => ?_) (fun c5 => ?_)
        · skip
          have rlc5 : y0.toInt = (41 : Int) := congrArg Int32.toInt c5
          have ir6 : IV y0 41 41 := iv_eL c5 (iv_c (by decide) : IV 41 41 41)
          have ir6a := ir6.1; have ir6b := ir6.2
          exact J66 H locs ls  hH hS (lv_sub hl [] rfl)
        · skip
          have rlc5 : y0.toInt ≠ (41 : Int) := iv_ne c5
          clear rlc5
          refine lv_iload_n hx hb dX11_isSign_18 rfl (lv_at hl 0 rfl) ?_
          refine lv_bipush (v := 60) hx hb dX11_isSign_19 (by decide) ?_
          refine lv_icmp_eq (tgt := 66) hx hb dX11_isSign_21 (by decide) (fun c7 => ?_) (fun c7 => ?_)
          · skip
            have rlc7 : y0.toInt = (60 : Int) := congrArg Int32.toInt c7
            have ir8 : IV y0 60 60 := iv_eL c7 (iv_c (by decide) : IV 60 60 60)
            have ir8a := ir8.1; have ir8b := ir8.2
            exact J66 H locs ls  hH hS (lv_sub hl [] rfl)
          · skip
            have rlc7 : y0.toInt ≠ (60 : Int) := iv_ne c7
            clear rlc7
            refine lv_iload_n hx hb dX11_isSign_24 rfl (lv_at hl 0 rfl) ?_
            refine lv_bipush (v := 62) hx hb dX11_isSign_25 (by decide) ?_
            refine lv_icmp_eq (tgt := 66) hx hb dX11_isSign_27 (by decide) (fun c9 => ?_) (fun c9 => ?_)
            · skip
              have rlc9 : y0.toInt = (62 : Int) := congrArg Int32.toInt c9
              have ir10 : IV y0 62 62 := iv_eL c9 (iv_c (by decide) : IV 62 62 62)
              have ir10a := ir10.1; have ir10b := ir10.2
              exact J66 H locs ls  hH hS (lv_sub hl [] rfl)
            · skip
              have rlc9 : y0.toInt ≠ (62 : Int) := iv_ne c9
              clear rlc9
              refine lv_iload_n hx hb dX11_isSign_30 rfl (lv_at hl 0 rfl) ?_
              refine lv_bipush (v := 61) hx hb dX11_isSign_31 (by decide) ?_
              refine lv_icmp_eq (tgt := 66) hx hb dX11_isSign_33 (by decide) (fun c11 => ?_) (fun c11 => ?_)
              · skip
                have rlc11 : y0.toInt = (61 : Int) := congrArg Int32.toInt c11
                have ir12 : IV y0 61 61 := iv_eL c11 (iv_c (by decide) : IV 61 61 61)
                have ir12a := ir12.1; have ir12b := ir12.2
                exact J66 H locs ls  hH hS (lv_sub hl [] rfl)
              · skip
                have rlc11 : y0.toInt ≠ (61 : Int) := iv_ne c11
                clear rlc11
                refine lv_iload_n hx hb dX11_isSign_36 rfl (lv_at hl 0 rfl) ?_
                refine lv_bipush (v := 43) hx hb dX11_isSign_37 (by decide) ?_
                refine lv_icmp_eq (tgt := 66) hx hb dX11_isSign_39 (by decide) (fun c13 => ?_) (fun c13 => ?_)
                · skip
                  have rlc13 : y0.toInt = (43 : Int) := congrArg Int32.toInt c13
                  have ir14 : IV y0 43 43 := iv_eL c13 (iv_c (by decide) : IV 43 43 43)
                  have ir14a := ir14.1; have ir14b := ir14.2
                  exact J66 H locs ls  hH hS (lv_sub hl [] rfl)
                · skip
                  have rlc13 : y0.toInt ≠ (43 : Int) := iv_ne c13
                  clear rlc13
                  refine lv_iload_n hx hb dX11_isSign_42 rfl (lv_at hl 0 rfl) ?_
                  refine lv_bipush (v := 45) hx hb dX11_isSign_43 (by decide) ?_
                  refine lv_icmp_eq (tgt := 66) hx hb dX11_isSign_45 (by decide) (fun c15 => ?_) (fun c15 => ?_)
                  · skip
                    have rlc15 : y0.toInt = (45 : Int) := congrArg Int32.toInt c15
                    have ir16 : IV y0 45 45 := iv_eL c15 (iv_c (by decide) : IV 45 45 45)
                    have ir16a := ir16.1; have ir16b := ir16.2
                    exact J66 H locs ls  hH hS (lv_sub hl [] rfl)
                  · skip
                    have rlc15 : y0.toInt ≠ (45 : Int) := iv_ne c15
                    clear rlc15
                    refine lv_iload_n hx hb dX11_isSign_48 rfl (lv_at hl 0 rfl) ?_
                    refine lv_bipush (v := 42) hx hb dX11_isSign_49 (by decide) ?_
                    refine lv_icmp_eq (tgt := 66) hx hb dX11_isSign_51 (by decide) (fun c17 => ?_) (fun c17 => ?_)
                    · skip
                      have rlc17 : y0.toInt = (42 : Int) := congrArg Int32.toInt c17
                      have ir18 : IV y0 42 42 := iv_eL c17 (iv_c (by decide) : IV 42 42 42)
                      have ir18a := ir18.1; have ir18b := ir18.2
                      exact J66 H locs ls  hH hS (lv_sub hl [] rfl)
                    · skip
                      have rlc17 : y0.toInt ≠ (42 : Int) := iv_ne c17
                      clear rlc17
                      refine lv_iload_n hx hb dX11_isSign_54 rfl (lv_at hl 0 rfl) ?_
                      refine lv_bipush (v := 47) hx hb dX11_isSign_55 (by decide) ?_
                      refine lv_icmp_eq (tgt := 66) hx hb dX11_isSign_57 (by decide) (fun c19 => ?_) (fun c19 => ?_)
                      · skip
                        have rlc19 : y0.toInt = (47 : Int) := congrArg Int32.toInt c19
                        have ir20 : IV y0 47 47 := iv_eL c19 (iv_c (by decide) : IV 47 47 47)
                        have ir20a := ir20.1; have ir20b := ir20.2
                        exact J66 H locs ls  hH hS (lv_sub hl [] rfl)
                      · skip
                        have rlc19 : y0.toInt ≠ (47 : Int) := iv_ne c19
                        clear rlc19
                        refine lv_iload_n hx hb dX11_isSign_60 rfl (lv_at hl 0 rfl) ?_
                        refine lv_bipush (v := 37) hx hb dX11_isSign_61 (by decide) ?_
                        refine lv_icmp_ne (tgt := 70) hx hb dX11_isSign_63 (by decide) (fun c21 => ?_) (fun c21 => ?_)
                        · skip
                          have rlc21 : y0.toInt ≠ (37 : Int) := iv_ne c21
                          clear rlc21
                          refine lv_iconst (v := 0) hx hb dX11_isSign_70 (by decide) ?_
                          exact J71_s0_0 H locs ls  hH hS (lv_sub hl [] rfl)
                        · skip
                          have rlc21 : y0.toInt = (37 : Int) := congrArg Int32.toInt c21
                          have ir22 : IV y0 37 37 := iv_eL c21 (iv_c (by decide) : IV 37 37 37)
                          have ir22a := ir22.1; have ir22b := ir22.2
                          exact J66 H locs ls  hH hS (lv_sub hl [] rfl)
  exact J0 s.heap [] ls hH va_S.rf hl

set_option maxHeartbeats 20000000 in
set_option maxRecDepth 100000 in
theorem J377_X11_goOn (l : Launch) (D : va_G) (cT : Nat → ClassId) (T : Nat → Option Nat) (q : Nat → Int) (hT : tokm T) (hq : qkm q) (a0 : Nat) (t0 : T a0 = some 0) (hp0 : q 28 ≤ q 26) (p : Program) (e : Env) (s : State) (m : MethodId) (below : List Frame) (meth : Method) (c : Code) (S : CallFix p m c cX11_goOn 3 s [.ref a0].toArray gw yX11_goOn.cls) (hK : va_K D classes (th_tys cT) s) (hr : meth.sig.returnType = none) (hlocks : meth.locks = false) : ∀ (q377 : Nat → Int) (H : Heap) (locs : List Loc) (ls : Array Slot), qkm q377 → fr [27, 28, 29, 31] q q377 → (TI q377) → (NX q q377) → (T3 q377) → (q 28 ≤ q377 27) → (LX q q377) → th_H D cT T (km q377) H → va_S (th_A T [0]) s.heap H locs → lv_has ls 3 [] → W p l e (rmk 1 22) s m [.ref a0].toArray below meth c H locs 0 0 (MQ below (th_QM D cT T (fun v q2 => v = none ∧ qkm q2 ∧ fr [27, 28, 29, 31] q q2 ∧ (TS q2) ∧ (q 28 ≤ q2 27) ∧ (LX q q2)) [0]) [.ref a0].toArray s 0 0 (th_A T [0])) (F0 m 377 ls []) := by
    have hx := S.1
    have hb := S.2.1
    have b26 := qkm_26 hq; have b28 := qkm_28 hq
    intro q377 H locs ls hq377 h0377 v377_inv0 v377_inv1 v377_inv2 v377_inv3 v377_inv4 hH hS hl
    have w377_26 : q377 26 = q 26 := h0377 26 (by decide) (Or.inl (by decide))
    exact th_vretM S hK hH hS hr hlocks ⟨rfl, hq377, h0377, (show TS q377 by exact TS_of v377_inv0 v377_inv1 v377_inv2 h0377 (by decide) (by decide) (by decide)), (show q 28 ≤ q377 27 by omega), (show LX q q377 by assumption)⟩ dX11_goOn_377


set_option maxHeartbeats 20000000 in
set_option maxRecDepth 100000 in
theorem J374_s1_1_X11_goOn (l : Launch) (D : va_G) (cT : Nat → ClassId) (T : Nat → Option Nat) (q : Nat → Int) (hT : tokm T) (hq : qkm q) (a0 : Nat) (t0 : T a0 = some 0) (hp0 : q 28 ≤ q 26) (p : Program) (e : Env) (s : State) (m : MethodId) (below : List Frame) (meth : Method) (c : Code) (S : CallFix p m c cX11_goOn 3 s [.ref a0].toArray gw yX11_goOn.cls) (hK : va_K D classes (th_tys cT) s) (hr : meth.sig.returnType = none) (hlocks : meth.locks = false) : ∀ (q374 : Nat → Int) (H : Heap) (locs : List Loc) (ls : Array Slot), qkm q374 → fr [27, 28, 29, 31] q q374 → (q374 27 < q374 28 ∧ q374 28 ≤ q374 26 ∧ q 28 ≤ q374 27) → th_H D cT T (km q374) H → va_S (th_A T [0]) s.heap H locs → lv_has ls 3 [] → W p l e (rmk 1 22) s m [.ref a0].toArray below meth c H locs 0 0 (MQ below (th_QM D cT T (fun v q2 => v = none ∧ qkm q2 ∧ fr [27, 28, 29, 31] q q2 ∧ (TS q2) ∧ (q 28 ≤ q2 27) ∧ (LX q q2)) [0]) [.ref a0].toArray s 0 0 (th_A T [0])) (F0 m 374 ls [.int 1, .ref a0]) := by
    have hx := S.1
    have hb := S.2.1
    have b26 := qkm_26 hq; have b28 := qkm_28 hq
    have J377 := J377_X11_goOn l D cT T q hT hq a0 t0 hp0 p e s m below meth c S hK hr hlocks
    intro q374 H locs ls hq374 h0374 v374_inv0 hH hS hl
    have w374_26 : q374 26 = q 26 := h0374 26 (by decide) (Or.inl (by decide))
    obtain ⟨n2, en2⟩ : ∃ z : Int, z = Int32.toInt 1 := ⟨_, rfl⟩
    have fn2 : n2 = 1 := by rw [en2]; rfl
    refine mput_29 S hK hH hS ⟨0, by decide, t0⟩ hT t0 en2 gm_1238 dX11_goOn_374 (fun q1 H locs eq1 hH hS hq1 => ?_)
    have hqq1 : qkm q1 := by rw [eq1]; exact qum_ok29 hq374 (iv_z en2 (iv_w (iv_c (by decide) : IV 1 1 1) (by decide)))
    have h0q1 : fr [27, 28, 29, 31] q q1 := by rw [eq1]; exact fr_up h0374 (by decide)
    have wq1_26 : q1 26 = q374 26 := by rw [eq1]; rfl
    have wq1_27 : q1 27 = q374 27 := by rw [eq1]; rfl
    have wq1_28 : q1 28 = q374 28 := by rw [eq1]; rfl
    have wq1_29 : q1 29 = 1 := by rw [show q1 29 = n2 by rw [eq1]; rfl, fn2]
    have wq1_31 : q1 31 = q374 31 := by rw [eq1]; rfl
    clear en2 fn2
    exact J377 q1 H locs ls hqq1 h0q1 (show TI q1 by first | exact TI_in (by omega) (by omega) (by omega) | exact TI_end (by omega) (by omega) (by omega)) (show NX q q1 by first | (exact fun _ => by rw [wq1_28]; assumption) | (exact fun z => absurd z (by omega))) (show T3 q1 by first | (exact fun z => absurd z (by omega)) | (exact fun _ z => by omega)) (show q 28 ≤ q1 27 by omega) (show LX q q1 by first | (exact fun _ => by rw [wq1_27]; assumption) | (exact fun z => absurd z (by omega))) hH hS (lv_sub hl [] rfl)


set_option maxHeartbeats 20000000 in
set_option maxRecDepth 100000 in
theorem J374_s1_5_X11_goOn (l : Launch) (D : va_G) (cT : Nat → ClassId) (T : Nat → Option Nat) (q : Nat → Int) (hT : tokm T) (hq : qkm q) (a0 : Nat) (t0 : T a0 = some 0) (hp0 : q 28 ≤ q 26) (p : Program) (e : Env) (s : State) (m : MethodId) (below : List Frame) (meth : Method) (c : Code) (S : CallFix p m c cX11_goOn 3 s [.ref a0].toArray gw yX11_goOn.cls) (hK : va_K D classes (th_tys cT) s) (hr : meth.sig.returnType = none) (hlocks : meth.locks = false) : ∀ (q374 : Nat → Int) (H : Heap) (locs : List Loc) (ls : Array Slot), qkm q374 → fr [27, 28, 29, 31] q q374 → (q374 27 < q374 28 ∧ q374 28 ≤ q374 26 ∧ q 28 ≤ q374 27) → th_H D cT T (km q374) H → va_S (th_A T [0]) s.heap H locs → lv_has ls 3 [] → W p l e (rmk 1 22) s m [.ref a0].toArray below meth c H locs 0 0 (MQ below (th_QM D cT T (fun v q2 => v = none ∧ qkm q2 ∧ fr [27, 28, 29, 31] q q2 ∧ (TS q2) ∧ (q 28 ≤ q2 27) ∧ (LX q q2)) [0]) [.ref a0].toArray s 0 0 (th_A T [0])) (F0 m 374 ls [.int 5, .ref a0]) := by
    have hx := S.1
    have hb := S.2.1
    have b26 := qkm_26 hq; have b28 := qkm_28 hq
    have J377 := J377_X11_goOn l D cT T q hT hq a0 t0 hp0 p e s m below meth c S hK hr hlocks
    intro q374 H locs ls hq374 h0374 v374_inv0 hH hS hl
    have w374_26 : q374 26 = q 26 := h0374 26 (by decide) (Or.inl (by decide))
    obtain ⟨n4, en4⟩ : ∃ z : Int, z = Int32.toInt 5 := ⟨_, rfl⟩
    have fn4 : n4 = 5 := by rw [en4]; rfl
    refine mput_29 S hK hH hS ⟨0, by decide, t0⟩ hT t0 en4 gm_1238 dX11_goOn_374 (fun q3 H locs eq3 hH hS hq1 => ?_)
    have hqq3 : qkm q3 := by rw [eq3]; exact qum_ok29 hq374 (iv_z en4 (iv_w (iv_c (by decide) : IV 5 5 5) (by decide)))
    have h0q3 : fr [27, 28, 29, 31] q q3 := by rw [eq3]; exact fr_up h0374 (by decide)
    have wq3_26 : q3 26 = q374 26 := by rw [eq3]; rfl
    have wq3_27 : q3 27 = q374 27 := by rw [eq3]; rfl
    have wq3_28 : q3 28 = q374 28 := by rw [eq3]; rfl
    have wq3_29 : q3 29 = 5 := by rw [show q3 29 = n4 by rw [eq3]; rfl, fn4]
    have wq3_31 : q3 31 = q374 31 := by rw [eq3]; rfl
    clear en4 fn4
    exact J377 q3 H locs ls hqq3 h0q3 (show TI q3 by first | exact TI_in (by omega) (by omega) (by omega) | exact TI_end (by omega) (by omega) (by omega)) (show NX q q3 by first | (exact fun _ => by rw [wq3_28]; assumption) | (exact fun z => absurd z (by omega))) (show T3 q3 by first | (exact fun z => absurd z (by omega)) | (exact fun _ z => by omega)) (show q 28 ≤ q3 27 by omega) (show LX q q3 by first | (exact fun _ => by rw [wq3_27]; assumption) | (exact fun z => absurd z (by omega))) hH hS (lv_sub hl [] rfl)

