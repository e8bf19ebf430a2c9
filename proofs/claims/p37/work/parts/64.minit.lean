theorem gm_1217 : Cond.methodLink RX11 1 Lib.objectInit ∈ gw := gw_mem 1217 (by decide +kernel) (by decide +kernel)
theorem dX11_init_0 : decode cX11_init 0 = .ok (.aload_n 0, 1) := by decide +kernel
theorem dX11_init_1 : decode cX11_init 1 = .ok (.invokespecial 1, 3) := by decide +kernel
theorem dX11_init_4 : decode cX11_init 4 = .ok (.aload_n 0, 1) := by decide +kernel
theorem dX11_init_5 : decode cX11_init 5 = .ok (.sipush 1620, 3) := by decide +kernel
theorem dX11_init_8 : decode cX11_init 8 = .ok (.newarray .byte, 2) := by decide +kernel
theorem dX11_init_10 : decode cX11_init 10 = .ok (.putfield 7, 3) := by decide +kernel
theorem dX11_init_13 : decode cX11_init 13 = .ok (.aload_n 0, 1) := by decide +kernel
theorem dX11_init_14 : decode cX11_init 14 = .ok (.sipush 1600, 3) := by decide +kernel
theorem dX11_init_17 : decode cX11_init 17 = .ok (.newarray .byte, 2) := by decide +kernel
theorem dX11_init_19 : decode cX11_init 19 = .ok (.putfield 13, 3) := by decide +kernel
theorem dX11_init_22 : decode cX11_init 22 = .ok (.aload_n 0, 1) := by decide +kernel
theorem dX11_init_23 : decode cX11_init 23 = .ok (.iconst (-1), 1) := by decide +kernel
theorem dX11_init_24 : decode cX11_init 24 = .ok (.putfield 16, 3) := by decide +kernel
theorem dX11_init_27 : decode cX11_init 27 = .ok (.aload_n 0, 1) := by decide +kernel
theorem dX11_init_28 : decode cX11_init 28 = .ok (.iconst 2, 1) := by decide +kernel
theorem dX11_init_29 : decode cX11_init 29 = .ok (.newarray .int, 2) := by decide +kernel
theorem dX11_init_31 : decode cX11_init 31 = .ok (.putfield 20, 3) := by decide +kernel
theorem dX11_init_34 : decode cX11_init 34 = .ok (.aload_n 0, 1) := by decide +kernel
theorem dX11_init_35 : decode cX11_init 35 = .ok (.iconst 2, 1) := by decide +kernel
theorem dX11_init_36 : decode cX11_init 36 = .ok (.newarray .int, 2) := by decide +kernel
theorem dX11_init_38 : decode cX11_init 38 = .ok (.putfield 24, 3) := by decide +kernel
theorem dX11_init_41 : decode cX11_init 41 = .ok (.aload_n 0, 1) := by decide +kernel
theorem dX11_init_42 : decode cX11_init 42 = .ok (.iconst 2, 1) := by decide +kernel
theorem dX11_init_43 : decode cX11_init 43 = .ok (.newarray .int, 2) := by decide +kernel
theorem dX11_init_45 : decode cX11_init 45 = .ok (.putfield 27, 3) := by decide +kernel
theorem dX11_init_48 : decode cX11_init 48 = .ok (.aload_n 0, 1) := by decide +kernel
theorem dX11_init_49 : decode cX11_init 49 = .ok (.iconst 2, 1) := by decide +kernel
theorem dX11_init_50 : decode cX11_init 50 = .ok (.newarray .int, 2) := by decide +kernel
theorem dX11_init_52 : decode cX11_init 52 = .ok (.putfield 30, 3) := by decide +kernel
theorem dX11_init_55 : decode cX11_init 55 = .ok (.aload_n 0, 1) := by decide +kernel
theorem dX11_init_56 : decode cX11_init 56 = .ok (.iconst 2, 1) := by decide +kernel
theorem dX11_init_57 : decode cX11_init 57 = .ok (.newarray .int, 2) := by decide +kernel
theorem dX11_init_59 : decode cX11_init 59 = .ok (.putfield 33, 3) := by decide +kernel
theorem dX11_init_62 : decode cX11_init 62 = .ok (.aload_n 0, 1) := by decide +kernel
theorem dX11_init_63 : decode cX11_init 63 = .ok (.iconst 2, 1) := by decide +kernel
theorem dX11_init_64 : decode cX11_init 64 = .ok (.newarray .int, 2) := by decide +kernel
theorem dX11_init_66 : decode cX11_init 66 = .ok (.putfield 36, 3) := by decide +kernel
theorem dX11_init_69 : decode cX11_init 69 = .ok (.aload_n 0, 1) := by decide +kernel
theorem dX11_init_70 : decode cX11_init 70 = .ok (.iconst 2, 1) := by decide +kernel
theorem dX11_init_71 : decode cX11_init 71 = .ok (.newarray .int, 2) := by decide +kernel
theorem dX11_init_73 : decode cX11_init 73 = .ok (.putfield 39, 3) := by decide +kernel
theorem dX11_init_76 : decode cX11_init 76 = .ok (.aload_n 0, 1) := by decide +kernel
theorem dX11_init_77 : decode cX11_init 77 = .ok (.bipush 6, 2) := by decide +kernel
theorem dX11_init_79 : decode cX11_init 79 = .ok (.newarray .int, 2) := by decide +kernel
theorem dX11_init_81 : decode cX11_init 81 = .ok (.putfield 42, 3) := by decide +kernel
theorem dX11_init_84 : decode cX11_init 84 = .ok (.aload_n 0, 1) := by decide +kernel
theorem dX11_init_85 : decode cX11_init 85 = .ok (.bipush 8, 2) := by decide +kernel
theorem dX11_init_87 : decode cX11_init 87 = .ok (.newarray .int, 2) := by decide +kernel
theorem dX11_init_89 : decode cX11_init 89 = .ok (.putfield 45, 3) := by decide +kernel
theorem dX11_init_92 : decode cX11_init 92 = .ok (.aload_n 0, 1) := by decide +kernel
theorem dX11_init_93 : decode cX11_init 93 = .ok (.bipush 8, 2) := by decide +kernel
theorem dX11_init_95 : decode cX11_init 95 = .ok (.newarray .int, 2) := by decide +kernel
theorem dX11_init_97 : decode cX11_init 97 = .ok (.putfield 48, 3) := by decide +kernel
theorem dX11_init_100 : decode cX11_init 100 = .ok (.aload_n 0, 1) := by decide +kernel
theorem dX11_init_101 : decode cX11_init 101 = .ok (.iconst 2, 1) := by decide +kernel
theorem dX11_init_102 : decode cX11_init 102 = .ok (.newarray .int, 2) := by decide +kernel
theorem dX11_init_104 : decode cX11_init 104 = .ok (.putfield 51, 3) := by decide +kernel
theorem dX11_init_107 : decode cX11_init 107 = .ok (.aload_n 0, 1) := by decide +kernel
theorem dX11_init_108 : decode cX11_init 108 = .ok (.bipush 8, 2) := by decide +kernel
theorem dX11_init_110 : decode cX11_init 110 = .ok (.newarray .int, 2) := by decide +kernel
theorem dX11_init_112 : decode cX11_init 112 = .ok (.putfield 54, 3) := by decide +kernel
theorem dX11_init_115 : decode cX11_init 115 = .ok (.aload_n 0, 1) := by decide +kernel
theorem dX11_init_116 : decode cX11_init 116 = .ok (.bipush 16, 2) := by decide +kernel
theorem dX11_init_118 : decode cX11_init 118 = .ok (.newarray .int, 2) := by decide +kernel
theorem dX11_init_120 : decode cX11_init 120 = .ok (.putfield 57, 3) := by decide +kernel
theorem dX11_init_123 : decode cX11_init 123 = .ok (.aload_n 0, 1) := by decide +kernel
theorem dX11_init_124 : decode cX11_init 124 = .ok (.bipush 16, 2) := by decide +kernel
theorem dX11_init_126 : decode cX11_init 126 = .ok (.newarray .int, 2) := by decide +kernel
theorem dX11_init_128 : decode cX11_init 128 = .ok (.putfield 60, 3) := by decide +kernel
theorem dX11_init_131 : decode cX11_init 131 = .ok (.aload_n 0, 1) := by decide +kernel
theorem dX11_init_132 : decode cX11_init 132 = .ok (.bipush 16, 2) := by decide +kernel
theorem dX11_init_134 : decode cX11_init 134 = .ok (.newarray .int, 2) := by decide +kernel
theorem dX11_init_136 : decode cX11_init 136 = .ok (.putfield 63, 3) := by decide +kernel
theorem dX11_init_139 : decode cX11_init 139 = .ok (.aload_n 0, 1) := by decide +kernel
theorem dX11_init_140 : decode cX11_init 140 = .ok (.bipush 24, 2) := by decide +kernel
theorem dX11_init_142 : decode cX11_init 142 = .ok (.newarray .int, 2) := by decide +kernel
theorem dX11_init_144 : decode cX11_init 144 = .ok (.putfield 66, 3) := by decide +kernel
theorem dX11_init_147 : decode cX11_init 147 = .ok (.aload_n 0, 1) := by decide +kernel
theorem dX11_init_148 : decode cX11_init 148 = .ok (.bipush 8, 2) := by decide +kernel
theorem dX11_init_150 : decode cX11_init 150 = .ok (.newarray .int, 2) := by decide +kernel
theorem dX11_init_152 : decode cX11_init 152 = .ok (.putfield 69, 3) := by decide +kernel
theorem dX11_init_155 : decode cX11_init 155 = .ok (.aload_n 0, 1) := by decide +kernel
theorem dX11_init_156 : decode cX11_init 156 = .ok (.bipush 10, 2) := by decide +kernel
theorem dX11_init_158 : decode cX11_init 158 = .ok (.newarray .int, 2) := by decide +kernel
theorem dX11_init_160 : decode cX11_init 160 = .ok (.putfield 72, 3) := by decide +kernel
theorem dX11_init_163 : decode cX11_init 163 = .ok (.aload_n 0, 1) := by decide +kernel
theorem dX11_init_164 : decode cX11_init 164 = .ok (.bipush 10, 2) := by decide +kernel
theorem dX11_init_166 : decode cX11_init 166 = .ok (.newarray .int, 2) := by decide +kernel
theorem dX11_init_168 : decode cX11_init 168 = .ok (.putfield 75, 3) := by decide +kernel
theorem dX11_init_171 : decode cX11_init 171 = .ok (.aload_n 0, 1) := by decide +kernel
theorem dX11_init_172 : decode cX11_init 172 = .ok (.iconst 2, 1) := by decide +kernel
theorem dX11_init_173 : decode cX11_init 173 = .ok (.newarray .boolean, 2) := by decide +kernel
theorem dX11_init_175 : decode cX11_init 175 = .ok (.putfield 78, 3) := by decide +kernel
theorem dX11_init_178 : decode cX11_init 178 = .ok (.aload_n 0, 1) := by decide +kernel
theorem dX11_init_179 : decode cX11_init 179 = .ok (.iconst 2, 1) := by decide +kernel
theorem dX11_init_180 : decode cX11_init 180 = .ok (.newarray .boolean, 2) := by decide +kernel
theorem dX11_init_182 : decode cX11_init 182 = .ok (.putfield 82, 3) := by decide +kernel
theorem dX11_init_185 : decode cX11_init 185 = .ok (.aload_n 0, 1) := by decide +kernel
theorem dX11_init_186 : decode cX11_init 186 = .ok (.iconst 2, 1) := by decide +kernel
theorem dX11_init_187 : decode cX11_init 187 = .ok (.newarray .boolean, 2) := by decide +kernel
theorem dX11_init_189 : decode cX11_init 189 = .ok (.putfield 85, 3) := by decide +kernel
theorem dX11_init_192 : decode cX11_init 192 = .ok (.aload_n 0, 1) := by decide +kernel
theorem dX11_init_193 : decode cX11_init 193 = .ok (.bipush 6, 2) := by decide +kernel
theorem dX11_init_195 : decode cX11_init 195 = .ok (.newarray .long, 2) := by decide +kernel
theorem dX11_init_197 : decode cX11_init 197 = .ok (.putfield 88, 3) := by decide +kernel
theorem dX11_init_200 : decode cX11_init 200 = .ok (.aload_n 0, 1) := by decide +kernel
theorem dX11_init_201 : decode cX11_init 201 = .ok (.bipush 8, 2) := by decide +kernel
theorem dX11_init_203 : decode cX11_init 203 = .ok (.newarray .long, 2) := by decide +kernel
theorem dX11_init_205 : decode cX11_init 205 = .ok (.putfield 92, 3) := by decide +kernel
theorem dX11_init_208 : decode cX11_init 208 = .ok (.aload_n 0, 1) := by decide +kernel
theorem dX11_init_209 : decode cX11_init 209 = .ok (.bipush 16, 2) := by decide +kernel
theorem dX11_init_211 : decode cX11_init 211 = .ok (.newarray .long, 2) := by decide +kernel
theorem dX11_init_213 : decode cX11_init 213 = .ok (.putfield 95, 3) := by decide +kernel
theorem dX11_init_216 : decode cX11_init 216 = .ok (.aload_n 0, 1) := by decide +kernel
theorem dX11_init_217 : decode cX11_init 217 = .ok (.sipush 1120, 3) := by decide +kernel
theorem dX11_init_220 : decode cX11_init 220 = .ok (.newarray .int, 2) := by decide +kernel
theorem dX11_init_222 : decode cX11_init 222 = .ok (.putfield 98, 3) := by decide +kernel
theorem dX11_init_225 : decode cX11_init 225 = .ok (.aload_n 0, 1) := by decide +kernel
theorem dX11_init_226 : decode cX11_init 226 = .ok (.sipush 1120, 3) := by decide +kernel
theorem dX11_init_229 : decode cX11_init 229 = .ok (.newarray .int, 2) := by decide +kernel
theorem dX11_init_231 : decode cX11_init 231 = .ok (.putfield 101, 3) := by decide +kernel
theorem dX11_init_234 : decode cX11_init 234 = .ok (.aload_n 0, 1) := by decide +kernel
theorem dX11_init_235 : decode cX11_init 235 = .ok (.bipush 90, 2) := by decide +kernel
theorem dX11_init_237 : decode cX11_init 237 = .ok (.newarray .int, 2) := by decide +kernel
theorem dX11_init_239 : decode cX11_init 239 = .ok (.putfield 104, 3) := by decide +kernel
theorem dX11_init_242 : decode cX11_init 242 = .ok (.aload_n 0, 1) := by decide +kernel
theorem dX11_init_243 : decode cX11_init 243 = .ok (.bipush 90, 2) := by decide +kernel
theorem dX11_init_245 : decode cX11_init 245 = .ok (.newarray .int, 2) := by decide +kernel
theorem dX11_init_247 : decode cX11_init 247 = .ok (.putfield 107, 3) := by decide +kernel
theorem dX11_init_250 : decode cX11_init 250 = .ok (.aload_n 0, 1) := by decide +kernel
theorem dX11_init_251 : decode cX11_init 251 = .ok (.bipush 60, 2) := by decide +kernel
theorem dX11_init_253 : decode cX11_init 253 = .ok (.newarray .int, 2) := by decide +kernel
theorem dX11_init_255 : decode cX11_init 255 = .ok (.putfield 110, 3) := by decide +kernel
theorem dX11_init_258 : decode cX11_init 258 = .ok (.aload_n 0, 1) := by decide +kernel
theorem dX11_init_259 : decode cX11_init 259 = .ok (.bipush 43, 2) := by decide +kernel
theorem dX11_init_261 : decode cX11_init 261 = .ok (.newarray .int, 2) := by decide +kernel
theorem dX11_init_263 : decode cX11_init 263 = .ok (.putfield 113, 3) := by decide +kernel
theorem dX11_init_266 : decode cX11_init 266 = .ok (.aload_n 0, 1) := by decide +kernel
theorem dX11_init_267 : decode cX11_init 267 = .ok (.sipush 1763, 3) := by decide +kernel
theorem dX11_init_270 : decode cX11_init 270 = .ok (.newarray .int, 2) := by decide +kernel
theorem dX11_init_272 : decode cX11_init 272 = .ok (.putfield 116, 3) := by decide +kernel
theorem dX11_init_275 : decode cX11_init 275 = .ok (.aload_n 0, 1) := by decide +kernel
theorem dX11_init_276 : decode cX11_init 276 = .ok (.bipush 43, 2) := by decide +kernel
theorem dX11_init_278 : decode cX11_init 278 = .ok (.newarray .int, 2) := by decide +kernel
theorem dX11_init_280 : decode cX11_init 280 = .ok (.putfield 119, 3) := by decide +kernel
theorem dX11_init_283 : decode cX11_init 283 = .ok (.aload_n 0, 1) := by decide +kernel
theorem dX11_init_284 : decode cX11_init 284 = .ok (.iconst 4, 1) := by decide +kernel
theorem dX11_init_285 : decode cX11_init 285 = .ok (.newarray .int, 2) := by decide +kernel
theorem dX11_init_287 : decode cX11_init 287 = .ok (.putfield 122, 3) := by decide +kernel
theorem dX11_init_290 : decode cX11_init 290 = .ok (.aload_n 0, 1) := by decide +kernel
theorem dX11_init_291 : decode cX11_init 291 = .ok (.iconst 4, 1) := by decide +kernel
theorem dX11_init_292 : decode cX11_init 292 = .ok (.newarray .int, 2) := by decide +kernel
theorem dX11_init_294 : decode cX11_init 294 = .ok (.putfield 125, 3) := by decide +kernel
theorem dX11_init_297 : decode cX11_init 297 = .ok (.aload_n 0, 1) := by decide +kernel
theorem dX11_init_298 : decode cX11_init 298 = .ok (.bipush 90, 2) := by decide +kernel
theorem dX11_init_300 : decode cX11_init 300 = .ok (.newarray .int, 2) := by decide +kernel
theorem dX11_init_302 : decode cX11_init 302 = .ok (.putfield 128, 3) := by decide +kernel
theorem dX11_init_305 : decode cX11_init 305 = .ok (.aload_n 0, 1) := by decide +kernel
theorem dX11_init_306 : decode cX11_init 306 = .ok (.bipush 30, 2) := by decide +kernel
theorem dX11_init_308 : decode cX11_init 308 = .ok (.newarray .int, 2) := by decide +kernel
theorem dX11_init_310 : decode cX11_init 310 = .ok (.putfield 131, 3) := by decide +kernel
theorem dX11_init_313 : decode cX11_init 313 = .ok (.aload_n 0, 1) := by decide +kernel
theorem dX11_init_314 : decode cX11_init 314 = .ok (.bipush 30, 2) := by decide +kernel
theorem dX11_init_316 : decode cX11_init 316 = .ok (.newarray .int, 2) := by decide +kernel
theorem dX11_init_318 : decode cX11_init 318 = .ok (.putfield 134, 3) := by decide +kernel
theorem dX11_init_321 : decode cX11_init 321 = .ok (.aload_n 0, 1) := by decide +kernel
theorem dX11_init_322 : decode cX11_init 322 = .ok (.bipush 30, 2) := by decide +kernel
theorem dX11_init_324 : decode cX11_init 324 = .ok (.newarray .int, 2) := by decide +kernel
theorem dX11_init_326 : decode cX11_init 326 = .ok (.putfield 137, 3) := by decide +kernel
theorem dX11_init_329 : decode cX11_init 329 = .ok (.aload_n 0, 1) := by decide +kernel
theorem dX11_init_330 : decode cX11_init 330 = .ok (.bipush 30, 2) := by decide +kernel
theorem dX11_init_332 : decode cX11_init 332 = .ok (.newarray .int, 2) := by decide +kernel
theorem dX11_init_334 : decode cX11_init 334 = .ok (.putfield 140, 3) := by decide +kernel
theorem dX11_init_337 : decode cX11_init 337 = .ok (.aload_n 0, 1) := by decide +kernel
theorem dX11_init_338 : decode cX11_init 338 = .ok (.sipush 129, 3) := by decide +kernel
theorem dX11_init_341 : decode cX11_init 341 = .ok (.newarray .int, 2) := by decide +kernel
theorem dX11_init_343 : decode cX11_init 343 = .ok (.putfield 143, 3) := by decide +kernel
theorem dX11_init_346 : decode cX11_init 346 = .ok (.aload_n 0, 1) := by decide +kernel
theorem dX11_init_347 : decode cX11_init 347 = .ok (.iconst 3, 1) := by decide +kernel
theorem dX11_init_348 : decode cX11_init 348 = .ok (.newarray .boolean, 2) := by decide +kernel
theorem dX11_init_350 : decode cX11_init 350 = .ok (.putfield 146, 3) := by decide +kernel
theorem dX11_init_353 : decode cX11_init 353 = .ok (.aload_n 0, 1) := by decide +kernel
theorem dX11_init_354 : decode cX11_init 354 = .ok (.invokevirtual 149, 3) := by decide +kernel
theorem dX11_init_357 : decode cX11_init 357 = .ok (.aload_n 0, 1) := by decide +kernel
theorem dX11_init_358 : decode cX11_init 358 = .ok (.invokevirtual 152, 3) := by decide +kernel
theorem dX11_init_361 : decode cX11_init 361 = .ok (.return_, 1) := by decide +kernel
theorem z_bk {T : Nat → Option Nat} {q : Nat → Int} {a b j : Nat} (ha : q a = 0) (hb : q b = 0) : th_V T (bkF q a b j) (.int 0) := by
  unfold bkF
  by_cases h : (j : Int) = q 10
  · rw [if_pos h, ha]; exact ⟨0, rfl, by decide, by decide⟩
  · rw [if_neg h, hb]; exact ⟨0, rfl, by decide, by decide⟩
theorem z_bkZ {T : Nat → Option Nat} {q : Nat → Int} {a b j : Nat} (ha : q a = 0) (hb : q b = 0) : th_V T (bkF q a b j) (.int (vp_nar .boolean 0)) := by
  rw [show vp_nar .boolean 0 = 0 from by decide]
  exact z_bk ha hb
def qm : Nat → Int := fun _ => 0
theorem dfl_bk {T : Nat → Option Nat} {a b j : Nat} : th_V T (bkF qm a b j) (.int 0) := z_bk rfl rfl
theorem dfl_ea {T : Nat → Option Nat} {b n j : Nat} : th_V T (eaF qm b n j) (.int 0) := by
  unfold eaF
  by_cases h : j < n
  · rw [if_pos h]; exact ⟨0, rfl, by show (0 : Int) ≤ _; decide, by show _ ≤ (0 : Int); decide⟩
  · rw [if_neg h]; exact ⟨0, rfl, by decide, by decide⟩
theorem qkm_m : qkm qm := ⟨⟨by decide, by decide⟩, ⟨by decide, by decide⟩, ⟨by decide, by decide⟩, ⟨by decide, by decide⟩, ⟨by decide, by decide⟩, ⟨by decide, by decide⟩, ⟨by decide, by decide⟩, ⟨by decide, by decide⟩, ⟨by decide, by decide⟩, ⟨by decide, by decide⟩, ⟨by decide, by decide⟩, ⟨by decide, by decide⟩, ⟨by decide, by decide⟩, ⟨by decide, by decide⟩, ⟨by decide, by decide⟩, ⟨by decide, by decide⟩, ⟨by decide, by decide⟩, ⟨by decide, by decide⟩, ⟨by decide, by decide⟩, ⟨by decide, by decide⟩, ⟨by decide, by decide⟩, ⟨by decide, by decide⟩, ⟨by decide, by decide⟩, ⟨by decide, by decide⟩, ⟨by decide, by decide⟩, bgood_0⟩
theorem tokm_of {T T2 : Nat → Option Nat} {sz a : Nat} {nk : List Nat} (x : th_ext (List.range 45) T T2 sz a 0 nk) (h0 : ∀ b, T b = none) (hk : ∀ j ∈ nk, j ≠ 0 ∧ j < 45) : tokm T2 := by
  have key : ∀ b j, T2 b = some j → (b = a ∧ j = 0) ∨ (b ≠ a ∧ sz ≤ b ∧ j ∈ nk) := fun b j e => by
    by_cases z : b = a
    · rw [z, x.1] at e
      cases e
      exact Or.inl ⟨z, rfl⟩
    · by_cases hl : b < sz
      · rw [x.2.1 b hl z, h0] at e
        cases e
      · exact Or.inr ⟨z, by omega, x.2.2.1 b j (by omega) z e⟩
  intro k b b2 e e2
  rcases key b k e with ⟨h1, h2⟩ | ⟨h1, h2, h3⟩
  · rcases key b2 k e2 with ⟨f1, f2⟩ | ⟨f1, f2, f3⟩
    · rw [h1, f1]
    · exact absurd h2 (hk k f3).1
  · rcases key b2 k e2 with ⟨f1, f2⟩ | ⟨f1, f2, f3⟩
    · exact absurd f2 (hk k h3).1
    · exact x.2.2.2 k (List.mem_range.mpr (hk k h3).2) b b2 h2 f2 h1 f1 e e2
/-- behind the reference's constructor -/
def th_QCm (D : va_G) (cT : Nat → ClassId) (T : Nat → Option Nat) (a sz : Nat) : Array Value → State → Outcome → State → Prop := fun _ st oc t => (∃ (T2 : Nat → Option Nat) (q2 : Nat → Int), oc = .returned none ∧ T2 a = some 0 ∧ tokm T2 ∧ qkm q2 ∧ q2 7 + q2 8 ≤ 40 ∧ q2 9 = 0 ∧ (∀ b j, T2 b = some j → b = a ∨ sz ≤ b) ∧ th_W D cT T2 (km q2) t) ∧ va_F (th_cA a sz) st t
theorem th_ext_new {U : List Nat} {T T2 : Nat → Option Nat} {sz a k : Nat} {nk : List Nat} (x : th_ext U T T2 sz a k nk) (h0 : ∀ b, T b = none) : ∀ b j, T2 b = some j → b = a ∨ sz ≤ b := fun b j e => by
  by_cases z : b = a
  · exact Or.inl z
  · by_cases hl : b < sz
    · rw [x.2.1 b hl z, h0] at e
      cases e
    · exact Or.inr (by omega)
theorem th_startCm {l : Launch} {D : va_G} {cT : Nat → ClassId} {T : Nat → Option Nat} {Ks : Nat → th_K} {y : MethodName} {bytes : ByteArray} {maxL ci a sz mc ms : Nat} {rm : Room} {vs : List Value} {Qc : Array Value → State → Outcome → State → Prop} (hy : plainName y.cls = true) (hlen : (lg_sl [.ref a]).length ≤ maxL)
    (body : ∀ (p : Program) (e : Env) (s : State) (m : MethodId) (below : List Frame) (meth : Method) (c : Code) (ls : Array Slot), CallFix p m c bytes maxL s [Value.ref a].toArray gw y.cls → va_K D classes (th_tys cT) s → th_E s → th_H D cT T Ks s.heap → s.heap.size = sz → T a = none → va_at D classes (a, .inr (ci, vs)) s.heap → meth.sig.returnType = none → meth.locks = false → meth.name = y.name → lv_has ls maxL (lv_args 0 [.ref a]) →
      W p l e rm s m [Value.ref a].toArray below meth c s.heap [] 0 0 (MQ below Qc [Value.ref a].toArray s mc ms (th_cA a sz)) (F0 m 0 ls [])) : Met l y (Cond.code y bytes maxL none :: gw) rm (va_Pc [.ref a] (th_PC D cT T Ks ci vs a sz)) Qc mc ms (th_cA a sz) := by
  refine Met.ofW (cc := bytes) (maxL := maxL) (ret := none) hy rfl ?_
  intro p e s m args below meth c s₁ B hml hv
  obtain ⟨rfl, hsz, ⟨hH, hK⟩, hn, hR, hO⟩ := hv
  have hts := atoms_spec (ws := Cond.code y bytes maxL none :: gw) B.pre
  rw [lg_entry_eq]
  exact body p e s m below meth c _ ⟨B.exec, B.bytes, hml, findClass_of_methodNamed B.named, fun w hw => hts w (List.mem_cons_of_mem _ hw)⟩ hK hO hH hsz hn hR B.returns B.notSynchronized (name_of_methodNamed B.named B.method).1 (lv_entry [.ref a] hlen)
set_option maxHeartbeats 20000000 in
set_option maxRecDepth 100000 in
theorem m_X11_clearBank_z (l : Launch) (D : va_G) (cT : Nat → ClassId) (T : Nat → Option Nat) (q : Nat → Int) (hT : tokm T) (hq : qkm q) (a0 : Nat) (t0 : T a0 = some 0) (hp0 : q 11 = 0 ∧ q 12 = 0 ∧ q 14 = 0 ∧ q 15 = 0 ∧ q 16 = 0 ∧ q 17 = 0 ∧ q 18 = 0 ∧ q 19 = 0 ∧ q 24 = 0 ∧ q 25 = 0) : th_MetM l D cT T q yX11_clearBank cX11_clearBank 1 none (rmk 0 0) [.ref a0] (fun v q2 => v = none ∧ qkm q2 ∧ fr [20] q q2 ∧ (q2 20 = 560 * q 13)) [0, 3, 4, 5, 6, 7, 8, 9, 13, 22, 23, 24] := by
  refine th_startM (by decide) (Nat.le_of_ble_eq_true rfl) ?_
  intro p e s m below meth c ls S hK hH hr hlocks hnm hl
  have hx := S.1
  have hb := S.2.1
  have b13 := qkm_13 hq
  have hl : lv_has ls 1 [(0, .ref a0)] := hl
  have J0 : ∀ (H : Heap) (locs : List Loc) (ls : Array Slot), th_H D cT T (km q) H → va_S (th_A T [0, 3, 4, 5, 6, 7, 8, 9, 13, 22, 23, 24]) s.heap H locs → lv_has ls 1 [(0, .ref a0)] → W p l e (rmk 0 0) s m [.ref a0].toArray below meth c H locs 0 0 (MQ below (th_QM D cT T (fun v q2 => v = none ∧ qkm q2 ∧ fr [20] q q2 ∧ (q2 20 = 560 * q 13)) [0, 3, 4, 5, 6, 7, 8, 9, 13, 22, 23, 24]) [.ref a0].toArray s 0 0 (th_A T [0, 3, 4, 5, 6, 7, 8, 9, 13, 22, 23, 24])) (F0 m 0 ls []) := by
    intro H locs ls hH hS hl
    refine lv_aload_n hx hb dX11_clearBank_0 rfl (lv_at hl 0 rfl) ?_
    refine th_get S hK hH inG11 t0 km_0 rfl 11 (by decide) gm_1241 rfl rfl dX11_clearBank_1 (fun v1 hv1 fv1 => ?_)
    obtain ⟨rf2, rfl, trf2⟩ := th_V.ref hv1
    refine lv_aload_n hx hb dX11_clearBank_4 rfl (lv_at hl 0 rfl) ?_
    refine th_get S hK hH inG11 t0 km_0 rfl 42 (by decide) gm_1272 rfl rfl dX11_clearBank_5 (fun v3 hv3 fv3 => ?_)
    obtain ⟨x4, rfl, ix4⟩ := th_V.int hv3
    have kx4 : x4.toInt = q 13 := Int.le_antisymm ix4.2 ix4.1
    have bx4 := qkm_13 hq
    have ix4 : IV x4 0 1 := iv_w ix4 (qkm_13 hq)
    refine lv_iconst (v := 0) hx hb dX11_clearBank_8 (by decide) ?_
    refine th_iast S hK hH hS ⟨3, by decide, trf2⟩ trf2 km_3 (th_in (hi := 1) ix4 (by decide)) (z_bk (by omega) (by omega)) dX11_clearBank_9 (fun H locs hH hS hq1 => ?_)
    refine lv_aload_n hx hb dX11_clearBank_10 rfl (lv_at hl 0 rfl) ?_
    refine th_get S hK hH inG11 t0 km_0 rfl 12 (by decide) gm_1242 rfl rfl dX11_clearBank_11 (fun v5 hv5 fv5 => ?_)
    obtain ⟨rf6, rfl, trf6⟩ := th_V.ref hv5
    refine lv_aload_n hx hb dX11_clearBank_14 rfl (lv_at hl 0 rfl) ?_
    refine th_get S hK hH inG11 t0 km_0 rfl 42 (by decide) gm_1272 rfl rfl dX11_clearBank_15 (fun v7 hv7 fv7 => ?_)
    obtain ⟨x8, rfl, ix8⟩ := th_V.int hv7
    have kx8 : x8.toInt = q 13 := Int.le_antisymm ix8.2 ix8.1
    have bx8 := qkm_13 hq
    have ix8 : IV x8 0 1 := iv_w ix8 (qkm_13 hq)
    refine lv_iconst (v := 0) hx hb dX11_clearBank_18 (by decide) ?_
    refine th_iast S hK hH hS ⟨4, by decide, trf6⟩ trf6 km_4 (th_in (hi := 1) ix8 (by decide)) (z_bk (by omega) (by omega)) dX11_clearBank_19 (fun H locs hH hS hq1 => ?_)
    refine lv_aload_n hx hb dX11_clearBank_20 rfl (lv_at hl 0 rfl) ?_
    refine th_get S hK hH inG11 t0 km_0 rfl 13 (by decide) gm_1243 rfl rfl dX11_clearBank_21 (fun v9 hv9 fv9 => ?_)
    obtain ⟨rf10, rfl, trf10⟩ := th_V.ref hv9
    refine lv_aload_n hx hb dX11_clearBank_24 rfl (lv_at hl 0 rfl) ?_
    refine th_get S hK hH inG11 t0 km_0 rfl 42 (by decide) gm_1272 rfl rfl dX11_clearBank_25 (fun v11 hv11 fv11 => ?_)
    obtain ⟨x12, rfl, ix12⟩ := th_V.int hv11
    have kx12 : x12.toInt = q 13 := Int.le_antisymm ix12.2 ix12.1
    have bx12 := qkm_13 hq
    have ix12 : IV x12 0 1 := iv_w ix12 (qkm_13 hq)
    refine lv_iconst (v := 0) hx hb dX11_clearBank_28 (by decide) ?_
    refine th_iast S hK hH hS ⟨5, by decide, trf10⟩ trf10 km_5 (th_in (hi := 1) ix12 (by decide)) (z_bk (by omega) (by omega)) dX11_clearBank_29 (fun H locs hH hS hq1 => ?_)
    refine lv_aload_n hx hb dX11_clearBank_30 rfl (lv_at hl 0 rfl) ?_
    refine th_get S hK hH inG11 t0 km_0 rfl 14 (by decide) gm_1244 rfl rfl dX11_clearBank_31 (fun v13 hv13 fv13 => ?_)
    obtain ⟨rf14, rfl, trf14⟩ := th_V.ref hv13
    refine lv_aload_n hx hb dX11_clearBank_34 rfl (lv_at hl 0 rfl) ?_
    refine th_get S hK hH inG11 t0 km_0 rfl 42 (by decide) gm_1272 rfl rfl dX11_clearBank_35 (fun v15 hv15 fv15 => ?_)
    obtain ⟨x16, rfl, ix16⟩ := th_V.int hv15
    have kx16 : x16.toInt = q 13 := Int.le_antisymm ix16.2 ix16.1
    have bx16 := qkm_13 hq
    have ix16 : IV x16 0 1 := iv_w ix16 (qkm_13 hq)
    refine lv_iconst (v := 0) hx hb dX11_clearBank_38 (by decide) ?_
    refine th_iast S hK hH hS ⟨6, by decide, trf14⟩ trf14 km_6 (th_in (hi := 1) ix16 (by decide)) (th_iv (iv_top _)) dX11_clearBank_39 (fun H locs hH hS hq1 => ?_)
    refine lv_aload_n hx hb dX11_clearBank_40 rfl (lv_at hl 0 rfl) ?_
    refine th_get S hK hH inG11 t0 km_0 rfl 15 (by decide) gm_1245 rfl rfl dX11_clearBank_41 (fun v17 hv17 fv17 => ?_)
    obtain ⟨rf18, rfl, trf18⟩ := th_V.ref hv17
    refine lv_aload_n hx hb dX11_clearBank_44 rfl (lv_at hl 0 rfl) ?_
    refine th_get S hK hH inG11 t0 km_0 rfl 42 (by decide) gm_1272 rfl rfl dX11_clearBank_45 (fun v19 hv19 fv19 => ?_)
    obtain ⟨x20, rfl, ix20⟩ := th_V.int hv19
    have kx20 : x20.toInt = q 13 := Int.le_antisymm ix20.2 ix20.1
    have bx20 := qkm_13 hq
    have ix20 : IV x20 0 1 := iv_w ix20 (qkm_13 hq)
    refine lv_iconst (v := 0) hx hb dX11_clearBank_48 (by decide) ?_
    refine th_iast S hK hH hS ⟨7, by decide, trf18⟩ trf18 km_7 (th_in (hi := 1) ix20 (by decide)) (th_iv (iv_top _)) dX11_clearBank_49 (fun H locs hH hS hq1 => ?_)
    refine lv_aload_n hx hb dX11_clearBank_50 rfl (lv_at hl 0 rfl) ?_
    refine th_get S hK hH inG11 t0 km_0 rfl 16 (by decide) gm_1246 rfl rfl dX11_clearBank_51 (fun v21 hv21 fv21 => ?_)
    obtain ⟨rf22, rfl, trf22⟩ := th_V.ref hv21
    refine lv_aload_n hx hb dX11_clearBank_54 rfl (lv_at hl 0 rfl) ?_
    refine th_get S hK hH inG11 t0 km_0 rfl 42 (by decide) gm_1272 rfl rfl dX11_clearBank_55 (fun v23 hv23 fv23 => ?_)
    obtain ⟨x24, rfl, ix24⟩ := th_V.int hv23
    have kx24 : x24.toInt = q 13 := Int.le_antisymm ix24.2 ix24.1
    have bx24 := qkm_13 hq
    have ix24 : IV x24 0 1 := iv_w ix24 (qkm_13 hq)
    refine lv_iconst (v := 0) hx hb dX11_clearBank_58 (by decide) ?_
    refine th_iast S hK hH hS ⟨8, by decide, trf22⟩ trf22 km_8 (th_in (hi := 1) ix24 (by decide)) (z_bk (by omega) (by omega)) dX11_clearBank_59 (fun H locs hH hS hq1 => ?_)
    refine lv_aload_n hx hb dX11_clearBank_60 rfl (lv_at hl 0 rfl) ?_
    refine th_get S hK hH inG11 t0 km_0 rfl 17 (by decide) gm_1247 rfl rfl dX11_clearBank_61 (fun v25 hv25 fv25 => ?_)
    obtain ⟨rf26, rfl, trf26⟩ := th_V.ref hv25
    refine lv_aload_n hx hb dX11_clearBank_64 rfl (lv_at hl 0 rfl) ?_
    refine th_get S hK hH inG11 t0 km_0 rfl 42 (by decide) gm_1272 rfl rfl dX11_clearBank_65 (fun v27 hv27 fv27 => ?_)
    obtain ⟨x28, rfl, ix28⟩ := th_V.int hv27
    have kx28 : x28.toInt = q 13 := Int.le_antisymm ix28.2 ix28.1
    have bx28 := qkm_13 hq
    have ix28 : IV x28 0 1 := iv_w ix28 (qkm_13 hq)
    refine lv_iconst (v := 0) hx hb dX11_clearBank_68 (by decide) ?_
    refine th_iast S hK hH hS ⟨9, by decide, trf26⟩ trf26 km_9 (th_in (hi := 1) ix28 (by decide)) (th_iv (iv_top _)) dX11_clearBank_69 (fun H locs hH hS hq1 => ?_)
    refine lv_aload_n hx hb dX11_clearBank_70 rfl (lv_at hl 0 rfl) ?_
    refine th_get S hK hH inG11 t0 km_0 rfl 21 (by decide) gm_1251 rfl rfl dX11_clearBank_71 (fun v29 hv29 fv29 => ?_)
    obtain ⟨rf30, rfl, trf30⟩ := th_V.ref hv29
    refine lv_aload_n hx hb dX11_clearBank_74 rfl (lv_at hl 0 rfl) ?_
    refine th_get S hK hH inG11 t0 km_0 rfl 42 (by decide) gm_1272 rfl rfl dX11_clearBank_75 (fun v31 hv31 fv31 => ?_)
    obtain ⟨x32, rfl, ix32⟩ := th_V.int hv31
    have kx32 : x32.toInt = q 13 := Int.le_antisymm ix32.2 ix32.1
    have bx32 := qkm_13 hq
    have ix32 : IV x32 0 1 := iv_w ix32 (qkm_13 hq)
    refine lv_iconst (v := 0) hx hb dX11_clearBank_78 (by decide) ?_
    refine th_iast S hK hH hS ⟨13, by decide, trf30⟩ trf30 km_13 (th_in (hi := 1) ix32 (by decide)) (th_iv (iv_top _)) dX11_clearBank_79 (fun H locs hH hS hq1 => ?_)
    refine lv_aload_n hx hb dX11_clearBank_80 rfl (lv_at hl 0 rfl) ?_
    refine th_get S hK hH inG11 t0 km_0 rfl 30 (by decide) gm_1260 rfl rfl dX11_clearBank_81 (fun v33 hv33 fv33 => ?_)
    obtain ⟨rf34, rfl, trf34⟩ := th_V.ref hv33
    refine lv_aload_n hx hb dX11_clearBank_84 rfl (lv_at hl 0 rfl) ?_
    refine th_get S hK hH inG11 t0 km_0 rfl 42 (by decide) gm_1272 rfl rfl dX11_clearBank_85 (fun v35 hv35 fv35 => ?_)
    obtain ⟨x36, rfl, ix36⟩ := th_V.int hv35
    have kx36 : x36.toInt = q 13 := Int.le_antisymm ix36.2 ix36.1
    have bx36 := qkm_13 hq
    have ix36 : IV x36 0 1 := iv_w ix36 (qkm_13 hq)
    refine lv_iconst (v := 0) hx hb dX11_clearBank_88 (by decide) ?_
    refine th_zastM (Ks2 := km q) S hK hH hS ⟨22, by decide, trf34⟩ trf34 (mo_of hT trf34) km_22 km_22 (fun _ _ => rfl) (fun _ _ _ => rfl) (th_in (hi := 1) ix36 (by decide)) (z_bkZ (by omega) (by omega)) dX11_clearBank_89 (fun H locs hH hS hq1 => ?_)
    refine lv_aload_n hx hb dX11_clearBank_90 rfl (lv_at hl 0 rfl) ?_
    refine th_get S hK hH inG11 t0 km_0 rfl 31 (by decide) gm_1261 rfl rfl dX11_clearBank_91 (fun v37 hv37 fv37 => ?_)
    obtain ⟨rf38, rfl, trf38⟩ := th_V.ref hv37
    refine lv_aload_n hx hb dX11_clearBank_94 rfl (lv_at hl 0 rfl) ?_
    refine th_get S hK hH inG11 t0 km_0 rfl 42 (by decide) gm_1272 rfl rfl dX11_clearBank_95 (fun v39 hv39 fv39 => ?_)
    obtain ⟨x40, rfl, ix40⟩ := th_V.int hv39
    have kx40 : x40.toInt = q 13 := Int.le_antisymm ix40.2 ix40.1
    have bx40 := qkm_13 hq
    have ix40 : IV x40 0 1 := iv_w ix40 (qkm_13 hq)
    refine lv_iconst (v := 0) hx hb dX11_clearBank_98 (by decide) ?_
    refine th_zast S hK hH hS ⟨23, by decide, trf38⟩ trf38 km_23 (th_in (hi := 1) ix40 (by decide)) (fun z => th_iv (iv_nbool z)) dX11_clearBank_99 (fun H locs hH hS hq1 => ?_)
    refine lv_aload_n hx hb dX11_clearBank_100 rfl (lv_at hl 0 rfl) ?_
    refine th_get S hK hH inG11 t0 km_0 rfl 32 (by decide) gm_1262 rfl rfl dX11_clearBank_101 (fun v41 hv41 fv41 => ?_)
    obtain ⟨rf42, rfl, trf42⟩ := th_V.ref hv41
    refine lv_aload_n hx hb dX11_clearBank_104 rfl (lv_at hl 0 rfl) ?_
    refine th_get S hK hH inG11 t0 km_0 rfl 42 (by decide) gm_1272 rfl rfl dX11_clearBank_105 (fun v43 hv43 fv43 => ?_)
    obtain ⟨x44, rfl, ix44⟩ := th_V.int hv43
    have kx44 : x44.toInt = q 13 := Int.le_antisymm ix44.2 ix44.1
    have bx44 := qkm_13 hq
    have ix44 : IV x44 0 1 := iv_w ix44 (qkm_13 hq)
    refine lv_iconst (v := 0) hx hb dX11_clearBank_108 (by decide) ?_
    refine th_zast S hK hH hS ⟨24, by decide, trf42⟩ trf42 km_24 (th_in (hi := 1) ix44 (by decide)) (fun z => th_iv (iv_nbool z)) dX11_clearBank_109 (fun H locs hH hS hq1 => ?_)
    refine lv_aload_n hx hb dX11_clearBank_110 rfl (lv_at hl 0 rfl) ?_
    refine lv_sipush (v := 560) hx hb dX11_clearBank_111 (by decide) ?_
    refine lv_aload_n hx hb dX11_clearBank_114 rfl (lv_at hl 0 rfl) ?_
    refine th_get S hK hH inG11 t0 km_0 rfl 42 (by decide) gm_1272 rfl rfl dX11_clearBank_115 (fun v45 hv45 fv45 => ?_)
    obtain ⟨x46, rfl, ix46⟩ := th_V.int hv45
    have kx46 : x46.toInt = q 13 := Int.le_antisymm ix46.2 ix46.1
    have bx46 := qkm_13 hq
    have ix46 : IV x46 0 1 := iv_w ix46 (qkm_13 hq)
    refine lv_imul hx hb dX11_clearBank_118 ?_
    refine lv_topi (fun x47 ex47 => ?_)
    have ix47 : IV x47 0 560 := by rw [ex47]; exact iv_mul (iv_c (by decide) : IV 560 560 560) ix46 (by decide) (by decide)
    have ux47 : x47.toInt = (560 : Int) * x46.toInt := by rw [ex47]; exact iv_mulE (iv_corner ((iv_c (by decide) : IV 560 560 560)).1 ((iv_c (by decide) : IV 560 560 560)).2 (ix46).1 (ix46).2 (by decide))
    obtain ⟨n49, en49⟩ : ∃ z : Int, z = Int32.toInt x47 := ⟨_, rfl⟩
    refine mput_20 S hK hH hS ⟨0, by decide, t0⟩ hT t0 en49 gm_1273 dX11_clearBank_119 (fun q48 H locs eq48 hH hS hq1 => ?_)
    have hqq48 : qkm q48 := by rw [eq48]; exact qum_ok20 hq (iv_z en49 (iv_w ix47 (by decide)))
    have h0q48 : fr [20] q q48 := by rw [eq48]; exact fr_up fr_rf (by decide)
    have wq48_10 : q48 10 = q 10 := by rw [eq48]; rfl
    have wq48_13 : q48 13 = q 13 := by rw [eq48]; rfl
    have wq48_20 : q48 20 = n49 := by rw [eq48]; rfl
    exact th_vretM S hK hH hS hr hlocks ⟨rfl, hqq48, h0q48, (show q48 20 = 560 * q 13 by omega)⟩ dX11_clearBank_122
  exact J0 s.heap [] ls hH va_S.rf hl

set_option maxHeartbeats 4000000 in
set_option maxRecDepth 100000 in
theorem k_X11_init (l : Launch) (D : va_G) (cT : Nat → ClassId) (T : Nat → Option Nat) (a sz : Nat) (hT0 : ∀ b, T b = none) : Met l yX11_init (Cond.code yX11_init cX11_init 1 none :: gw) (rmc 2 44 8081 41) (va_Pc [.ref a] (th_PC D cT T (km qm) 11 [.null, .null, .int 0, .int 0, .int 0, .int 0, .int 0, .int 0, .int 0, .int 0, .long 0, .null, .null, .null, .null, .null, .null, .null, .null, .null, .null, .null, .null, .null, .null, .null, .null, .null, .null, .null, .null, .null, .null, .null, .null, .null, .null, .null, .null, .null, .null, .int 0, .int 0, .int 0, .int 0, .int 0, .int 0, .int 0, .int 0, .int 0, .int 0, .int 0, .null, .null, .int 0, .int 0, .null, .null, .null, .int 0, .null, .null, .null, .null, .null, .int 0, .int 0, .null, .null] a sz)) (th_QCm D cT T a sz) 44 8081 (th_cA a sz) := by
  refine th_startCm (by decide) (Nat.le_of_ble_eq_true rfl) ?_
  intro p e s m below meth c ls S hK hO hH0 hsz hn hR0 hr hlocks hnm hl
  have hx := S.1; have hb := S.2.1
  have hown := S.2.2.2.1; have hts := S.2.2.2.2
  have hA : ∀ q, s.heap.size ≤ q → th_cA a sz q := fun q h => Or.inr (by omega)
  have gr0 : th_grow (List.range 45) T T sz [] := th_grow.rf (fun b hb => hH0.free (by omega))
  have hl : lv_has ls 1 [(0, .ref a)] := hl
  have hla0 : a < sz := by have := hR0.lt; have h2 : a < s.heap.size := this; omega
  suffices main : ∀ (H : Heap) (locs : List Loc), th_H D cT T (km qm) H → va_at D classes (a, .inr (11, [.null, .null, .int 0, .int 0, .int 0, .int 0, .int 0, .int 0, .int 0, .int 0, .long 0, .null, .null, .null, .null, .null, .null, .null, .null, .null, .null, .null, .null, .null, .null, .null, .null, .null, .null, .null, .null, .null, .null, .null, .null, .null, .null, .null, .null, .null, .null, .int 0, .int 0, .int 0, .int 0, .int 0, .int 0, .int 0, .int 0, .int 0, .int 0, .int 0, .null, .null, .int 0, .int 0, .null, .null, .null, .int 0, .null, .null, .null, .null, .null, .int 0, .int 0, .null, .null])) H → va_S (th_cA a sz) s.heap H locs → sz ≤ H.size → W p l e (rmc 2 44 8081 41) s m [.ref a].toArray below meth c H locs 0 0 (MQ below (th_QCm D cT T a sz) [.ref a].toArray s 44 8081 (th_cA a sz)) (F0 m 0 ls []) from main s.heap [] hH0 hR0 va_S.rf (by omega)
  intro H locs hH hR hS hsz0
  refine lv_aload_n hx hb dX11_init_0 rfl (lv_at hl 0 rfl) ?_
  refine W.objInit hx hb hown (hts _ gm_1217) (hts _ gm_140) (hts _ gm_141) rfl (hl.1.trans S.2.2.1.symm) rfl dX11_init_1 (Nat.le_of_ble_eq_true rfl) (Nat.le_of_ble_eq_true rfl) ?_
  refine W.eq (g2 := F0 m 4 ls []) rfl ?_
  refine lv_aload_n hx hb dX11_init_4 rfl (lv_at hl 0 rfl) ?_
  refine lv_sipush (v := 1620) hx hb dX11_init_5 (by decide) ?_
  refine th_newa (atype := .byte) (t := 1) (N := 1620) S hK hH hS 1 gm_173 rfl km_1 (fun T2 j hj => ⟨0, rfl, by decide, by decide⟩) (by decide) (by decide) (by decide) (by decide) (by decide) dX11_init_8 (fun h1 H eh1 hH nh1 hS zh1 kh1 => ?_)
  have neh1 : a ≠ h1 := by omega
  have hR : va_at D classes (a, .inr (11, [.null, .null, .int 0, .int 0, .int 0, .int 0, .int 0, .int 0, .int 0, .int 0, .long 0, .null, .null, .null, .null, .null, .null, .null, .null, .null, .null, .null, .null, .null, .null, .null, .null, .null, .null, .null, .null, .null, .null, .null, .null, .null, .null, .null, .null, .null, .null, .int 0, .int 0, .int 0, .int 0, .int 0, .int 0, .int 0, .int 0, .int 0, .int 0, .int 0, .null, .null, .int 0, .int 0, .null, .null, .null, .int 0, .null, .null, .null, .null, .null, .int 0, .int 0, .null, .null])) H := hR.kept (kh1 a (by omega))
  have hsz0 : sz ≤ H.size := by omega
  obtain ⟨T2, eT2⟩ : ∃ t, t = th_new T h1 1 := ⟨_, rfl⟩
  rw [← eT2] at hH
  have mo3 : ∀ b j, T b = some j → T2 b = some j := by rw [eT2]; exact th_new_sub nh1
  have gr4 : th_grow (List.range 45) T T2 sz [1] := by rw [eT2]; exact gr0.new (by omega) (by decide)
  have fh1 : T2 h1 = some 1 := by rw [eT2]; exact th_new_self
  have hn : T2 a = none := by rw [eT2]; exact (th_new_ne neh1).trans hn
  refine th_putRF (ty := .array .byte) (v := .ref h1) S hK hH hS (Or.inl rfl) hn hR inG11 tyX11 tyX11_ok nmX11 rfl 0 (by decide) gm_1230 rfl rfl hnm rfl (by decide +kernel) rfl rfl (Nat.le_of_ble_eq_true rfl) dX11_init_10 (fun H locs hR hH hS zp kp => ?_)
  have hR : va_at D classes (a, .inr (11, [.ref h1, .null, .int 0, .int 0, .int 0, .int 0, .int 0, .int 0, .int 0, .int 0, .long 0, .null, .null, .null, .null, .null, .null, .null, .null, .null, .null, .null, .null, .null, .null, .null, .null, .null, .null, .null, .null, .null, .null, .null, .null, .null, .null, .null, .null, .null, .null, .int 0, .int 0, .int 0, .int 0, .int 0, .int 0, .int 0, .int 0, .int 0, .int 0, .int 0, .null, .null, .int 0, .int 0, .null, .null, .null, .int 0, .null, .null, .null, .null, .null, .int 0, .int 0, .null, .null])) H := hR
  have hsz0 : sz ≤ H.size := by omega
  refine lv_aload_n hx hb dX11_init_13 rfl (lv_at hl 0 rfl) ?_
  refine lv_sipush (v := 1600) hx hb dX11_init_14 (by decide) ?_
  refine th_newa (atype := .byte) (t := 1) (N := 1600) S hK hH hS 2 gm_173 rfl km_2 (fun T2 j hj => dfl_ea) (by decide) (by decide) (by decide) (by decide) (by decide) dX11_init_17 (fun h5 H eh5 hH nh5 hS zh5 kh5 => ?_)
  have neh5 : a ≠ h5 := by omega
  have hR : va_at D classes (a, .inr (11, [.ref h1, .null, .int 0, .int 0, .int 0, .int 0, .int 0, .int 0, .int 0, .int 0, .long 0, .null, .null, .null, .null, .null, .null, .null, .null, .null, .null, .null, .null, .null, .null, .null, .null, .null, .null, .null, .null, .null, .null, .null, .null, .null, .null, .null, .null, .null, .null, .int 0, .int 0, .int 0, .int 0, .int 0, .int 0, .int 0, .int 0, .int 0, .int 0, .int 0, .null, .null, .int 0, .int 0, .null, .null, .null, .int 0, .null, .null, .null, .null, .null, .int 0, .int 0, .null, .null])) H := hR.kept (kh5 a (by omega))
  have hsz0 : sz ≤ H.size := by omega
  obtain ⟨T6, eT6⟩ : ∃ t, t = th_new T2 h5 2 := ⟨_, rfl⟩
  rw [← eT6] at hH
  have mo7 : ∀ b j, T2 b = some j → T6 b = some j := by rw [eT6]; exact th_new_sub nh5
  have gr8 : th_grow (List.range 45) T T6 sz [2, 1] := by rw [eT6]; exact gr4.new (by omega) (by decide)
  have fh5 : T6 h5 = some 2 := by rw [eT6]; exact th_new_self
  have hn : T6 a = none := by rw [eT6]; exact (th_new_ne neh5).trans hn
  refine th_putRF (ty := .array .byte) (v := .ref h5) S hK hH hS (Or.inl rfl) hn hR inG11 tyX11 tyX11_ok nmX11 rfl 1 (by decide) gm_1231 rfl rfl hnm rfl (by decide +kernel) rfl rfl (Nat.le_of_ble_eq_true rfl) dX11_init_19 (fun H locs hR hH hS zp kp => ?_)
  have hR : va_at D classes (a, .inr (11, [.ref h1, .ref h5, .int 0, .int 0, .int 0, .int 0, .int 0, .int 0, .int 0, .int 0, .long 0, .null, .null, .null, .null, .null, .null, .null, .null, .null, .null, .null, .null, .null, .null, .null, .null, .null, .null, .null, .null, .null, .null, .null, .null, .null, .null, .null, .null, .null, .null, .int 0, .int 0, .int 0, .int 0, .int 0, .int 0, .int 0, .int 0, .int 0, .int 0, .int 0, .null, .null, .int 0, .int 0, .null, .null, .null, .int 0, .null, .null, .null, .null, .null, .int 0, .int 0, .null, .null])) H := hR
  have hsz0 : sz ≤ H.size := by omega
  refine lv_aload_n hx hb dX11_init_22 rfl (lv_at hl 0 rfl) ?_
  refine lv_iconst (v := (-1)) hx hb dX11_init_23 (by decide) ?_
  refine th_putR (ty := .int) (v := .int (-1)) S hK hH hS (Or.inl rfl) hn hR inG11 tyX11 tyX11_ok nmX11 rfl 5 (by decide) gm_1235 rfl rfl (by decide +kernel) rfl rfl (Nat.le_of_ble_eq_true rfl) dX11_init_24 (fun H locs hR hH hS zp kp => ?_)
  have hR : va_at D classes (a, .inr (11, [.ref h1, .ref h5, .int 0, .int 0, .int 0, .int (-1), .int 0, .int 0, .int 0, .int 0, .long 0, .null, .null, .null, .null, .null, .null, .null, .null, .null, .null, .null, .null, .null, .null, .null, .null, .null, .null, .null, .null, .null, .null, .null, .null, .null, .null, .null, .null, .null, .null, .int 0, .int 0, .int 0, .int 0, .int 0, .int 0, .int 0, .int 0, .int 0, .int 0, .int 0, .null, .null, .int 0, .int 0, .null, .null, .null, .int 0, .null, .null, .null, .null, .null, .int 0, .int 0, .null, .null])) H := hR
  have hsz0 : sz ≤ H.size := by omega
  refine lv_aload_n hx hb dX11_init_27 rfl (lv_at hl 0 rfl) ?_
  refine lv_iconst (v := 2) hx hb dX11_init_28 (by decide) ?_
  refine th_newa (atype := .int) (t := 0) (N := 2) S hK hH hS 3 gm_174 rfl km_3 (fun T2 j hj => dfl_bk) (by decide) (by decide) (by decide) (by decide) (by decide) dX11_init_29 (fun h9 H eh9 hH nh9 hS zh9 kh9 => ?_)
  have neh9 : a ≠ h9 := by omega
  have hR : va_at D classes (a, .inr (11, [.ref h1, .ref h5, .int 0, .int 0, .int 0, .int (-1), .int 0, .int 0, .int 0, .int 0, .long 0, .null, .null, .null, .null, .null, .null, .null, .null, .null, .null, .null, .null, .null, .null, .null, .null, .null, .null, .null, .null, .null, .null, .null, .null, .null, .null, .null, .null, .null, .null, .int 0, .int 0, .int 0, .int 0, .int 0, .int 0, .int 0, .int 0, .int 0, .int 0, .int 0, .null, .null, .int 0, .int 0, .null, .null, .null, .int 0, .null, .null, .null, .null, .null, .int 0, .int 0, .null, .null])) H := hR.kept (kh9 a (by omega))
  have hsz0 : sz ≤ H.size := by omega
  obtain ⟨T10, eT10⟩ : ∃ t, t = th_new T6 h9 3 := ⟨_, rfl⟩
  rw [← eT10] at hH
  have mo11 : ∀ b j, T6 b = some j → T10 b = some j := by rw [eT10]; exact th_new_sub nh9
  have gr12 : th_grow (List.range 45) T T10 sz [3, 2, 1] := by rw [eT10]; exact gr8.new (by omega) (by decide)
  have fh9 : T10 h9 = some 3 := by rw [eT10]; exact th_new_self
  have hn : T10 a = none := by rw [eT10]; exact (th_new_ne neh9).trans hn
  refine th_putRF (ty := .array .int) (v := .ref h9) S hK hH hS (Or.inl rfl) hn hR inG11 tyX11 tyX11_ok nmX11 rfl 11 (by decide) gm_1241 rfl rfl hnm rfl (by decide +kernel) rfl rfl (Nat.le_of_ble_eq_true rfl) dX11_init_31 (fun H locs hR hH hS zp kp => ?_)
  have hR : va_at D classes (a, .inr (11, [.ref h1, .ref h5, .int 0, .int 0, .int 0, .int (-1), .int 0, .int 0, .int 0, .int 0, .long 0, .ref h9, .null, .null, .null, .null, .null, .null, .null, .null, .null, .null, .null, .null, .null, .null, .null, .null, .null, .null, .null, .null, .null, .null, .null, .null, .null, .null, .null, .null, .null, .int 0, .int 0, .int 0, .int 0, .int 0, .int 0, .int 0, .int 0, .int 0, .int 0, .int 0, .null, .null, .int 0, .int 0, .null, .null, .null, .int 0, .null, .null, .null, .null, .null, .int 0, .int 0, .null, .null])) H := hR
  have hsz0 : sz ≤ H.size := by omega
  refine lv_aload_n hx hb dX11_init_34 rfl (lv_at hl 0 rfl) ?_
  refine lv_iconst (v := 2) hx hb dX11_init_35 (by decide) ?_
  refine th_newa (atype := .int) (t := 0) (N := 2) S hK hH hS 4 gm_174 rfl km_4 (fun T2 j hj => dfl_bk) (by decide) (by decide) (by decide) (by decide) (by decide) dX11_init_36 (fun h13 H eh13 hH nh13 hS zh13 kh13 => ?_)
  have neh13 : a ≠ h13 := by omega
  have hR : va_at D classes (a, .inr (11, [.ref h1, .ref h5, .int 0, .int 0, .int 0, .int (-1), .int 0, .int 0, .int 0, .int 0, .long 0, .ref h9, .null, .null, .null, .null, .null, .null, .null, .null, .null, .null, .null, .null, .null, .null, .null, .null, .null, .null, .null, .null, .null, .null, .null, .null, .null, .null, .null, .null, .null, .int 0, .int 0, .int 0, .int 0, .int 0, .int 0, .int 0, .int 0, .int 0, .int 0, .int 0, .null, .null, .int 0, .int 0, .null, .null, .null, .int 0, .null, .null, .null, .null, .null, .int 0, .int 0, .null, .null])) H := hR.kept (kh13 a (by omega))
  have hsz0 : sz ≤ H.size := by omega
  obtain ⟨T14, eT14⟩ : ∃ t, t = th_new T10 h13 4 := ⟨_, rfl⟩
  rw [← eT14] at hH
  have mo15 : ∀ b j, T10 b = some j → T14 b = some j := by rw [eT14]; exact th_new_sub nh13
  have gr16 : th_grow (List.range 45) T T14 sz [4, 3, 2, 1] := by rw [eT14]; exact gr12.new (by omega) (by decide)
  have fh13 : T14 h13 = some 4 := by rw [eT14]; exact th_new_self
  have hn : T14 a = none := by rw [eT14]; exact (th_new_ne neh13).trans hn
  refine th_putRF (ty := .array .int) (v := .ref h13) S hK hH hS (Or.inl rfl) hn hR inG11 tyX11 tyX11_ok nmX11 rfl 12 (by decide) gm_1242 rfl rfl hnm rfl (by decide +kernel) rfl rfl (Nat.le_of_ble_eq_true rfl) dX11_init_38 (fun H locs hR hH hS zp kp => ?_)
  have hR : va_at D classes (a, .inr (11, [.ref h1, .ref h5, .int 0, .int 0, .int 0, .int (-1), .int 0, .int 0, .int 0, .int 0, .long 0, .ref h9, .ref h13, .null, .null, .null, .null, .null, .null, .null, .null, .null, .null, .null, .null, .null, .null, .null, .null, .null, .null, .null, .null, .null, .null, .null, .null, .null, .null, .null, .null, .int 0, .int 0, .int 0, .int 0, .int 0, .int 0, .int 0, .int 0, .int 0, .int 0, .int 0, .null, .null, .int 0, .int 0, .null, .null, .null, .int 0, .null, .null, .null, .null, .null, .int 0, .int 0, .null, .null])) H := hR
  have hsz0 : sz ≤ H.size := by omega
  refine lv_aload_n hx hb dX11_init_41 rfl (lv_at hl 0 rfl) ?_
  refine lv_iconst (v := 2) hx hb dX11_init_42 (by decide) ?_
  refine th_newa (atype := .int) (t := 0) (N := 2) S hK hH hS 5 gm_174 rfl km_5 (fun T2 j hj => dfl_bk) (by decide) (by decide) (by decide) (by decide) (by decide) dX11_init_43 (fun h17 H eh17 hH nh17 hS zh17 kh17 => ?_)
  have neh17 : a ≠ h17 := by omega
  have hR : va_at D classes (a, .inr (11, [.ref h1, .ref h5, .int 0, .int 0, .int 0, .int (-1), .int 0, .int 0, .int 0, .int 0, .long 0, .ref h9, .ref h13, .null, .null, .null, .null, .null, .null, .null, .null, .null, .null, .null, .null, .null, .null, .null, .null, .null, .null, .null, .null, .null, .null, .null, .null, .null, .null, .null, .null, .int 0, .int 0, .int 0, .int 0, .int 0, .int 0, .int 0, .int 0, .int 0, .int 0, .int 0, .null, .null, .int 0, .int 0, .null, .null, .null, .int 0, .null, .null, .null, .null, .null, .int 0, .int 0, .null, .null])) H := hR.kept (kh17 a (by omega))
  have hsz0 : sz ≤ H.size := by omega
  obtain ⟨T18, eT18⟩ : ∃ t, t = th_new T14 h17 5 := ⟨_, rfl⟩
  rw [← eT18] at hH
  have mo19 : ∀ b j, T14 b = some j → T18 b = some j := by rw [eT18]; exact th_new_sub nh17
  have gr20 : th_grow (List.range 45) T T18 sz [5, 4, 3, 2, 1] := by rw [eT18]; exact gr16.new (by omega) (by decide)
  have fh17 : T18 h17 = some 5 := by rw [eT18]; exact th_new_self
  have hn : T18 a = none := by rw [eT18]; exact (th_new_ne neh17).trans hn
  refine th_putRF (ty := .array .int) (v := .ref h17) S hK hH hS (Or.inl rfl) hn hR inG11 tyX11 tyX11_ok nmX11 rfl 13 (by decide) gm_1243 rfl rfl hnm rfl (by decide +kernel) rfl rfl (Nat.le_of_ble_eq_true rfl) dX11_init_45 (fun H locs hR hH hS zp kp => ?_)
  have hR : va_at D classes (a, .inr (11, [.ref h1, .ref h5, .int 0, .int 0, .int 0, .int (-1), .int 0, .int 0, .int 0, .int 0, .long 0, .ref h9, .ref h13, .ref h17, .null, .null, .null, .null, .null, .null, .null, .null, .null, .null, .null, .null, .null, .null, .null, .null, .null, .null, .null, .null, .null, .null, .null, .null, .null, .null, .null, .int 0, .int 0, .int 0, .int 0, .int 0, .int 0, .int 0, .int 0, .int 0, .int 0, .int 0, .null, .null, .int 0, .int 0, .null, .null, .null, .int 0, .null, .null, .null, .null, .null, .int 0, .int 0, .null, .null])) H := hR
  have hsz0 : sz ≤ H.size := by omega
  refine lv_aload_n hx hb dX11_init_48 rfl (lv_at hl 0 rfl) ?_
  refine lv_iconst (v := 2) hx hb dX11_init_49 (by decide) ?_
  refine th_newa (atype := .int) (t := 0) (N := 2) S hK hH hS 6 gm_174 rfl km_6 (fun T2 j hj => ⟨0, rfl, by decide, by decide⟩) (by decide) (by decide) (by decide) (by decide) (by decide) dX11_init_50 (fun h21 H eh21 hH nh21 hS zh21 kh21 => ?_)
  have neh21 : a ≠ h21 := by omega
  have hR : va_at D classes (a, .inr (11, [.ref h1, .ref h5, .int 0, .int 0, .int 0, .int (-1), .int 0, .int 0, .int 0, .int 0, .long 0, .ref h9, .ref h13, .ref h17, .null, .null, .null, .null, .null, .null, .null, .null, .null, .null, .null, .null, .null, .null, .null, .null, .null, .null, .null, .null, .null, .null, .null, .null, .null, .null, .null, .int 0, .int 0, .int 0, .int 0, .int 0, .int 0, .int 0, .int 0, .int 0, .int 0, .int 0, .null, .null, .int 0, .int 0, .null, .null, .null, .int 0, .null, .null, .null, .null, .null, .int 0, .int 0, .null, .null])) H := hR.kept (kh21 a (by omega))
  have hsz0 : sz ≤ H.size := by omega
  obtain ⟨T22, eT22⟩ : ∃ t, t = th_new T18 h21 6 := ⟨_, rfl⟩
  rw [← eT22] at hH
  have mo23 : ∀ b j, T18 b = some j → T22 b = some j := by rw [eT22]; exact th_new_sub nh21
  have gr24 : th_grow (List.range 45) T T22 sz [6, 5, 4, 3, 2, 1] := by rw [eT22]; exact gr20.new (by omega) (by decide)
  have fh21 : T22 h21 = some 6 := by rw [eT22]; exact th_new_self
  have hn : T22 a = none := by rw [eT22]; exact (th_new_ne neh21).trans hn
  refine th_putRF (ty := .array .int) (v := .ref h21) S hK hH hS (Or.inl rfl) hn hR inG11 tyX11 tyX11_ok nmX11 rfl 14 (by decide) gm_1244 rfl rfl hnm rfl (by decide +kernel) rfl rfl (Nat.le_of_ble_eq_true rfl) dX11_init_52 (fun H locs hR hH hS zp kp => ?_)
  have hR : va_at D classes (a, .inr (11, [.ref h1, .ref h5, .int 0, .int 0, .int 0, .int (-1), .int 0, .int 0, .int 0, .int 0, .long 0, .ref h9, .ref h13, .ref h17, .ref h21, .null, .null, .null, .null, .null, .null, .null, .null, .null, .null, .null, .null, .null, .null, .null, .null, .null, .null, .null, .null, .null, .null, .null, .null, .null, .null, .int 0, .int 0, .int 0, .int 0, .int 0, .int 0, .int 0, .int 0, .int 0, .int 0, .int 0, .null, .null, .int 0, .int 0, .null, .null, .null, .int 0, .null, .null, .null, .null, .null, .int 0, .int 0, .null, .null])) H := hR
  have hsz0 : sz ≤ H.size := by omega
  refine lv_aload_n hx hb dX11_init_55 rfl (lv_at hl 0 rfl) ?_
  refine lv_iconst (v := 2) hx hb dX11_init_56 (by decide) ?_
  refine th_newa (atype := .int) (t := 0) (N := 2) S hK hH hS 7 gm_174 rfl km_7 (fun T2 j hj => ⟨0, rfl, by decide, by decide⟩) (by decide) (by decide) (by decide) (by decide) (by decide) dX11_init_57 (fun h25 H eh25 hH nh25 hS zh25 kh25 => ?_)
  have neh25 : a ≠ h25 := by omega
  have hR : va_at D classes (a, .inr (11, [.ref h1, .ref h5, .int 0, .int 0, .int 0, .int (-1), .int 0, .int 0, .int 0, .int 0, .long 0, .ref h9, .ref h13, .ref h17, .ref h21, .null, .null, .null, .null, .null, .null, .null, .null, .null, .null, .null, .null, .null, .null, .null, .null, .null, .null, .null, .null, .null, .null, .null, .null, .null, .null, .int 0, .int 0, .int 0, .int 0, .int 0, .int 0, .int 0, .int 0, .int 0, .int 0, .int 0, .null, .null, .int 0, .int 0, .null, .null, .null, .int 0, .null, .null, .null, .null, .null, .int 0, .int 0, .null, .null])) H := hR.kept (kh25 a (by omega))
  have hsz0 : sz ≤ H.size := by omega
  obtain ⟨T26, eT26⟩ : ∃ t, t = th_new T22 h25 7 := ⟨_, rfl⟩
  rw [← eT26] at hH
  have mo27 : ∀ b j, T22 b = some j → T26 b = some j := by rw [eT26]; exact th_new_sub nh25
  have gr28 : th_grow (List.range 45) T T26 sz [7, 6, 5, 4, 3, 2, 1] := by rw [eT26]; exact gr24.new (by omega) (by decide)
  have fh25 : T26 h25 = some 7 := by rw [eT26]; exact th_new_self
  have hn : T26 a = none := by rw [eT26]; exact (th_new_ne neh25).trans hn
  refine th_putRF (ty := .array .int) (v := .ref h25) S hK hH hS (Or.inl rfl) hn hR inG11 tyX11 tyX11_ok nmX11 rfl 15 (by decide) gm_1245 rfl rfl hnm rfl (by decide +kernel) rfl rfl (Nat.le_of_ble_eq_true rfl) dX11_init_59 (fun H locs hR hH hS zp kp => ?_)
  have hR : va_at D classes (a, .inr (11, [.ref h1, .ref h5, .int 0, .int 0, .int 0, .int (-1), .int 0, .int 0, .int 0, .int 0, .long 0, .ref h9, .ref h13, .ref h17, .ref h21, .ref h25, .null, .null, .null, .null, .null, .null, .null, .null, .null, .null, .null, .null, .null, .null, .null, .null, .null, .null, .null, .null, .null, .null, .null, .null, .null, .int 0, .int 0, .int 0, .int 0, .int 0, .int 0, .int 0, .int 0, .int 0, .int 0, .int 0, .null, .null, .int 0, .int 0, .null, .null, .null, .int 0, .null, .null, .null, .null, .null, .int 0, .int 0, .null, .null])) H := hR
  have hsz0 : sz ≤ H.size := by omega
  refine lv_aload_n hx hb dX11_init_62 rfl (lv_at hl 0 rfl) ?_
  refine lv_iconst (v := 2) hx hb dX11_init_63 (by decide) ?_
  refine th_newa (atype := .int) (t := 0) (N := 2) S hK hH hS 8 gm_174 rfl km_8 (fun T2 j hj => dfl_bk) (by decide) (by decide) (by decide) (by decide) (by decide) dX11_init_64 (fun h29 H eh29 hH nh29 hS zh29 kh29 => ?_)
  have neh29 : a ≠ h29 := by omega
  have hR : va_at D classes (a, .inr (11, [.ref h1, .ref h5, .int 0, .int 0, .int 0, .int (-1), .int 0, .int 0, .int 0, .int 0, .long 0, .ref h9, .ref h13, .ref h17, .ref h21, .ref h25, .null, .null, .null, .null, .null, .null, .null, .null, .null, .null, .null, .null, .null, .null, .null, .null, .null, .null, .null, .null, .null, .null, .null, .null, .null, .int 0, .int 0, .int 0, .int 0, .int 0, .int 0, .int 0, .int 0, .int 0, .int 0, .int 0, .null, .null, .int 0, .int 0, .null, .null, .null, .int 0, .null, .null, .null, .null, .null, .int 0, .int 0, .null, .null])) H := hR.kept (kh29 a (by omega))
  have hsz0 : sz ≤ H.size := by omega
  obtain ⟨T30, eT30⟩ : ∃ t, t = th_new T26 h29 8 := ⟨_, rfl⟩
  rw [← eT30] at hH
  have mo31 : ∀ b j, T26 b = some j → T30 b = some j := by rw [eT30]; exact th_new_sub nh29
  have gr32 : th_grow (List.range 45) T T30 sz [8, 7, 6, 5, 4, 3, 2, 1] := by rw [eT30]; exact gr28.new (by omega) (by decide)
  have fh29 : T30 h29 = some 8 := by rw [eT30]; exact th_new_self
  have hn : T30 a = none := by rw [eT30]; exact (th_new_ne neh29).trans hn
  refine th_putRF (ty := .array .int) (v := .ref h29) S hK hH hS (Or.inl rfl) hn hR inG11 tyX11 tyX11_ok nmX11 rfl 16 (by decide) gm_1246 rfl rfl hnm rfl (by decide +kernel) rfl rfl (Nat.le_of_ble_eq_true rfl) dX11_init_66 (fun H locs hR hH hS zp kp => ?_)
  have hR : va_at D classes (a, .inr (11, [.ref h1, .ref h5, .int 0, .int 0, .int 0, .int (-1), .int 0, .int 0, .int 0, .int 0, .long 0, .ref h9, .ref h13, .ref h17, .ref h21, .ref h25, .ref h29, .null, .null, .null, .null, .null, .null, .null, .null, .null, .null, .null, .null, .null, .null, .null, .null, .null, .null, .null, .null, .null, .null, .null, .null, .int 0, .int 0, .int 0, .int 0, .int 0, .int 0, .int 0, .int 0, .int 0, .int 0, .int 0, .null, .null, .int 0, .int 0, .null, .null, .null, .int 0, .null, .null, .null, .null, .null, .int 0, .int 0, .null, .null])) H := hR
  have hsz0 : sz ≤ H.size := by omega
  refine lv_aload_n hx hb dX11_init_69 rfl (lv_at hl 0 rfl) ?_
  refine lv_iconst (v := 2) hx hb dX11_init_70 (by decide) ?_
  refine th_newa (atype := .int) (t := 0) (N := 2) S hK hH hS 9 gm_174 rfl km_9 (fun T2 j hj => ⟨0, rfl, by decide, by decide⟩) (by decide) (by decide) (by decide) (by decide) (by decide) dX11_init_71 (fun h33 H eh33 hH nh33 hS zh33 kh33 => ?_)
  have neh33 : a ≠ h33 := by omega
  have hR : va_at D classes (a, .inr (11, [.ref h1, .ref h5, .int 0, .int 0, .int 0, .int (-1), .int 0, .int 0, .int 0, .int 0, .long 0, .ref h9, .ref h13, .ref h17, .ref h21, .ref h25, .ref h29, .null, .null, .null, .null, .null, .null, .null, .null, .null, .null, .null, .null, .null, .null, .null, .null, .null, .null, .null, .null, .null, .null, .null, .null, .int 0, .int 0, .int 0, .int 0, .int 0, .int 0, .int 0, .int 0, .int 0, .int 0, .int 0, .null, .null, .int 0, .int 0, .null, .null, .null, .int 0, .null, .null, .null, .null, .null, .int 0, .int 0, .null, .null])) H := hR.kept (kh33 a (by omega))
  have hsz0 : sz ≤ H.size := by omega
  obtain ⟨T34, eT34⟩ : ∃ t, t = th_new T30 h33 9 := ⟨_, rfl⟩
  rw [← eT34] at hH
  have mo35 : ∀ b j, T30 b = some j → T34 b = some j := by rw [eT34]; exact th_new_sub nh33
  have gr36 : th_grow (List.range 45) T T34 sz [9, 8, 7, 6, 5, 4, 3, 2, 1] := by rw [eT34]; exact gr32.new (by omega) (by decide)
  have fh33 : T34 h33 = some 9 := by rw [eT34]; exact th_new_self
  have hn : T34 a = none := by rw [eT34]; exact (th_new_ne neh33).trans hn
  refine th_putRF (ty := .array .int) (v := .ref h33) S hK hH hS (Or.inl rfl) hn hR inG11 tyX11 tyX11_ok nmX11 rfl 17 (by decide) gm_1247 rfl rfl hnm rfl (by decide +kernel) rfl rfl (Nat.le_of_ble_eq_true rfl) dX11_init_73 (fun H locs hR hH hS zp kp => ?_)
  have hR : va_at D classes (a, .inr (11, [.ref h1, .ref h5, .int 0, .int 0, .int 0, .int (-1), .int 0, .int 0, .int 0, .int 0, .long 0, .ref h9, .ref h13, .ref h17, .ref h21, .ref h25, .ref h29, .ref h33, .null, .null, .null, .null, .null, .null, .null, .null, .null, .null, .null, .null, .null, .null, .null, .null, .null, .null, .null, .null, .null, .null, .null, .int 0, .int 0, .int 0, .int 0, .int 0, .int 0, .int 0, .int 0, .int 0, .int 0, .int 0, .null, .null, .int 0, .int 0, .null, .null, .null, .int 0, .null, .null, .null, .null, .null, .int 0, .int 0, .null, .null])) H := hR
  have hsz0 : sz ≤ H.size := by omega
  refine lv_aload_n hx hb dX11_init_76 rfl (lv_at hl 0 rfl) ?_
  refine lv_bipush (v := 6) hx hb dX11_init_77 (by decide) ?_
  refine th_newa (atype := .int) (t := 0) (N := 6) S hK hH hS 10 gm_174 rfl km_10 (fun T2 j hj => ⟨0, rfl, by decide, by decide⟩) (by decide) (by decide) (by decide) (by decide) (by decide) dX11_init_79 (fun h37 H eh37 hH nh37 hS zh37 kh37 => ?_)
  have neh37 : a ≠ h37 := by omega
  have hR : va_at D classes (a, .inr (11, [.ref h1, .ref h5, .int 0, .int 0, .int 0, .int (-1), .int 0, .int 0, .int 0, .int 0, .long 0, .ref h9, .ref h13, .ref h17, .ref h21, .ref h25, .ref h29, .ref h33, .null, .null, .null, .null, .null, .null, .null, .null, .null, .null, .null, .null, .null, .null, .null, .null, .null, .null, .null, .null, .null, .null, .null, .int 0, .int 0, .int 0, .int 0, .int 0, .int 0, .int 0, .int 0, .int 0, .int 0, .int 0, .null, .null, .int 0, .int 0, .null, .null, .null, .int 0, .null, .null, .null, .null, .null, .int 0, .int 0, .null, .null])) H := hR.kept (kh37 a (by omega))
  have hsz0 : sz ≤ H.size := by omega
  obtain ⟨T38, eT38⟩ : ∃ t, t = th_new T34 h37 10 := ⟨_, rfl⟩
  rw [← eT38] at hH
  have mo39 : ∀ b j, T34 b = some j → T38 b = some j := by rw [eT38]; exact th_new_sub nh37
  have gr40 : th_grow (List.range 45) T T38 sz [10, 9, 8, 7, 6, 5, 4, 3, 2, 1] := by rw [eT38]; exact gr36.new (by omega) (by decide)
  have fh37 : T38 h37 = some 10 := by rw [eT38]; exact th_new_self
  have hn : T38 a = none := by rw [eT38]; exact (th_new_ne neh37).trans hn
  refine th_putRF (ty := .array .int) (v := .ref h37) S hK hH hS (Or.inl rfl) hn hR inG11 tyX11 tyX11_ok nmX11 rfl 18 (by decide) gm_1248 rfl rfl hnm rfl (by decide +kernel) rfl rfl (Nat.le_of_ble_eq_true rfl) dX11_init_81 (fun H locs hR hH hS zp kp => ?_)
  have hR : va_at D classes (a, .inr (11, [.ref h1, .ref h5, .int 0, .int 0, .int 0, .int (-1), .int 0, .int 0, .int 0, .int 0, .long 0, .ref h9, .ref h13, .ref h17, .ref h21, .ref h25, .ref h29, .ref h33, .ref h37, .null, .null, .null, .null, .null, .null, .null, .null, .null, .null, .null, .null, .null, .null, .null, .null, .null, .null, .null, .null, .null, .null, .int 0, .int 0, .int 0, .int 0, .int 0, .int 0, .int 0, .int 0, .int 0, .int 0, .int 0, .null, .null, .int 0, .int 0, .null, .null, .null, .int 0, .null, .null, .null, .null, .null, .int 0, .int 0, .null, .null])) H := hR
  have hsz0 : sz ≤ H.size := by omega
  refine lv_aload_n hx hb dX11_init_84 rfl (lv_at hl 0 rfl) ?_
  refine lv_bipush (v := 8) hx hb dX11_init_85 (by decide) ?_
  refine th_newa (atype := .int) (t := 0) (N := 8) S hK hH hS 11 gm_174 rfl km_11 (fun T2 j hj => ⟨0, rfl, by decide, by decide⟩) (by decide) (by decide) (by decide) (by decide) (by decide) dX11_init_87 (fun h41 H eh41 hH nh41 hS zh41 kh41 => ?_)
  have neh41 : a ≠ h41 := by omega
  have hR : va_at D classes (a, .inr (11, [.ref h1, .ref h5, .int 0, .int 0, .int 0, .int (-1), .int 0, .int 0, .int 0, .int 0, .long 0, .ref h9, .ref h13, .ref h17, .ref h21, .ref h25, .ref h29, .ref h33, .ref h37, .null, .null, .null, .null, .null, .null, .null, .null, .null, .null, .null, .null, .null, .null, .null, .null, .null, .null, .null, .null, .null, .null, .int 0, .int 0, .int 0, .int 0, .int 0, .int 0, .int 0, .int 0, .int 0, .int 0, .int 0, .null, .null, .int 0, .int 0, .null, .null, .null, .int 0, .null, .null, .null, .null, .null, .int 0, .int 0, .null, .null])) H := hR.kept (kh41 a (by omega))
  have hsz0 : sz ≤ H.size := by omega
  obtain ⟨T42, eT42⟩ : ∃ t, t = th_new T38 h41 11 := ⟨_, rfl⟩
  rw [← eT42] at hH
  have mo43 : ∀ b j, T38 b = some j → T42 b = some j := by rw [eT42]; exact th_new_sub nh41
  have gr44 : th_grow (List.range 45) T T42 sz [11, 10, 9, 8, 7, 6, 5, 4, 3, 2, 1] := by rw [eT42]; exact gr40.new (by omega) (by decide)
  have fh41 : T42 h41 = some 11 := by rw [eT42]; exact th_new_self
  have hn : T42 a = none := by rw [eT42]; exact (th_new_ne neh41).trans hn
  refine th_putRF (ty := .array .int) (v := .ref h41) S hK hH hS (Or.inl rfl) hn hR inG11 tyX11 tyX11_ok nmX11 rfl 19 (by decide) gm_1249 rfl rfl hnm rfl (by decide +kernel) rfl rfl (Nat.le_of_ble_eq_true rfl) dX11_init_89 (fun H locs hR hH hS zp kp => ?_)
  have hR : va_at D classes (a, .inr (11, [.ref h1, .ref h5, .int 0, .int 0, .int 0, .int (-1), .int 0, .int 0, .int 0, .int 0, .long 0, .ref h9, .ref h13, .ref h17, .ref h21, .ref h25, .ref h29, .ref h33, .ref h37, .ref h41, .null, .null, .null, .null, .null, .null, .null, .null, .null, .null, .null, .null, .null, .null, .null, .null, .null, .null, .null, .null, .null, .int 0, .int 0, .int 0, .int 0, .int 0, .int 0, .int 0, .int 0, .int 0, .int 0, .int 0, .null, .null, .int 0, .int 0, .null, .null, .null, .int 0, .null, .null, .null, .null, .null, .int 0, .int 0, .null, .null])) H := hR
  have hsz0 : sz ≤ H.size := by omega
  refine lv_aload_n hx hb dX11_init_92 rfl (lv_at hl 0 rfl) ?_
  refine lv_bipush (v := 8) hx hb dX11_init_93 (by decide) ?_
  refine th_newa (atype := .int) (t := 0) (N := 8) S hK hH hS 12 gm_174 rfl km_12 (fun T2 j hj => ⟨0, rfl, by decide, by decide⟩) (by decide) (by decide) (by decide) (by decide) (by decide) dX11_init_95 (fun h45 H eh45 hH nh45 hS zh45 kh45 => ?_)
  have neh45 : a ≠ h45 := by omega
  have hR : va_at D classes (a, .inr (11, [.ref h1, .ref h5, .int 0, .int 0, .int 0, .int (-1), .int 0, .int 0, .int 0, .int 0, .long 0, .ref h9, .ref h13, .ref h17, .ref h21, .ref h25, .ref h29, .ref h33, .ref h37, .ref h41, .null, .null, .null, .null, .null, .null, .null, .null, .null, .null, .null, .null, .null, .null, .null, .null, .null, .null, .null, .null, .null, .int 0, .int 0, .int 0, .int 0, .int 0, .int 0, .int 0, .int 0, .int 0, .int 0, .int 0, .null, .null, .int 0, .int 0, .null, .null, .null, .int 0, .null, .null, .null, .null, .null, .int 0, .int 0, .null, .null])) H := hR.kept (kh45 a (by omega))
  have hsz0 : sz ≤ H.size := by omega
  obtain ⟨T46, eT46⟩ : ∃ t, t = th_new T42 h45 12 := ⟨_, rfl⟩
  rw [← eT46] at hH
  have mo47 : ∀ b j, T42 b = some j → T46 b = some j := by rw [eT46]; exact th_new_sub nh45
  have gr48 : th_grow (List.range 45) T T46 sz [12, 11, 10, 9, 8, 7, 6, 5, 4, 3, 2, 1] := by rw [eT46]; exact gr44.new (by omega) (by decide)
  have fh45 : T46 h45 = some 12 := by rw [eT46]; exact th_new_self
  have hn : T46 a = none := by rw [eT46]; exact (th_new_ne neh45).trans hn
  refine th_putRF (ty := .array .int) (v := .ref h45) S hK hH hS (Or.inl rfl) hn hR inG11 tyX11 tyX11_ok nmX11 rfl 20 (by decide) gm_1250 rfl rfl hnm rfl (by decide +kernel) rfl rfl (Nat.le_of_ble_eq_true rfl) dX11_init_97 (fun H locs hR hH hS zp kp => ?_)
  have hR : va_at D classes (a, .inr (11, [.ref h1, .ref h5, .int 0, .int 0, .int 0, .int (-1), .int 0, .int 0, .int 0, .int 0, .long 0, .ref h9, .ref h13, .ref h17, .ref h21, .ref h25, .ref h29, .ref h33, .ref h37, .ref h41, .ref h45, .null, .null, .null, .null, .null, .null, .null, .null, .null, .null, .null, .null, .null, .null, .null, .null, .null, .null, .null, .null, .int 0, .int 0, .int 0, .int 0, .int 0, .int 0, .int 0, .int 0, .int 0, .int 0, .int 0, .null, .null, .int 0, .int 0, .null, .null, .null, .int 0, .null, .null, .null, .null, .null, .int 0, .int 0, .null, .null])) H := hR
  have hsz0 : sz ≤ H.size := by omega
  refine lv_aload_n hx hb dX11_init_100 rfl (lv_at hl 0 rfl) ?_
  refine lv_iconst (v := 2) hx hb dX11_init_101 (by decide) ?_
  refine th_newa (atype := .int) (t := 0) (N := 2) S hK hH hS 13 gm_174 rfl km_13 (fun T2 j hj => ⟨0, rfl, by decide, by decide⟩) (by decide) (by decide) (by decide) (by decide) (by decide) dX11_init_102 (fun h49 H eh49 hH nh49 hS zh49 kh49 => ?_)
  have neh49 : a ≠ h49 := by omega
  have hR : va_at D classes (a, .inr (11, [.ref h1, .ref h5, .int 0, .int 0, .int 0, .int (-1), .int 0, .int 0, .int 0, .int 0, .long 0, .ref h9, .ref h13, .ref h17, .ref h21, .ref h25, .ref h29, .ref h33, .ref h37, .ref h41, .ref h45, .null, .null, .null, .null, .null, .null, .null, .null, .null, .null, .null, .null, .null, .null, .null, .null, .null, .null, .null, .null, .int 0, .int 0, .int 0, .int 0, .int 0, .int 0, .int 0, .int 0, .int 0, .int 0, .int 0, .null, .null, .int 0, .int 0, .null, .null, .null, .int 0, .null, .null, .null, .null, .null, .int 0, .int 0, .null, .null])) H := hR.kept (kh49 a (by omega))
  have hsz0 : sz ≤ H.size := by omega
  obtain ⟨T50, eT50⟩ : ∃ t, t = th_new T46 h49 13 := ⟨_, rfl⟩
  rw [← eT50] at hH
  have mo51 : ∀ b j, T46 b = some j → T50 b = some j := by rw [eT50]; exact th_new_sub nh49
  have gr52 : th_grow (List.range 45) T T50 sz [13, 12, 11, 10, 9, 8, 7, 6, 5, 4, 3, 2, 1] := by rw [eT50]; exact gr48.new (by omega) (by decide)
  have fh49 : T50 h49 = some 13 := by rw [eT50]; exact th_new_self
  have hn : T50 a = none := by rw [eT50]; exact (th_new_ne neh49).trans hn
  refine th_putRF (ty := .array .int) (v := .ref h49) S hK hH hS (Or.inl rfl) hn hR inG11 tyX11 tyX11_ok nmX11 rfl 21 (by decide) gm_1251 rfl rfl hnm rfl (by decide +kernel) rfl rfl (Nat.le_of_ble_eq_true rfl) dX11_init_104 (fun H locs hR hH hS zp kp => ?_)
  have hR : va_at D classes (a, .inr (11, [.ref h1, .ref h5, .int 0, .int 0, .int 0, .int (-1), .int 0, .int 0, .int 0, .int 0, .long 0, .ref h9, .ref h13, .ref h17, .ref h21, .ref h25, .ref h29, .ref h33, .ref h37, .ref h41, .ref h45, .ref h49, .null, .null, .null, .null, .null, .null, .null, .null, .null, .null, .null, .null, .null, .null, .null, .null, .null, .null, .null, .int 0, .int 0, .int 0, .int 0, .int 0, .int 0, .int 0, .int 0, .int 0, .int 0, .int 0, .null, .null, .int 0, .int 0, .null, .null, .null, .int 0, .null, .null, .null, .null, .null, .int 0, .int 0, .null, .null])) H := hR
  have hsz0 : sz ≤ H.size := by omega
  refine lv_aload_n hx hb dX11_init_107 rfl (lv_at hl 0 rfl) ?_
  refine lv_bipush (v := 8) hx hb dX11_init_108 (by decide) ?_
  refine th_newa (atype := .int) (t := 0) (N := 8) S hK hH hS 14 gm_174 rfl km_14 (fun T2 j hj => ⟨0, rfl, by decide, by decide⟩) (by decide) (by decide) (by decide) (by decide) (by decide) dX11_init_110 (fun h53 H eh53 hH nh53 hS zh53 kh53 => ?_)
  have neh53 : a ≠ h53 := by omega
  have hR : va_at D classes (a, .inr (11, [.ref h1, .ref h5, .int 0, .int 0, .int 0, .int (-1), .int 0, .int 0, .int 0, .int 0, .long 0, .ref h9, .ref h13, .ref h17, .ref h21, .ref h25, .ref h29, .ref h33, .ref h37, .ref h41, .ref h45, .ref h49, .null, .null, .null, .null, .null, .null, .null, .null, .null, .null, .null, .null, .null, .null, .null, .null, .null, .null, .null, .int 0, .int 0, .int 0, .int 0, .int 0, .int 0, .int 0, .int 0, .int 0, .int 0, .int 0, .null, .null, .int 0, .int 0, .null, .null, .null, .int 0, .null, .null, .null, .null, .null, .int 0, .int 0, .null, .null])) H := hR.kept (kh53 a (by omega))
  have hsz0 : sz ≤ H.size := by omega
  obtain ⟨T54, eT54⟩ : ∃ t, t = th_new T50 h53 14 := ⟨_, rfl⟩
  rw [← eT54] at hH
  have mo55 : ∀ b j, T50 b = some j → T54 b = some j := by rw [eT54]; exact th_new_sub nh53
  have gr56 : th_grow (List.range 45) T T54 sz [14, 13, 12, 11, 10, 9, 8, 7, 6, 5, 4, 3, 2, 1] := by rw [eT54]; exact gr52.new (by omega) (by decide)
  have fh53 : T54 h53 = some 14 := by rw [eT54]; exact th_new_self
  have hn : T54 a = none := by rw [eT54]; exact (th_new_ne neh53).trans hn
  refine th_putRF (ty := .array .int) (v := .ref h53) S hK hH hS (Or.inl rfl) hn hR inG11 tyX11 tyX11_ok nmX11 rfl 22 (by decide) gm_1252 rfl rfl hnm rfl (by decide +kernel) rfl rfl (Nat.le_of_ble_eq_true rfl) dX11_init_112 (fun H locs hR hH hS zp kp => ?_)
  have hR : va_at D classes (a, .inr (11, [.ref h1, .ref h5, .int 0, .int 0, .int 0, .int (-1), .int 0, .int 0, .int 0, .int 0, .long 0, .ref h9, .ref h13, .ref h17, .ref h21, .ref h25, .ref h29, .ref h33, .ref h37, .ref h41, .ref h45, .ref h49, .ref h53, .null, .null, .null, .null, .null, .null, .null, .null, .null, .null, .null, .null, .null, .null, .null, .null, .null, .null, .int 0, .int 0, .int 0, .int 0, .int 0, .int 0, .int 0, .int 0, .int 0, .int 0, .int 0, .null, .null, .int 0, .int 0, .null, .null, .null, .int 0, .null, .null, .null, .null, .null, .int 0, .int 0, .null, .null])) H := hR
  have hsz0 : sz ≤ H.size := by omega
  refine lv_aload_n hx hb dX11_init_115 rfl (lv_at hl 0 rfl) ?_
  refine lv_bipush (v := 16) hx hb dX11_init_116 (by decide) ?_
  refine th_newa (atype := .int) (t := 0) (N := 16) S hK hH hS 15 gm_174 rfl km_15 (fun T2 j hj => ⟨0, rfl, by decide, by decide⟩) (by decide) (by decide) (by decide) (by decide) (by decide) dX11_init_118 (fun h57 H eh57 hH nh57 hS zh57 kh57 => ?_)
  have neh57 : a ≠ h57 := by omega
  have hR : va_at D classes (a, .inr (11, [.ref h1, .ref h5, .int 0, .int 0, .int 0, .int (-1), .int 0, .int 0, .int 0, .int 0, .long 0, .ref h9, .ref h13, .ref h17, .ref h21, .ref h25, .ref h29, .ref h33, .ref h37, .ref h41, .ref h45, .ref h49, .ref h53, .null, .null, .null, .null, .null, .null, .null, .null, .null, .null, .null, .null, .null, .null, .null, .null, .null, .null, .int 0, .int 0, .int 0, .int 0, .int 0, .int 0, .int 0, .int 0, .int 0, .int 0, .int 0, .null, .null, .int 0, .int 0, .null, .null, .null, .int 0, .null, .null, .null, .null, .null, .int 0, .int 0, .null, .null])) H := hR.kept (kh57 a (by omega))
  have hsz0 : sz ≤ H.size := by omega
  obtain ⟨T58, eT58⟩ : ∃ t, t = th_new T54 h57 15 := ⟨_, rfl⟩
  rw [← eT58] at hH
  have mo59 : ∀ b j, T54 b = some j → T58 b = some j := by rw [eT58]; exact th_new_sub nh57
  have gr60 : th_grow (List.range 45) T T58 sz [15, 14, 13, 12, 11, 10, 9, 8, 7, 6, 5, 4, 3, 2, 1] := by rw [eT58]; exact gr56.new (by omega) (by decide)
  have fh57 : T58 h57 = some 15 := by rw [eT58]; exact th_new_self
  have hn : T58 a = none := by rw [eT58]; exact (th_new_ne neh57).trans hn
  refine th_putRF (ty := .array .int) (v := .ref h57) S hK hH hS (Or.inl rfl) hn hR inG11 tyX11 tyX11_ok nmX11 rfl 23 (by decide) gm_1253 rfl rfl hnm rfl (by decide +kernel) rfl rfl (Nat.le_of_ble_eq_true rfl) dX11_init_120 (fun H locs hR hH hS zp kp => ?_)
  have hR : va_at D classes (a, .inr (11, [.ref h1, .ref h5, .int 0, .int 0, .int 0, .int (-1), .int 0, .int 0, .int 0, .int 0, .long 0, .ref h9, .ref h13, .ref h17, .ref h21, .ref h25, .ref h29, .ref h33, .ref h37, .ref h41, .ref h45, .ref h49, .ref h53, .ref h57, .null, .null, .null, .null, .null, .null, .null, .null, .null, .null, .null, .null, .null, .null, .null, .null, .null, .int 0, .int 0, .int 0, .int 0, .int 0, .int 0, .int 0, .int 0, .int 0, .int 0, .int 0, .null, .null, .int 0, .int 0, .null, .null, .null, .int 0, .null, .null, .null, .null, .null, .int 0, .int 0, .null, .null])) H := hR
  have hsz0 : sz ≤ H.size := by omega
  refine lv_aload_n hx hb dX11_init_123 rfl (lv_at hl 0 rfl) ?_
  refine lv_bipush (v := 16) hx hb dX11_init_124 (by decide) ?_
  refine th_newa (atype := .int) (t := 0) (N := 16) S hK hH hS 16 gm_174 rfl km_16 (fun T2 j hj => ⟨0, rfl, by decide, by decide⟩) (by decide) (by decide) (by decide) (by decide) (by decide) dX11_init_126 (fun h61 H eh61 hH nh61 hS zh61 kh61 => ?_)
  have neh61 : a ≠ h61 := by omega
  have hR : va_at D classes (a, .inr (11, [.ref h1, .ref h5, .int 0, .int 0, .int 0, .int (-1), .int 0, .int 0, .int 0, .int 0, .long 0, .ref h9, .ref h13, .ref h17, .ref h21, .ref h25, .ref h29, .ref h33, .ref h37, .ref h41, .ref h45, .ref h49, .ref h53, .ref h57, .null, .null, .null, .null, .null, .null, .null, .null, .null, .null, .null, .null, .null, .null, .null, .null, .null, .int 0, .int 0, .int 0, .int 0, .int 0, .int 0, .int 0, .int 0, .int 0, .int 0, .int 0, .null, .null, .int 0, .int 0, .null, .null, .null, .int 0, .null, .null, .null, .null, .null, .int 0, .int 0, .null, .null])) H := hR.kept (kh61 a (by omega))
  have hsz0 : sz ≤ H.size := by omega
  obtain ⟨T62, eT62⟩ : ∃ t, t = th_new T58 h61 16 := ⟨_, rfl⟩
  rw [← eT62] at hH
  have mo63 : ∀ b j, T58 b = some j → T62 b = some j := by rw [eT62]; exact th_new_sub nh61
  have gr64 : th_grow (List.range 45) T T62 sz [16, 15, 14, 13, 12, 11, 10, 9, 8, 7, 6, 5, 4, 3, 2, 1] := by rw [eT62]; exact gr60.new (by omega) (by decide)
  have fh61 : T62 h61 = some 16 := by rw [eT62]; exact th_new_self
  have hn : T62 a = none := by rw [eT62]; exact (th_new_ne neh61).trans hn
  refine th_putRF (ty := .array .int) (v := .ref h61) S hK hH hS (Or.inl rfl) hn hR inG11 tyX11 tyX11_ok nmX11 rfl 24 (by decide) gm_1254 rfl rfl hnm rfl (by decide +kernel) rfl rfl (Nat.le_of_ble_eq_true rfl) dX11_init_128 (fun H locs hR hH hS zp kp => ?_)
  have hR : va_at D classes (a, .inr (11, [.ref h1, .ref h5, .int 0, .int 0, .int 0, .int (-1), .int 0, .int 0, .int 0, .int 0, .long 0, .ref h9, .ref h13, .ref h17, .ref h21, .ref h25, .ref h29, .ref h33, .ref h37, .ref h41, .ref h45, .ref h49, .ref h53, .ref h57, .ref h61, .null, .null, .null, .null, .null, .null, .null, .null, .null, .null, .null, .null, .null, .null, .null, .null, .int 0, .int 0, .int 0, .int 0, .int 0, .int 0, .int 0, .int 0, .int 0, .int 0, .int 0, .null, .null, .int 0, .int 0, .null, .null, .null, .int 0, .null, .null, .null, .null, .null, .int 0, .int 0, .null, .null])) H := hR
  have hsz0 : sz ≤ H.size := by omega
  refine lv_aload_n hx hb dX11_init_131 rfl (lv_at hl 0 rfl) ?_
  refine lv_bipush (v := 16) hx hb dX11_init_132 (by decide) ?_
  refine th_newa (atype := .int) (t := 0) (N := 16) S hK hH hS 17 gm_174 rfl km_17 (fun T2 j hj => ⟨0, rfl, by decide, by decide⟩) (by decide) (by decide) (by decide) (by decide) (by decide) dX11_init_134 (fun h65 H eh65 hH nh65 hS zh65 kh65 => ?_)
  have neh65 : a ≠ h65 := by omega
  have hR : va_at D classes (a, .inr (11, [.ref h1, .ref h5, .int 0, .int 0, .int 0, .int (-1), .int 0, .int 0, .int 0, .int 0, .long 0, .ref h9, .ref h13, .ref h17, .ref h21, .ref h25, .ref h29, .ref h33, .ref h37, .ref h41, .ref h45, .ref h49, .ref h53, .ref h57, .ref h61, .null, .null, .null, .null, .null, .null, .null, .null, .null, .null, .null, .null, .null, .null, .null, .null, .int 0, .int 0, .int 0, .int 0, .int 0, .int 0, .int 0, .int 0, .int 0, .int 0, .int 0, .null, .null, .int 0, .int 0, .null, .null, .null, .int 0, .null, .null, .null, .null, .null, .int 0, .int 0, .null, .null])) H := hR.kept (kh65 a (by omega))
  have hsz0 : sz ≤ H.size := by omega
  obtain ⟨T66, eT66⟩ : ∃ t, t = th_new T62 h65 17 := ⟨_, rfl⟩
  rw [← eT66] at hH
  have mo67 : ∀ b j, T62 b = some j → T66 b = some j := by rw [eT66]; exact th_new_sub nh65
  have gr68 : th_grow (List.range 45) T T66 sz [17, 16, 15, 14, 13, 12, 11, 10, 9, 8, 7, 6, 5, 4, 3, 2, 1] := by rw [eT66]; exact gr64.new (by omega) (by decide)
  have fh65 : T66 h65 = some 17 := by rw [eT66]; exact th_new_self
  have hn : T66 a = none := by rw [eT66]; exact (th_new_ne neh65).trans hn
  refine th_putRF (ty := .array .int) (v := .ref h65) S hK hH hS (Or.inl rfl) hn hR inG11 tyX11 tyX11_ok nmX11 rfl 25 (by decide) gm_1255 rfl rfl hnm rfl (by decide +kernel) rfl rfl (Nat.le_of_ble_eq_true rfl) dX11_init_136 (fun H locs hR hH hS zp kp => ?_)
  have hR : va_at D classes (a, .inr (11, [.ref h1, .ref h5, .int 0, .int 0, .int 0, .int (-1), .int 0, .int 0, .int 0, .int 0, .long 0, .ref h9, .ref h13, .ref h17, .ref h21, .ref h25, .ref h29, .ref h33, .ref h37, .ref h41, .ref h45, .ref h49, .ref h53, .ref h57, .ref h61, .ref h65, .null, .null, .null, .null, .null, .null, .null, .null, .null, .null, .null, .null, .null, .null, .null, .int 0, .int 0, .int 0, .int 0, .int 0, .int 0, .int 0, .int 0, .int 0, .int 0, .int 0, .null, .null, .int 0, .int 0, .null, .null, .null, .int 0, .null, .null, .null, .null, .null, .int 0, .int 0, .null, .null])) H := hR
  have hsz0 : sz ≤ H.size := by omega
  refine lv_aload_n hx hb dX11_init_139 rfl (lv_at hl 0 rfl) ?_
  refine lv_bipush (v := 24) hx hb dX11_init_140 (by decide) ?_
  refine th_newa (atype := .int) (t := 0) (N := 24) S hK hH hS 18 gm_174 rfl km_18 (fun T2 j hj => ⟨0, rfl, by decide, by decide⟩) (by decide) (by decide) (by decide) (by decide) (by decide) dX11_init_142 (fun h69 H eh69 hH nh69 hS zh69 kh69 => ?_)
  have neh69 : a ≠ h69 := by omega
  have hR : va_at D classes (a, .inr (11, [.ref h1, .ref h5, .int 0, .int 0, .int 0, .int (-1), .int 0, .int 0, .int 0, .int 0, .long 0, .ref h9, .ref h13, .ref h17, .ref h21, .ref h25, .ref h29, .ref h33, .ref h37, .ref h41, .ref h45, .ref h49, .ref h53, .ref h57, .ref h61, .ref h65, .null, .null, .null, .null, .null, .null, .null, .null, .null, .null, .null, .null, .null, .null, .null, .int 0, .int 0, .int 0, .int 0, .int 0, .int 0, .int 0, .int 0, .int 0, .int 0, .int 0, .null, .null, .int 0, .int 0, .null, .null, .null, .int 0, .null, .null, .null, .null, .null, .int 0, .int 0, .null, .null])) H := hR.kept (kh69 a (by omega))
  have hsz0 : sz ≤ H.size := by omega
  obtain ⟨T70, eT70⟩ : ∃ t, t = th_new T66 h69 18 := ⟨_, rfl⟩
  rw [← eT70] at hH
  have mo71 : ∀ b j, T66 b = some j → T70 b = some j := by rw [eT70]; exact th_new_sub nh69
  have gr72 : th_grow (List.range 45) T T70 sz [18, 17, 16, 15, 14, 13, 12, 11, 10, 9, 8, 7, 6, 5, 4, 3, 2, 1] := by rw [eT70]; exact gr68.new (by omega) (by decide)
  have fh69 : T70 h69 = some 18 := by rw [eT70]; exact th_new_self
  have hn : T70 a = none := by rw [eT70]; exact (th_new_ne neh69).trans hn
  refine th_putRF (ty := .array .int) (v := .ref h69) S hK hH hS (Or.inl rfl) hn hR inG11 tyX11 tyX11_ok nmX11 rfl 26 (by decide) gm_1256 rfl rfl hnm rfl (by decide +kernel) rfl rfl (Nat.le_of_ble_eq_true rfl) dX11_init_144 (fun H locs hR hH hS zp kp => ?_)
  have hR : va_at D classes (a, .inr (11, [.ref h1, .ref h5, .int 0, .int 0, .int 0, .int (-1), .int 0, .int 0, .int 0, .int 0, .long 0, .ref h9, .ref h13, .ref h17, .ref h21, .ref h25, .ref h29, .ref h33, .ref h37, .ref h41, .ref h45, .ref h49, .ref h53, .ref h57, .ref h61, .ref h65, .ref h69, .null, .null, .null, .null, .null, .null, .null, .null, .null, .null, .null, .null, .null, .null, .int 0, .int 0, .int 0, .int 0, .int 0, .int 0, .int 0, .int 0, .int 0, .int 0, .int 0, .null, .null, .int 0, .int 0, .null, .null, .null, .int 0, .null, .null, .null, .null, .null, .int 0, .int 0, .null, .null])) H := hR
  have hsz0 : sz ≤ H.size := by omega
  refine lv_aload_n hx hb dX11_init_147 rfl (lv_at hl 0 rfl) ?_
  refine lv_bipush (v := 8) hx hb dX11_init_148 (by decide) ?_
  refine th_newa (atype := .int) (t := 0) (N := 8) S hK hH hS 19 gm_174 rfl km_19 (fun T2 j hj => ⟨0, rfl, by decide, by decide⟩) (by decide) (by decide) (by decide) (by decide) (by decide) dX11_init_150 (fun h73 H eh73 hH nh73 hS zh73 kh73 => ?_)
  have neh73 : a ≠ h73 := by omega
  have hR : va_at D classes (a, .inr (11, [.ref h1, .ref h5, .int 0, .int 0, .int 0, .int (-1), .int 0, .int 0, .int 0, .int 0, .long 0, .ref h9, .ref h13, .ref h17, .ref h21, .ref h25, .ref h29, .ref h33, .ref h37, .ref h41, .ref h45, .ref h49, .ref h53, .ref h57, .ref h61, .ref h65, .ref h69, .null, .null, .null, .null, .null, .null, .null, .null, .null, .null, .null, .null, .null, .null, .int 0, .int 0, .int 0, .int 0, .int 0, .int 0, .int 0, .int 0, .int 0, .int 0, .int 0, .null, .null, .int 0, .int 0, .null, .null, .null, .int 0, .null, .null, .null, .null, .null, .int 0, .int 0, .null, .null])) H := hR.kept (kh73 a (by omega))
  have hsz0 : sz ≤ H.size := by omega
  obtain ⟨T74, eT74⟩ : ∃ t, t = th_new T70 h73 19 := ⟨_, rfl⟩
  rw [← eT74] at hH
  have mo75 : ∀ b j, T70 b = some j → T74 b = some j := by rw [eT74]; exact th_new_sub nh73
  have gr76 : th_grow (List.range 45) T T74 sz [19, 18, 17, 16, 15, 14, 13, 12, 11, 10, 9, 8, 7, 6, 5, 4, 3, 2, 1] := by rw [eT74]; exact gr72.new (by omega) (by decide)
  have fh73 : T74 h73 = some 19 := by rw [eT74]; exact th_new_self
  have hn : T74 a = none := by rw [eT74]; exact (th_new_ne neh73).trans hn
  refine th_putRF (ty := .array .int) (v := .ref h73) S hK hH hS (Or.inl rfl) hn hR inG11 tyX11 tyX11_ok nmX11 rfl 27 (by decide) gm_1257 rfl rfl hnm rfl (by decide +kernel) rfl rfl (Nat.le_of_ble_eq_true rfl) dX11_init_152 (fun H locs hR hH hS zp kp => ?_)
  have hR : va_at D classes (a, .inr (11, [.ref h1, .ref h5, .int 0, .int 0, .int 0, .int (-1), .int 0, .int 0, .int 0, .int 0, .long 0, .ref h9, .ref h13, .ref h17, .ref h21, .ref h25, .ref h29, .ref h33, .ref h37, .ref h41, .ref h45, .ref h49, .ref h53, .ref h57, .ref h61, .ref h65, .ref h69, .ref h73, .null, .null, .null, .null, .null, .null, .null, .null, .null, .null, .null, .null, .null, .int 0, .int 0, .int 0, .int 0, .int 0, .int 0, .int 0, .int 0, .int 0, .int 0, .int 0, .null, .null, .int 0, .int 0, .null, .null, .null, .int 0, .null, .null, .null, .null, .null, .int 0, .int 0, .null, .null])) H := hR
  have hsz0 : sz ≤ H.size := by omega
  refine lv_aload_n hx hb dX11_init_155 rfl (lv_at hl 0 rfl) ?_
  refine lv_bipush (v := 10) hx hb dX11_init_156 (by decide) ?_
  refine th_newa (atype := .int) (t := 0) (N := 10) S hK hH hS 20 gm_174 rfl km_20 (fun T2 j hj => dfl_ea) (by decide) (by decide) (by decide) (by decide) (by decide) dX11_init_158 (fun h77 H eh77 hH nh77 hS zh77 kh77 => ?_)
  have neh77 : a ≠ h77 := by omega
  have hR : va_at D classes (a, .inr (11, [.ref h1, .ref h5, .int 0, .int 0, .int 0, .int (-1), .int 0, .int 0, .int 0, .int 0, .long 0, .ref h9, .ref h13, .ref h17, .ref h21, .ref h25, .ref h29, .ref h33, .ref h37, .ref h41, .ref h45, .ref h49, .ref h53, .ref h57, .ref h61, .ref h65, .ref h69, .ref h73, .null, .null, .null, .null, .null, .null, .null, .null, .null, .null, .null, .null, .null, .int 0, .int 0, .int 0, .int 0, .int 0, .int 0, .int 0, .int 0, .int 0, .int 0, .int 0, .null, .null, .int 0, .int 0, .null, .null, .null, .int 0, .null, .null, .null, .null, .null, .int 0, .int 0, .null, .null])) H := hR.kept (kh77 a (by omega))
  have hsz0 : sz ≤ H.size := by omega
  obtain ⟨T78, eT78⟩ : ∃ t, t = th_new T74 h77 20 := ⟨_, rfl⟩
  rw [← eT78] at hH
  have mo79 : ∀ b j, T74 b = some j → T78 b = some j := by rw [eT78]; exact th_new_sub nh77
  have gr80 : th_grow (List.range 45) T T78 sz [20, 19, 18, 17, 16, 15, 14, 13, 12, 11, 10, 9, 8, 7, 6, 5, 4, 3, 2, 1] := by rw [eT78]; exact gr76.new (by omega) (by decide)
  have fh77 : T78 h77 = some 20 := by rw [eT78]; exact th_new_self
  have hn : T78 a = none := by rw [eT78]; exact (th_new_ne neh77).trans hn
  refine th_putRF (ty := .array .int) (v := .ref h77) S hK hH hS (Or.inl rfl) hn hR inG11 tyX11 tyX11_ok nmX11 rfl 28 (by decide) gm_1258 rfl rfl hnm rfl (by decide +kernel) rfl rfl (Nat.le_of_ble_eq_true rfl) dX11_init_160 (fun H locs hR hH hS zp kp => ?_)
  have hR : va_at D classes (a, .inr (11, [.ref h1, .ref h5, .int 0, .int 0, .int 0, .int (-1), .int 0, .int 0, .int 0, .int 0, .long 0, .ref h9, .ref h13, .ref h17, .ref h21, .ref h25, .ref h29, .ref h33, .ref h37, .ref h41, .ref h45, .ref h49, .ref h53, .ref h57, .ref h61, .ref h65, .ref h69, .ref h73, .ref h77, .null, .null, .null, .null, .null, .null, .null, .null, .null, .null, .null, .null, .int 0, .int 0, .int 0, .int 0, .int 0, .int 0, .int 0, .int 0, .int 0, .int 0, .int 0, .null, .null, .int 0, .int 0, .null, .null, .null, .int 0, .null, .null, .null, .null, .null, .int 0, .int 0, .null, .null])) H := hR
  have hsz0 : sz ≤ H.size := by omega
  refine lv_aload_n hx hb dX11_init_163 rfl (lv_at hl 0 rfl) ?_
  refine lv_bipush (v := 10) hx hb dX11_init_164 (by decide) ?_
  refine th_newa (atype := .int) (t := 0) (N := 10) S hK hH hS 21 gm_174 rfl km_21 (fun T2 j hj => dfl_ea) (by decide) (by decide) (by decide) (by decide) (by decide) dX11_init_166 (fun h81 H eh81 hH nh81 hS zh81 kh81 => ?_)
  have neh81 : a ≠ h81 := by omega
  have hR : va_at D classes (a, .inr (11, [.ref h1, .ref h5, .int 0, .int 0, .int 0, .int (-1), .int 0, .int 0, .int 0, .int 0, .long 0, .ref h9, .ref h13, .ref h17, .ref h21, .ref h25, .ref h29, .ref h33, .ref h37, .ref h41, .ref h45, .ref h49, .ref h53, .ref h57, .ref h61, .ref h65, .ref h69, .ref h73, .ref h77, .null, .null, .null, .null, .null, .null, .null, .null, .null, .null, .null, .null, .int 0, .int 0, .int 0, .int 0, .int 0, .int 0, .int 0, .int 0, .int 0, .int 0, .int 0, .null, .null, .int 0, .int 0, .null, .null, .null, .int 0, .null, .null, .null, .null, .null, .int 0, .int 0, .null, .null])) H := hR.kept (kh81 a (by omega))
  have hsz0 : sz ≤ H.size := by omega
  obtain ⟨T82, eT82⟩ : ∃ t, t = th_new T78 h81 21 := ⟨_, rfl⟩
  rw [← eT82] at hH
  have mo83 : ∀ b j, T78 b = some j → T82 b = some j := by rw [eT82]; exact th_new_sub nh81
  have gr84 : th_grow (List.range 45) T T82 sz [21, 20, 19, 18, 17, 16, 15, 14, 13, 12, 11, 10, 9, 8, 7, 6, 5, 4, 3, 2, 1] := by rw [eT82]; exact gr80.new (by omega) (by decide)
  have fh81 : T82 h81 = some 21 := by rw [eT82]; exact th_new_self
  have hn : T82 a = none := by rw [eT82]; exact (th_new_ne neh81).trans hn
  refine th_putRF (ty := .array .int) (v := .ref h81) S hK hH hS (Or.inl rfl) hn hR inG11 tyX11 tyX11_ok nmX11 rfl 29 (by decide) gm_1259 rfl rfl hnm rfl (by decide +kernel) rfl rfl (Nat.le_of_ble_eq_true rfl) dX11_init_168 (fun H locs hR hH hS zp kp => ?_)
  have hR : va_at D classes (a, .inr (11, [.ref h1, .ref h5, .int 0, .int 0, .int 0, .int (-1), .int 0, .int 0, .int 0, .int 0, .long 0, .ref h9, .ref h13, .ref h17, .ref h21, .ref h25, .ref h29, .ref h33, .ref h37, .ref h41, .ref h45, .ref h49, .ref h53, .ref h57, .ref h61, .ref h65, .ref h69, .ref h73, .ref h77, .ref h81, .null, .null, .null, .null, .null, .null, .null, .null, .null, .null, .null, .int 0, .int 0, .int 0, .int 0, .int 0, .int 0, .int 0, .int 0, .int 0, .int 0, .int 0, .null, .null, .int 0, .int 0, .null, .null, .null, .int 0, .null, .null, .null, .null, .null, .int 0, .int 0, .null, .null])) H := hR
  have hsz0 : sz ≤ H.size := by omega
  refine lv_aload_n hx hb dX11_init_171 rfl (lv_at hl 0 rfl) ?_
  refine lv_iconst (v := 2) hx hb dX11_init_172 (by decide) ?_
  refine th_newa (atype := .boolean) (t := 3) (N := 2) S hK hH hS 22 gm_502 rfl km_22 (fun T2 j hj => dfl_bk) (by decide) (by decide) (by decide) (by decide) (by decide) dX11_init_173 (fun h85 H eh85 hH nh85 hS zh85 kh85 => ?_)
  have neh85 : a ≠ h85 := by omega
  have hR : va_at D classes (a, .inr (11, [.ref h1, .ref h5, .int 0, .int 0, .int 0, .int (-1), .int 0, .int 0, .int 0, .int 0, .long 0, .ref h9, .ref h13, .ref h17, .ref h21, .ref h25, .ref h29, .ref h33, .ref h37, .ref h41, .ref h45, .ref h49, .ref h53, .ref h57, .ref h61, .ref h65, .ref h69, .ref h73, .ref h77, .ref h81, .null, .null, .null, .null, .null, .null, .null, .null, .null, .null, .null, .int 0, .int 0, .int 0, .int 0, .int 0, .int 0, .int 0, .int 0, .int 0, .int 0, .int 0, .null, .null, .int 0, .int 0, .null, .null, .null, .int 0, .null, .null, .null, .null, .null, .int 0, .int 0, .null, .null])) H := hR.kept (kh85 a (by omega))
  have hsz0 : sz ≤ H.size := by omega
  obtain ⟨T86, eT86⟩ : ∃ t, t = th_new T82 h85 22 := ⟨_, rfl⟩
  rw [← eT86] at hH
  have mo87 : ∀ b j, T82 b = some j → T86 b = some j := by rw [eT86]; exact th_new_sub nh85
  have gr88 : th_grow (List.range 45) T T86 sz [22, 21, 20, 19, 18, 17, 16, 15, 14, 13, 12, 11, 10, 9, 8, 7, 6, 5, 4, 3, 2, 1] := by rw [eT86]; exact gr84.new (by omega) (by decide)
  have fh85 : T86 h85 = some 22 := by rw [eT86]; exact th_new_self
  have hn : T86 a = none := by rw [eT86]; exact (th_new_ne neh85).trans hn
  refine th_putRF (ty := .array .boolean) (v := .ref h85) S hK hH hS (Or.inl rfl) hn hR inG11 tyX11 tyX11_ok nmX11 rfl 30 (by decide) gm_1260 rfl rfl hnm rfl (by decide +kernel) rfl rfl (Nat.le_of_ble_eq_true rfl) dX11_init_175 (fun H locs hR hH hS zp kp => ?_)
  have hR : va_at D classes (a, .inr (11, [.ref h1, .ref h5, .int 0, .int 0, .int 0, .int (-1), .int 0, .int 0, .int 0, .int 0, .long 0, .ref h9, .ref h13, .ref h17, .ref h21, .ref h25, .ref h29, .ref h33, .ref h37, .ref h41, .ref h45, .ref h49, .ref h53, .ref h57, .ref h61, .ref h65, .ref h69, .ref h73, .ref h77, .ref h81, .ref h85, .null, .null, .null, .null, .null, .null, .null, .null, .null, .null, .int 0, .int 0, .int 0, .int 0, .int 0, .int 0, .int 0, .int 0, .int 0, .int 0, .int 0, .null, .null, .int 0, .int 0, .null, .null, .null, .int 0, .null, .null, .null, .null, .null, .int 0, .int 0, .null, .null])) H := hR
  have hsz0 : sz ≤ H.size := by omega
  refine lv_aload_n hx hb dX11_init_178 rfl (lv_at hl 0 rfl) ?_
  refine lv_iconst (v := 2) hx hb dX11_init_179 (by decide) ?_
  refine th_newa (atype := .boolean) (t := 3) (N := 2) S hK hH hS 23 gm_502 rfl km_23 (fun T2 j hj => ⟨0, rfl, by decide, by decide⟩) (by decide) (by decide) (by decide) (by decide) (by decide) dX11_init_180 (fun h89 H eh89 hH nh89 hS zh89 kh89 => ?_)
  have neh89 : a ≠ h89 := by omega
  have hR : va_at D classes (a, .inr (11, [.ref h1, .ref h5, .int 0, .int 0, .int 0, .int (-1), .int 0, .int 0, .int 0, .int 0, .long 0, .ref h9, .ref h13, .ref h17, .ref h21, .ref h25, .ref h29, .ref h33, .ref h37, .ref h41, .ref h45, .ref h49, .ref h53, .ref h57, .ref h61, .ref h65, .ref h69, .ref h73, .ref h77, .ref h81, .ref h85, .null, .null, .null, .null, .null, .null, .null, .null, .null, .null, .int 0, .int 0, .int 0, .int 0, .int 0, .int 0, .int 0, .int 0, .int 0, .int 0, .int 0, .null, .null, .int 0, .int 0, .null, .null, .null, .int 0, .null, .null, .null, .null, .null, .int 0, .int 0, .null, .null])) H := hR.kept (kh89 a (by omega))
  have hsz0 : sz ≤ H.size := by omega
  obtain ⟨T90, eT90⟩ : ∃ t, t = th_new T86 h89 23 := ⟨_, rfl⟩
  rw [← eT90] at hH
  have mo91 : ∀ b j, T86 b = some j → T90 b = some j := by rw [eT90]; exact th_new_sub nh89
  have gr92 : th_grow (List.range 45) T T90 sz [23, 22, 21, 20, 19, 18, 17, 16, 15, 14, 13, 12, 11, 10, 9, 8, 7, 6, 5, 4, 3, 2, 1] := by rw [eT90]; exact gr88.new (by omega) (by decide)
  have fh89 : T90 h89 = some 23 := by rw [eT90]; exact th_new_self
  have hn : T90 a = none := by rw [eT90]; exact (th_new_ne neh89).trans hn
  refine th_putRF (ty := .array .boolean) (v := .ref h89) S hK hH hS (Or.inl rfl) hn hR inG11 tyX11 tyX11_ok nmX11 rfl 31 (by decide) gm_1261 rfl rfl hnm rfl (by decide +kernel) rfl rfl (Nat.le_of_ble_eq_true rfl) dX11_init_182 (fun H locs hR hH hS zp kp => ?_)
  have hR : va_at D classes (a, .inr (11, [.ref h1, .ref h5, .int 0, .int 0, .int 0, .int (-1), .int 0, .int 0, .int 0, .int 0, .long 0, .ref h9, .ref h13, .ref h17, .ref h21, .ref h25, .ref h29, .ref h33, .ref h37, .ref h41, .ref h45, .ref h49, .ref h53, .ref h57, .ref h61, .ref h65, .ref h69, .ref h73, .ref h77, .ref h81, .ref h85, .ref h89, .null, .null, .null, .null, .null, .null, .null, .null, .null, .int 0, .int 0, .int 0, .int 0, .int 0, .int 0, .int 0, .int 0, .int 0, .int 0, .int 0, .null, .null, .int 0, .int 0, .null, .null, .null, .int 0, .null, .null, .null, .null, .null, .int 0, .int 0, .null, .null])) H := hR
  have hsz0 : sz ≤ H.size := by omega
  refine lv_aload_n hx hb dX11_init_185 rfl (lv_at hl 0 rfl) ?_
  refine lv_iconst (v := 2) hx hb dX11_init_186 (by decide) ?_
  refine th_newa (atype := .boolean) (t := 3) (N := 2) S hK hH hS 24 gm_502 rfl km_24 (fun T2 j hj => ⟨0, rfl, by decide, by decide⟩) (by decide) (by decide) (by decide) (by decide) (by decide) dX11_init_187 (fun h93 H eh93 hH nh93 hS zh93 kh93 => ?_)
  have neh93 : a ≠ h93 := by omega
  have hR : va_at D classes (a, .inr (11, [.ref h1, .ref h5, .int 0, .int 0, .int 0, .int (-1), .int 0, .int 0, .int 0, .int 0, .long 0, .ref h9, .ref h13, .ref h17, .ref h21, .ref h25, .ref h29, .ref h33, .ref h37, .ref h41, .ref h45, .ref h49, .ref h53, .ref h57, .ref h61, .ref h65, .ref h69, .ref h73, .ref h77, .ref h81, .ref h85, .ref h89, .null, .null, .null, .null, .null, .null, .null, .null, .null, .int 0, .int 0, .int 0, .int 0, .int 0, .int 0, .int 0, .int 0, .int 0, .int 0, .int 0, .null, .null, .int 0, .int 0, .null, .null, .null, .int 0, .null, .null, .null, .null, .null, .int 0, .int 0, .null, .null])) H := hR.kept (kh93 a (by omega))
  have hsz0 : sz ≤ H.size := by omega
  obtain ⟨T94, eT94⟩ : ∃ t, t = th_new T90 h93 24 := ⟨_, rfl⟩
  rw [← eT94] at hH
  have mo95 : ∀ b j, T90 b = some j → T94 b = some j := by rw [eT94]; exact th_new_sub nh93
  have gr96 : th_grow (List.range 45) T T94 sz [24, 23, 22, 21, 20, 19, 18, 17, 16, 15, 14, 13, 12, 11, 10, 9, 8, 7, 6, 5, 4, 3, 2, 1] := by rw [eT94]; exact gr92.new (by omega) (by decide)
  have fh93 : T94 h93 = some 24 := by rw [eT94]; exact th_new_self
  have hn : T94 a = none := by rw [eT94]; exact (th_new_ne neh93).trans hn
  refine th_putRF (ty := .array .boolean) (v := .ref h93) S hK hH hS (Or.inl rfl) hn hR inG11 tyX11 tyX11_ok nmX11 rfl 32 (by decide) gm_1262 rfl rfl hnm rfl (by decide +kernel) rfl rfl (Nat.le_of_ble_eq_true rfl) dX11_init_189 (fun H locs hR hH hS zp kp => ?_)
  have hR : va_at D classes (a, .inr (11, [.ref h1, .ref h5, .int 0, .int 0, .int 0, .int (-1), .int 0, .int 0, .int 0, .int 0, .long 0, .ref h9, .ref h13, .ref h17, .ref h21, .ref h25, .ref h29, .ref h33, .ref h37, .ref h41, .ref h45, .ref h49, .ref h53, .ref h57, .ref h61, .ref h65, .ref h69, .ref h73, .ref h77, .ref h81, .ref h85, .ref h89, .ref h93, .null, .null, .null, .null, .null, .null, .null, .null, .int 0, .int 0, .int 0, .int 0, .int 0, .int 0, .int 0, .int 0, .int 0, .int 0, .int 0, .null, .null, .int 0, .int 0, .null, .null, .null, .int 0, .null, .null, .null, .null, .null, .int 0, .int 0, .null, .null])) H := hR
  have hsz0 : sz ≤ H.size := by omega
  refine lv_aload_n hx hb dX11_init_192 rfl (lv_at hl 0 rfl) ?_
  refine lv_bipush (v := 6) hx hb dX11_init_193 (by decide) ?_
  refine th_newa (atype := .long) (t := 2) (N := 6) S hK hH hS 25 gm_175 rfl km_25 (fun T2 j hj => ⟨0, rfl⟩) (by decide) (by decide) (by decide) (by decide) (by decide) dX11_init_195 (fun h97 H eh97 hH nh97 hS zh97 kh97 => ?_)
  have neh97 : a ≠ h97 := by omega
  have hR : va_at D classes (a, .inr (11, [.ref h1, .ref h5, .int 0, .int 0, .int 0, .int (-1), .int 0, .int 0, .int 0, .int 0, .long 0, .ref h9, .ref h13, .ref h17, .ref h21, .ref h25, .ref h29, .ref h33, .ref h37, .ref h41, .ref h45, .ref h49, .ref h53, .ref h57, .ref h61, .ref h65, .ref h69, .ref h73, .ref h77, .ref h81, .ref h85, .ref h89, .ref h93, .null, .null, .null, .null, .null, .null, .null, .null, .int 0, .int 0, .int 0, .int 0, .int 0, .int 0, .int 0, .int 0, .int 0, .int 0, .int 0, .null, .null, .int 0, .int 0, .null, .null, .null, .int 0, .null, .null, .null, .null, .null, .int 0, .int 0, .null, .null])) H := hR.kept (kh97 a (by omega))
  have hsz0 : sz ≤ H.size := by omega
  obtain ⟨T98, eT98⟩ : ∃ t, t = th_new T94 h97 25 := ⟨_, rfl⟩
  rw [← eT98] at hH
  have mo99 : ∀ b j, T94 b = some j → T98 b = some j := by rw [eT98]; exact th_new_sub nh97
  have gr100 : th_grow (List.range 45) T T98 sz [25, 24, 23, 22, 21, 20, 19, 18, 17, 16, 15, 14, 13, 12, 11, 10, 9, 8, 7, 6, 5, 4, 3, 2, 1] := by rw [eT98]; exact gr96.new (by omega) (by decide)
  have fh97 : T98 h97 = some 25 := by rw [eT98]; exact th_new_self
  have hn : T98 a = none := by rw [eT98]; exact (th_new_ne neh97).trans hn
  refine th_putRF (ty := .array .long) (v := .ref h97) S hK hH hS (Or.inl rfl) hn hR inG11 tyX11 tyX11_ok nmX11 rfl 33 (by decide) gm_1263 rfl rfl hnm rfl (by decide +kernel) rfl rfl (Nat.le_of_ble_eq_true rfl) dX11_init_197 (fun H locs hR hH hS zp kp => ?_)
  have hR : va_at D classes (a, .inr (11, [.ref h1, .ref h5, .int 0, .int 0, .int 0, .int (-1), .int 0, .int 0, .int 0, .int 0, .long 0, .ref h9, .ref h13, .ref h17, .ref h21, .ref h25, .ref h29, .ref h33, .ref h37, .ref h41, .ref h45, .ref h49, .ref h53, .ref h57, .ref h61, .ref h65, .ref h69, .ref h73, .ref h77, .ref h81, .ref h85, .ref h89, .ref h93, .ref h97, .null, .null, .null, .null, .null, .null, .null, .int 0, .int 0, .int 0, .int 0, .int 0, .int 0, .int 0, .int 0, .int 0, .int 0, .int 0, .null, .null, .int 0, .int 0, .null, .null, .null, .int 0, .null, .null, .null, .null, .null, .int 0, .int 0, .null, .null])) H := hR
  have hsz0 : sz ≤ H.size := by omega
  refine lv_aload_n hx hb dX11_init_200 rfl (lv_at hl 0 rfl) ?_
  refine lv_bipush (v := 8) hx hb dX11_init_201 (by decide) ?_
  refine th_newa (atype := .long) (t := 2) (N := 8) S hK hH hS 26 gm_175 rfl km_26 (fun T2 j hj => ⟨0, rfl⟩) (by decide) (by decide) (by decide) (by decide) (by decide) dX11_init_203 (fun h101 H eh101 hH nh101 hS zh101 kh101 => ?_)
  have neh101 : a ≠ h101 := by omega
  have hR : va_at D classes (a, .inr (11, [.ref h1, .ref h5, .int 0, .int 0, .int 0, .int (-1), .int 0, .int 0, .int 0, .int 0, .long 0, .ref h9, .ref h13, .ref h17, .ref h21, .ref h25, .ref h29, .ref h33, .ref h37, .ref h41, .ref h45, .ref h49, .ref h53, .ref h57, .ref h61, .ref h65, .ref h69, .ref h73, .ref h77, .ref h81, .ref h85, .ref h89, .ref h93, .ref h97, .null, .null, .null, .null, .null, .null, .null, .int 0, .int 0, .int 0, .int 0, .int 0, .int 0, .int 0, .int 0, .int 0, .int 0, .int 0, .null, .null, .int 0, .int 0, .null, .null, .null, .int 0, .null, .null, .null, .null, .null, .int 0, .int 0, .null, .null])) H := hR.kept (kh101 a (by omega))
  have hsz0 : sz ≤ H.size := by omega
  obtain ⟨T102, eT102⟩ : ∃ t, t = th_new T98 h101 26 := ⟨_, rfl⟩
  rw [← eT102] at hH
  have mo103 : ∀ b j, T98 b = some j → T102 b = some j := by rw [eT102]; exact th_new_sub nh101
  have gr104 : th_grow (List.range 45) T T102 sz [26, 25, 24, 23, 22, 21, 20, 19, 18, 17, 16, 15, 14, 13, 12, 11, 10, 9, 8, 7, 6, 5, 4, 3, 2, 1] := by rw [eT102]; exact gr100.new (by omega) (by decide)
  have fh101 : T102 h101 = some 26 := by rw [eT102]; exact th_new_self
  have hn : T102 a = none := by rw [eT102]; exact (th_new_ne neh101).trans hn
  refine th_putRF (ty := .array .long) (v := .ref h101) S hK hH hS (Or.inl rfl) hn hR inG11 tyX11 tyX11_ok nmX11 rfl 34 (by decide) gm_1264 rfl rfl hnm rfl (by decide +kernel) rfl rfl (Nat.le_of_ble_eq_true rfl) dX11_init_205 (fun H locs hR hH hS zp kp => ?_)
  have hR : va_at D classes (a, .inr (11, [.ref h1, .ref h5, .int 0, .int 0, .int 0, .int (-1), .int 0, .int 0, .int 0, .int 0, .long 0, .ref h9, .ref h13, .ref h17, .ref h21, .ref h25, .ref h29, .ref h33, .ref h37, .ref h41, .ref h45, .ref h49, .ref h53, .ref h57, .ref h61, .ref h65, .ref h69, .ref h73, .ref h77, .ref h81, .ref h85, .ref h89, .ref h93, .ref h97, .ref h101, .null, .null, .null, .null, .null, .null, .int 0, .int 0, .int 0, .int 0, .int 0, .int 0, .int 0, .int 0, .int 0, .int 0, .int 0, .null, .null, .int 0, .int 0, .null, .null, .null, .int 0, .null, .null, .null, .null, .null, .int 0, .int 0, .null, .null])) H := hR
  have hsz0 : sz ≤ H.size := by omega
  refine lv_aload_n hx hb dX11_init_208 rfl (lv_at hl 0 rfl) ?_
  refine lv_bipush (v := 16) hx hb dX11_init_209 (by decide) ?_
  refine th_newa (atype := .long) (t := 2) (N := 16) S hK hH hS 27 gm_175 rfl km_27 (fun T2 j hj => ⟨0, rfl⟩) (by decide) (by decide) (by decide) (by decide) (by decide) dX11_init_211 (fun h105 H eh105 hH nh105 hS zh105 kh105 => ?_)
  have neh105 : a ≠ h105 := by omega
  have hR : va_at D classes (a, .inr (11, [.ref h1, .ref h5, .int 0, .int 0, .int 0, .int (-1), .int 0, .int 0, .int 0, .int 0, .long 0, .ref h9, .ref h13, .ref h17, .ref h21, .ref h25, .ref h29, .ref h33, .ref h37, .ref h41, .ref h45, .ref h49, .ref h53, .ref h57, .ref h61, .ref h65, .ref h69, .ref h73, .ref h77, .ref h81, .ref h85, .ref h89, .ref h93, .ref h97, .ref h101, .null, .null, .null, .null, .null, .null, .int 0, .int 0, .int 0, .int 0, .int 0, .int 0, .int 0, .int 0, .int 0, .int 0, .int 0, .null, .null, .int 0, .int 0, .null, .null, .null, .int 0, .null, .null, .null, .null, .null, .int 0, .int 0, .null, .null])) H := hR.kept (kh105 a (by omega))
  have hsz0 : sz ≤ H.size := by omega
  obtain ⟨T106, eT106⟩ : ∃ t, t = th_new T102 h105 27 := ⟨_, rfl⟩
  rw [← eT106] at hH
  have mo107 : ∀ b j, T102 b = some j → T106 b = some j := by rw [eT106]; exact th_new_sub nh105
  have gr108 : th_grow (List.range 45) T T106 sz [27, 26, 25, 24, 23, 22, 21, 20, 19, 18, 17, 16, 15, 14, 13, 12, 11, 10, 9, 8, 7, 6, 5, 4, 3, 2, 1] := by rw [eT106]; exact gr104.new (by omega) (by decide)
  have fh105 : T106 h105 = some 27 := by rw [eT106]; exact th_new_self
  have hn : T106 a = none := by rw [eT106]; exact (th_new_ne neh105).trans hn
  refine th_putRF (ty := .array .long) (v := .ref h105) S hK hH hS (Or.inl rfl) hn hR inG11 tyX11 tyX11_ok nmX11 rfl 35 (by decide) gm_1265 rfl rfl hnm rfl (by decide +kernel) rfl rfl (Nat.le_of_ble_eq_true rfl) dX11_init_213 (fun H locs hR hH hS zp kp => ?_)
  have hR : va_at D classes (a, .inr (11, [.ref h1, .ref h5, .int 0, .int 0, .int 0, .int (-1), .int 0, .int 0, .int 0, .int 0, .long 0, .ref h9, .ref h13, .ref h17, .ref h21, .ref h25, .ref h29, .ref h33, .ref h37, .ref h41, .ref h45, .ref h49, .ref h53, .ref h57, .ref h61, .ref h65, .ref h69, .ref h73, .ref h77, .ref h81, .ref h85, .ref h89, .ref h93, .ref h97, .ref h101, .ref h105, .null, .null, .null, .null, .null, .int 0, .int 0, .int 0, .int 0, .int 0, .int 0, .int 0, .int 0, .int 0, .int 0, .int 0, .null, .null, .int 0, .int 0, .null, .null, .null, .int 0, .null, .null, .null, .null, .null, .int 0, .int 0, .null, .null])) H := hR
  have hsz0 : sz ≤ H.size := by omega
  refine lv_aload_n hx hb dX11_init_216 rfl (lv_at hl 0 rfl) ?_
  refine lv_sipush (v := 1120) hx hb dX11_init_217 (by decide) ?_
  refine th_newa (atype := .int) (t := 0) (N := 1120) S hK hH hS 28 gm_174 rfl km_28 (fun T2 j hj => dfl_ea) (by decide) (by decide) (by decide) (by decide) (by decide) dX11_init_220 (fun h109 H eh109 hH nh109 hS zh109 kh109 => ?_)
  have neh109 : a ≠ h109 := by omega
  have hR : va_at D classes (a, .inr (11, [.ref h1, .ref h5, .int 0, .int 0, .int 0, .int (-1), .int 0, .int 0, .int 0, .int 0, .long 0, .ref h9, .ref h13, .ref h17, .ref h21, .ref h25, .ref h29, .ref h33, .ref h37, .ref h41, .ref h45, .ref h49, .ref h53, .ref h57, .ref h61, .ref h65, .ref h69, .ref h73, .ref h77, .ref h81, .ref h85, .ref h89, .ref h93, .ref h97, .ref h101, .ref h105, .null, .null, .null, .null, .null, .int 0, .int 0, .int 0, .int 0, .int 0, .int 0, .int 0, .int 0, .int 0, .int 0, .int 0, .null, .null, .int 0, .int 0, .null, .null, .null, .int 0, .null, .null, .null, .null, .null, .int 0, .int 0, .null, .null])) H := hR.kept (kh109 a (by omega))
  have hsz0 : sz ≤ H.size := by omega
  obtain ⟨T110, eT110⟩ : ∃ t, t = th_new T106 h109 28 := ⟨_, rfl⟩
  rw [← eT110] at hH
  have mo111 : ∀ b j, T106 b = some j → T110 b = some j := by rw [eT110]; exact th_new_sub nh109
  have gr112 : th_grow (List.range 45) T T110 sz [28, 27, 26, 25, 24, 23, 22, 21, 20, 19, 18, 17, 16, 15, 14, 13, 12, 11, 10, 9, 8, 7, 6, 5, 4, 3, 2, 1] := by rw [eT110]; exact gr108.new (by omega) (by decide)
  have fh109 : T110 h109 = some 28 := by rw [eT110]; exact th_new_self
  have hn : T110 a = none := by rw [eT110]; exact (th_new_ne neh109).trans hn
  refine th_putRF (ty := .array .int) (v := .ref h109) S hK hH hS (Or.inl rfl) hn hR inG11 tyX11 tyX11_ok nmX11 rfl 36 (by decide) gm_1266 rfl rfl hnm rfl (by decide +kernel) rfl rfl (Nat.le_of_ble_eq_true rfl) dX11_init_222 (fun H locs hR hH hS zp kp => ?_)
  have hR : va_at D classes (a, .inr (11, [.ref h1, .ref h5, .int 0, .int 0, .int 0, .int (-1), .int 0, .int 0, .int 0, .int 0, .long 0, .ref h9, .ref h13, .ref h17, .ref h21, .ref h25, .ref h29, .ref h33, .ref h37, .ref h41, .ref h45, .ref h49, .ref h53, .ref h57, .ref h61, .ref h65, .ref h69, .ref h73, .ref h77, .ref h81, .ref h85, .ref h89, .ref h93, .ref h97, .ref h101, .ref h105, .ref h109, .null, .null, .null, .null, .int 0, .int 0, .int 0, .int 0, .int 0, .int 0, .int 0, .int 0, .int 0, .int 0, .int 0, .null, .null, .int 0, .int 0, .null, .null, .null, .int 0, .null, .null, .null, .null, .null, .int 0, .int 0, .null, .null])) H := hR
  have hsz0 : sz ≤ H.size := by omega
  refine lv_aload_n hx hb dX11_init_225 rfl (lv_at hl 0 rfl) ?_
  refine lv_sipush (v := 1120) hx hb dX11_init_226 (by decide) ?_
  refine th_newa (atype := .int) (t := 0) (N := 1120) S hK hH hS 29 gm_174 rfl km_29 (fun T2 j hj => ⟨0, rfl, by decide, by decide⟩) (by decide) (by decide) (by decide) (by decide) (by decide) dX11_init_229 (fun h113 H eh113 hH nh113 hS zh113 kh113 => ?_)
  have neh113 : a ≠ h113 := by omega
  have hR : va_at D classes (a, .inr (11, [.ref h1, .ref h5, .int 0, .int 0, .int 0, .int (-1), .int 0, .int 0, .int 0, .int 0, .long 0, .ref h9, .ref h13, .ref h17, .ref h21, .ref h25, .ref h29, .ref h33, .ref h37, .ref h41, .ref h45, .ref h49, .ref h53, .ref h57, .ref h61, .ref h65, .ref h69, .ref h73, .ref h77, .ref h81, .ref h85, .ref h89, .ref h93, .ref h97, .ref h101, .ref h105, .ref h109, .null, .null, .null, .null, .int 0, .int 0, .int 0, .int 0, .int 0, .int 0, .int 0, .int 0, .int 0, .int 0, .int 0, .null, .null, .int 0, .int 0, .null, .null, .null, .int 0, .null, .null, .null, .null, .null, .int 0, .int 0, .null, .null])) H := hR.kept (kh113 a (by omega))
  have hsz0 : sz ≤ H.size := by omega
  obtain ⟨T114, eT114⟩ : ∃ t, t = th_new T110 h113 29 := ⟨_, rfl⟩
  rw [← eT114] at hH
  have mo115 : ∀ b j, T110 b = some j → T114 b = some j := by rw [eT114]; exact th_new_sub nh113
  have gr116 : th_grow (List.range 45) T T114 sz [29, 28, 27, 26, 25, 24, 23, 22, 21, 20, 19, 18, 17, 16, 15, 14, 13, 12, 11, 10, 9, 8, 7, 6, 5, 4, 3, 2, 1] := by rw [eT114]; exact gr112.new (by omega) (by decide)
  have fh113 : T114 h113 = some 29 := by rw [eT114]; exact th_new_self
  have hn : T114 a = none := by rw [eT114]; exact (th_new_ne neh113).trans hn
  refine th_putRF (ty := .array .int) (v := .ref h113) S hK hH hS (Or.inl rfl) hn hR inG11 tyX11 tyX11_ok nmX11 rfl 37 (by decide) gm_1267 rfl rfl hnm rfl (by decide +kernel) rfl rfl (Nat.le_of_ble_eq_true rfl) dX11_init_231 (fun H locs hR hH hS zp kp => ?_)
  have hR : va_at D classes (a, .inr (11, [.ref h1, .ref h5, .int 0, .int 0, .int 0, .int (-1), .int 0, .int 0, .int 0, .int 0, .long 0, .ref h9, .ref h13, .ref h17, .ref h21, .ref h25, .ref h29, .ref h33, .ref h37, .ref h41, .ref h45, .ref h49, .ref h53, .ref h57, .ref h61, .ref h65, .ref h69, .ref h73, .ref h77, .ref h81, .ref h85, .ref h89, .ref h93, .ref h97, .ref h101, .ref h105, .ref h109, .ref h113, .null, .null, .null, .int 0, .int 0, .int 0, .int 0, .int 0, .int 0, .int 0, .int 0, .int 0, .int 0, .int 0, .null, .null, .int 0, .int 0, .null, .null, .null, .int 0, .null, .null, .null, .null, .null, .int 0, .int 0, .null, .null])) H := hR
  have hsz0 : sz ≤ H.size := by omega
  refine lv_aload_n hx hb dX11_init_234 rfl (lv_at hl 0 rfl) ?_
  refine lv_bipush (v := 90) hx hb dX11_init_235 (by decide) ?_
  refine th_newa (atype := .int) (t := 0) (N := 90) S hK hH hS 30 gm_174 rfl km_30 (fun T2 j hj => dfl_ea) (by decide) (by decide) (by decide) (by decide) (by decide) dX11_init_237 (fun h117 H eh117 hH nh117 hS zh117 kh117 => ?_)
  have neh117 : a ≠ h117 := by omega
  have hR : va_at D classes (a, .inr (11, [.ref h1, .ref h5, .int 0, .int 0, .int 0, .int (-1), .int 0, .int 0, .int 0, .int 0, .long 0, .ref h9, .ref h13, .ref h17, .ref h21, .ref h25, .ref h29, .ref h33, .ref h37, .ref h41, .ref h45, .ref h49, .ref h53, .ref h57, .ref h61, .ref h65, .ref h69, .ref h73, .ref h77, .ref h81, .ref h85, .ref h89, .ref h93, .ref h97, .ref h101, .ref h105, .ref h109, .ref h113, .null, .null, .null, .int 0, .int 0, .int 0, .int 0, .int 0, .int 0, .int 0, .int 0, .int 0, .int 0, .int 0, .null, .null, .int 0, .int 0, .null, .null, .null, .int 0, .null, .null, .null, .null, .null, .int 0, .int 0, .null, .null])) H := hR.kept (kh117 a (by omega))
  have hsz0 : sz ≤ H.size := by omega
  obtain ⟨T118, eT118⟩ : ∃ t, t = th_new T114 h117 30 := ⟨_, rfl⟩
  rw [← eT118] at hH
  have mo119 : ∀ b j, T114 b = some j → T118 b = some j := by rw [eT118]; exact th_new_sub nh117
  have gr120 : th_grow (List.range 45) T T118 sz [30, 29, 28, 27, 26, 25, 24, 23, 22, 21, 20, 19, 18, 17, 16, 15, 14, 13, 12, 11, 10, 9, 8, 7, 6, 5, 4, 3, 2, 1] := by rw [eT118]; exact gr116.new (by omega) (by decide)
  have fh117 : T118 h117 = some 30 := by rw [eT118]; exact th_new_self
  have hn : T118 a = none := by rw [eT118]; exact (th_new_ne neh117).trans hn
  refine th_putRF (ty := .array .int) (v := .ref h117) S hK hH hS (Or.inl rfl) hn hR inG11 tyX11 tyX11_ok nmX11 rfl 38 (by decide) gm_1268 rfl rfl hnm rfl (by decide +kernel) rfl rfl (Nat.le_of_ble_eq_true rfl) dX11_init_239 (fun H locs hR hH hS zp kp => ?_)
  have hR : va_at D classes (a, .inr (11, [.ref h1, .ref h5, .int 0, .int 0, .int 0, .int (-1), .int 0, .int 0, .int 0, .int 0, .long 0, .ref h9, .ref h13, .ref h17, .ref h21, .ref h25, .ref h29, .ref h33, .ref h37, .ref h41, .ref h45, .ref h49, .ref h53, .ref h57, .ref h61, .ref h65, .ref h69, .ref h73, .ref h77, .ref h81, .ref h85, .ref h89, .ref h93, .ref h97, .ref h101, .ref h105, .ref h109, .ref h113, .ref h117, .null, .null, .int 0, .int 0, .int 0, .int 0, .int 0, .int 0, .int 0, .int 0, .int 0, .int 0, .int 0, .null, .null, .int 0, .int 0, .null, .null, .null, .int 0, .null, .null, .null, .null, .null, .int 0, .int 0, .null, .null])) H := hR
  have hsz0 : sz ≤ H.size := by omega
  refine lv_aload_n hx hb dX11_init_242 rfl (lv_at hl 0 rfl) ?_
  refine lv_bipush (v := 90) hx hb dX11_init_243 (by decide) ?_
  refine th_newa (atype := .int) (t := 0) (N := 90) S hK hH hS 31 gm_174 rfl km_31 (fun T2 j hj => dfl_ea) (by decide) (by decide) (by decide) (by decide) (by decide) dX11_init_245 (fun h121 H eh121 hH nh121 hS zh121 kh121 => ?_)
  have neh121 : a ≠ h121 := by omega
  have hR : va_at D classes (a, .inr (11, [.ref h1, .ref h5, .int 0, .int 0, .int 0, .int (-1), .int 0, .int 0, .int 0, .int 0, .long 0, .ref h9, .ref h13, .ref h17, .ref h21, .ref h25, .ref h29, .ref h33, .ref h37, .ref h41, .ref h45, .ref h49, .ref h53, .ref h57, .ref h61, .ref h65, .ref h69, .ref h73, .ref h77, .ref h81, .ref h85, .ref h89, .ref h93, .ref h97, .ref h101, .ref h105, .ref h109, .ref h113, .ref h117, .null, .null, .int 0, .int 0, .int 0, .int 0, .int 0, .int 0, .int 0, .int 0, .int 0, .int 0, .int 0, .null, .null, .int 0, .int 0, .null, .null, .null, .int 0, .null, .null, .null, .null, .null, .int 0, .int 0, .null, .null])) H := hR.kept (kh121 a (by omega))
  have hsz0 : sz ≤ H.size := by omega
  obtain ⟨T122, eT122⟩ : ∃ t, t = th_new T118 h121 31 := ⟨_, rfl⟩
  rw [← eT122] at hH
  have mo123 : ∀ b j, T118 b = some j → T122 b = some j := by rw [eT122]; exact th_new_sub nh121
  have gr124 : th_grow (List.range 45) T T122 sz [31, 30, 29, 28, 27, 26, 25, 24, 23, 22, 21, 20, 19, 18, 17, 16, 15, 14, 13, 12, 11, 10, 9, 8, 7, 6, 5, 4, 3, 2, 1] := by rw [eT122]; exact gr120.new (by omega) (by decide)
  have fh121 : T122 h121 = some 31 := by rw [eT122]; exact th_new_self
  have hn : T122 a = none := by rw [eT122]; exact (th_new_ne neh121).trans hn
  refine th_putRF (ty := .array .int) (v := .ref h121) S hK hH hS (Or.inl rfl) hn hR inG11 tyX11 tyX11_ok nmX11 rfl 39 (by decide) gm_1269 rfl rfl hnm rfl (by decide +kernel) rfl rfl (Nat.le_of_ble_eq_true rfl) dX11_init_247 (fun H locs hR hH hS zp kp => ?_)
  have hR : va_at D classes (a, .inr (11, [.ref h1, .ref h5, .int 0, .int 0, .int 0, .int (-1), .int 0, .int 0, .int 0, .int 0, .long 0, .ref h9, .ref h13, .ref h17, .ref h21, .ref h25, .ref h29, .ref h33, .ref h37, .ref h41, .ref h45, .ref h49, .ref h53, .ref h57, .ref h61, .ref h65, .ref h69, .ref h73, .ref h77, .ref h81, .ref h85, .ref h89, .ref h93, .ref h97, .ref h101, .ref h105, .ref h109, .ref h113, .ref h117, .ref h121, .null, .int 0, .int 0, .int 0, .int 0, .int 0, .int 0, .int 0, .int 0, .int 0, .int 0, .int 0, .null, .null, .int 0, .int 0, .null, .null, .null, .int 0, .null, .null, .null, .null, .null, .int 0, .int 0, .null, .null])) H := hR
  have hsz0 : sz ≤ H.size := by omega
  refine lv_aload_n hx hb dX11_init_250 rfl (lv_at hl 0 rfl) ?_
  refine lv_bipush (v := 60) hx hb dX11_init_251 (by decide) ?_
  refine th_newa (atype := .int) (t := 0) (N := 60) S hK hH hS 32 gm_174 rfl km_32 (fun T2 j hj => ⟨0, rfl, by decide, by decide⟩) (by decide) (by decide) (by decide) (by decide) (by decide) dX11_init_253 (fun h125 H eh125 hH nh125 hS zh125 kh125 => ?_)
  have neh125 : a ≠ h125 := by omega
  have hR : va_at D classes (a, .inr (11, [.ref h1, .ref h5, .int 0, .int 0, .int 0, .int (-1), .int 0, .int 0, .int 0, .int 0, .long 0, .ref h9, .ref h13, .ref h17, .ref h21, .ref h25, .ref h29, .ref h33, .ref h37, .ref h41, .ref h45, .ref h49, .ref h53, .ref h57, .ref h61, .ref h65, .ref h69, .ref h73, .ref h77, .ref h81, .ref h85, .ref h89, .ref h93, .ref h97, .ref h101, .ref h105, .ref h109, .ref h113, .ref h117, .ref h121, .null, .int 0, .int 0, .int 0, .int 0, .int 0, .int 0, .int 0, .int 0, .int 0, .int 0, .int 0, .null, .null, .int 0, .int 0, .null, .null, .null, .int 0, .null, .null, .null, .null, .null, .int 0, .int 0, .null, .null])) H := hR.kept (kh125 a (by omega))
  have hsz0 : sz ≤ H.size := by omega
  obtain ⟨T126, eT126⟩ : ∃ t, t = th_new T122 h125 32 := ⟨_, rfl⟩
  rw [← eT126] at hH
  have mo127 : ∀ b j, T122 b = some j → T126 b = some j := by rw [eT126]; exact th_new_sub nh125
  have gr128 : th_grow (List.range 45) T T126 sz [32, 31, 30, 29, 28, 27, 26, 25, 24, 23, 22, 21, 20, 19, 18, 17, 16, 15, 14, 13, 12, 11, 10, 9, 8, 7, 6, 5, 4, 3, 2, 1] := by rw [eT126]; exact gr124.new (by omega) (by decide)
  have fh125 : T126 h125 = some 32 := by rw [eT126]; exact th_new_self
  have hn : T126 a = none := by rw [eT126]; exact (th_new_ne neh125).trans hn
  refine th_putRF (ty := .array .int) (v := .ref h125) S hK hH hS (Or.inl rfl) hn hR inG11 tyX11 tyX11_ok nmX11 rfl 40 (by decide) gm_1270 rfl rfl hnm rfl (by decide +kernel) rfl rfl (Nat.le_of_ble_eq_true rfl) dX11_init_255 (fun H locs hR hH hS zp kp => ?_)
  have hR : va_at D classes (a, .inr (11, [.ref h1, .ref h5, .int 0, .int 0, .int 0, .int (-1), .int 0, .int 0, .int 0, .int 0, .long 0, .ref h9, .ref h13, .ref h17, .ref h21, .ref h25, .ref h29, .ref h33, .ref h37, .ref h41, .ref h45, .ref h49, .ref h53, .ref h57, .ref h61, .ref h65, .ref h69, .ref h73, .ref h77, .ref h81, .ref h85, .ref h89, .ref h93, .ref h97, .ref h101, .ref h105, .ref h109, .ref h113, .ref h117, .ref h121, .ref h125, .int 0, .int 0, .int 0, .int 0, .int 0, .int 0, .int 0, .int 0, .int 0, .int 0, .int 0, .null, .null, .int 0, .int 0, .null, .null, .null, .int 0, .null, .null, .null, .null, .null, .int 0, .int 0, .null, .null])) H := hR
  have hsz0 : sz ≤ H.size := by omega
  refine lv_aload_n hx hb dX11_init_258 rfl (lv_at hl 0 rfl) ?_
  refine lv_bipush (v := 43) hx hb dX11_init_259 (by decide) ?_
  refine th_newa (atype := .int) (t := 0) (N := 43) S hK hH hS 33 gm_174 rfl km_33 (fun T2 j hj => ⟨0, rfl, by decide, by decide⟩) (by decide) (by decide) (by decide) (by decide) (by decide) dX11_init_261 (fun h129 H eh129 hH nh129 hS zh129 kh129 => ?_)
  have neh129 : a ≠ h129 := by omega
  have hR : va_at D classes (a, .inr (11, [.ref h1, .ref h5, .int 0, .int 0, .int 0, .int (-1), .int 0, .int 0, .int 0, .int 0, .long 0, .ref h9, .ref h13, .ref h17, .ref h21, .ref h25, .ref h29, .ref h33, .ref h37, .ref h41, .ref h45, .ref h49, .ref h53, .ref h57, .ref h61, .ref h65, .ref h69, .ref h73, .ref h77, .ref h81, .ref h85, .ref h89, .ref h93, .ref h97, .ref h101, .ref h105, .ref h109, .ref h113, .ref h117, .ref h121, .ref h125, .int 0, .int 0, .int 0, .int 0, .int 0, .int 0, .int 0, .int 0, .int 0, .int 0, .int 0, .null, .null, .int 0, .int 0, .null, .null, .null, .int 0, .null, .null, .null, .null, .null, .int 0, .int 0, .null, .null])) H := hR.kept (kh129 a (by omega))
  have hsz0 : sz ≤ H.size := by omega
  obtain ⟨T130, eT130⟩ : ∃ t, t = th_new T126 h129 33 := ⟨_, rfl⟩
  rw [← eT130] at hH
  have mo131 : ∀ b j, T126 b = some j → T130 b = some j := by rw [eT130]; exact th_new_sub nh129
  have gr132 : th_grow (List.range 45) T T130 sz [33, 32, 31, 30, 29, 28, 27, 26, 25, 24, 23, 22, 21, 20, 19, 18, 17, 16, 15, 14, 13, 12, 11, 10, 9, 8, 7, 6, 5, 4, 3, 2, 1] := by rw [eT130]; exact gr128.new (by omega) (by decide)
  have fh129 : T130 h129 = some 33 := by rw [eT130]; exact th_new_self
  have hn : T130 a = none := by rw [eT130]; exact (th_new_ne neh129).trans hn
  refine th_putRF (ty := .array .int) (v := .ref h129) S hK hH hS (Or.inl rfl) hn hR inG11 tyX11 tyX11_ok nmX11 rfl 52 (by decide) gm_1282 rfl rfl hnm rfl (by decide +kernel) rfl rfl (Nat.le_of_ble_eq_true rfl) dX11_init_263 (fun H locs hR hH hS zp kp => ?_)
  have hR : va_at D classes (a, .inr (11, [.ref h1, .ref h5, .int 0, .int 0, .int 0, .int (-1), .int 0, .int 0, .int 0, .int 0, .long 0, .ref h9, .ref h13, .ref h17, .ref h21, .ref h25, .ref h29, .ref h33, .ref h37, .ref h41, .ref h45, .ref h49, .ref h53, .ref h57, .ref h61, .ref h65, .ref h69, .ref h73, .ref h77, .ref h81, .ref h85, .ref h89, .ref h93, .ref h97, .ref h101, .ref h105, .ref h109, .ref h113, .ref h117, .ref h121, .ref h125, .int 0, .int 0, .int 0, .int 0, .int 0, .int 0, .int 0, .int 0, .int 0, .int 0, .int 0, .ref h129, .null, .int 0, .int 0, .null, .null, .null, .int 0, .null, .null, .null, .null, .null, .int 0, .int 0, .null, .null])) H := hR
  have hsz0 : sz ≤ H.size := by omega
  refine lv_aload_n hx hb dX11_init_266 rfl (lv_at hl 0 rfl) ?_
  refine lv_sipush (v := 1763) hx hb dX11_init_267 (by decide) ?_
  refine th_newa (atype := .int) (t := 0) (N := 1763) S hK hH hS 34 gm_174 rfl km_34 (fun T2 j hj => ⟨0, rfl, by decide, by decide⟩) (by decide) (by decide) (by decide) (by decide) (by decide) dX11_init_270 (fun h133 H eh133 hH nh133 hS zh133 kh133 => ?_)
  have neh133 : a ≠ h133 := by omega
  have hR : va_at D classes (a, .inr (11, [.ref h1, .ref h5, .int 0, .int 0, .int 0, .int (-1), .int 0, .int 0, .int 0, .int 0, .long 0, .ref h9, .ref h13, .ref h17, .ref h21, .ref h25, .ref h29, .ref h33, .ref h37, .ref h41, .ref h45, .ref h49, .ref h53, .ref h57, .ref h61, .ref h65, .ref h69, .ref h73, .ref h77, .ref h81, .ref h85, .ref h89, .ref h93, .ref h97, .ref h101, .ref h105, .ref h109, .ref h113, .ref h117, .ref h121, .ref h125, .int 0, .int 0, .int 0, .int 0, .int 0, .int 0, .int 0, .int 0, .int 0, .int 0, .int 0, .ref h129, .null, .int 0, .int 0, .null, .null, .null, .int 0, .null, .null, .null, .null, .null, .int 0, .int 0, .null, .null])) H := hR.kept (kh133 a (by omega))
  have hsz0 : sz ≤ H.size := by omega
  obtain ⟨T134, eT134⟩ : ∃ t, t = th_new T130 h133 34 := ⟨_, rfl⟩
  rw [← eT134] at hH
  have mo135 : ∀ b j, T130 b = some j → T134 b = some j := by rw [eT134]; exact th_new_sub nh133
  have gr136 : th_grow (List.range 45) T T134 sz [34, 33, 32, 31, 30, 29, 28, 27, 26, 25, 24, 23, 22, 21, 20, 19, 18, 17, 16, 15, 14, 13, 12, 11, 10, 9, 8, 7, 6, 5, 4, 3, 2, 1] := by rw [eT134]; exact gr132.new (by omega) (by decide)
  have fh133 : T134 h133 = some 34 := by rw [eT134]; exact th_new_self
  have hn : T134 a = none := by rw [eT134]; exact (th_new_ne neh133).trans hn
  refine th_putRF (ty := .array .int) (v := .ref h133) S hK hH hS (Or.inl rfl) hn hR inG11 tyX11 tyX11_ok nmX11 rfl 53 (by decide) gm_1283 rfl rfl hnm rfl (by decide +kernel) rfl rfl (Nat.le_of_ble_eq_true rfl) dX11_init_272 (fun H locs hR hH hS zp kp => ?_)
  have hR : va_at D classes (a, .inr (11, [.ref h1, .ref h5, .int 0, .int 0, .int 0, .int (-1), .int 0, .int 0, .int 0, .int 0, .long 0, .ref h9, .ref h13, .ref h17, .ref h21, .ref h25, .ref h29, .ref h33, .ref h37, .ref h41, .ref h45, .ref h49, .ref h53, .ref h57, .ref h61, .ref h65, .ref h69, .ref h73, .ref h77, .ref h81, .ref h85, .ref h89, .ref h93, .ref h97, .ref h101, .ref h105, .ref h109, .ref h113, .ref h117, .ref h121, .ref h125, .int 0, .int 0, .int 0, .int 0, .int 0, .int 0, .int 0, .int 0, .int 0, .int 0, .int 0, .ref h129, .ref h133, .int 0, .int 0, .null, .null, .null, .int 0, .null, .null, .null, .null, .null, .int 0, .int 0, .null, .null])) H := hR
  have hsz0 : sz ≤ H.size := by omega
  refine lv_aload_n hx hb dX11_init_275 rfl (lv_at hl 0 rfl) ?_
  refine lv_bipush (v := 43) hx hb dX11_init_276 (by decide) ?_
  refine th_newa (atype := .int) (t := 0) (N := 43) S hK hH hS 35 gm_174 rfl km_35 (fun T2 j hj => ⟨0, rfl, by decide, by decide⟩) (by decide) (by decide) (by decide) (by decide) (by decide) dX11_init_278 (fun h137 H eh137 hH nh137 hS zh137 kh137 => ?_)
  have neh137 : a ≠ h137 := by omega
  have hR : va_at D classes (a, .inr (11, [.ref h1, .ref h5, .int 0, .int 0, .int 0, .int (-1), .int 0, .int 0, .int 0, .int 0, .long 0, .ref h9, .ref h13, .ref h17, .ref h21, .ref h25, .ref h29, .ref h33, .ref h37, .ref h41, .ref h45, .ref h49, .ref h53, .ref h57, .ref h61, .ref h65, .ref h69, .ref h73, .ref h77, .ref h81, .ref h85, .ref h89, .ref h93, .ref h97, .ref h101, .ref h105, .ref h109, .ref h113, .ref h117, .ref h121, .ref h125, .int 0, .int 0, .int 0, .int 0, .int 0, .int 0, .int 0, .int 0, .int 0, .int 0, .int 0, .ref h129, .ref h133, .int 0, .int 0, .null, .null, .null, .int 0, .null, .null, .null, .null, .null, .int 0, .int 0, .null, .null])) H := hR.kept (kh137 a (by omega))
  have hsz0 : sz ≤ H.size := by omega
  obtain ⟨T138, eT138⟩ : ∃ t, t = th_new T134 h137 35 := ⟨_, rfl⟩
  rw [← eT138] at hH
  have mo139 : ∀ b j, T134 b = some j → T138 b = some j := by rw [eT138]; exact th_new_sub nh137
  have gr140 : th_grow (List.range 45) T T138 sz [35, 34, 33, 32, 31, 30, 29, 28, 27, 26, 25, 24, 23, 22, 21, 20, 19, 18, 17, 16, 15, 14, 13, 12, 11, 10, 9, 8, 7, 6, 5, 4, 3, 2, 1] := by rw [eT138]; exact gr136.new (by omega) (by decide)
  have fh137 : T138 h137 = some 35 := by rw [eT138]; exact th_new_self
  have hn : T138 a = none := by rw [eT138]; exact (th_new_ne neh137).trans hn
  refine th_putRF (ty := .array .int) (v := .ref h137) S hK hH hS (Or.inl rfl) hn hR inG11 tyX11 tyX11_ok nmX11 rfl 56 (by decide) gm_1286 rfl rfl hnm rfl (by decide +kernel) rfl rfl (Nat.le_of_ble_eq_true rfl) dX11_init_280 (fun H locs hR hH hS zp kp => ?_)
  have hR : va_at D classes (a, .inr (11, [.ref h1, .ref h5, .int 0, .int 0, .int 0, .int (-1), .int 0, .int 0, .int 0, .int 0, .long 0, .ref h9, .ref h13, .ref h17, .ref h21, .ref h25, .ref h29, .ref h33, .ref h37, .ref h41, .ref h45, .ref h49, .ref h53, .ref h57, .ref h61, .ref h65, .ref h69, .ref h73, .ref h77, .ref h81, .ref h85, .ref h89, .ref h93, .ref h97, .ref h101, .ref h105, .ref h109, .ref h113, .ref h117, .ref h121, .ref h125, .int 0, .int 0, .int 0, .int 0, .int 0, .int 0, .int 0, .int 0, .int 0, .int 0, .int 0, .ref h129, .ref h133, .int 0, .int 0, .ref h137, .null, .null, .int 0, .null, .null, .null, .null, .null, .int 0, .int 0, .null, .null])) H := hR
  have hsz0 : sz ≤ H.size := by omega
  refine lv_aload_n hx hb dX11_init_283 rfl (lv_at hl 0 rfl) ?_
  refine lv_iconst (v := 4) hx hb dX11_init_284 (by decide) ?_
  refine th_newa (atype := .int) (t := 0) (N := 4) S hK hH hS 36 gm_174 rfl km_36 (fun T2 j hj => ⟨0, rfl, by decide, by decide⟩) (by decide) (by decide) (by decide) (by decide) (by decide) dX11_init_285 (fun h141 H eh141 hH nh141 hS zh141 kh141 => ?_)
  have neh141 : a ≠ h141 := by omega
  have hR : va_at D classes (a, .inr (11, [.ref h1, .ref h5, .int 0, .int 0, .int 0, .int (-1), .int 0, .int 0, .int 0, .int 0, .long 0, .ref h9, .ref h13, .ref h17, .ref h21, .ref h25, .ref h29, .ref h33, .ref h37, .ref h41, .ref h45, .ref h49, .ref h53, .ref h57, .ref h61, .ref h65, .ref h69, .ref h73, .ref h77, .ref h81, .ref h85, .ref h89, .ref h93, .ref h97, .ref h101, .ref h105, .ref h109, .ref h113, .ref h117, .ref h121, .ref h125, .int 0, .int 0, .int 0, .int 0, .int 0, .int 0, .int 0, .int 0, .int 0, .int 0, .int 0, .ref h129, .ref h133, .int 0, .int 0, .ref h137, .null, .null, .int 0, .null, .null, .null, .null, .null, .int 0, .int 0, .null, .null])) H := hR.kept (kh141 a (by omega))
  have hsz0 : sz ≤ H.size := by omega
  obtain ⟨T142, eT142⟩ : ∃ t, t = th_new T138 h141 36 := ⟨_, rfl⟩
  rw [← eT142] at hH
  have mo143 : ∀ b j, T138 b = some j → T142 b = some j := by rw [eT142]; exact th_new_sub nh141
  have gr144 : th_grow (List.range 45) T T142 sz [36, 35, 34, 33, 32, 31, 30, 29, 28, 27, 26, 25, 24, 23, 22, 21, 20, 19, 18, 17, 16, 15, 14, 13, 12, 11, 10, 9, 8, 7, 6, 5, 4, 3, 2, 1] := by rw [eT142]; exact gr140.new (by omega) (by decide)
  have fh141 : T142 h141 = some 36 := by rw [eT142]; exact th_new_self
  have hn : T142 a = none := by rw [eT142]; exact (th_new_ne neh141).trans hn
  refine th_putRF (ty := .array .int) (v := .ref h141) S hK hH hS (Or.inl rfl) hn hR inG11 tyX11 tyX11_ok nmX11 rfl 57 (by decide) gm_1287 rfl rfl hnm rfl (by decide +kernel) rfl rfl (Nat.le_of_ble_eq_true rfl) dX11_init_287 (fun H locs hR hH hS zp kp => ?_)
  have hR : va_at D classes (a, .inr (11, [.ref h1, .ref h5, .int 0, .int 0, .int 0, .int (-1), .int 0, .int 0, .int 0, .int 0, .long 0, .ref h9, .ref h13, .ref h17, .ref h21, .ref h25, .ref h29, .ref h33, .ref h37, .ref h41, .ref h45, .ref h49, .ref h53, .ref h57, .ref h61, .ref h65, .ref h69, .ref h73, .ref h77, .ref h81, .ref h85, .ref h89, .ref h93, .ref h97, .ref h101, .ref h105, .ref h109, .ref h113, .ref h117, .ref h121, .ref h125, .int 0, .int 0, .int 0, .int 0, .int 0, .int 0, .int 0, .int 0, .int 0, .int 0, .int 0, .ref h129, .ref h133, .int 0, .int 0, .ref h137, .ref h141, .null, .int 0, .null, .null, .null, .null, .null, .int 0, .int 0, .null, .null])) H := hR
  have hsz0 : sz ≤ H.size := by omega
  refine lv_aload_n hx hb dX11_init_290 rfl (lv_at hl 0 rfl) ?_
  refine lv_iconst (v := 4) hx hb dX11_init_291 (by decide) ?_
  refine th_newa (atype := .int) (t := 0) (N := 4) S hK hH hS 37 gm_174 rfl km_37 (fun T2 j hj => dfl_ea) (by decide) (by decide) (by decide) (by decide) (by decide) dX11_init_292 (fun h145 H eh145 hH nh145 hS zh145 kh145 => ?_)
  have neh145 : a ≠ h145 := by omega
  have hR : va_at D classes (a, .inr (11, [.ref h1, .ref h5, .int 0, .int 0, .int 0, .int (-1), .int 0, .int 0, .int 0, .int 0, .long 0, .ref h9, .ref h13, .ref h17, .ref h21, .ref h25, .ref h29, .ref h33, .ref h37, .ref h41, .ref h45, .ref h49, .ref h53, .ref h57, .ref h61, .ref h65, .ref h69, .ref h73, .ref h77, .ref h81, .ref h85, .ref h89, .ref h93, .ref h97, .ref h101, .ref h105, .ref h109, .ref h113, .ref h117, .ref h121, .ref h125, .int 0, .int 0, .int 0, .int 0, .int 0, .int 0, .int 0, .int 0, .int 0, .int 0, .int 0, .ref h129, .ref h133, .int 0, .int 0, .ref h137, .ref h141, .null, .int 0, .null, .null, .null, .null, .null, .int 0, .int 0, .null, .null])) H := hR.kept (kh145 a (by omega))
  have hsz0 : sz ≤ H.size := by omega
  obtain ⟨T146, eT146⟩ : ∃ t, t = th_new T142 h145 37 := ⟨_, rfl⟩
  rw [← eT146] at hH
  have mo147 : ∀ b j, T142 b = some j → T146 b = some j := by rw [eT146]; exact th_new_sub nh145
  have gr148 : th_grow (List.range 45) T T146 sz [37, 36, 35, 34, 33, 32, 31, 30, 29, 28, 27, 26, 25, 24, 23, 22, 21, 20, 19, 18, 17, 16, 15, 14, 13, 12, 11, 10, 9, 8, 7, 6, 5, 4, 3, 2, 1] := by rw [eT146]; exact gr144.new (by omega) (by decide)
  have fh145 : T146 h145 = some 37 := by rw [eT146]; exact th_new_self
  have hn : T146 a = none := by rw [eT146]; exact (th_new_ne neh145).trans hn
  refine th_putRF (ty := .array .int) (v := .ref h145) S hK hH hS (Or.inl rfl) hn hR inG11 tyX11 tyX11_ok nmX11 rfl 58 (by decide) gm_1288 rfl rfl hnm rfl (by decide +kernel) rfl rfl (Nat.le_of_ble_eq_true rfl) dX11_init_294 (fun H locs hR hH hS zp kp => ?_)
  have hR : va_at D classes (a, .inr (11, [.ref h1, .ref h5, .int 0, .int 0, .int 0, .int (-1), .int 0, .int 0, .int 0, .int 0, .long 0, .ref h9, .ref h13, .ref h17, .ref h21, .ref h25, .ref h29, .ref h33, .ref h37, .ref h41, .ref h45, .ref h49, .ref h53, .ref h57, .ref h61, .ref h65, .ref h69, .ref h73, .ref h77, .ref h81, .ref h85, .ref h89, .ref h93, .ref h97, .ref h101, .ref h105, .ref h109, .ref h113, .ref h117, .ref h121, .ref h125, .int 0, .int 0, .int 0, .int 0, .int 0, .int 0, .int 0, .int 0, .int 0, .int 0, .int 0, .ref h129, .ref h133, .int 0, .int 0, .ref h137, .ref h141, .ref h145, .int 0, .null, .null, .null, .null, .null, .int 0, .int 0, .null, .null])) H := hR
  have hsz0 : sz ≤ H.size := by omega
  refine lv_aload_n hx hb dX11_init_297 rfl (lv_at hl 0 rfl) ?_
  refine lv_bipush (v := 90) hx hb dX11_init_298 (by decide) ?_
  refine th_newa (atype := .int) (t := 0) (N := 90) S hK hH hS 38 gm_174 rfl km_38 (fun T2 j hj => ⟨0, rfl, by decide, by decide⟩) (by decide) (by decide) (by decide) (by decide) (by decide) dX11_init_300 (fun h149 H eh149 hH nh149 hS zh149 kh149 => ?_)
  have neh149 : a ≠ h149 := by omega
  have hR : va_at D classes (a, .inr (11, [.ref h1, .ref h5, .int 0, .int 0, .int 0, .int (-1), .int 0, .int 0, .int 0, .int 0, .long 0, .ref h9, .ref h13, .ref h17, .ref h21, .ref h25, .ref h29, .ref h33, .ref h37, .ref h41, .ref h45, .ref h49, .ref h53, .ref h57, .ref h61, .ref h65, .ref h69, .ref h73, .ref h77, .ref h81, .ref h85, .ref h89, .ref h93, .ref h97, .ref h101, .ref h105, .ref h109, .ref h113, .ref h117, .ref h121, .ref h125, .int 0, .int 0, .int 0, .int 0, .int 0, .int 0, .int 0, .int 0, .int 0, .int 0, .int 0, .ref h129, .ref h133, .int 0, .int 0, .ref h137, .ref h141, .ref h145, .int 0, .null, .null, .null, .null, .null, .int 0, .int 0, .null, .null])) H := hR.kept (kh149 a (by omega))
  have hsz0 : sz ≤ H.size := by omega
  obtain ⟨T150, eT150⟩ : ∃ t, t = th_new T146 h149 38 := ⟨_, rfl⟩
  rw [← eT150] at hH
  have mo151 : ∀ b j, T146 b = some j → T150 b = some j := by rw [eT150]; exact th_new_sub nh149
  have gr152 : th_grow (List.range 45) T T150 sz [38, 37, 36, 35, 34, 33, 32, 31, 30, 29, 28, 27, 26, 25, 24, 23, 22, 21, 20, 19, 18, 17, 16, 15, 14, 13, 12, 11, 10, 9, 8, 7, 6, 5, 4, 3, 2, 1] := by rw [eT150]; exact gr148.new (by omega) (by decide)
  have fh149 : T150 h149 = some 38 := by rw [eT150]; exact th_new_self
  have hn : T150 a = none := by rw [eT150]; exact (th_new_ne neh149).trans hn
  refine th_putRF (ty := .array .int) (v := .ref h149) S hK hH hS (Or.inl rfl) hn hR inG11 tyX11 tyX11_ok nmX11 rfl 60 (by decide) gm_1290 rfl rfl hnm rfl (by decide +kernel) rfl rfl (Nat.le_of_ble_eq_true rfl) dX11_init_302 (fun H locs hR hH hS zp kp => ?_)
  have hR : va_at D classes (a, .inr (11, [.ref h1, .ref h5, .int 0, .int 0, .int 0, .int (-1), .int 0, .int 0, .int 0, .int 0, .long 0, .ref h9, .ref h13, .ref h17, .ref h21, .ref h25, .ref h29, .ref h33, .ref h37, .ref h41, .ref h45, .ref h49, .ref h53, .ref h57, .ref h61, .ref h65, .ref h69, .ref h73, .ref h77, .ref h81, .ref h85, .ref h89, .ref h93, .ref h97, .ref h101, .ref h105, .ref h109, .ref h113, .ref h117, .ref h121, .ref h125, .int 0, .int 0, .int 0, .int 0, .int 0, .int 0, .int 0, .int 0, .int 0, .int 0, .int 0, .ref h129, .ref h133, .int 0, .int 0, .ref h137, .ref h141, .ref h145, .int 0, .ref h149, .null, .null, .null, .null, .int 0, .int 0, .null, .null])) H := hR
  have hsz0 : sz ≤ H.size := by omega
  refine lv_aload_n hx hb dX11_init_305 rfl (lv_at hl 0 rfl) ?_
  refine lv_bipush (v := 30) hx hb dX11_init_306 (by decide) ?_
  refine th_newa (atype := .int) (t := 0) (N := 30) S hK hH hS 39 gm_174 rfl km_39 (fun T2 j hj => ⟨0, rfl, by decide, by decide⟩) (by decide) (by decide) (by decide) (by decide) (by decide) dX11_init_308 (fun h153 H eh153 hH nh153 hS zh153 kh153 => ?_)
  have neh153 : a ≠ h153 := by omega
  have hR : va_at D classes (a, .inr (11, [.ref h1, .ref h5, .int 0, .int 0, .int 0, .int (-1), .int 0, .int 0, .int 0, .int 0, .long 0, .ref h9, .ref h13, .ref h17, .ref h21, .ref h25, .ref h29, .ref h33, .ref h37, .ref h41, .ref h45, .ref h49, .ref h53, .ref h57, .ref h61, .ref h65, .ref h69, .ref h73, .ref h77, .ref h81, .ref h85, .ref h89, .ref h93, .ref h97, .ref h101, .ref h105, .ref h109, .ref h113, .ref h117, .ref h121, .ref h125, .int 0, .int 0, .int 0, .int 0, .int 0, .int 0, .int 0, .int 0, .int 0, .int 0, .int 0, .ref h129, .ref h133, .int 0, .int 0, .ref h137, .ref h141, .ref h145, .int 0, .ref h149, .null, .null, .null, .null, .int 0, .int 0, .null, .null])) H := hR.kept (kh153 a (by omega))
  have hsz0 : sz ≤ H.size := by omega
  obtain ⟨T154, eT154⟩ : ∃ t, t = th_new T150 h153 39 := ⟨_, rfl⟩
  rw [← eT154] at hH
  have mo155 : ∀ b j, T150 b = some j → T154 b = some j := by rw [eT154]; exact th_new_sub nh153
  have gr156 : th_grow (List.range 45) T T154 sz [39, 38, 37, 36, 35, 34, 33, 32, 31, 30, 29, 28, 27, 26, 25, 24, 23, 22, 21, 20, 19, 18, 17, 16, 15, 14, 13, 12, 11, 10, 9, 8, 7, 6, 5, 4, 3, 2, 1] := by rw [eT154]; exact gr152.new (by omega) (by decide)
  have fh153 : T154 h153 = some 39 := by rw [eT154]; exact th_new_self
  have hn : T154 a = none := by rw [eT154]; exact (th_new_ne neh153).trans hn
  refine th_putRF (ty := .array .int) (v := .ref h153) S hK hH hS (Or.inl rfl) hn hR inG11 tyX11 tyX11_ok nmX11 rfl 61 (by decide) gm_1291 rfl rfl hnm rfl (by decide +kernel) rfl rfl (Nat.le_of_ble_eq_true rfl) dX11_init_310 (fun H locs hR hH hS zp kp => ?_)
  have hR : va_at D classes (a, .inr (11, [.ref h1, .ref h5, .int 0, .int 0, .int 0, .int (-1), .int 0, .int 0, .int 0, .int 0, .long 0, .ref h9, .ref h13, .ref h17, .ref h21, .ref h25, .ref h29, .ref h33, .ref h37, .ref h41, .ref h45, .ref h49, .ref h53, .ref h57, .ref h61, .ref h65, .ref h69, .ref h73, .ref h77, .ref h81, .ref h85, .ref h89, .ref h93, .ref h97, .ref h101, .ref h105, .ref h109, .ref h113, .ref h117, .ref h121, .ref h125, .int 0, .int 0, .int 0, .int 0, .int 0, .int 0, .int 0, .int 0, .int 0, .int 0, .int 0, .ref h129, .ref h133, .int 0, .int 0, .ref h137, .ref h141, .ref h145, .int 0, .ref h149, .ref h153, .null, .null, .null, .int 0, .int 0, .null, .null])) H := hR
  have hsz0 : sz ≤ H.size := by omega
  refine lv_aload_n hx hb dX11_init_313 rfl (lv_at hl 0 rfl) ?_
  refine lv_bipush (v := 30) hx hb dX11_init_314 (by decide) ?_
  refine th_newa (atype := .int) (t := 0) (N := 30) S hK hH hS 40 gm_174 rfl km_40 (fun T2 j hj => ⟨0, rfl, by decide, by decide⟩) (by decide) (by decide) (by decide) (by decide) (by decide) dX11_init_316 (fun h157 H eh157 hH nh157 hS zh157 kh157 => ?_)
  have neh157 : a ≠ h157 := by omega
  have hR : va_at D classes (a, .inr (11, [.ref h1, .ref h5, .int 0, .int 0, .int 0, .int (-1), .int 0, .int 0, .int 0, .int 0, .long 0, .ref h9, .ref h13, .ref h17, .ref h21, .ref h25, .ref h29, .ref h33, .ref h37, .ref h41, .ref h45, .ref h49, .ref h53, .ref h57, .ref h61, .ref h65, .ref h69, .ref h73, .ref h77, .ref h81, .ref h85, .ref h89, .ref h93, .ref h97, .ref h101, .ref h105, .ref h109, .ref h113, .ref h117, .ref h121, .ref h125, .int 0, .int 0, .int 0, .int 0, .int 0, .int 0, .int 0, .int 0, .int 0, .int 0, .int 0, .ref h129, .ref h133, .int 0, .int 0, .ref h137, .ref h141, .ref h145, .int 0, .ref h149, .ref h153, .null, .null, .null, .int 0, .int 0, .null, .null])) H := hR.kept (kh157 a (by omega))
  have hsz0 : sz ≤ H.size := by omega
  obtain ⟨T158, eT158⟩ : ∃ t, t = th_new T154 h157 40 := ⟨_, rfl⟩
  rw [← eT158] at hH
  have mo159 : ∀ b j, T154 b = some j → T158 b = some j := by rw [eT158]; exact th_new_sub nh157
  have gr160 : th_grow (List.range 45) T T158 sz [40, 39, 38, 37, 36, 35, 34, 33, 32, 31, 30, 29, 28, 27, 26, 25, 24, 23, 22, 21, 20, 19, 18, 17, 16, 15, 14, 13, 12, 11, 10, 9, 8, 7, 6, 5, 4, 3, 2, 1] := by rw [eT158]; exact gr156.new (by omega) (by decide)
  have fh157 : T158 h157 = some 40 := by rw [eT158]; exact th_new_self
  have hn : T158 a = none := by rw [eT158]; exact (th_new_ne neh157).trans hn
  refine th_putRF (ty := .array .int) (v := .ref h157) S hK hH hS (Or.inl rfl) hn hR inG11 tyX11 tyX11_ok nmX11 rfl 62 (by decide) gm_1292 rfl rfl hnm rfl (by decide +kernel) rfl rfl (Nat.le_of_ble_eq_true rfl) dX11_init_318 (fun H locs hR hH hS zp kp => ?_)
  have hR : va_at D classes (a, .inr (11, [.ref h1, .ref h5, .int 0, .int 0, .int 0, .int (-1), .int 0, .int 0, .int 0, .int 0, .long 0, .ref h9, .ref h13, .ref h17, .ref h21, .ref h25, .ref h29, .ref h33, .ref h37, .ref h41, .ref h45, .ref h49, .ref h53, .ref h57, .ref h61, .ref h65, .ref h69, .ref h73, .ref h77, .ref h81, .ref h85, .ref h89, .ref h93, .ref h97, .ref h101, .ref h105, .ref h109, .ref h113, .ref h117, .ref h121, .ref h125, .int 0, .int 0, .int 0, .int 0, .int 0, .int 0, .int 0, .int 0, .int 0, .int 0, .int 0, .ref h129, .ref h133, .int 0, .int 0, .ref h137, .ref h141, .ref h145, .int 0, .ref h149, .ref h153, .ref h157, .null, .null, .int 0, .int 0, .null, .null])) H := hR
  have hsz0 : sz ≤ H.size := by omega
  refine lv_aload_n hx hb dX11_init_321 rfl (lv_at hl 0 rfl) ?_
  refine lv_bipush (v := 30) hx hb dX11_init_322 (by decide) ?_
  refine th_newa (atype := .int) (t := 0) (N := 30) S hK hH hS 41 gm_174 rfl km_41 (fun T2 j hj => ⟨0, rfl, by decide, by decide⟩) (by decide) (by decide) (by decide) (by decide) (by decide) dX11_init_324 (fun h161 H eh161 hH nh161 hS zh161 kh161 => ?_)
  have neh161 : a ≠ h161 := by omega
  have hR : va_at D classes (a, .inr (11, [.ref h1, .ref h5, .int 0, .int 0, .int 0, .int (-1), .int 0, .int 0, .int 0, .int 0, .long 0, .ref h9, .ref h13, .ref h17, .ref h21, .ref h25, .ref h29, .ref h33, .ref h37, .ref h41, .ref h45, .ref h49, .ref h53, .ref h57, .ref h61, .ref h65, .ref h69, .ref h73, .ref h77, .ref h81, .ref h85, .ref h89, .ref h93, .ref h97, .ref h101, .ref h105, .ref h109, .ref h113, .ref h117, .ref h121, .ref h125, .int 0, .int 0, .int 0, .int 0, .int 0, .int 0, .int 0, .int 0, .int 0, .int 0, .int 0, .ref h129, .ref h133, .int 0, .int 0, .ref h137, .ref h141, .ref h145, .int 0, .ref h149, .ref h153, .ref h157, .null, .null, .int 0, .int 0, .null, .null])) H := hR.kept (kh161 a (by omega))
  have hsz0 : sz ≤ H.size := by omega
  obtain ⟨T162, eT162⟩ : ∃ t, t = th_new T158 h161 41 := ⟨_, rfl⟩
  rw [← eT162] at hH
  have mo163 : ∀ b j, T158 b = some j → T162 b = some j := by rw [eT162]; exact th_new_sub nh161
  have gr164 : th_grow (List.range 45) T T162 sz [41, 40, 39, 38, 37, 36, 35, 34, 33, 32, 31, 30, 29, 28, 27, 26, 25, 24, 23, 22, 21, 20, 19, 18, 17, 16, 15, 14, 13, 12, 11, 10, 9, 8, 7, 6, 5, 4, 3, 2, 1] := by rw [eT162]; exact gr160.new (by omega) (by decide)
  have fh161 : T162 h161 = some 41 := by rw [eT162]; exact th_new_self
  have hn : T162 a = none := by rw [eT162]; exact (th_new_ne neh161).trans hn
  refine th_putRF (ty := .array .int) (v := .ref h161) S hK hH hS (Or.inl rfl) hn hR inG11 tyX11 tyX11_ok nmX11 rfl 63 (by decide) gm_1293 rfl rfl hnm rfl (by decide +kernel) rfl rfl (Nat.le_of_ble_eq_true rfl) dX11_init_326 (fun H locs hR hH hS zp kp => ?_)
  have hR : va_at D classes (a, .inr (11, [.ref h1, .ref h5, .int 0, .int 0, .int 0, .int (-1), .int 0, .int 0, .int 0, .int 0, .long 0, .ref h9, .ref h13, .ref h17, .ref h21, .ref h25, .ref h29, .ref h33, .ref h37, .ref h41, .ref h45, .ref h49, .ref h53, .ref h57, .ref h61, .ref h65, .ref h69, .ref h73, .ref h77, .ref h81, .ref h85, .ref h89, .ref h93, .ref h97, .ref h101, .ref h105, .ref h109, .ref h113, .ref h117, .ref h121, .ref h125, .int 0, .int 0, .int 0, .int 0, .int 0, .int 0, .int 0, .int 0, .int 0, .int 0, .int 0, .ref h129, .ref h133, .int 0, .int 0, .ref h137, .ref h141, .ref h145, .int 0, .ref h149, .ref h153, .ref h157, .ref h161, .null, .int 0, .int 0, .null, .null])) H := hR
  have hsz0 : sz ≤ H.size := by omega
  refine lv_aload_n hx hb dX11_init_329 rfl (lv_at hl 0 rfl) ?_
  refine lv_bipush (v := 30) hx hb dX11_init_330 (by decide) ?_
  refine th_newa (atype := .int) (t := 0) (N := 30) S hK hH hS 42 gm_174 rfl km_42 (fun T2 j hj => ⟨0, rfl, by decide, by decide⟩) (by decide) (by decide) (by decide) (by decide) (by decide) dX11_init_332 (fun h165 H eh165 hH nh165 hS zh165 kh165 => ?_)
  have neh165 : a ≠ h165 := by omega
  have hR : va_at D classes (a, .inr (11, [.ref h1, .ref h5, .int 0, .int 0, .int 0, .int (-1), .int 0, .int 0, .int 0, .int 0, .long 0, .ref h9, .ref h13, .ref h17, .ref h21, .ref h25, .ref h29, .ref h33, .ref h37, .ref h41, .ref h45, .ref h49, .ref h53, .ref h57, .ref h61, .ref h65, .ref h69, .ref h73, .ref h77, .ref h81, .ref h85, .ref h89, .ref h93, .ref h97, .ref h101, .ref h105, .ref h109, .ref h113, .ref h117, .ref h121, .ref h125, .int 0, .int 0, .int 0, .int 0, .int 0, .int 0, .int 0, .int 0, .int 0, .int 0, .int 0, .ref h129, .ref h133, .int 0, .int 0, .ref h137, .ref h141, .ref h145, .int 0, .ref h149, .ref h153, .ref h157, .ref h161, .null, .int 0, .int 0, .null, .null])) H := hR.kept (kh165 a (by omega))
  have hsz0 : sz ≤ H.size := by omega
  obtain ⟨T166, eT166⟩ : ∃ t, t = th_new T162 h165 42 := ⟨_, rfl⟩
  rw [← eT166] at hH
  have mo167 : ∀ b j, T162 b = some j → T166 b = some j := by rw [eT166]; exact th_new_sub nh165
  have gr168 : th_grow (List.range 45) T T166 sz [42, 41, 40, 39, 38, 37, 36, 35, 34, 33, 32, 31, 30, 29, 28, 27, 26, 25, 24, 23, 22, 21, 20, 19, 18, 17, 16, 15, 14, 13, 12, 11, 10, 9, 8, 7, 6, 5, 4, 3, 2, 1] := by rw [eT166]; exact gr164.new (by omega) (by decide)
  have fh165 : T166 h165 = some 42 := by rw [eT166]; exact th_new_self
  have hn : T166 a = none := by rw [eT166]; exact (th_new_ne neh165).trans hn
  refine th_putRF (ty := .array .int) (v := .ref h165) S hK hH hS (Or.inl rfl) hn hR inG11 tyX11 tyX11_ok nmX11 rfl 64 (by decide) gm_1294 rfl rfl hnm rfl (by decide +kernel) rfl rfl (Nat.le_of_ble_eq_true rfl) dX11_init_334 (fun H locs hR hH hS zp kp => ?_)
  have hR : va_at D classes (a, .inr (11, [.ref h1, .ref h5, .int 0, .int 0, .int 0, .int (-1), .int 0, .int 0, .int 0, .int 0, .long 0, .ref h9, .ref h13, .ref h17, .ref h21, .ref h25, .ref h29, .ref h33, .ref h37, .ref h41, .ref h45, .ref h49, .ref h53, .ref h57, .ref h61, .ref h65, .ref h69, .ref h73, .ref h77, .ref h81, .ref h85, .ref h89, .ref h93, .ref h97, .ref h101, .ref h105, .ref h109, .ref h113, .ref h117, .ref h121, .ref h125, .int 0, .int 0, .int 0, .int 0, .int 0, .int 0, .int 0, .int 0, .int 0, .int 0, .int 0, .ref h129, .ref h133, .int 0, .int 0, .ref h137, .ref h141, .ref h145, .int 0, .ref h149, .ref h153, .ref h157, .ref h161, .ref h165, .int 0, .int 0, .null, .null])) H := hR
  have hsz0 : sz ≤ H.size := by omega
  refine lv_aload_n hx hb dX11_init_337 rfl (lv_at hl 0 rfl) ?_
  refine lv_sipush (v := 129) hx hb dX11_init_338 (by decide) ?_
  refine th_newa (atype := .int) (t := 0) (N := 129) S hK hH hS 43 gm_174 rfl km_43 (fun T2 j hj => ⟨0, rfl, by decide, by decide⟩) (by decide) (by decide) (by decide) (by decide) (by decide) dX11_init_341 (fun h169 H eh169 hH nh169 hS zh169 kh169 => ?_)
  have neh169 : a ≠ h169 := by omega
  have hR : va_at D classes (a, .inr (11, [.ref h1, .ref h5, .int 0, .int 0, .int 0, .int (-1), .int 0, .int 0, .int 0, .int 0, .long 0, .ref h9, .ref h13, .ref h17, .ref h21, .ref h25, .ref h29, .ref h33, .ref h37, .ref h41, .ref h45, .ref h49, .ref h53, .ref h57, .ref h61, .ref h65, .ref h69, .ref h73, .ref h77, .ref h81, .ref h85, .ref h89, .ref h93, .ref h97, .ref h101, .ref h105, .ref h109, .ref h113, .ref h117, .ref h121, .ref h125, .int 0, .int 0, .int 0, .int 0, .int 0, .int 0, .int 0, .int 0, .int 0, .int 0, .int 0, .ref h129, .ref h133, .int 0, .int 0, .ref h137, .ref h141, .ref h145, .int 0, .ref h149, .ref h153, .ref h157, .ref h161, .ref h165, .int 0, .int 0, .null, .null])) H := hR.kept (kh169 a (by omega))
  have hsz0 : sz ≤ H.size := by omega
  obtain ⟨T170, eT170⟩ : ∃ t, t = th_new T166 h169 43 := ⟨_, rfl⟩
  rw [← eT170] at hH
  have mo171 : ∀ b j, T166 b = some j → T170 b = some j := by rw [eT170]; exact th_new_sub nh169
  have gr172 : th_grow (List.range 45) T T170 sz [43, 42, 41, 40, 39, 38, 37, 36, 35, 34, 33, 32, 31, 30, 29, 28, 27, 26, 25, 24, 23, 22, 21, 20, 19, 18, 17, 16, 15, 14, 13, 12, 11, 10, 9, 8, 7, 6, 5, 4, 3, 2, 1] := by rw [eT170]; exact gr168.new (by omega) (by decide)
  have fh169 : T170 h169 = some 43 := by rw [eT170]; exact th_new_self
  have hn : T170 a = none := by rw [eT170]; exact (th_new_ne neh169).trans hn
  refine th_putRF (ty := .array .int) (v := .ref h169) S hK hH hS (Or.inl rfl) hn hR inG11 tyX11 tyX11_ok nmX11 rfl 67 (by decide) gm_1297 rfl rfl hnm rfl (by decide +kernel) rfl rfl (Nat.le_of_ble_eq_true rfl) dX11_init_343 (fun H locs hR hH hS zp kp => ?_)
  have hR : va_at D classes (a, .inr (11, [.ref h1, .ref h5, .int 0, .int 0, .int 0, .int (-1), .int 0, .int 0, .int 0, .int 0, .long 0, .ref h9, .ref h13, .ref h17, .ref h21, .ref h25, .ref h29, .ref h33, .ref h37, .ref h41, .ref h45, .ref h49, .ref h53, .ref h57, .ref h61, .ref h65, .ref h69, .ref h73, .ref h77, .ref h81, .ref h85, .ref h89, .ref h93, .ref h97, .ref h101, .ref h105, .ref h109, .ref h113, .ref h117, .ref h121, .ref h125, .int 0, .int 0, .int 0, .int 0, .int 0, .int 0, .int 0, .int 0, .int 0, .int 0, .int 0, .ref h129, .ref h133, .int 0, .int 0, .ref h137, .ref h141, .ref h145, .int 0, .ref h149, .ref h153, .ref h157, .ref h161, .ref h165, .int 0, .int 0, .ref h169, .null])) H := hR
  have hsz0 : sz ≤ H.size := by omega
  refine lv_aload_n hx hb dX11_init_346 rfl (lv_at hl 0 rfl) ?_
  refine lv_iconst (v := 3) hx hb dX11_init_347 (by decide) ?_
  refine th_newa (atype := .boolean) (t := 3) (N := 3) S hK hH hS 44 gm_502 rfl km_44 (fun T2 j hj => ⟨0, rfl, by decide, by decide⟩) (by decide) (by decide) (by decide) (by decide) (by decide) dX11_init_348 (fun h173 H eh173 hH nh173 hS zh173 kh173 => ?_)
  have neh173 : a ≠ h173 := by omega
  have hR : va_at D classes (a, .inr (11, [.ref h1, .ref h5, .int 0, .int 0, .int 0, .int (-1), .int 0, .int 0, .int 0, .int 0, .long 0, .ref h9, .ref h13, .ref h17, .ref h21, .ref h25, .ref h29, .ref h33, .ref h37, .ref h41, .ref h45, .ref h49, .ref h53, .ref h57, .ref h61, .ref h65, .ref h69, .ref h73, .ref h77, .ref h81, .ref h85, .ref h89, .ref h93, .ref h97, .ref h101, .ref h105, .ref h109, .ref h113, .ref h117, .ref h121, .ref h125, .int 0, .int 0, .int 0, .int 0, .int 0, .int 0, .int 0, .int 0, .int 0, .int 0, .int 0, .ref h129, .ref h133, .int 0, .int 0, .ref h137, .ref h141, .ref h145, .int 0, .ref h149, .ref h153, .ref h157, .ref h161, .ref h165, .int 0, .int 0, .ref h169, .null])) H := hR.kept (kh173 a (by omega))
  have hsz0 : sz ≤ H.size := by omega
  obtain ⟨T174, eT174⟩ : ∃ t, t = th_new T170 h173 44 := ⟨_, rfl⟩
  rw [← eT174] at hH
  have mo175 : ∀ b j, T170 b = some j → T174 b = some j := by rw [eT174]; exact th_new_sub nh173
  have gr176 : th_grow (List.range 45) T T174 sz [44, 43, 42, 41, 40, 39, 38, 37, 36, 35, 34, 33, 32, 31, 30, 29, 28, 27, 26, 25, 24, 23, 22, 21, 20, 19, 18, 17, 16, 15, 14, 13, 12, 11, 10, 9, 8, 7, 6, 5, 4, 3, 2, 1] := by rw [eT174]; exact gr172.new (by omega) (by decide)
  have fh173 : T174 h173 = some 44 := by rw [eT174]; exact th_new_self
  have hn : T174 a = none := by rw [eT174]; exact (th_new_ne neh173).trans hn
  refine th_putRF (ty := .array .boolean) (v := .ref h173) S hK hH hS (Or.inl rfl) hn hR inG11 tyX11 tyX11_ok nmX11 rfl 68 (by decide) gm_1298 rfl rfl hnm rfl (by decide +kernel) rfl rfl (Nat.le_of_ble_eq_true rfl) dX11_init_350 (fun H locs hR hH hS zp kp => ?_)
  have hR : va_at D classes (a, .inr (11, [.ref h1, .ref h5, .int 0, .int 0, .int 0, .int (-1), .int 0, .int 0, .int 0, .int 0, .long 0, .ref h9, .ref h13, .ref h17, .ref h21, .ref h25, .ref h29, .ref h33, .ref h37, .ref h41, .ref h45, .ref h49, .ref h53, .ref h57, .ref h61, .ref h65, .ref h69, .ref h73, .ref h77, .ref h81, .ref h85, .ref h89, .ref h93, .ref h97, .ref h101, .ref h105, .ref h109, .ref h113, .ref h117, .ref h121, .ref h125, .int 0, .int 0, .int 0, .int 0, .int 0, .int 0, .int 0, .int 0, .int 0, .int 0, .int 0, .ref h129, .ref h133, .int 0, .int 0, .ref h137, .ref h141, .ref h145, .int 0, .ref h149, .ref h153, .ref h157, .ref h161, .ref h165, .int 0, .int 0, .ref h169, .ref h173])) H := hR
  have hsz0 : sz ≤ H.size := by omega
  refine lv_aload_n hx hb dX11_init_353 rfl (lv_at hl 0 rfl) ?_
  have ho : th_Ol (th_new T174 a 0) [.inr 2, .inr 3, .inl (0, 1600), .inl (qm 26, qm 26), .inl (qm 30, qm 30), .inl (-2147483648, 2147483647), .inl (qm 27, qm 27), .inl (qm 28, qm 28), .inl (qm 29, qm 29), .inl (-2147483648, 2147483647), .inr 0, .inr 4, .inr 5, .inr 6, .inr 7, .inr 8, .inr 9, .inr 10, .inr 11, .inr 12, .inr 13, .inr 14, .inr 15, .inr 16, .inr 17, .inr 18, .inr 19, .inr 20, .inr 21, .inr 22, .inr 23, .inr 24, .inr 25, .inr 26, .inr 27, .inr 28, .inr 29, .inr 30, .inr 31, .inr 32, .inr 33, .inl (qm 10, qm 10), .inl (qm 13, qm 13), .inl (qm 20, qm 20), .inl (qm 22, qm 22), .inl (qm 21, qm 21), .inl (qm 23, qm 23), .inl (-2147483648, 2147483647), .inl (-2147483648, 2147483647), .inl (-2147483648, 2147483647), .inl (-2147483648, 2147483647), .inl (-2147483648, 2147483647), .inr 34, .inr 35, .inl (qm 7, qm 7), .inl (qm 8, qm 8), .inr 36, .inr 37, .inr 38, .inl (0, 4), .inr 39, .inr 40, .inr 41, .inr 42, .inr 43, .inl (0, 30), .inl (qm 9, qm 9), .inr 44, .inr 45] [.ref h1, .ref h5, .int 0, .int 0, .int 0, .int (-1), .int 0, .int 0, .int 0, .int 0, .long 0, .ref h9, .ref h13, .ref h17, .ref h21, .ref h25, .ref h29, .ref h33, .ref h37, .ref h41, .ref h45, .ref h49, .ref h53, .ref h57, .ref h61, .ref h65, .ref h69, .ref h73, .ref h77, .ref h81, .ref h85, .ref h89, .ref h93, .ref h97, .ref h101, .ref h105, .ref h109, .ref h113, .ref h117, .ref h121, .ref h125, .int 0, .int 0, .int 0, .int 0, .int 0, .int 0, .int 0, .int 0, .int 0, .int 0, .int 0, .ref h129, .ref h133, .int 0, .int 0, .ref h137, .ref h141, .ref h145, .int 0, .ref h149, .ref h153, .ref h157, .ref h161, .ref h165, .int 0, .int 0, .ref h169, .ref h173] := (th_Ol.cons (⟨h1, rfl, th_new_sub hn _ _ (mo175 _ _ (mo171 _ _ (mo167 _ _ (mo163 _ _ (mo159 _ _ (mo155 _ _ (mo151 _ _ (mo147 _ _ (mo143 _ _ (mo139 _ _ (mo135 _ _ (mo131 _ _ (mo127 _ _ (mo123 _ _ (mo119 _ _ (mo115 _ _ (mo111 _ _ (mo107 _ _ (mo103 _ _ (mo99 _ _ (mo95 _ _ (mo91 _ _ (mo87 _ _ (mo83 _ _ (mo79 _ _ (mo75 _ _ (mo71 _ _ (mo67 _ _ (mo63 _ _ (mo59 _ _ (mo55 _ _ (mo51 _ _ (mo47 _ _ (mo43 _ _ (mo39 _ _ (mo35 _ _ (mo31 _ _ (mo27 _ _ (mo23 _ _ (mo19 _ _ (mo15 _ _ (mo11 _ _ (mo7 _ _ fh1)))))))))))))))))))))))))))))))))))))))))))⟩) (th_Ol.cons (⟨h5, rfl, th_new_sub hn _ _ (mo175 _ _ (mo171 _ _ (mo167 _ _ (mo163 _ _ (mo159 _ _ (mo155 _ _ (mo151 _ _ (mo147 _ _ (mo143 _ _ (mo139 _ _ (mo135 _ _ (mo131 _ _ (mo127 _ _ (mo123 _ _ (mo119 _ _ (mo115 _ _ (mo111 _ _ (mo107 _ _ (mo103 _ _ (mo99 _ _ (mo95 _ _ (mo91 _ _ (mo87 _ _ (mo83 _ _ (mo79 _ _ (mo75 _ _ (mo71 _ _ (mo67 _ _ (mo63 _ _ (mo59 _ _ (mo55 _ _ (mo51 _ _ (mo47 _ _ (mo43 _ _ (mo39 _ _ (mo35 _ _ (mo31 _ _ (mo27 _ _ (mo23 _ _ (mo19 _ _ (mo15 _ _ (mo11 _ _ fh5))))))))))))))))))))))))))))))))))))))))))⟩) (th_Ol.cons (⟨_, rfl, by decide, by decide⟩) (th_Ol.cons (⟨_, rfl, by decide, by decide⟩) (th_Ol.cons (⟨_, rfl, by decide, by decide⟩) (th_Ol.cons (⟨_, rfl, by decide, by decide⟩) (th_Ol.cons (⟨_, rfl, by decide, by decide⟩) (th_Ol.cons (⟨_, rfl, by decide, by decide⟩) (th_Ol.cons (⟨_, rfl, by decide, by decide⟩) (th_Ol.cons (⟨_, rfl, by decide, by decide⟩) (th_Ol.cons (⟨_, rfl⟩) (th_Ol.cons (⟨h9, rfl, th_new_sub hn _ _ (mo175 _ _ (mo171 _ _ (mo167 _ _ (mo163 _ _ (mo159 _ _ (mo155 _ _ (mo151 _ _ (mo147 _ _ (mo143 _ _ (mo139 _ _ (mo135 _ _ (mo131 _ _ (mo127 _ _ (mo123 _ _ (mo119 _ _ (mo115 _ _ (mo111 _ _ (mo107 _ _ (mo103 _ _ (mo99 _ _ (mo95 _ _ (mo91 _ _ (mo87 _ _ (mo83 _ _ (mo79 _ _ (mo75 _ _ (mo71 _ _ (mo67 _ _ (mo63 _ _ (mo59 _ _ (mo55 _ _ (mo51 _ _ (mo47 _ _ (mo43 _ _ (mo39 _ _ (mo35 _ _ (mo31 _ _ (mo27 _ _ (mo23 _ _ (mo19 _ _ (mo15 _ _ fh9)))))))))))))))))))))))))))))))))))))))))⟩) (th_Ol.cons (⟨h13, rfl, th_new_sub hn _ _ (mo175 _ _ (mo171 _ _ (mo167 _ _ (mo163 _ _ (mo159 _ _ (mo155 _ _ (mo151 _ _ (mo147 _ _ (mo143 _ _ (mo139 _ _ (mo135 _ _ (mo131 _ _ (mo127 _ _ (mo123 _ _ (mo119 _ _ (mo115 _ _ (mo111 _ _ (mo107 _ _ (mo103 _ _ (mo99 _ _ (mo95 _ _ (mo91 _ _ (mo87 _ _ (mo83 _ _ (mo79 _ _ (mo75 _ _ (mo71 _ _ (mo67 _ _ (mo63 _ _ (mo59 _ _ (mo55 _ _ (mo51 _ _ (mo47 _ _ (mo43 _ _ (mo39 _ _ (mo35 _ _ (mo31 _ _ (mo27 _ _ (mo23 _ _ (mo19 _ _ fh13))))))))))))))))))))))))))))))))))))))))⟩) (th_Ol.cons (⟨h17, rfl, th_new_sub hn _ _ (mo175 _ _ (mo171 _ _ (mo167 _ _ (mo163 _ _ (mo159 _ _ (mo155 _ _ (mo151 _ _ (mo147 _ _ (mo143 _ _ (mo139 _ _ (mo135 _ _ (mo131 _ _ (mo127 _ _ (mo123 _ _ (mo119 _ _ (mo115 _ _ (mo111 _ _ (mo107 _ _ (mo103 _ _ (mo99 _ _ (mo95 _ _ (mo91 _ _ (mo87 _ _ (mo83 _ _ (mo79 _ _ (mo75 _ _ (mo71 _ _ (mo67 _ _ (mo63 _ _ (mo59 _ _ (mo55 _ _ (mo51 _ _ (mo47 _ _ (mo43 _ _ (mo39 _ _ (mo35 _ _ (mo31 _ _ (mo27 _ _ (mo23 _ _ fh17)))))))))))))))))))))))))))))))))))))))⟩) (th_Ol.cons (⟨h21, rfl, th_new_sub hn _ _ (mo175 _ _ (mo171 _ _ (mo167 _ _ (mo163 _ _ (mo159 _ _ (mo155 _ _ (mo151 _ _ (mo147 _ _ (mo143 _ _ (mo139 _ _ (mo135 _ _ (mo131 _ _ (mo127 _ _ (mo123 _ _ (mo119 _ _ (mo115 _ _ (mo111 _ _ (mo107 _ _ (mo103 _ _ (mo99 _ _ (mo95 _ _ (mo91 _ _ (mo87 _ _ (mo83 _ _ (mo79 _ _ (mo75 _ _ (mo71 _ _ (mo67 _ _ (mo63 _ _ (mo59 _ _ (mo55 _ _ (mo51 _ _ (mo47 _ _ (mo43 _ _ (mo39 _ _ (mo35 _ _ (mo31 _ _ (mo27 _ _ fh21))))))))))))))))))))))))))))))))))))))⟩) (th_Ol.cons (⟨h25, rfl, th_new_sub hn _ _ (mo175 _ _ (mo171 _ _ (mo167 _ _ (mo163 _ _ (mo159 _ _ (mo155 _ _ (mo151 _ _ (mo147 _ _ (mo143 _ _ (mo139 _ _ (mo135 _ _ (mo131 _ _ (mo127 _ _ (mo123 _ _ (mo119 _ _ (mo115 _ _ (mo111 _ _ (mo107 _ _ (mo103 _ _ (mo99 _ _ (mo95 _ _ (mo91 _ _ (mo87 _ _ (mo83 _ _ (mo79 _ _ (mo75 _ _ (mo71 _ _ (mo67 _ _ (mo63 _ _ (mo59 _ _ (mo55 _ _ (mo51 _ _ (mo47 _ _ (mo43 _ _ (mo39 _ _ (mo35 _ _ (mo31 _ _ fh25)))))))))))))))))))))))))))))))))))))⟩) (th_Ol.cons (⟨h29, rfl, th_new_sub hn _ _ (mo175 _ _ (mo171 _ _ (mo167 _ _ (mo163 _ _ (mo159 _ _ (mo155 _ _ (mo151 _ _ (mo147 _ _ (mo143 _ _ (mo139 _ _ (mo135 _ _ (mo131 _ _ (mo127 _ _ (mo123 _ _ (mo119 _ _ (mo115 _ _ (mo111 _ _ (mo107 _ _ (mo103 _ _ (mo99 _ _ (mo95 _ _ (mo91 _ _ (mo87 _ _ (mo83 _ _ (mo79 _ _ (mo75 _ _ (mo71 _ _ (mo67 _ _ (mo63 _ _ (mo59 _ _ (mo55 _ _ (mo51 _ _ (mo47 _ _ (mo43 _ _ (mo39 _ _ (mo35 _ _ fh29))))))))))))))))))))))))))))))))))))⟩) (th_Ol.cons (⟨h33, rfl, th_new_sub hn _ _ (mo175 _ _ (mo171 _ _ (mo167 _ _ (mo163 _ _ (mo159 _ _ (mo155 _ _ (mo151 _ _ (mo147 _ _ (mo143 _ _ (mo139 _ _ (mo135 _ _ (mo131 _ _ (mo127 _ _ (mo123 _ _ (mo119 _ _ (mo115 _ _ (mo111 _ _ (mo107 _ _ (mo103 _ _ (mo99 _ _ (mo95 _ _ (mo91 _ _ (mo87 _ _ (mo83 _ _ (mo79 _ _ (mo75 _ _ (mo71 _ _ (mo67 _ _ (mo63 _ _ (mo59 _ _ (mo55 _ _ (mo51 _ _ (mo47 _ _ (mo43 _ _ (mo39 _ _ fh33)))))))))))))))))))))))))))))))))))⟩) (th_Ol.cons (⟨h37, rfl, th_new_sub hn _ _ (mo175 _ _ (mo171 _ _ (mo167 _ _ (mo163 _ _ (mo159 _ _ (mo155 _ _ (mo151 _ _ (mo147 _ _ (mo143 _ _ (mo139 _ _ (mo135 _ _ (mo131 _ _ (mo127 _ _ (mo123 _ _ (mo119 _ _ (mo115 _ _ (mo111 _ _ (mo107 _ _ (mo103 _ _ (mo99 _ _ (mo95 _ _ (mo91 _ _ (mo87 _ _ (mo83 _ _ (mo79 _ _ (mo75 _ _ (mo71 _ _ (mo67 _ _ (mo63 _ _ (mo59 _ _ (mo55 _ _ (mo51 _ _ (mo47 _ _ (mo43 _ _ fh37))))))))))))))))))))))))))))))))))⟩) (th_Ol.cons (⟨h41, rfl, th_new_sub hn _ _ (mo175 _ _ (mo171 _ _ (mo167 _ _ (mo163 _ _ (mo159 _ _ (mo155 _ _ (mo151 _ _ (mo147 _ _ (mo143 _ _ (mo139 _ _ (mo135 _ _ (mo131 _ _ (mo127 _ _ (mo123 _ _ (mo119 _ _ (mo115 _ _ (mo111 _ _ (mo107 _ _ (mo103 _ _ (mo99 _ _ (mo95 _ _ (mo91 _ _ (mo87 _ _ (mo83 _ _ (mo79 _ _ (mo75 _ _ (mo71 _ _ (mo67 _ _ (mo63 _ _ (mo59 _ _ (mo55 _ _ (mo51 _ _ (mo47 _ _ fh41)))))))))))))))))))))))))))))))))⟩) (th_Ol.cons (⟨h45, rfl, th_new_sub hn _ _ (mo175 _ _ (mo171 _ _ (mo167 _ _ (mo163 _ _ (mo159 _ _ (mo155 _ _ (mo151 _ _ (mo147 _ _ (mo143 _ _ (mo139 _ _ (mo135 _ _ (mo131 _ _ (mo127 _ _ (mo123 _ _ (mo119 _ _ (mo115 _ _ (mo111 _ _ (mo107 _ _ (mo103 _ _ (mo99 _ _ (mo95 _ _ (mo91 _ _ (mo87 _ _ (mo83 _ _ (mo79 _ _ (mo75 _ _ (mo71 _ _ (mo67 _ _ (mo63 _ _ (mo59 _ _ (mo55 _ _ (mo51 _ _ fh45))))))))))))))))))))))))))))))))⟩) (th_Ol.cons (⟨h49, rfl, th_new_sub hn _ _ (mo175 _ _ (mo171 _ _ (mo167 _ _ (mo163 _ _ (mo159 _ _ (mo155 _ _ (mo151 _ _ (mo147 _ _ (mo143 _ _ (mo139 _ _ (mo135 _ _ (mo131 _ _ (mo127 _ _ (mo123 _ _ (mo119 _ _ (mo115 _ _ (mo111 _ _ (mo107 _ _ (mo103 _ _ (mo99 _ _ (mo95 _ _ (mo91 _ _ (mo87 _ _ (mo83 _ _ (mo79 _ _ (mo75 _ _ (mo71 _ _ (mo67 _ _ (mo63 _ _ (mo59 _ _ (mo55 _ _ fh49)))))))))))))))))))))))))))))))⟩) (th_Ol.cons (⟨h53, rfl, th_new_sub hn _ _ (mo175 _ _ (mo171 _ _ (mo167 _ _ (mo163 _ _ (mo159 _ _ (mo155 _ _ (mo151 _ _ (mo147 _ _ (mo143 _ _ (mo139 _ _ (mo135 _ _ (mo131 _ _ (mo127 _ _ (mo123 _ _ (mo119 _ _ (mo115 _ _ (mo111 _ _ (mo107 _ _ (mo103 _ _ (mo99 _ _ (mo95 _ _ (mo91 _ _ (mo87 _ _ (mo83 _ _ (mo79 _ _ (mo75 _ _ (mo71 _ _ (mo67 _ _ (mo63 _ _ (mo59 _ _ fh53))))))))))))))))))))))))))))))⟩) (th_Ol.cons (⟨h57, rfl, th_new_sub hn _ _ (mo175 _ _ (mo171 _ _ (mo167 _ _ (mo163 _ _ (mo159 _ _ (mo155 _ _ (mo151 _ _ (mo147 _ _ (mo143 _ _ (mo139 _ _ (mo135 _ _ (mo131 _ _ (mo127 _ _ (mo123 _ _ (mo119 _ _ (mo115 _ _ (mo111 _ _ (mo107 _ _ (mo103 _ _ (mo99 _ _ (mo95 _ _ (mo91 _ _ (mo87 _ _ (mo83 _ _ (mo79 _ _ (mo75 _ _ (mo71 _ _ (mo67 _ _ (mo63 _ _ fh57)))))))))))))))))))))))))))))⟩) (th_Ol.cons (⟨h61, rfl, th_new_sub hn _ _ (mo175 _ _ (mo171 _ _ (mo167 _ _ (mo163 _ _ (mo159 _ _ (mo155 _ _ (mo151 _ _ (mo147 _ _ (mo143 _ _ (mo139 _ _ (mo135 _ _ (mo131 _ _ (mo127 _ _ (mo123 _ _ (mo119 _ _ (mo115 _ _ (mo111 _ _ (mo107 _ _ (mo103 _ _ (mo99 _ _ (mo95 _ _ (mo91 _ _ (mo87 _ _ (mo83 _ _ (mo79 _ _ (mo75 _ _ (mo71 _ _ (mo67 _ _ fh61))))))))))))))))))))))))))))⟩) (th_Ol.cons (⟨h65, rfl, th_new_sub hn _ _ (mo175 _ _ (mo171 _ _ (mo167 _ _ (mo163 _ _ (mo159 _ _ (mo155 _ _ (mo151 _ _ (mo147 _ _ (mo143 _ _ (mo139 _ _ (mo135 _ _ (mo131 _ _ (mo127 _ _ (mo123 _ _ (mo119 _ _ (mo115 _ _ (mo111 _ _ (mo107 _ _ (mo103 _ _ (mo99 _ _ (mo95 _ _ (mo91 _ _ (mo87 _ _ (mo83 _ _ (mo79 _ _ (mo75 _ _ (mo71 _ _ fh65)))))))))))))))))))))))))))⟩) (th_Ol.cons (⟨h69, rfl, th_new_sub hn _ _ (mo175 _ _ (mo171 _ _ (mo167 _ _ (mo163 _ _ (mo159 _ _ (mo155 _ _ (mo151 _ _ (mo147 _ _ (mo143 _ _ (mo139 _ _ (mo135 _ _ (mo131 _ _ (mo127 _ _ (mo123 _ _ (mo119 _ _ (mo115 _ _ (mo111 _ _ (mo107 _ _ (mo103 _ _ (mo99 _ _ (mo95 _ _ (mo91 _ _ (mo87 _ _ (mo83 _ _ (mo79 _ _ (mo75 _ _ fh69))))))))))))))))))))))))))⟩) (th_Ol.cons (⟨h73, rfl, th_new_sub hn _ _ (mo175 _ _ (mo171 _ _ (mo167 _ _ (mo163 _ _ (mo159 _ _ (mo155 _ _ (mo151 _ _ (mo147 _ _ (mo143 _ _ (mo139 _ _ (mo135 _ _ (mo131 _ _ (mo127 _ _ (mo123 _ _ (mo119 _ _ (mo115 _ _ (mo111 _ _ (mo107 _ _ (mo103 _ _ (mo99 _ _ (mo95 _ _ (mo91 _ _ (mo87 _ _ (mo83 _ _ (mo79 _ _ fh73)))))))))))))))))))))))))⟩) (th_Ol.cons (⟨h77, rfl, th_new_sub hn _ _ (mo175 _ _ (mo171 _ _ (mo167 _ _ (mo163 _ _ (mo159 _ _ (mo155 _ _ (mo151 _ _ (mo147 _ _ (mo143 _ _ (mo139 _ _ (mo135 _ _ (mo131 _ _ (mo127 _ _ (mo123 _ _ (mo119 _ _ (mo115 _ _ (mo111 _ _ (mo107 _ _ (mo103 _ _ (mo99 _ _ (mo95 _ _ (mo91 _ _ (mo87 _ _ (mo83 _ _ fh77))))))))))))))))))))))))⟩) (th_Ol.cons (⟨h81, rfl, th_new_sub hn _ _ (mo175 _ _ (mo171 _ _ (mo167 _ _ (mo163 _ _ (mo159 _ _ (mo155 _ _ (mo151 _ _ (mo147 _ _ (mo143 _ _ (mo139 _ _ (mo135 _ _ (mo131 _ _ (mo127 _ _ (mo123 _ _ (mo119 _ _ (mo115 _ _ (mo111 _ _ (mo107 _ _ (mo103 _ _ (mo99 _ _ (mo95 _ _ (mo91 _ _ (mo87 _ _ fh81)))))))))))))))))))))))⟩) (th_Ol.cons (⟨h85, rfl, th_new_sub hn _ _ (mo175 _ _ (mo171 _ _ (mo167 _ _ (mo163 _ _ (mo159 _ _ (mo155 _ _ (mo151 _ _ (mo147 _ _ (mo143 _ _ (mo139 _ _ (mo135 _ _ (mo131 _ _ (mo127 _ _ (mo123 _ _ (mo119 _ _ (mo115 _ _ (mo111 _ _ (mo107 _ _ (mo103 _ _ (mo99 _ _ (mo95 _ _ (mo91 _ _ fh85))))))))))))))))))))))⟩) (th_Ol.cons (⟨h89, rfl, th_new_sub hn _ _ (mo175 _ _ (mo171 _ _ (mo167 _ _ (mo163 _ _ (mo159 _ _ (mo155 _ _ (mo151 _ _ (mo147 _ _ (mo143 _ _ (mo139 _ _ (mo135 _ _ (mo131 _ _ (mo127 _ _ (mo123 _ _ (mo119 _ _ (mo115 _ _ (mo111 _ _ (mo107 _ _ (mo103 _ _ (mo99 _ _ (mo95 _ _ fh89)))))))))))))))))))))⟩) (th_Ol.cons (⟨h93, rfl, th_new_sub hn _ _ (mo175 _ _ (mo171 _ _ (mo167 _ _ (mo163 _ _ (mo159 _ _ (mo155 _ _ (mo151 _ _ (mo147 _ _ (mo143 _ _ (mo139 _ _ (mo135 _ _ (mo131 _ _ (mo127 _ _ (mo123 _ _ (mo119 _ _ (mo115 _ _ (mo111 _ _ (mo107 _ _ (mo103 _ _ (mo99 _ _ fh93))))))))))))))))))))⟩) (th_Ol.cons (⟨h97, rfl, th_new_sub hn _ _ (mo175 _ _ (mo171 _ _ (mo167 _ _ (mo163 _ _ (mo159 _ _ (mo155 _ _ (mo151 _ _ (mo147 _ _ (mo143 _ _ (mo139 _ _ (mo135 _ _ (mo131 _ _ (mo127 _ _ (mo123 _ _ (mo119 _ _ (mo115 _ _ (mo111 _ _ (mo107 _ _ (mo103 _ _ fh97)))))))))))))))))))⟩) (th_Ol.cons (⟨h101, rfl, th_new_sub hn _ _ (mo175 _ _ (mo171 _ _ (mo167 _ _ (mo163 _ _ (mo159 _ _ (mo155 _ _ (mo151 _ _ (mo147 _ _ (mo143 _ _ (mo139 _ _ (mo135 _ _ (mo131 _ _ (mo127 _ _ (mo123 _ _ (mo119 _ _ (mo115 _ _ (mo111 _ _ (mo107 _ _ fh101))))))))))))))))))⟩) (th_Ol.cons (⟨h105, rfl, th_new_sub hn _ _ (mo175 _ _ (mo171 _ _ (mo167 _ _ (mo163 _ _ (mo159 _ _ (mo155 _ _ (mo151 _ _ (mo147 _ _ (mo143 _ _ (mo139 _ _ (mo135 _ _ (mo131 _ _ (mo127 _ _ (mo123 _ _ (mo119 _ _ (mo115 _ _ (mo111 _ _ fh105)))))))))))))))))⟩) (th_Ol.cons (⟨h109, rfl, th_new_sub hn _ _ (mo175 _ _ (mo171 _ _ (mo167 _ _ (mo163 _ _ (mo159 _ _ (mo155 _ _ (mo151 _ _ (mo147 _ _ (mo143 _ _ (mo139 _ _ (mo135 _ _ (mo131 _ _ (mo127 _ _ (mo123 _ _ (mo119 _ _ (mo115 _ _ fh109))))))))))))))))⟩) (th_Ol.cons (⟨h113, rfl, th_new_sub hn _ _ (mo175 _ _ (mo171 _ _ (mo167 _ _ (mo163 _ _ (mo159 _ _ (mo155 _ _ (mo151 _ _ (mo147 _ _ (mo143 _ _ (mo139 _ _ (mo135 _ _ (mo131 _ _ (mo127 _ _ (mo123 _ _ (mo119 _ _ fh113)))))))))))))))⟩) (th_Ol.cons (⟨h117, rfl, th_new_sub hn _ _ (mo175 _ _ (mo171 _ _ (mo167 _ _ (mo163 _ _ (mo159 _ _ (mo155 _ _ (mo151 _ _ (mo147 _ _ (mo143 _ _ (mo139 _ _ (mo135 _ _ (mo131 _ _ (mo127 _ _ (mo123 _ _ fh117))))))))))))))⟩) (th_Ol.cons (⟨h121, rfl, th_new_sub hn _ _ (mo175 _ _ (mo171 _ _ (mo167 _ _ (mo163 _ _ (mo159 _ _ (mo155 _ _ (mo151 _ _ (mo147 _ _ (mo143 _ _ (mo139 _ _ (mo135 _ _ (mo131 _ _ (mo127 _ _ fh121)))))))))))))⟩) (th_Ol.cons (⟨h125, rfl, th_new_sub hn _ _ (mo175 _ _ (mo171 _ _ (mo167 _ _ (mo163 _ _ (mo159 _ _ (mo155 _ _ (mo151 _ _ (mo147 _ _ (mo143 _ _ (mo139 _ _ (mo135 _ _ (mo131 _ _ fh125))))))))))))⟩) (th_Ol.cons (⟨_, rfl, by decide, by decide⟩) (th_Ol.cons (⟨_, rfl, by decide, by decide⟩) (th_Ol.cons (⟨_, rfl, by decide, by decide⟩) (th_Ol.cons (⟨_, rfl, by decide, by decide⟩) (th_Ol.cons (⟨_, rfl, by decide, by decide⟩) (th_Ol.cons (⟨_, rfl, by decide, by decide⟩) (th_Ol.cons (⟨_, rfl, by decide, by decide⟩) (th_Ol.cons (⟨_, rfl, by decide, by decide⟩) (th_Ol.cons (⟨_, rfl, by decide, by decide⟩) (th_Ol.cons (⟨_, rfl, by decide, by decide⟩) (th_Ol.cons (⟨_, rfl, by decide, by decide⟩) (th_Ol.cons (⟨h129, rfl, th_new_sub hn _ _ (mo175 _ _ (mo171 _ _ (mo167 _ _ (mo163 _ _ (mo159 _ _ (mo155 _ _ (mo151 _ _ (mo147 _ _ (mo143 _ _ (mo139 _ _ (mo135 _ _ fh129)))))))))))⟩) (th_Ol.cons (⟨h133, rfl, th_new_sub hn _ _ (mo175 _ _ (mo171 _ _ (mo167 _ _ (mo163 _ _ (mo159 _ _ (mo155 _ _ (mo151 _ _ (mo147 _ _ (mo143 _ _ (mo139 _ _ fh133))))))))))⟩) (th_Ol.cons (⟨_, rfl, by decide, by decide⟩) (th_Ol.cons (⟨_, rfl, by decide, by decide⟩) (th_Ol.cons (⟨h137, rfl, th_new_sub hn _ _ (mo175 _ _ (mo171 _ _ (mo167 _ _ (mo163 _ _ (mo159 _ _ (mo155 _ _ (mo151 _ _ (mo147 _ _ (mo143 _ _ fh137)))))))))⟩) (th_Ol.cons (⟨h141, rfl, th_new_sub hn _ _ (mo175 _ _ (mo171 _ _ (mo167 _ _ (mo163 _ _ (mo159 _ _ (mo155 _ _ (mo151 _ _ (mo147 _ _ fh141))))))))⟩) (th_Ol.cons (⟨h145, rfl, th_new_sub hn _ _ (mo175 _ _ (mo171 _ _ (mo167 _ _ (mo163 _ _ (mo159 _ _ (mo155 _ _ (mo151 _ _ fh145)))))))⟩) (th_Ol.cons (⟨_, rfl, by decide, by decide⟩) (th_Ol.cons (⟨h149, rfl, th_new_sub hn _ _ (mo175 _ _ (mo171 _ _ (mo167 _ _ (mo163 _ _ (mo159 _ _ (mo155 _ _ fh149))))))⟩) (th_Ol.cons (⟨h153, rfl, th_new_sub hn _ _ (mo175 _ _ (mo171 _ _ (mo167 _ _ (mo163 _ _ (mo159 _ _ fh153)))))⟩) (th_Ol.cons (⟨h157, rfl, th_new_sub hn _ _ (mo175 _ _ (mo171 _ _ (mo167 _ _ (mo163 _ _ fh157))))⟩) (th_Ol.cons (⟨h161, rfl, th_new_sub hn _ _ (mo175 _ _ (mo171 _ _ (mo167 _ _ fh161)))⟩) (th_Ol.cons (⟨h165, rfl, th_new_sub hn _ _ (mo175 _ _ (mo171 _ _ fh165))⟩) (th_Ol.cons (⟨_, rfl, by decide, by decide⟩) (th_Ol.cons (⟨_, rfl, by decide, by decide⟩) (th_Ol.cons (⟨h169, rfl, th_new_sub hn _ _ (mo175 _ _ fh169)⟩) (th_Ol.cons (⟨h173, rfl, th_new_sub hn _ _ fh173⟩) th_Ol.nil)))))))))))))))))))))))))))))))))))))))))))))))))))))))))))))))))))))
  have hH := th_type (k := 0) (ci := 11) hH hn hR km_0 ⟨ho.1, ho.2, fun y hy => by have hy : some (Value.long 0) = some (Value.long y) := hy; cases hy; rfl⟩
  have xt := gr176.fin (a := a) (k := 0)
  obtain ⟨Tf, eTf⟩ : ∃ t, t = th_new T174 a 0 := ⟨_, rfl⟩
  rw [← eTf] at hH xt
  have hT := tokm_of xt hT0 (by decide)
  have t0 : Tf a = some 0 := xt.1
  have hdm := th_ext_new xt hT0
  have hAll : ∀ q, (∃ k, Tf q = some k) → th_cA a sz q := fun q ⟨k, hk⟩ => hdm q k hk
  refine th_callVM (n := 0) (As := []) S hK hH hS (fun q ⟨k, _, hk⟩ => hAll q ⟨k, hk⟩) (m_X11_clearBank_z l D cT Tf qm hT qkm_m a t0 (by decide)) gm_1221 gm_1218 gm_1220 gm_44 gm_124 (by decide +kernel) ⟨rfl, rfl, Nat.le_of_ble_eq_true rfl, Nat.le_of_ble_eq_true rfl⟩ t0 km_0 rfl rfl hl.1 rfl (Nat.le_of_ble_eq_true rfl) dX11_init_354 ⟨Nat.le_of_ble_eq_true rfl, Nat.le_of_ble_eq_true rfl⟩ (fun wq177 q177 H locs hEq177 hH hS hF1 => ?_)
  obtain ⟨rfl, hqq177, h0q177, pq177_0⟩ := hEq177
  have hb9q177 : q177 9 = qm 9 := h0q177 9 (by decide) (Or.inl (by decide))
  refine lv_aload_n hx hb dX11_init_357 rfl (lv_at hl 0 rfl) ?_
  refine th_callVM (n := 0) (As := []) S hK hH hS (fun q ⟨k, _, hk⟩ => hAll q ⟨k, hk⟩) (m_X11_startAnew l D cT Tf q177 hT hqq177 a t0) gm_1225 gm_1222 gm_1224 gm_45 gm_124 (by decide +kernel) ⟨rfl, rfl, Nat.le_of_ble_eq_true rfl, Nat.le_of_ble_eq_true rfl⟩ t0 km_0 rfl rfl hl.1 rfl (Nat.le_of_ble_eq_true rfl) dX11_init_358 ⟨Nat.le_of_ble_eq_true rfl, Nat.le_of_ble_eq_true rfl⟩ (fun wq178 q178 H locs hEq178 hH hS hF1 => ?_)
  obtain ⟨rfl, hqq178, h0q178, pq178_0, pq178_1⟩ := hEq178
  have hb9q178 : q178 9 = q177 9 := h0q178 9 (by decide) (Or.inl (by decide))
  refine W.widen (k := 44) (n := 8081) (by decide) (by decide) ?_
  exact W.vret S.1 S.2.1 hr (fun _ ht hW => ⟨⟨Tf, q178, rfl, t0, hT, hqq178, by rw [pq178_0, pq178_1]; decide, by rw [hb9q178, hb9q177]; rfl, hdm, by rw [ht]; exact hH, va_K.moved hW.alike hK⟩, hS.F ht⟩) hS.2.2 dX11_init_361 hlocks
