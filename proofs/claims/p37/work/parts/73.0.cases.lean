set_option maxHeartbeats 4000000 in
set_option maxRecDepth 100000 in
theorem law_c0 {p : Program} {l : Launch} {e : Env} {s : State} {m : MethodId} {below : List Frame} {meth : Method} {c : Code} {b L i : Nat} {xs : Nat → Int32} {D : va_G} {cT : Nat → ClassId} {a am : Nat} {adK adV : Nat → Nat} {ls : Array Slot} (S : CallFix p m c code 4 s #[Value.ref b] gw RL) (hK : va_K D classes (th_tys cT) s) (hX : va_X b L xs s s.heap) (hbl : b < s.heap.size) (hL : L ≤ 3072) (hi : i + 6 ≤ L) (hl : lv_has ls 4 [(3, .int (nI i)), (2, .ref am), (1, .ref a), (0, .ref b)]) (hE : st_S adK adV (fun q => s.heap.size ≤ q) s s.heap ∧ vk_R "HungryMaps$Tape" 68 "food map place likes border taste winter draw scale year eaten cold size worth holes hunger in folded on or and not " (adK 0) s ∧ vk_R "HungryMaps$Tape" 47 ";()<>=+-*/%" (adK 1) s) {T Tm : Nat → Option Nat} {q qq : Nat → Int} {H : Heap} {locs : List Loc} (hI : LI D cT s a am T q Tm qq H locs) (hnext : ∀ (T : Nat → Option Nat) (q : Nat → Int) (Tm : Nat → Option Nat) (qq : Nat → Int) (H : Heap) (locs : List Loc), LI D cT s a am T q Tm qq H locs → W p l e room_1 s m #[Value.ref b] below meth c H locs 223 21033 (lw_Z below #[Value.ref b] s) (F0 m 1368 ls [])) : W p l e room_1 s m #[Value.ref b] below meth c H locs 223 21033 (lw_Z below #[Value.ref b] s) (F0 m 216 ls []) := by
  have hx := S.1; have hb := S.2.1
  have hbA : ¬ (fun q : Nat => s.heap.size ≤ q) b := Nat.not_le.mpr hbl
  refine lv_aload_n hx hb dL_law_216 rfl (lv_at hl 2 rfl) ?_
  refine lv_aload_n hx hb dL_law_217 rfl (lv_at hl 3 rfl) ?_
  refine lv_iload_n hx hb dL_law_218 rfl (lv_at hl 0 rfl) ?_
  refine lv_iconst (v := 1) hx hb dL_law_219 (by decide) ?_
  refine lv_iadd hx hb dL_law_220 ?_
  refine lv_topi (fun j1 ej1 => ?_)
  have ej1 : j1 = nI (i + 1) := ej1.trans (nI_add i 1)
  subst ej1
  refine va_sld hx hb hX hbl hbA hI.1.2.2.2.2.2.2 (nI_in (by omega) (by omega)) dL_law_221 ?_
  refine lv_topi (fun y2 ey2 => ?_)
  clear ey2
  refine lv_aload_n hx hb dL_law_222 rfl (lv_at hl 3 rfl) ?_
  refine lv_iload_n hx hb dL_law_223 rfl (lv_at hl 0 rfl) ?_
  refine lv_iconst (v := 2) hx hb dL_law_224 (by decide) ?_
  refine lv_iadd hx hb dL_law_225 ?_
  refine lv_topi (fun j3 ej3 => ?_)
  have ej3 : j3 = nI (i + 2) := ej3.trans (nI_add i 2)
  subst ej3
  refine va_sld hx hb hX hbl hbA hI.1.2.2.2.2.2.2 (nI_in (by omega) (by omega)) dL_law_226 ?_
  refine lv_topi (fun y4 ey4 => ?_)
  clear ey4
  refine lv_aload_n hx hb dL_law_227 rfl (lv_at hl 3 rfl) ?_
  refine lv_iload_n hx hb dL_law_228 rfl (lv_at hl 0 rfl) ?_
  refine lv_iconst (v := 3) hx hb dL_law_229 (by decide) ?_
  refine lv_iadd hx hb dL_law_230 ?_
  refine lv_topi (fun j5 ej5 => ?_)
  have ej5 : j5 = nI (i + 3) := ej5.trans (nI_add i 3)
  subst ej5
  refine va_sld hx hb hX hbl hbA hI.1.2.2.2.2.2.2 (nI_in (by omega) (by omega)) dL_law_231 ?_
  refine lv_topi (fun y6 ey6 => ?_)
  clear ey6
  refine lv_aload_n hx hb dL_law_232 rfl (lv_at hl 3 rfl) ?_
  refine lv_iload_n hx hb dL_law_233 rfl (lv_at hl 0 rfl) ?_
  refine lv_iconst (v := 4) hx hb dL_law_234 (by decide) ?_
  refine lv_iadd hx hb dL_law_235 ?_
  refine lv_topi (fun j7 ej7 => ?_)
  have ej7 : j7 = nI (i + 4) := ej7.trans (nI_add i 4)
  subst ej7
  refine va_sld hx hb hX hbl hbA hI.1.2.2.2.2.2.2 (nI_in (by omega) (by omega)) dL_law_236 ?_
  refine lv_topi (fun y8 ey8 => ?_)
  clear ey8
  refine lv_aload_n hx hb dL_law_237 rfl (lv_at hl 3 rfl) ?_
  refine lv_iload_n hx hb dL_law_238 rfl (lv_at hl 0 rfl) ?_
  refine lv_iconst (v := 5) hx hb dL_law_239 (by decide) ?_
  refine lv_iadd hx hb dL_law_240 ?_
  refine lv_topi (fun j9 ej9 => ?_)
  have ej9 : j9 = nI (i + 5) := ej9.trans (nI_add i 5)
  subst ej9
  refine va_sld hx hb hX hbl hbA hI.1.2.2.2.2.2.2 (nI_in (by omega) (by omega)) dL_law_241 ?_
  refine lv_topi (fun y10 ey10 => ?_)
  clear ey10
  refine lw_C (n := 5) (As := [.int y2, .int y4, .int y6, .int y8, .int y10]) S hK hI (m_X10_feed l D cT T q hI.1.2.2.1.2.1.1 a hI.1.2.2.1.2.2 (y2) (iv_top _) (y4) (iv_top _) (y6) (iv_top _) (y8) (iv_top _) (y10) (iv_top _)) th_R_int gm_539 gm_536 gm_537 gm_538 gm_113 (by decide +kernel) ⟨rfl, rfl, Nat.le_of_ble_eq_true rfl, Nat.le_of_ble_eq_true rfl⟩ rfl hl.1 rfl (Nat.le_of_ble_eq_true rfl) dL_law_242 ⟨Nat.le_of_ble_eq_true rfl, Nat.le_of_ble_eq_true rfl⟩ (fun x11 H locs Ix11 => ?_)
  refine lv_pop (pc := 245) hx hb dL_law_245 rfl ?_
  refine lv_aload_n hx hb dL_law_246 rfl (lv_at hl 1 rfl) ?_
  refine lv_aload_n hx hb dL_law_247 rfl (lv_at hl 3 rfl) ?_
  refine lv_iload_n hx hb dL_law_248 rfl (lv_at hl 0 rfl) ?_
  refine lv_iconst (v := 1) hx hb dL_law_249 (by decide) ?_
  refine lv_iadd hx hb dL_law_250 ?_
  refine lv_topi (fun j12 ej12 => ?_)
  have ej12 : j12 = nI (i + 1) := ej12.trans (nI_add i 1)
  subst ej12
  refine va_sld hx hb hX hbl hbA Ix11.1.2.2.2.2.2.2 (nI_in (by omega) (by omega)) dL_law_251 ?_
  refine lv_topi (fun y13 ey13 => ?_)
  clear ey13
  refine lv_aload_n hx hb dL_law_252 rfl (lv_at hl 3 rfl) ?_
  refine lv_iload_n hx hb dL_law_253 rfl (lv_at hl 0 rfl) ?_
  refine lv_iconst (v := 2) hx hb dL_law_254 (by decide) ?_
  refine lv_iadd hx hb dL_law_255 ?_
  refine lv_topi (fun j14 ej14 => ?_)
  have ej14 : j14 = nI (i + 2) := ej14.trans (nI_add i 2)
  subst ej14
  refine va_sld hx hb hX hbl hbA Ix11.1.2.2.2.2.2.2 (nI_in (by omega) (by omega)) dL_law_256 ?_
  refine lv_topi (fun y15 ey15 => ?_)
  clear ey15
  refine lv_aload_n hx hb dL_law_257 rfl (lv_at hl 3 rfl) ?_
  refine lv_iload_n hx hb dL_law_258 rfl (lv_at hl 0 rfl) ?_
  refine lv_iconst (v := 3) hx hb dL_law_259 (by decide) ?_
  refine lv_iadd hx hb dL_law_260 ?_
  refine lv_topi (fun j16 ej16 => ?_)
  have ej16 : j16 = nI (i + 3) := ej16.trans (nI_add i 3)
  subst ej16
  refine va_sld hx hb hX hbl hbA Ix11.1.2.2.2.2.2.2 (nI_in (by omega) (by omega)) dL_law_261 ?_
  refine lv_topi (fun y17 ey17 => ?_)
  clear ey17
  refine lv_aload_n hx hb dL_law_262 rfl (lv_at hl 3 rfl) ?_
  refine lv_iload_n hx hb dL_law_263 rfl (lv_at hl 0 rfl) ?_
  refine lv_iconst (v := 4) hx hb dL_law_264 (by decide) ?_
  refine lv_iadd hx hb dL_law_265 ?_
  refine lv_topi (fun j18 ej18 => ?_)
  have ej18 : j18 = nI (i + 4) := ej18.trans (nI_add i 4)
  subst ej18
  refine va_sld hx hb hX hbl hbA Ix11.1.2.2.2.2.2.2 (nI_in (by omega) (by omega)) dL_law_266 ?_
  refine lv_topi (fun y19 ey19 => ?_)
  clear ey19
  refine lv_aload_n hx hb dL_law_267 rfl (lv_at hl 3 rfl) ?_
  refine lv_iload_n hx hb dL_law_268 rfl (lv_at hl 0 rfl) ?_
  refine lv_iconst (v := 5) hx hb dL_law_269 (by decide) ?_
  refine lv_iadd hx hb dL_law_270 ?_
  refine lv_topi (fun j20 ej20 => ?_)
  have ej20 : j20 = nI (i + 5) := ej20.trans (nI_add i 5)
  subst ej20
  refine va_sld hx hb hX hbl hbA Ix11.1.2.2.2.2.2.2 (nI_in (by omega) (by omega)) dL_law_271 ?_
  refine lv_topi (fun y21 ey21 => ?_)
  clear ey21
  refine lw_M (n := 5) (As := [.int y13, .int y15, .int y17, .int y19, .int y21]) S hK Ix11 (m_X11_feed l D cT Tm qq Ix11.1.2.2.2.1.1 Ix11.1.2.2.2.1.2.1 am Ix11.1.2.2.2.1.2.2.2 (y13) (iv_top _) (y15) (iv_top _) (y17) (iv_top _) (y19) (iv_top _) (y21) (iv_top _)) th_R_int gm_1916 gm_1913 gm_1914 gm_1915 gm_124 (by decide +kernel) ⟨rfl, rfl, Nat.le_of_ble_eq_true rfl, Nat.le_of_ble_eq_true rfl⟩ rfl hl.1 rfl (Nat.le_of_ble_eq_true rfl) dL_law_272 ⟨Nat.le_of_ble_eq_true rfl, Nat.le_of_ble_eq_true rfl⟩ (fun x22 H locs Ix22 => ?_)
  refine lv_pop (pc := 275) hx hb dL_law_275 rfl ?_
  refine lv_goto (tgt := 1368) hx hb dL_law_276 (by decide) ?_
  exact hnext T q Tm qq H locs Ix22

set_option maxHeartbeats 4000000 in
set_option maxRecDepth 100000 in
theorem law_c1 {p : Program} {l : Launch} {e : Env} {s : State} {m : MethodId} {below : List Frame} {meth : Method} {c : Code} {b L i : Nat} {xs : Nat → Int32} {D : va_G} {cT : Nat → ClassId} {a am : Nat} {adK adV : Nat → Nat} {ls : Array Slot} (S : CallFix p m c code 4 s #[Value.ref b] gw RL) (hK : va_K D classes (th_tys cT) s) (hX : va_X b L xs s s.heap) (hbl : b < s.heap.size) (hL : L ≤ 3072) (hi : i + 6 ≤ L) (hl : lv_has ls 4 [(3, .int (nI i)), (2, .ref am), (1, .ref a), (0, .ref b)]) (hE : st_S adK adV (fun q => s.heap.size ≤ q) s s.heap ∧ vk_R "HungryMaps$Tape" 68 "food map place likes border taste winter draw scale year eaten cold size worth holes hunger in folded on or and not " (adK 0) s ∧ vk_R "HungryMaps$Tape" 47 ";()<>=+-*/%" (adK 1) s) {T Tm : Nat → Option Nat} {q qq : Nat → Int} {H : Heap} {locs : List Loc} (hI : LI D cT s a am T q Tm qq H locs) (hnext : ∀ (T : Nat → Option Nat) (q : Nat → Int) (Tm : Nat → Option Nat) (qq : Nat → Int) (H : Heap) (locs : List Loc), LI D cT s a am T q Tm qq H locs → W p l e room_1 s m #[Value.ref b] below meth c H locs 223 21033 (lw_Z below #[Value.ref b] s) (F0 m 1368 ls [])) : W p l e room_1 s m #[Value.ref b] below meth c H locs 223 21033 (lw_Z below #[Value.ref b] s) (F0 m 279 ls []) := by
  have hx := S.1; have hb := S.2.1
  have hbA : ¬ (fun q : Nat => s.heap.size ≤ q) b := Nat.not_le.mpr hbl
  refine lv_aload_n hx hb dL_law_279 rfl (lv_at hl 2 rfl) ?_
  refine lv_aload_n hx hb dL_law_280 rfl (lv_at hl 3 rfl) ?_
  refine lv_iload_n hx hb dL_law_281 rfl (lv_at hl 0 rfl) ?_
  refine lv_iconst (v := 1) hx hb dL_law_282 (by decide) ?_
  refine lv_iadd hx hb dL_law_283 ?_
  refine lv_topi (fun j1 ej1 => ?_)
  have ej1 : j1 = nI (i + 1) := ej1.trans (nI_add i 1)
  subst ej1
  refine va_sld hx hb hX hbl hbA hI.1.2.2.2.2.2.2 (nI_in (by omega) (by omega)) dL_law_284 ?_
  refine lv_topi (fun y2 ey2 => ?_)
  clear ey2
  refine lw_C (n := 1) (As := [.int y2]) S hK hI (m_X10_end l D cT T q hI.1.2.2.1.2.1.1 a hI.1.2.2.1.2.2 (y2) (iv_top _)) th_R_int gm_547 gm_544 gm_545 gm_546 gm_113 (by decide +kernel) ⟨rfl, rfl, Nat.le_of_ble_eq_true rfl, Nat.le_of_ble_eq_true rfl⟩ rfl hl.1 rfl (Nat.le_of_ble_eq_true rfl) dL_law_285 ⟨Nat.le_of_ble_eq_true rfl, Nat.le_of_ble_eq_true rfl⟩ (fun x3 H locs Ix3 => ?_)
  refine lv_pop (pc := 288) hx hb dL_law_288 rfl ?_
  refine lv_aload_n hx hb dL_law_289 rfl (lv_at hl 1 rfl) ?_
  refine lv_aload_n hx hb dL_law_290 rfl (lv_at hl 3 rfl) ?_
  refine lv_iload_n hx hb dL_law_291 rfl (lv_at hl 0 rfl) ?_
  refine lv_iconst (v := 1) hx hb dL_law_292 (by decide) ?_
  refine lv_iadd hx hb dL_law_293 ?_
  refine lv_topi (fun j4 ej4 => ?_)
  have ej4 : j4 = nI (i + 1) := ej4.trans (nI_add i 1)
  subst ej4
  refine va_sld hx hb hX hbl hbA Ix3.1.2.2.2.2.2.2 (nI_in (by omega) (by omega)) dL_law_294 ?_
  refine lv_topi (fun y5 ey5 => ?_)
  clear ey5
  refine lw_M (n := 1) (As := [.int y5]) S hK Ix3 (m_X11_end l D cT Tm qq Ix3.1.2.2.2.1.1 Ix3.1.2.2.2.1.2.1 am Ix3.1.2.2.2.1.2.2.2 (y5) (iv_top _)) th_R_int gm_1920 gm_1917 gm_1918 gm_1919 gm_124 (by decide +kernel) ⟨rfl, rfl, Nat.le_of_ble_eq_true rfl, Nat.le_of_ble_eq_true rfl⟩ rfl hl.1 rfl (Nat.le_of_ble_eq_true rfl) dL_law_295 ⟨Nat.le_of_ble_eq_true rfl, Nat.le_of_ble_eq_true rfl⟩ (fun x6 H locs Ix6 => ?_)
  refine lv_pop (pc := 298) hx hb dL_law_298 rfl ?_
  refine lv_goto (tgt := 1368) hx hb dL_law_299 (by decide) ?_
  exact hnext T q Tm qq H locs Ix6

set_option maxHeartbeats 4000000 in
set_option maxRecDepth 100000 in
theorem law_c2 {p : Program} {l : Launch} {e : Env} {s : State} {m : MethodId} {below : List Frame} {meth : Method} {c : Code} {b L i : Nat} {xs : Nat → Int32} {D : va_G} {cT : Nat → ClassId} {a am : Nat} {adK adV : Nat → Nat} {ls : Array Slot} (S : CallFix p m c code 4 s #[Value.ref b] gw RL) (hK : va_K D classes (th_tys cT) s) (hX : va_X b L xs s s.heap) (hbl : b < s.heap.size) (hL : L ≤ 3072) (hi : i + 6 ≤ L) (hl : lv_has ls 4 [(3, .int (nI i)), (2, .ref am), (1, .ref a), (0, .ref b)]) (hE : st_S adK adV (fun q => s.heap.size ≤ q) s s.heap ∧ vk_R "HungryMaps$Tape" 68 "food map place likes border taste winter draw scale year eaten cold size worth holes hunger in folded on or and not " (adK 0) s ∧ vk_R "HungryMaps$Tape" 47 ";()<>=+-*/%" (adK 1) s) {T Tm : Nat → Option Nat} {q qq : Nat → Int} {H : Heap} {locs : List Loc} (hI : LI D cT s a am T q Tm qq H locs) (hnext : ∀ (T : Nat → Option Nat) (q : Nat → Int) (Tm : Nat → Option Nat) (qq : Nat → Int) (H : Heap) (locs : List Loc), LI D cT s a am T q Tm qq H locs → W p l e room_1 s m #[Value.ref b] below meth c H locs 223 21033 (lw_Z below #[Value.ref b] s) (F0 m 1368 ls [])) : W p l e room_1 s m #[Value.ref b] below meth c H locs 223 21033 (lw_Z below #[Value.ref b] s) (F0 m 302 ls []) := by
  have hx := S.1; have hb := S.2.1
  have hbA : ¬ (fun q : Nat => s.heap.size ≤ q) b := Nat.not_le.mpr hbl
  refine lv_aload_n hx hb dL_law_302 rfl (lv_at hl 2 rfl) ?_
  refine lw_H (n := 0) (As := []) S hK hE hI (m_X10_house l D cT T q adK adV hI.1.2.2.1.1 hI.1.2.2.1.2.1 a hI.1.2.2.1.2.2) gm_551 gm_548 gm_549 gm_550 gm_113 (by decide +kernel) ⟨rfl, rfl, Nat.le_of_ble_eq_true rfl, Nat.le_of_ble_eq_true rfl⟩ rfl hl.1 rfl (Nat.le_of_ble_eq_true rfl) dL_law_303 ⟨Nat.le_of_ble_eq_true rfl, Nat.le_of_ble_eq_true rfl⟩ (fun x1 Tx1 qx1 H locs Ix1 => ?_)
  refine lv_pop (pc := 306) hx hb dL_law_306 rfl ?_
  refine lv_aload_n hx hb dL_law_307 rfl (lv_at hl 1 rfl) ?_
  refine lw_MM (n := 0) (As := []) S hK Ix1 (m_X11_house l D cT Tm qq Ix1.1.2.2.2.1.1 Ix1.1.2.2.2.1.2.1 am Ix1.1.2.2.2.1.2.2.2  Ix1.1.2.2.2.1.2.2.1) (fun v q2 h => by obtain ⟨r, rfl, _, h1, h2, h3⟩ := h; exact ⟨⟨r, rfl⟩, h1, h3, h2 9 (by decide) (Or.inl (by decide))⟩) gm_1441 gm_1438 gm_1439 gm_1440 gm_124 (by decide +kernel) ⟨rfl, rfl, Nat.le_of_ble_eq_true rfl, Nat.le_of_ble_eq_true rfl⟩ rfl hl.1 rfl (Nat.le_of_ble_eq_true rfl) dL_law_308 ⟨Nat.le_of_ble_eq_true rfl, Nat.le_of_ble_eq_true rfl⟩ (fun x2 qx2 H locs Ix2 => ?_)
  refine lv_pop (pc := 311) hx hb dL_law_311 rfl ?_
  refine lv_goto (tgt := 1368) hx hb dL_law_312 (by decide) ?_
  exact hnext Tx1 qx1 Tm qx2 H locs Ix2

set_option maxHeartbeats 4000000 in
set_option maxRecDepth 100000 in
theorem law_c3 {p : Program} {l : Launch} {e : Env} {s : State} {m : MethodId} {below : List Frame} {meth : Method} {c : Code} {b L i : Nat} {xs : Nat → Int32} {D : va_G} {cT : Nat → ClassId} {a am : Nat} {adK adV : Nat → Nat} {ls : Array Slot} (S : CallFix p m c code 4 s #[Value.ref b] gw RL) (hK : va_K D classes (th_tys cT) s) (hX : va_X b L xs s s.heap) (hbl : b < s.heap.size) (hL : L ≤ 3072) (hi : i + 6 ≤ L) (hl : lv_has ls 4 [(3, .int (nI i)), (2, .ref am), (1, .ref a), (0, .ref b)]) (hE : st_S adK adV (fun q => s.heap.size ≤ q) s s.heap ∧ vk_R "HungryMaps$Tape" 68 "food map place likes border taste winter draw scale year eaten cold size worth holes hunger in folded on or and not " (adK 0) s ∧ vk_R "HungryMaps$Tape" 47 ";()<>=+-*/%" (adK 1) s) {T Tm : Nat → Option Nat} {q qq : Nat → Int} {H : Heap} {locs : List Loc} (hI : LI D cT s a am T q Tm qq H locs) (hnext : ∀ (T : Nat → Option Nat) (q : Nat → Int) (Tm : Nat → Option Nat) (qq : Nat → Int) (H : Heap) (locs : List Loc), LI D cT s a am T q Tm qq H locs → W p l e room_1 s m #[Value.ref b] below meth c H locs 223 21033 (lw_Z below #[Value.ref b] s) (F0 m 1368 ls [])) : W p l e room_1 s m #[Value.ref b] below meth c H locs 223 21033 (lw_Z below #[Value.ref b] s) (F0 m 315 ls []) := by
  have hx := S.1; have hb := S.2.1
  have hbA : ¬ (fun q : Nat => s.heap.size ≤ q) b := Nat.not_le.mpr hbl
  refine lv_aload_n hx hb dL_law_315 rfl (lv_at hl 2 rfl) ?_
  refine lv_aload_n hx hb dL_law_316 rfl (lv_at hl 3 rfl) ?_
  refine lv_iload_n hx hb dL_law_317 rfl (lv_at hl 0 rfl) ?_
  refine lv_iconst (v := 1) hx hb dL_law_318 (by decide) ?_
  refine lv_iadd hx hb dL_law_319 ?_
  refine lv_topi (fun j1 ej1 => ?_)
  have ej1 : j1 = nI (i + 1) := ej1.trans (nI_add i 1)
  subst ej1
  refine va_sld hx hb hX hbl hbA hI.1.2.2.2.2.2.2 (nI_in (by omega) (by omega)) dL_law_320 ?_
  refine lv_topi (fun y2 ey2 => ?_)
  clear ey2
  refine lw_C (n := 1) (As := [.int y2]) S hK hI (m_X10_fault l D cT T q hI.1.2.2.1.2.1.1 a hI.1.2.2.1.2.2 (y2) (iv_top _)) th_R_int gm_816 gm_813 gm_814 gm_815 gm_113 (by decide +kernel) ⟨rfl, rfl, Nat.le_of_ble_eq_true rfl, Nat.le_of_ble_eq_true rfl⟩ rfl hl.1 rfl (Nat.le_of_ble_eq_true rfl) dL_law_321 ⟨Nat.le_of_ble_eq_true rfl, Nat.le_of_ble_eq_true rfl⟩ (fun x3 H locs Ix3 => ?_)
  refine lv_pop (pc := 324) hx hb dL_law_324 rfl ?_
  refine lv_aload_n hx hb dL_law_325 rfl (lv_at hl 1 rfl) ?_
  refine lv_aload_n hx hb dL_law_326 rfl (lv_at hl 3 rfl) ?_
  refine lv_iload_n hx hb dL_law_327 rfl (lv_at hl 0 rfl) ?_
  refine lv_iconst (v := 1) hx hb dL_law_328 (by decide) ?_
  refine lv_iadd hx hb dL_law_329 ?_
  refine lv_topi (fun j4 ej4 => ?_)
  have ej4 : j4 = nI (i + 1) := ej4.trans (nI_add i 1)
  subst ej4
  refine va_sld hx hb hX hbl hbA Ix3.1.2.2.2.2.2.2 (nI_in (by omega) (by omega)) dL_law_330 ?_
  refine lv_topi (fun y5 ey5 => ?_)
  clear ey5
  refine lw_M (n := 1) (As := [.int y5]) S hK Ix3 (m_X11_fault l D cT Tm qq Ix3.1.2.2.2.1.1 Ix3.1.2.2.2.1.2.1 am Ix3.1.2.2.2.1.2.2.2 (y5) (iv_top _)) th_R_int gm_1607 gm_1604 gm_1605 gm_1606 gm_124 (by decide +kernel) ⟨rfl, rfl, Nat.le_of_ble_eq_true rfl, Nat.le_of_ble_eq_true rfl⟩ rfl hl.1 rfl (Nat.le_of_ble_eq_true rfl) dL_law_331 ⟨Nat.le_of_ble_eq_true rfl, Nat.le_of_ble_eq_true rfl⟩ (fun x6 H locs Ix6 => ?_)
  refine lv_pop (pc := 334) hx hb dL_law_334 rfl ?_
  refine lv_goto (tgt := 1368) hx hb dL_law_335 (by decide) ?_
  exact hnext T q Tm qq H locs Ix6

set_option maxHeartbeats 4000000 in
set_option maxRecDepth 100000 in
theorem law_c4 {p : Program} {l : Launch} {e : Env} {s : State} {m : MethodId} {below : List Frame} {meth : Method} {c : Code} {b L i : Nat} {xs : Nat → Int32} {D : va_G} {cT : Nat → ClassId} {a am : Nat} {adK adV : Nat → Nat} {ls : Array Slot} (S : CallFix p m c code 4 s #[Value.ref b] gw RL) (hK : va_K D classes (th_tys cT) s) (hX : va_X b L xs s s.heap) (hbl : b < s.heap.size) (hL : L ≤ 3072) (hi : i + 6 ≤ L) (hl : lv_has ls 4 [(3, .int (nI i)), (2, .ref am), (1, .ref a), (0, .ref b)]) (hE : st_S adK adV (fun q => s.heap.size ≤ q) s s.heap ∧ vk_R "HungryMaps$Tape" 68 "food map place likes border taste winter draw scale year eaten cold size worth holes hunger in folded on or and not " (adK 0) s ∧ vk_R "HungryMaps$Tape" 47 ";()<>=+-*/%" (adK 1) s) {T Tm : Nat → Option Nat} {q qq : Nat → Int} {H : Heap} {locs : List Loc} (hI : LI D cT s a am T q Tm qq H locs) (hnext : ∀ (T : Nat → Option Nat) (q : Nat → Int) (Tm : Nat → Option Nat) (qq : Nat → Int) (H : Heap) (locs : List Loc), LI D cT s a am T q Tm qq H locs → W p l e room_1 s m #[Value.ref b] below meth c H locs 223 21033 (lw_Z below #[Value.ref b] s) (F0 m 1368 ls [])) : W p l e room_1 s m #[Value.ref b] below meth c H locs 223 21033 (lw_Z below #[Value.ref b] s) (F0 m 338 ls []) := by
  have hx := S.1; have hb := S.2.1
  have hbA : ¬ (fun q : Nat => s.heap.size ≤ q) b := Nat.not_le.mpr hbl
  refine lv_aload_n hx hb dL_law_338 rfl (lv_at hl 2 rfl) ?_
  refine lv_aload_n hx hb dL_law_339 rfl (lv_at hl 3 rfl) ?_
  refine lv_iload_n hx hb dL_law_340 rfl (lv_at hl 0 rfl) ?_
  refine lv_iconst (v := 1) hx hb dL_law_341 (by decide) ?_
  refine lv_iadd hx hb dL_law_342 ?_
  refine lv_topi (fun j1 ej1 => ?_)
  have ej1 : j1 = nI (i + 1) := ej1.trans (nI_add i 1)
  subst ej1
  refine va_sld hx hb hX hbl hbA hI.1.2.2.2.2.2.2 (nI_in (by omega) (by omega)) dL_law_343 ?_
  refine lv_topi (fun y2 ey2 => ?_)
  clear ey2
  refine lw_C (n := 1) (As := [.int y2]) S hK hI (m_X10_store l D cT T q hI.1.2.2.1.2.1.1 a hI.1.2.2.1.2.2 (y2) (iv_top _)) th_R_int gm_820 gm_817 gm_818 gm_819 gm_113 (by decide +kernel) ⟨rfl, rfl, Nat.le_of_ble_eq_true rfl, Nat.le_of_ble_eq_true rfl⟩ rfl hl.1 rfl (Nat.le_of_ble_eq_true rfl) dL_law_344 ⟨Nat.le_of_ble_eq_true rfl, Nat.le_of_ble_eq_true rfl⟩ (fun x3 H locs Ix3 => ?_)
  refine lv_pop (pc := 347) hx hb dL_law_347 rfl ?_
  refine lv_aload_n hx hb dL_law_348 rfl (lv_at hl 1 rfl) ?_
  refine lv_aload_n hx hb dL_law_349 rfl (lv_at hl 3 rfl) ?_
  refine lv_iload_n hx hb dL_law_350 rfl (lv_at hl 0 rfl) ?_
  refine lv_iconst (v := 1) hx hb dL_law_351 (by decide) ?_
  refine lv_iadd hx hb dL_law_352 ?_
  refine lv_topi (fun j4 ej4 => ?_)
  have ej4 : j4 = nI (i + 1) := ej4.trans (nI_add i 1)
  subst ej4
  refine va_sld hx hb hX hbl hbA Ix3.1.2.2.2.2.2.2 (nI_in (by omega) (by omega)) dL_law_353 ?_
  refine lv_topi (fun y5 ey5 => ?_)
  clear ey5
  refine lw_M (n := 1) (As := [.int y5]) S hK Ix3 (m_X11_store l D cT Tm qq Ix3.1.2.2.2.1.1 Ix3.1.2.2.2.1.2.1 am Ix3.1.2.2.2.1.2.2.2 (y5) (iv_top _)) th_R_int gm_1611 gm_1608 gm_1609 gm_1610 gm_124 (by decide +kernel) ⟨rfl, rfl, Nat.le_of_ble_eq_true rfl, Nat.le_of_ble_eq_true rfl⟩ rfl hl.1 rfl (Nat.le_of_ble_eq_true rfl) dL_law_354 ⟨Nat.le_of_ble_eq_true rfl, Nat.le_of_ble_eq_true rfl⟩ (fun x6 H locs Ix6 => ?_)
  refine lv_pop (pc := 357) hx hb dL_law_357 rfl ?_
  refine lv_goto (tgt := 1368) hx hb dL_law_358 (by decide) ?_
  exact hnext T q Tm qq H locs Ix6

set_option maxHeartbeats 4000000 in
set_option maxRecDepth 100000 in
theorem law_c5 {p : Program} {l : Launch} {e : Env} {s : State} {m : MethodId} {below : List Frame} {meth : Method} {c : Code} {b L i : Nat} {xs : Nat → Int32} {D : va_G} {cT : Nat → ClassId} {a am : Nat} {adK adV : Nat → Nat} {ls : Array Slot} (S : CallFix p m c code 4 s #[Value.ref b] gw RL) (hK : va_K D classes (th_tys cT) s) (hX : va_X b L xs s s.heap) (hbl : b < s.heap.size) (hL : L ≤ 3072) (hi : i + 6 ≤ L) (hl : lv_has ls 4 [(3, .int (nI i)), (2, .ref am), (1, .ref a), (0, .ref b)]) (hE : st_S adK adV (fun q => s.heap.size ≤ q) s s.heap ∧ vk_R "HungryMaps$Tape" 68 "food map place likes border taste winter draw scale year eaten cold size worth holes hunger in folded on or and not " (adK 0) s ∧ vk_R "HungryMaps$Tape" 47 ";()<>=+-*/%" (adK 1) s) {T Tm : Nat → Option Nat} {q qq : Nat → Int} {H : Heap} {locs : List Loc} (hI : LI D cT s a am T q Tm qq H locs) (hnext : ∀ (T : Nat → Option Nat) (q : Nat → Int) (Tm : Nat → Option Nat) (qq : Nat → Int) (H : Heap) (locs : List Loc), LI D cT s a am T q Tm qq H locs → W p l e room_1 s m #[Value.ref b] below meth c H locs 223 21033 (lw_Z below #[Value.ref b] s) (F0 m 1368 ls [])) : W p l e room_1 s m #[Value.ref b] below meth c H locs 223 21033 (lw_Z below #[Value.ref b] s) (F0 m 361 ls []) := by
  have hx := S.1; have hb := S.2.1
  have hbA : ¬ (fun q : Nat => s.heap.size ≤ q) b := Nat.not_le.mpr hbl
  refine lv_aload_n hx hb dL_law_361 rfl (lv_at hl 2 rfl) ?_
  refine lv_aload_n hx hb dL_law_362 rfl (lv_at hl 3 rfl) ?_
  refine lv_iload_n hx hb dL_law_363 rfl (lv_at hl 0 rfl) ?_
  refine lv_iconst (v := 1) hx hb dL_law_364 (by decide) ?_
  refine lv_iadd hx hb dL_law_365 ?_
  refine lv_topi (fun j1 ej1 => ?_)
  have ej1 : j1 = nI (i + 1) := ej1.trans (nI_add i 1)
  subst ej1
  refine va_sld hx hb hX hbl hbA hI.1.2.2.2.2.2.2 (nI_in (by omega) (by omega)) dL_law_366 ?_
  refine lv_topi (fun y2 ey2 => ?_)
  clear ey2
  refine lv_aload_n hx hb dL_law_367 rfl (lv_at hl 3 rfl) ?_
  refine lv_iload_n hx hb dL_law_368 rfl (lv_at hl 0 rfl) ?_
  refine lv_iconst (v := 2) hx hb dL_law_369 (by decide) ?_
  refine lv_iadd hx hb dL_law_370 ?_
  refine lv_topi (fun j3 ej3 => ?_)
  have ej3 : j3 = nI (i + 2) := ej3.trans (nI_add i 2)
  subst ej3
  refine va_sld hx hb hX hbl hbA hI.1.2.2.2.2.2.2 (nI_in (by omega) (by omega)) dL_law_371 ?_
  refine lv_topi (fun y4 ey4 => ?_)
  clear ey4
  refine lw_C (n := 2) (As := [.int y2, .int y4]) S hK hI (m_X10_map l D cT T q hI.1.2.2.1.2.1.1 a hI.1.2.2.1.2.2 (y2) (iv_top _) (y4) (iv_top _)) th_R_int gm_832 gm_829 gm_830 gm_831 gm_113 (by decide +kernel) ⟨rfl, rfl, Nat.le_of_ble_eq_true rfl, Nat.le_of_ble_eq_true rfl⟩ rfl hl.1 rfl (Nat.le_of_ble_eq_true rfl) dL_law_372 ⟨Nat.le_of_ble_eq_true rfl, Nat.le_of_ble_eq_true rfl⟩ (fun x5 H locs Ix5 => ?_)
  refine lv_pop (pc := 375) hx hb dL_law_375 rfl ?_
  refine lv_aload_n hx hb dL_law_376 rfl (lv_at hl 1 rfl) ?_
  refine lv_aload_n hx hb dL_law_377 rfl (lv_at hl 3 rfl) ?_
  refine lv_iload_n hx hb dL_law_378 rfl (lv_at hl 0 rfl) ?_
  refine lv_iconst (v := 1) hx hb dL_law_379 (by decide) ?_
  refine lv_iadd hx hb dL_law_380 ?_
  refine lv_topi (fun j6 ej6 => ?_)
  have ej6 : j6 = nI (i + 1) := ej6.trans (nI_add i 1)
  subst ej6
  refine va_sld hx hb hX hbl hbA Ix5.1.2.2.2.2.2.2 (nI_in (by omega) (by omega)) dL_law_381 ?_
  refine lv_topi (fun y7 ey7 => ?_)
  clear ey7
  refine lv_aload_n hx hb dL_law_382 rfl (lv_at hl 3 rfl) ?_
  refine lv_iload_n hx hb dL_law_383 rfl (lv_at hl 0 rfl) ?_
  refine lv_iconst (v := 2) hx hb dL_law_384 (by decide) ?_
  refine lv_iadd hx hb dL_law_385 ?_
  refine lv_topi (fun j8 ej8 => ?_)
  have ej8 : j8 = nI (i + 2) := ej8.trans (nI_add i 2)
  subst ej8
  refine va_sld hx hb hX hbl hbA Ix5.1.2.2.2.2.2.2 (nI_in (by omega) (by omega)) dL_law_386 ?_
  refine lv_topi (fun y9 ey9 => ?_)
  clear ey9
  refine lw_M (n := 2) (As := [.int y7, .int y9]) S hK Ix5 (m_X11_map l D cT Tm qq Ix5.1.2.2.2.1.1 Ix5.1.2.2.2.1.2.1 am Ix5.1.2.2.2.1.2.2.2 (y7) (iv_top _) (y9) (iv_top _)) th_R_int gm_1622 gm_1619 gm_1620 gm_1621 gm_124 (by decide +kernel) ⟨rfl, rfl, Nat.le_of_ble_eq_true rfl, Nat.le_of_ble_eq_true rfl⟩ rfl hl.1 rfl (Nat.le_of_ble_eq_true rfl) dL_law_387 ⟨Nat.le_of_ble_eq_true rfl, Nat.le_of_ble_eq_true rfl⟩ (fun x10 H locs Ix10 => ?_)
  refine lv_pop (pc := 390) hx hb dL_law_390 rfl ?_
  refine lv_goto (tgt := 1368) hx hb dL_law_391 (by decide) ?_
  exact hnext T q Tm qq H locs Ix10

set_option maxHeartbeats 4000000 in
set_option maxRecDepth 100000 in
theorem law_c6 {p : Program} {l : Launch} {e : Env} {s : State} {m : MethodId} {below : List Frame} {meth : Method} {c : Code} {b L i : Nat} {xs : Nat → Int32} {D : va_G} {cT : Nat → ClassId} {a am : Nat} {adK adV : Nat → Nat} {ls : Array Slot} (S : CallFix p m c code 4 s #[Value.ref b] gw RL) (hK : va_K D classes (th_tys cT) s) (hX : va_X b L xs s s.heap) (hbl : b < s.heap.size) (hL : L ≤ 3072) (hi : i + 6 ≤ L) (hl : lv_has ls 4 [(3, .int (nI i)), (2, .ref am), (1, .ref a), (0, .ref b)]) (hE : st_S adK adV (fun q => s.heap.size ≤ q) s s.heap ∧ vk_R "HungryMaps$Tape" 68 "food map place likes border taste winter draw scale year eaten cold size worth holes hunger in folded on or and not " (adK 0) s ∧ vk_R "HungryMaps$Tape" 47 ";()<>=+-*/%" (adK 1) s) {T Tm : Nat → Option Nat} {q qq : Nat → Int} {H : Heap} {locs : List Loc} (hI : LI D cT s a am T q Tm qq H locs) (hnext : ∀ (T : Nat → Option Nat) (q : Nat → Int) (Tm : Nat → Option Nat) (qq : Nat → Int) (H : Heap) (locs : List Loc), LI D cT s a am T q Tm qq H locs → W p l e room_1 s m #[Value.ref b] below meth c H locs 223 21033 (lw_Z below #[Value.ref b] s) (F0 m 1368 ls [])) : W p l e room_1 s m #[Value.ref b] below meth c H locs 223 21033 (lw_Z below #[Value.ref b] s) (F0 m 394 ls []) := by
  have hx := S.1; have hb := S.2.1
  have hbA : ¬ (fun q : Nat => s.heap.size ≤ q) b := Nat.not_le.mpr hbl
  refine lv_aload_n hx hb dL_law_394 rfl (lv_at hl 2 rfl) ?_
  refine lv_aload_n hx hb dL_law_395 rfl (lv_at hl 3 rfl) ?_
  refine lv_iload_n hx hb dL_law_396 rfl (lv_at hl 0 rfl) ?_
  refine lv_iconst (v := 1) hx hb dL_law_397 (by decide) ?_
  refine lv_iadd hx hb dL_law_398 ?_
  refine lv_topi (fun j1 ej1 => ?_)
  have ej1 : j1 = nI (i + 1) := ej1.trans (nI_add i 1)
  subst ej1
  refine va_sld hx hb hX hbl hbA hI.1.2.2.2.2.2.2 (nI_in (by omega) (by omega)) dL_law_399 ?_
  refine lv_topi (fun y2 ey2 => ?_)
  clear ey2
  refine lv_aload_n hx hb dL_law_400 rfl (lv_at hl 3 rfl) ?_
  refine lv_iload_n hx hb dL_law_401 rfl (lv_at hl 0 rfl) ?_
  refine lv_iconst (v := 2) hx hb dL_law_402 (by decide) ?_
  refine lv_iadd hx hb dL_law_403 ?_
  refine lv_topi (fun j3 ej3 => ?_)
  have ej3 : j3 = nI (i + 2) := ej3.trans (nI_add i 2)
  subst ej3
  refine va_sld hx hb hX hbl hbA hI.1.2.2.2.2.2.2 (nI_in (by omega) (by omega)) dL_law_404 ?_
  refine lv_topi (fun y4 ey4 => ?_)
  clear ey4
  refine lw_C (n := 2) (As := [.int y2, .int y4]) S hK hI (m_X10_place l D cT T q hI.1.2.2.1.2.1.1 a hI.1.2.2.1.2.2 (y2) (iv_top _) (y4) (iv_top _)) th_R_int gm_862 gm_859 gm_860 gm_861 gm_113 (by decide +kernel) ⟨rfl, rfl, Nat.le_of_ble_eq_true rfl, Nat.le_of_ble_eq_true rfl⟩ rfl hl.1 rfl (Nat.le_of_ble_eq_true rfl) dL_law_405 ⟨Nat.le_of_ble_eq_true rfl, Nat.le_of_ble_eq_true rfl⟩ (fun x5 H locs Ix5 => ?_)
  refine lv_pop (pc := 408) hx hb dL_law_408 rfl ?_
  refine lv_aload_n hx hb dL_law_409 rfl (lv_at hl 1 rfl) ?_
  refine lv_aload_n hx hb dL_law_410 rfl (lv_at hl 3 rfl) ?_
  refine lv_iload_n hx hb dL_law_411 rfl (lv_at hl 0 rfl) ?_
  refine lv_iconst (v := 1) hx hb dL_law_412 (by decide) ?_
  refine lv_iadd hx hb dL_law_413 ?_
  refine lv_topi (fun j6 ej6 => ?_)
  have ej6 : j6 = nI (i + 1) := ej6.trans (nI_add i 1)
  subst ej6
  refine va_sld hx hb hX hbl hbA Ix5.1.2.2.2.2.2.2 (nI_in (by omega) (by omega)) dL_law_414 ?_
  refine lv_topi (fun y7 ey7 => ?_)
  clear ey7
  refine lv_aload_n hx hb dL_law_415 rfl (lv_at hl 3 rfl) ?_
  refine lv_iload_n hx hb dL_law_416 rfl (lv_at hl 0 rfl) ?_
  refine lv_iconst (v := 2) hx hb dL_law_417 (by decide) ?_
  refine lv_iadd hx hb dL_law_418 ?_
  refine lv_topi (fun j8 ej8 => ?_)
  have ej8 : j8 = nI (i + 2) := ej8.trans (nI_add i 2)
  subst ej8
  refine va_sld hx hb hX hbl hbA Ix5.1.2.2.2.2.2.2 (nI_in (by omega) (by omega)) dL_law_419 ?_
  refine lv_topi (fun y9 ey9 => ?_)
  clear ey9
  refine lw_M (n := 2) (As := [.int y7, .int y9]) S hK Ix5 (m_X11_place l D cT Tm qq Ix5.1.2.2.2.1.1 Ix5.1.2.2.2.1.2.1 am Ix5.1.2.2.2.1.2.2.2 (y7) (iv_top _) (y9) (iv_top _)) th_R_int gm_1668 gm_1665 gm_1666 gm_1667 gm_124 (by decide +kernel) ⟨rfl, rfl, Nat.le_of_ble_eq_true rfl, Nat.le_of_ble_eq_true rfl⟩ rfl hl.1 rfl (Nat.le_of_ble_eq_true rfl) dL_law_420 ⟨Nat.le_of_ble_eq_true rfl, Nat.le_of_ble_eq_true rfl⟩ (fun x10 H locs Ix10 => ?_)
  refine lv_pop (pc := 423) hx hb dL_law_423 rfl ?_
  refine lv_goto (tgt := 1368) hx hb dL_law_424 (by decide) ?_
  exact hnext T q Tm qq H locs Ix10
