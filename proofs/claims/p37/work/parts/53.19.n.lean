theorem dX11_rankHere_0 : decode cX11_rankHere 0 = .ok (.aload_n 0, 1) := by decide +kernel
theorem dX11_rankHere_1 : decode cX11_rankHere 1 = .ok (.ldc2_w 201, 3) := by decide +kernel
theorem dX11_rankHere_4 : decode cX11_rankHere 4 = .ok (.invokevirtual 253, 3) := by decide +kernel
theorem dX11_rankHere_7 : decode cX11_rankHere 7 = .ok (.ifCond .eq 5, 3) := by decide +kernel
theorem dX11_rankHere_10 : decode cX11_rankHere 10 = .ok (.iconst 2, 1) := by decide +kernel
theorem dX11_rankHere_11 : decode cX11_rankHere 11 = .ok (.ireturn, 1) := by decide +kernel
theorem dX11_rankHere_12 : decode cX11_rankHere 12 = .ok (.aload_n 0, 1) := by decide +kernel
theorem dX11_rankHere_13 : decode cX11_rankHere 13 = .ok (.ldc2_w 199, 3) := by decide +kernel
theorem dX11_rankHere_16 : decode cX11_rankHere 16 = .ok (.invokevirtual 253, 3) := by decide +kernel
theorem dX11_rankHere_19 : decode cX11_rankHere 19 = .ok (.ifCond .eq 5, 3) := by decide +kernel
theorem dX11_rankHere_22 : decode cX11_rankHere 22 = .ok (.iconst 1, 1) := by decide +kernel
theorem dX11_rankHere_23 : decode cX11_rankHere 23 = .ok (.ireturn, 1) := by decide +kernel
theorem dX11_rankHere_24 : decode cX11_rankHere 24 = .ok (.aload_n 0, 1) := by decide +kernel
theorem dX11_rankHere_25 : decode cX11_rankHere 25 = .ok (.bipush 60, 2) := by decide +kernel
theorem dX11_rankHere_27 : decode cX11_rankHere 27 = .ok (.invokevirtual 301, 3) := by decide +kernel
theorem dX11_rankHere_30 : decode cX11_rankHere 30 = .ok (.ifCond .ne 21, 3) := by decide +kernel
theorem dX11_rankHere_33 : decode cX11_rankHere 33 = .ok (.aload_n 0, 1) := by decide +kernel
theorem dX11_rankHere_34 : decode cX11_rankHere 34 = .ok (.bipush 62, 2) := by decide +kernel
theorem dX11_rankHere_36 : decode cX11_rankHere 36 = .ok (.invokevirtual 301, 3) := by decide +kernel
theorem dX11_rankHere_39 : decode cX11_rankHere 39 = .ok (.ifCond .ne 12, 3) := by decide +kernel
theorem dX11_rankHere_42 : decode cX11_rankHere 42 = .ok (.aload_n 0, 1) := by decide +kernel
theorem dX11_rankHere_43 : decode cX11_rankHere 43 = .ok (.bipush 61, 2) := by decide +kernel
theorem dX11_rankHere_45 : decode cX11_rankHere 45 = .ok (.invokevirtual 301, 3) := by decide +kernel
theorem dX11_rankHere_48 : decode cX11_rankHere 48 = .ok (.ifCond .eq 5, 3) := by decide +kernel
theorem dX11_rankHere_51 : decode cX11_rankHere 51 = .ok (.iconst 4, 1) := by decide +kernel
theorem dX11_rankHere_52 : decode cX11_rankHere 52 = .ok (.ireturn, 1) := by decide +kernel
theorem dX11_rankHere_53 : decode cX11_rankHere 53 = .ok (.aload_n 0, 1) := by decide +kernel
theorem dX11_rankHere_54 : decode cX11_rankHere 54 = .ok (.bipush 43, 2) := by decide +kernel
theorem dX11_rankHere_56 : decode cX11_rankHere 56 = .ok (.invokevirtual 301, 3) := by decide +kernel
theorem dX11_rankHere_59 : decode cX11_rankHere 59 = .ok (.ifCond .ne 12, 3) := by decide +kernel
theorem dX11_rankHere_62 : decode cX11_rankHere 62 = .ok (.aload_n 0, 1) := by decide +kernel
theorem dX11_rankHere_63 : decode cX11_rankHere 63 = .ok (.bipush 45, 2) := by decide +kernel
theorem dX11_rankHere_65 : decode cX11_rankHere 65 = .ok (.invokevirtual 301, 3) := by decide +kernel
theorem dX11_rankHere_68 : decode cX11_rankHere 68 = .ok (.ifCond .eq 5, 3) := by decide +kernel
theorem dX11_rankHere_71 : decode cX11_rankHere 71 = .ok (.iconst 5, 1) := by decide +kernel
theorem dX11_rankHere_72 : decode cX11_rankHere 72 = .ok (.ireturn, 1) := by decide +kernel
theorem dX11_rankHere_73 : decode cX11_rankHere 73 = .ok (.aload_n 0, 1) := by decide +kernel
theorem dX11_rankHere_74 : decode cX11_rankHere 74 = .ok (.bipush 42, 2) := by decide +kernel
theorem dX11_rankHere_76 : decode cX11_rankHere 76 = .ok (.invokevirtual 301, 3) := by decide +kernel
theorem dX11_rankHere_79 : decode cX11_rankHere 79 = .ok (.ifCond .ne 21, 3) := by decide +kernel
theorem dX11_rankHere_82 : decode cX11_rankHere 82 = .ok (.aload_n 0, 1) := by decide +kernel
theorem dX11_rankHere_83 : decode cX11_rankHere 83 = .ok (.bipush 47, 2) := by decide +kernel
theorem dX11_rankHere_85 : decode cX11_rankHere 85 = .ok (.invokevirtual 301, 3) := by decide +kernel
theorem dX11_rankHere_88 : decode cX11_rankHere 88 = .ok (.ifCond .ne 12, 3) := by decide +kernel
theorem dX11_rankHere_91 : decode cX11_rankHere 91 = .ok (.aload_n 0, 1) := by decide +kernel
theorem dX11_rankHere_92 : decode cX11_rankHere 92 = .ok (.bipush 37, 2) := by decide +kernel
theorem dX11_rankHere_94 : decode cX11_rankHere 94 = .ok (.invokevirtual 301, 3) := by decide +kernel
theorem dX11_rankHere_97 : decode cX11_rankHere 97 = .ok (.ifCond .eq 8, 3) := by decide +kernel
theorem dX11_rankHere_100 : decode cX11_rankHere 100 = .ok (.bipush 6, 2) := by decide +kernel
theorem dX11_rankHere_102 : decode cX11_rankHere 102 = .ok (.goto 4, 3) := by decide +kernel
theorem dX11_rankHere_105 : decode cX11_rankHere 105 = .ok (.iconst 0, 1) := by decide +kernel
theorem dX11_rankHere_106 : decode cX11_rankHere 106 = .ok (.ireturn, 1) := by decide +kernel
set_option maxHeartbeats 20000000 in
set_option maxRecDepth 100000 in
theorem m_X11_unit (l : Launch) (D : va_G) (cT : Nat → ClassId) (T : Nat → Option Nat) (q : Nat → Int) (hT : tokm T) (hq : qkm q) (a0 : Nat) (t0 : T a0 = some 0) (hp0 : TS q) (hp1 : q 13 = 1 - q 10) (hp2 : q 30 = 0) (hp3 : 0 ≤ q 35) (hp4 : RS q 1) (hp5 : 1 ≤ q 21) : th_MetM l D cT T q yX11_unit cX11_unit 7 (some .boolean) (rmk 2 44) [.ref a0] (fun v q2 => ∃ r : Int32, v = some (.int r) ∧ IV r 0 1 ∧ qkm q2 ∧ fr [20, 21, 22, 23, 24, 27, 28, 29, 30, 31, 1000] q q2 ∧ (TS q2) ∧ (q 27 ≤ q2 27) ∧ (DM q q2) ∧ (kp q q2 (q 35)) ∧ (RU q2 r.toInt) ∧ (GD q q2)) [0, 8, 28, 29, 30, 31] := by
  refine th_startM (by decide) (Nat.le_of_ble_eq_true rfl) ?_
  intro p e s m below meth c ls S hK hH hr hlocks hnm hl
  have hx := S.1
  have hb := S.2.1
  have b13 := qkm_13 hq; have b10 := qkm_10 hq; have b20 := qkm_20 hq; have b22 := qkm_22 hq; have b23 := qkm_23 hq; have b24 := qkm_24 hq; have b26 := qkm_26 hq; have b27 := qkm_27 hq; have le0 := TS_le hp0
  obtain ⟨hlo1, hlo2, hlo3⟩ := RS_lo hp4; have hpil := RS_piled hp4 (by decide)
  have hl : lv_has ls 7 [(0, .ref a0)] := hl
  have J126_l2_0 := J126_l2_0_X11_unit l D cT T q hT hq a0 t0 hp0 hp1 hp2 hp3 hp4 hp5 p e s m below meth c S hK hr hlocks
  have J126_l2_1 := J126_l2_1_X11_unit l D cT T q hT hq a0 t0 hp0 hp1 hp2 hp3 hp4 hp5 p e s m below meth c S hK hr hlocks
  have J98_s0_0_l2_0 := J98_s0_0_l2_0_X11_unit l D cT T q hT hq a0 t0 hp0 hp1 hp2 hp3 hp4 hp5 p e s m below meth c S hK hr hlocks
  have J98_s0_0_l2_1 := J98_s0_0_l2_1_X11_unit l D cT T q hT hq a0 t0 hp0 hp1 hp2 hp3 hp4 hp5 p e s m below meth c S hK hr hlocks
  have J98_s0_1_l2_0 := J98_s0_1_l2_0_X11_unit l D cT T q hT hq a0 t0 hp0 hp1 hp2 hp3 hp4 hp5 p e s m below meth c S hK hr hlocks
  have J98_s0_1_l2_1 := J98_s0_1_l2_1_X11_unit l D cT T q hT hq a0 t0 hp0 hp1 hp2 hp3 hp4 hp5 p e s m below meth c S hK hr hlocks
  have J56_s0_0 := J56_s0_0_X11_unit l D cT T q hT hq a0 t0 hp0 hp1 hp2 hp3 hp4 hp5 p e s m below meth c S hK hr hlocks
  have J56_s0_1 := J56_s0_1_X11_unit l D cT T q hT hq a0 t0 hp0 hp1 hp2 hp3 hp4 hp5 p e s m below meth c S hK hr hlocks
  have J36_s0_0 := J36_s0_0_X11_unit l D cT T q hT hq a0 t0 hp0 hp1 hp2 hp3 hp4 hp5 p e s m below meth c S hK hr hlocks
  have J36_s0_1 := J36_s0_1_X11_unit l D cT T q hT hq a0 t0 hp0 hp1 hp2 hp3 hp4 hp5 p e s m below meth c S hK hr hlocks
  have J0 : ∀ (H : Heap) (locs : List Loc) (ls : Array Slot), th_H D cT T (km q) H → va_S (th_A T [0, 8, 28, 29, 30, 31]) s.heap H locs → lv_has ls 7 [(0, .ref a0)] → W p l e (rmk 2 44) s m [.ref a0].toArray below meth c H locs 0 0 (MQ below (th_QM D cT T (fun v q2 => ∃ r : Int32, v = some (.int r) ∧ IV r 0 1 ∧ qkm q2 ∧ fr [20, 21, 22, 23, 24, 27, 28, 29, 30, 31, 1000] q q2 ∧ (TS q2) ∧ (q 27 ≤ q2 27) ∧ (DM q q2) ∧ (kp q q2 (q 35)) ∧ (RU q2 r.toInt) ∧ (GD q q2)) [0, 8, 28, 29, 30, 31]) [.ref a0].toArray s 0 0 (th_A T [0, 8, 28, 29, 30, 31])) (F0 m 0 ls []) := by
    intro H locs ls hH hS hl
    refine lv_aload_n hx hb dX11_unit_0 rfl (lv_at hl 0 rfl) ?_
    refine th_get S hK hH inG11 t0 km_0 rfl 38 (by decide) gm_1268 rfl rfl dX11_unit_1 (fun v246 hv246 fv246 => ?_)
    obtain ⟨rf247, rfl, trf247⟩ := th_V.ref hv246
    refine lv_aload_n hx hb dX11_unit_4 rfl (lv_at hl 0 rfl) ?_
    refine th_get S hK hH inG11 t0 km_0 rfl 45 (by decide) gm_1275 rfl rfl dX11_unit_5 (fun v248 hv248 fv248 => ?_)
    obtain ⟨x249, rfl, ix249⟩ := th_V.int hv248
    have kx249 : x249.toInt = q 21 := Int.le_antisymm ix249.2 ix249.1
    have bx249 := qkm_21 hq
    have ix249 : IV x249 1 90 := iv_w ix249 ⟨by omega, by omega⟩
    refine lv_iconst (v := 1) hx hb dX11_unit_8 (by decide) ?_
    refine lv_isub hx hb dX11_unit_9 ?_
    refine lv_topi (fun x250 ex250 => ?_)
    have ix250 : IV x250 0 89 := by rw [ex250]; exact iv_sub ix249 (iv_c (by decide) : IV 1 1 1) (by decide)
    have ux250 : x250.toInt = x249.toInt - (1 : Int) := by rw [ex250]; exact iv_subE (by have z1 := (ix249).1; have z2 := (ix249).2; have z3 := ((iv_c (by decide) : IV 1 1 1)).1; have z4 := ((iv_c (by decide) : IV 1 1 1)).2; omega)
    refine th_iald S hK hH trf247 km_30 (th_in (hi := 89) ix250 (by decide)) dX11_unit_10 (fun v251 hv251 => ?_)
    obtain ⟨x252, rfl, kx252⟩ := th_eaR hv251 (th_lt (th_in (hi := 89) ix250 (by decide)))
    have ix252 := iv_top x252
    have jx252 := th_nat (hi := 89) ix250
    refine lv_iconst (v := 3) hx hb dX11_unit_11 (by decide) ?_
    refine lv_icmp_le (tgt := 31) hx hb dX11_unit_12 (by decide) (fun c253 => ?_) (fun c253 => ?_)
    · skip
      have rlc253 : x252.toInt ≤ (3 : Int) := iv_le c253
      have ir254 : IV x252 (-2147483648) 3 := iv_vL ix252 (iv_c (by decide) : IV 3 3 3) (iv_le c253) (by decide)
      have ir254a := ir254.1; have ir254b := ir254.2
      refine lv_iconst (v := 1) hx hb dX11_unit_31 (by decide) ?_
      refine lv_goto (tgt := 36) hx hb dX11_unit_32 (by decide) ?_
      exact J36_s0_1 H locs ls  hH hS (lv_sub hl [0] rfl)
    · skip
      have rlc253 : (3 : Int) < x252.toInt := iv_nle c253
      have ir255 : IV x252 4 2147483647 := iv_uR (iv_c (by decide) : IV 3 3 3) ix252 (iv_nle c253) (by decide)
      have ir255a := ir255.1; have ir255b := ir255.2
      refine lv_aload_n hx hb dX11_unit_15 rfl (lv_at hl 0 rfl) ?_
      refine th_getK S hK fv246 inG11 rfl (by decide) gm_1268 rfl dX11_unit_16 ?_
      refine lv_aload_n hx hb dX11_unit_19 rfl (lv_at hl 0 rfl) ?_
      refine th_get S hK hH inG11 t0 km_0 rfl 45 (by decide) gm_1275 rfl rfl dX11_unit_20 (fun v257 hv257 fv257 => ?_)
      obtain ⟨x258, rfl, ix258⟩ := th_V.int hv257
      have kx258 : x258.toInt = q 21 := Int.le_antisymm ix258.2 ix258.1
      have bx258 := qkm_21 hq
      have ix258 : IV x258 1 90 := iv_w ix258 ⟨by omega, by omega⟩
      refine lv_iconst (v := 1) hx hb dX11_unit_23 (by decide) ?_
      refine lv_isub hx hb dX11_unit_24 ?_
      refine lv_topi (fun x259 ex259 => ?_)
      have ix259 : IV x259 0 89 := by rw [ex259]; exact iv_sub ix258 (iv_c (by decide) : IV 1 1 1) (by decide)
      have ux259 : x259.toInt = x258.toInt - (1 : Int) := by rw [ex259]; exact iv_subE (by have z1 := (ix258).1; have z2 := (ix258).2; have z3 := ((iv_c (by decide) : IV 1 1 1)).1; have z4 := ((iv_c (by decide) : IV 1 1 1)).2; omega)
      refine th_iald S hK hH trf247 km_30 (th_in (hi := 89) ix259 (by decide)) dX11_unit_25 (fun v260 hv260 => ?_)
      obtain ⟨x261, rfl, kx261⟩ := th_eaR hv260 (th_lt (th_in (hi := 89) ix259 (by decide)))
      have ix261 := iv_top x261
      have jx261 := th_nat (hi := 89) ix259
      refine lv_bipush (v := 7) hx hb dX11_unit_26 (by decide) ?_
      refine lv_icmp_lt (tgt := 35) hx hb dX11_unit_28 (by decide) (fun c262 => ?_) (fun c262 => ?_)
      · skip
        have rlc262 : x261.toInt < (7 : Int) := iv_lt c262
        have ir263 : IV x261 (-2147483648) 6 := iv_uL ix261 (iv_c (by decide) : IV 7 7 7) (iv_lt c262) (by decide)
        have ir263a := ir263.1; have ir263b := ir263.2
        refine lv_iconst (v := 0) hx hb dX11_unit_35 (by decide) ?_
        exact J36_s0_0 H locs ls  hH hS (lv_sub hl [0] rfl)
      · skip
        have rlc262 : (7 : Int) ≤ x261.toInt := iv_nlt c262
        have ir264 : IV x261 7 2147483647 := iv_vR (iv_c (by decide) : IV 7 7 7) ix261 (iv_nlt c262) (by decide)
        have ir264a := ir264.1; have ir264b := ir264.2
        refine lv_iconst (v := 1) hx hb dX11_unit_31 (by decide) ?_
        refine lv_goto (tgt := 36) hx hb dX11_unit_32 (by decide) ?_
        exact J36_s0_1 H locs ls  hH hS (lv_sub hl [0] rfl)
  exact J0 s.heap [] ls hH va_S.rf hl

set_option maxHeartbeats 20000000 in
set_option maxRecDepth 100000 in
theorem m_X11_rankHere (l : Launch) (D : va_G) (cT : Nat → ClassId) (T : Nat → Option Nat) (q : Nat → Int) (hT : tokm T) (hq : qkm q) (a0 : Nat) (t0 : T a0 = some 0) : th_Met l D cT T (km q) yX11_rankHere cX11_rankHere 1 (some .int) (rmk 2 42) [.ref a0] (th_RP 0 6 (fun r => (r.toInt ≠ 0 → q 29 = 3 ∨ q 29 = 5) ∧ (3 < r.toInt → sg q (q 27) < 97) ∧ (r.toInt ≠ 3))) [] := by
  refine th_start (by decide) (Nat.le_of_ble_eq_true rfl) ?_
  intro p e s m below meth c ls S hK hH hr hlocks hnm hl
  have hx := S.1
  have hb := S.2.1
  have hl : lv_has ls 1 [(0, .ref a0)] := hl
  have J0 : ∀ (H : Heap) (locs : List Loc) (ls : Array Slot), th_H D cT T (km q) H → va_S (th_A T []) s.heap H locs → lv_has ls 1 [(0, .ref a0)] → W p l e (rmk 2 42) s m [.ref a0].toArray below meth c H locs 0 0 (MQ below (th_Q D cT T (km q) (th_RP 0 6 (fun r => (r.toInt ≠ 0 → q 29 = 3 ∨ q 29 = 5) ∧ (3 < r.toInt → sg q (q 27) < 97) ∧ (r.toInt ≠ 3))) []) [.ref a0].toArray s 0 0 (th_A T [])) (F0 m 0 ls []) := by
    intro H locs ls hH hS hl
    refine lv_aload_n hx hb dX11_rankHere_0 rfl (lv_at hl 0 rfl) ?_
    refine lv_ldc2 (v := 6385252) hx hb S.2.2.2.1 (S.2.2.2.2 _ gm_1476) dX11_rankHere_1 ?_
    refine th_callVp (n := 1) (As := [.long 6385252]) S hK hH hS (th_A.sub (by decide)) (m_X11_isWord l D cT T q hT hq a0 t0 (6385252)) gm_1499 gm_1496 gm_1498 gm_52 gm_124 (by decide +kernel) ⟨rfl, rfl, Nat.le_of_ble_eq_true rfl, Nat.le_of_ble_eq_true rfl⟩ t0 km_0 rfl rfl hl.1 rfl (Nat.le_of_ble_eq_true rfl) dX11_rankHere_4 ⟨Nat.zero_le _, Nat.zero_le _⟩ (fun x1 H locs ix1 ox1 hH hS hF1 => ?_)
    obtain ⟨ox1_0, ox1_1⟩ := ox1
    have ox1_0 : x1.toInt ≠ 0 → q 29 = 3 ∧ q 31 = (6385252 : Int) := ox1_0
    have ox1_1 : x1.toInt = 0 → q 29 ≠ 3 ∨ q 31 ≠ (6385252 : Int) := ox1_1
    refine lv_if_eq (tgt := 12) hx hb dX11_rankHere_7 (by decide) (fun c2 => ?_) (fun c2 => ?_)
    · skip
      have rlc2 : x1.toInt = (0 : Int) := congrArg Int32.toInt c2
      clear ox1_0
      clear ox1_1
      have ir3 : IV x1 0 0 := iv_eL c2 (iv_c (by decide) : IV 0 0 0)
      have ir3a := ir3.1; have ir3b := ir3.2
      refine lv_aload_n hx hb dX11_rankHere_12 rfl (lv_at hl 0 rfl) ?_
      refine lv_ldc2 (v := 28530) hx hb S.2.2.2.1 (S.2.2.2.2 _ gm_1475) dX11_rankHere_13 ?_
      refine th_callVp (n := 1) (As := [.long 28530]) S hK hH hS (th_A.sub (by decide)) (m_X11_isWord l D cT T q hT hq a0 t0 (28530)) gm_1499 gm_1496 gm_1498 gm_52 gm_124 (by decide +kernel) ⟨rfl, rfl, Nat.le_of_ble_eq_true rfl, Nat.le_of_ble_eq_true rfl⟩ t0 km_0 rfl rfl hl.1 rfl (Nat.le_of_ble_eq_true rfl) dX11_rankHere_16 ⟨Nat.zero_le _, Nat.zero_le _⟩ (fun x4 H locs ix4 ox4 hH hS hF1 => ?_)
      obtain ⟨ox4_0, ox4_1⟩ := ox4
      have ox4_0 : x4.toInt ≠ 0 → q 29 = 3 ∧ q 31 = (28530 : Int) := ox4_0
      have ox4_1 : x4.toInt = 0 → q 29 ≠ 3 ∨ q 31 ≠ (28530 : Int) := ox4_1
      refine lv_if_eq (tgt := 24) hx hb dX11_rankHere_19 (by decide) (fun c5 => ?_) (fun c5 => ?_)
      · skip
        have rlc5 : x4.toInt = (0 : Int) := congrArg Int32.toInt c5
        clear ox4_0
        clear ox4_1
        have ir6 : IV x4 0 0 := iv_eL c5 (iv_c (by decide) : IV 0 0 0)
        have ir6a := ir6.1; have ir6b := ir6.2
        refine lv_aload_n hx hb dX11_rankHere_24 rfl (lv_at hl 0 rfl) ?_
        refine lv_bipush (v := 60) hx hb dX11_rankHere_25 (by decide) ?_
        refine th_callVp (n := 1) (As := [.int 60]) S hK hH hS (th_A.sub (by decide)) (m_X11_isSignHere l D cT T q hT hq a0 t0 (60) (iv_top _)) gm_1563 gm_1560 gm_1562 gm_68 gm_124 (by decide +kernel) ⟨rfl, rfl, Nat.le_of_ble_eq_true rfl, Nat.le_of_ble_eq_true rfl⟩ t0 km_0 rfl rfl hl.1 rfl (Nat.le_of_ble_eq_true rfl) dX11_rankHere_27 ⟨Nat.zero_le _, Nat.zero_le _⟩ (fun x7 H locs ix7 ox7 hH hS hF1 => ?_)
        have ox7 : x7.toInt ≠ 0 → q 29 = 5 ∧ sg q (q 27) = (60 : Int) := ox7
        refine lv_if_ne (tgt := 51) hx hb dX11_rankHere_30 (by decide) (fun c8 => ?_) (fun c8 => ?_)
        · skip
          have rlc8 : x7.toInt ≠ (0 : Int) := iv_ne c8
          have ox7r := ox7 rlc8
          clear ox7
          have ir9 : IV x7 1 1 := iv_cutL ix7 (iv_c (by decide) : IV 0 0 0) c8 (by decide)
          have ir9a := ir9.1; have ir9b := ir9.2
          clear rlc8
          refine lv_iconst (v := 4) hx hb dX11_rankHere_51 (by decide) ?_
          exact th_iret S hK hH hS hr hlocks (th_RP.i (iv_w (iv_c (by decide) : IV 4 4 4) (by decide)) ⟨(show (4 : Int) ≠ 0 → q 29 = 3 ∨ q 29 = 5 by first | assumption | (first | omega | (intro z; omega))), (show 3 < (4 : Int) → sg q (q 27) < 97 by first | assumption | (first | omega | (intro z; omega))), (show (4 : Int) ≠ 3 by first | assumption | (first | omega | (intro z; omega)))⟩) dX11_rankHere_52
        · skip
          have rlc8 : x7.toInt = (0 : Int) := congrArg Int32.toInt c8
          clear ox7
          have ir10 : IV x7 0 0 := iv_eL c8 (iv_c (by decide) : IV 0 0 0)
          have ir10a := ir10.1; have ir10b := ir10.2
          refine lv_aload_n hx hb dX11_rankHere_33 rfl (lv_at hl 0 rfl) ?_
          refine lv_bipush (v := 62) hx hb dX11_rankHere_34 (by decide) ?_
          refine th_callVp (n := 1) (As := [.int 62]) S hK hH hS (th_A.sub (by decide)) (m_X11_isSignHere l D cT T q hT hq a0 t0 (62) (iv_top _)) gm_1563 gm_1560 gm_1562 gm_68 gm_124 (by decide +kernel) ⟨rfl, rfl, Nat.le_of_ble_eq_true rfl, Nat.le_of_ble_eq_true rfl⟩ t0 km_0 rfl rfl hl.1 rfl (Nat.le_of_ble_eq_true rfl) dX11_rankHere_36 ⟨Nat.zero_le _, Nat.zero_le _⟩ (fun x11 H locs ix11 ox11 hH hS hF1 => ?_)
          have ox11 : x11.toInt ≠ 0 → q 29 = 5 ∧ sg q (q 27) = (62 : Int) := ox11
          refine lv_if_ne (tgt := 51) hx hb dX11_rankHere_39 (by decide) (fun c12 => ?_) (fun c12 => ?_)
          · skip
            have rlc12 : x11.toInt ≠ (0 : Int) := iv_ne c12
            have ox11r := ox11 rlc12
            clear ox11
            have ir13 : IV x11 1 1 := iv_cutL ix11 (iv_c (by decide) : IV 0 0 0) c12 (by decide)
            have ir13a := ir13.1; have ir13b := ir13.2
            clear rlc12
            refine lv_iconst (v := 4) hx hb dX11_rankHere_51 (by decide) ?_
            exact th_iret S hK hH hS hr hlocks (th_RP.i (iv_w (iv_c (by decide) : IV 4 4 4) (by decide)) ⟨(show (4 : Int) ≠ 0 → q 29 = 3 ∨ q 29 = 5 by first | assumption | (first | omega | (intro z; omega))), (show 3 < (4 : Int) → sg q (q 27) < 97 by first | assumption | (first | omega | (intro z; omega))), (show (4 : Int) ≠ 3 by first | assumption | (first | omega | (intro z; omega)))⟩) dX11_rankHere_52
          · skip
            have rlc12 : x11.toInt = (0 : Int) := congrArg Int32.toInt c12
            clear ox11
            have ir14 : IV x11 0 0 := iv_eL c12 (iv_c (by decide) : IV 0 0 0)
            have ir14a := ir14.1; have ir14b := ir14.2
            refine lv_aload_n hx hb dX11_rankHere_42 rfl (lv_at hl 0 rfl) ?_
            refine lv_bipush (v := 61) hx hb dX11_rankHere_43 (by decide) ?_
            refine th_callVp (n := 1) (As := [.int 61]) S hK hH hS (th_A.sub (by decide)) (m_X11_isSignHere l D cT T q hT hq a0 t0 (61) (iv_top _)) gm_1563 gm_1560 gm_1562 gm_68 gm_124 (by decide +kernel) ⟨rfl, rfl, Nat.le_of_ble_eq_true rfl, Nat.le_of_ble_eq_true rfl⟩ t0 km_0 rfl rfl hl.1 rfl (Nat.le_of_ble_eq_true rfl) dX11_rankHere_45 ⟨Nat.zero_le _, Nat.zero_le _⟩ (fun x15 H locs ix15 ox15 hH hS hF1 => ?_)
            have ox15 : x15.toInt ≠ 0 → q 29 = 5 ∧ sg q (q 27) = (61 : Int) := ox15
            refine lv_if_eq (tgt := 53) hx hb dX11_rankHere_48 (by decide) (fun c16 => ?_) (fun c16 => ?_)
            · skip
              have rlc16 : x15.toInt = (0 : Int) := congrArg Int32.toInt c16
              clear ox15
              have ir17 : IV x15 0 0 := iv_eL c16 (iv_c (by decide) : IV 0 0 0)
              have ir17a := ir17.1; have ir17b := ir17.2
              refine lv_aload_n hx hb dX11_rankHere_53 rfl (lv_at hl 0 rfl) ?_
              refine lv_bipush (v := 43) hx hb dX11_rankHere_54 (by decide) ?_
              refine th_callVp (n := 1) (As := [.int 43]) S hK hH hS (th_A.sub (by decide)) (m_X11_isSignHere l D cT T q hT hq a0 t0 (43) (iv_top _)) gm_1563 gm_1560 gm_1562 gm_68 gm_124 (by decide +kernel) ⟨rfl, rfl, Nat.le_of_ble_eq_true rfl, Nat.le_of_ble_eq_true rfl⟩ t0 km_0 rfl rfl hl.1 rfl (Nat.le_of_ble_eq_true rfl) dX11_rankHere_56 ⟨Nat.zero_le _, Nat.zero_le _⟩ (fun x18 H locs ix18 ox18 hH hS hF1 => ?_)
              have ox18 : x18.toInt ≠ 0 → q 29 = 5 ∧ sg q (q 27) = (43 : Int) := ox18
              refine lv_if_ne (tgt := 71) hx hb dX11_rankHere_59 (by decide) (fun c19 => ?_) (fun c19 => ?_)
              · skip
                have rlc19 : x18.toInt ≠ (0 : Int) := iv_ne c19
                have ox18r := ox18 rlc19
                clear ox18
                have ir20 : IV x18 1 1 := iv_cutL ix18 (iv_c (by decide) : IV 0 0 0) c19 (by decide)
                have ir20a := ir20.1; have ir20b := ir20.2
                clear rlc19
                refine lv_iconst (v := 5) hx hb dX11_rankHere_71 (by decide) ?_
                exact th_iret S hK hH hS hr hlocks (th_RP.i (iv_w (iv_c (by decide) : IV 5 5 5) (by decide)) ⟨(show (5 : Int) ≠ 0 → q 29 = 3 ∨ q 29 = 5 by first | assumption | (first | omega | (intro z; omega))), (show 3 < (5 : Int) → sg q (q 27) < 97 by first | assumption | (first | omega | (intro z; omega))), (show (5 : Int) ≠ 3 by first | assumption | (first | omega | (intro z; omega)))⟩) dX11_rankHere_72
              · skip
                have rlc19 : x18.toInt = (0 : Int) := congrArg Int32.toInt c19
                clear ox18
                have ir21 : IV x18 0 0 := iv_eL c19 (iv_c (by decide) : IV 0 0 0)
                have ir21a := ir21.1; have ir21b := ir21.2
                refine lv_aload_n hx hb dX11_rankHere_62 rfl (lv_at hl 0 rfl) ?_
                refine lv_bipush (v := 45) hx hb dX11_rankHere_63 (by decide) ?_
                refine th_callVp (n := 1) (As := [.int 45]) S hK hH hS (th_A.sub (by decide)) (m_X11_isSignHere l D cT T q hT hq a0 t0 (45) (iv_top _)) gm_1563 gm_1560 gm_1562 gm_68 gm_124 (by decide +kernel) ⟨rfl, rfl, Nat.le_of_ble_eq_true rfl, Nat.le_of_ble_eq_true rfl⟩ t0 km_0 rfl rfl hl.1 rfl (Nat.le_of_ble_eq_true rfl) dX11_rankHere_65 ⟨Nat.zero_le _, Nat.zero_le _⟩ (fun x22 H locs ix22 ox22 hH hS hF1 => ?_)
                have ox22 : x22.toInt ≠ 0 → q 29 = 5 ∧ sg q (q 27) = (45 : Int) := ox22
                refine lv_if_eq (tgt := 73) hx hb dX11_rankHere_68 (by decide) (fun c23 => ?_) (fun c23 => ?_)
                · skip
                  have rlc23 : x22.toInt = (0 : Int) := congrArg Int32.toInt c23
                  clear ox22
                  have ir24 : IV x22 0 0 := iv_eL c23 (iv_c (by decide) : IV 0 0 0)
                  have ir24a := ir24.1; have ir24b := ir24.2
                  refine lv_aload_n hx hb dX11_rankHere_73 rfl (lv_at hl 0 rfl) ?_
                  refine lv_bipush (v := 42) hx hb dX11_rankHere_74 (by decide) ?_
                  refine th_callVp (n := 1) (As := [.int 42]) S hK hH hS (th_A.sub (by decide)) (m_X11_isSignHere l D cT T q hT hq a0 t0 (42) (iv_top _)) gm_1563 gm_1560 gm_1562 gm_68 gm_124 (by decide +kernel) ⟨rfl, rfl, Nat.le_of_ble_eq_true rfl, Nat.le_of_ble_eq_true rfl⟩ t0 km_0 rfl rfl hl.1 rfl (Nat.le_of_ble_eq_true rfl) dX11_rankHere_76 ⟨Nat.zero_le _, Nat.zero_le _⟩ (fun x25 H locs ix25 ox25 hH hS hF1 => ?_)
                  have ox25 : x25.toInt ≠ 0 → q 29 = 5 ∧ sg q (q 27) = (42 : Int) := ox25
                  refine lv_if_ne (tgt := 100) hx hb dX11_rankHere_79 (by decide) (fun c26 => ?_) (fun c26 => ?_)
                  · skip
                    have rlc26 : x25.toInt ≠ (0 : Int) := iv_ne c26
                    have ox25r := ox25 rlc26
                    clear ox25
                    have ir27 : IV x25 1 1 := iv_cutL ix25 (iv_c (by decide) : IV 0 0 0) c26 (by decide)
                    have ir27a := ir27.1; have ir27b := ir27.2
                    clear rlc26
                    refine lv_bipush (v := 6) hx hb dX11_rankHere_100 (by decide) ?_
                    refine lv_goto (tgt := 106) hx hb dX11_rankHere_102 (by decide) ?_
                    exact th_iret S hK hH hS hr hlocks (th_RP.i (iv_w (iv_c (by decide) : IV 6 6 6) (by decide)) ⟨(show (6 : Int) ≠ 0 → q 29 = 3 ∨ q 29 = 5 by first | assumption | (first | omega | (intro z; omega))), (show 3 < (6 : Int) → sg q (q 27) < 97 by first | assumption | (first | omega | (intro z; omega))), (show (6 : Int) ≠ 3 by first | assumption | (first | omega | (intro z; omega)))⟩) dX11_rankHere_106
                  · skip
                    have rlc26 : x25.toInt = (0 : Int) := congrArg Int32.toInt c26
                    clear ox25
                    have ir28 : IV x25 0 0 := iv_eL c26 (iv_c (by decide) : IV 0 0 0)
                    have ir28a := ir28.1; have ir28b := ir28.2
                    refine lv_aload_n hx hb dX11_rankHere_82 rfl (lv_at hl 0 rfl) ?_
                    refine lv_bipush (v := 47) hx hb dX11_rankHere_83 (by decide) ?_
                    refine th_callVp (n := 1) (As := [.int 47]) S hK hH hS (th_A.sub (by decide)) (m_X11_isSignHere l D cT T q hT hq a0 t0 (47) (iv_top _)) gm_1563 gm_1560 gm_1562 gm_68 gm_124 (by decide +kernel) ⟨rfl, rfl, Nat.le_of_ble_eq_true rfl, Nat.le_of_ble_eq_true rfl⟩ t0 km_0 rfl rfl hl.1 rfl (Nat.le_of_ble_eq_true rfl) dX11_rankHere_85 ⟨Nat.zero_le _, Nat.zero_le _⟩ (fun x29 H locs ix29 ox29 hH hS hF1 => ?_)
                    have ox29 : x29.toInt ≠ 0 → q 29 = 5 ∧ sg q (q 27) = (47 : Int) := ox29
                    refine lv_if_ne (tgt := 100) hx hb dX11_rankHere_88 (by decide) (fun c30 => ?_) (fun c30 => ?_)
                    · skip
                      have rlc30 : x29.toInt ≠ (0 : Int) := iv_ne c30
                      have ox29r := ox29 rlc30
                      clear ox29
                      have ir31 : IV x29 1 1 := iv_cutL ix29 (iv_c (by decide) : IV 0 0 0) c30 (by decide)
                      have ir31a := ir31.1; have ir31b := ir31.2
                      clear rlc30
                      refine lv_bipush (v := 6) hx hb dX11_rankHere_100 (by decide) ?_
                      refine lv_goto (tgt := 106) hx hb dX11_rankHere_102 (by decide) ?_
                      exact th_iret S hK hH hS hr hlocks (th_RP.i (iv_w (iv_c (by decide) : IV 6 6 6) (by decide)) ⟨(show (6 : Int) ≠ 0 → q 29 = 3 ∨ q 29 = 5 by first | assumption | (first | omega | (intro z; omega))), (show 3 < (6 : Int) → sg q (q 27) < 97 by first | assumption | (first | omega | (intro z; omega))), (show (6 : Int) ≠ 3 by first | assumption | (first | omega | (intro z; omega)))⟩) dX11_rankHere_106
                    · skip
                      have rlc30 : x29.toInt = (0 : Int) := congrArg Int32.toInt c30
                      clear ox29
                      have ir32 : IV x29 0 0 := iv_eL c30 (iv_c (by decide) : IV 0 0 0)
                      have ir32a := ir32.1; have ir32b := ir32.2
                      refine lv_aload_n hx hb dX11_rankHere_91 rfl (lv_at hl 0 rfl) ?_
                      refine lv_bipush (v := 37) hx hb dX11_rankHere_92 (by decide) ?_
                      refine th_callVp (n := 1) (As := [.int 37]) S hK hH hS (th_A.sub (by decide)) (m_X11_isSignHere l D cT T q hT hq a0 t0 (37) (iv_top _)) gm_1563 gm_1560 gm_1562 gm_68 gm_124 (by decide +kernel) ⟨rfl, rfl, Nat.le_of_ble_eq_true rfl, Nat.le_of_ble_eq_true rfl⟩ t0 km_0 rfl rfl hl.1 rfl (Nat.le_of_ble_eq_true rfl) dX11_rankHere_94 ⟨Nat.zero_le _, Nat.zero_le _⟩ (fun x33 H locs ix33 ox33 hH hS hF1 => ?_)
                      have ox33 : x33.toInt ≠ 0 → q 29 = 5 ∧ sg q (q 27) = (37 : Int) := ox33
                      refine lv_if_eq (tgt := 105) hx hb dX11_rankHere_97 (by decide) (fun c34 => ?_) (fun c34 => ?_)
                      · skip
                        have rlc34 : x33.toInt = (0 : Int) := congrArg Int32.toInt c34
                        clear ox33
                        have ir35 : IV x33 0 0 := iv_eL c34 (iv_c (by decide) : IV 0 0 0)
                        have ir35a := ir35.1; have ir35b := ir35.2
                        refine lv_iconst (v := 0) hx hb dX11_rankHere_105 (by decide) ?_
                        exact th_iret S hK hH hS hr hlocks (th_RP.i (iv_w (iv_c (by decide) : IV 0 0 0) (by decide)) ⟨(show (0 : Int) ≠ 0 → q 29 = 3 ∨ q 29 = 5 by first | assumption | (first | omega | (intro z; omega))), (show 3 < (0 : Int) → sg q (q 27) < 97 by first | assumption | (first | omega | (intro z; omega))), (show (0 : Int) ≠ 3 by first | assumption | (first | omega | (intro z; omega)))⟩) dX11_rankHere_106
                      · skip
                        have rlc34 : x33.toInt ≠ (0 : Int) := iv_ne c34
                        have ox33r := ox33 rlc34
                        clear ox33
                        have ir36 : IV x33 1 1 := iv_cutL ix33 (iv_c (by decide) : IV 0 0 0) c34 (by decide)
                        have ir36a := ir36.1; have ir36b := ir36.2
                        clear rlc34
                        refine lv_bipush (v := 6) hx hb dX11_rankHere_100 (by decide) ?_
                        refine lv_goto (tgt := 106) hx hb dX11_rankHere_102 (by decide) ?_
                        exact th_iret S hK hH hS hr hlocks (th_RP.i (iv_w (iv_c (by decide) : IV 6 6 6) (by decide)) ⟨(show (6 : Int) ≠ 0 → q 29 = 3 ∨ q 29 = 5 by first | assumption | (first | omega | (intro z; omega))), (show 3 < (6 : Int) → sg q (q 27) < 97 by first | assumption | (first | omega | (intro z; omega))), (show (6 : Int) ≠ 3 by first | assumption | (first | omega | (intro z; omega)))⟩) dX11_rankHere_106
                · skip
                  have rlc23 : x22.toInt ≠ (0 : Int) := iv_ne c23
                  have ox22r := ox22 rlc23
                  clear ox22
                  have ir37 : IV x22 1 1 := iv_cutL ix22 (iv_c (by decide) : IV 0 0 0) c23 (by decide)
                  have ir37a := ir37.1; have ir37b := ir37.2
                  clear rlc23
                  refine lv_iconst (v := 5) hx hb dX11_rankHere_71 (by decide) ?_
                  exact th_iret S hK hH hS hr hlocks (th_RP.i (iv_w (iv_c (by decide) : IV 5 5 5) (by decide)) ⟨(show (5 : Int) ≠ 0 → q 29 = 3 ∨ q 29 = 5 by first | assumption | (first | omega | (intro z; omega))), (show 3 < (5 : Int) → sg q (q 27) < 97 by first | assumption | (first | omega | (intro z; omega))), (show (5 : Int) ≠ 3 by first | assumption | (first | omega | (intro z; omega)))⟩) dX11_rankHere_72
            · skip
              have rlc16 : x15.toInt ≠ (0 : Int) := iv_ne c16
              have ox15r := ox15 rlc16
              clear ox15
              have ir38 : IV x15 1 1 := iv_cutL ix15 (iv_c (by decide) : IV 0 0 0) c16 (by decide)
              have ir38a := ir38.1; have ir38b := ir38.2
              clear rlc16
              refine lv_iconst (v := 4) hx hb dX11_rankHere_51 (by decide) ?_
              exact th_iret S hK hH hS hr hlocks (th_RP.i (iv_w (iv_c (by decide) : IV 4 4 4) (by decide)) ⟨(show (4 : Int) ≠ 0 → q 29 = 3 ∨ q 29 = 5 by first | assumption | (first | omega | (intro z; omega))), (show 3 < (4 : Int) → sg q (q 27) < 97 by first | assumption | (first | omega | (intro z; omega))), (show (4 : Int) ≠ 3 by first | assumption | (first | omega | (intro z; omega)))⟩) dX11_rankHere_52
      · skip
        have rlc5 : x4.toInt ≠ (0 : Int) := iv_ne c5
        have ox4_0r := ox4_0 rlc5
        clear ox4_0
        clear ox4_1
        have ir39 : IV x4 1 1 := iv_cutL ix4 (iv_c (by decide) : IV 0 0 0) c5 (by decide)
        have ir39a := ir39.1; have ir39b := ir39.2
        clear rlc5
        refine lv_iconst (v := 1) hx hb dX11_rankHere_22 (by decide) ?_
        exact th_iret S hK hH hS hr hlocks (th_RP.i (iv_w (iv_c (by decide) : IV 1 1 1) (by decide)) ⟨(show (1 : Int) ≠ 0 → q 29 = 3 ∨ q 29 = 5 by first | assumption | (first | omega | (intro z; omega))), (show 3 < (1 : Int) → sg q (q 27) < 97 by first | assumption | (first | omega | (intro z; omega))), (show (1 : Int) ≠ 3 by first | assumption | (first | omega | (intro z; omega)))⟩) dX11_rankHere_23
    · skip
      have rlc2 : x1.toInt ≠ (0 : Int) := iv_ne c2
      have ox1_0r := ox1_0 rlc2
      clear ox1_0
      clear ox1_1
      have ir40 : IV x1 1 1 := iv_cutL ix1 (iv_c (by decide) : IV 0 0 0) c2 (by decide)
      have ir40a := ir40.1; have ir40b := ir40.2
      clear rlc2
      refine lv_iconst (v := 2) hx hb dX11_rankHere_10 (by decide) ?_
      exact th_iret S hK hH hS hr hlocks (th_RP.i (iv_w (iv_c (by decide) : IV 2 2 2) (by decide)) ⟨(show (2 : Int) ≠ 0 → q 29 = 3 ∨ q 29 = 5 by first | assumption | (first | omega | (intro z; omega))), (show 3 < (2 : Int) → sg q (q 27) < 97 by first | assumption | (first | omega | (intro z; omega))), (show (2 : Int) ≠ 3 by first | assumption | (first | omega | (intro z; omega)))⟩) dX11_rankHere_11
  exact J0 s.heap [] ls hH va_S.rf hl
