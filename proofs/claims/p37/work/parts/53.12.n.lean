theorem dX11_foodHere_0 : decode cX11_foodHere 0 = .ok (.aload_n 0, 1) := by decide +kernel
theorem dX11_foodHere_1 : decode cX11_foodHere 1 = .ok (.aload_n 0, 1) := by decide +kernel
theorem dX11_foodHere_2 : decode cX11_foodHere 2 = .ok (.getfield 88, 3) := by decide +kernel
theorem dX11_foodHere_5 : decode cX11_foodHere 5 = .ok (.iconst 3, 1) := by decide +kernel
theorem dX11_foodHere_6 : decode cX11_foodHere 6 = .ok (.aload_n 0, 1) := by decide +kernel
theorem dX11_foodHere_7 : decode cX11_foodHere 7 = .ok (.getfield 264, 3) := by decide +kernel
theorem dX11_foodHere_10 : decode cX11_foodHere 10 = .ok (.imul, 1) := by decide +kernel
theorem dX11_foodHere_11 : decode cX11_foodHere 11 = .ok (.aload_n 0, 1) := by decide +kernel
theorem dX11_foodHere_12 : decode cX11_foodHere 12 = .ok (.getfield 20, 3) := by decide +kernel
theorem dX11_foodHere_15 : decode cX11_foodHere 15 = .ok (.aload_n 0, 1) := by decide +kernel
theorem dX11_foodHere_16 : decode cX11_foodHere 16 = .ok (.getfield 264, 3) := by decide +kernel
theorem dX11_foodHere_19 : decode cX11_foodHere 19 = .ok (.iaload, 1) := by decide +kernel
theorem dX11_foodHere_20 : decode cX11_foodHere 20 = .ok (.invokevirtual 304, 3) := by decide +kernel
theorem dX11_foodHere_23 : decode cX11_foodHere 23 = .ok (.ireturn, 1) := by decide +kernel
theorem dX11_fresh_0 : decode cX11_fresh 0 = .ok (.aload_n 0, 1) := by decide +kernel
theorem dX11_fresh_1 : decode cX11_fresh 1 = .ok (.invokevirtual 243, 3) := by decide +kernel
theorem dX11_fresh_4 : decode cX11_fresh 4 = .ok (.ifCond .ne 5, 3) := by decide +kernel
theorem dX11_fresh_7 : decode cX11_fresh 7 = .ok (.lconst 0, 1) := by decide +kernel
theorem dX11_fresh_8 : decode cX11_fresh 8 = .ok (.lreturn, 1) := by decide +kernel
theorem dX11_fresh_9 : decode cX11_fresh 9 = .ok (.aload_n 0, 1) := by decide +kernel
theorem dX11_fresh_10 : decode cX11_fresh 10 = .ok (.getfield 215, 3) := by decide +kernel
theorem dX11_fresh_13 : decode cX11_fresh 13 = .ok (.iconst 2, 1) := by decide +kernel
theorem dX11_fresh_14 : decode cX11_fresh 14 = .ok (.if_icmp .eq 10, 3) := by decide +kernel
theorem dX11_fresh_17 : decode cX11_fresh 17 = .ok (.aload_n 0, 1) := by decide +kernel
theorem dX11_fresh_18 : decode cX11_fresh 18 = .ok (.invokevirtual 250, 3) := by decide +kernel
theorem dX11_fresh_21 : decode cX11_fresh 21 = .ok (.goto 16, 3) := by decide +kernel
theorem dX11_fresh_24 : decode cX11_fresh 24 = .ok (.iload_n 1, 1) := by decide +kernel
theorem dX11_fresh_25 : decode cX11_fresh 25 = .ok (.ifCond .lt 12, 3) := by decide +kernel
theorem dX11_fresh_28 : decode cX11_fresh 28 = .ok (.aload_n 0, 1) := by decide +kernel
theorem dX11_fresh_29 : decode cX11_fresh 29 = .ok (.iconst 3, 1) := by decide +kernel
theorem dX11_fresh_30 : decode cX11_fresh 30 = .ok (.aload_n 0, 1) := by decide +kernel
theorem dX11_fresh_31 : decode cX11_fresh 31 = .ok (.getfield 208, 3) := by decide +kernel
theorem dX11_fresh_34 : decode cX11_fresh 34 = .ok (.invokevirtual 239, 3) := by decide +kernel
theorem dX11_fresh_37 : decode cX11_fresh 37 = .ok (.aload_n 0, 1) := by decide +kernel
theorem dX11_fresh_38 : decode cX11_fresh 38 = .ok (.getfield 222, 3) := by decide +kernel
theorem dX11_fresh_41 : decode cX11_fresh 41 = .ok (.lstore_n 2, 1) := by decide +kernel
theorem dX11_fresh_42 : decode cX11_fresh 42 = .ok (.aload_n 0, 1) := by decide +kernel
theorem dX11_fresh_43 : decode cX11_fresh 43 = .ok (.invokevirtual 243, 3) := by decide +kernel
theorem dX11_fresh_46 : decode cX11_fresh 46 = .ok (.ifCond .eq 7, 3) := by decide +kernel
theorem dX11_fresh_49 : decode cX11_fresh 49 = .ok (.aload_n 0, 1) := by decide +kernel
theorem dX11_fresh_50 : decode cX11_fresh 50 = .ok (.invokevirtual 247, 3) := by decide +kernel
theorem dX11_fresh_53 : decode cX11_fresh 53 = .ok (.lload_n 2, 1) := by decide +kernel
theorem dX11_fresh_54 : decode cX11_fresh 54 = .ok (.lreturn, 1) := by decide +kernel
set_option maxHeartbeats 20000000 in
set_option maxRecDepth 100000 in
theorem J3_X11_here_v2 (l : Launch) (D : va_G) (cT : Nat → ClassId) (T : Nat → Option Nat) (q : Nat → Int) (hT : tokm T) (hq : qkm q) (a0 : Nat) (t0 : T a0 = some 0) (a1 : Nat) (t1 : T a1 = some 27) (y2 : Int32) (j2 : IV y2 0 8) (y3 : Int32) (j3 : IV y3 0 8) (p : Program) (e : Env) (s : State) (m : MethodId) (below : List Frame) (meth : Method) (c : Code) (S : CallFix p m c cX11_here 5 s [.ref a0, .ref a1, .int y2, .int y3].toArray gw yX11_here.cls) (hK : va_K D classes (th_tys cT) s) (hr : meth.sig.returnType = (some .int)) (hlocks : meth.locks = false) : ∀ (n : Nat) (H : Heap) (locs : List Loc) (ls : Array Slot) (v3_4 : Int32), IV v3_4 0 8 → th_H D cT T (km q) H → va_S (th_A T []) s.heap H locs → lv_has ls 5 [(0, .ref a0), (1, .ref a1), (2, .int y2), (3, .int y3), (4, .int v3_4)] → (8 + 1 - Int32.toInt v3_4).toNat < n → W p l e (rmk 0 0) s m [.ref a0, .ref a1, .int y2, .int y3].toArray below meth c H locs 0 0 (MQ below (th_Q D cT T (km q) (th_R T (some (.inl (-1, 7)))) []) [.ref a0, .ref a1, .int y2, .int y3].toArray s 0 0 (th_A T [])) (F0 m 3 ls []) := by
    have hx := S.1
    have hb := S.2.1
    have l1y2 := j2.1; have l2y2 := j2.2
    have l1y3 := j3.1; have l2y3 := j3.2
    intro n
    induction n with
    | zero => intro H locs ls v3_4 iv3_4 hH hS hl hn; exact absurd hn (Nat.not_lt_zero _)
    | succ n ih3 =>
      intro H locs ls v3_4 iv3_4 hH hS hl hn3
      have J34 : ∀ (H : Heap) (locs : List Loc) (ls : Array Slot), IV v3_4 0 7 → IV y3 1 8 → th_H D cT T (km q) H → va_S (th_A T []) s.heap H locs → lv_has ls 5 [(0, .ref a0), (1, .ref a1), (2, .int y2), (3, .int y3), (4, .int v3_4)] → W p l e (rmk 0 0) s m [.ref a0, .ref a1, .int y2, .int y3].toArray below meth c H locs 0 0 (MQ below (th_Q D cT T (km q) (th_R T (some (.inl (-1, 7)))) []) [.ref a0, .ref a1, .int y2, .int y3].toArray s 0 0 (th_A T [])) (F0 m 34 ls []) := by
        intro H locs ls f34_v3_4 f34_y3 hH hS hl
        refine th_iinc S dX11_here_34 hl (k := 4) rfl (by decide) f34_v3_4 (by decide) (fun x1 ls ex1 ix1 hl => ?_)
        have hl : lv_has ls 5 [(4, .int x1), (0, .ref a0), (1, .ref a1), (2, .int y2), (3, .int y3)] := hl
        have ix1 : IV x1 1 8 := ix1
        refine lv_goto (tgt := 3) hx hb dX11_here_37 (by decide) ?_
        exact ih3 H locs ls x1 (iv_w ix1 (by decide)) hH hS (lv_sub hl [1, 2, 3, 4, 0] rfl) (th_up iv3_4 ex1 (by decide) hn3)
      have l1v3_4 := iv3_4.1; have l2v3_4 := iv3_4.2
      refine lv_iload hx hb dX11_here_3 (lv_at hl 4 rfl) ?_
      refine lv_iload_n hx hb dX11_here_5 rfl (lv_at hl 3 rfl) ?_
      refine lv_icmp_ge (tgt := 40) hx hb dX11_here_6 (by decide) (fun c2 => ?_) (fun c2 => ?_)
      · skip
        have rlc2 : y3.toInt ≤ v3_4.toInt := iv_le c2
        refine lv_iconst (v := (-1)) hx hb dX11_here_40 (by decide) ?_
        exact th_iret S hK hH hS hr hlocks (th_R.i (iv_w (iv_c (by decide) : IV (-1) (-1) (-1)) (by decide))) dX11_here_41
      · skip
        have rlc2 : v3_4.toInt < y3.toInt := iv_nle c2
        have ir3 : IV v3_4 0 7 := iv_uL iv3_4 j3 (iv_nle c2) (by decide)
        have ir3a := ir3.1; have ir3b := ir3.2
        have ir4 : IV y3 1 8 := iv_uR iv3_4 j3 (iv_nle c2) (by decide)
        have ir4a := ir4.1; have ir4b := ir4.2
        refine lv_aload_n hx hb dX11_here_9 rfl (lv_at hl 0 rfl) ?_
        refine th_get S hK hH inG11 t0 km_0 rfl 8 (by decide) gm_1238 rfl rfl dX11_here_10 (fun v5 hv5 fv5 => ?_)
        obtain ⟨x6, rfl, ix6⟩ := th_V.int hv5
        have kx6a : q 29 ≤ x6.toInt := ix6.1
        have kx6b : x6.toInt ≤ q 29 := ix6.2
        have ix6 : IV x6 0 5 := iv_w ix6 (qkm_29 hq)
        refine lv_iconst (v := 2) hx hb dX11_here_13 (by decide) ?_
        refine lv_icmp_ne (tgt := 34) hx hb dX11_here_14 (by decide) (fun c7 => ?_) (fun c7 => ?_)
        · skip
          have rlc7 : x6.toInt ≠ (2 : Int) := iv_ne c7
          clear rlc7
          exact J34 H locs ls ir3 ir4 hH hS (lv_sub hl [0, 1, 2, 3, 4] rfl)
        · skip
          have rlc7 : x6.toInt = (2 : Int) := congrArg Int32.toInt c7
          have ir8 : IV x6 2 2 := iv_eL c7 (iv_c (by decide) : IV 2 2 2)
          have ir8a := ir8.1; have ir8b := ir8.2
          refine lv_aload_n hx hb dX11_here_17 rfl (lv_at hl 1 rfl) ?_
          refine lv_iload_n hx hb dX11_here_18 rfl (lv_at hl 2 rfl) ?_
          refine lv_iload hx hb dX11_here_19 (lv_at hl 4 rfl) ?_
          refine lv_iadd hx hb dX11_here_21 ?_
          refine lv_topi (fun x9 ex9 => ?_)
          have ix9 : IV x9 0 15 := by rw [ex9]; exact iv_add j2 ir3 (by decide)
          have ux9 : x9.toInt = y2.toInt + v3_4.toInt := by rw [ex9]; exact iv_addE (by have z1 := (j2).1; have z2 := (j2).2; have z3 := (ir3).1; have z4 := (ir3).2; omega)
          refine th_lald S hK hH t1 km_27 (th_in (hi := 15) ix9 (by decide)) dX11_here_22 (fun v10 hv10 => ?_)
          obtain ⟨lg11, rfl⟩ := th_V.long hv10
          refine lv_aload_n hx hb dX11_here_23 rfl (lv_at hl 0 rfl) ?_
          refine th_getM S hK hH inG11 t0 km_0 rfl 10 (by decide) gm_1240 rfl rfl dX11_here_24 (fun v12 hv12 wv12 => ?_)
          obtain ⟨lg13, rfl⟩ := th_V.long hv12
          have klg13 : lg13.toInt = q 31 := by obtain ⟨vs, z1, z2⟩ := wv12; exact z2 _ z1
          refine W.lcmp hx hb dX11_here_27 ?_
          refine lv_topi (fun x14 ex14 => ?_)
          have ix14 := iv_top x14
          have ax14 : x14.toInt = 0 → lg11.toInt = lg13.toInt := lc_eq ex14
          have bx14 : x14.toInt ≠ 0 → lg11.toInt ≠ lg13.toInt := lc_ne ex14
          refine lv_if_ne (tgt := 34) hx hb dX11_here_28 (by decide) (fun c15 => ?_) (fun c15 => ?_)
          · skip
            have rlc15 : x14.toInt ≠ (0 : Int) := iv_ne c15
            clear ax14
            have bx14r := bx14 rlc15
            clear bx14
            clear rlc15
            exact J34 H locs ls ir3 ir4 hH hS (lv_sub hl [0, 1, 2, 3, 4] rfl)
          · skip
            have rlc15 : x14.toInt = (0 : Int) := congrArg Int32.toInt c15
            have ax14r := ax14 rlc15
            clear ax14
            clear bx14
            have ir16 : IV x14 0 0 := iv_eL c15 (iv_c (by decide) : IV 0 0 0)
            have ir16a := ir16.1; have ir16b := ir16.2
            refine lv_iload hx hb dX11_here_31 (lv_at hl 4 rfl) ?_
            exact th_iret S hK hH hS hr hlocks (th_R.i (iv_w ir3 (by decide))) dX11_here_33

set_option maxHeartbeats 20000000 in
set_option maxRecDepth 100000 in
theorem m_X11_here_v2 (l : Launch) (D : va_G) (cT : Nat → ClassId) (T : Nat → Option Nat) (q : Nat → Int) (hT : tokm T) (hq : qkm q) (a0 : Nat) (t0 : T a0 = some 0) (a1 : Nat) (t1 : T a1 = some 27) (y2 : Int32) (j2 : IV y2 0 8) (y3 : Int32) (j3 : IV y3 0 8) : th_Met l D cT T (km q) yX11_here cX11_here 5 (some .int) (rmk 0 0) [.ref a0, .ref a1, .int y2, .int y3] (th_R T (some (.inl (-1, 7)))) [] := by
  refine th_start (by decide) (Nat.le_of_ble_eq_true rfl) ?_
  intro p e s m below meth c ls S hK hH hr hlocks hnm hl
  have hx := S.1
  have hb := S.2.1
  have l1y2 := j2.1; have l2y2 := j2.2
  have l1y3 := j3.1; have l2y3 := j3.2
  have hl : lv_has ls 5 [(0, .ref a0), (1, .ref a1), (2, .int y2), (3, .int y3)] := hl
  have J3 := J3_X11_here_v2 l D cT T q hT hq a0 t0 a1 t1 y2 j2 y3 j3 p e s m below meth c S hK hr hlocks
  have J0 : ∀ (H : Heap) (locs : List Loc) (ls : Array Slot), th_H D cT T (km q) H → va_S (th_A T []) s.heap H locs → lv_has ls 5 [(0, .ref a0), (1, .ref a1), (2, .int y2), (3, .int y3)] → W p l e (rmk 0 0) s m [.ref a0, .ref a1, .int y2, .int y3].toArray below meth c H locs 0 0 (MQ below (th_Q D cT T (km q) (th_R T (some (.inl (-1, 7)))) []) [.ref a0, .ref a1, .int y2, .int y3].toArray s 0 0 (th_A T [])) (F0 m 0 ls []) := by
    intro H locs ls hH hS hl
    refine lv_iconst (v := 0) hx hb dX11_here_0 (by decide) ?_
    refine lv_istore (lv' := [(4, .int 0), (0, .ref a0), (1, .ref a1), (2, .int y2), (3, .int y3)]) hx hb dX11_here_1 hl (by decide) rfl (fun ls hl => ?_)
    exact J3 ((8 + 1 - Int32.toInt 0).toNat + 1) H locs ls 0 (iv_w (iv_c (by decide) : IV 0 0 0) (by decide)) hH hS (lv_sub hl [1, 2, 3, 4, 0] rfl) (Nat.lt_succ_self _)
  exact J0 s.heap [] ls hH va_S.rf hl

set_option maxHeartbeats 20000000 in
set_option maxRecDepth 100000 in
theorem m_X11_foodHere (l : Launch) (D : va_G) (cT : Nat → ClassId) (T : Nat → Option Nat) (q : Nat → Int) (hT : tokm T) (hq : qkm q) (a0 : Nat) (t0 : T a0 = some 0) : th_Met l D cT T (km q) yX11_foodHere cX11_foodHere 1 (some .int) (rmk 1 24) [.ref a0] (th_R T (some (.inl (-1, 2)))) [] := by
  refine th_start (by decide) (Nat.le_of_ble_eq_true rfl) ?_
  intro p e s m below meth c ls S hK hH hr hlocks hnm hl
  have hx := S.1
  have hb := S.2.1
  have hl : lv_has ls 1 [(0, .ref a0)] := hl
  have J0 : ∀ (H : Heap) (locs : List Loc) (ls : Array Slot), th_H D cT T (km q) H → va_S (th_A T []) s.heap H locs → lv_has ls 1 [(0, .ref a0)] → W p l e (rmk 1 24) s m [.ref a0].toArray below meth c H locs 0 0 (MQ below (th_Q D cT T (km q) (th_R T (some (.inl (-1, 2)))) []) [.ref a0].toArray s 0 0 (th_A T [])) (F0 m 0 ls []) := by
    intro H locs ls hH hS hl
    refine lv_aload_n hx hb dX11_foodHere_0 rfl (lv_at hl 0 rfl) ?_
    refine lv_aload_n hx hb dX11_foodHere_1 rfl (lv_at hl 0 rfl) ?_
    refine th_get S hK hH inG11 t0 km_0 rfl 33 (by decide) gm_1263 rfl rfl dX11_foodHere_2 (fun v1 hv1 fv1 => ?_)
    obtain ⟨rf2, rfl, trf2⟩ := th_V.ref hv1
    refine lv_iconst (v := 3) hx hb dX11_foodHere_5 (by decide) ?_
    refine lv_aload_n hx hb dX11_foodHere_6 rfl (lv_at hl 0 rfl) ?_
    refine th_get S hK hH inG11 t0 km_0 rfl 42 (by decide) gm_1272 rfl rfl dX11_foodHere_7 (fun v3 hv3 fv3 => ?_)
    obtain ⟨x4, rfl, ix4⟩ := th_V.int hv3
    have kx4a : q 13 ≤ x4.toInt := ix4.1
    have kx4b : x4.toInt ≤ q 13 := ix4.2
    have ix4 : IV x4 0 1 := iv_w ix4 (qkm_13 hq)
    refine lv_imul hx hb dX11_foodHere_10 ?_
    refine lv_topi (fun x5 ex5 => ?_)
    have ix5 : IV x5 0 3 := by rw [ex5]; exact iv_mul (iv_c (by decide) : IV 3 3 3) ix4 (by decide) (by decide)
    have ux5 : x5.toInt = (3 : Int) * x4.toInt := by rw [ex5]; exact iv_mulE (iv_corner ((iv_c (by decide) : IV 3 3 3)).1 ((iv_c (by decide) : IV 3 3 3)).2 (ix4).1 (ix4).2 (by decide))
    refine lv_aload_n hx hb dX11_foodHere_11 rfl (lv_at hl 0 rfl) ?_
    refine th_get S hK hH inG11 t0 km_0 rfl 11 (by decide) gm_1241 rfl rfl dX11_foodHere_12 (fun v6 hv6 fv6 => ?_)
    obtain ⟨rf7, rfl, trf7⟩ := th_V.ref hv6
    refine lv_aload_n hx hb dX11_foodHere_15 rfl (lv_at hl 0 rfl) ?_
    refine th_get S hK hH inG11 t0 km_0 rfl 42 (by decide) gm_1272 rfl rfl dX11_foodHere_16 (fun v8 hv8 fv8 => ?_)
    obtain ⟨x9, rfl, ix9⟩ := th_V.int hv8
    have kx9a : q 13 ≤ x9.toInt := ix9.1
    have kx9b : x9.toInt ≤ q 13 := ix9.2
    have ix9 : IV x9 0 1 := iv_w ix9 (qkm_13 hq)
    refine th_iald S hK hH trf7 km_3 (th_in (hi := 1) ix9 (by decide)) dX11_foodHere_19 (fun v10 hv10 => ?_)
    obtain ⟨x11, rfl, ix11⟩ := th_bkU (lo := 0) (hi := 3) hv10 (qkm_16 hq) (qkm_17 hq)
    refine th_callVi (n := 3) (As := [.ref rf2, .int x5, .int x11]) S hK hH hS (th_A.sub (by decide)) (m_X11_here_v0 l D cT T q hT hq a0 t0 rf2 trf2 (x5) ix5 (x11) ix11) gm_1519 gm_1516 gm_1518 gm_57 gm_124 (by decide +kernel) ⟨rfl, rfl, Nat.le_of_ble_eq_true rfl, Nat.le_of_ble_eq_true rfl⟩ t0 km_0 rfl rfl hl.1 rfl (Nat.le_of_ble_eq_true rfl) dX11_foodHere_20 ⟨Nat.zero_le _, Nat.zero_le _⟩ (fun x12 H locs ix12 hH hS hF1 => ?_)
    exact th_iret S hK hH hS hr hlocks (th_R.i ix12) dX11_foodHere_23
  exact J0 s.heap [] ls hH va_S.rf hl

set_option maxHeartbeats 20000000 in
set_option maxRecDepth 100000 in
theorem J53_X11_fresh (l : Launch) (D : va_G) (cT : Nat → ClassId) (T : Nat → Option Nat) (q : Nat → Int) (hT : tokm T) (hq : qkm q) (a0 : Nat) (t0 : T a0 = some 0) (y1 : Int32) (j1 : IV y1 (-2147483648) 2147483647) (hp0 : TS q) (p : Program) (e : Env) (s : State) (m : MethodId) (below : List Frame) (meth : Method) (c : Code) (S : CallFix p m c cX11_fresh 4 s [.ref a0, .int y1].toArray gw yX11_fresh.cls) (hK : va_K D classes (th_tys cT) s) (hr : meth.sig.returnType = (some .long)) (hlocks : meth.locks = false) : ∀ (q53 : Nat → Int) (H : Heap) (locs : List Loc) (ls : Array Slot) (v53_2 : Int64), qkm q53 → fr [27, 28, 29, 30, 31] q q53 → (TS q53) → (q 27 ≤ q53 27) → (GD q q53) → th_H D cT T (km q53) H → va_S (th_A T [0]) s.heap H locs → lv_has ls 4 [(2, .long v53_2)] → W p l e (rmk 2 44) s m [.ref a0, .int y1].toArray below meth c H locs 0 0 (MQ below (th_QM D cT T (fun v q2 => (∃ r : Int64, v = some (.long r)) ∧ qkm q2 ∧ fr [27, 28, 29, 30, 31] q q2 ∧ (TS q2) ∧ (q 27 ≤ q2 27) ∧ (GD q q2)) [0]) [.ref a0, .int y1].toArray s 0 0 (th_A T [0])) (F0 m 53 ls []) := by
    have hx := S.1
    have hb := S.2.1
    have le0 := TS_le hp0
    intro q53 H locs ls v53_2 hq53 h053 v53_inv0 v53_inv1 v53_inv2 hH hS hl
    have w53_26 : q53 26 = q 26 := h053 26 (by decide) (Or.inl (by decide))
    refine lv_lload_n hx hb dX11_fresh_53 rfl (lv_at hl 0 rfl) ?_
    exact th_lretM S hK hH hS hr hlocks ⟨⟨_, rfl⟩, hq53, h053, (show TS q53 by exact v53_inv0), (show q 27 ≤ q53 27 by omega), (show GD q q53 by exact v53_inv2)⟩ dX11_fresh_54


set_option maxHeartbeats 20000000 in
set_option maxRecDepth 100000 in
theorem J37_X11_fresh (l : Launch) (D : va_G) (cT : Nat → ClassId) (T : Nat → Option Nat) (q : Nat → Int) (hT : tokm T) (hq : qkm q) (a0 : Nat) (t0 : T a0 = some 0) (y1 : Int32) (j1 : IV y1 (-2147483648) 2147483647) (hp0 : TS q) (p : Program) (e : Env) (s : State) (m : MethodId) (below : List Frame) (meth : Method) (c : Code) (S : CallFix p m c cX11_fresh 4 s [.ref a0, .int y1].toArray gw yX11_fresh.cls) (hK : va_K D classes (th_tys cT) s) (hr : meth.sig.returnType = (some .long)) (hlocks : meth.locks = false) : ∀ (q37 : Nat → Int) (H : Heap) (locs : List Loc) (ls : Array Slot), qkm q37 → fr [27, 28, 29, 30, 31] q q37 → (TS q37) → (q 27 ≤ q37 27) → (GD q q37) → th_H D cT T (km q37) H → va_S (th_A T [0]) s.heap H locs → lv_has ls 4 [(0, .ref a0)] → W p l e (rmk 2 44) s m [.ref a0, .int y1].toArray below meth c H locs 0 0 (MQ below (th_QM D cT T (fun v q2 => (∃ r : Int64, v = some (.long r)) ∧ qkm q2 ∧ fr [27, 28, 29, 30, 31] q q2 ∧ (TS q2) ∧ (q 27 ≤ q2 27) ∧ (GD q q2)) [0]) [.ref a0, .int y1].toArray s 0 0 (th_A T [0])) (F0 m 37 ls []) := by
    have hx := S.1
    have hb := S.2.1
    have le0 := TS_le hp0
    have J53 := J53_X11_fresh l D cT T q hT hq a0 t0 y1 j1 hp0 p e s m below meth c S hK hr hlocks
    intro q37 H locs ls hq37 h037 v37_inv0 v37_inv1 v37_inv2 hH hS hl
    have w37_26 : q37 26 = q 26 := h037 26 (by decide) (Or.inl (by decide))
    refine lv_aload_n hx hb dX11_fresh_37 rfl (lv_at hl 0 rfl) ?_
    refine th_getM S hK hH inG11 t0 km_0 rfl 10 (by decide) gm_1240 rfl rfl dX11_fresh_38 (fun v1 hv1 wv1 => ?_)
    obtain ⟨lg2, rfl⟩ := th_V.long hv1
    have klg2 : lg2.toInt = q37 31 := by obtain ⟨vs, z1, z2⟩ := wv1; exact z2 _ z1
    refine lv_lstore_n (lv' := [(2, .long lg2), (0, .ref a0)]) hx hb dX11_fresh_41 rfl hl (by decide) rfl (fun ls hl => ?_)
    refine lv_aload_n hx hb dX11_fresh_42 rfl (lv_at hl 1 rfl) ?_
    refine th_callVp (n := 0) (As := []) S hK hH hS (th_A.sub (by decide)) (m_X11_isGood l D cT T q37 hT hq37 a0 t0) gm_1487 gm_1484 gm_1486 gm_49 gm_124 (by decide +kernel) ⟨rfl, rfl, Nat.le_of_ble_eq_true rfl, Nat.le_of_ble_eq_true rfl⟩ t0 km_0 rfl rfl hl.1 rfl (Nat.le_of_ble_eq_true rfl) dX11_fresh_43 ⟨Nat.zero_le _, Nat.zero_le _⟩ (fun x3 H locs ix3 ox3 hH hS hF1 => ?_)
    obtain ⟨ox3_0, ox3_1⟩ := ox3
    have ox3_0 : x3.toInt ≠ 0 → q37 30 = 0 := ox3_0
    have ox3_1 : x3.toInt = 0 → 1 ≤ q37 30 := ox3_1
    have l1x3 := ix3.1; have l2x3 := ix3.2
    refine lv_if_eq (tgt := 53) hx hb dX11_fresh_46 (by decide) (fun c4 => ?_) (fun c4 => ?_)
    · skip
      have rlc4 : x3.toInt = (0 : Int) := congrArg Int32.toInt c4
      clear ox3_0
      have ox3_1r := ox3_1 rlc4
      clear ox3_1
      have ir5 : IV x3 0 0 := iv_eL c4 (iv_c (by decide) : IV 0 0 0)
      have ir5a := ir5.1; have ir5b := ir5.2
      exact J53 q37 H locs ls lg2 hq37 h037 (show TS q37 by exact v37_inv0) (show q 27 ≤ q37 27 by omega) (show GD q q37 by exact v37_inv2) hH hS (lv_sub hl [0] rfl)
    · skip
      have rlc4 : x3.toInt ≠ (0 : Int) := iv_ne c4
      have ox3_0r := ox3_0 rlc4
      clear ox3_0
      clear ox3_1
      have ir6 : IV x3 1 1 := iv_cutL ix3 (iv_c (by decide) : IV 0 0 0) c4 (by decide)
      have ir6a := ir6.1; have ir6b := ir6.2
      clear rlc4
      refine lv_aload_n hx hb dX11_fresh_49 rfl (lv_at hl 1 rfl) ?_
      have le6 := TS_le v37_inv0
      refine th_callVM (n := 0) (As := []) S hK hH hS (th_A.sub (by decide)) (m_X11_goOn l D cT T q37 hT hq37 a0 t0 (show q37 28 ≤ q37 26 by exact (TS_le v37_inv0).2)) gm_1445 gm_1442 gm_1444 gm_47 gm_124 (by decide +kernel) ⟨rfl, rfl, Nat.le_of_ble_eq_true rfl, Nat.le_of_ble_eq_true rfl⟩ t0 km_0 rfl rfl hl.1 rfl (Nat.le_of_ble_eq_true rfl) dX11_fresh_50 ⟨Nat.zero_le _, Nat.zero_le _⟩ (fun wq7 q7 H locs hEq7 hH hS hF1 => ?_)
      obtain ⟨rfl, hqq7, g0q7, pq7_0, pq7_1, pq7_2⟩ := hEq7
      show W p l e (rmk 2 44) s m [.ref a0, .int y1].toArray below meth c H locs 0 0 (MQ below (th_QM D cT T (fun v q2 => (∃ r : Int64, v = some (.long r)) ∧ qkm q2 ∧ fr [27, 28, 29, 30, 31] q q2 ∧ (TS q2) ∧ (q 27 ≤ q2 27) ∧ (GD q q2)) [0]) [.ref a0, .int y1].toArray s 0 0 (th_A T [0])) (F0 m 53 ls [])
      have pq7_0 : TS q7 := pq7_0
      have pq7_1 : q37 28 ≤ q7 27 := pq7_1
      have pq7_2 : LX q37 q7 := pq7_2
      have wq7_26 : q7 26 = q37 26 := g0q7 26 (by decide) (Or.inl (by decide))
      have wq7_30 : q7 30 = q37 30 := g0q7 30 (by decide) (Or.inl (by decide))
      have h0q7 : fr [27, 28, 29, 30, 31] q q7 := fr_tr h037 g0q7 (by decide)
      have bgq7 : bg q37 q7 := bg_fr bg_rf g0q7 (by decide)
      have gdq7 : GD q q7 := GD_tr v37_inv2 (GD_eq wq7_30)
      have gbq7 : GD q37 q7 := GD_tr (GD_eq rfl) (GD_eq wq7_30)
      exact J53 q7 H locs ls lg2 hqq7 h0q7 (show TS q7 by exact pq7_0) (show q 27 ≤ q7 27 by omega) (show GD q q7 by exact gdq7) hH hS (lv_sub hl [0] rfl)
