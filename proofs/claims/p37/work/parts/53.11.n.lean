theorem dX11_here_0 : decode cX11_here 0 = .ok (.iconst 0, 1) := by decide +kernel
theorem dX11_here_1 : decode cX11_here 1 = .ok (.istore 4, 2) := by decide +kernel
theorem dX11_here_3 : decode cX11_here 3 = .ok (.iload 4, 2) := by decide +kernel
theorem dX11_here_5 : decode cX11_here 5 = .ok (.iload_n 3, 1) := by decide +kernel
theorem dX11_here_6 : decode cX11_here 6 = .ok (.if_icmp .ge 34, 3) := by decide +kernel
theorem dX11_here_9 : decode cX11_here 9 = .ok (.aload_n 0, 1) := by decide +kernel
theorem dX11_here_10 : decode cX11_here 10 = .ok (.getfield 215, 3) := by decide +kernel
theorem dX11_here_13 : decode cX11_here 13 = .ok (.iconst 2, 1) := by decide +kernel
theorem dX11_here_14 : decode cX11_here 14 = .ok (.if_icmp .ne 20, 3) := by decide +kernel
theorem dX11_here_17 : decode cX11_here 17 = .ok (.aload_n 1, 1) := by decide +kernel
theorem dX11_here_18 : decode cX11_here 18 = .ok (.iload_n 2, 1) := by decide +kernel
theorem dX11_here_19 : decode cX11_here 19 = .ok (.iload 4, 2) := by decide +kernel
theorem dX11_here_21 : decode cX11_here 21 = .ok (.iadd, 1) := by decide +kernel
theorem dX11_here_22 : decode cX11_here 22 = .ok (.laload, 1) := by decide +kernel
theorem dX11_here_23 : decode cX11_here 23 = .ok (.aload_n 0, 1) := by decide +kernel
theorem dX11_here_24 : decode cX11_here 24 = .ok (.getfield 222, 3) := by decide +kernel
theorem dX11_here_27 : decode cX11_here 27 = .ok (.lcmp, 1) := by decide +kernel
theorem dX11_here_28 : decode cX11_here 28 = .ok (.ifCond .ne 6, 3) := by decide +kernel
theorem dX11_here_31 : decode cX11_here 31 = .ok (.iload 4, 2) := by decide +kernel
theorem dX11_here_33 : decode cX11_here 33 = .ok (.ireturn, 1) := by decide +kernel
theorem dX11_here_34 : decode cX11_here 34 = .ok (.iinc 4 1, 3) := by decide +kernel
theorem dX11_here_37 : decode cX11_here 37 = .ok (.goto (-34), 3) := by decide +kernel
theorem dX11_here_40 : decode cX11_here 40 = .ok (.iconst (-1), 1) := by decide +kernel
theorem dX11_here_41 : decode cX11_here 41 = .ok (.ireturn, 1) := by decide +kernel
set_option maxHeartbeats 20000000 in
set_option maxRecDepth 100000 in
theorem J3_X11_here_v0 (l : Launch) (D : va_G) (cT : Nat → ClassId) (T : Nat → Option Nat) (q : Nat → Int) (hT : tokm T) (hq : qkm q) (a0 : Nat) (t0 : T a0 = some 0) (a1 : Nat) (t1 : T a1 = some 25) (y2 : Int32) (j2 : IV y2 0 3) (y3 : Int32) (j3 : IV y3 0 3) (p : Program) (e : Env) (s : State) (m : MethodId) (below : List Frame) (meth : Method) (c : Code) (S : CallFix p m c cX11_here 5 s [.ref a0, .ref a1, .int y2, .int y3].toArray gw yX11_here.cls) (hK : va_K D classes (th_tys cT) s) (hr : meth.sig.returnType = (some .int)) (hlocks : meth.locks = false) : ∀ (n : Nat) (H : Heap) (locs : List Loc) (ls : Array Slot) (v3_4 : Int32), IV v3_4 0 3 → th_H D cT T (km q) H → va_S (th_A T []) s.heap H locs → lv_has ls 5 [(0, .ref a0), (1, .ref a1), (2, .int y2), (3, .int y3), (4, .int v3_4)] → (3 + 1 - Int32.toInt v3_4).toNat < n → W p l e (rmk 0 0) s m [.ref a0, .ref a1, .int y2, .int y3].toArray below meth c H locs 0 0 (MQ below (th_Q D cT T (km q) (th_R T (some (.inl (-1, 2)))) []) [.ref a0, .ref a1, .int y2, .int y3].toArray s 0 0 (th_A T [])) (F0 m 3 ls []) := by
    have hx := S.1
    have hb := S.2.1
    have l1y2 := j2.1; have l2y2 := j2.2
    have l1y3 := j3.1; have l2y3 := j3.2
    intro n
    induction n with
    | zero => intro H locs ls v3_4 iv3_4 hH hS hl hn; exact absurd hn (Nat.not_lt_zero _)
    | succ n ih3 =>
      intro H locs ls v3_4 iv3_4 hH hS hl hn3
      have J34 : ∀ (H : Heap) (locs : List Loc) (ls : Array Slot), IV v3_4 0 2 → IV y3 1 3 → th_H D cT T (km q) H → va_S (th_A T []) s.heap H locs → lv_has ls 5 [(0, .ref a0), (1, .ref a1), (2, .int y2), (3, .int y3), (4, .int v3_4)] → W p l e (rmk 0 0) s m [.ref a0, .ref a1, .int y2, .int y3].toArray below meth c H locs 0 0 (MQ below (th_Q D cT T (km q) (th_R T (some (.inl (-1, 2)))) []) [.ref a0, .ref a1, .int y2, .int y3].toArray s 0 0 (th_A T [])) (F0 m 34 ls []) := by
        intro H locs ls f34_v3_4 f34_y3 hH hS hl
        refine th_iinc S dX11_here_34 hl (k := 4) rfl (by decide) f34_v3_4 (by decide) (fun x1 ls ex1 ix1 hl => ?_)
        have hl : lv_has ls 5 [(4, .int x1), (0, .ref a0), (1, .ref a1), (2, .int y2), (3, .int y3)] := hl
        have ix1 : IV x1 1 3 := ix1
        refine lv_goto (tgt := 3) hx hb dX11_here_37 (by decide) ?_
        exact ih3 H locs ls x1 (iv_w ix1 (by decide)) hH hS (lv_sub hl [1, 2, 3, 4, 0] rfl) (th_up iv3_4 ex1 (by decide) hn3)
      have l1v3_4 := iv3_4.1; have l2v3_4 := iv3_4.2
      refine lv_iload hx hb dX11_here_3 (lv_at hl 4 rfl) ?_
      refine lv_iload_n hx hb dX11_here_5 rfl (lv_at hl 3 rfl) ?_
      refine lv_icmp_ge (tgt := 40) hx hb dX11_here_6 (by decide) (fun c2 => ?_) (fun c2 => ?_)
      · skip
        have rlc2 : y3.toInt ≤ v3_4.toInt := iv_le c2
        refine lv_iconst (v := (-1)) hx hb dX11_here_40 (by decide) ?_
        exact th_iret S hK hH hS hr hlocks (th_R.i (iv_w (iv_c (by decide) : IV (-1) (-1) (-1)) (by decide))) dX11_here_41
      · skip
        have rlc2 : v3_4.toInt < y3.toInt := iv_nle c2
        have ir3 : IV v3_4 0 2 := iv_uL iv3_4 j3 (iv_nle c2) (by decide)
        have ir3a := ir3.1; have ir3b := ir3.2
        have ir4 : IV y3 1 3 := iv_uR iv3_4 j3 (iv_nle c2) (by decide)
        have ir4a := ir4.1; have ir4b := ir4.2
        refine lv_aload_n hx hb dX11_here_9 rfl (lv_at hl 0 rfl) ?_
        refine th_get S hK hH inG11 t0 km_0 rfl 8 (by decide) gm_1238 rfl rfl dX11_here_10 (fun v5 hv5 fv5 => ?_)
        obtain ⟨x6, rfl, ix6⟩ := th_V.int hv5
        have kx6 : x6.toInt = q 29 := Int.le_antisymm ix6.2 ix6.1
        have ix6 : IV x6 0 5 := iv_w ix6 (qkm_29 hq)
        refine lv_iconst (v := 2) hx hb dX11_here_13 (by decide) ?_
        refine lv_icmp_ne (tgt := 34) hx hb dX11_here_14 (by decide) (fun c7 => ?_) (fun c7 => ?_)
        · skip
          have rlc7 : x6.toInt ≠ (2 : Int) := iv_ne c7
          clear rlc7
          exact J34 H locs ls ir3 ir4 hH hS (lv_sub hl [0, 1, 2, 3, 4] rfl)
        · skip
          have rlc7 : x6.toInt = (2 : Int) := congrArg Int32.toInt c7
          have ir8 : IV x6 2 2 := iv_eL c7 (iv_c (by decide) : IV 2 2 2)
          have ir8a := ir8.1; have ir8b := ir8.2
          refine lv_aload_n hx hb dX11_here_17 rfl (lv_at hl 1 rfl) ?_
          refine lv_iload_n hx hb dX11_here_18 rfl (lv_at hl 2 rfl) ?_
          refine lv_iload hx hb dX11_here_19 (lv_at hl 4 rfl) ?_
          refine lv_iadd hx hb dX11_here_21 ?_
          refine lv_topi (fun x9 ex9 => ?_)
          have ix9 : IV x9 0 5 := by rw [ex9]; exact iv_add j2 ir3 (by decide)
          have ux9 : x9.toInt = y2.toInt + v3_4.toInt := by rw [ex9]; exact iv_addE (by have z1 := (j2).1; have z2 := (j2).2; have z3 := (ir3).1; have z4 := (ir3).2; omega)
          refine th_lald S hK hH t1 km_25 (th_in (hi := 5) ix9 (by decide)) dX11_here_22 (fun v10 hv10 => ?_)
          obtain ⟨lg11, rfl⟩ := th_V.long hv10
          refine lv_aload_n hx hb dX11_here_23 rfl (lv_at hl 0 rfl) ?_
          refine th_getM S hK hH inG11 t0 km_0 rfl 10 (by decide) gm_1240 rfl rfl dX11_here_24 (fun v12 hv12 wv12 => ?_)
          obtain ⟨lg13, rfl⟩ := th_V.long hv12
          have klg13 : lg13.toInt = q 31 := by obtain ⟨vs, z1, z2⟩ := wv12; exact z2 _ z1
          refine W.lcmp hx hb dX11_here_27 ?_
          refine lv_topi (fun x14 ex14 => ?_)
          have ix14 := iv_top x14
          have ax14 : x14.toInt = 0 → lg11.toInt = lg13.toInt := lc_eq ex14
          have bx14 : x14.toInt ≠ 0 → lg11.toInt ≠ lg13.toInt := lc_ne ex14
          refine lv_if_ne (tgt := 34) hx hb dX11_here_28 (by decide) (fun c15 => ?_) (fun c15 => ?_)
          · skip
            have rlc15 : x14.toInt ≠ (0 : Int) := iv_ne c15
            clear ax14
            have bx14r := bx14 rlc15
            clear bx14
            clear rlc15
            exact J34 H locs ls ir3 ir4 hH hS (lv_sub hl [0, 1, 2, 3, 4] rfl)
          · skip
            have rlc15 : x14.toInt = (0 : Int) := congrArg Int32.toInt c15
            have ax14r := ax14 rlc15
            clear ax14
            clear bx14
            have ir16 : IV x14 0 0 := iv_eL c15 (iv_c (by decide) : IV 0 0 0)
            have ir16a := ir16.1; have ir16b := ir16.2
            refine lv_iload hx hb dX11_here_31 (lv_at hl 4 rfl) ?_
            exact th_iret S hK hH hS hr hlocks (th_R.i (iv_w ir3 (by decide))) dX11_here_33

set_option maxHeartbeats 20000000 in
set_option maxRecDepth 100000 in
theorem m_X11_here_v0 (l : Launch) (D : va_G) (cT : Nat → ClassId) (T : Nat → Option Nat) (q : Nat → Int) (hT : tokm T) (hq : qkm q) (a0 : Nat) (t0 : T a0 = some 0) (a1 : Nat) (t1 : T a1 = some 25) (y2 : Int32) (j2 : IV y2 0 3) (y3 : Int32) (j3 : IV y3 0 3) : th_Met l D cT T (km q) yX11_here cX11_here 5 (some .int) (rmk 0 0) [.ref a0, .ref a1, .int y2, .int y3] (th_R T (some (.inl (-1, 2)))) [] := by
  refine th_start (by decide) (Nat.le_of_ble_eq_true rfl) ?_
  intro p e s m below meth c ls S hK hH hr hlocks hnm hl
  have hx := S.1
  have hb := S.2.1
  have l1y2 := j2.1; have l2y2 := j2.2
  have l1y3 := j3.1; have l2y3 := j3.2
  have hl : lv_has ls 5 [(0, .ref a0), (1, .ref a1), (2, .int y2), (3, .int y3)] := hl
  have J3 := J3_X11_here_v0 l D cT T q hT hq a0 t0 a1 t1 y2 j2 y3 j3 p e s m below meth c S hK hr hlocks
  have J0 : ∀ (H : Heap) (locs : List Loc) (ls : Array Slot), th_H D cT T (km q) H → va_S (th_A T []) s.heap H locs → lv_has ls 5 [(0, .ref a0), (1, .ref a1), (2, .int y2), (3, .int y3)] → W p l e (rmk 0 0) s m [.ref a0, .ref a1, .int y2, .int y3].toArray below meth c H locs 0 0 (MQ below (th_Q D cT T (km q) (th_R T (some (.inl (-1, 2)))) []) [.ref a0, .ref a1, .int y2, .int y3].toArray s 0 0 (th_A T [])) (F0 m 0 ls []) := by
    intro H locs ls hH hS hl
    refine lv_iconst (v := 0) hx hb dX11_here_0 (by decide) ?_
    refine lv_istore (lv' := [(4, .int 0), (0, .ref a0), (1, .ref a1), (2, .int y2), (3, .int y3)]) hx hb dX11_here_1 hl (by decide) rfl (fun ls hl => ?_)
    exact J3 ((3 + 1 - Int32.toInt 0).toNat + 1) H locs ls 0 (iv_w (iv_c (by decide) : IV 0 0 0) (by decide)) hH hS (lv_sub hl [1, 2, 3, 4, 0] rfl) (Nat.lt_succ_self _)
  exact J0 s.heap [] ls hH va_S.rf hl

set_option maxHeartbeats 20000000 in
set_option maxRecDepth 100000 in
theorem J3_X11_here_v1 (l : Launch) (D : va_G) (cT : Nat → ClassId) (T : Nat → Option Nat) (q : Nat → Int) (hT : tokm T) (hq : qkm q) (a0 : Nat) (t0 : T a0 = some 0) (a1 : Nat) (t1 : T a1 = some 26) (y2 : Int32) (j2 : IV y2 0 4) (y3 : Int32) (j3 : IV y3 0 4) (p : Program) (e : Env) (s : State) (m : MethodId) (below : List Frame) (meth : Method) (c : Code) (S : CallFix p m c cX11_here 5 s [.ref a0, .ref a1, .int y2, .int y3].toArray gw yX11_here.cls) (hK : va_K D classes (th_tys cT) s) (hr : meth.sig.returnType = (some .int)) (hlocks : meth.locks = false) : ∀ (n : Nat) (H : Heap) (locs : List Loc) (ls : Array Slot) (v3_4 : Int32), IV v3_4 0 4 → th_H D cT T (km q) H → va_S (th_A T []) s.heap H locs → lv_has ls 5 [(0, .ref a0), (1, .ref a1), (2, .int y2), (3, .int y3), (4, .int v3_4)] → (4 + 1 - Int32.toInt v3_4).toNat < n → W p l e (rmk 0 0) s m [.ref a0, .ref a1, .int y2, .int y3].toArray below meth c H locs 0 0 (MQ below (th_Q D cT T (km q) (th_R T (some (.inl (-1, 3)))) []) [.ref a0, .ref a1, .int y2, .int y3].toArray s 0 0 (th_A T [])) (F0 m 3 ls []) := by
    have hx := S.1
    have hb := S.2.1
    have l1y2 := j2.1; have l2y2 := j2.2
    have l1y3 := j3.1; have l2y3 := j3.2
    intro n
    induction n with
    | zero => intro H locs ls v3_4 iv3_4 hH hS hl hn; exact absurd hn (Nat.not_lt_zero _)
    | succ n ih3 =>
      intro H locs ls v3_4 iv3_4 hH hS hl hn3
      have J34 : ∀ (H : Heap) (locs : List Loc) (ls : Array Slot), IV v3_4 0 3 → IV y3 1 4 → th_H D cT T (km q) H → va_S (th_A T []) s.heap H locs → lv_has ls 5 [(0, .ref a0), (1, .ref a1), (2, .int y2), (3, .int y3), (4, .int v3_4)] → W p l e (rmk 0 0) s m [.ref a0, .ref a1, .int y2, .int y3].toArray below meth c H locs 0 0 (MQ below (th_Q D cT T (km q) (th_R T (some (.inl (-1, 3)))) []) [.ref a0, .ref a1, .int y2, .int y3].toArray s 0 0 (th_A T [])) (F0 m 34 ls []) := by
        intro H locs ls f34_v3_4 f34_y3 hH hS hl
        refine th_iinc S dX11_here_34 hl (k := 4) rfl (by decide) f34_v3_4 (by decide) (fun x1 ls ex1 ix1 hl => ?_)
        have hl : lv_has ls 5 [(4, .int x1), (0, .ref a0), (1, .ref a1), (2, .int y2), (3, .int y3)] := hl
        have ix1 : IV x1 1 4 := ix1
        refine lv_goto (tgt := 3) hx hb dX11_here_37 (by decide) ?_
        exact ih3 H locs ls x1 (iv_w ix1 (by decide)) hH hS (lv_sub hl [1, 2, 3, 4, 0] rfl) (th_up iv3_4 ex1 (by decide) hn3)
      have l1v3_4 := iv3_4.1; have l2v3_4 := iv3_4.2
      refine lv_iload hx hb dX11_here_3 (lv_at hl 4 rfl) ?_
      refine lv_iload_n hx hb dX11_here_5 rfl (lv_at hl 3 rfl) ?_
      refine lv_icmp_ge (tgt := 40) hx hb dX11_here_6 (by decide) (fun c2 => ?_) (fun c2 => ?_)
      · skip
        have rlc2 : y3.toInt ≤ v3_4.toInt := iv_le c2
        refine lv_iconst (v := (-1)) hx hb dX11_here_40 (by decide) ?_
        exact th_iret S hK hH hS hr hlocks (th_R.i (iv_w (iv_c (by decide) : IV (-1) (-1) (-1)) (by decide))) dX11_here_41
      · skip
        have rlc2 : v3_4.toInt < y3.toInt := iv_nle c2
        have ir3 : IV v3_4 0 3 := iv_uL iv3_4 j3 (iv_nle c2) (by decide)
        have ir3a := ir3.1; have ir3b := ir3.2
        have ir4 : IV y3 1 4 := iv_uR iv3_4 j3 (iv_nle c2) (by decide)
        have ir4a := ir4.1; have ir4b := ir4.2
        refine lv_aload_n hx hb dX11_here_9 rfl (lv_at hl 0 rfl) ?_
        refine th_get S hK hH inG11 t0 km_0 rfl 8 (by decide) gm_1238 rfl rfl dX11_here_10 (fun v5 hv5 fv5 => ?_)
        obtain ⟨x6, rfl, ix6⟩ := th_V.int hv5
        have kx6 : x6.toInt = q 29 := Int.le_antisymm ix6.2 ix6.1
        have ix6 : IV x6 0 5 := iv_w ix6 (qkm_29 hq)
        refine lv_iconst (v := 2) hx hb dX11_here_13 (by decide) ?_
        refine lv_icmp_ne (tgt := 34) hx hb dX11_here_14 (by decide) (fun c7 => ?_) (fun c7 => ?_)
        · skip
          have rlc7 : x6.toInt ≠ (2 : Int) := iv_ne c7
          clear rlc7
          exact J34 H locs ls ir3 ir4 hH hS (lv_sub hl [0, 1, 2, 3, 4] rfl)
        · skip
          have rlc7 : x6.toInt = (2 : Int) := congrArg Int32.toInt c7
          have ir8 : IV x6 2 2 := iv_eL c7 (iv_c (by decide) : IV 2 2 2)
          have ir8a := ir8.1; have ir8b := ir8.2
          refine lv_aload_n hx hb dX11_here_17 rfl (lv_at hl 1 rfl) ?_
          refine lv_iload_n hx hb dX11_here_18 rfl (lv_at hl 2 rfl) ?_
          refine lv_iload hx hb dX11_here_19 (lv_at hl 4 rfl) ?_
          refine lv_iadd hx hb dX11_here_21 ?_
          refine lv_topi (fun x9 ex9 => ?_)
          have ix9 : IV x9 0 7 := by rw [ex9]; exact iv_add j2 ir3 (by decide)
          have ux9 : x9.toInt = y2.toInt + v3_4.toInt := by rw [ex9]; exact iv_addE (by have z1 := (j2).1; have z2 := (j2).2; have z3 := (ir3).1; have z4 := (ir3).2; omega)
          refine th_lald S hK hH t1 km_26 (th_in (hi := 7) ix9 (by decide)) dX11_here_22 (fun v10 hv10 => ?_)
          obtain ⟨lg11, rfl⟩ := th_V.long hv10
          refine lv_aload_n hx hb dX11_here_23 rfl (lv_at hl 0 rfl) ?_
          refine th_getM S hK hH inG11 t0 km_0 rfl 10 (by decide) gm_1240 rfl rfl dX11_here_24 (fun v12 hv12 wv12 => ?_)
          obtain ⟨lg13, rfl⟩ := th_V.long hv12
          have klg13 : lg13.toInt = q 31 := by obtain ⟨vs, z1, z2⟩ := wv12; exact z2 _ z1
          refine W.lcmp hx hb dX11_here_27 ?_
          refine lv_topi (fun x14 ex14 => ?_)
          have ix14 := iv_top x14
          have ax14 : x14.toInt = 0 → lg11.toInt = lg13.toInt := lc_eq ex14
          have bx14 : x14.toInt ≠ 0 → lg11.toInt ≠ lg13.toInt := lc_ne ex14
          refine lv_if_ne (tgt := 34) hx hb dX11_here_28 (by decide) (fun c15 => ?_) (fun c15 => ?_)
          · skip
            have rlc15 : x14.toInt ≠ (0 : Int) := iv_ne c15
            clear ax14
            have bx14r := bx14 rlc15
            clear bx14
            clear rlc15
            exact J34 H locs ls ir3 ir4 hH hS (lv_sub hl [0, 1, 2, 3, 4] rfl)
          · skip
            have rlc15 : x14.toInt = (0 : Int) := congrArg Int32.toInt c15
            have ax14r := ax14 rlc15
            clear ax14
            clear bx14
            have ir16 : IV x14 0 0 := iv_eL c15 (iv_c (by decide) : IV 0 0 0)
            have ir16a := ir16.1; have ir16b := ir16.2
            refine lv_iload hx hb dX11_here_31 (lv_at hl 4 rfl) ?_
            exact th_iret S hK hH hS hr hlocks (th_R.i (iv_w ir3 (by decide))) dX11_here_33

set_option maxHeartbeats 20000000 in
set_option maxRecDepth 100000 in
theorem m_X11_here_v1 (l : Launch) (D : va_G) (cT : Nat → ClassId) (T : Nat → Option Nat) (q : Nat → Int) (hT : tokm T) (hq : qkm q) (a0 : Nat) (t0 : T a0 = some 0) (a1 : Nat) (t1 : T a1 = some 26) (y2 : Int32) (j2 : IV y2 0 4) (y3 : Int32) (j3 : IV y3 0 4) : th_Met l D cT T (km q) yX11_here cX11_here 5 (some .int) (rmk 0 0) [.ref a0, .ref a1, .int y2, .int y3] (th_R T (some (.inl (-1, 3)))) [] := by
  refine th_start (by decide) (Nat.le_of_ble_eq_true rfl) ?_
  intro p e s m below meth c ls S hK hH hr hlocks hnm hl
  have hx := S.1
  have hb := S.2.1
  have l1y2 := j2.1; have l2y2 := j2.2
  have l1y3 := j3.1; have l2y3 := j3.2
  have hl : lv_has ls 5 [(0, .ref a0), (1, .ref a1), (2, .int y2), (3, .int y3)] := hl
  have J3 := J3_X11_here_v1 l D cT T q hT hq a0 t0 a1 t1 y2 j2 y3 j3 p e s m below meth c S hK hr hlocks
  have J0 : ∀ (H : Heap) (locs : List Loc) (ls : Array Slot), th_H D cT T (km q) H → va_S (th_A T []) s.heap H locs → lv_has ls 5 [(0, .ref a0), (1, .ref a1), (2, .int y2), (3, .int y3)] → W p l e (rmk 0 0) s m [.ref a0, .ref a1, .int y2, .int y3].toArray below meth c H locs 0 0 (MQ below (th_Q D cT T (km q) (th_R T (some (.inl (-1, 3)))) []) [.ref a0, .ref a1, .int y2, .int y3].toArray s 0 0 (th_A T [])) (F0 m 0 ls []) := by
    intro H locs ls hH hS hl
    refine lv_iconst (v := 0) hx hb dX11_here_0 (by decide) ?_
    refine lv_istore (lv' := [(4, .int 0), (0, .ref a0), (1, .ref a1), (2, .int y2), (3, .int y3)]) hx hb dX11_here_1 hl (by decide) rfl (fun ls hl => ?_)
    exact J3 ((4 + 1 - Int32.toInt 0).toNat + 1) H locs ls 0 (iv_w (iv_c (by decide) : IV 0 0 0) (by decide)) hH hS (lv_sub hl [1, 2, 3, 4, 0] rfl) (Nat.lt_succ_self _)
  exact J0 s.heap [] ls hH va_S.rf hl

set_option maxHeartbeats 20000000 in
set_option maxRecDepth 100000 in
theorem J3_X11_here_v2 (l : Launch) (D : va_G) (cT : Nat → ClassId) (T : Nat → Option Nat) (q : Nat → Int) (hT : tokm T) (hq : qkm q) (a0 : Nat) (t0 : T a0 = some 0) (a1 : Nat) (t1 : T a1 = some 27) (y2 : Int32) (j2 : IV y2 0 8) (y3 : Int32) (j3 : IV y3 0 8) (p : Program) (e : Env) (s : State) (m : MethodId) (below : List Frame) (meth : Method) (c : Code) (S : CallFix p m c cX11_here 5 s [.ref a0, .ref a1, .int y2, .int y3].toArray gw yX11_here.cls) (hK : va_K D classes (th_tys cT) s) (hr : meth.sig.returnType = (some .int)) (hlocks : meth.locks = false) : ∀ (n : Nat) (H : Heap) (locs : List Loc) (ls : Array Slot) (v3_4 : Int32), IV v3_4 0 8 → th_H D cT T (km q) H → va_S (th_A T []) s.heap H locs → lv_has ls 5 [(0, .ref a0), (1, .ref a1), (2, .int y2), (3, .int y3), (4, .int v3_4)] → (8 + 1 - Int32.toInt v3_4).toNat < n → W p l e (rmk 0 0) s m [.ref a0, .ref a1, .int y2, .int y3].toArray below meth c H locs 0 0 (MQ below (th_Q D cT T (km q) (th_R T (some (.inl (-1, 7)))) []) [.ref a0, .ref a1, .int y2, .int y3].toArray s 0 0 (th_A T [])) (F0 m 3 ls []) := by
    have hx := S.1
    have hb := S.2.1
    have l1y2 := j2.1; have l2y2 := j2.2
    have l1y3 := j3.1; have l2y3 := j3.2
    intro n
    induction n with
    | zero => intro H locs ls v3_4 iv3_4 hH hS hl hn; exact absurd hn (Nat.not_lt_zero _)
    | succ n ih3 =>
      intro H locs ls v3_4 iv3_4 hH hS hl hn3
      have J34 : ∀ (H : Heap) (locs : List Loc) (ls : Array Slot), IV v3_4 0 7 → IV y3 1 8 → th_H D cT T (km q) H → va_S (th_A T []) s.heap H locs → lv_has ls 5 [(0, .ref a0), (1, .ref a1), (2, .int y2), (3, .int y3), (4, .int v3_4)] → W p l e (rmk 0 0) s m [.ref a0, .ref a1, .int y2, .int y3].toArray below meth c H locs 0 0 (MQ below (th_Q D cT T (km q) (th_R T (some (.inl (-1, 7)))) []) [.ref a0, .ref a1, .int y2, .int y3].toArray s 0 0 (th_A T [])) (F0 m 34 ls []) := by
        intro H locs ls f34_v3_4 f34_y3 hH hS hl
        refine th_iinc S dX11_here_34 hl (k := 4) rfl (by decide) f34_v3_4 (by decide) (fun x1 ls ex1 ix1 hl => ?_)
        have hl : lv_has ls 5 [(4, .int x1), (0, .ref a0), (1, .ref a1), (2, .int y2), (3, .int y3)] := hl
        have ix1 : IV x1 1 8 := ix1
        refine lv_goto (tgt := 3) hx hb dX11_here_37 (by decide) ?_
        exact ih3 H locs ls x1 (iv_w ix1 (by decide)) hH hS (lv_sub hl [1, 2, 3, 4, 0] rfl) (th_up iv3_4 ex1 (by decide) hn3)
      have l1v3_4 := iv3_4.1; have l2v3_4 := iv3_4.2
      refine lv_iload hx hb dX11_here_3 (lv_at hl 4 rfl) ?_
      refine lv_iload_n hx hb dX11_here_5 rfl (lv_at hl 3 rfl) ?_
      refine lv_icmp_ge (tgt := 40) hx hb dX11_here_6 (by decide) (fun c2 => ?_) (fun c2 => ?_)
      · skip
        have rlc2 : y3.toInt ≤ v3_4.toInt := iv_le c2
        refine lv_iconst (v := (-1)) hx hb dX11_here_40 (by decide) ?_
        exact th_iret S hK hH hS hr hlocks (th_R.i (iv_w (iv_c (by decide) : IV (-1) (-1) (-1)) (by decide))) dX11_here_41
      · skip
        have rlc2 : v3_4.toInt < y3.toInt := iv_nle c2
        have ir3 : IV v3_4 0 7 := iv_uL iv3_4 j3 (iv_nle c2) (by decide)
        have ir3a := ir3.1; have ir3b := ir3.2
        have ir4 : IV y3 1 8 := iv_uR iv3_4 j3 (iv_nle c2) (by decide)
        have ir4a := ir4.1; have ir4b := ir4.2
        refine lv_aload_n hx hb dX11_here_9 rfl (lv_at hl 0 rfl) ?_
        refine th_get S hK hH inG11 t0 km_0 rfl 8 (by decide) gm_1238 rfl rfl dX11_here_10 (fun v5 hv5 fv5 => ?_)
        obtain ⟨x6, rfl, ix6⟩ := th_V.int hv5
        have kx6 : x6.toInt = q 29 := Int.le_antisymm ix6.2 ix6.1
        have ix6 : IV x6 0 5 := iv_w ix6 (qkm_29 hq)
        refine lv_iconst (v := 2) hx hb dX11_here_13 (by decide) ?_
        refine lv_icmp_ne (tgt := 34) hx hb dX11_here_14 (by decide) (fun c7 => ?_) (fun c7 => ?_)
        · skip
          have rlc7 : x6.toInt ≠ (2 : Int) := iv_ne c7
          clear rlc7
          exact J34 H locs ls ir3 ir4 hH hS (lv_sub hl [0, 1, 2, 3, 4] rfl)
        · skip
          have rlc7 : x6.toInt = (2 : Int) := congrArg Int32.toInt c7
          have ir8 : IV x6 2 2 := iv_eL c7 (iv_c (by decide) : IV 2 2 2)
          have ir8a := ir8.1; have ir8b := ir8.2
          refine lv_aload_n hx hb dX11_here_17 rfl (lv_at hl 1 rfl) ?_
          refine lv_iload_n hx hb dX11_here_18 rfl (lv_at hl 2 rfl) ?_
          refine lv_iload hx hb dX11_here_19 (lv_at hl 4 rfl) ?_
          refine lv_iadd hx hb dX11_here_21 ?_
          refine lv_topi (fun x9 ex9 => ?_)
          have ix9 : IV x9 0 15 := by rw [ex9]; exact iv_add j2 ir3 (by decide)
          have ux9 : x9.toInt = y2.toInt + v3_4.toInt := by rw [ex9]; exact iv_addE (by have z1 := (j2).1; have z2 := (j2).2; have z3 := (ir3).1; have z4 := (ir3).2; omega)
          refine th_lald S hK hH t1 km_27 (th_in (hi := 15) ix9 (by decide)) dX11_here_22 (fun v10 hv10 => ?_)
          obtain ⟨lg11, rfl⟩ := th_V.long hv10
          refine lv_aload_n hx hb dX11_here_23 rfl (lv_at hl 0 rfl) ?_
          refine th_getM S hK hH inG11 t0 km_0 rfl 10 (by decide) gm_1240 rfl rfl dX11_here_24 (fun v12 hv12 wv12 => ?_)
          obtain ⟨lg13, rfl⟩ := th_V.long hv12
          have klg13 : lg13.toInt = q 31 := by obtain ⟨vs, z1, z2⟩ := wv12; exact z2 _ z1
          refine W.lcmp hx hb dX11_here_27 ?_
          refine lv_topi (fun x14 ex14 => ?_)
          have ix14 := iv_top x14
          have ax14 : x14.toInt = 0 → lg11.toInt = lg13.toInt := lc_eq ex14
          have bx14 : x14.toInt ≠ 0 → lg11.toInt ≠ lg13.toInt := lc_ne ex14
          refine lv_if_ne (tgt := 34) hx hb dX11_here_28 (by decide) (fun c15 => ?_) (fun c15 => ?_)
          · skip
            have rlc15 : x14.toInt ≠ (0 : Int) := iv_ne c15
            clear ax14
            have bx14r := bx14 rlc15
            clear bx14
            clear rlc15
            exact J34 H locs ls ir3 ir4 hH hS (lv_sub hl [0, 1, 2, 3, 4] rfl)
          · skip
            have rlc15 : x14.toInt = (0 : Int) := congrArg Int32.toInt c15
            have ax14r := ax14 rlc15
            clear ax14
            clear bx14
            have ir16 : IV x14 0 0 := iv_eL c15 (iv_c (by decide) : IV 0 0 0)
            have ir16a := ir16.1; have ir16b := ir16.2
            refine lv_iload hx hb dX11_here_31 (lv_at hl 4 rfl) ?_
            exact th_iret S hK hH hS hr hlocks (th_R.i (iv_w ir3 (by decide))) dX11_here_33
