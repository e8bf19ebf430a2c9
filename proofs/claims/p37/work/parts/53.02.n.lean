theorem dX11_isSignHere_0 : decode cX11_isSignHere 0 = .ok (.aload_n 0, 1) := by decide +kernel
theorem dX11_isSignHere_1 : decode cX11_isSignHere 1 = .ok (.getfield 215, 3) := by decide +kernel
theorem dX11_isSignHere_4 : decode cX11_isSignHere 4 = .ok (.iconst 5, 1) := by decide +kernel
theorem dX11_isSignHere_5 : decode cX11_isSignHere 5 = .ok (.if_icmp .ne 19, 3) := by decide +kernel
theorem dX11_isSignHere_8 : decode cX11_isSignHere 8 = .ok (.aload_n 0, 1) := by decide +kernel
theorem dX11_isSignHere_9 : decode cX11_isSignHere 9 = .ok (.aload_n 0, 1) := by decide +kernel
theorem dX11_isSignHere_10 : decode cX11_isSignHere 10 = .ok (.getfield 208, 3) := by decide +kernel
theorem dX11_isSignHere_13 : decode cX11_isSignHere 13 = .ok (.invokevirtual 211, 3) := by decide +kernel
theorem dX11_isSignHere_16 : decode cX11_isSignHere 16 = .ok (.iload_n 1, 1) := by decide +kernel
theorem dX11_isSignHere_17 : decode cX11_isSignHere 17 = .ok (.if_icmp .ne 7, 3) := by decide +kernel
theorem dX11_isSignHere_20 : decode cX11_isSignHere 20 = .ok (.iconst 1, 1) := by decide +kernel
theorem dX11_isSignHere_21 : decode cX11_isSignHere 21 = .ok (.goto 4, 3) := by decide +kernel
theorem dX11_isSignHere_24 : decode cX11_isSignHere 24 = .ok (.iconst 0, 1) := by decide +kernel
theorem dX11_isSignHere_25 : decode cX11_isSignHere 25 = .ok (.ireturn, 1) := by decide +kernel
theorem dX11_isWord_0 : decode cX11_isWord 0 = .ok (.aload_n 0, 1) := by decide +kernel
theorem dX11_isWord_1 : decode cX11_isWord 1 = .ok (.getfield 215, 3) := by decide +kernel
theorem dX11_isWord_4 : decode cX11_isWord 4 = .ok (.iconst 3, 1) := by decide +kernel
theorem dX11_isWord_5 : decode cX11_isWord 5 = .ok (.if_icmp .ne 16, 3) := by decide +kernel
theorem dX11_isWord_8 : decode cX11_isWord 8 = .ok (.aload_n 0, 1) := by decide +kernel
theorem dX11_isWord_9 : decode cX11_isWord 9 = .ok (.getfield 222, 3) := by decide +kernel
theorem dX11_isWord_12 : decode cX11_isWord 12 = .ok (.lload_n 1, 1) := by decide +kernel
theorem dX11_isWord_13 : decode cX11_isWord 13 = .ok (.lcmp, 1) := by decide +kernel
theorem dX11_isWord_14 : decode cX11_isWord 14 = .ok (.ifCond .ne 7, 3) := by decide +kernel
theorem dX11_isWord_17 : decode cX11_isWord 17 = .ok (.iconst 1, 1) := by decide +kernel
theorem dX11_isWord_18 : decode cX11_isWord 18 = .ok (.goto 4, 3) := by decide +kernel
theorem dX11_isWord_21 : decode cX11_isWord 21 = .ok (.iconst 0, 1) := by decide +kernel
theorem dX11_isWord_22 : decode cX11_isWord 22 = .ok (.ireturn, 1) := by decide +kernel
theorem dX11_misplaced_0 : decode cX11_misplaced 0 = .ok (.aload_n 0, 1) := by decide +kernel
theorem dX11_misplaced_1 : decode cX11_misplaced 1 = .ok (.aload_n 0, 1) := by decide +kernel
theorem dX11_misplaced_2 : decode cX11_misplaced 2 = .ok (.getfield 215, 3) := by decide +kernel
theorem dX11_misplaced_5 : decode cX11_misplaced 5 = .ok (.iconst 1, 1) := by decide +kernel
theorem dX11_misplaced_6 : decode cX11_misplaced 6 = .ok (.if_icmp .ne 7, 3) := by decide +kernel
theorem dX11_misplaced_9 : decode cX11_misplaced 9 = .ok (.iconst 1, 1) := by decide +kernel
theorem dX11_misplaced_10 : decode cX11_misplaced 10 = .ok (.goto 4, 3) := by decide +kernel
theorem dX11_misplaced_13 : decode cX11_misplaced 13 = .ok (.iconst 2, 1) := by decide +kernel
theorem dX11_misplaced_14 : decode cX11_misplaced 14 = .ok (.aload_n 0, 1) := by decide +kernel
theorem dX11_misplaced_15 : decode cX11_misplaced 15 = .ok (.getfield 208, 3) := by decide +kernel
theorem dX11_misplaced_18 : decode cX11_misplaced 18 = .ok (.invokevirtual 239, 3) := by decide +kernel
theorem dX11_misplaced_21 : decode cX11_misplaced 21 = .ok (.return_, 1) := by decide +kernel
theorem dX11_must_0 : decode cX11_must 0 = .ok (.aload_n 0, 1) := by decide +kernel
theorem dX11_must_1 : decode cX11_must 1 = .ok (.invokevirtual 243, 3) := by decide +kernel
theorem dX11_must_4 : decode cX11_must 4 = .ok (.ifCond .ne 4, 3) := by decide +kernel
theorem dX11_must_7 : decode cX11_must 7 = .ok (.return_, 1) := by decide +kernel
theorem dX11_must_8 : decode cX11_must 8 = .ok (.iload_n 1, 1) := by decide +kernel
theorem dX11_must_9 : decode cX11_must 9 = .ok (.ifCond .eq 10, 3) := by decide +kernel
theorem dX11_must_12 : decode cX11_must 12 = .ok (.aload_n 0, 1) := by decide +kernel
theorem dX11_must_13 : decode cX11_must 13 = .ok (.invokevirtual 247, 3) := by decide +kernel
theorem dX11_must_16 : decode cX11_must 16 = .ok (.goto 7, 3) := by decide +kernel
theorem dX11_must_19 : decode cX11_must 19 = .ok (.aload_n 0, 1) := by decide +kernel
theorem dX11_must_20 : decode cX11_must 20 = .ok (.invokevirtual 250, 3) := by decide +kernel
theorem dX11_must_23 : decode cX11_must 23 = .ok (.return_, 1) := by decide +kernel
theorem dX11_numeral_0 : decode cX11_numeral 0 = .ok (.aload_n 0, 1) := by decide +kernel
theorem dX11_numeral_1 : decode cX11_numeral 1 = .ok (.invokevirtual 243, 3) := by decide +kernel
theorem dX11_numeral_4 : decode cX11_numeral 4 = .ok (.ifCond .ne 5, 3) := by decide +kernel
theorem dX11_numeral_7 : decode cX11_numeral 7 = .ok (.iload_n 1, 1) := by decide +kernel
theorem dX11_numeral_8 : decode cX11_numeral 8 = .ok (.ireturn, 1) := by decide +kernel
theorem dX11_numeral_9 : decode cX11_numeral 9 = .ok (.aload_n 0, 1) := by decide +kernel
theorem dX11_numeral_10 : decode cX11_numeral 10 = .ok (.getfield 215, 3) := by decide +kernel
theorem dX11_numeral_13 : decode cX11_numeral 13 = .ok (.iconst 4, 1) := by decide +kernel
theorem dX11_numeral_14 : decode cX11_numeral 14 = .ok (.if_icmp .eq 7, 3) := by decide +kernel
theorem dX11_numeral_17 : decode cX11_numeral 17 = .ok (.aload_n 0, 1) := by decide +kernel
theorem dX11_numeral_18 : decode cX11_numeral 18 = .ok (.invokevirtual 250, 3) := by decide +kernel
theorem dX11_numeral_21 : decode cX11_numeral 21 = .ok (.aload_n 0, 1) := by decide +kernel
theorem dX11_numeral_22 : decode cX11_numeral 22 = .ok (.invokevirtual 243, 3) := by decide +kernel
theorem dX11_numeral_25 : decode cX11_numeral 25 = .ok (.ifCond .eq 28, 3) := by decide +kernel
theorem dX11_numeral_28 : decode cX11_numeral 28 = .ok (.aload_n 0, 1) := by decide +kernel
theorem dX11_numeral_29 : decode cX11_numeral 29 = .ok (.getfield 233, 3) := by decide +kernel
theorem dX11_numeral_32 : decode cX11_numeral 32 = .ok (.iload_n 1, 1) := by decide +kernel
theorem dX11_numeral_33 : decode cX11_numeral 33 = .ok (.if_icmp .lt 11, 3) := by decide +kernel
theorem dX11_numeral_36 : decode cX11_numeral 36 = .ok (.aload_n 0, 1) := by decide +kernel
theorem dX11_numeral_37 : decode cX11_numeral 37 = .ok (.getfield 233, 3) := by decide +kernel
theorem dX11_numeral_40 : decode cX11_numeral 40 = .ok (.iload_n 2, 1) := by decide +kernel
theorem dX11_numeral_41 : decode cX11_numeral 41 = .ok (.if_icmp .le 12, 3) := by decide +kernel
theorem dX11_numeral_44 : decode cX11_numeral 44 = .ok (.aload_n 0, 1) := by decide +kernel
theorem dX11_numeral_45 : decode cX11_numeral 45 = .ok (.iconst 4, 1) := by decide +kernel
theorem dX11_numeral_46 : decode cX11_numeral 46 = .ok (.aload_n 0, 1) := by decide +kernel
theorem dX11_numeral_47 : decode cX11_numeral 47 = .ok (.getfield 208, 3) := by decide +kernel
theorem dX11_numeral_50 : decode cX11_numeral 50 = .ok (.invokevirtual 239, 3) := by decide +kernel
theorem dX11_numeral_53 : decode cX11_numeral 53 = .ok (.aload_n 0, 1) := by decide +kernel
theorem dX11_numeral_54 : decode cX11_numeral 54 = .ok (.getfield 233, 3) := by decide +kernel
theorem dX11_numeral_57 : decode cX11_numeral 57 = .ok (.istore_n 3, 1) := by decide +kernel
theorem dX11_numeral_58 : decode cX11_numeral 58 = .ok (.aload_n 0, 1) := by decide +kernel
theorem dX11_numeral_59 : decode cX11_numeral 59 = .ok (.invokevirtual 243, 3) := by decide +kernel
theorem dX11_numeral_62 : decode cX11_numeral 62 = .ok (.ifCond .eq 7, 3) := by decide +kernel
theorem dX11_numeral_65 : decode cX11_numeral 65 = .ok (.aload_n 0, 1) := by decide +kernel
theorem dX11_numeral_66 : decode cX11_numeral 66 = .ok (.invokevirtual 247, 3) := by decide +kernel
theorem dX11_numeral_69 : decode cX11_numeral 69 = .ok (.aload_n 0, 1) := by decide +kernel
theorem dX11_numeral_70 : decode cX11_numeral 70 = .ok (.invokevirtual 243, 3) := by decide +kernel
theorem dX11_numeral_73 : decode cX11_numeral 73 = .ok (.ifCond .eq 7, 3) := by decide +kernel
theorem dX11_numeral_76 : decode cX11_numeral 76 = .ok (.iload_n 3, 1) := by decide +kernel
theorem dX11_numeral_77 : decode cX11_numeral 77 = .ok (.goto 4, 3) := by decide +kernel
theorem dX11_numeral_80 : decode cX11_numeral 80 = .ok (.iload_n 1, 1) := by decide +kernel
theorem dX11_numeral_81 : decode cX11_numeral 81 = .ok (.ireturn, 1) := by decide +kernel
set_option maxHeartbeats 20000000 in
set_option maxRecDepth 100000 in
theorem m_X11_isSignHere (l : Launch) (D : va_G) (cT : Nat → ClassId) (T : Nat → Option Nat) (q : Nat → Int) (hT : tokm T) (hq : qkm q) (a0 : Nat) (t0 : T a0 = some 0) (y1 : Int32) (j1 : IV y1 (-2147483648) 2147483647) : th_Met l D cT T (km q) yX11_isSignHere cX11_isSignHere 2 (some .boolean) (rmk 1 21) [.ref a0, .int y1] (th_RP 0 1 (fun r => (r.toInt ≠ 0 → q 29 = 5 ∧ sg q (q 27) = y1.toInt))) [] := by
  refine th_start (by decide) (Nat.le_of_ble_eq_true rfl) ?_
  intro p e s m below meth c ls S hK hH hr hlocks hnm hl
  have hx := S.1
  have hb := S.2.1
  have hl : lv_has ls 2 [(0, .ref a0), (1, .int y1)] := hl
  have J25_s0_0 : ∀ (H : Heap) (locs : List Loc) (ls : Array Slot), ((0 : Int) ≠ 0 → q 29 = 5 ∧ sg q (q 27) = y1.toInt) → th_H D cT T (km q) H → va_S (th_A T []) s.heap H locs → lv_has ls 2 [] → W p l e (rmk 1 21) s m [.ref a0, .int y1].toArray below meth c H locs 0 0 (MQ below (th_Q D cT T (km q) (th_RP 0 1 (fun r => (r.toInt ≠ 0 → q 29 = 5 ∧ sg q (q 27) = y1.toInt))) []) [.ref a0, .int y1].toArray s 0 0 (th_A T [])) (F0 m 25 ls [.int 0]) := by
    intro H locs ls v25_inv0 hH hS hl
    exact th_zret S hK hH hS hr hlocks (iv_w (iv_c (by decide) : IV 0 0 0) (by decide)) (th_RP.i (iv_w (iv_c (by decide) : IV 0 0 0) (by decide)) (show (0 : Int) ≠ 0 → q 29 = 5 ∧ sg q (q 27) = y1.toInt by first | assumption | (first | omega | (intro z; omega)))) dX11_isSignHere_25
  have J25_s0_1 : ∀ (H : Heap) (locs : List Loc) (ls : Array Slot), ((1 : Int) ≠ 0 → q 29 = 5 ∧ sg q (q 27) = y1.toInt) → th_H D cT T (km q) H → va_S (th_A T []) s.heap H locs → lv_has ls 2 [] → W p l e (rmk 1 21) s m [.ref a0, .int y1].toArray below meth c H locs 0 0 (MQ below (th_Q D cT T (km q) (th_RP 0 1 (fun r => (r.toInt ≠ 0 → q 29 = 5 ∧ sg q (q 27) = y1.toInt))) []) [.ref a0, .int y1].toArray s 0 0 (th_A T [])) (F0 m 25 ls [.int 1]) := by
    intro H locs ls v25_inv0 hH hS hl
    exact th_zret S hK hH hS hr hlocks (iv_w (iv_c (by decide) : IV 1 1 1) (by decide)) (th_RP.i (iv_w (iv_c (by decide) : IV 1 1 1) (by decide)) (show (1 : Int) ≠ 0 → q 29 = 5 ∧ sg q (q 27) = y1.toInt by first | assumption | (first | omega | (intro z; omega)))) dX11_isSignHere_25
  have J24 : ∀ (H : Heap) (locs : List Loc) (ls : Array Slot), th_H D cT T (km q) H → va_S (th_A T []) s.heap H locs → lv_has ls 2 [] → W p l e (rmk 1 21) s m [.ref a0, .int y1].toArray below meth c H locs 0 0 (MQ below (th_Q D cT T (km q) (th_RP 0 1 (fun r => (r.toInt ≠ 0 → q 29 = 5 ∧ sg q (q 27) = y1.toInt))) []) [.ref a0, .int y1].toArray s 0 0 (th_A T [])) (F0 m 24 ls []) := by
    intro H locs ls hH hS hl
    refine lv_iconst (v := 0) hx hb dX11_isSignHere_24 (by decide) ?_
    exact J25_s0_0 H locs ls (show (0 : Int) ≠ 0 → q 29 = 5 ∧ sg q (q 27) = y1.toInt by first | omega | (intro z; omega)) hH hS (lv_sub hl [] rfl)
  have J0 : ∀ (H : Heap) (locs : List Loc) (ls : Array Slot), th_H D cT T (km q) H → va_S (th_A T []) s.heap H locs → lv_has ls 2 [(0, .ref a0), (1, .int y1)] → W p l e (rmk 1 21) s m [.ref a0, .int y1].toArray below meth c H locs 0 0 (MQ below (th_Q D cT T (km q) (th_RP 0 1 (fun r => (r.toInt ≠ 0 → q 29 = 5 ∧ sg q (q 27) = y1.toInt))) []) [.ref a0, .int y1].toArray s 0 0 (th_A T [])) (F0 m 0 ls []) := by
    intro H locs ls hH hS hl
    refine lv_aload_n hx hb dX11_isSignHere_0 rfl (lv_at hl 0 rfl) ?_
    refine th_get S hK hH inG11 t0 km_0 rfl 8 (by decide) gm_1238 rfl rfl dX11_isSignHere_1 (fun v1 hv1 fv1 => ?_)
    obtain ⟨x2, rfl, ix2⟩ := th_V.int hv1
    have kx2a : q 29 ≤ x2.toInt := ix2.1
    have kx2b : x2.toInt ≤ q 29 := ix2.2
    have ix2 : IV x2 0 5 := iv_w ix2 (qkm_29 hq)
    refine lv_iconst (v := 5) hx hb dX11_isSignHere_4 (by decide) ?_
    refine lv_icmp_ne (tgt := 24) hx hb dX11_isSignHere_5 (by decide) (fun c3 => ?_) (fun c3 => ?_)
    · skip
      have rlc3 : x2.toInt ≠ (5 : Int) := iv_ne c3
      have ir4 : IV x2 0 4 := iv_cutH ix2 (iv_c (by decide) : IV 5 5 5) c3 (by decide)
      have ir4a := ir4.1; have ir4b := ir4.2
      exact J24 H locs ls  hH hS (lv_sub hl [] rfl)
    · skip
      have rlc3 : x2.toInt = (5 : Int) := congrArg Int32.toInt c3
      have ir5 : IV x2 5 5 := ⟨(iv_eL c3 (iv_c (by decide) : IV 5 5 5)).1, ix2.2⟩
      have ir5a := ir5.1; have ir5b := ir5.2
      refine lv_aload_n hx hb dX11_isSignHere_8 rfl (lv_at hl 0 rfl) ?_
      refine lv_aload_n hx hb dX11_isSignHere_9 rfl (lv_at hl 0 rfl) ?_
      refine th_get S hK hH inG11 t0 km_0 rfl 6 (by decide) gm_1236 rfl rfl dX11_isSignHere_10 (fun v6 hv6 fv6 => ?_)
      obtain ⟨x7, rfl, ix7⟩ := th_V.int hv6
      have kx7a : q 27 ≤ x7.toInt := ix7.1
      have kx7b : x7.toInt ≤ q 27 := ix7.2
      have ix7 : IV x7 0 1600 := iv_w ix7 (qkm_27 hq)
      refine th_callVp (n := 1) (As := [.int x7]) S hK hH hS (th_A.sub (by decide)) (m_X11_sign l D cT T q hT hq a0 t0 (x7) (iv_w ix7 (by decide))) gm_1449 gm_1446 gm_1448 gm_48 gm_124 (by decide +kernel) ⟨rfl, rfl, Nat.le_of_ble_eq_true rfl, Nat.le_of_ble_eq_true rfl⟩ t0 km_0 rfl rfl hl.1 rfl (Nat.le_of_ble_eq_true rfl) dX11_isSignHere_13 ⟨Nat.zero_le _, Nat.zero_le _⟩ (fun x8 H locs ix8 ox8 hH hS hF1 => ?_)
      have ox8 : x8.toInt = sg q x7.toInt := ox8
      have hc : x8.toInt = sg q (q 27) := sg_eq ox8 (by omega)
      refine lv_iload_n hx hb dX11_isSignHere_16 rfl (lv_at hl 1 rfl) ?_
      refine lv_icmp_ne (tgt := 24) hx hb dX11_isSignHere_17 (by decide) (fun c9 => ?_) (fun c9 => ?_)
      · skip
        have rlc9 : x8.toInt ≠ y1.toInt := iv_ne c9
        exact J24 H locs ls  hH hS (lv_sub hl [] rfl)
      · skip
        have rlc9 : x8.toInt = y1.toInt := congrArg Int32.toInt c9
        have ir10 : IV y1 0 255 := iv_eR c9 ix8
        have ir10a := ir10.1; have ir10b := ir10.2
        refine lv_iconst (v := 1) hx hb dX11_isSignHere_20 (by decide) ?_
        refine lv_goto (tgt := 25) hx hb dX11_isSignHere_21 (by decide) ?_
        exact J25_s0_1 H locs ls (show (1 : Int) ≠ 0 → q 29 = 5 ∧ sg q (q 27) = y1.toInt by first | omega | (intro z; omega)) hH hS (lv_sub hl [] rfl)
  exact J0 s.heap [] ls hH va_S.rf hl

set_option maxHeartbeats 20000000 in
set_option maxRecDepth 100000 in
theorem m_X11_isWord (l : Launch) (D : va_G) (cT : Nat → ClassId) (T : Nat → Option Nat) (q : Nat → Int) (hT : tokm T) (hq : qkm q) (a0 : Nat) (t0 : T a0 = some 0) (y1 : Int64) : th_Met l D cT T (km q) yX11_isWord cX11_isWord 3 (some .boolean) (rmk 0 0) [.ref a0, .long y1] (th_RP 0 1 (fun r => (r.toInt ≠ 0 → q 29 = 3 ∧ q 31 = y1.toInt) ∧ (r.toInt = 0 → q 29 ≠ 3 ∨ q 31 ≠ y1.toInt))) [] := by
  refine th_start (by decide) (Nat.le_of_ble_eq_true rfl) ?_
  intro p e s m below meth c ls S hK hH hr hlocks hnm hl
  have hx := S.1
  have hb := S.2.1
  have hl : lv_has ls 3 [(0, .ref a0), (1, .long y1)] := hl
  have J22_s0_0 : ∀ (H : Heap) (locs : List Loc) (ls : Array Slot), ((0 : Int) ≠ 0 → q 29 = 3 ∧ q 31 = y1.toInt) → ((0 : Int) = 0 → q 29 ≠ 3 ∨ q 31 ≠ y1.toInt) → th_H D cT T (km q) H → va_S (th_A T []) s.heap H locs → lv_has ls 3 [] → W p l e (rmk 0 0) s m [.ref a0, .long y1].toArray below meth c H locs 0 0 (MQ below (th_Q D cT T (km q) (th_RP 0 1 (fun r => (r.toInt ≠ 0 → q 29 = 3 ∧ q 31 = y1.toInt) ∧ (r.toInt = 0 → q 29 ≠ 3 ∨ q 31 ≠ y1.toInt))) []) [.ref a0, .long y1].toArray s 0 0 (th_A T [])) (F0 m 22 ls [.int 0]) := by
    intro H locs ls v22_inv0 v22_inv1 hH hS hl
    exact th_zret S hK hH hS hr hlocks (iv_w (iv_c (by decide) : IV 0 0 0) (by decide)) (th_RP.i (iv_w (iv_c (by decide) : IV 0 0 0) (by decide)) ⟨(show (0 : Int) ≠ 0 → q 29 = 3 ∧ q 31 = y1.toInt by first | assumption | (first | omega | (intro z; omega))), (show (0 : Int) = 0 → q 29 ≠ 3 ∨ q 31 ≠ y1.toInt by first | assumption | (first | omega | (intro z; omega)))⟩) dX11_isWord_22
  have J22_s0_1 : ∀ (H : Heap) (locs : List Loc) (ls : Array Slot), ((1 : Int) ≠ 0 → q 29 = 3 ∧ q 31 = y1.toInt) → ((1 : Int) = 0 → q 29 ≠ 3 ∨ q 31 ≠ y1.toInt) → th_H D cT T (km q) H → va_S (th_A T []) s.heap H locs → lv_has ls 3 [] → W p l e (rmk 0 0) s m [.ref a0, .long y1].toArray below meth c H locs 0 0 (MQ below (th_Q D cT T (km q) (th_RP 0 1 (fun r => (r.toInt ≠ 0 → q 29 = 3 ∧ q 31 = y1.toInt) ∧ (r.toInt = 0 → q 29 ≠ 3 ∨ q 31 ≠ y1.toInt))) []) [.ref a0, .long y1].toArray s 0 0 (th_A T [])) (F0 m 22 ls [.int 1]) := by
    intro H locs ls v22_inv0 v22_inv1 hH hS hl
    exact th_zret S hK hH hS hr hlocks (iv_w (iv_c (by decide) : IV 1 1 1) (by decide)) (th_RP.i (iv_w (iv_c (by decide) : IV 1 1 1) (by decide)) ⟨(show (1 : Int) ≠ 0 → q 29 = 3 ∧ q 31 = y1.toInt by first | assumption | (first | omega | (intro z; omega))), (show (1 : Int) = 0 → q 29 ≠ 3 ∨ q 31 ≠ y1.toInt by first | assumption | (first | omega | (intro z; omega)))⟩) dX11_isWord_22
  have J21 : ∀ (H : Heap) (locs : List Loc) (ls : Array Slot), (q 29 ≠ 3 ∨ q 31 ≠ y1.toInt) → th_H D cT T (km q) H → va_S (th_A T []) s.heap H locs → lv_has ls 3 [] → W p l e (rmk 0 0) s m [.ref a0, .long y1].toArray below meth c H locs 0 0 (MQ below (th_Q D cT T (km q) (th_RP 0 1 (fun r => (r.toInt ≠ 0 → q 29 = 3 ∧ q 31 = y1.toInt) ∧ (r.toInt = 0 → q 29 ≠ 3 ∨ q 31 ≠ y1.toInt))) []) [.ref a0, .long y1].toArray s 0 0 (th_A T [])) (F0 m 21 ls []) := by
    intro H locs ls v21_inv0 hH hS hl
    refine lv_iconst (v := 0) hx hb dX11_isWord_21 (by decide) ?_
    exact J22_s0_0 H locs ls (show (0 : Int) ≠ 0 → q 29 = 3 ∧ q 31 = y1.toInt by first | omega | (intro z; omega)) (show (0 : Int) = 0 → q 29 ≠ 3 ∨ q 31 ≠ y1.toInt by first | omega | (intro z; omega)) hH hS (lv_sub hl [] rfl)
  have J0 : ∀ (H : Heap) (locs : List Loc) (ls : Array Slot), th_H D cT T (km q) H → va_S (th_A T []) s.heap H locs → lv_has ls 3 [(0, .ref a0), (1, .long y1)] → W p l e (rmk 0 0) s m [.ref a0, .long y1].toArray below meth c H locs 0 0 (MQ below (th_Q D cT T (km q) (th_RP 0 1 (fun r => (r.toInt ≠ 0 → q 29 = 3 ∧ q 31 = y1.toInt) ∧ (r.toInt = 0 → q 29 ≠ 3 ∨ q 31 ≠ y1.toInt))) []) [.ref a0, .long y1].toArray s 0 0 (th_A T [])) (F0 m 0 ls []) := by
    intro H locs ls hH hS hl
    refine lv_aload_n hx hb dX11_isWord_0 rfl (lv_at hl 0 rfl) ?_
    refine th_get S hK hH inG11 t0 km_0 rfl 8 (by decide) gm_1238 rfl rfl dX11_isWord_1 (fun v1 hv1 fv1 => ?_)
    obtain ⟨x2, rfl, ix2⟩ := th_V.int hv1
    have kx2a : q 29 ≤ x2.toInt := ix2.1
    have kx2b : x2.toInt ≤ q 29 := ix2.2
    have ix2 : IV x2 0 5 := iv_w ix2 (qkm_29 hq)
    refine lv_iconst (v := 3) hx hb dX11_isWord_4 (by decide) ?_
    refine lv_icmp_ne (tgt := 21) hx hb dX11_isWord_5 (by decide) (fun c3 => ?_) (fun c3 => ?_)
    · skip
      have rlc3 : x2.toInt ≠ (3 : Int) := iv_ne c3
      exact J21 H locs ls (show q 29 ≠ 3 ∨ q 31 ≠ y1.toInt by omega) hH hS (lv_sub hl [] rfl)
    · skip
      have rlc3 : x2.toInt = (3 : Int) := congrArg Int32.toInt c3
      have ir4 : IV x2 3 3 := iv_eL c3 (iv_c (by decide) : IV 3 3 3)
      have ir4a := ir4.1; have ir4b := ir4.2
      refine lv_aload_n hx hb dX11_isWord_8 rfl (lv_at hl 0 rfl) ?_
      refine th_getM S hK hH inG11 t0 km_0 rfl 10 (by decide) gm_1240 rfl rfl dX11_isWord_9 (fun v5 hv5 wv5 => ?_)
      obtain ⟨lg6, rfl⟩ := th_V.long hv5
      have klg6 : lg6.toInt = q 31 := by obtain ⟨vs, z1, z2⟩ := wv5; exact z2 _ z1
      refine lv_lload_n hx hb dX11_isWord_12 rfl (lv_at hl 1 rfl) ?_
      refine W.lcmp hx hb dX11_isWord_13 ?_
      refine lv_topi (fun x7 ex7 => ?_)
      have ix7 := iv_top x7
      have ax7 : x7.toInt = 0 → lg6.toInt = y1.toInt := lc_eq ex7
      have bx7 : x7.toInt ≠ 0 → lg6.toInt ≠ y1.toInt := lc_ne ex7
      refine lv_if_ne (tgt := 21) hx hb dX11_isWord_14 (by decide) (fun c8 => ?_) (fun c8 => ?_)
      · skip
        have rlc8 : x7.toInt ≠ (0 : Int) := iv_ne c8
        exact J21 H locs ls (show q 29 ≠ 3 ∨ q 31 ≠ y1.toInt by omega) hH hS (lv_sub hl [] rfl)
      · skip
        have rlc8 : x7.toInt = (0 : Int) := congrArg Int32.toInt c8
        have ir9 : IV x7 0 0 := iv_eL c8 (iv_c (by decide) : IV 0 0 0)
        have ir9a := ir9.1; have ir9b := ir9.2
        refine lv_iconst (v := 1) hx hb dX11_isWord_17 (by decide) ?_
        refine lv_goto (tgt := 22) hx hb dX11_isWord_18 (by decide) ?_
        exact J22_s0_1 H locs ls (show (1 : Int) ≠ 0 → q 29 = 3 ∧ q 31 = y1.toInt by first | omega | (intro z; omega)) (show (1 : Int) = 0 → q 29 ≠ 3 ∨ q 31 ≠ y1.toInt by first | omega | (intro z; omega)) hH hS (lv_sub hl [] rfl)
  exact J0 s.heap [] ls hH va_S.rf hl

set_option maxHeartbeats 20000000 in
set_option maxRecDepth 100000 in
theorem m_X11_misplaced (l : Launch) (D : va_G) (cT : Nat → ClassId) (T : Nat → Option Nat) (q : Nat → Int) (hT : tokm T) (hq : qkm q) (a0 : Nat) (t0 : T a0 = some 0) : th_MetM l D cT T q yX11_misplaced cX11_misplaced 1 none (rmk 1 22) [.ref a0] (fun v q2 => v = none ∧ qkm q2 ∧ fr [30] q q2 ∧ (q2 30 ≠ 0)) [0] := by
  refine th_startM (by decide) (Nat.le_of_ble_eq_true rfl) ?_
  intro p e s m below meth c ls S hK hH hr hlocks hnm hl
  have hx := S.1
  have hb := S.2.1
  have hl : lv_has ls 1 [(0, .ref a0)] := hl
  have J14_s1_1 : ∀ (H : Heap) (locs : List Loc) (ls : Array Slot), th_H D cT T (km q) H → va_S (th_A T [0]) s.heap H locs → lv_has ls 1 [(0, .ref a0)] → W p l e (rmk 1 22) s m [.ref a0].toArray below meth c H locs 0 0 (MQ below (th_QM D cT T (fun v q2 => v = none ∧ qkm q2 ∧ fr [30] q q2 ∧ (q2 30 ≠ 0)) [0]) [.ref a0].toArray s 0 0 (th_A T [0])) (F0 m 14 ls [.int 1, .ref a0]) := by
    intro H locs ls hH hS hl
    refine lv_aload_n hx hb dX11_misplaced_14 rfl (lv_at hl 0 rfl) ?_
    refine th_get S hK hH inG11 t0 km_0 rfl 6 (by decide) gm_1236 rfl rfl dX11_misplaced_15 (fun v1 hv1 fv1 => ?_)
    obtain ⟨x2, rfl, ix2⟩ := th_V.int hv1
    have kx2a : q 27 ≤ x2.toInt := ix2.1
    have kx2b : x2.toInt ≤ q 27 := ix2.2
    have ix2 : IV x2 0 1600 := iv_w ix2 (qkm_27 hq)
    refine th_callVM (n := 2) (As := [.int 1, .int x2]) S hK hH hS (th_A.sub (by decide)) (m_X11_fails l D cT T q hT hq a0 t0 (1) (iv_w (iv_c (by decide) : IV 1 1 1) (by decide)) (x2) (iv_top _)) gm_1507 gm_1504 gm_1506 gm_54 gm_124 (by decide +kernel) ⟨rfl, rfl, Nat.le_of_ble_eq_true rfl, Nat.le_of_ble_eq_true rfl⟩ t0 km_0 rfl rfl hl.1 rfl (Nat.le_of_ble_eq_true rfl) dX11_misplaced_18 ⟨Nat.zero_le _, Nat.zero_le _⟩ (fun wq3 q3 H locs hEq3 hH hS hF1 => ?_)
    obtain ⟨rfl, hqq3, g0q3, pq3_0⟩ := hEq3
    show W p l e (rmk 1 22) s m [.ref a0].toArray below meth c H locs 0 0 (MQ below (th_QM D cT T (fun v q2 => v = none ∧ qkm q2 ∧ fr [30] q q2 ∧ (q2 30 ≠ 0)) [0]) [.ref a0].toArray s 0 0 (th_A T [0])) (F0 m 21 ls [])
    have pq3_0 : q3 30 ≠ 0 := pq3_0
    have h0q3 : fr [30] q q3 := fr_tr fr_rf g0q3 (by decide)
    exact th_vretM S hK hH hS hr hlocks ⟨rfl, hqq3, h0q3, (show q3 30 ≠ 0 by omega)⟩ dX11_misplaced_21
  have J14_s1_2 : ∀ (H : Heap) (locs : List Loc) (ls : Array Slot), th_H D cT T (km q) H → va_S (th_A T [0]) s.heap H locs → lv_has ls 1 [(0, .ref a0)] → W p l e (rmk 1 22) s m [.ref a0].toArray below meth c H locs 0 0 (MQ below (th_QM D cT T (fun v q2 => v = none ∧ qkm q2 ∧ fr [30] q q2 ∧ (q2 30 ≠ 0)) [0]) [.ref a0].toArray s 0 0 (th_A T [0])) (F0 m 14 ls [.int 2, .ref a0]) := by
    intro H locs ls hH hS hl
    refine lv_aload_n hx hb dX11_misplaced_14 rfl (lv_at hl 0 rfl) ?_
    refine th_get S hK hH inG11 t0 km_0 rfl 6 (by decide) gm_1236 rfl rfl dX11_misplaced_15 (fun v4 hv4 fv4 => ?_)
    obtain ⟨x5, rfl, ix5⟩ := th_V.int hv4
    have kx5a : q 27 ≤ x5.toInt := ix5.1
    have kx5b : x5.toInt ≤ q 27 := ix5.2
    have ix5 : IV x5 0 1600 := iv_w ix5 (qkm_27 hq)
    refine th_callVM (n := 2) (As := [.int 2, .int x5]) S hK hH hS (th_A.sub (by decide)) (m_X11_fails l D cT T q hT hq a0 t0 (2) (iv_w (iv_c (by decide) : IV 2 2 2) (by decide)) (x5) (iv_top _)) gm_1507 gm_1504 gm_1506 gm_54 gm_124 (by decide +kernel) ⟨rfl, rfl, Nat.le_of_ble_eq_true rfl, Nat.le_of_ble_eq_true rfl⟩ t0 km_0 rfl rfl hl.1 rfl (Nat.le_of_ble_eq_true rfl) dX11_misplaced_18 ⟨Nat.zero_le _, Nat.zero_le _⟩ (fun wq6 q6 H locs hEq6 hH hS hF1 => ?_)
    obtain ⟨rfl, hqq6, g0q6, pq6_0⟩ := hEq6
    show W p l e (rmk 1 22) s m [.ref a0].toArray below meth c H locs 0 0 (MQ below (th_QM D cT T (fun v q2 => v = none ∧ qkm q2 ∧ fr [30] q q2 ∧ (q2 30 ≠ 0)) [0]) [.ref a0].toArray s 0 0 (th_A T [0])) (F0 m 21 ls [])
    have pq6_0 : q6 30 ≠ 0 := pq6_0
    have h0q6 : fr [30] q q6 := fr_tr fr_rf g0q6 (by decide)
    exact th_vretM S hK hH hS hr hlocks ⟨rfl, hqq6, h0q6, (show q6 30 ≠ 0 by omega)⟩ dX11_misplaced_21
  have J0 : ∀ (H : Heap) (locs : List Loc) (ls : Array Slot), th_H D cT T (km q) H → va_S (th_A T [0]) s.heap H locs → lv_has ls 1 [(0, .ref a0)] → W p l e (rmk 1 22) s m [.ref a0].toArray below meth c H locs 0 0 (MQ below (th_QM D cT T (fun v q2 => v = none ∧ qkm q2 ∧ fr [30] q q2 ∧ (q2 30 ≠ 0)) [0]) [.ref a0].toArray s 0 0 (th_A T [0])) (F0 m 0 ls []) := by
    intro H locs ls hH hS hl
    refine lv_aload_n hx hb dX11_misplaced_0 rfl (lv_at hl 0 rfl) ?_
    refine lv_aload_n hx hb dX11_misplaced_1 rfl (lv_at hl 0 rfl) ?_
    refine th_get S hK hH inG11 t0 km_0 rfl 8 (by decide) gm_1238 rfl rfl dX11_misplaced_2 (fun v7 hv7 fv7 => ?_)
    obtain ⟨x8, rfl, ix8⟩ := th_V.int hv7
    have kx8a : q 29 ≤ x8.toInt := ix8.1
    have kx8b : x8.toInt ≤ q 29 := ix8.2
    have ix8 : IV x8 0 5 := iv_w ix8 (qkm_29 hq)
    refine lv_iconst (v := 1) hx hb dX11_misplaced_5 (by decide) ?_
    refine lv_icmp_ne (tgt := 13) hx hb dX11_misplaced_6 (by decide) (fun c9 => ?_) (fun c9 => ?_)
    · skip
      have rlc9 : x8.toInt ≠ (1 : Int) := iv_ne c9
      refine lv_iconst (v := 2) hx hb dX11_misplaced_13 (by decide) ?_
      exact J14_s1_2 H locs ls  hH hS (lv_sub hl [0] rfl)
    · skip
      have rlc9 : x8.toInt = (1 : Int) := congrArg Int32.toInt c9
      have ir10 : IV x8 1 1 := iv_eL c9 (iv_c (by decide) : IV 1 1 1)
      have ir10a := ir10.1; have ir10b := ir10.2
      refine lv_iconst (v := 1) hx hb dX11_misplaced_9 (by decide) ?_
      refine lv_goto (tgt := 14) hx hb dX11_misplaced_10 (by decide) ?_
      exact J14_s1_1 H locs ls  hH hS (lv_sub hl [0] rfl)
  exact J0 s.heap [] ls hH va_S.rf hl

set_option maxHeartbeats 20000000 in
set_option maxRecDepth 100000 in
theorem m_X11_must (l : Launch) (D : va_G) (cT : Nat → ClassId) (T : Nat → Option Nat) (q : Nat → Int) (hT : tokm T) (hq : qkm q) (a0 : Nat) (t0 : T a0 = some 0) (y1 : Int32) (j1 : IV y1 0 1) (hp0 : (q 29 = 0 ∧ q 27 = q 26 ∧ q 28 = q 26) ∨ (1 ≤ q 29 ∧ q 27 < q 28 ∧ q 28 ≤ q 26)) : th_MetM l D cT T q yX11_must cX11_must 2 none (rmk 2 44) [.ref a0, .int y1] (fun v q2 => v = none ∧ qkm q2 ∧ fr [27, 28, 29, 30, 31] q q2 ∧ ((q2 29 = 0 ∧ q2 27 = q2 26 ∧ q2 28 = q2 26) ∨ (1 ≤ q2 29 ∧ q2 27 < q2 28 ∧ q2 28 ≤ q2 26)) ∧ (q2 30 = 0 → q2 29 = 3 → sg q2 (q2 28) < 97 ∨ 122 < sg q2 (q2 28)) ∧ (q2 30 = 0 → q2 29 = 3 → q2 31 = 7237492 → q2 27 + 3 ≤ q2 28) ∧ (q 27 ≤ q2 27) ∧ (q2 30 = 0 → q 30 = 0 ∧ y1.toInt ≠ 0 ∧ q 28 ≤ q2 27)) [0] := by
  refine th_startM (by decide) (Nat.le_of_ble_eq_true rfl) ?_
  intro p e s m below meth c ls S hK hH hr hlocks hnm hl
  have hx := S.1
  have hb := S.2.1
  have l1y1 := j1.1; have l2y1 := j1.2
  have hl : lv_has ls 2 [(0, .ref a0), (1, .int y1)] := hl
  have J23 : ∀ (q23 : Nat → Int) (H : Heap) (locs : List Loc) (ls : Array Slot), qkm q23 → fr [27, 28, 29, 30, 31] q q23 → ((q23 29 = 0 ∧ q23 27 = q23 26 ∧ q23 28 = q23 26) ∨ (1 ≤ q23 29 ∧ q23 27 < q23 28 ∧ q23 28 ≤ q23 26)) → (q23 30 = 0 → q23 29 = 3 → sg q23 (q23 28) < 97 ∨ 122 < sg q23 (q23 28)) → (q23 30 = 0 → q23 29 = 3 → q23 31 = 7237492 → q23 27 + 3 ≤ q23 28) → (q 27 ≤ q23 27) → (q23 30 = 0 → q 30 = 0 ∧ y1.toInt ≠ 0 ∧ q 28 ≤ q23 27) → th_H D cT T (km q23) H → va_S (th_A T [0]) s.heap H locs → lv_has ls 2 [] → W p l e (rmk 2 44) s m [.ref a0, .int y1].toArray below meth c H locs 0 0 (MQ below (th_QM D cT T (fun v q2 => v = none ∧ qkm q2 ∧ fr [27, 28, 29, 30, 31] q q2 ∧ ((q2 29 = 0 ∧ q2 27 = q2 26 ∧ q2 28 = q2 26) ∨ (1 ≤ q2 29 ∧ q2 27 < q2 28 ∧ q2 28 ≤ q2 26)) ∧ (q2 30 = 0 → q2 29 = 3 → sg q2 (q2 28) < 97 ∨ 122 < sg q2 (q2 28)) ∧ (q2 30 = 0 → q2 29 = 3 → q2 31 = 7237492 → q2 27 + 3 ≤ q2 28) ∧ (q 27 ≤ q2 27) ∧ (q2 30 = 0 → q 30 = 0 ∧ y1.toInt ≠ 0 ∧ q 28 ≤ q2 27)) [0]) [.ref a0, .int y1].toArray s 0 0 (th_A T [0])) (F0 m 23 ls []) := by
    intro q23 H locs ls hq23 h023 v23_inv0 v23_inv1 v23_inv2 v23_inv3 v23_inv4 hH hS hl
    have w23_26 : q23 26 = q 26 := h023 26 (by decide) (Or.inl (by decide))
    exact th_vretM S hK hH hS hr hlocks ⟨rfl, hq23, h023, (show (q23 29 = 0 ∧ q23 27 = q23 26 ∧ q23 28 = q23 26) ∨ (1 ≤ q23 29 ∧ q23 27 < q23 28 ∧ q23 28 ≤ q23 26) by omega), (show q23 30 = 0 → q23 29 = 3 → sg q23 (q23 28) < 97 ∨ 122 < sg q23 (q23 28) by first | assumption | (intro z; exact absurd z (by omega)) | (intro _; assumption)), (show q23 30 = 0 → q23 29 = 3 → q23 31 = 7237492 → q23 27 + 3 ≤ q23 28 by first | assumption | omega), (show q 27 ≤ q23 27 by omega), (show q23 30 = 0 → q 30 = 0 ∧ y1.toInt ≠ 0 ∧ q 28 ≤ q23 27 by omega)⟩ dX11_must_23
  have J0 : ∀ (H : Heap) (locs : List Loc) (ls : Array Slot), th_H D cT T (km q) H → va_S (th_A T [0]) s.heap H locs → lv_has ls 2 [(0, .ref a0), (1, .int y1)] → W p l e (rmk 2 44) s m [.ref a0, .int y1].toArray below meth c H locs 0 0 (MQ below (th_QM D cT T (fun v q2 => v = none ∧ qkm q2 ∧ fr [27, 28, 29, 30, 31] q q2 ∧ ((q2 29 = 0 ∧ q2 27 = q2 26 ∧ q2 28 = q2 26) ∨ (1 ≤ q2 29 ∧ q2 27 < q2 28 ∧ q2 28 ≤ q2 26)) ∧ (q2 30 = 0 → q2 29 = 3 → sg q2 (q2 28) < 97 ∨ 122 < sg q2 (q2 28)) ∧ (q2 30 = 0 → q2 29 = 3 → q2 31 = 7237492 → q2 27 + 3 ≤ q2 28) ∧ (q 27 ≤ q2 27) ∧ (q2 30 = 0 → q 30 = 0 ∧ y1.toInt ≠ 0 ∧ q 28 ≤ q2 27)) [0]) [.ref a0, .int y1].toArray s 0 0 (th_A T [0])) (F0 m 0 ls []) := by
    intro H locs ls hH hS hl
    refine lv_aload_n hx hb dX11_must_0 rfl (lv_at hl 0 rfl) ?_
    refine th_callVp (n := 0) (As := []) S hK hH hS (th_A.sub (by decide)) (m_X11_isGood l D cT T q hT hq a0 t0) gm_1487 gm_1484 gm_1486 gm_49 gm_124 (by decide +kernel) ⟨rfl, rfl, Nat.le_of_ble_eq_true rfl, Nat.le_of_ble_eq_true rfl⟩ t0 km_0 rfl rfl hl.1 rfl (Nat.le_of_ble_eq_true rfl) dX11_must_1 ⟨Nat.zero_le _, Nat.zero_le _⟩ (fun x1 H locs ix1 ox1 hH hS hF1 => ?_)
    obtain ⟨ox1_0, ox1_1⟩ := ox1
    have ox1_0 : x1.toInt ≠ 0 → q 30 = 0 := ox1_0
    have ox1_1 : x1.toInt = 0 → q 30 ≠ 0 := ox1_1
    have l1x1 := ix1.1; have l2x1 := ix1.2
    refine lv_if_ne (tgt := 8) hx hb dX11_must_4 (by decide) (fun c2 => ?_) (fun c2 => ?_)
    · skip
      have rlc2 : x1.toInt ≠ (0 : Int) := iv_ne c2
      have ir3 : IV x1 1 1 := iv_cutL ix1 (iv_c (by decide) : IV 0 0 0) c2 (by decide)
      have ir3a := ir3.1; have ir3b := ir3.2
      refine lv_iload_n hx hb dX11_must_8 rfl (lv_at hl 1 rfl) ?_
      refine lv_if_eq (tgt := 19) hx hb dX11_must_9 (by decide) (fun c4 => ?_) (fun c4 => ?_)
      · skip
        have rlc4 : y1.toInt = (0 : Int) := congrArg Int32.toInt c4
        have ir5 : IV y1 0 0 := iv_eL c4 (iv_c (by decide) : IV 0 0 0)
        have ir5a := ir5.1; have ir5b := ir5.2
        refine lv_aload_n hx hb dX11_must_19 rfl (lv_at hl 0 rfl) ?_
        refine th_callVM (n := 0) (As := []) S hK hH hS (th_A.sub (by decide)) (m_X11_misplaced l D cT T q hT hq a0 t0) gm_1503 gm_1500 gm_1502 gm_53 gm_124 (by decide +kernel) ⟨rfl, rfl, Nat.le_of_ble_eq_true rfl, Nat.le_of_ble_eq_true rfl⟩ t0 km_0 rfl rfl hl.1 rfl (Nat.le_of_ble_eq_true rfl) dX11_must_20 ⟨Nat.zero_le _, Nat.zero_le _⟩ (fun wq6 q6 H locs hEq6 hH hS hF1 => ?_)
        obtain ⟨rfl, hqq6, g0q6, pq6_0⟩ := hEq6
        show W p l e (rmk 2 44) s m [.ref a0, .int y1].toArray below meth c H locs 0 0 (MQ below (th_QM D cT T (fun v q2 => v = none ∧ qkm q2 ∧ fr [27, 28, 29, 30, 31] q q2 ∧ ((q2 29 = 0 ∧ q2 27 = q2 26 ∧ q2 28 = q2 26) ∨ (1 ≤ q2 29 ∧ q2 27 < q2 28 ∧ q2 28 ≤ q2 26)) ∧ (q2 30 = 0 → q2 29 = 3 → sg q2 (q2 28) < 97 ∨ 122 < sg q2 (q2 28)) ∧ (q2 30 = 0 → q2 29 = 3 → q2 31 = 7237492 → q2 27 + 3 ≤ q2 28) ∧ (q 27 ≤ q2 27) ∧ (q2 30 = 0 → q 30 = 0 ∧ y1.toInt ≠ 0 ∧ q 28 ≤ q2 27)) [0]) [.ref a0, .int y1].toArray s 0 0 (th_A T [0])) (F0 m 23 ls [])
        have pq6_0 : q6 30 ≠ 0 := pq6_0
        have wq6_26 : q6 26 = q 26 := g0q6 26 (by decide) (Or.inl (by decide))
        have wq6_27 : q6 27 = q 27 := g0q6 27 (by decide) (Or.inl (by decide))
        have wq6_28 : q6 28 = q 28 := g0q6 28 (by decide) (Or.inl (by decide))
        have wq6_29 : q6 29 = q 29 := g0q6 29 (by decide) (Or.inl (by decide))
        have wq6_31 : q6 31 = q 31 := g0q6 31 (by decide) (Or.inl (by decide))
        have h0q6 : fr [27, 28, 29, 30, 31] q q6 := fr_tr fr_rf g0q6 (by decide)
        exact J23 q6 H locs ls hqq6 h0q6 (show (q6 29 = 0 ∧ q6 27 = q6 26 ∧ q6 28 = q6 26) ∨ (1 ≤ q6 29 ∧ q6 27 < q6 28 ∧ q6 28 ≤ q6 26) by omega) (show q6 30 = 0 → q6 29 = 3 → sg q6 (q6 28) < 97 ∨ 122 < sg q6 (q6 28) by first | assumption | (intro z; exact absurd z (by omega)) | (intro _; assumption)) (show q6 30 = 0 → q6 29 = 3 → q6 31 = 7237492 → q6 27 + 3 ≤ q6 28 by first | assumption | omega) (show q 27 ≤ q6 27 by omega) (show q6 30 = 0 → q 30 = 0 ∧ y1.toInt ≠ 0 ∧ q 28 ≤ q6 27 by omega) hH hS (lv_sub hl [] rfl)
      · skip
        have rlc4 : y1.toInt ≠ (0 : Int) := iv_ne c4
        have ir7 : IV y1 1 1 := iv_cutL j1 (iv_c (by decide) : IV 0 0 0) c4 (by decide)
        have ir7a := ir7.1; have ir7b := ir7.2
        refine lv_aload_n hx hb dX11_must_12 rfl (lv_at hl 0 rfl) ?_
        refine th_callVM (n := 0) (As := []) S hK hH hS (th_A.sub (by decide)) (m_X11_goOn l D cT T q hT hq a0 t0 (show q 28 ≤ q 26 by omega)) gm_1445 gm_1442 gm_1444 gm_47 gm_124 (by decide +kernel) ⟨rfl, rfl, Nat.le_of_ble_eq_true rfl, Nat.le_of_ble_eq_true rfl⟩ t0 km_0 rfl rfl hl.1 rfl (Nat.le_of_ble_eq_true rfl) dX11_must_13 ⟨Nat.zero_le _, Nat.zero_le _⟩ (fun wq8 q8 H locs hEq8 hH hS hF1 => ?_)
        obtain ⟨rfl, hqq8, g0q8, pq8_0, pq8_1, pq8_2, pq8_3, pq8_4⟩ := hEq8
        show W p l e (rmk 2 44) s m [.ref a0, .int y1].toArray below meth c H locs 0 0 (MQ below (th_QM D cT T (fun v q2 => v = none ∧ qkm q2 ∧ fr [27, 28, 29, 30, 31] q q2 ∧ ((q2 29 = 0 ∧ q2 27 = q2 26 ∧ q2 28 = q2 26) ∨ (1 ≤ q2 29 ∧ q2 27 < q2 28 ∧ q2 28 ≤ q2 26)) ∧ (q2 30 = 0 → q2 29 = 3 → sg q2 (q2 28) < 97 ∨ 122 < sg q2 (q2 28)) ∧ (q2 30 = 0 → q2 29 = 3 → q2 31 = 7237492 → q2 27 + 3 ≤ q2 28) ∧ (q 27 ≤ q2 27) ∧ (q2 30 = 0 → q 30 = 0 ∧ y1.toInt ≠ 0 ∧ q 28 ≤ q2 27)) [0]) [.ref a0, .int y1].toArray s 0 0 (th_A T [0])) (F0 m 16 ls [])
        have pq8_0 : (q8 29 = 0 ∧ q8 27 = q8 26 ∧ q8 28 = q8 26) ∨ (1 ≤ q8 29 ∧ q8 27 < q8 28 ∧ q8 28 ≤ q8 26) := pq8_0
        have pq8_1 : q8 29 = 3 → sg q8 (q8 28) < 97 ∨ 122 < sg q8 (q8 28) := pq8_1
        have pq8_2 : q8 29 = 3 → q8 31 = 7237492 → q8 27 + 3 ≤ q8 28 := pq8_2
        have pq8_3 : q 28 ≤ q8 27 := pq8_3
        have pq8_4 : q8 29 = 3 → 97 ≤ sg q (q8 27) ∧ sg q (q8 27) ≤ 122 := pq8_4
        have wq8_26 : q8 26 = q 26 := g0q8 26 (by decide) (Or.inl (by decide))
        have wq8_30 : q8 30 = q 30 := g0q8 30 (by decide) (Or.inl (by decide))
        have h0q8 : fr [27, 28, 29, 30, 31] q q8 := fr_tr fr_rf g0q8 (by decide)
        refine lv_goto (tgt := 23) hx hb dX11_must_16 (by decide) ?_
        exact J23 q8 H locs ls hqq8 h0q8 (show (q8 29 = 0 ∧ q8 27 = q8 26 ∧ q8 28 = q8 26) ∨ (1 ≤ q8 29 ∧ q8 27 < q8 28 ∧ q8 28 ≤ q8 26) by omega) (show q8 30 = 0 → q8 29 = 3 → sg q8 (q8 28) < 97 ∨ 122 < sg q8 (q8 28) by first | assumption | (intro z; exact absurd z (by omega)) | (intro _; assumption)) (show q8 30 = 0 → q8 29 = 3 → q8 31 = 7237492 → q8 27 + 3 ≤ q8 28 by first | assumption | omega) (show q 27 ≤ q8 27 by omega) (show q8 30 = 0 → q 30 = 0 ∧ y1.toInt ≠ 0 ∧ q 28 ≤ q8 27 by omega) hH hS (lv_sub hl [] rfl)
    · skip
      have rlc2 : x1.toInt = (0 : Int) := congrArg Int32.toInt c2
      have ir9 : IV x1 0 0 := iv_eL c2 (iv_c (by decide) : IV 0 0 0)
      have ir9a := ir9.1; have ir9b := ir9.2
      exact th_vretM S hK hH hS hr hlocks ⟨rfl, hq, fr_rf, (show (q 29 = 0 ∧ q 27 = q 26 ∧ q 28 = q 26) ∨ (1 ≤ q 29 ∧ q 27 < q 28 ∧ q 28 ≤ q 26) by omega), (show q 30 = 0 → q 29 = 3 → sg q (q 28) < 97 ∨ 122 < sg q (q 28) by first | assumption | (intro z; exact absurd z (by omega)) | (intro _; assumption)), (show q 30 = 0 → q 29 = 3 → q 31 = 7237492 → q 27 + 3 ≤ q 28 by first | assumption | omega), (show q 27 ≤ q 27 by omega), (show q 30 = 0 → q 30 = 0 ∧ y1.toInt ≠ 0 ∧ q 28 ≤ q 27 by omega)⟩ dX11_must_7
  exact J0 s.heap [] ls hH va_S.rf hl

set_option maxHeartbeats 20000000 in
set_option maxRecDepth 100000 in
theorem m_X11_numeral (l : Launch) (D : va_G) (cT : Nat → ClassId) (T : Nat → Option Nat) (q : Nat → Int) (hT : tokm T) (hq : qkm q) (a0 : Nat) (t0 : T a0 = some 0) (y1 : Int32) (j1 : IV y1 (-2147483648) 2147483647) (y2 : Int32) (j2 : IV y2 (-2147483648) 2147483647) (hp0 : (q 29 = 0 ∧ q 27 = q 26 ∧ q 28 = q 26) ∨ (1 ≤ q 29 ∧ q 27 < q 28 ∧ q 28 ≤ q 26)) : th_MetM l D cT T q yX11_numeral cX11_numeral 4 (some .int) (rmk 2 44) [.ref a0, .int y1, .int y2] (fun v q2 => ∃ r : Int32, v = some (.int r) ∧ IV r (-2147483648) 2147483647 ∧ qkm q2 ∧ fr [27, 28, 29, 30, 31] q q2 ∧ ((q2 29 = 0 ∧ q2 27 = q2 26 ∧ q2 28 = q2 26) ∨ (1 ≤ q2 29 ∧ q2 27 < q2 28 ∧ q2 28 ≤ q2 26)) ∧ (q2 30 = 0 → q2 29 = 3 → sg q2 (q2 28) < 97 ∨ 122 < sg q2 (q2 28)) ∧ (q2 30 = 0 → q2 29 = 3 → q2 31 = 7237492 → q2 27 + 3 ≤ q2 28) ∧ (q 27 ≤ q2 27) ∧ (q2 30 = 0 → q 30 = 0 ∧ q 28 ≤ q2 27 ∧ q 29 ≠ 0)) [0] := by
  refine th_startM (by decide) (Nat.le_of_ble_eq_true rfl) ?_
  intro p e s m below meth c ls S hK hH hr hlocks hnm hl
  have hx := S.1
  have hb := S.2.1
  have hl : lv_has ls 4 [(0, .ref a0), (1, .int y1), (2, .int y2)] := hl
  have J81 : ∀ (q81 : Nat → Int) (H : Heap) (locs : List Loc) (ls : Array Slot) (w81_0 : Int32), qkm q81 → fr [27, 28, 29, 30, 31] q q81 → IV w81_0 (-2147483648) 2147483647 → ((q81 29 = 0 ∧ q81 27 = q81 26 ∧ q81 28 = q81 26) ∨ (1 ≤ q81 29 ∧ q81 27 < q81 28 ∧ q81 28 ≤ q81 26)) → (q81 30 = 0 → q81 29 = 3 → sg q81 (q81 28) < 97 ∨ 122 < sg q81 (q81 28)) → (q81 30 = 0 → q81 29 = 3 → q81 31 = 7237492 → q81 27 + 3 ≤ q81 28) → (q 27 ≤ q81 27) → (q81 30 = 0 → q 30 = 0 ∧ q 28 ≤ q81 27 ∧ q 29 ≠ 0) → th_H D cT T (km q81) H → va_S (th_A T [0]) s.heap H locs → lv_has ls 4 [] → W p l e (rmk 2 44) s m [.ref a0, .int y1, .int y2].toArray below meth c H locs 0 0 (MQ below (th_QM D cT T (fun v q2 => ∃ r : Int32, v = some (.int r) ∧ IV r (-2147483648) 2147483647 ∧ qkm q2 ∧ fr [27, 28, 29, 30, 31] q q2 ∧ ((q2 29 = 0 ∧ q2 27 = q2 26 ∧ q2 28 = q2 26) ∨ (1 ≤ q2 29 ∧ q2 27 < q2 28 ∧ q2 28 ≤ q2 26)) ∧ (q2 30 = 0 → q2 29 = 3 → sg q2 (q2 28) < 97 ∨ 122 < sg q2 (q2 28)) ∧ (q2 30 = 0 → q2 29 = 3 → q2 31 = 7237492 → q2 27 + 3 ≤ q2 28) ∧ (q 27 ≤ q2 27) ∧ (q2 30 = 0 → q 30 = 0 ∧ q 28 ≤ q2 27 ∧ q 29 ≠ 0)) [0]) [.ref a0, .int y1, .int y2].toArray s 0 0 (th_A T [0])) (F0 m 81 ls [.int w81_0]) := by
    intro q81 H locs ls w81_0 hq81 h081 iw81_0 v81_inv0 v81_inv1 v81_inv2 v81_inv3 v81_inv4 hH hS hl
    have w81_26 : q81 26 = q 26 := h081 26 (by decide) (Or.inl (by decide))
    exact th_iretM S hK hH hS hr hlocks ⟨_, rfl, iw81_0, hq81, h081, (show (q81 29 = 0 ∧ q81 27 = q81 26 ∧ q81 28 = q81 26) ∨ (1 ≤ q81 29 ∧ q81 27 < q81 28 ∧ q81 28 ≤ q81 26) by omega), (show q81 30 = 0 → q81 29 = 3 → sg q81 (q81 28) < 97 ∨ 122 < sg q81 (q81 28) by first | assumption | (intro z; exact absurd z (by omega)) | (intro _; assumption)), (show q81 30 = 0 → q81 29 = 3 → q81 31 = 7237492 → q81 27 + 3 ≤ q81 28 by first | assumption | omega), (show q 27 ≤ q81 27 by omega), (show q81 30 = 0 → q 30 = 0 ∧ q 28 ≤ q81 27 ∧ q 29 ≠ 0 by omega)⟩ dX11_numeral_81
  have J69 : ∀ (q69 : Nat → Int) (H : Heap) (locs : List Loc) (ls : Array Slot) (v69_3 : Int32), qkm q69 → fr [27, 28, 29, 30, 31] q q69 → IV v69_3 (-2147483648) 2147483647 → ((q69 29 = 0 ∧ q69 27 = q69 26 ∧ q69 28 = q69 26) ∨ (1 ≤ q69 29 ∧ q69 27 < q69 28 ∧ q69 28 ≤ q69 26)) → (q69 30 = 0 → q69 29 = 3 → sg q69 (q69 28) < 97 ∨ 122 < sg q69 (q69 28)) → (q69 30 = 0 → q69 29 = 3 → q69 31 = 7237492 → q69 27 + 3 ≤ q69 28) → (q 27 ≤ q69 27) → (q69 30 = 0 → q 30 = 0 ∧ q 28 ≤ q69 27 ∧ q 29 ≠ 0) → th_H D cT T (km q69) H → va_S (th_A T [0]) s.heap H locs → lv_has ls 4 [(0, .ref a0), (1, .int y1), (3, .int v69_3)] → W p l e (rmk 2 44) s m [.ref a0, .int y1, .int y2].toArray below meth c H locs 0 0 (MQ below (th_QM D cT T (fun v q2 => ∃ r : Int32, v = some (.int r) ∧ IV r (-2147483648) 2147483647 ∧ qkm q2 ∧ fr [27, 28, 29, 30, 31] q q2 ∧ ((q2 29 = 0 ∧ q2 27 = q2 26 ∧ q2 28 = q2 26) ∨ (1 ≤ q2 29 ∧ q2 27 < q2 28 ∧ q2 28 ≤ q2 26)) ∧ (q2 30 = 0 → q2 29 = 3 → sg q2 (q2 28) < 97 ∨ 122 < sg q2 (q2 28)) ∧ (q2 30 = 0 → q2 29 = 3 → q2 31 = 7237492 → q2 27 + 3 ≤ q2 28) ∧ (q 27 ≤ q2 27) ∧ (q2 30 = 0 → q 30 = 0 ∧ q 28 ≤ q2 27 ∧ q 29 ≠ 0)) [0]) [.ref a0, .int y1, .int y2].toArray s 0 0 (th_A T [0])) (F0 m 69 ls []) := by
    intro q69 H locs ls v69_3 hq69 h069 iv69_3 v69_inv0 v69_inv1 v69_inv2 v69_inv3 v69_inv4 hH hS hl
    have w69_26 : q69 26 = q 26 := h069 26 (by decide) (Or.inl (by decide))
    refine lv_aload_n hx hb dX11_numeral_69 rfl (lv_at hl 0 rfl) ?_
    refine th_callVp (n := 0) (As := []) S hK hH hS (th_A.sub (by decide)) (m_X11_isGood l D cT T q69 hT hq69 a0 t0) gm_1487 gm_1484 gm_1486 gm_49 gm_124 (by decide +kernel) ⟨rfl, rfl, Nat.le_of_ble_eq_true rfl, Nat.le_of_ble_eq_true rfl⟩ t0 km_0 rfl rfl hl.1 rfl (Nat.le_of_ble_eq_true rfl) dX11_numeral_70 ⟨Nat.zero_le _, Nat.zero_le _⟩ (fun x1 H locs ix1 ox1 hH hS hF1 => ?_)
    obtain ⟨ox1_0, ox1_1⟩ := ox1
    have ox1_0 : x1.toInt ≠ 0 → q69 30 = 0 := ox1_0
    have ox1_1 : x1.toInt = 0 → q69 30 ≠ 0 := ox1_1
    have l1x1 := ix1.1; have l2x1 := ix1.2
    refine lv_if_eq (tgt := 80) hx hb dX11_numeral_73 (by decide) (fun c2 => ?_) (fun c2 => ?_)
    · skip
      have rlc2 : x1.toInt = (0 : Int) := congrArg Int32.toInt c2
      have ir3 : IV x1 0 0 := iv_eL c2 (iv_c (by decide) : IV 0 0 0)
      have ir3a := ir3.1; have ir3b := ir3.2
      refine lv_iload_n hx hb dX11_numeral_80 rfl (lv_at hl 1 rfl) ?_
      exact J81 q69 H locs ls y1 hq69 h069 j1 (show (q69 29 = 0 ∧ q69 27 = q69 26 ∧ q69 28 = q69 26) ∨ (1 ≤ q69 29 ∧ q69 27 < q69 28 ∧ q69 28 ≤ q69 26) by omega) (show q69 30 = 0 → q69 29 = 3 → sg q69 (q69 28) < 97 ∨ 122 < sg q69 (q69 28) by first | assumption | (intro z; exact absurd z (by omega)) | (intro _; assumption)) (show q69 30 = 0 → q69 29 = 3 → q69 31 = 7237492 → q69 27 + 3 ≤ q69 28 by first | assumption | omega) (show q 27 ≤ q69 27 by omega) (show q69 30 = 0 → q 30 = 0 ∧ q 28 ≤ q69 27 ∧ q 29 ≠ 0 by omega) hH hS (lv_sub hl [] rfl)
    · skip
      have rlc2 : x1.toInt ≠ (0 : Int) := iv_ne c2
      have ir4 : IV x1 1 1 := iv_cutL ix1 (iv_c (by decide) : IV 0 0 0) c2 (by decide)
      have ir4a := ir4.1; have ir4b := ir4.2
      refine lv_iload_n hx hb dX11_numeral_76 rfl (lv_at hl 2 rfl) ?_
      refine lv_goto (tgt := 81) hx hb dX11_numeral_77 (by decide) ?_
      exact J81 q69 H locs ls v69_3 hq69 h069 iv69_3 (show (q69 29 = 0 ∧ q69 27 = q69 26 ∧ q69 28 = q69 26) ∨ (1 ≤ q69 29 ∧ q69 27 < q69 28 ∧ q69 28 ≤ q69 26) by omega) (show q69 30 = 0 → q69 29 = 3 → sg q69 (q69 28) < 97 ∨ 122 < sg q69 (q69 28) by first | assumption | (intro z; exact absurd z (by omega)) | (intro _; assumption)) (show q69 30 = 0 → q69 29 = 3 → q69 31 = 7237492 → q69 27 + 3 ≤ q69 28 by first | assumption | omega) (show q 27 ≤ q69 27 by omega) (show q69 30 = 0 → q 30 = 0 ∧ q 28 ≤ q69 27 ∧ q 29 ≠ 0 by omega) hH hS (lv_sub hl [] rfl)
  have J53 : ∀ (q53 : Nat → Int) (H : Heap) (locs : List Loc) (ls : Array Slot), qkm q53 → fr [27, 28, 29, 30, 31] q q53 → (q53 27 = q 27 ∧ q53 28 = q 28 ∧ q53 29 = q 29) → (q53 30 = 0 → q 30 = 0 ∧ q 29 = 4) → th_H D cT T (km q53) H → va_S (th_A T [0]) s.heap H locs → lv_has ls 4 [(0, .ref a0), (1, .int y1)] → W p l e (rmk 2 44) s m [.ref a0, .int y1, .int y2].toArray below meth c H locs 0 0 (MQ below (th_QM D cT T (fun v q2 => ∃ r : Int32, v = some (.int r) ∧ IV r (-2147483648) 2147483647 ∧ qkm q2 ∧ fr [27, 28, 29, 30, 31] q q2 ∧ ((q2 29 = 0 ∧ q2 27 = q2 26 ∧ q2 28 = q2 26) ∨ (1 ≤ q2 29 ∧ q2 27 < q2 28 ∧ q2 28 ≤ q2 26)) ∧ (q2 30 = 0 → q2 29 = 3 → sg q2 (q2 28) < 97 ∨ 122 < sg q2 (q2 28)) ∧ (q2 30 = 0 → q2 29 = 3 → q2 31 = 7237492 → q2 27 + 3 ≤ q2 28) ∧ (q 27 ≤ q2 27) ∧ (q2 30 = 0 → q 30 = 0 ∧ q 28 ≤ q2 27 ∧ q 29 ≠ 0)) [0]) [.ref a0, .int y1, .int y2].toArray s 0 0 (th_A T [0])) (F0 m 53 ls []) := by
    intro q53 H locs ls hq53 h053 v53_inv0 v53_inv1 hH hS hl
    have w53_26 : q53 26 = q 26 := h053 26 (by decide) (Or.inl (by decide))
    refine lv_aload_n hx hb dX11_numeral_53 rfl (lv_at hl 0 rfl) ?_
    refine th_get S hK hH inG11 t0 km_0 rfl 9 (by decide) gm_1239 rfl rfl dX11_numeral_54 (fun v5 hv5 fv5 => ?_)
    obtain ⟨x6, rfl, ix6⟩ := th_V.int hv5
    refine lv_istore_n (lv' := [(3, .int x6), (0, .ref a0), (1, .int y1)]) hx hb dX11_numeral_57 rfl hl (by decide) rfl (fun ls hl => ?_)
    refine lv_aload_n hx hb dX11_numeral_58 rfl (lv_at hl 1 rfl) ?_
    refine th_callVp (n := 0) (As := []) S hK hH hS (th_A.sub (by decide)) (m_X11_isGood l D cT T q53 hT hq53 a0 t0) gm_1487 gm_1484 gm_1486 gm_49 gm_124 (by decide +kernel) ⟨rfl, rfl, Nat.le_of_ble_eq_true rfl, Nat.le_of_ble_eq_true rfl⟩ t0 km_0 rfl rfl hl.1 rfl (Nat.le_of_ble_eq_true rfl) dX11_numeral_59 ⟨Nat.zero_le _, Nat.zero_le _⟩ (fun x7 H locs ix7 ox7 hH hS hF1 => ?_)
    obtain ⟨ox7_0, ox7_1⟩ := ox7
    have ox7_0 : x7.toInt ≠ 0 → q53 30 = 0 := ox7_0
    have ox7_1 : x7.toInt = 0 → q53 30 ≠ 0 := ox7_1
    have l1x7 := ix7.1; have l2x7 := ix7.2
    have f8 := fv5.kept (hF1 _ fv5.lt (th_off t0 (by decide)))
    refine lv_if_eq (tgt := 69) hx hb dX11_numeral_62 (by decide) (fun c9 => ?_) (fun c9 => ?_)
    · skip
      have rlc9 : x7.toInt = (0 : Int) := congrArg Int32.toInt c9
      have ir10 : IV x7 0 0 := iv_eL c9 (iv_c (by decide) : IV 0 0 0)
      have ir10a := ir10.1; have ir10b := ir10.2
      exact J69 q53 H locs ls x6 hq53 h053 ix6 (show (q53 29 = 0 ∧ q53 27 = q53 26 ∧ q53 28 = q53 26) ∨ (1 ≤ q53 29 ∧ q53 27 < q53 28 ∧ q53 28 ≤ q53 26) by omega) (show q53 30 = 0 → q53 29 = 3 → sg q53 (q53 28) < 97 ∨ 122 < sg q53 (q53 28) by first | assumption | (intro z; exact absurd z (by omega)) | (intro _; assumption)) (show q53 30 = 0 → q53 29 = 3 → q53 31 = 7237492 → q53 27 + 3 ≤ q53 28 by first | assumption | omega) (show q 27 ≤ q53 27 by omega) (show q53 30 = 0 → q 30 = 0 ∧ q 28 ≤ q53 27 ∧ q 29 ≠ 0 by omega) hH hS (lv_sub hl [1, 2, 0] rfl)
    · skip
      have rlc9 : x7.toInt ≠ (0 : Int) := iv_ne c9
      have ir11 : IV x7 1 1 := iv_cutL ix7 (iv_c (by decide) : IV 0 0 0) c9 (by decide)
      have ir11a := ir11.1; have ir11b := ir11.2
      refine lv_aload_n hx hb dX11_numeral_65 rfl (lv_at hl 1 rfl) ?_
      refine th_callVM (n := 0) (As := []) S hK hH hS (th_A.sub (by decide)) (m_X11_goOn l D cT T q53 hT hq53 a0 t0 (show q53 28 ≤ q53 26 by omega)) gm_1445 gm_1442 gm_1444 gm_47 gm_124 (by decide +kernel) ⟨rfl, rfl, Nat.le_of_ble_eq_true rfl, Nat.le_of_ble_eq_true rfl⟩ t0 km_0 rfl rfl hl.1 rfl (Nat.le_of_ble_eq_true rfl) dX11_numeral_66 ⟨Nat.zero_le _, Nat.zero_le _⟩ (fun wq12 q12 H locs hEq12 hH hS hF1 => ?_)
      obtain ⟨rfl, hqq12, g0q12, pq12_0, pq12_1, pq12_2, pq12_3, pq12_4⟩ := hEq12
      show W p l e (rmk 2 44) s m [.ref a0, .int y1, .int y2].toArray below meth c H locs 0 0 (MQ below (th_QM D cT T (fun v q2 => ∃ r : Int32, v = some (.int r) ∧ IV r (-2147483648) 2147483647 ∧ qkm q2 ∧ fr [27, 28, 29, 30, 31] q q2 ∧ ((q2 29 = 0 ∧ q2 27 = q2 26 ∧ q2 28 = q2 26) ∨ (1 ≤ q2 29 ∧ q2 27 < q2 28 ∧ q2 28 ≤ q2 26)) ∧ (q2 30 = 0 → q2 29 = 3 → sg q2 (q2 28) < 97 ∨ 122 < sg q2 (q2 28)) ∧ (q2 30 = 0 → q2 29 = 3 → q2 31 = 7237492 → q2 27 + 3 ≤ q2 28) ∧ (q 27 ≤ q2 27) ∧ (q2 30 = 0 → q 30 = 0 ∧ q 28 ≤ q2 27 ∧ q 29 ≠ 0)) [0]) [.ref a0, .int y1, .int y2].toArray s 0 0 (th_A T [0])) (F0 m 69 ls [])
      have pq12_0 : (q12 29 = 0 ∧ q12 27 = q12 26 ∧ q12 28 = q12 26) ∨ (1 ≤ q12 29 ∧ q12 27 < q12 28 ∧ q12 28 ≤ q12 26) := pq12_0
      have pq12_1 : q12 29 = 3 → sg q12 (q12 28) < 97 ∨ 122 < sg q12 (q12 28) := pq12_1
      have pq12_2 : q12 29 = 3 → q12 31 = 7237492 → q12 27 + 3 ≤ q12 28 := pq12_2
      have pq12_3 : q53 28 ≤ q12 27 := pq12_3
      have pq12_4 : q12 29 = 3 → 97 ≤ sg q53 (q12 27) ∧ sg q53 (q12 27) ≤ 122 := pq12_4
      have wq12_26 : q12 26 = q53 26 := g0q12 26 (by decide) (Or.inl (by decide))
      have wq12_30 : q12 30 = q53 30 := g0q12 30 (by decide) (Or.inl (by decide))
      have h0q12 : fr [27, 28, 29, 30, 31] q q12 := fr_tr h053 g0q12 (by decide)
      exact J69 q12 H locs ls x6 hqq12 h0q12 ix6 (show (q12 29 = 0 ∧ q12 27 = q12 26 ∧ q12 28 = q12 26) ∨ (1 ≤ q12 29 ∧ q12 27 < q12 28 ∧ q12 28 ≤ q12 26) by omega) (show q12 30 = 0 → q12 29 = 3 → sg q12 (q12 28) < 97 ∨ 122 < sg q12 (q12 28) by first | assumption | (intro z; exact absurd z (by omega)) | (intro _; assumption)) (show q12 30 = 0 → q12 29 = 3 → q12 31 = 7237492 → q12 27 + 3 ≤ q12 28 by first | assumption | omega) (show q 27 ≤ q12 27 by omega) (show q12 30 = 0 → q 30 = 0 ∧ q 28 ≤ q12 27 ∧ q 29 ≠ 0 by omega) hH hS (lv_sub hl [1, 2, 0] rfl)
  have J44 : ∀ (q44 : Nat → Int) (H : Heap) (locs : List Loc) (ls : Array Slot) (u44_a0_9 : Int32), qkm q44 → fr [27, 28, 29, 30, 31] q q44 → IV u44_a0_9 (-2147483648) 2147483647 → th_fa D H a0 11 9 (.int u44_a0_9) → (q44 27 = q 27 ∧ q44 28 = q 28 ∧ q44 29 = q 29) → (q44 30 = 0 → q 30 = 0 ∧ q 29 = 4) → th_H D cT T (km q44) H → va_S (th_A T [0]) s.heap H locs → lv_has ls 4 [(0, .ref a0), (1, .int y1)] → W p l e (rmk 2 44) s m [.ref a0, .int y1, .int y2].toArray below meth c H locs 0 0 (MQ below (th_QM D cT T (fun v q2 => ∃ r : Int32, v = some (.int r) ∧ IV r (-2147483648) 2147483647 ∧ qkm q2 ∧ fr [27, 28, 29, 30, 31] q q2 ∧ ((q2 29 = 0 ∧ q2 27 = q2 26 ∧ q2 28 = q2 26) ∨ (1 ≤ q2 29 ∧ q2 27 < q2 28 ∧ q2 28 ≤ q2 26)) ∧ (q2 30 = 0 → q2 29 = 3 → sg q2 (q2 28) < 97 ∨ 122 < sg q2 (q2 28)) ∧ (q2 30 = 0 → q2 29 = 3 → q2 31 = 7237492 → q2 27 + 3 ≤ q2 28) ∧ (q 27 ≤ q2 27) ∧ (q2 30 = 0 → q 30 = 0 ∧ q 28 ≤ q2 27 ∧ q 29 ≠ 0)) [0]) [.ref a0, .int y1, .int y2].toArray s 0 0 (th_A T [0])) (F0 m 44 ls []) := by
    intro q44 H locs ls u44_a0_9 hq44 h044 iu44_a0_9 gu44_a0_9 v44_inv0 v44_inv1 hH hS hl
    have w44_26 : q44 26 = q 26 := h044 26 (by decide) (Or.inl (by decide))
    refine lv_aload_n hx hb dX11_numeral_44 rfl (lv_at hl 0 rfl) ?_
    refine lv_iconst (v := 4) hx hb dX11_numeral_45 (by decide) ?_
    refine lv_aload_n hx hb dX11_numeral_46 rfl (lv_at hl 0 rfl) ?_
    refine th_get S hK hH inG11 t0 km_0 rfl 6 (by decide) gm_1236 rfl rfl dX11_numeral_47 (fun v13 hv13 fv13 => ?_)
    obtain ⟨x14, rfl, ix14⟩ := th_V.int hv13
    have kx14a : q44 27 ≤ x14.toInt := ix14.1
    have kx14b : x14.toInt ≤ q44 27 := ix14.2
    have bx14 := qkm_27 hq44
    have ix14 : IV x14 0 1600 := iv_w ix14 (qkm_27 hq44)
    refine th_callVM (n := 2) (As := [.int 4, .int x14]) S hK hH hS (th_A.sub (by decide)) (m_X11_fails l D cT T q44 hT hq44 a0 t0 (4) (iv_w (iv_c (by decide) : IV 4 4 4) (by decide)) (x14) (iv_top _)) gm_1507 gm_1504 gm_1506 gm_54 gm_124 (by decide +kernel) ⟨rfl, rfl, Nat.le_of_ble_eq_true rfl, Nat.le_of_ble_eq_true rfl⟩ t0 km_0 rfl rfl hl.1 rfl (Nat.le_of_ble_eq_true rfl) dX11_numeral_50 ⟨Nat.zero_le _, Nat.zero_le _⟩ (fun wq15 q15 H locs hEq15 hH hS hF1 => ?_)
    obtain ⟨rfl, hqq15, g0q15, pq15_0⟩ := hEq15
    show W p l e (rmk 2 44) s m [.ref a0, .int y1, .int y2].toArray below meth c H locs 0 0 (MQ below (th_QM D cT T (fun v q2 => ∃ r : Int32, v = some (.int r) ∧ IV r (-2147483648) 2147483647 ∧ qkm q2 ∧ fr [27, 28, 29, 30, 31] q q2 ∧ ((q2 29 = 0 ∧ q2 27 = q2 26 ∧ q2 28 = q2 26) ∨ (1 ≤ q2 29 ∧ q2 27 < q2 28 ∧ q2 28 ≤ q2 26)) ∧ (q2 30 = 0 → q2 29 = 3 → sg q2 (q2 28) < 97 ∨ 122 < sg q2 (q2 28)) ∧ (q2 30 = 0 → q2 29 = 3 → q2 31 = 7237492 → q2 27 + 3 ≤ q2 28) ∧ (q 27 ≤ q2 27) ∧ (q2 30 = 0 → q 30 = 0 ∧ q 28 ≤ q2 27 ∧ q 29 ≠ 0)) [0]) [.ref a0, .int y1, .int y2].toArray s 0 0 (th_A T [0])) (F0 m 53 ls [])
    have pq15_0 : q15 30 ≠ 0 := pq15_0
    have wq15_26 : q15 26 = q44 26 := g0q15 26 (by decide) (Or.inl (by decide))
    have wq15_27 : q15 27 = q44 27 := g0q15 27 (by decide) (Or.inl (by decide))
    have wq15_28 : q15 28 = q44 28 := g0q15 28 (by decide) (Or.inl (by decide))
    have wq15_29 : q15 29 = q44 29 := g0q15 29 (by decide) (Or.inl (by decide))
    have wq15_31 : q15 31 = q44 31 := g0q15 31 (by decide) (Or.inl (by decide))
    have h0q15 : fr [27, 28, 29, 30, 31] q q15 := fr_tr h044 g0q15 (by decide)
    exact J53 q15 H locs ls hqq15 h0q15 (show q15 27 = q 27 ∧ q15 28 = q 28 ∧ q15 29 = q 29 by omega) (show q15 30 = 0 → q 30 = 0 ∧ q 29 = 4 by omega) hH hS (lv_sub hl [0, 1] rfl)
  have J21 : ∀ (q21 : Nat → Int) (H : Heap) (locs : List Loc) (ls : Array Slot), qkm q21 → fr [27, 28, 29, 30, 31] q q21 → (q21 27 = q 27 ∧ q21 28 = q 28 ∧ q21 29 = q 29) → (q21 30 = 0 → q 30 = 0 ∧ q 29 = 4) → th_H D cT T (km q21) H → va_S (th_A T [0]) s.heap H locs → lv_has ls 4 [(0, .ref a0), (1, .int y1), (2, .int y2)] → W p l e (rmk 2 44) s m [.ref a0, .int y1, .int y2].toArray below meth c H locs 0 0 (MQ below (th_QM D cT T (fun v q2 => ∃ r : Int32, v = some (.int r) ∧ IV r (-2147483648) 2147483647 ∧ qkm q2 ∧ fr [27, 28, 29, 30, 31] q q2 ∧ ((q2 29 = 0 ∧ q2 27 = q2 26 ∧ q2 28 = q2 26) ∨ (1 ≤ q2 29 ∧ q2 27 < q2 28 ∧ q2 28 ≤ q2 26)) ∧ (q2 30 = 0 → q2 29 = 3 → sg q2 (q2 28) < 97 ∨ 122 < sg q2 (q2 28)) ∧ (q2 30 = 0 → q2 29 = 3 → q2 31 = 7237492 → q2 27 + 3 ≤ q2 28) ∧ (q 27 ≤ q2 27) ∧ (q2 30 = 0 → q 30 = 0 ∧ q 28 ≤ q2 27 ∧ q 29 ≠ 0)) [0]) [.ref a0, .int y1, .int y2].toArray s 0 0 (th_A T [0])) (F0 m 21 ls []) := by
    intro q21 H locs ls hq21 h021 v21_inv0 v21_inv1 hH hS hl
    have w21_26 : q21 26 = q 26 := h021 26 (by decide) (Or.inl (by decide))
    refine lv_aload_n hx hb dX11_numeral_21 rfl (lv_at hl 0 rfl) ?_
    refine th_callVp (n := 0) (As := []) S hK hH hS (th_A.sub (by decide)) (m_X11_isGood l D cT T q21 hT hq21 a0 t0) gm_1487 gm_1484 gm_1486 gm_49 gm_124 (by decide +kernel) ⟨rfl, rfl, Nat.le_of_ble_eq_true rfl, Nat.le_of_ble_eq_true rfl⟩ t0 km_0 rfl rfl hl.1 rfl (Nat.le_of_ble_eq_true rfl) dX11_numeral_22 ⟨Nat.zero_le _, Nat.zero_le _⟩ (fun x16 H locs ix16 ox16 hH hS hF1 => ?_)
    obtain ⟨ox16_0, ox16_1⟩ := ox16
    have ox16_0 : x16.toInt ≠ 0 → q21 30 = 0 := ox16_0
    have ox16_1 : x16.toInt = 0 → q21 30 ≠ 0 := ox16_1
    have l1x16 := ix16.1; have l2x16 := ix16.2
    refine lv_if_eq (tgt := 53) hx hb dX11_numeral_25 (by decide) (fun c17 => ?_) (fun c17 => ?_)
    · skip
      have rlc17 : x16.toInt = (0 : Int) := congrArg Int32.toInt c17
      have ir18 : IV x16 0 0 := iv_eL c17 (iv_c (by decide) : IV 0 0 0)
      have ir18a := ir18.1; have ir18b := ir18.2
      exact J53 q21 H locs ls hq21 h021 (show q21 27 = q 27 ∧ q21 28 = q 28 ∧ q21 29 = q 29 by omega) (show q21 30 = 0 → q 30 = 0 ∧ q 29 = 4 by omega) hH hS (lv_sub hl [0, 1] rfl)
    · skip
      have rlc17 : x16.toInt ≠ (0 : Int) := iv_ne c17
      have ir19 : IV x16 1 1 := iv_cutL ix16 (iv_c (by decide) : IV 0 0 0) c17 (by decide)
      have ir19a := ir19.1; have ir19b := ir19.2
      refine lv_aload_n hx hb dX11_numeral_28 rfl (lv_at hl 0 rfl) ?_
      refine th_get S hK hH inG11 t0 km_0 rfl 9 (by decide) gm_1239 rfl rfl dX11_numeral_29 (fun v20 hv20 fv20 => ?_)
      obtain ⟨x21, rfl, ix21⟩ := th_V.int hv20
      refine lv_iload_n hx hb dX11_numeral_32 rfl (lv_at hl 1 rfl) ?_
      refine lv_icmp_lt (tgt := 44) hx hb dX11_numeral_33 (by decide) (fun c22 => ?_) (fun c22 => ?_)
      · skip
        have rlc22 : x21.toInt < y1.toInt := iv_lt c22
        have ir23 : IV x21 (-2147483648) 2147483646 := iv_uL ix21 j1 (iv_lt c22) (by decide)
        have ir23a := ir23.1; have ir23b := ir23.2
        have ir24 : IV y1 (-2147483647) 2147483647 := iv_uR ix21 j1 (iv_lt c22) (by decide)
        have ir24a := ir24.1; have ir24b := ir24.2
        exact J44 q21 H locs ls x21 hq21 h021 (iv_top _) fv20 (show q21 27 = q 27 ∧ q21 28 = q 28 ∧ q21 29 = q 29 by omega) (show q21 30 = 0 → q 30 = 0 ∧ q 29 = 4 by omega) hH hS (lv_sub hl [0, 1] rfl)
      · skip
        have rlc22 : y1.toInt ≤ x21.toInt := iv_nlt c22
        refine lv_aload_n hx hb dX11_numeral_36 rfl (lv_at hl 0 rfl) ?_
        refine th_getK S hK fv20 inG11 rfl (by decide) gm_1239 rfl dX11_numeral_37 ?_
        refine lv_iload_n hx hb dX11_numeral_40 rfl (lv_at hl 2 rfl) ?_
        refine lv_icmp_le (tgt := 53) hx hb dX11_numeral_41 (by decide) (fun c26 => ?_) (fun c26 => ?_)
        · skip
          have rlc26 : x21.toInt ≤ y2.toInt := iv_le c26
          exact J53 q21 H locs ls hq21 h021 (show q21 27 = q 27 ∧ q21 28 = q 28 ∧ q21 29 = q 29 by omega) (show q21 30 = 0 → q 30 = 0 ∧ q 29 = 4 by omega) hH hS (lv_sub hl [0, 1] rfl)
        · skip
          have rlc26 : y2.toInt < x21.toInt := iv_nle c26
          have ir27 : IV y2 (-2147483648) 2147483646 := iv_uL j2 ix21 (iv_nle c26) (by decide)
          have ir27a := ir27.1; have ir27b := ir27.2
          have ir28 : IV x21 (-2147483647) 2147483647 := iv_uR j2 ix21 (iv_nle c26) (by decide)
          have ir28a := ir28.1; have ir28b := ir28.2
          exact J44 q21 H locs ls x21 hq21 h021 (iv_top _) fv20 (show q21 27 = q 27 ∧ q21 28 = q 28 ∧ q21 29 = q 29 by omega) (show q21 30 = 0 → q 30 = 0 ∧ q 29 = 4 by omega) hH hS (lv_sub hl [0, 1] rfl)
  have J0 : ∀ (H : Heap) (locs : List Loc) (ls : Array Slot), th_H D cT T (km q) H → va_S (th_A T [0]) s.heap H locs → lv_has ls 4 [(0, .ref a0), (1, .int y1), (2, .int y2)] → W p l e (rmk 2 44) s m [.ref a0, .int y1, .int y2].toArray below meth c H locs 0 0 (MQ below (th_QM D cT T (fun v q2 => ∃ r : Int32, v = some (.int r) ∧ IV r (-2147483648) 2147483647 ∧ qkm q2 ∧ fr [27, 28, 29, 30, 31] q q2 ∧ ((q2 29 = 0 ∧ q2 27 = q2 26 ∧ q2 28 = q2 26) ∨ (1 ≤ q2 29 ∧ q2 27 < q2 28 ∧ q2 28 ≤ q2 26)) ∧ (q2 30 = 0 → q2 29 = 3 → sg q2 (q2 28) < 97 ∨ 122 < sg q2 (q2 28)) ∧ (q2 30 = 0 → q2 29 = 3 → q2 31 = 7237492 → q2 27 + 3 ≤ q2 28) ∧ (q 27 ≤ q2 27) ∧ (q2 30 = 0 → q 30 = 0 ∧ q 28 ≤ q2 27 ∧ q 29 ≠ 0)) [0]) [.ref a0, .int y1, .int y2].toArray s 0 0 (th_A T [0])) (F0 m 0 ls []) := by
    intro H locs ls hH hS hl
    refine lv_aload_n hx hb dX11_numeral_0 rfl (lv_at hl 0 rfl) ?_
    refine th_callVp (n := 0) (As := []) S hK hH hS (th_A.sub (by decide)) (m_X11_isGood l D cT T q hT hq a0 t0) gm_1487 gm_1484 gm_1486 gm_49 gm_124 (by decide +kernel) ⟨rfl, rfl, Nat.le_of_ble_eq_true rfl, Nat.le_of_ble_eq_true rfl⟩ t0 km_0 rfl rfl hl.1 rfl (Nat.le_of_ble_eq_true rfl) dX11_numeral_1 ⟨Nat.zero_le _, Nat.zero_le _⟩ (fun x29 H locs ix29 ox29 hH hS hF1 => ?_)
    obtain ⟨ox29_0, ox29_1⟩ := ox29
    have ox29_0 : x29.toInt ≠ 0 → q 30 = 0 := ox29_0
    have ox29_1 : x29.toInt = 0 → q 30 ≠ 0 := ox29_1
    have l1x29 := ix29.1; have l2x29 := ix29.2
    refine lv_if_ne (tgt := 9) hx hb dX11_numeral_4 (by decide) (fun c30 => ?_) (fun c30 => ?_)
    · skip
      have rlc30 : x29.toInt ≠ (0 : Int) := iv_ne c30
      have ir31 : IV x29 1 1 := iv_cutL ix29 (iv_c (by decide) : IV 0 0 0) c30 (by decide)
      have ir31a := ir31.1; have ir31b := ir31.2
      refine lv_aload_n hx hb dX11_numeral_9 rfl (lv_at hl 0 rfl) ?_
      refine th_get S hK hH inG11 t0 km_0 rfl 8 (by decide) gm_1238 rfl rfl dX11_numeral_10 (fun v32 hv32 fv32 => ?_)
      obtain ⟨x33, rfl, ix33⟩ := th_V.int hv32
      have kx33a : q 29 ≤ x33.toInt := ix33.1
      have kx33b : x33.toInt ≤ q 29 := ix33.2
      have bx33 := qkm_29 hq
      have ix33 : IV x33 0 5 := iv_w ix33 (qkm_29 hq)
      refine lv_iconst (v := 4) hx hb dX11_numeral_13 (by decide) ?_
      refine lv_icmp_eq (tgt := 21) hx hb dX11_numeral_14 (by decide) (fun c34 => ?_) (fun c34 => ?_)
      · skip
        have rlc34 : x33.toInt = (4 : Int) := congrArg Int32.toInt c34
        have ir35 : IV x33 4 4 := iv_eL c34 (iv_c (by decide) : IV 4 4 4)
        have ir35a := ir35.1; have ir35b := ir35.2
        exact J21 q H locs ls hq fr_rf (show q 27 = q 27 ∧ q 28 = q 28 ∧ q 29 = q 29 by omega) (show q 30 = 0 → q 30 = 0 ∧ q 29 = 4 by omega) hH hS (lv_sub hl [0, 1, 2] rfl)
      · skip
        have rlc34 : x33.toInt ≠ (4 : Int) := iv_ne c34
        refine lv_aload_n hx hb dX11_numeral_17 rfl (lv_at hl 0 rfl) ?_
        refine th_callVM (n := 0) (As := []) S hK hH hS (th_A.sub (by decide)) (m_X11_misplaced l D cT T q hT hq a0 t0) gm_1503 gm_1500 gm_1502 gm_53 gm_124 (by decide +kernel) ⟨rfl, rfl, Nat.le_of_ble_eq_true rfl, Nat.le_of_ble_eq_true rfl⟩ t0 km_0 rfl rfl hl.1 rfl (Nat.le_of_ble_eq_true rfl) dX11_numeral_18 ⟨Nat.zero_le _, Nat.zero_le _⟩ (fun wq36 q36 H locs hEq36 hH hS hF1 => ?_)
        obtain ⟨rfl, hqq36, g0q36, pq36_0⟩ := hEq36
        show W p l e (rmk 2 44) s m [.ref a0, .int y1, .int y2].toArray below meth c H locs 0 0 (MQ below (th_QM D cT T (fun v q2 => ∃ r : Int32, v = some (.int r) ∧ IV r (-2147483648) 2147483647 ∧ qkm q2 ∧ fr [27, 28, 29, 30, 31] q q2 ∧ ((q2 29 = 0 ∧ q2 27 = q2 26 ∧ q2 28 = q2 26) ∨ (1 ≤ q2 29 ∧ q2 27 < q2 28 ∧ q2 28 ≤ q2 26)) ∧ (q2 30 = 0 → q2 29 = 3 → sg q2 (q2 28) < 97 ∨ 122 < sg q2 (q2 28)) ∧ (q2 30 = 0 → q2 29 = 3 → q2 31 = 7237492 → q2 27 + 3 ≤ q2 28) ∧ (q 27 ≤ q2 27) ∧ (q2 30 = 0 → q 30 = 0 ∧ q 28 ≤ q2 27 ∧ q 29 ≠ 0)) [0]) [.ref a0, .int y1, .int y2].toArray s 0 0 (th_A T [0])) (F0 m 21 ls [])
        have pq36_0 : q36 30 ≠ 0 := pq36_0
        have wq36_26 : q36 26 = q 26 := g0q36 26 (by decide) (Or.inl (by decide))
        have wq36_27 : q36 27 = q 27 := g0q36 27 (by decide) (Or.inl (by decide))
        have wq36_28 : q36 28 = q 28 := g0q36 28 (by decide) (Or.inl (by decide))
        have wq36_29 : q36 29 = q 29 := g0q36 29 (by decide) (Or.inl (by decide))
        have wq36_31 : q36 31 = q 31 := g0q36 31 (by decide) (Or.inl (by decide))
        have h0q36 : fr [27, 28, 29, 30, 31] q q36 := fr_tr fr_rf g0q36 (by decide)
        exact J21 q36 H locs ls hqq36 h0q36 (show q36 27 = q 27 ∧ q36 28 = q 28 ∧ q36 29 = q 29 by omega) (show q36 30 = 0 → q 30 = 0 ∧ q 29 = 4 by omega) hH hS (lv_sub hl [0, 1, 2] rfl)
    · skip
      have rlc30 : x29.toInt = (0 : Int) := congrArg Int32.toInt c30
      have ir37 : IV x29 0 0 := iv_eL c30 (iv_c (by decide) : IV 0 0 0)
      have ir37a := ir37.1; have ir37b := ir37.2
      refine lv_iload_n hx hb dX11_numeral_7 rfl (lv_at hl 1 rfl) ?_
      exact th_iretM S hK hH hS hr hlocks ⟨_, rfl, j1, hq, fr_rf, (show (q 29 = 0 ∧ q 27 = q 26 ∧ q 28 = q 26) ∨ (1 ≤ q 29 ∧ q 27 < q 28 ∧ q 28 ≤ q 26) by omega), (show q 30 = 0 → q 29 = 3 → sg q (q 28) < 97 ∨ 122 < sg q (q 28) by first | assumption | (intro z; exact absurd z (by omega)) | (intro _; assumption)), (show q 30 = 0 → q 29 = 3 → q 31 = 7237492 → q 27 + 3 ≤ q 28 by first | assumption | omega), (show q 27 ≤ q 27 by omega), (show q 30 = 0 → q 30 = 0 ∧ q 28 ≤ q 27 ∧ q 29 ≠ 0 by omega)⟩ dX11_numeral_8
  exact J0 s.heap [] ls hH va_S.rf hl
