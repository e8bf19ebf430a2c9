theorem dX8_append_0 : decode cX8_append 0 = .ok (.bipush 24, 2) := by decide +kernel
theorem dX8_append_2 : decode cX8_append 2 = .ok (.istore_n 2, 1) := by decide +kernel
theorem dX8_append_3 : decode cX8_append 3 = .ok (.iload_n 2, 1) := by decide +kernel
theorem dX8_append_4 : decode cX8_append 4 = .ok (.ifCond .lt 42, 3) := by decide +kernel
theorem dX8_append_7 : decode cX8_append 7 = .ok (.aload_n 0, 1) := by decide +kernel
theorem dX8_append_8 : decode cX8_append 8 = .ok (.getfield 26, 3) := by decide +kernel
theorem dX8_append_11 : decode cX8_append 11 = .ok (.sipush 1600, 3) := by decide +kernel
theorem dX8_append_14 : decode cX8_append 14 = .ok (.if_icmp .ge 32, 3) := by decide +kernel
theorem dX8_append_17 : decode cX8_append 17 = .ok (.aload_n 0, 1) := by decide +kernel
theorem dX8_append_18 : decode cX8_append 18 = .ok (.getfield 9, 3) := by decide +kernel
theorem dX8_append_21 : decode cX8_append 21 = .ok (.aload_n 0, 1) := by decide +kernel
theorem dX8_append_22 : decode cX8_append 22 = .ok (.getfield 26, 3) := by decide +kernel
theorem dX8_append_25 : decode cX8_append 25 = .ok (.iload_n 1, 1) := by decide +kernel
theorem dX8_append_26 : decode cX8_append 26 = .ok (.iload_n 2, 1) := by decide +kernel
theorem dX8_append_27 : decode cX8_append 27 = .ok (.ishr, 1) := by decide +kernel
theorem dX8_append_28 : decode cX8_append 28 = .ok (.i2b, 1) := by decide +kernel
theorem dX8_append_29 : decode cX8_append 29 = .ok (.bastore, 1) := by decide +kernel
theorem dX8_append_30 : decode cX8_append 30 = .ok (.aload_n 0, 1) := by decide +kernel
theorem dX8_append_31 : decode cX8_append 31 = .ok (.dup, 1) := by decide +kernel
theorem dX8_append_32 : decode cX8_append 32 = .ok (.getfield 26, 3) := by decide +kernel
theorem dX8_append_35 : decode cX8_append 35 = .ok (.iconst 1, 1) := by decide +kernel
theorem dX8_append_36 : decode cX8_append 36 = .ok (.iadd, 1) := by decide +kernel
theorem dX8_append_37 : decode cX8_append 37 = .ok (.putfield 26, 3) := by decide +kernel
theorem dX8_append_40 : decode cX8_append 40 = .ok (.iinc 2 (-8), 3) := by decide +kernel
theorem dX8_append_43 : decode cX8_append 43 = .ok (.goto (-40), 3) := by decide +kernel
theorem dX8_append_46 : decode cX8_append 46 = .ok (.return_, 1) := by decide +kernel
theorem dX8_addToken_0 : decode cX8_addToken 0 = .ok (.aload_n 0, 1) := by decide +kernel
theorem dX8_addToken_1 : decode cX8_addToken 1 = .ok (.getfield 30, 3) := by decide +kernel
theorem dX8_addToken_4 : decode cX8_addToken 4 = .ok (.aload_n 0, 1) := by decide +kernel
theorem dX8_addToken_5 : decode cX8_addToken 5 = .ok (.getfield 15, 3) := by decide +kernel
theorem dX8_addToken_8 : decode cX8_addToken 8 = .ok (.arraylength, 1) := by decide +kernel
theorem dX8_addToken_9 : decode cX8_addToken 9 = .ok (.if_icmp .ge 43, 3) := by decide +kernel
theorem dX8_addToken_12 : decode cX8_addToken 12 = .ok (.aload_n 0, 1) := by decide +kernel
theorem dX8_addToken_13 : decode cX8_addToken 13 = .ok (.getfield 15, 3) := by decide +kernel
theorem dX8_addToken_16 : decode cX8_addToken 16 = .ok (.aload_n 0, 1) := by decide +kernel
theorem dX8_addToken_17 : decode cX8_addToken 17 = .ok (.getfield 30, 3) := by decide +kernel
theorem dX8_addToken_20 : decode cX8_addToken 20 = .ok (.iload_n 1, 1) := by decide +kernel
theorem dX8_addToken_21 : decode cX8_addToken 21 = .ok (.iastore, 1) := by decide +kernel
theorem dX8_addToken_22 : decode cX8_addToken 22 = .ok (.aload_n 0, 1) := by decide +kernel
theorem dX8_addToken_23 : decode cX8_addToken 23 = .ok (.getfield 19, 3) := by decide +kernel
theorem dX8_addToken_26 : decode cX8_addToken 26 = .ok (.aload_n 0, 1) := by decide +kernel
theorem dX8_addToken_27 : decode cX8_addToken 27 = .ok (.getfield 30, 3) := by decide +kernel
theorem dX8_addToken_30 : decode cX8_addToken 30 = .ok (.iload_n 2, 1) := by decide +kernel
theorem dX8_addToken_31 : decode cX8_addToken 31 = .ok (.iastore, 1) := by decide +kernel
theorem dX8_addToken_32 : decode cX8_addToken 32 = .ok (.aload_n 0, 1) := by decide +kernel
theorem dX8_addToken_33 : decode cX8_addToken 33 = .ok (.getfield 22, 3) := by decide +kernel
theorem dX8_addToken_36 : decode cX8_addToken 36 = .ok (.aload_n 0, 1) := by decide +kernel
theorem dX8_addToken_37 : decode cX8_addToken 37 = .ok (.getfield 30, 3) := by decide +kernel
theorem dX8_addToken_40 : decode cX8_addToken 40 = .ok (.lload_n 3, 1) := by decide +kernel
theorem dX8_addToken_41 : decode cX8_addToken 41 = .ok (.lastore, 1) := by decide +kernel
theorem dX8_addToken_42 : decode cX8_addToken 42 = .ok (.aload_n 0, 1) := by decide +kernel
theorem dX8_addToken_43 : decode cX8_addToken 43 = .ok (.dup, 1) := by decide +kernel
theorem dX8_addToken_44 : decode cX8_addToken 44 = .ok (.getfield 30, 3) := by decide +kernel
theorem dX8_addToken_47 : decode cX8_addToken 47 = .ok (.iconst 1, 1) := by decide +kernel
theorem dX8_addToken_48 : decode cX8_addToken 48 = .ok (.iadd, 1) := by decide +kernel
theorem dX8_addToken_49 : decode cX8_addToken 49 = .ok (.putfield 30, 3) := by decide +kernel
theorem dX8_addToken_52 : decode cX8_addToken 52 = .ok (.return_, 1) := by decide +kernel
theorem dX8_isLetter_0 : decode cX8_isLetter 0 = .ok (.iload_n 1, 1) := by decide +kernel
theorem dX8_isLetter_1 : decode cX8_isLetter 1 = .ok (.ifCond .lt 37, 3) := by decide +kernel
theorem dX8_isLetter_4 : decode cX8_isLetter 4 = .ok (.iload_n 1, 1) := by decide +kernel
theorem dX8_isLetter_5 : decode cX8_isLetter 5 = .ok (.aload_n 0, 1) := by decide +kernel
theorem dX8_isLetter_6 : decode cX8_isLetter 6 = .ok (.getfield 26, 3) := by decide +kernel
theorem dX8_isLetter_9 : decode cX8_isLetter 9 = .ok (.if_icmp .ge 29, 3) := by decide +kernel
theorem dX8_isLetter_12 : decode cX8_isLetter 12 = .ok (.aload_n 0, 1) := by decide +kernel
theorem dX8_isLetter_13 : decode cX8_isLetter 13 = .ok (.getfield 9, 3) := by decide +kernel
theorem dX8_isLetter_16 : decode cX8_isLetter 16 = .ok (.iload_n 1, 1) := by decide +kernel
theorem dX8_isLetter_17 : decode cX8_isLetter 17 = .ok (.baload, 1) := by decide +kernel
theorem dX8_isLetter_18 : decode cX8_isLetter 18 = .ok (.bipush 97, 2) := by decide +kernel
theorem dX8_isLetter_20 : decode cX8_isLetter 20 = .ok (.if_icmp .lt 18, 3) := by decide +kernel
theorem dX8_isLetter_23 : decode cX8_isLetter 23 = .ok (.aload_n 0, 1) := by decide +kernel
theorem dX8_isLetter_24 : decode cX8_isLetter 24 = .ok (.getfield 9, 3) := by decide +kernel
theorem dX8_isLetter_27 : decode cX8_isLetter 27 = .ok (.iload_n 1, 1) := by decide +kernel
theorem dX8_isLetter_28 : decode cX8_isLetter 28 = .ok (.baload, 1) := by decide +kernel
theorem dX8_isLetter_29 : decode cX8_isLetter 29 = .ok (.bipush 122, 2) := by decide +kernel
theorem dX8_isLetter_31 : decode cX8_isLetter 31 = .ok (.if_icmp .gt 7, 3) := by decide +kernel
theorem dX8_isLetter_34 : decode cX8_isLetter 34 = .ok (.iconst 1, 1) := by decide +kernel
theorem dX8_isLetter_35 : decode cX8_isLetter 35 = .ok (.goto 4, 3) := by decide +kernel
theorem dX8_isLetter_38 : decode cX8_isLetter 38 = .ok (.iconst 0, 1) := by decide +kernel
theorem dX8_isLetter_39 : decode cX8_isLetter 39 = .ok (.ireturn, 1) := by decide +kernel
theorem dX8_isDigit_0 : decode cX8_isDigit 0 = .ok (.iload_n 1, 1) := by decide +kernel
theorem dX8_isDigit_1 : decode cX8_isDigit 1 = .ok (.ifCond .lt 37, 3) := by decide +kernel
theorem dX8_isDigit_4 : decode cX8_isDigit 4 = .ok (.iload_n 1, 1) := by decide +kernel
theorem dX8_isDigit_5 : decode cX8_isDigit 5 = .ok (.aload_n 0, 1) := by decide +kernel
theorem dX8_isDigit_6 : decode cX8_isDigit 6 = .ok (.getfield 26, 3) := by decide +kernel
theorem dX8_isDigit_9 : decode cX8_isDigit 9 = .ok (.if_icmp .ge 29, 3) := by decide +kernel
theorem dX8_isDigit_12 : decode cX8_isDigit 12 = .ok (.aload_n 0, 1) := by decide +kernel
theorem dX8_isDigit_13 : decode cX8_isDigit 13 = .ok (.getfield 9, 3) := by decide +kernel
theorem dX8_isDigit_16 : decode cX8_isDigit 16 = .ok (.iload_n 1, 1) := by decide +kernel
theorem dX8_isDigit_17 : decode cX8_isDigit 17 = .ok (.baload, 1) := by decide +kernel
theorem dX8_isDigit_18 : decode cX8_isDigit 18 = .ok (.bipush 48, 2) := by decide +kernel
theorem dX8_isDigit_20 : decode cX8_isDigit 20 = .ok (.if_icmp .lt 18, 3) := by decide +kernel
theorem dX8_isDigit_23 : decode cX8_isDigit 23 = .ok (.aload_n 0, 1) := by decide +kernel
theorem dX8_isDigit_24 : decode cX8_isDigit 24 = .ok (.getfield 9, 3) := by decide +kernel
theorem dX8_isDigit_27 : decode cX8_isDigit 27 = .ok (.iload_n 1, 1) := by decide +kernel
theorem dX8_isDigit_28 : decode cX8_isDigit 28 = .ok (.baload, 1) := by decide +kernel
theorem dX8_isDigit_29 : decode cX8_isDigit 29 = .ok (.bipush 57, 2) := by decide +kernel
theorem dX8_isDigit_31 : decode cX8_isDigit 31 = .ok (.if_icmp .gt 7, 3) := by decide +kernel
theorem dX8_isDigit_34 : decode cX8_isDigit 34 = .ok (.iconst 1, 1) := by decide +kernel
theorem dX8_isDigit_35 : decode cX8_isDigit 35 = .ok (.goto 4, 3) := by decide +kernel
theorem dX8_isDigit_38 : decode cX8_isDigit 38 = .ok (.iconst 0, 1) := by decide +kernel
theorem dX8_isDigit_39 : decode cX8_isDigit 39 = .ok (.ireturn, 1) := by decide +kernel
set_option maxRecDepth 100000 in
theorem m_X8_isLetter (l : Launch) (D : va_G) (cT : Nat → ClassId) (T : Nat → Option Nat) (q : Nat → Int) (hq : qok q) (a0 : Nat) (t0 : T a0 = some 1) (y1 : Int32) (j1 : IV y1 (-2147483648) 2147483647) : th_Met l D cT T (kd q) yX8_isLetter cX8_isLetter 2 (some .boolean) (rmk 0 0) [.ref a0, .int y1] (th_R T (some (.inl (0, 1)))) [] := by
  refine th_start (by decide) (Nat.le_of_ble_eq_true rfl) ?_
  intro p e s m below meth c ls S hK hH hr hlocks hnm hl
  have hx := S.1
  have hb := S.2.1
  have hl : lv_has ls 2 [(0, .ref a0), (1, .int y1)] := hl
  have J39 : ∀ (H : Heap) (locs : List Loc) (ls : Array Slot) (w39_0 : Int32), IV w39_0 0 1 → th_H D cT T (kd q) H → va_S (th_A T []) s.heap H locs → lv_has ls 2 [] → W p l e (rmk 0 0) s m [.ref a0, .int y1].toArray below meth c H locs 0 0 (MQ below (th_Q D cT T (kd q) (th_R T (some (.inl (0, 1)))) []) [.ref a0, .int y1].toArray s 0 0 (th_A T [])) (F0 m 39 ls [.int w39_0]) := by
    intro H locs ls w39_0 iw39_0 hH hS hl
    exact th_zret S hK hH hS hr hlocks iw39_0 (th_R.i iw39_0) dX8_isLetter_39
  have J38 : ∀ (H : Heap) (locs : List Loc) (ls : Array Slot), th_H D cT T (kd q) H → va_S (th_A T []) s.heap H locs → lv_has ls 2 [] → W p l e (rmk 0 0) s m [.ref a0, .int y1].toArray below meth c H locs 0 0 (MQ below (th_Q D cT T (kd q) (th_R T (some (.inl (0, 1)))) []) [.ref a0, .int y1].toArray s 0 0 (th_A T [])) (F0 m 38 ls []) := by
    intro H locs ls hH hS hl
    refine lv_iconst (v := 0) hx hb dX8_isLetter_38 (by decide) ?_
    exact J39 H locs ls 0 (iv_w (iv_c (by decide) : IV 0 0 0) (by decide)) hH hS (lv_sub hl [] rfl)
  have J0 : ∀ (H : Heap) (locs : List Loc) (ls : Array Slot), th_H D cT T (kd q) H → va_S (th_A T []) s.heap H locs → lv_has ls 2 [(0, .ref a0), (1, .int y1)] → W p l e (rmk 0 0) s m [.ref a0, .int y1].toArray below meth c H locs 0 0 (MQ below (th_Q D cT T (kd q) (th_R T (some (.inl (0, 1)))) []) [.ref a0, .int y1].toArray s 0 0 (th_A T [])) (F0 m 0 ls []) := by
    intro H locs ls hH hS hl
    refine lv_iload_n hx hb dX8_isLetter_0 rfl (lv_at hl 1 rfl) ?_
    refine lv_if_lt (tgt := 38) hx hb dX8_isLetter_1 (by decide) (fun c1 => ?_) (fun c1 => ?_)
    · skip
      have ir2 : IV y1 (-2147483648) (-1) := iv_uL j1 (iv_c (by decide) : IV 0 0 0) (iv_lt c1) (by decide)
      exact J38 H locs ls  hH hS (lv_sub hl [] rfl)
    · skip
      have ir3 : IV y1 0 2147483647 := iv_vR (iv_c (by decide) : IV 0 0 0) j1 (iv_nlt c1) (by decide)
      refine lv_iload_n hx hb dX8_isLetter_4 rfl (lv_at hl 1 rfl) ?_
      refine lv_aload_n hx hb dX8_isLetter_5 rfl (lv_at hl 0 rfl) ?_
      refine th_get S hK hH inG8 t0 kd_1 rfl 4 (by decide) gm_155 rfl rfl dX8_isLetter_6 (fun v4 hv4 fv4 => ?_)
      obtain ⟨x5, rfl, ix5⟩ := th_V.int hv4
      refine lv_icmp_ge (tgt := 38) hx hb dX8_isLetter_9 (by decide) (fun c6 => ?_) (fun c6 => ?_)
      · skip
        exact J38 H locs ls  hH hS (lv_sub hl [] rfl)
      · skip
        have ir7 : IV y1 0 1599 := iv_uL ir3 ix5 (iv_nle c6) (by decide)
        have ir8 : IV x5 1 1600 := iv_uR ir3 ix5 (iv_nle c6) (by decide)
        refine lv_aload_n hx hb dX8_isLetter_12 rfl (lv_at hl 0 rfl) ?_
        refine th_get S hK hH inG8 t0 kd_1 rfl 0 (by decide) gm_148 rfl rfl dX8_isLetter_13 (fun v9 hv9 fv9 => ?_)
        obtain ⟨a10, rfl, ta10⟩ := th_V.ref hv9
        refine lv_iload_n hx hb dX8_isLetter_16 rfl (lv_at hl 1 rfl) ?_
        refine th_bald S hK hH ta10 kd_11 (th_in ir7 (by decide)) dX8_isLetter_17 (fun v11 hv11 => ?_)
        obtain ⟨x12, rfl, ix12⟩ := th_V.int hv11
        refine lv_bipush (v := 97) hx hb dX8_isLetter_18 (by decide) ?_
        refine lv_icmp_lt (tgt := 38) hx hb dX8_isLetter_20 (by decide) (fun c13 => ?_) (fun c13 => ?_)
        · skip
          have ir14 : IV x12 (-128) 96 := iv_uL ix12 (iv_c (by decide) : IV 97 97 97) (iv_lt c13) (by decide)
          exact J38 H locs ls  hH hS (lv_sub hl [] rfl)
        · skip
          have ir15 : IV x12 97 127 := iv_vR (iv_c (by decide) : IV 97 97 97) ix12 (iv_nlt c13) (by decide)
          refine lv_aload_n hx hb dX8_isLetter_23 rfl (lv_at hl 0 rfl) ?_
          refine th_getK S hK fv9 inG8 rfl (by decide) gm_148 rfl dX8_isLetter_24 ?_
          refine lv_iload_n hx hb dX8_isLetter_27 rfl (lv_at hl 1 rfl) ?_
          refine th_bald S hK hH ta10 kd_11 (th_in ir7 (by decide)) dX8_isLetter_28 (fun v17 hv17 => ?_)
          obtain ⟨x18, rfl, ix18⟩ := th_V.int hv17
          refine lv_bipush (v := 122) hx hb dX8_isLetter_29 (by decide) ?_
          refine lv_icmp_gt (tgt := 38) hx hb dX8_isLetter_31 (by decide) (fun c19 => ?_) (fun c19 => ?_)
          · skip
            have ir20 : IV x18 123 127 := iv_uR (iv_c (by decide) : IV 122 122 122) ix18 (iv_lt c19) (by decide)
            exact J38 H locs ls  hH hS (lv_sub hl [] rfl)
          · skip
            have ir21 : IV x18 (-128) 122 := iv_vL ix18 (iv_c (by decide) : IV 122 122 122) (iv_nlt c19) (by decide)
            refine lv_iconst (v := 1) hx hb dX8_isLetter_34 (by decide) ?_
            refine lv_goto (tgt := 39) hx hb dX8_isLetter_35 (by decide) ?_
            exact J39 H locs ls 1 (iv_w (iv_c (by decide) : IV 1 1 1) (by decide)) hH hS (lv_sub hl [] rfl)
  exact J0 s.heap [] ls hH va_S.rf hl

set_option maxRecDepth 100000 in
theorem m_X8_isDigit (l : Launch) (D : va_G) (cT : Nat → ClassId) (T : Nat → Option Nat) (q : Nat → Int) (hq : qok q) (a0 : Nat) (t0 : T a0 = some 1) (y1 : Int32) (j1 : IV y1 (-2147483648) 2147483647) : th_Met l D cT T (kd q) yX8_isDigit cX8_isDigit 2 (some .boolean) (rmk 0 0) [.ref a0, .int y1] (th_R T (some (.inl (0, 1)))) [] := by
  refine th_start (by decide) (Nat.le_of_ble_eq_true rfl) ?_
  intro p e s m below meth c ls S hK hH hr hlocks hnm hl
  have hx := S.1
  have hb := S.2.1
  have hl : lv_has ls 2 [(0, .ref a0), (1, .int y1)] := hl
  have J39 : ∀ (H : Heap) (locs : List Loc) (ls : Array Slot) (w39_0 : Int32), IV w39_0 0 1 → th_H D cT T (kd q) H → va_S (th_A T []) s.heap H locs → lv_has ls 2 [] → W p l e (rmk 0 0) s m [.ref a0, .int y1].toArray below meth c H locs 0 0 (MQ below (th_Q D cT T (kd q) (th_R T (some (.inl (0, 1)))) []) [.ref a0, .int y1].toArray s 0 0 (th_A T [])) (F0 m 39 ls [.int w39_0]) := by
    intro H locs ls w39_0 iw39_0 hH hS hl
    exact th_zret S hK hH hS hr hlocks iw39_0 (th_R.i iw39_0) dX8_isDigit_39
  have J38 : ∀ (H : Heap) (locs : List Loc) (ls : Array Slot), th_H D cT T (kd q) H → va_S (th_A T []) s.heap H locs → lv_has ls 2 [] → W p l e (rmk 0 0) s m [.ref a0, .int y1].toArray below meth c H locs 0 0 (MQ below (th_Q D cT T (kd q) (th_R T (some (.inl (0, 1)))) []) [.ref a0, .int y1].toArray s 0 0 (th_A T [])) (F0 m 38 ls []) := by
    intro H locs ls hH hS hl
    refine lv_iconst (v := 0) hx hb dX8_isDigit_38 (by decide) ?_
    exact J39 H locs ls 0 (iv_w (iv_c (by decide) : IV 0 0 0) (by decide)) hH hS (lv_sub hl [] rfl)
  have J0 : ∀ (H : Heap) (locs : List Loc) (ls : Array Slot), th_H D cT T (kd q) H → va_S (th_A T []) s.heap H locs → lv_has ls 2 [(0, .ref a0), (1, .int y1)] → W p l e (rmk 0 0) s m [.ref a0, .int y1].toArray below meth c H locs 0 0 (MQ below (th_Q D cT T (kd q) (th_R T (some (.inl (0, 1)))) []) [.ref a0, .int y1].toArray s 0 0 (th_A T [])) (F0 m 0 ls []) := by
    intro H locs ls hH hS hl
    refine lv_iload_n hx hb dX8_isDigit_0 rfl (lv_at hl 1 rfl) ?_
    refine lv_if_lt (tgt := 38) hx hb dX8_isDigit_1 (by decide) (fun c1 => ?_) (fun c1 => ?_)
    · skip
      have ir2 : IV y1 (-2147483648) (-1) := iv_uL j1 (iv_c (by decide) : IV 0 0 0) (iv_lt c1) (by decide)
      exact J38 H locs ls  hH hS (lv_sub hl [] rfl)
    · skip
      have ir3 : IV y1 0 2147483647 := iv_vR (iv_c (by decide) : IV 0 0 0) j1 (iv_nlt c1) (by decide)
      refine lv_iload_n hx hb dX8_isDigit_4 rfl (lv_at hl 1 rfl) ?_
      refine lv_aload_n hx hb dX8_isDigit_5 rfl (lv_at hl 0 rfl) ?_
      refine th_get S hK hH inG8 t0 kd_1 rfl 4 (by decide) gm_155 rfl rfl dX8_isDigit_6 (fun v4 hv4 fv4 => ?_)
      obtain ⟨x5, rfl, ix5⟩ := th_V.int hv4
      refine lv_icmp_ge (tgt := 38) hx hb dX8_isDigit_9 (by decide) (fun c6 => ?_) (fun c6 => ?_)
      · skip
        exact J38 H locs ls  hH hS (lv_sub hl [] rfl)
      · skip
        have ir7 : IV y1 0 1599 := iv_uL ir3 ix5 (iv_nle c6) (by decide)
        have ir8 : IV x5 1 1600 := iv_uR ir3 ix5 (iv_nle c6) (by decide)
        refine lv_aload_n hx hb dX8_isDigit_12 rfl (lv_at hl 0 rfl) ?_
        refine th_get S hK hH inG8 t0 kd_1 rfl 0 (by decide) gm_148 rfl rfl dX8_isDigit_13 (fun v9 hv9 fv9 => ?_)
        obtain ⟨a10, rfl, ta10⟩ := th_V.ref hv9
        refine lv_iload_n hx hb dX8_isDigit_16 rfl (lv_at hl 1 rfl) ?_
        refine th_bald S hK hH ta10 kd_11 (th_in ir7 (by decide)) dX8_isDigit_17 (fun v11 hv11 => ?_)
        obtain ⟨x12, rfl, ix12⟩ := th_V.int hv11
        refine lv_bipush (v := 48) hx hb dX8_isDigit_18 (by decide) ?_
        refine lv_icmp_lt (tgt := 38) hx hb dX8_isDigit_20 (by decide) (fun c13 => ?_) (fun c13 => ?_)
        · skip
          have ir14 : IV x12 (-128) 47 := iv_uL ix12 (iv_c (by decide) : IV 48 48 48) (iv_lt c13) (by decide)
          exact J38 H locs ls  hH hS (lv_sub hl [] rfl)
        · skip
          have ir15 : IV x12 48 127 := iv_vR (iv_c (by decide) : IV 48 48 48) ix12 (iv_nlt c13) (by decide)
          refine lv_aload_n hx hb dX8_isDigit_23 rfl (lv_at hl 0 rfl) ?_
          refine th_getK S hK fv9 inG8 rfl (by decide) gm_148 rfl dX8_isDigit_24 ?_
          refine lv_iload_n hx hb dX8_isDigit_27 rfl (lv_at hl 1 rfl) ?_
          refine th_bald S hK hH ta10 kd_11 (th_in ir7 (by decide)) dX8_isDigit_28 (fun v17 hv17 => ?_)
          obtain ⟨x18, rfl, ix18⟩ := th_V.int hv17
          refine lv_bipush (v := 57) hx hb dX8_isDigit_29 (by decide) ?_
          refine lv_icmp_gt (tgt := 38) hx hb dX8_isDigit_31 (by decide) (fun c19 => ?_) (fun c19 => ?_)
          · skip
            have ir20 : IV x18 58 127 := iv_uR (iv_c (by decide) : IV 57 57 57) ix18 (iv_lt c19) (by decide)
            exact J38 H locs ls  hH hS (lv_sub hl [] rfl)
          · skip
            have ir21 : IV x18 (-128) 57 := iv_vL ix18 (iv_c (by decide) : IV 57 57 57) (iv_nlt c19) (by decide)
            refine lv_iconst (v := 1) hx hb dX8_isDigit_34 (by decide) ?_
            refine lv_goto (tgt := 39) hx hb dX8_isDigit_35 (by decide) ?_
            exact J39 H locs ls 1 (iv_w (iv_c (by decide) : IV 1 1 1) (by decide)) hH hS (lv_sub hl [] rfl)
  exact J0 s.heap [] ls hH va_S.rf hl

set_option maxRecDepth 100000 in
theorem m_X8_append (l : Launch) (D : va_G) (cT : Nat → ClassId) (T : Nat → Option Nat) (q : Nat → Int) (hq : qok q) (a0 : Nat) (t0 : T a0 = some 1) (y1 : Int32) (j1 : IV y1 (-2147483648) 2147483647) : th_Met l D cT T (kd q) yX8_append cX8_append 3 none (rmk 0 0) [.ref a0, .int y1] (th_R T none) [1, 11] := by
  refine th_start (by decide) (Nat.le_of_ble_eq_true rfl) ?_
  intro p e s m below meth c ls S hK hH hr hlocks hnm hl
  have hx := S.1
  have hb := S.2.1
  have hl : lv_has ls 3 [(0, .ref a0), (1, .int y1)] := hl
  have J46 : ∀ (H : Heap) (locs : List Loc) (ls : Array Slot), th_H D cT T (kd q) H → va_S (th_A T [1, 11]) s.heap H locs → lv_has ls 3 [] → W p l e (rmk 0 0) s m [.ref a0, .int y1].toArray below meth c H locs 0 0 (MQ below (th_Q D cT T (kd q) (th_R T none) [1, 11]) [.ref a0, .int y1].toArray s 0 0 (th_A T [1, 11])) (F0 m 46 ls []) := by
    intro H locs ls hH hS hl
    exact th_vret S hK hH hS hr hlocks rfl dX8_append_46
  have J3 : ∀ (n : Nat) (H : Heap) (locs : List Loc) (ls : Array Slot) (v3_2 : Int32), IV v3_2 (-8) 24 → th_H D cT T (kd q) H → va_S (th_A T [1, 11]) s.heap H locs → lv_has ls 3 [(0, .ref a0), (1, .int y1), (2, .int v3_2)] → (v3_2.toInt + 1 - (-8)).toNat < n → W p l e (rmk 0 0) s m [.ref a0, .int y1].toArray below meth c H locs 0 0 (MQ below (th_Q D cT T (kd q) (th_R T none) [1, 11]) [.ref a0, .int y1].toArray s 0 0 (th_A T [1, 11])) (F0 m 3 ls []) := by
    intro n
    induction n with
    | zero => intro H locs ls v3_2 iv3_2 hH hS hl hn; exact absurd hn (Nat.not_lt_zero _)
    | succ n ih3 =>
      intro H locs ls v3_2 iv3_2 hH hS hl hn3
      refine lv_iload_n hx hb dX8_append_3 rfl (lv_at hl 2 rfl) ?_
      refine lv_if_lt (tgt := 46) hx hb dX8_append_4 (by decide) (fun c1 => ?_) (fun c1 => ?_)
      · skip
        have ir2 : IV v3_2 (-8) (-1) := iv_uL iv3_2 (iv_c (by decide) : IV 0 0 0) (iv_lt c1) (by decide)
        exact J46 H locs ls  hH hS (lv_sub hl [] rfl)
      · skip
        have ir3 : IV v3_2 0 24 := iv_vR (iv_c (by decide) : IV 0 0 0) iv3_2 (iv_nlt c1) (by decide)
        refine lv_aload_n hx hb dX8_append_7 rfl (lv_at hl 0 rfl) ?_
        refine th_get S hK hH inG8 t0 kd_1 rfl 4 (by decide) gm_155 rfl rfl dX8_append_8 (fun v4 hv4 fv4 => ?_)
        obtain ⟨x5, rfl, ix5⟩ := th_V.int hv4
        refine lv_sipush (v := 1600) hx hb dX8_append_11 (by decide) ?_
        refine lv_icmp_ge (tgt := 46) hx hb dX8_append_14 (by decide) (fun c6 => ?_) (fun c6 => ?_)
        · skip
          have ir7 : IV x5 1600 1600 := iv_vR (iv_c (by decide) : IV 1600 1600 1600) ix5 (iv_le c6) (by decide)
          exact J46 H locs ls  hH hS (lv_sub hl [] rfl)
        · skip
          have ir8 : IV x5 0 1599 := iv_uL ix5 (iv_c (by decide) : IV 1600 1600 1600) (iv_nle c6) (by decide)
          refine lv_aload_n hx hb dX8_append_17 rfl (lv_at hl 0 rfl) ?_
          refine th_get S hK hH inG8 t0 kd_1 rfl 0 (by decide) gm_148 rfl rfl dX8_append_18 (fun v9 hv9 fv9 => ?_)
          obtain ⟨a10, rfl, ta10⟩ := th_V.ref hv9
          refine lv_aload_n hx hb dX8_append_21 rfl (lv_at hl 0 rfl) ?_
          refine th_getK S hK fv4 inG8 rfl (by decide) gm_155 rfl dX8_append_22 ?_
          refine lv_iload_n hx hb dX8_append_25 rfl (lv_at hl 1 rfl) ?_
          refine lv_iload_n hx hb dX8_append_26 rfl (lv_at hl 2 rfl) ?_
          refine lv_ishr hx hb dX8_append_27 ?_
          refine lv_topi (fun x12 ex12 => ?_)
          have ix12 := iv_top x12
          refine lv_i2b (v := _) hx hb dX8_append_28 rfl ?_
          refine lv_topi (fun x13 ex13 => ?_)
          have ix13 : IV x13 (-128) 127 := by rw [ex13]; exact iv_byte _
          refine th_bast S hK hH hS ⟨11, by decide, ta10⟩ ta10 kd_11 (th_in ir8 (by decide)) (fun z => th_iv (iv_nbyte z)) dX8_append_29 (fun H locs hH hS hq1 => ?_)
          have f14 := fv4.kept (hq1 _ (th_ne t0 ta10 (by decide)))
          refine lv_aload_n hx hb dX8_append_30 rfl (lv_at hl 0 rfl) ?_
          refine lv_dup hx hb dX8_append_31 rfl ?_
          refine th_getK S hK f14 inG8 rfl (by decide) gm_155 rfl dX8_append_32 ?_
          refine lv_iconst (v := 1) hx hb dX8_append_35 (by decide) ?_
          refine lv_iadd hx hb dX8_append_36 ?_
          refine lv_topi (fun x16 ex16 => ?_)
          have ix16 : IV x16 1 1600 := by rw [ex16]; exact iv_add ir8 (iv_c (by decide) : IV 1 1 1) (by decide)
          refine th_put S hK hH hS ⟨1, by decide, t0⟩ inG8 tyX8 tyX8_ok nmX8 t0 kd_1 rfl 4 (by decide) gm_155 rfl rfl rfl rfl (th_iv (iv_w ix16 (by decide))) (fun _ _ => trivial) (ty := .int) (by decide +kernel) rfl rfl dX8_append_37 (fun H locs hH hS hq1 hp1 => ?_)
          have f17 := hp1.1
          refine th_iinc S dX8_append_40 hl (k := 2) rfl (by decide) ir3 (by decide) (fun x18 ls ex18 ix18 hl => ?_)
          have hl : lv_has ls 3 [(2, .int x18), (0, .ref a0), (1, .int y1)] := hl
          have ix18 : IV x18 (-8) 16 := ix18
          refine lv_goto (tgt := 3) hx hb dX8_append_43 (by decide) ?_
          exact ih3 H locs ls x18 (iv_w ix18 (by decide)) hH hS (lv_sub hl [1, 2, 0] rfl) (th_down iv3_2 ex18 (by decide) hn3)
  have J0 : ∀ (H : Heap) (locs : List Loc) (ls : Array Slot), th_H D cT T (kd q) H → va_S (th_A T [1, 11]) s.heap H locs → lv_has ls 3 [(0, .ref a0), (1, .int y1)] → W p l e (rmk 0 0) s m [.ref a0, .int y1].toArray below meth c H locs 0 0 (MQ below (th_Q D cT T (kd q) (th_R T none) [1, 11]) [.ref a0, .int y1].toArray s 0 0 (th_A T [1, 11])) (F0 m 0 ls []) := by
    intro H locs ls hH hS hl
    refine lv_bipush (v := 24) hx hb dX8_append_0 (by decide) ?_
    refine lv_istore_n (lv' := [(2, .int 24), (0, .ref a0), (1, .int y1)]) hx hb dX8_append_2 rfl hl (by decide) rfl (fun ls hl => ?_)
    exact J3 ((Int32.toInt 24 + 1 - (-8)).toNat + 1) H locs ls 24 (iv_w (iv_c (by decide) : IV 24 24 24) (by decide)) hH hS (lv_sub hl [1, 2, 0] rfl) (Nat.lt_succ_self _)
  exact J0 s.heap [] ls hH va_S.rf hl

set_option maxRecDepth 100000 in
theorem m_X8_addToken (l : Launch) (D : va_G) (cT : Nat → ClassId) (T : Nat → Option Nat) (q : Nat → Int) (hq : qok q) (a0 : Nat) (t0 : T a0 = some 1) (y1 : Int32) (j1 : IV y1 (-2147483648) 2147483647) (y2 : Int32) (j2 : IV y2 (-2147483648) 2147483647) (y3 : Int64) : th_Met l D cT T (kd q) yX8_addToken cX8_addToken 5 none (rmk 0 0) [.ref a0, .int y1, .int y2, .long y3] (th_R T none) [1, 12, 13, 14] := by
  refine th_start (by decide) (Nat.le_of_ble_eq_true rfl) ?_
  intro p e s m below meth c ls S hK hH hr hlocks hnm hl
  have hx := S.1
  have hb := S.2.1
  have hl : lv_has ls 5 [(0, .ref a0), (1, .int y1), (2, .int y2), (3, .long y3)] := hl
  have J52 : ∀ (H : Heap) (locs : List Loc) (ls : Array Slot), th_H D cT T (kd q) H → va_S (th_A T [1, 12, 13, 14]) s.heap H locs → lv_has ls 5 [] → W p l e (rmk 0 0) s m [.ref a0, .int y1, .int y2, .long y3].toArray below meth c H locs 0 0 (MQ below (th_Q D cT T (kd q) (th_R T none) [1, 12, 13, 14]) [.ref a0, .int y1, .int y2, .long y3].toArray s 0 0 (th_A T [1, 12, 13, 14])) (F0 m 52 ls []) := by
    intro H locs ls hH hS hl
    exact th_vret S hK hH hS hr hlocks rfl dX8_addToken_52
  have J0 : ∀ (H : Heap) (locs : List Loc) (ls : Array Slot), th_H D cT T (kd q) H → va_S (th_A T [1, 12, 13, 14]) s.heap H locs → lv_has ls 5 [(0, .ref a0), (1, .int y1), (2, .int y2), (3, .long y3)] → W p l e (rmk 0 0) s m [.ref a0, .int y1, .int y2, .long y3].toArray below meth c H locs 0 0 (MQ below (th_Q D cT T (kd q) (th_R T none) [1, 12, 13, 14]) [.ref a0, .int y1, .int y2, .long y3].toArray s 0 0 (th_A T [1, 12, 13, 14])) (F0 m 0 ls []) := by
    intro H locs ls hH hS hl
    refine lv_aload_n hx hb dX8_addToken_0 rfl (lv_at hl 0 rfl) ?_
    refine th_get S hK hH inG8 t0 kd_1 rfl 5 (by decide) gm_158 rfl rfl dX8_addToken_1 (fun v1 hv1 fv1 => ?_)
    obtain ⟨x2, rfl, ix2⟩ := th_V.int hv1
    refine lv_aload_n hx hb dX8_addToken_4 rfl (lv_at hl 0 rfl) ?_
    refine th_get S hK hH inG8 t0 kd_1 rfl 1 (by decide) gm_149 rfl rfl dX8_addToken_5 (fun v3 hv3 fv3 => ?_)
    obtain ⟨a4, rfl, ta4⟩ := th_V.ref hv3
    refine th_alen S hK hH ta4 kd_12 rfl (v := 1601) (by decide) dX8_addToken_8 ?_
    refine lv_icmp_ge (tgt := 52) hx hb dX8_addToken_9 (by decide) (fun c5 => ?_) (fun c5 => ?_)
    · skip
      have ir6 : IV x2 1601 1601 := iv_vR (iv_c (by decide) : IV 1601 1601 1601) ix2 (iv_le c5) (by decide)
      exact J52 H locs ls  hH hS (lv_sub hl [] rfl)
    · skip
      have ir7 : IV x2 0 1600 := iv_uL ix2 (iv_c (by decide) : IV 1601 1601 1601) (iv_nle c5) (by decide)
      refine lv_aload_n hx hb dX8_addToken_12 rfl (lv_at hl 0 rfl) ?_
      refine th_getK S hK fv3 inG8 rfl (by decide) gm_149 rfl dX8_addToken_13 ?_
      refine lv_aload_n hx hb dX8_addToken_16 rfl (lv_at hl 0 rfl) ?_
      refine th_getK S hK fv1 inG8 rfl (by decide) gm_158 rfl dX8_addToken_17 ?_
      refine lv_iload_n hx hb dX8_addToken_20 rfl (lv_at hl 1 rfl) ?_
      refine th_iast S hK hH hS ⟨12, by decide, ta4⟩ ta4 kd_12 (th_in ir7 (by decide)) (th_iv j1) dX8_addToken_21 (fun H locs hH hS hq1 => ?_)
      have f10 := fv1.kept (hq1 _ (th_ne t0 ta4 (by decide)))
      have f11 := fv3.kept (hq1 _ (th_ne t0 ta4 (by decide)))
      refine lv_aload_n hx hb dX8_addToken_22 rfl (lv_at hl 0 rfl) ?_
      refine th_get S hK hH inG8 t0 kd_1 rfl 2 (by decide) gm_151 rfl rfl dX8_addToken_23 (fun v12 hv12 fv12 => ?_)
      obtain ⟨a13, rfl, ta13⟩ := th_V.ref hv12
      refine lv_aload_n hx hb dX8_addToken_26 rfl (lv_at hl 0 rfl) ?_
      refine th_getK S hK f10 inG8 rfl (by decide) gm_158 rfl dX8_addToken_27 ?_
      refine lv_iload_n hx hb dX8_addToken_30 rfl (lv_at hl 2 rfl) ?_
      refine th_iast S hK hH hS ⟨13, by decide, ta13⟩ ta13 kd_13 (th_in ir7 (by decide)) (th_iv j2) dX8_addToken_31 (fun H locs hH hS hq1 => ?_)
      have f15 := f10.kept (hq1 _ (th_ne t0 ta13 (by decide)))
      have f16 := f11.kept (hq1 _ (th_ne t0 ta13 (by decide)))
      refine lv_aload_n hx hb dX8_addToken_32 rfl (lv_at hl 0 rfl) ?_
      refine th_get S hK hH inG8 t0 kd_1 rfl 3 (by decide) gm_153 rfl rfl dX8_addToken_33 (fun v17 hv17 fv17 => ?_)
      obtain ⟨a18, rfl, ta18⟩ := th_V.ref hv17
      refine lv_aload_n hx hb dX8_addToken_36 rfl (lv_at hl 0 rfl) ?_
      refine th_getK S hK f15 inG8 rfl (by decide) gm_158 rfl dX8_addToken_37 ?_
      refine lv_lload_n hx hb dX8_addToken_40 rfl (lv_at hl 3 rfl) ?_
      refine th_last S hK hH hS ⟨14, by decide, ta18⟩ ta18 kd_14 (th_in ir7 (by decide)) (th_lg _) dX8_addToken_41 (fun H locs hH hS hq1 => ?_)
      have f20 := f15.kept (hq1 _ (th_ne t0 ta18 (by decide)))
      have f21 := f16.kept (hq1 _ (th_ne t0 ta18 (by decide)))
      refine lv_aload_n hx hb dX8_addToken_42 rfl (lv_at hl 0 rfl) ?_
      refine lv_dup hx hb dX8_addToken_43 rfl ?_
      refine th_getK S hK f20 inG8 rfl (by decide) gm_158 rfl dX8_addToken_44 ?_
      refine lv_iconst (v := 1) hx hb dX8_addToken_47 (by decide) ?_
      refine lv_iadd hx hb dX8_addToken_48 ?_
      refine lv_topi (fun x23 ex23 => ?_)
      have ix23 : IV x23 1 1601 := by rw [ex23]; exact iv_add ir7 (iv_c (by decide) : IV 1 1 1) (by decide)
      refine th_put S hK hH hS ⟨1, by decide, t0⟩ inG8 tyX8 tyX8_ok nmX8 t0 kd_1 rfl 5 (by decide) gm_158 rfl rfl rfl rfl (th_iv (iv_w ix23 (by decide))) (fun _ _ => trivial) (ty := .int) (by decide +kernel) rfl rfl dX8_addToken_49 (fun H locs hH hS hq1 hp1 => ?_)
      have f24 := hp1.2 1 _ (by decide) (by decide) f21
      have f25 := hp1.1
      exact J52 H locs ls  hH hS (lv_sub hl [] rfl)
  exact J0 s.heap [] ls hH va_S.rf hl
