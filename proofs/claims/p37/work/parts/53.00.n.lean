theorem dX11_sign_0 : decode cX11_sign 0 = .ok (.iload_n 1, 1) := by decide +kernel
theorem dX11_sign_1 : decode cX11_sign 1 = .ok (.aload_n 0, 1) := by decide +kernel
theorem dX11_sign_2 : decode cX11_sign 2 = .ok (.getfield 155, 3) := by decide +kernel
theorem dX11_sign_5 : decode cX11_sign 5 = .ok (.if_icmp .ge 16, 3) := by decide +kernel
theorem dX11_sign_8 : decode cX11_sign 8 = .ok (.aload_n 0, 1) := by decide +kernel
theorem dX11_sign_9 : decode cX11_sign 9 = .ok (.getfield 13, 3) := by decide +kernel
theorem dX11_sign_12 : decode cX11_sign 12 = .ok (.iload_n 1, 1) := by decide +kernel
theorem dX11_sign_13 : decode cX11_sign 13 = .ok (.baload, 1) := by decide +kernel
theorem dX11_sign_14 : decode cX11_sign 14 = .ok (.sipush 255, 3) := by decide +kernel
theorem dX11_sign_17 : decode cX11_sign 17 = .ok (.iand, 1) := by decide +kernel
theorem dX11_sign_18 : decode cX11_sign 18 = .ok (.goto 4, 3) := by decide +kernel
theorem dX11_sign_21 : decode cX11_sign 21 = .ok (.iconst 0, 1) := by decide +kernel
theorem dX11_sign_22 : decode cX11_sign 22 = .ok (.ireturn, 1) := by decide +kernel
theorem dX11_fails_0 : decode cX11_fails 0 = .ok (.aload_n 0, 1) := by decide +kernel
theorem dX11_fails_1 : decode cX11_fails 1 = .ok (.getfield 158, 3) := by decide +kernel
theorem dX11_fails_4 : decode cX11_fails 4 = .ok (.ifCond .le 4, 3) := by decide +kernel
theorem dX11_fails_7 : decode cX11_fails 7 = .ok (.return_, 1) := by decide +kernel
theorem dX11_fails_8 : decode cX11_fails 8 = .ok (.aload_n 0, 1) := by decide +kernel
theorem dX11_fails_9 : decode cX11_fails 9 = .ok (.iload_n 1, 1) := by decide +kernel
theorem dX11_fails_10 : decode cX11_fails 10 = .ok (.putfield 158, 3) := by decide +kernel
theorem dX11_fails_13 : decode cX11_fails 13 = .ok (.aload_n 0, 1) := by decide +kernel
theorem dX11_fails_14 : decode cX11_fails 14 = .ok (.iload_n 2, 1) := by decide +kernel
theorem dX11_fails_15 : decode cX11_fails 15 = .ok (.putfield 16, 3) := by decide +kernel
theorem dX11_fails_18 : decode cX11_fails 18 = .ok (.return_, 1) := by decide +kernel
theorem dX11_isGood_0 : decode cX11_isGood 0 = .ok (.aload_n 0, 1) := by decide +kernel
theorem dX11_isGood_1 : decode cX11_isGood 1 = .ok (.getfield 158, 3) := by decide +kernel
theorem dX11_isGood_4 : decode cX11_isGood 4 = .ok (.ifCond .ne 7, 3) := by decide +kernel
theorem dX11_isGood_7 : decode cX11_isGood 7 = .ok (.iconst 1, 1) := by decide +kernel
theorem dX11_isGood_8 : decode cX11_isGood 8 = .ok (.goto 4, 3) := by decide +kernel
theorem dX11_isGood_11 : decode cX11_isGood 11 = .ok (.iconst 0, 1) := by decide +kernel
theorem dX11_isGood_12 : decode cX11_isGood 12 = .ok (.ireturn, 1) := by decide +kernel
theorem dX11_isKept_0 : decode cX11_isKept 0 = .ok (.lload_n 0, 1) := by decide +kernel
theorem dX11_isKept_1 : decode cX11_isKept 1 = .ok (.ldc2_w 161, 3) := by decide +kernel
theorem dX11_isKept_4 : decode cX11_isKept 4 = .ok (.lcmp, 1) := by decide +kernel
theorem dX11_isKept_5 : decode cX11_isKept 5 = .ok (.ifCond .eq 83, 3) := by decide +kernel
theorem dX11_isKept_8 : decode cX11_isKept 8 = .ok (.lload_n 0, 1) := by decide +kernel
theorem dX11_isKept_9 : decode cX11_isKept 9 = .ok (.ldc2_w 163, 3) := by decide +kernel
theorem dX11_isKept_12 : decode cX11_isKept 12 = .ok (.lcmp, 1) := by decide +kernel
theorem dX11_isKept_13 : decode cX11_isKept 13 = .ok (.ifCond .eq 75, 3) := by decide +kernel
theorem dX11_isKept_16 : decode cX11_isKept 16 = .ok (.lload_n 0, 1) := by decide +kernel
theorem dX11_isKept_17 : decode cX11_isKept 17 = .ok (.ldc2_w 165, 3) := by decide +kernel
theorem dX11_isKept_20 : decode cX11_isKept 20 = .ok (.lcmp, 1) := by decide +kernel
theorem dX11_isKept_21 : decode cX11_isKept 21 = .ok (.ifCond .eq 67, 3) := by decide +kernel
theorem dX11_isKept_24 : decode cX11_isKept 24 = .ok (.lload_n 0, 1) := by decide +kernel
theorem dX11_isKept_25 : decode cX11_isKept 25 = .ok (.ldc2_w 167, 3) := by decide +kernel
theorem dX11_isKept_28 : decode cX11_isKept 28 = .ok (.lcmp, 1) := by decide +kernel
theorem dX11_isKept_29 : decode cX11_isKept 29 = .ok (.ifCond .eq 59, 3) := by decide +kernel
theorem dX11_isKept_32 : decode cX11_isKept 32 = .ok (.lload_n 0, 1) := by decide +kernel
theorem dX11_isKept_33 : decode cX11_isKept 33 = .ok (.ldc2_w 169, 3) := by decide +kernel
theorem dX11_isKept_36 : decode cX11_isKept 36 = .ok (.lcmp, 1) := by decide +kernel
theorem dX11_isKept_37 : decode cX11_isKept 37 = .ok (.ifCond .eq 51, 3) := by decide +kernel
theorem dX11_isKept_40 : decode cX11_isKept 40 = .ok (.lload_n 0, 1) := by decide +kernel
theorem dX11_isKept_41 : decode cX11_isKept 41 = .ok (.ldc2_w 171, 3) := by decide +kernel
theorem dX11_isKept_44 : decode cX11_isKept 44 = .ok (.lcmp, 1) := by decide +kernel
theorem dX11_isKept_45 : decode cX11_isKept 45 = .ok (.ifCond .eq 43, 3) := by decide +kernel
theorem dX11_isKept_48 : decode cX11_isKept 48 = .ok (.lload_n 0, 1) := by decide +kernel
theorem dX11_isKept_49 : decode cX11_isKept 49 = .ok (.ldc2_w 173, 3) := by decide +kernel
theorem dX11_isKept_52 : decode cX11_isKept 52 = .ok (.lcmp, 1) := by decide +kernel
theorem dX11_isKept_53 : decode cX11_isKept 53 = .ok (.ifCond .eq 35, 3) := by decide +kernel
theorem dX11_isKept_56 : decode cX11_isKept 56 = .ok (.lload_n 0, 1) := by decide +kernel
theorem dX11_isKept_57 : decode cX11_isKept 57 = .ok (.ldc2_w 175, 3) := by decide +kernel
theorem dX11_isKept_60 : decode cX11_isKept 60 = .ok (.lcmp, 1) := by decide +kernel
theorem dX11_isKept_61 : decode cX11_isKept 61 = .ok (.ifCond .eq 27, 3) := by decide +kernel
theorem dX11_isKept_64 : decode cX11_isKept 64 = .ok (.lload_n 0, 1) := by decide +kernel
theorem dX11_isKept_65 : decode cX11_isKept 65 = .ok (.ldc2_w 177, 3) := by decide +kernel
theorem dX11_isKept_68 : decode cX11_isKept 68 = .ok (.lcmp, 1) := by decide +kernel
theorem dX11_isKept_69 : decode cX11_isKept 69 = .ok (.ifCond .eq 19, 3) := by decide +kernel
theorem dX11_isKept_72 : decode cX11_isKept 72 = .ok (.lload_n 0, 1) := by decide +kernel
theorem dX11_isKept_73 : decode cX11_isKept 73 = .ok (.ldc2_w 179, 3) := by decide +kernel
theorem dX11_isKept_76 : decode cX11_isKept 76 = .ok (.lcmp, 1) := by decide +kernel
theorem dX11_isKept_77 : decode cX11_isKept 77 = .ok (.ifCond .eq 11, 3) := by decide +kernel
theorem dX11_isKept_80 : decode cX11_isKept 80 = .ok (.lload_n 0, 1) := by decide +kernel
theorem dX11_isKept_81 : decode cX11_isKept 81 = .ok (.ldc2_w 181, 3) := by decide +kernel
theorem dX11_isKept_84 : decode cX11_isKept 84 = .ok (.lcmp, 1) := by decide +kernel
theorem dX11_isKept_85 : decode cX11_isKept 85 = .ok (.ifCond .ne 7, 3) := by decide +kernel
theorem dX11_isKept_88 : decode cX11_isKept 88 = .ok (.iconst 1, 1) := by decide +kernel
theorem dX11_isKept_89 : decode cX11_isKept 89 = .ok (.goto 4, 3) := by decide +kernel
theorem dX11_isKept_92 : decode cX11_isKept 92 = .ok (.iconst 0, 1) := by decide +kernel
theorem dX11_isKept_93 : decode cX11_isKept 93 = .ok (.istore_n 2, 1) := by decide +kernel
theorem dX11_isKept_94 : decode cX11_isKept 94 = .ok (.iload_n 2, 1) := by decide +kernel
theorem dX11_isKept_95 : decode cX11_isKept 95 = .ok (.ifCond .ne 91, 3) := by decide +kernel
theorem dX11_isKept_98 : decode cX11_isKept 98 = .ok (.lload_n 0, 1) := by decide +kernel
theorem dX11_isKept_99 : decode cX11_isKept 99 = .ok (.ldc2_w 183, 3) := by decide +kernel
theorem dX11_isKept_102 : decode cX11_isKept 102 = .ok (.lcmp, 1) := by decide +kernel
theorem dX11_isKept_103 : decode cX11_isKept 103 = .ok (.ifCond .eq 83, 3) := by decide +kernel
theorem dX11_isKept_106 : decode cX11_isKept 106 = .ok (.lload_n 0, 1) := by decide +kernel
theorem dX11_isKept_107 : decode cX11_isKept 107 = .ok (.ldc2_w 185, 3) := by decide +kernel
theorem dX11_isKept_110 : decode cX11_isKept 110 = .ok (.lcmp, 1) := by decide +kernel
theorem dX11_isKept_111 : decode cX11_isKept 111 = .ok (.ifCond .eq 75, 3) := by decide +kernel
theorem dX11_isKept_114 : decode cX11_isKept 114 = .ok (.lload_n 0, 1) := by decide +kernel
theorem dX11_isKept_115 : decode cX11_isKept 115 = .ok (.ldc2_w 187, 3) := by decide +kernel
theorem dX11_isKept_118 : decode cX11_isKept 118 = .ok (.lcmp, 1) := by decide +kernel
theorem dX11_isKept_119 : decode cX11_isKept 119 = .ok (.ifCond .eq 67, 3) := by decide +kernel
theorem dX11_isKept_122 : decode cX11_isKept 122 = .ok (.lload_n 0, 1) := by decide +kernel
theorem dX11_isKept_123 : decode cX11_isKept 123 = .ok (.ldc2_w 189, 3) := by decide +kernel
theorem dX11_isKept_126 : decode cX11_isKept 126 = .ok (.lcmp, 1) := by decide +kernel
theorem dX11_isKept_127 : decode cX11_isKept 127 = .ok (.ifCond .eq 59, 3) := by decide +kernel
theorem dX11_isKept_130 : decode cX11_isKept 130 = .ok (.lload_n 0, 1) := by decide +kernel
theorem dX11_isKept_131 : decode cX11_isKept 131 = .ok (.ldc2_w 191, 3) := by decide +kernel
theorem dX11_isKept_134 : decode cX11_isKept 134 = .ok (.lcmp, 1) := by decide +kernel
theorem dX11_isKept_135 : decode cX11_isKept 135 = .ok (.ifCond .eq 51, 3) := by decide +kernel
theorem dX11_isKept_138 : decode cX11_isKept 138 = .ok (.lload_n 0, 1) := by decide +kernel
theorem dX11_isKept_139 : decode cX11_isKept 139 = .ok (.ldc2_w 193, 3) := by decide +kernel
theorem dX11_isKept_142 : decode cX11_isKept 142 = .ok (.lcmp, 1) := by decide +kernel
theorem dX11_isKept_143 : decode cX11_isKept 143 = .ok (.ifCond .eq 43, 3) := by decide +kernel
theorem dX11_isKept_146 : decode cX11_isKept 146 = .ok (.lload_n 0, 1) := by decide +kernel
theorem dX11_isKept_147 : decode cX11_isKept 147 = .ok (.ldc2_w 195, 3) := by decide +kernel
theorem dX11_isKept_150 : decode cX11_isKept 150 = .ok (.lcmp, 1) := by decide +kernel
theorem dX11_isKept_151 : decode cX11_isKept 151 = .ok (.ifCond .eq 35, 3) := by decide +kernel
theorem dX11_isKept_154 : decode cX11_isKept 154 = .ok (.lload_n 0, 1) := by decide +kernel
theorem dX11_isKept_155 : decode cX11_isKept 155 = .ok (.ldc2_w 197, 3) := by decide +kernel
theorem dX11_isKept_158 : decode cX11_isKept 158 = .ok (.lcmp, 1) := by decide +kernel
theorem dX11_isKept_159 : decode cX11_isKept 159 = .ok (.ifCond .eq 27, 3) := by decide +kernel
theorem dX11_isKept_162 : decode cX11_isKept 162 = .ok (.lload_n 0, 1) := by decide +kernel
theorem dX11_isKept_163 : decode cX11_isKept 163 = .ok (.ldc2_w 199, 3) := by decide +kernel
theorem dX11_isKept_166 : decode cX11_isKept 166 = .ok (.lcmp, 1) := by decide +kernel
theorem dX11_isKept_167 : decode cX11_isKept 167 = .ok (.ifCond .eq 19, 3) := by decide +kernel
theorem dX11_isKept_170 : decode cX11_isKept 170 = .ok (.lload_n 0, 1) := by decide +kernel
theorem dX11_isKept_171 : decode cX11_isKept 171 = .ok (.ldc2_w 201, 3) := by decide +kernel
theorem dX11_isKept_174 : decode cX11_isKept 174 = .ok (.lcmp, 1) := by decide +kernel
theorem dX11_isKept_175 : decode cX11_isKept 175 = .ok (.ifCond .eq 11, 3) := by decide +kernel
theorem dX11_isKept_178 : decode cX11_isKept 178 = .ok (.lload_n 0, 1) := by decide +kernel
theorem dX11_isKept_179 : decode cX11_isKept 179 = .ok (.ldc2_w 203, 3) := by decide +kernel
theorem dX11_isKept_182 : decode cX11_isKept 182 = .ok (.lcmp, 1) := by decide +kernel
theorem dX11_isKept_183 : decode cX11_isKept 183 = .ok (.ifCond .ne 7, 3) := by decide +kernel
theorem dX11_isKept_186 : decode cX11_isKept 186 = .ok (.iconst 1, 1) := by decide +kernel
theorem dX11_isKept_187 : decode cX11_isKept 187 = .ok (.goto 4, 3) := by decide +kernel
theorem dX11_isKept_190 : decode cX11_isKept 190 = .ok (.iconst 0, 1) := by decide +kernel
theorem dX11_isKept_191 : decode cX11_isKept 191 = .ok (.ireturn, 1) := by decide +kernel
set_option maxHeartbeats 20000000 in
set_option maxRecDepth 100000 in
theorem J22_X11_sign (l : Launch) (D : va_G) (cT : Nat → ClassId) (T : Nat → Option Nat) (q : Nat → Int) (hT : tokm T) (hq : qkm q) (a0 : Nat) (t0 : T a0 = some 0) (y1 : Int32) (j1 : IV y1 0 1601) (p : Program) (e : Env) (s : State) (m : MethodId) (below : List Frame) (meth : Method) (c : Code) (S : CallFix p m c cX11_sign 2 s [.ref a0, .int y1].toArray gw yX11_sign.cls) (hK : va_K D classes (th_tys cT) s) (hr : meth.sig.returnType = (some .int)) (hlocks : meth.locks = false) : ∀ (H : Heap) (locs : List Loc) (ls : Array Slot) (w22_0 : Int32), IV w22_0 0 255 → (w22_0.toInt = sg q y1.toInt) → th_H D cT T (km q) H → va_S (th_A T []) s.heap H locs → lv_has ls 2 [] → W p l e (rmk 0 0) s m [.ref a0, .int y1].toArray below meth c H locs 0 0 (MQ below (th_Q D cT T (km q) (th_RP 0 255 (fun r => (r.toInt = sg q y1.toInt))) []) [.ref a0, .int y1].toArray s 0 0 (th_A T [])) (F0 m 22 ls [.int w22_0]) := by
    have hx := S.1
    have hb := S.2.1
    have l1y1 := j1.1; have l2y1 := j1.2
    intro H locs ls w22_0 iw22_0 v22_inv0 hH hS hl
    have l1w22_0 := iw22_0.1; have l2w22_0 := iw22_0.2
    exact th_iret S hK hH hS hr hlocks (th_RP.i iw22_0 (show w22_0.toInt = sg q y1.toInt by first | assumption | (first | assumption | (rw [sg_def, if_neg (by omega)])))) dX11_sign_22


set_option maxHeartbeats 20000000 in
set_option maxRecDepth 100000 in
theorem J22_s0_0_X11_sign (l : Launch) (D : va_G) (cT : Nat → ClassId) (T : Nat → Option Nat) (q : Nat → Int) (hT : tokm T) (hq : qkm q) (a0 : Nat) (t0 : T a0 = some 0) (y1 : Int32) (j1 : IV y1 0 1601) (p : Program) (e : Env) (s : State) (m : MethodId) (below : List Frame) (meth : Method) (c : Code) (S : CallFix p m c cX11_sign 2 s [.ref a0, .int y1].toArray gw yX11_sign.cls) (hK : va_K D classes (th_tys cT) s) (hr : meth.sig.returnType = (some .int)) (hlocks : meth.locks = false) : ∀ (H : Heap) (locs : List Loc) (ls : Array Slot), ((0 : Int) = sg q y1.toInt) → th_H D cT T (km q) H → va_S (th_A T []) s.heap H locs → lv_has ls 2 [] → W p l e (rmk 0 0) s m [.ref a0, .int y1].toArray below meth c H locs 0 0 (MQ below (th_Q D cT T (km q) (th_RP 0 255 (fun r => (r.toInt = sg q y1.toInt))) []) [.ref a0, .int y1].toArray s 0 0 (th_A T [])) (F0 m 22 ls [.int 0]) := by
    have hx := S.1
    have hb := S.2.1
    have l1y1 := j1.1; have l2y1 := j1.2
    intro H locs ls v22_inv0 hH hS hl
    exact th_iret S hK hH hS hr hlocks (th_RP.i (iv_w (iv_c (by decide) : IV 0 0 0) (by decide)) (show (0 : Int) = sg q y1.toInt by first | assumption | (first | assumption | (rw [sg_def, if_neg (by omega)])))) dX11_sign_22

set_option maxHeartbeats 20000000 in
set_option maxRecDepth 100000 in
theorem m_X11_sign (l : Launch) (D : va_G) (cT : Nat → ClassId) (T : Nat → Option Nat) (q : Nat → Int) (hT : tokm T) (hq : qkm q) (a0 : Nat) (t0 : T a0 = some 0) (y1 : Int32) (j1 : IV y1 0 1601) : th_Met l D cT T (km q) yX11_sign cX11_sign 2 (some .int) (rmk 0 0) [.ref a0, .int y1] (th_RP 0 255 (fun r => (r.toInt = sg q y1.toInt))) [] := by
  refine th_start (by decide) (Nat.le_of_ble_eq_true rfl) ?_
  intro p e s m below meth c ls S hK hH hr hlocks hnm hl
  have hx := S.1
  have hb := S.2.1
  have l1y1 := j1.1; have l2y1 := j1.2
  have hl : lv_has ls 2 [(0, .ref a0), (1, .int y1)] := hl
  have J22 := J22_X11_sign l D cT T q hT hq a0 t0 y1 j1 p e s m below meth c S hK hr hlocks
  have J22_s0_0 := J22_s0_0_X11_sign l D cT T q hT hq a0 t0 y1 j1 p e s m below meth c S hK hr hlocks
  have J0 : ∀ (H : Heap) (locs : List Loc) (ls : Array Slot), th_H D cT T (km q) H → va_S (th_A T []) s.heap H locs → lv_has ls 2 [(0, .ref a0), (1, .int y1)] → W p l e (rmk 0 0) s m [.ref a0, .int y1].toArray below meth c H locs 0 0 (MQ below (th_Q D cT T (km q) (th_RP 0 255 (fun r => (r.toInt = sg q y1.toInt))) []) [.ref a0, .int y1].toArray s 0 0 (th_A T [])) (F0 m 0 ls []) := by
    intro H locs ls hH hS hl
    refine lv_iload_n hx hb dX11_sign_0 rfl (lv_at hl 1 rfl) ?_
    refine lv_aload_n hx hb dX11_sign_1 rfl (lv_at hl 0 rfl) ?_
    refine th_get S hK hH inG11 t0 km_0 rfl 3 (by decide) gm_1233 rfl rfl dX11_sign_2 (fun v1 hv1 fv1 => ?_)
    obtain ⟨x2, rfl, ix2⟩ := th_V.int hv1
    have kx2 : x2.toInt = q 26 := Int.le_antisymm ix2.2 ix2.1
    have ix2 : IV x2 0 1600 := iv_w ix2 (qkm_26 hq)
    refine lv_icmp_ge (tgt := 21) hx hb dX11_sign_5 (by decide) (fun c3 => ?_) (fun c3 => ?_)
    · skip
      have rlc3 : x2.toInt ≤ y1.toInt := iv_le c3
      refine lv_iconst (v := 0) hx hb dX11_sign_21 (by decide) ?_
      exact J22_s0_0 H locs ls (show (0 : Int) = sg q y1.toInt by first | assumption | (rw [sg_def, if_neg (by omega)])) hH hS (lv_sub hl [] rfl)
    · skip
      have rlc3 : y1.toInt < x2.toInt := iv_nle c3
      have ir4 : IV y1 0 1599 := iv_uL j1 ix2 (iv_nle c3) (by decide)
      have ir4a := ir4.1; have ir4b := ir4.2
      have ir5 : IV x2 1 1600 := iv_uR j1 ix2 (iv_nle c3) (by decide)
      have ir5a := ir5.1; have ir5b := ir5.2
      refine lv_aload_n hx hb dX11_sign_8 rfl (lv_at hl 0 rfl) ?_
      refine th_get S hK hH inG11 t0 km_0 rfl 1 (by decide) gm_1231 rfl rfl dX11_sign_9 (fun v6 hv6 fv6 => ?_)
      obtain ⟨rf7, rfl, trf7⟩ := th_V.ref hv6
      refine lv_iload_n hx hb dX11_sign_12 rfl (lv_at hl 1 rfl) ?_
      refine th_bald S hK hH trf7 km_2 (th_in (hi := 1599) ir4 (by decide)) dX11_sign_13 (fun v8 hv8 => ?_)
      obtain ⟨x9, rfl, kx9⟩ := th_eaR hv8 (th_lt (th_in (hi := 1599) ir4 (by decide)))
      have ix9 := iv_top x9
      have jx9 := th_nat (hi := 1599) ir4
      refine lv_sipush (v := 255) hx hb dX11_sign_14 (by decide) ?_
      refine lv_iand hx hb dX11_sign_17 ?_
      refine lv_topi (fun x10 ex10 => ?_)
      have ix10 : IV x10 0 255 := by rw [ex10]; exact iv_and (h2 := 255) (iv_w (iv_c (by decide) : IV 255 255 255) (by decide)) (by decide)
      have hm : x10.toInt = sg q y1.toInt := by rw [sg_def, if_pos (by omega), ex10, and255, kx9]; exact congrArg (fun z => q z % 256) (show 3000 + y1.toNatClampNeg = 3000 + y1.toInt.toNat by omega)
      refine lv_goto (tgt := 22) hx hb dX11_sign_18 (by decide) ?_
      exact J22 H locs ls x10 ix10 (show x10.toInt = sg q y1.toInt by first | assumption | (rw [sg_def, if_neg (by omega)])) hH hS (lv_sub hl [] rfl)
  exact J0 s.heap [] ls hH va_S.rf hl

set_option maxHeartbeats 20000000 in
set_option maxRecDepth 100000 in
theorem m_X11_fails (l : Launch) (D : va_G) (cT : Nat → ClassId) (T : Nat → Option Nat) (q : Nat → Int) (hT : tokm T) (hq : qkm q) (a0 : Nat) (t0 : T a0 = some 0) (y1 : Int32) (j1 : IV y1 1 5) (y2 : Int32) (j2 : IV y2 (-2147483648) 2147483647) : th_MetM l D cT T q yX11_fails cX11_fails 3 none (rmk 0 0) [.ref a0, .int y1, .int y2] (fun v q2 => v = none ∧ qkm q2 ∧ fr [30] q q2 ∧ (1 ≤ q2 30)) [0] := by
  refine th_startM (by decide) (Nat.le_of_ble_eq_true rfl) ?_
  intro p e s m below meth c ls S hK hH hr hlocks hnm hl
  have hx := S.1
  have hb := S.2.1
  have l1y1 := j1.1; have l2y1 := j1.2
  have hl : lv_has ls 3 [(0, .ref a0), (1, .int y1), (2, .int y2)] := hl
  have J0 : ∀ (H : Heap) (locs : List Loc) (ls : Array Slot), th_H D cT T (km q) H → va_S (th_A T [0]) s.heap H locs → lv_has ls 3 [(0, .ref a0), (1, .int y1), (2, .int y2)] → W p l e (rmk 0 0) s m [.ref a0, .int y1, .int y2].toArray below meth c H locs 0 0 (MQ below (th_QM D cT T (fun v q2 => v = none ∧ qkm q2 ∧ fr [30] q q2 ∧ (1 ≤ q2 30)) [0]) [.ref a0, .int y1, .int y2].toArray s 0 0 (th_A T [0])) (F0 m 0 ls []) := by
    intro H locs ls hH hS hl
    refine lv_aload_n hx hb dX11_fails_0 rfl (lv_at hl 0 rfl) ?_
    refine th_get S hK hH inG11 t0 km_0 rfl 4 (by decide) gm_1234 rfl rfl dX11_fails_1 (fun v1 hv1 fv1 => ?_)
    obtain ⟨x2, rfl, ix2⟩ := th_V.int hv1
    have kx2 : x2.toInt = q 30 := Int.le_antisymm ix2.2 ix2.1
    have bx2 := qkm_30 hq
    have ix2 : IV x2 0 5 := iv_w ix2 (qkm_30 hq)
    refine lv_if_le (tgt := 8) hx hb dX11_fails_4 (by decide) (fun c3 => ?_) (fun c3 => ?_)
    · skip
      have rlc3 : x2.toInt ≤ (0 : Int) := iv_le c3
      have ir4 : IV x2 0 0 := iv_vL ix2 (iv_c (by decide) : IV 0 0 0) (iv_le c3) (by decide)
      have ir4a := ir4.1; have ir4b := ir4.2
      refine lv_aload_n hx hb dX11_fails_8 rfl (lv_at hl 0 rfl) ?_
      refine lv_iload_n hx hb dX11_fails_9 rfl (lv_at hl 1 rfl) ?_
      obtain ⟨n6, en6⟩ : ∃ z : Int, z = Int32.toInt y1 := ⟨_, rfl⟩
      refine mput_30 S hK hH hS ⟨0, by decide, t0⟩ hT t0 en6 gm_1234 dX11_fails_10 (fun q5 H locs eq5 hH hS hq1 => ?_)
      have hqq5 : qkm q5 := by rw [eq5]; exact qum_ok30 hq (iv_z en6 (iv_w j1 (by decide)))
      have h0q5 : fr [30] q q5 := by rw [eq5]; exact fr_up fr_rf (by decide)
      have wq5_30 : q5 30 = n6 := by rw [eq5]; rfl
      refine lv_aload_n hx hb dX11_fails_13 rfl (lv_at hl 0 rfl) ?_
      refine lv_iload_n hx hb dX11_fails_14 rfl (lv_at hl 2 rfl) ?_
      refine th_put S hK hH hS ⟨0, by decide, t0⟩ inG11 tyX11 tyX11_ok nmX11 t0 km_0 rfl 5 (by decide) gm_1235 rfl rfl rfl rfl (th_iv j2) (fun vs h => nmR_set h.2.2 (by decide) rfl) (ty := .int) (by decide +kernel) rfl rfl dX11_fails_15 (fun H locs hH hS hq1 hp1 => ?_)
      exact th_vretM S hK hH hS hr hlocks ⟨rfl, hqq5, h0q5, (show 1 ≤ q5 30 by omega)⟩ dX11_fails_18
    · skip
      have rlc3 : (0 : Int) < x2.toInt := iv_nle c3
      have ir7 : IV x2 1 5 := iv_uR (iv_c (by decide) : IV 0 0 0) ix2 (iv_nle c3) (by decide)
      have ir7a := ir7.1; have ir7b := ir7.2
      exact th_vretM S hK hH hS hr hlocks ⟨rfl, hq, fr_rf, (show 1 ≤ q 30 by omega)⟩ dX11_fails_7
  exact J0 s.heap [] ls hH va_S.rf hl

set_option maxHeartbeats 20000000 in
set_option maxRecDepth 100000 in
theorem J12_s0_0_X11_isGood (l : Launch) (D : va_G) (cT : Nat → ClassId) (T : Nat → Option Nat) (q : Nat → Int) (hT : tokm T) (hq : qkm q) (a0 : Nat) (t0 : T a0 = some 0) (p : Program) (e : Env) (s : State) (m : MethodId) (below : List Frame) (meth : Method) (c : Code) (S : CallFix p m c cX11_isGood 1 s [.ref a0].toArray gw yX11_isGood.cls) (hK : va_K D classes (th_tys cT) s) (hr : meth.sig.returnType = (some .boolean)) (hlocks : meth.locks = false) : ∀ (H : Heap) (locs : List Loc) (ls : Array Slot), ((0 : Int) ≠ 0 → q 30 = 0) → ((0 : Int) = 0 → 1 ≤ q 30) → th_H D cT T (km q) H → va_S (th_A T []) s.heap H locs → lv_has ls 1 [] → W p l e (rmk 0 0) s m [.ref a0].toArray below meth c H locs 0 0 (MQ below (th_Q D cT T (km q) (th_RP 0 1 (fun r => (r.toInt ≠ 0 → q 30 = 0) ∧ (r.toInt = 0 → 1 ≤ q 30))) []) [.ref a0].toArray s 0 0 (th_A T [])) (F0 m 12 ls [.int 0]) := by
    have hx := S.1
    have hb := S.2.1
    have b30 := qkm_30 hq
    intro H locs ls v12_inv0 v12_inv1 hH hS hl
    exact th_zret S hK hH hS hr hlocks (iv_w (iv_c (by decide) : IV 0 0 0) (by decide)) (th_RP.i (iv_w (iv_c (by decide) : IV 0 0 0) (by decide)) ⟨(show (0 : Int) ≠ 0 → q 30 = 0 by first | assumption | (first | omega | (intro z; omega))), (show (0 : Int) = 0 → 1 ≤ q 30 by first | assumption | (first | omega | (intro z; omega)))⟩) dX11_isGood_12


set_option maxHeartbeats 20000000 in
set_option maxRecDepth 100000 in
theorem J12_s0_1_X11_isGood (l : Launch) (D : va_G) (cT : Nat → ClassId) (T : Nat → Option Nat) (q : Nat → Int) (hT : tokm T) (hq : qkm q) (a0 : Nat) (t0 : T a0 = some 0) (p : Program) (e : Env) (s : State) (m : MethodId) (below : List Frame) (meth : Method) (c : Code) (S : CallFix p m c cX11_isGood 1 s [.ref a0].toArray gw yX11_isGood.cls) (hK : va_K D classes (th_tys cT) s) (hr : meth.sig.returnType = (some .boolean)) (hlocks : meth.locks = false) : ∀ (H : Heap) (locs : List Loc) (ls : Array Slot), ((1 : Int) ≠ 0 → q 30 = 0) → ((1 : Int) = 0 → 1 ≤ q 30) → th_H D cT T (km q) H → va_S (th_A T []) s.heap H locs → lv_has ls 1 [] → W p l e (rmk 0 0) s m [.ref a0].toArray below meth c H locs 0 0 (MQ below (th_Q D cT T (km q) (th_RP 0 1 (fun r => (r.toInt ≠ 0 → q 30 = 0) ∧ (r.toInt = 0 → 1 ≤ q 30))) []) [.ref a0].toArray s 0 0 (th_A T [])) (F0 m 12 ls [.int 1]) := by
    have hx := S.1
    have hb := S.2.1
    have b30 := qkm_30 hq
    intro H locs ls v12_inv0 v12_inv1 hH hS hl
    exact th_zret S hK hH hS hr hlocks (iv_w (iv_c (by decide) : IV 1 1 1) (by decide)) (th_RP.i (iv_w (iv_c (by decide) : IV 1 1 1) (by decide)) ⟨(show (1 : Int) ≠ 0 → q 30 = 0 by first | assumption | (first | omega | (intro z; omega))), (show (1 : Int) = 0 → 1 ≤ q 30 by first | assumption | (first | omega | (intro z; omega)))⟩) dX11_isGood_12

set_option maxHeartbeats 20000000 in
set_option maxRecDepth 100000 in
theorem m_X11_isGood (l : Launch) (D : va_G) (cT : Nat → ClassId) (T : Nat → Option Nat) (q : Nat → Int) (hT : tokm T) (hq : qkm q) (a0 : Nat) (t0 : T a0 = some 0) : th_Met l D cT T (km q) yX11_isGood cX11_isGood 1 (some .boolean) (rmk 0 0) [.ref a0] (th_RP 0 1 (fun r => (r.toInt ≠ 0 → q 30 = 0) ∧ (r.toInt = 0 → 1 ≤ q 30))) [] := by
  refine th_start (by decide) (Nat.le_of_ble_eq_true rfl) ?_
  intro p e s m below meth c ls S hK hH hr hlocks hnm hl
  have hx := S.1
  have hb := S.2.1
  have b30 := qkm_30 hq
  have hl : lv_has ls 1 [(0, .ref a0)] := hl
  have J12_s0_0 := J12_s0_0_X11_isGood l D cT T q hT hq a0 t0 p e s m below meth c S hK hr hlocks
  have J12_s0_1 := J12_s0_1_X11_isGood l D cT T q hT hq a0 t0 p e s m below meth c S hK hr hlocks
  have J0 : ∀ (H : Heap) (locs : List Loc) (ls : Array Slot), th_H D cT T (km q) H → va_S (th_A T []) s.heap H locs → lv_has ls 1 [(0, .ref a0)] → W p l e (rmk 0 0) s m [.ref a0].toArray below meth c H locs 0 0 (MQ below (th_Q D cT T (km q) (th_RP 0 1 (fun r => (r.toInt ≠ 0 → q 30 = 0) ∧ (r.toInt = 0 → 1 ≤ q 30))) []) [.ref a0].toArray s 0 0 (th_A T [])) (F0 m 0 ls []) := by
    intro H locs ls hH hS hl
    refine lv_aload_n hx hb dX11_isGood_0 rfl (lv_at hl 0 rfl) ?_
    refine th_get S hK hH inG11 t0 km_0 rfl 4 (by decide) gm_1234 rfl rfl dX11_isGood_1 (fun v1 hv1 fv1 => ?_)
    obtain ⟨x2, rfl, ix2⟩ := th_V.int hv1
    have kx2 : x2.toInt = q 30 := Int.le_antisymm ix2.2 ix2.1
    have bx2 := qkm_30 hq
    have ix2 : IV x2 0 5 := iv_w ix2 (qkm_30 hq)
    refine lv_if_ne (tgt := 11) hx hb dX11_isGood_4 (by decide) (fun c3 => ?_) (fun c3 => ?_)
    · skip
      have rlc3 : x2.toInt ≠ (0 : Int) := iv_ne c3
      have ir4 : IV x2 1 5 := iv_cutL ix2 (iv_c (by decide) : IV 0 0 0) c3 (by decide)
      have ir4a := ir4.1; have ir4b := ir4.2
      clear rlc3
      refine lv_iconst (v := 0) hx hb dX11_isGood_11 (by decide) ?_
      exact J12_s0_0 H locs ls (show (0 : Int) ≠ 0 → q 30 = 0 by first | omega | (intro z; omega)) (show (0 : Int) = 0 → 1 ≤ q 30 by first | omega | (intro z; omega)) hH hS (lv_sub hl [] rfl)
    · skip
      have rlc3 : x2.toInt = (0 : Int) := congrArg Int32.toInt c3
      have ir5 : IV x2 0 0 := iv_eL c3 (iv_c (by decide) : IV 0 0 0)
      have ir5a := ir5.1; have ir5b := ir5.2
      refine lv_iconst (v := 1) hx hb dX11_isGood_7 (by decide) ?_
      refine lv_goto (tgt := 12) hx hb dX11_isGood_8 (by decide) ?_
      exact J12_s0_1 H locs ls (show (1 : Int) ≠ 0 → q 30 = 0 by first | omega | (intro z; omega)) (show (1 : Int) = 0 → 1 ≤ q 30 by first | omega | (intro z; omega)) hH hS (lv_sub hl [] rfl)
  exact J0 s.heap [] ls hH va_S.rf hl

set_option maxHeartbeats 20000000 in
set_option maxRecDepth 100000 in
theorem J191_s0_0_X11_isKept (l : Launch) (D : va_G) (cT : Nat → ClassId) (T : Nat → Option Nat) (q : Nat → Int) (hT : tokm T) (hq : qkm q) (y0 : Int64) (p : Program) (e : Env) (s : State) (m : MethodId) (below : List Frame) (meth : Method) (c : Code) (S : CallFix p m c cX11_isKept 3 s [.long y0].toArray gw yX11_isKept.cls) (hK : va_K D classes (th_tys cT) s) (hr : meth.sig.returnType = (some .boolean)) (hlocks : meth.locks = false) : ∀ (H : Heap) (locs : List Loc) (ls : Array Slot), th_H D cT T (km q) H → va_S (th_A T []) s.heap H locs → lv_has ls 3 [] → W p l e (rmk 0 0) s m [.long y0].toArray below meth c H locs 0 0 (MQ below (th_Q D cT T (km q) (th_R T (some (.inl (0, 1)))) []) [.long y0].toArray s 0 0 (th_A T [])) (F0 m 191 ls [.int 0]) := by
    have hx := S.1
    have hb := S.2.1
    intro H locs ls hH hS hl
    exact th_zret S hK hH hS hr hlocks (iv_w (iv_c (by decide) : IV 0 0 0) (by decide)) (th_R.i (iv_w (iv_c (by decide) : IV 0 0 0) (by decide))) dX11_isKept_191


set_option maxHeartbeats 20000000 in
set_option maxRecDepth 100000 in
theorem J191_s0_1_X11_isKept (l : Launch) (D : va_G) (cT : Nat → ClassId) (T : Nat → Option Nat) (q : Nat → Int) (hT : tokm T) (hq : qkm q) (y0 : Int64) (p : Program) (e : Env) (s : State) (m : MethodId) (below : List Frame) (meth : Method) (c : Code) (S : CallFix p m c cX11_isKept 3 s [.long y0].toArray gw yX11_isKept.cls) (hK : va_K D classes (th_tys cT) s) (hr : meth.sig.returnType = (some .boolean)) (hlocks : meth.locks = false) : ∀ (H : Heap) (locs : List Loc) (ls : Array Slot), th_H D cT T (km q) H → va_S (th_A T []) s.heap H locs → lv_has ls 3 [] → W p l e (rmk 0 0) s m [.long y0].toArray below meth c H locs 0 0 (MQ below (th_Q D cT T (km q) (th_R T (some (.inl (0, 1)))) []) [.long y0].toArray s 0 0 (th_A T [])) (F0 m 191 ls [.int 1]) := by
    have hx := S.1
    have hb := S.2.1
    intro H locs ls hH hS hl
    exact th_zret S hK hH hS hr hlocks (iv_w (iv_c (by decide) : IV 1 1 1) (by decide)) (th_R.i (iv_w (iv_c (by decide) : IV 1 1 1) (by decide))) dX11_isKept_191


set_option maxHeartbeats 20000000 in
set_option maxRecDepth 100000 in
theorem J186_X11_isKept (l : Launch) (D : va_G) (cT : Nat → ClassId) (T : Nat → Option Nat) (q : Nat → Int) (hT : tokm T) (hq : qkm q) (y0 : Int64) (p : Program) (e : Env) (s : State) (m : MethodId) (below : List Frame) (meth : Method) (c : Code) (S : CallFix p m c cX11_isKept 3 s [.long y0].toArray gw yX11_isKept.cls) (hK : va_K D classes (th_tys cT) s) (hr : meth.sig.returnType = (some .boolean)) (hlocks : meth.locks = false) : ∀ (H : Heap) (locs : List Loc) (ls : Array Slot), th_H D cT T (km q) H → va_S (th_A T []) s.heap H locs → lv_has ls 3 [] → W p l e (rmk 0 0) s m [.long y0].toArray below meth c H locs 0 0 (MQ below (th_Q D cT T (km q) (th_R T (some (.inl (0, 1)))) []) [.long y0].toArray s 0 0 (th_A T [])) (F0 m 186 ls []) := by
    have hx := S.1
    have hb := S.2.1
    have J191_s0_1 := J191_s0_1_X11_isKept l D cT T q hT hq y0 p e s m below meth c S hK hr hlocks
    intro H locs ls hH hS hl
    refine lv_iconst (v := 1) hx hb dX11_isKept_186 (by decide) ?_
    refine lv_goto (tgt := 191) hx hb dX11_isKept_187 (by decide) ?_
    exact J191_s0_1 H locs ls  hH hS (lv_sub hl [] rfl)


set_option maxHeartbeats 20000000 in
set_option maxRecDepth 100000 in
theorem J93_s0_0_X11_isKept (l : Launch) (D : va_G) (cT : Nat → ClassId) (T : Nat → Option Nat) (q : Nat → Int) (hT : tokm T) (hq : qkm q) (y0 : Int64) (p : Program) (e : Env) (s : State) (m : MethodId) (below : List Frame) (meth : Method) (c : Code) (S : CallFix p m c cX11_isKept 3 s [.long y0].toArray gw yX11_isKept.cls) (hK : va_K D classes (th_tys cT) s) (hr : meth.sig.returnType = (some .boolean)) (hlocks : meth.locks = false) : ∀ (H : Heap) (locs : List Loc) (ls : Array Slot), th_H D cT T (km q) H → va_S (th_A T []) s.heap H locs → lv_has ls 3 [(0, .long y0)] → W p l e (rmk 0 0) s m [.long y0].toArray below meth c H locs 0 0 (MQ below (th_Q D cT T (km q) (th_R T (some (.inl (0, 1)))) []) [.long y0].toArray s 0 0 (th_A T [])) (F0 m 93 ls [.int 0]) := by
    have hx := S.1
    have hb := S.2.1
    have J191_s0_0 := J191_s0_0_X11_isKept l D cT T q hT hq y0 p e s m below meth c S hK hr hlocks
    have J186 := J186_X11_isKept l D cT T q hT hq y0 p e s m below meth c S hK hr hlocks
    intro H locs ls hH hS hl
    refine lv_istore_n (lv' := [(2, .int 0), (0, .long y0)]) hx hb dX11_isKept_93 rfl hl (by decide) rfl (fun ls hl => ?_)
    refine lv_iload_n hx hb dX11_isKept_94 rfl (lv_at hl 0 rfl) ?_
    refine lv_if_ne (tgt := 186) hx hb dX11_isKept_95 (by decide) (fun c1 => ?_) (fun c1 => ?_)
    · skip
      have rlc1 : (0 : Int) ≠ (0 : Int) := iv_ne c1
      exact absurd (iv_eqc (iv_c (by decide) : IV 0 0 0) (iv_c (by decide) : IV 0 0 0)) c1
    · skip
      have rlc1 : (0 : Int) = (0 : Int) := congrArg Int32.toInt c1
      refine lv_lload_n hx hb dX11_isKept_98 rfl (lv_at hl 1 rfl) ?_
      refine lv_ldc2 (v := 108230800074098) hx hb S.2.2.2.1 (S.2.2.2.2 _ gm_1467) dX11_isKept_99 ?_
      refine W.lcmp hx hb dX11_isKept_102 ?_
      refine lv_topi (fun x2 ex2 => ?_)
      have ix2 := iv_top x2
      have ax2 : x2.toInt = 0 → y0.toInt = (108230800074098 : Int) := lc_eq ex2
      have bx2 : x2.toInt ≠ 0 → y0.toInt ≠ (108230800074098 : Int) := lc_ne ex2
      refine lv_if_eq (tgt := 186) hx hb dX11_isKept_103 (by decide) (fun c3 => ?_) (fun c3 => ?_)
      · skip
        have rlc3 : x2.toInt = (0 : Int) := congrArg Int32.toInt c3
        have ax2r := ax2 rlc3
        clear ax2
        clear bx2
        have ir4 : IV x2 0 0 := iv_eL c3 (iv_c (by decide) : IV 0 0 0)
        have ir4a := ir4.1; have ir4b := ir4.2
        exact J186 H locs ls  hH hS (lv_sub hl [] rfl)
      · skip
        have rlc3 : x2.toInt ≠ (0 : Int) := iv_ne c3
        clear ax2
        have bx2r := bx2 rlc3
        clear bx2
        clear rlc3
        refine lv_lload_n hx hb dX11_isKept_106 rfl (lv_at hl 1 rfl) ?_
        refine lv_ldc2 (v := 499851162725) hx hb S.2.2.2.1 (S.2.2.2.2 _ gm_1468) dX11_isKept_107 ?_
        refine W.lcmp hx hb dX11_isKept_110 ?_
        refine lv_topi (fun x5 ex5 => ?_)
        have ix5 := iv_top x5
        have ax5 : x5.toInt = 0 → y0.toInt = (499851162725 : Int) := lc_eq ex5
        have bx5 : x5.toInt ≠ 0 → y0.toInt ≠ (499851162725 : Int) := lc_ne ex5
        refine lv_if_eq (tgt := 186) hx hb dX11_isKept_111 (by decide) (fun c6 => ?_) (fun c6 => ?_)
        · skip
          have rlc6 : x5.toInt = (0 : Int) := congrArg Int32.toInt c6
          have ax5r := ax5 rlc6
          clear ax5
          clear bx5
          have ir7 : IV x5 0 0 := iv_eL c6 (iv_c (by decide) : IV 0 0 0)
          have ir7a := ir7.1; have ir7b := ir7.2
          exact J186 H locs ls  hH hS (lv_sub hl [] rfl)
        · skip
          have rlc6 : x5.toInt ≠ (0 : Int) := iv_ne c6
          clear ax5
          have bx5r := bx5 rlc6
          clear bx5
          clear rlc6
          refine lv_lload_n hx hb dX11_isKept_114 rfl (lv_at hl 1 rfl) ?_
          refine lv_ldc2 (v := 131294708393330) hx hb S.2.2.2.1 (S.2.2.2.2 _ gm_1469) dX11_isKept_115 ?_
          refine W.lcmp hx hb dX11_isKept_118 ?_
          refine lv_topi (fun x8 ex8 => ?_)
          have ix8 := iv_top x8
          have ax8 : x8.toInt = 0 → y0.toInt = (131294708393330 : Int) := lc_eq ex8
          have bx8 : x8.toInt ≠ 0 → y0.toInt ≠ (131294708393330 : Int) := lc_ne ex8
          refine lv_if_eq (tgt := 186) hx hb dX11_isKept_119 (by decide) (fun c9 => ?_) (fun c9 => ?_)
          · skip
            have rlc9 : x8.toInt = (0 : Int) := congrArg Int32.toInt c9
            have ax8r := ax8 rlc9
            clear ax8
            clear bx8
            have ir10 : IV x8 0 0 := iv_eL c9 (iv_c (by decide) : IV 0 0 0)
            have ir10a := ir10.1; have ir10b := ir10.2
            exact J186 H locs ls  hH hS (lv_sub hl [] rfl)
          · skip
            have rlc9 : x8.toInt ≠ (0 : Int) := iv_ne c9
            clear ax8
            have bx8r := bx8 rlc9
            clear bx8
            clear rlc9
            refine lv_lload_n hx hb dX11_isKept_122 rfl (lv_at hl 1 rfl) ?_
            refine lv_ldc2 (v := 1685217655) hx hb S.2.2.2.1 (S.2.2.2.2 _ gm_1470) dX11_isKept_123 ?_
            refine W.lcmp hx hb dX11_isKept_126 ?_
            refine lv_topi (fun x11 ex11 => ?_)
            have ix11 := iv_top x11
            have ax11 : x11.toInt = 0 → y0.toInt = (1685217655 : Int) := lc_eq ex11
            have bx11 : x11.toInt ≠ 0 → y0.toInt ≠ (1685217655 : Int) := lc_ne ex11
            refine lv_if_eq (tgt := 186) hx hb dX11_isKept_127 (by decide) (fun c12 => ?_) (fun c12 => ?_)
            · skip
              have rlc12 : x11.toInt = (0 : Int) := congrArg Int32.toInt c12
              have ax11r := ax11 rlc12
              clear ax11
              clear bx11
              have ir13 : IV x11 0 0 := iv_eL c12 (iv_c (by decide) : IV 0 0 0)
              have ir13a := ir13.1; have ir13b := ir13.2
              exact J186 H locs ls  hH hS (lv_sub hl [] rfl)
            · skip
              have rlc12 : x11.toInt ≠ (0 : Int) := iv_ne c12
              clear ax11
              have bx11r := bx11 rlc12
              clear bx11
              clear rlc12
              refine lv_lload_n hx hb dX11_isKept_130 rfl (lv_at hl 1 rfl) ?_
              refine lv_ldc2 (v := 2036687218) hx hb S.2.2.2.1 (S.2.2.2.2 _ gm_1471) dX11_isKept_131 ?_
              refine W.lcmp hx hb dX11_isKept_134 ?_
              refine lv_topi (fun x14 ex14 => ?_)
              have ix14 := iv_top x14
              have ax14 : x14.toInt = 0 → y0.toInt = (2036687218 : Int) := lc_eq ex14
              have bx14 : x14.toInt ≠ 0 → y0.toInt ≠ (2036687218 : Int) := lc_ne ex14
              refine lv_if_eq (tgt := 186) hx hb dX11_isKept_135 (by decide) (fun c15 => ?_) (fun c15 => ?_)
              · skip
                have rlc15 : x14.toInt = (0 : Int) := congrArg Int32.toInt c15
                have ax14r := ax14 rlc15
                clear ax14
                clear bx14
                have ir16 : IV x14 0 0 := iv_eL c15 (iv_c (by decide) : IV 0 0 0)
                have ir16a := ir16.1; have ir16b := ir16.2
                exact J186 H locs ls  hH hS (lv_sub hl [] rfl)
              · skip
                have rlc15 : x14.toInt ≠ (0 : Int) := iv_ne c15
                clear ax14
                have bx14r := bx14 rlc15
                clear bx14
                clear rlc15
                refine lv_lload_n hx hb dX11_isKept_138 rfl (lv_at hl 1 rfl) ?_
                refine lv_ldc2 (v := 435426714990) hx hb S.2.2.2.1 (S.2.2.2.2 _ gm_1472) dX11_isKept_139 ?_
                refine W.lcmp hx hb dX11_isKept_142 ?_
                refine lv_topi (fun x17 ex17 => ?_)
                have ix17 := iv_top x17
                have ax17 : x17.toInt = 0 → y0.toInt = (435426714990 : Int) := lc_eq ex17
                have bx17 : x17.toInt ≠ 0 → y0.toInt ≠ (435426714990 : Int) := lc_ne ex17
                refine lv_if_eq (tgt := 186) hx hb dX11_isKept_143 (by decide) (fun c18 => ?_) (fun c18 => ?_)
                · skip
                  have rlc18 : x17.toInt = (0 : Int) := congrArg Int32.toInt c18
                  have ax17r := ax17 rlc18
                  clear ax17
                  clear bx17
                  have ir19 : IV x17 0 0 := iv_eL c18 (iv_c (by decide) : IV 0 0 0)
                  have ir19a := ir19.1; have ir19b := ir19.2
                  exact J186 H locs ls  hH hS (lv_sub hl [] rfl)
                · skip
                  have rlc18 : x17.toInt ≠ (0 : Int) := iv_ne c18
                  clear ax17
                  have bx17r := bx17 rlc18
                  clear bx17
                  clear rlc18
                  refine lv_lload_n hx hb dX11_isKept_146 rfl (lv_at hl 1 rfl) ?_
                  refine lv_ldc2 (v := 1668246628) hx hb S.2.2.2.1 (S.2.2.2.2 _ gm_1473) dX11_isKept_147 ?_
                  refine W.lcmp hx hb dX11_isKept_150 ?_
                  refine lv_topi (fun x20 ex20 => ?_)
                  have ix20 := iv_top x20
                  have ax20 : x20.toInt = 0 → y0.toInt = (1668246628 : Int) := lc_eq ex20
                  have bx20 : x20.toInt ≠ 0 → y0.toInt ≠ (1668246628 : Int) := lc_ne ex20
                  refine lv_if_eq (tgt := 186) hx hb dX11_isKept_151 (by decide) (fun c21 => ?_) (fun c21 => ?_)
                  · skip
                    have rlc21 : x20.toInt = (0 : Int) := congrArg Int32.toInt c21
                    have ax20r := ax20 rlc21
                    clear ax20
                    clear bx20
                    have ir22 : IV x20 0 0 := iv_eL c21 (iv_c (by decide) : IV 0 0 0)
                    have ir22a := ir22.1; have ir22b := ir22.2
                    exact J186 H locs ls  hH hS (lv_sub hl [] rfl)
                  · skip
                    have rlc21 : x20.toInt ≠ (0 : Int) := iv_ne c21
                    clear ax20
                    have bx20r := bx20 rlc21
                    clear bx20
                    clear rlc21
                    refine lv_lload_n hx hb dX11_isKept_154 rfl (lv_at hl 1 rfl) ?_
                    refine lv_ldc2 (v := 448545973619) hx hb S.2.2.2.1 (S.2.2.2.2 _ gm_1474) dX11_isKept_155 ?_
                    refine W.lcmp hx hb dX11_isKept_158 ?_
                    refine lv_topi (fun x23 ex23 => ?_)
                    have ix23 := iv_top x23
                    have ax23 : x23.toInt = 0 → y0.toInt = (448545973619 : Int) := lc_eq ex23
                    have bx23 : x23.toInt ≠ 0 → y0.toInt ≠ (448545973619 : Int) := lc_ne ex23
                    refine lv_if_eq (tgt := 186) hx hb dX11_isKept_159 (by decide) (fun c24 => ?_) (fun c24 => ?_)
                    · skip
                      have rlc24 : x23.toInt = (0 : Int) := congrArg Int32.toInt c24
                      have ax23r := ax23 rlc24
                      clear ax23
                      clear bx23
                      have ir25 : IV x23 0 0 := iv_eL c24 (iv_c (by decide) : IV 0 0 0)
                      have ir25a := ir25.1; have ir25b := ir25.2
                      exact J186 H locs ls  hH hS (lv_sub hl [] rfl)
                    · skip
                      have rlc24 : x23.toInt ≠ (0 : Int) := iv_ne c24
                      clear ax23
                      have bx23r := bx23 rlc24
                      clear bx23
                      clear rlc24
                      refine lv_lload_n hx hb dX11_isKept_162 rfl (lv_at hl 1 rfl) ?_
                      refine lv_ldc2 (v := 28530) hx hb S.2.2.2.1 (S.2.2.2.2 _ gm_1475) dX11_isKept_163 ?_
                      refine W.lcmp hx hb dX11_isKept_166 ?_
                      refine lv_topi (fun x26 ex26 => ?_)
                      have ix26 := iv_top x26
                      have ax26 : x26.toInt = 0 → y0.toInt = (28530 : Int) := lc_eq ex26
                      have bx26 : x26.toInt ≠ 0 → y0.toInt ≠ (28530 : Int) := lc_ne ex26
                      refine lv_if_eq (tgt := 186) hx hb dX11_isKept_167 (by decide) (fun c27 => ?_) (fun c27 => ?_)
                      · skip
                        have rlc27 : x26.toInt = (0 : Int) := congrArg Int32.toInt c27
                        have ax26r := ax26 rlc27
                        clear ax26
                        clear bx26
                        have ir28 : IV x26 0 0 := iv_eL c27 (iv_c (by decide) : IV 0 0 0)
                        have ir28a := ir28.1; have ir28b := ir28.2
                        exact J186 H locs ls  hH hS (lv_sub hl [] rfl)
                      · skip
                        have rlc27 : x26.toInt ≠ (0 : Int) := iv_ne c27
                        clear ax26
                        have bx26r := bx26 rlc27
                        clear bx26
                        clear rlc27
                        refine lv_lload_n hx hb dX11_isKept_170 rfl (lv_at hl 1 rfl) ?_
                        refine lv_ldc2 (v := 6385252) hx hb S.2.2.2.1 (S.2.2.2.2 _ gm_1476) dX11_isKept_171 ?_
                        refine W.lcmp hx hb dX11_isKept_174 ?_
                        refine lv_topi (fun x29 ex29 => ?_)
                        have ix29 := iv_top x29
                        have ax29 : x29.toInt = 0 → y0.toInt = (6385252 : Int) := lc_eq ex29
                        have bx29 : x29.toInt ≠ 0 → y0.toInt ≠ (6385252 : Int) := lc_ne ex29
                        refine lv_if_eq (tgt := 186) hx hb dX11_isKept_175 (by decide) (fun c30 => ?_) (fun c30 => ?_)
                        · skip
                          have rlc30 : x29.toInt = (0 : Int) := congrArg Int32.toInt c30
                          have ax29r := ax29 rlc30
                          clear ax29
                          clear bx29
                          have ir31 : IV x29 0 0 := iv_eL c30 (iv_c (by decide) : IV 0 0 0)
                          have ir31a := ir31.1; have ir31b := ir31.2
                          exact J186 H locs ls  hH hS (lv_sub hl [] rfl)
                        · skip
                          have rlc30 : x29.toInt ≠ (0 : Int) := iv_ne c30
                          clear ax29
                          have bx29r := bx29 rlc30
                          clear bx29
                          clear rlc30
                          refine lv_lload_n hx hb dX11_isKept_178 rfl (lv_at hl 1 rfl) ?_
                          refine lv_ldc2 (v := 7237492) hx hb S.2.2.2.1 (S.2.2.2.2 _ gm_1477) dX11_isKept_179 ?_
                          refine W.lcmp hx hb dX11_isKept_182 ?_
                          refine lv_topi (fun x32 ex32 => ?_)
                          have ix32 := iv_top x32
                          have ax32 : x32.toInt = 0 → y0.toInt = (7237492 : Int) := lc_eq ex32
                          have bx32 : x32.toInt ≠ 0 → y0.toInt ≠ (7237492 : Int) := lc_ne ex32
                          refine lv_if_ne (tgt := 190) hx hb dX11_isKept_183 (by decide) (fun c33 => ?_) (fun c33 => ?_)
                          · skip
                            have rlc33 : x32.toInt ≠ (0 : Int) := iv_ne c33
                            clear ax32
                            have bx32r := bx32 rlc33
                            clear bx32
                            clear rlc33
                            refine lv_iconst (v := 0) hx hb dX11_isKept_190 (by decide) ?_
                            exact J191_s0_0 H locs ls  hH hS (lv_sub hl [] rfl)
                          · skip
                            have rlc33 : x32.toInt = (0 : Int) := congrArg Int32.toInt c33
                            have ax32r := ax32 rlc33
                            clear ax32
                            clear bx32
                            have ir34 : IV x32 0 0 := iv_eL c33 (iv_c (by decide) : IV 0 0 0)
                            have ir34a := ir34.1; have ir34b := ir34.2
                            exact J186 H locs ls  hH hS (lv_sub hl [] rfl)

