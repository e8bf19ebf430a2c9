
set_option maxHeartbeats 20000000 in
set_option maxRecDepth 100000 in
theorem J93_s0_1_X11_isKept (l : Launch) (D : va_G) (cT : Nat → ClassId) (T : Nat → Option Nat) (q : Nat → Int) (hT : tokm T) (hq : qkm q) (y0 : Int64) (p : Program) (e : Env) (s : State) (m : MethodId) (below : List Frame) (meth : Method) (c : Code) (S : CallFix p m c cX11_isKept 3 s [.long y0].toArray gw yX11_isKept.cls) (hK : va_K D classes (th_tys cT) s) (hr : meth.sig.returnType = (some .boolean)) (hlocks : meth.locks = false) : ∀ (H : Heap) (locs : List Loc) (ls : Array Slot), th_H D cT T (km q) H → va_S (th_A T []) s.heap H locs → lv_has ls 3 [(0, .long y0)] → W p l e (rmk 0 0) s m [.long y0].toArray below meth c H locs 0 0 (MQ below (th_Q D cT T (km q) (th_R T (some (.inl (0, 1)))) []) [.long y0].toArray s 0 0 (th_A T [])) (F0 m 93 ls [.int 1]) := by
    have hx := S.1
    have hb := S.2.1
    have J186 := J186_X11_isKept l D cT T q hT hq y0 p e s m below meth c S hK hr hlocks
    intro H locs ls hH hS hl
    refine lv_istore_n (lv' := [(2, .int 1), (0, .long y0)]) hx hb dX11_isKept_93 rfl hl (by decide) rfl (fun ls hl => ?_)
    refine lv_iload_n hx hb dX11_isKept_94 rfl (lv_at hl 0 rfl) ?_
    refine lv_if_ne (tgt := 186) hx hb dX11_isKept_95 (by decide) (fun c35 => ?_) (fun c35 => ?_)
    · skip
      have rlc35 : (1 : Int) ≠ (0 : Int) := iv_ne c35
      clear rlc35
      exact J186 H locs ls  hH hS (lv_sub hl [] rfl)
    · skip
      have rlc35 : (1 : Int) = (0 : Int) := congrArg Int32.toInt c35
      exfalso
      have z1 := congrArg Int32.toInt c35
      have z2 := ((iv_c (by decide) : IV 1 1 1)).1
      have z3 := ((iv_c (by decide) : IV 1 1 1)).2
      have z4 := ((iv_c (by decide) : IV 0 0 0)).1
      have z5 := ((iv_c (by decide) : IV 0 0 0)).2
      omega


set_option maxHeartbeats 20000000 in
set_option maxRecDepth 100000 in
theorem J88_X11_isKept (l : Launch) (D : va_G) (cT : Nat → ClassId) (T : Nat → Option Nat) (q : Nat → Int) (hT : tokm T) (hq : qkm q) (y0 : Int64) (p : Program) (e : Env) (s : State) (m : MethodId) (below : List Frame) (meth : Method) (c : Code) (S : CallFix p m c cX11_isKept 3 s [.long y0].toArray gw yX11_isKept.cls) (hK : va_K D classes (th_tys cT) s) (hr : meth.sig.returnType = (some .boolean)) (hlocks : meth.locks = false) : ∀ (H : Heap) (locs : List Loc) (ls : Array Slot), th_H D cT T (km q) H → va_S (th_A T []) s.heap H locs → lv_has ls 3 [(0, .long y0)] → W p l e (rmk 0 0) s m [.long y0].toArray below meth c H locs 0 0 (MQ below (th_Q D cT T (km q) (th_R T (some (.inl (0, 1)))) []) [.long y0].toArray s 0 0 (th_A T [])) (F0 m 88 ls []) := by
    have hx := S.1
    have hb := S.2.1
    have J93_s0_1 := J93_s0_1_X11_isKept l D cT T q hT hq y0 p e s m below meth c S hK hr hlocks
    intro H locs ls hH hS hl
    refine lv_iconst (v := 1) hx hb dX11_isKept_88 (by decide) ?_
    refine lv_goto (tgt := 93) hx hb dX11_isKept_89 (by decide) ?_
    exact J93_s0_1 H locs ls  hH hS (lv_sub hl [0] rfl)

set_option maxHeartbeats 20000000 in
set_option maxRecDepth 100000 in
theorem m_X11_isKept (l : Launch) (D : va_G) (cT : Nat → ClassId) (T : Nat → Option Nat) (q : Nat → Int) (hT : tokm T) (hq : qkm q) (y0 : Int64) : th_Met l D cT T (km q) yX11_isKept cX11_isKept 3 (some .boolean) (rmk 0 0) [.long y0] (th_R T (some (.inl (0, 1)))) [] := by
  refine th_start (by decide) (Nat.le_of_ble_eq_true rfl) ?_
  intro p e s m below meth c ls S hK hH hr hlocks hnm hl
  have hx := S.1
  have hb := S.2.1
  have hl : lv_has ls 3 [(0, .long y0)] := hl
  have J191_s0_0 := J191_s0_0_X11_isKept l D cT T q hT hq y0 p e s m below meth c S hK hr hlocks
  have J191_s0_1 := J191_s0_1_X11_isKept l D cT T q hT hq y0 p e s m below meth c S hK hr hlocks
  have J186 := J186_X11_isKept l D cT T q hT hq y0 p e s m below meth c S hK hr hlocks
  have J93_s0_0 := J93_s0_0_X11_isKept l D cT T q hT hq y0 p e s m below meth c S hK hr hlocks
  have J93_s0_1 := J93_s0_1_X11_isKept l D cT T q hT hq y0 p e s m below meth c S hK hr hlocks
  have J88 := J88_X11_isKept l D cT T q hT hq y0 p e s m below meth c S hK hr hlocks
  have J0 : ∀ (H : Heap) (locs : List Loc) (ls : Array Slot), th_H D cT T (km q) H → va_S (th_A T []) s.heap H locs → lv_has ls 3 [(0, .long y0)] → W p l e (rmk 0 0) s m [.long y0].toArray below meth c H locs 0 0 (MQ below (th_Q D cT T (km q) (th_R T (some (.inl (0, 1)))) []) [.long y0].toArray s 0 0 (th_A T [])) (F0 m 0 ls []) := by
    intro H locs ls hH hS hl
    refine lv_lload_n hx hb dX11_isKept_0 rfl (lv_at hl 0 rfl) ?_
    refine lv_ldc2 (v := 1718579044) hx hb S.2.2.2.1 (S.2.2.2.2 _ gm_1456) dX11_isKept_1 ?_
    refine W.lcmp hx hb dX11_isKept_4 ?_
    refine lv_topi (fun x36 ex36 => ?_)
    have ix36 := iv_top x36
    have ax36 : x36.toInt = 0 → y0.toInt = (1718579044 : Int) := lc_eq ex36
    have bx36 : x36.toInt ≠ 0 → y0.toInt ≠ (1718579044 : Int) := lc_ne ex36
    refine lv_if_eq (tgt := 88) hx hb dX11_isKept_5 (by decide) (fun c37 => ?_) (fun c37 => ?_)
    · skip
      have rlc37 : x36.toInt = (0 : Int) := congrArg Int32.toInt c37
      have ax36r := ax36 rlc37
      clear ax36
      clear bx36
      have ir38 : IV x36 0 0 := iv_eL c37 (iv_c (by decide) : IV 0 0 0)
      have ir38a := ir38.1; have ir38b := ir38.2
      exact J88 H locs ls  hH hS (lv_sub hl [0] rfl)
    · skip
      have rlc37 : x36.toInt ≠ (0 : Int) := iv_ne c37
      clear ax36
      have bx36r := bx36 rlc37
      clear bx36
      clear rlc37
      refine lv_lload_n hx hb dX11_isKept_8 rfl (lv_at hl 0 rfl) ?_
      refine lv_ldc2 (v := 7168368) hx hb S.2.2.2.1 (S.2.2.2.2 _ gm_1457) dX11_isKept_9 ?_
      refine W.lcmp hx hb dX11_isKept_12 ?_
      refine lv_topi (fun x39 ex39 => ?_)
      have ix39 := iv_top x39
      have ax39 : x39.toInt = 0 → y0.toInt = (7168368 : Int) := lc_eq ex39
      have bx39 : x39.toInt ≠ 0 → y0.toInt ≠ (7168368 : Int) := lc_ne ex39
      refine lv_if_eq (tgt := 88) hx hb dX11_isKept_13 (by decide) (fun c40 => ?_) (fun c40 => ?_)
      · skip
        have rlc40 : x39.toInt = (0 : Int) := congrArg Int32.toInt c40
        have ax39r := ax39 rlc40
        clear ax39
        clear bx39
        have ir41 : IV x39 0 0 := iv_eL c40 (iv_c (by decide) : IV 0 0 0)
        have ir41a := ir41.1; have ir41b := ir41.2
        exact J88 H locs ls  hH hS (lv_sub hl [0] rfl)
      · skip
        have rlc40 : x39.toInt ≠ (0 : Int) := iv_ne c40
        clear ax39
        have bx39r := bx39 rlc40
        clear bx39
        clear rlc40
        refine lv_lload_n hx hb dX11_isKept_16 rfl (lv_at hl 0 rfl) ?_
        refine lv_ldc2 (v := 495588568165) hx hb S.2.2.2.1 (S.2.2.2.2 _ gm_1458) dX11_isKept_17 ?_
        refine W.lcmp hx hb dX11_isKept_20 ?_
        refine lv_topi (fun x42 ex42 => ?_)
        have ix42 := iv_top x42
        have ax42 : x42.toInt = 0 → y0.toInt = (495588568165 : Int) := lc_eq ex42
        have bx42 : x42.toInt ≠ 0 → y0.toInt ≠ (495588568165 : Int) := lc_ne ex42
        refine lv_if_eq (tgt := 88) hx hb dX11_isKept_21 (by decide) (fun c43 => ?_) (fun c43 => ?_)
        · skip
          have rlc43 : x42.toInt = (0 : Int) := congrArg Int32.toInt c43
          have ax42r := ax42 rlc43
          clear ax42
          clear bx42
          have ir44 : IV x42 0 0 := iv_eL c43 (iv_c (by decide) : IV 0 0 0)
          have ir44a := ir44.1; have ir44b := ir44.2
          exact J88 H locs ls  hH hS (lv_sub hl [0] rfl)
        · skip
          have rlc43 : x42.toInt ≠ (0 : Int) := iv_ne c43
          clear ax42
          have bx42r := bx42 rlc43
          clear bx42
          clear rlc43
          refine lv_lload_n hx hb dX11_isKept_24 rfl (lv_at hl 0 rfl) ?_
          refine lv_ldc2 (v := 114853572732274) hx hb S.2.2.2.1 (S.2.2.2.2 _ gm_1459) dX11_isKept_25 ?_
          refine W.lcmp hx hb dX11_isKept_28 ?_
          refine lv_topi (fun x45 ex45 => ?_)
          have ix45 := iv_top x45
          have ax45 : x45.toInt = 0 → y0.toInt = (114853572732274 : Int) := lc_eq ex45
          have bx45 : x45.toInt ≠ 0 → y0.toInt ≠ (114853572732274 : Int) := lc_ne ex45
          refine lv_if_eq (tgt := 88) hx hb dX11_isKept_29 (by decide) (fun c46 => ?_) (fun c46 => ?_)
          · skip
            have rlc46 : x45.toInt = (0 : Int) := congrArg Int32.toInt c46
            have ax45r := ax45 rlc46
            clear ax45
            clear bx45
            have ir47 : IV x45 0 0 := iv_eL c46 (iv_c (by decide) : IV 0 0 0)
            have ir47a := ir47.1; have ir47b := ir47.2
            exact J88 H locs ls  hH hS (lv_sub hl [0] rfl)
          · skip
            have rlc46 : x45.toInt ≠ (0 : Int) := iv_ne c46
            clear ax45
            have bx45r := bx45 rlc46
            clear bx45
            clear rlc46
            refine lv_lload_n hx hb dX11_isKept_32 rfl (lv_at hl 0 rfl) ?_
            refine lv_ldc2 (v := 26990) hx hb S.2.2.2.1 (S.2.2.2.2 _ gm_1460) dX11_isKept_33 ?_
            refine W.lcmp hx hb dX11_isKept_36 ?_
            refine lv_topi (fun x48 ex48 => ?_)
            have ix48 := iv_top x48
            have ax48 : x48.toInt = 0 → y0.toInt = (26990 : Int) := lc_eq ex48
            have bx48 : x48.toInt ≠ 0 → y0.toInt ≠ (26990 : Int) := lc_ne ex48
            refine lv_if_eq (tgt := 88) hx hb dX11_isKept_37 (by decide) (fun c49 => ?_) (fun c49 => ?_)
            · skip
              have rlc49 : x48.toInt = (0 : Int) := congrArg Int32.toInt c49
              have ax48r := ax48 rlc49
              clear ax48
              clear bx48
              have ir50 : IV x48 0 0 := iv_eL c49 (iv_c (by decide) : IV 0 0 0)
              have ir50a := ir50.1; have ir50b := ir50.2
              exact J88 H locs ls  hH hS (lv_sub hl [0] rfl)
            · skip
              have rlc49 : x48.toInt ≠ (0 : Int) := iv_ne c49
              clear ax48
              have bx48r := bx48 rlc49
              clear bx48
              clear rlc49
              refine lv_lload_n hx hb dX11_isKept_40 rfl (lv_at hl 0 rfl) ?_
              refine lv_ldc2 (v := 112628745921892) hx hb S.2.2.2.1 (S.2.2.2.2 _ gm_1461) dX11_isKept_41 ?_
              refine W.lcmp hx hb dX11_isKept_44 ?_
              refine lv_topi (fun x51 ex51 => ?_)
              have ix51 := iv_top x51
              have ax51 : x51.toInt = 0 → y0.toInt = (112628745921892 : Int) := lc_eq ex51
              have bx51 : x51.toInt ≠ 0 → y0.toInt ≠ (112628745921892 : Int) := lc_ne ex51
              refine lv_if_eq (tgt := 88) hx hb dX11_isKept_45 (by decide) (fun c52 => ?_) (fun c52 => ?_)
              · skip
                have rlc52 : x51.toInt = (0 : Int) := congrArg Int32.toInt c52
                have ax51r := ax51 rlc52
                clear ax51
                clear bx51
                have ir53 : IV x51 0 0 := iv_eL c52 (iv_c (by decide) : IV 0 0 0)
                have ir53a := ir53.1; have ir53b := ir53.2
                exact J88 H locs ls  hH hS (lv_sub hl [0] rfl)
              · skip
                have rlc52 : x51.toInt ≠ (0 : Int) := iv_ne c52
                clear ax51
                have bx51r := bx51 rlc52
                clear bx51
                clear rlc52
                refine lv_lload_n hx hb dX11_isKept_48 rfl (lv_at hl 0 rfl) ?_
                refine lv_ldc2 (v := 482854658917) hx hb S.2.2.2.1 (S.2.2.2.2 _ gm_1462) dX11_isKept_49 ?_
                refine W.lcmp hx hb dX11_isKept_52 ?_
                refine lv_topi (fun x54 ex54 => ?_)
                have ix54 := iv_top x54
                have ax54 : x54.toInt = 0 → y0.toInt = (482854658917 : Int) := lc_eq ex54
                have bx54 : x54.toInt ≠ 0 → y0.toInt ≠ (482854658917 : Int) := lc_ne ex54
                refine lv_if_eq (tgt := 88) hx hb dX11_isKept_53 (by decide) (fun c55 => ?_) (fun c55 => ?_)
                · skip
                  have rlc55 : x54.toInt = (0 : Int) := congrArg Int32.toInt c55
                  have ax54r := ax54 rlc55
                  clear ax54
                  clear bx54
                  have ir56 : IV x54 0 0 := iv_eL c55 (iv_c (by decide) : IV 0 0 0)
                  have ir56a := ir56.1; have ir56b := ir56.2
                  exact J88 H locs ls  hH hS (lv_sub hl [0] rfl)
                · skip
                  have rlc55 : x54.toInt ≠ (0 : Int) := iv_ne c55
                  clear ax54
                  have bx54r := bx54 rlc55
                  clear bx54
                  clear rlc55
                  refine lv_lload_n hx hb dX11_isKept_56 rfl (lv_at hl 0 rfl) ?_
                  refine lv_ldc2 (v := 1936292453) hx hb S.2.2.2.1 (S.2.2.2.2 _ gm_1463) dX11_isKept_57 ?_
                  refine W.lcmp hx hb dX11_isKept_60 ?_
                  refine lv_topi (fun x57 ex57 => ?_)
                  have ix57 := iv_top x57
                  have ax57 : x57.toInt = 0 → y0.toInt = (1936292453 : Int) := lc_eq ex57
                  have bx57 : x57.toInt ≠ 0 → y0.toInt ≠ (1936292453 : Int) := lc_ne ex57
                  refine lv_if_eq (tgt := 88) hx hb dX11_isKept_61 (by decide) (fun c58 => ?_) (fun c58 => ?_)
                  · skip
                    have rlc58 : x57.toInt = (0 : Int) := congrArg Int32.toInt c58
                    have ax57r := ax57 rlc58
                    clear ax57
                    clear bx57
                    have ir59 : IV x57 0 0 := iv_eL c58 (iv_c (by decide) : IV 0 0 0)
                    have ir59a := ir59.1; have ir59b := ir59.2
                    exact J88 H locs ls  hH hS (lv_sub hl [0] rfl)
                  · skip
                    have rlc58 : x57.toInt ≠ (0 : Int) := iv_ne c58
                    clear ax57
                    have bx57r := bx57 rlc58
                    clear bx57
                    clear rlc58
                    refine lv_lload_n hx hb dX11_isKept_64 rfl (lv_at hl 0 rfl) ?_
                    refine lv_ldc2 (v := 512970880104) hx hb S.2.2.2.1 (S.2.2.2.2 _ gm_1464) dX11_isKept_65 ?_
                    refine W.lcmp hx hb dX11_isKept_68 ?_
                    refine lv_topi (fun x60 ex60 => ?_)
                    have ix60 := iv_top x60
                    have ax60 : x60.toInt = 0 → y0.toInt = (512970880104 : Int) := lc_eq ex60
                    have bx60 : x60.toInt ≠ 0 → y0.toInt ≠ (512970880104 : Int) := lc_ne ex60
                    refine lv_if_eq (tgt := 88) hx hb dX11_isKept_69 (by decide) (fun c61 => ?_) (fun c61 => ?_)
                    · skip
                      have rlc61 : x60.toInt = (0 : Int) := congrArg Int32.toInt c61
                      have ax60r := ax60 rlc61
                      clear ax60
                      clear bx60
                      have ir62 : IV x60 0 0 := iv_eL c61 (iv_c (by decide) : IV 0 0 0)
                      have ir62a := ir62.1; have ir62b := ir62.2
                      exact J88 H locs ls  hH hS (lv_sub hl [0] rfl)
                    · skip
                      have rlc61 : x60.toInt ≠ (0 : Int) := iv_ne c61
                      clear ax60
                      have bx60r := bx60 rlc61
                      clear bx60
                      clear rlc61
                      refine lv_lload_n hx hb dX11_isKept_72 rfl (lv_at hl 0 rfl) ?_
                      refine lv_ldc2 (v := 28526) hx hb S.2.2.2.1 (S.2.2.2.2 _ gm_1465) dX11_isKept_73 ?_
                      refine W.lcmp hx hb dX11_isKept_76 ?_
                      refine lv_topi (fun x63 ex63 => ?_)
                      have ix63 := iv_top x63
                      have ax63 : x63.toInt = 0 → y0.toInt = (28526 : Int) := lc_eq ex63
                      have bx63 : x63.toInt ≠ 0 → y0.toInt ≠ (28526 : Int) := lc_ne ex63
                      refine lv_if_eq (tgt := 88) hx hb dX11_isKept_77 (by decide) (fun c64 => ?_) (fun c64 => ?_)
                      · skip
                        have rlc64 : x63.toInt = (0 : Int) := congrArg Int32.toInt c64
                        have ax63r := ax63 rlc64
                        clear ax63
                        clear bx63
                        have ir65 : IV x63 0 0 := iv_eL c64 (iv_c (by decide) : IV 0 0 0)
                        have ir65a := ir65.1; have ir65b := ir65.2
                        exact J88 H locs ls  hH hS (lv_sub hl [0] rfl)
                      · skip
                        have rlc64 : x63.toInt ≠ (0 : Int) := iv_ne c64
                        clear ax63
                        have bx63r := bx63 rlc64
                        clear bx63
                        clear rlc64
                        refine lv_lload_n hx hb dX11_isKept_80 rfl (lv_at hl 0 rfl) ?_
                        refine lv_ldc2 (v := 465625113971) hx hb S.2.2.2.1 (S.2.2.2.2 _ gm_1466) dX11_isKept_81 ?_
                        refine W.lcmp hx hb dX11_isKept_84 ?_
                        refine lv_topi (fun x66 ex66 => ?_)
                        have ix66 := iv_top x66
                        have ax66 : x66.toInt = 0 → y0.toInt = (465625113971 : Int) := lc_eq ex66
                        have bx66 : x66.toInt ≠ 0 → y0.toInt ≠ (465625113971 : Int) := lc_ne ex66
                        refine lv_if_ne (tgt := 92) hx hb dX11_isKept_85 (by decide) (fun c67 => ?_) (fun c67 => ?_)
                        · skip
                          have rlc67 : x66.toInt ≠ (0 : Int) := iv_ne c67
                          clear ax66
                          have bx66r := bx66 rlc67
                          clear bx66
                          clear rlc67
                          refine lv_iconst (v := 0) hx hb dX11_isKept_92 (by decide) ?_
                          exact J93_s0_0 H locs ls  hH hS (lv_sub hl [0] rfl)
                        · skip
                          have rlc67 : x66.toInt = (0 : Int) := congrArg Int32.toInt c67
                          have ax66r := ax66 rlc67
                          clear ax66
                          clear bx66
                          have ir68 : IV x66 0 0 := iv_eL c67 (iv_c (by decide) : IV 0 0 0)
                          have ir68a := ir68.1; have ir68b := ir68.2
                          exact J88 H locs ls  hH hS (lv_sub hl [0] rfl)
  exact J0 s.heap [] ls hH va_S.rf hl
