theorem dX11_isWord_0 : decode cX11_isWord 0 = .ok (.aload_n 0, 1) := by decide +kernel
theorem dX11_isWord_1 : decode cX11_isWord 1 = .ok (.getfield 215, 3) := by decide +kernel
theorem dX11_isWord_4 : decode cX11_isWord 4 = .ok (.iconst 3, 1) := by decide +kernel
theorem dX11_isWord_5 : decode cX11_isWord 5 = .ok (.if_icmp .ne 16, 3) := by decide +kernel
theorem dX11_isWord_8 : decode cX11_isWord 8 = .ok (.aload_n 0, 1) := by decide +kernel
theorem dX11_isWord_9 : decode cX11_isWord 9 = .ok (.getfield 222, 3) := by decide +kernel
theorem dX11_isWord_12 : decode cX11_isWord 12 = .ok (.lload_n 1, 1) := by decide +kernel
theorem dX11_isWord_13 : decode cX11_isWord 13 = .ok (.lcmp, 1) := by decide +kernel
theorem dX11_isWord_14 : decode cX11_isWord 14 = .ok (.ifCond .ne 7, 3) := by decide +kernel
theorem dX11_isWord_17 : decode cX11_isWord 17 = .ok (.iconst 1, 1) := by decide +kernel
theorem dX11_isWord_18 : decode cX11_isWord 18 = .ok (.goto 4, 3) := by decide +kernel
theorem dX11_isWord_21 : decode cX11_isWord 21 = .ok (.iconst 0, 1) := by decide +kernel
theorem dX11_isWord_22 : decode cX11_isWord 22 = .ok (.ireturn, 1) := by decide +kernel
theorem dX11_misplaced_0 : decode cX11_misplaced 0 = .ok (.aload_n 0, 1) := by decide +kernel
theorem dX11_misplaced_1 : decode cX11_misplaced 1 = .ok (.aload_n 0, 1) := by decide +kernel
theorem dX11_misplaced_2 : decode cX11_misplaced 2 = .ok (.getfield 215, 3) := by decide +kernel
theorem dX11_misplaced_5 : decode cX11_misplaced 5 = .ok (.iconst 1, 1) := by decide +kernel
theorem dX11_misplaced_6 : decode cX11_misplaced 6 = .ok (.if_icmp .ne 7, 3) := by decide +kernel
theorem dX11_misplaced_9 : decode cX11_misplaced 9 = .ok (.iconst 1, 1) := by decide +kernel
theorem dX11_misplaced_10 : decode cX11_misplaced 10 = .ok (.goto 4, 3) := by decide +kernel
theorem dX11_misplaced_13 : decode cX11_misplaced 13 = .ok (.iconst 2, 1) := by decide +kernel
theorem dX11_misplaced_14 : decode cX11_misplaced 14 = .ok (.aload_n 0, 1) := by decide +kernel
theorem dX11_misplaced_15 : decode cX11_misplaced 15 = .ok (.getfield 208, 3) := by decide +kernel
theorem dX11_misplaced_18 : decode cX11_misplaced 18 = .ok (.invokevirtual 239, 3) := by decide +kernel
theorem dX11_misplaced_21 : decode cX11_misplaced 21 = .ok (.return_, 1) := by decide +kernel
theorem dX11_must_0 : decode cX11_must 0 = .ok (.aload_n 0, 1) := by decide +kernel
theorem dX11_must_1 : decode cX11_must 1 = .ok (.invokevirtual 243, 3) := by decide +kernel
theorem dX11_must_4 : decode cX11_must 4 = .ok (.ifCond .ne 4, 3) := by decide +kernel
theorem dX11_must_7 : decode cX11_must 7 = .ok (.return_, 1) := by decide +kernel
theorem dX11_must_8 : decode cX11_must 8 = .ok (.iload_n 1, 1) := by decide +kernel
theorem dX11_must_9 : decode cX11_must 9 = .ok (.ifCond .eq 10, 3) := by decide +kernel
theorem dX11_must_12 : decode cX11_must 12 = .ok (.aload_n 0, 1) := by decide +kernel
theorem dX11_must_13 : decode cX11_must 13 = .ok (.invokevirtual 247, 3) := by decide +kernel
theorem dX11_must_16 : decode cX11_must 16 = .ok (.goto 7, 3) := by decide +kernel
theorem dX11_must_19 : decode cX11_must 19 = .ok (.aload_n 0, 1) := by decide +kernel
theorem dX11_must_20 : decode cX11_must 20 = .ok (.invokevirtual 250, 3) := by decide +kernel
theorem dX11_must_23 : decode cX11_must 23 = .ok (.return_, 1) := by decide +kernel
set_option maxHeartbeats 20000000 in
set_option maxRecDepth 100000 in
theorem J22_s0_0_X11_isWord (l : Launch) (D : va_G) (cT : Nat → ClassId) (T : Nat → Option Nat) (q : Nat → Int) (hT : tokm T) (hq : qkm q) (a0 : Nat) (t0 : T a0 = some 0) (y1 : Int64) (p : Program) (e : Env) (s : State) (m : MethodId) (below : List Frame) (meth : Method) (c : Code) (S : CallFix p m c cX11_isWord 3 s [.ref a0, .long y1].toArray gw yX11_isWord.cls) (hK : va_K D classes (th_tys cT) s) (hr : meth.sig.returnType = (some .boolean)) (hlocks : meth.locks = false) : ∀ (H : Heap) (locs : List Loc) (ls : Array Slot), ((0 : Int) ≠ 0 → q 29 = 3 ∧ q 31 = y1.toInt) → ((0 : Int) = 0 → q 29 ≠ 3 ∨ q 31 ≠ y1.toInt) → th_H D cT T (km q) H → va_S (th_A T []) s.heap H locs → lv_has ls 3 [] → W p l e (rmk 0 0) s m [.ref a0, .long y1].toArray below meth c H locs 0 0 (MQ below (th_Q D cT T (km q) (th_RP 0 1 (fun r => (r.toInt ≠ 0 → q 29 = 3 ∧ q 31 = y1.toInt) ∧ (r.toInt = 0 → q 29 ≠ 3 ∨ q 31 ≠ y1.toInt))) []) [.ref a0, .long y1].toArray s 0 0 (th_A T [])) (F0 m 22 ls [.int 0]) := by
    have hx := S.1
    have hb := S.2.1
    intro H locs ls v22_inv0 v22_inv1 hH hS hl
    exact th_zret S hK hH hS hr hlocks (iv_w (iv_c (by decide) : IV 0 0 0) (by decide)) (th_RP.i (iv_w (iv_c (by decide) : IV 0 0 0) (by decide)) ⟨(show (0 : Int) ≠ 0 → q 29 = 3 ∧ q 31 = y1.toInt by first | assumption | (first | omega | (intro z; omega))), (show (0 : Int) = 0 → q 29 ≠ 3 ∨ q 31 ≠ y1.toInt by first | assumption | (first | omega | (intro z; omega)))⟩) dX11_isWord_22


set_option maxHeartbeats 20000000 in
set_option maxRecDepth 100000 in
theorem J22_s0_1_X11_isWord (l : Launch) (D : va_G) (cT : Nat → ClassId) (T : Nat → Option Nat) (q : Nat → Int) (hT : tokm T) (hq : qkm q) (a0 : Nat) (t0 : T a0 = some 0) (y1 : Int64) (p : Program) (e : Env) (s : State) (m : MethodId) (below : List Frame) (meth : Method) (c : Code) (S : CallFix p m c cX11_isWord 3 s [.ref a0, .long y1].toArray gw yX11_isWord.cls) (hK : va_K D classes (th_tys cT) s) (hr : meth.sig.returnType = (some .boolean)) (hlocks : meth.locks = false) : ∀ (H : Heap) (locs : List Loc) (ls : Array Slot), ((1 : Int) ≠ 0 → q 29 = 3 ∧ q 31 = y1.toInt) → ((1 : Int) = 0 → q 29 ≠ 3 ∨ q 31 ≠ y1.toInt) → th_H D cT T (km q) H → va_S (th_A T []) s.heap H locs → lv_has ls 3 [] → W p l e (rmk 0 0) s m [.ref a0, .long y1].toArray below meth c H locs 0 0 (MQ below (th_Q D cT T (km q) (th_RP 0 1 (fun r => (r.toInt ≠ 0 → q 29 = 3 ∧ q 31 = y1.toInt) ∧ (r.toInt = 0 → q 29 ≠ 3 ∨ q 31 ≠ y1.toInt))) []) [.ref a0, .long y1].toArray s 0 0 (th_A T [])) (F0 m 22 ls [.int 1]) := by
    have hx := S.1
    have hb := S.2.1
    intro H locs ls v22_inv0 v22_inv1 hH hS hl
    exact th_zret S hK hH hS hr hlocks (iv_w (iv_c (by decide) : IV 1 1 1) (by decide)) (th_RP.i (iv_w (iv_c (by decide) : IV 1 1 1) (by decide)) ⟨(show (1 : Int) ≠ 0 → q 29 = 3 ∧ q 31 = y1.toInt by first | assumption | (first | omega | (intro z; omega))), (show (1 : Int) = 0 → q 29 ≠ 3 ∨ q 31 ≠ y1.toInt by first | assumption | (first | omega | (intro z; omega)))⟩) dX11_isWord_22


set_option maxHeartbeats 20000000 in
set_option maxRecDepth 100000 in
theorem J21_X11_isWord (l : Launch) (D : va_G) (cT : Nat → ClassId) (T : Nat → Option Nat) (q : Nat → Int) (hT : tokm T) (hq : qkm q) (a0 : Nat) (t0 : T a0 = some 0) (y1 : Int64) (p : Program) (e : Env) (s : State) (m : MethodId) (below : List Frame) (meth : Method) (c : Code) (S : CallFix p m c cX11_isWord 3 s [.ref a0, .long y1].toArray gw yX11_isWord.cls) (hK : va_K D classes (th_tys cT) s) (hr : meth.sig.returnType = (some .boolean)) (hlocks : meth.locks = false) : ∀ (H : Heap) (locs : List Loc) (ls : Array Slot), (q 29 ≠ 3 ∨ q 31 ≠ y1.toInt) → th_H D cT T (km q) H → va_S (th_A T []) s.heap H locs → lv_has ls 3 [] → W p l e (rmk 0 0) s m [.ref a0, .long y1].toArray below meth c H locs 0 0 (MQ below (th_Q D cT T (km q) (th_RP 0 1 (fun r => (r.toInt ≠ 0 → q 29 = 3 ∧ q 31 = y1.toInt) ∧ (r.toInt = 0 → q 29 ≠ 3 ∨ q 31 ≠ y1.toInt))) []) [.ref a0, .long y1].toArray s 0 0 (th_A T [])) (F0 m 21 ls []) := by
    have hx := S.1
    have hb := S.2.1
    have J22_s0_0 := J22_s0_0_X11_isWord l D cT T q hT hq a0 t0 y1 p e s m below meth c S hK hr hlocks
    intro H locs ls v21_inv0 hH hS hl
    refine lv_iconst (v := 0) hx hb dX11_isWord_21 (by decide) ?_
    exact J22_s0_0 H locs ls (show (0 : Int) ≠ 0 → q 29 = 3 ∧ q 31 = y1.toInt by first | omega | (intro z; omega)) (show (0 : Int) = 0 → q 29 ≠ 3 ∨ q 31 ≠ y1.toInt by first | omega | (intro z; omega)) hH hS (lv_sub hl [] rfl)

set_option maxHeartbeats 20000000 in
set_option maxRecDepth 100000 in
theorem m_X11_isWord (l : Launch) (D : va_G) (cT : Nat → ClassId) (T : Nat → Option Nat) (q : Nat → Int) (hT : tokm T) (hq : qkm q) (a0 : Nat) (t0 : T a0 = some 0) (y1 : Int64) : th_Met l D cT T (km q) yX11_isWord cX11_isWord 3 (some .boolean) (rmk 0 0) [.ref a0, .long y1] (th_RP 0 1 (fun r => (r.toInt ≠ 0 → q 29 = 3 ∧ q 31 = y1.toInt) ∧ (r.toInt = 0 → q 29 ≠ 3 ∨ q 31 ≠ y1.toInt))) [] := by
  refine th_start (by decide) (Nat.le_of_ble_eq_true rfl) ?_
  intro p e s m below meth c ls S hK hH hr hlocks hnm hl
  have hx := S.1
  have hb := S.2.1
  have hl : lv_has ls 3 [(0, .ref a0), (1, .long y1)] := hl
  have J22_s0_0 := J22_s0_0_X11_isWord l D cT T q hT hq a0 t0 y1 p e s m below meth c S hK hr hlocks
  have J22_s0_1 := J22_s0_1_X11_isWord l D cT T q hT hq a0 t0 y1 p e s m below meth c S hK hr hlocks
  have J21 := J21_X11_isWord l D cT T q hT hq a0 t0 y1 p e s m below meth c S hK hr hlocks
  have J0 : ∀ (H : Heap) (locs : List Loc) (ls : Array Slot), th_H D cT T (km q) H → va_S (th_A T []) s.heap H locs → lv_has ls 3 [(0, .ref a0), (1, .long y1)] → W p l e (rmk 0 0) s m [.ref a0, .long y1].toArray below meth c H locs 0 0 (MQ below (th_Q D cT T (km q) (th_RP 0 1 (fun r => (r.toInt ≠ 0 → q 29 = 3 ∧ q 31 = y1.toInt) ∧ (r.toInt = 0 → q 29 ≠ 3 ∨ q 31 ≠ y1.toInt))) []) [.ref a0, .long y1].toArray s 0 0 (th_A T [])) (F0 m 0 ls []) := by
    intro H locs ls hH hS hl
    refine lv_aload_n hx hb dX11_isWord_0 rfl (lv_at hl 0 rfl) ?_
    refine th_get S hK hH inG11 t0 km_0 rfl 8 (by decide) gm_1238 rfl rfl dX11_isWord_1 (fun v1 hv1 fv1 => ?_)
    obtain ⟨x2, rfl, ix2⟩ := th_V.int hv1
    have kx2 : x2.toInt = q 29 := Int.le_antisymm ix2.2 ix2.1
    have ix2 : IV x2 0 5 := iv_w ix2 (qkm_29 hq)
    refine lv_iconst (v := 3) hx hb dX11_isWord_4 (by decide) ?_
    refine lv_icmp_ne (tgt := 21) hx hb dX11_isWord_5 (by decide) (fun c3 => ?_) (fun c3 => ?_)
    · skip
      have rlc3 : x2.toInt ≠ (3 : Int) := iv_ne c3
      exact J21 H locs ls (show q 29 ≠ 3 ∨ q 31 ≠ y1.toInt by omega) hH hS (lv_sub hl [] rfl)
    · skip
      have rlc3 : x2.toInt = (3 : Int) := congrArg Int32.toInt c3
      have ir4 : IV x2 3 3 := iv_eL c3 (iv_c (by decide) : IV 3 3 3)
      have ir4a := ir4.1; have ir4b := ir4.2
      refine lv_aload_n hx hb dX11_isWord_8 rfl (lv_at hl 0 rfl) ?_
      refine th_getM S hK hH inG11 t0 km_0 rfl 10 (by decide) gm_1240 rfl rfl dX11_isWord_9 (fun v5 hv5 wv5 => ?_)
      obtain ⟨lg6, rfl⟩ := th_V.long hv5
      have klg6 : lg6.toInt = q 31 := by obtain ⟨vs, z1, z2⟩ := wv5; exact z2 _ z1
      refine lv_lload_n hx hb dX11_isWord_12 rfl (lv_at hl 1 rfl) ?_
      refine W.lcmp hx hb dX11_isWord_13 ?_
      refine lv_topi (fun x7 ex7 => ?_)
      have ix7 := iv_top x7
      have ax7 : x7.toInt = 0 → lg6.toInt = y1.toInt := lc_eq ex7
      have bx7 : x7.toInt ≠ 0 → lg6.toInt ≠ y1.toInt := lc_ne ex7
      refine lv_if_ne (tgt := 21) hx hb dX11_isWord_14 (by decide) (fun c8 => ?_) (fun c8 => ?_)
      · skip
        have rlc8 : x7.toInt ≠ (0 : Int) := iv_ne c8
        clear ax7
        have bx7r := bx7 rlc8
        clear bx7
        exact J21 H locs ls (show q 29 ≠ 3 ∨ q 31 ≠ y1.toInt by omega) hH hS (lv_sub hl [] rfl)
      · skip
        have rlc8 : x7.toInt = (0 : Int) := congrArg Int32.toInt c8
        have ax7r := ax7 rlc8
        clear ax7
        clear bx7
        have ir9 : IV x7 0 0 := iv_eL c8 (iv_c (by decide) : IV 0 0 0)
        have ir9a := ir9.1; have ir9b := ir9.2
        refine lv_iconst (v := 1) hx hb dX11_isWord_17 (by decide) ?_
        refine lv_goto (tgt := 22) hx hb dX11_isWord_18 (by decide) ?_
        exact J22_s0_1 H locs ls (show (1 : Int) ≠ 0 → q 29 = 3 ∧ q 31 = y1.toInt by first | omega | (intro z; omega)) (show (1 : Int) = 0 → q 29 ≠ 3 ∨ q 31 ≠ y1.toInt by first | omega | (intro z; omega)) hH hS (lv_sub hl [] rfl)
  exact J0 s.heap [] ls hH va_S.rf hl

set_option maxHeartbeats 20000000 in
set_option maxRecDepth 100000 in
theorem J14_s1_1_X11_misplaced (l : Launch) (D : va_G) (cT : Nat → ClassId) (T : Nat → Option Nat) (q : Nat → Int) (hT : tokm T) (hq : qkm q) (a0 : Nat) (t0 : T a0 = some 0) (p : Program) (e : Env) (s : State) (m : MethodId) (below : List Frame) (meth : Method) (c : Code) (S : CallFix p m c cX11_misplaced 1 s [.ref a0].toArray gw yX11_misplaced.cls) (hK : va_K D classes (th_tys cT) s) (hr : meth.sig.returnType = none) (hlocks : meth.locks = false) : ∀ (H : Heap) (locs : List Loc) (ls : Array Slot), th_H D cT T (km q) H → va_S (th_A T [0]) s.heap H locs → lv_has ls 1 [(0, .ref a0)] → W p l e (rmk 1 22) s m [.ref a0].toArray below meth c H locs 0 0 (MQ below (th_QM D cT T (fun v q2 => v = none ∧ qkm q2 ∧ fr [30] q q2 ∧ (1 ≤ q2 30)) [0]) [.ref a0].toArray s 0 0 (th_A T [0])) (F0 m 14 ls [.int 1, .ref a0]) := by
    have hx := S.1
    have hb := S.2.1
    intro H locs ls hH hS hl
    refine lv_aload_n hx hb dX11_misplaced_14 rfl (lv_at hl 0 rfl) ?_
    refine th_get S hK hH inG11 t0 km_0 rfl 6 (by decide) gm_1236 rfl rfl dX11_misplaced_15 (fun v1 hv1 fv1 => ?_)
    obtain ⟨x2, rfl, ix2⟩ := th_V.int hv1
    have kx2 : x2.toInt = q 27 := Int.le_antisymm ix2.2 ix2.1
    have ix2 : IV x2 0 1600 := iv_w ix2 (qkm_27 hq)
    refine th_callVM (n := 2) (As := [.int 1, .int x2]) S hK hH hS (th_A.sub (by decide)) (m_X11_fails l D cT T q hT hq a0 t0 (1) (iv_w (iv_c (by decide) : IV 1 1 1) (by decide)) (x2) (iv_top _)) gm_1507 gm_1504 gm_1506 gm_54 gm_124 (by decide +kernel) ⟨rfl, rfl, Nat.le_of_ble_eq_true rfl, Nat.le_of_ble_eq_true rfl⟩ t0 km_0 rfl rfl hl.1 rfl (Nat.le_of_ble_eq_true rfl) dX11_misplaced_18 ⟨Nat.zero_le _, Nat.zero_le _⟩ (fun wq3 q3 H locs hEq3 hH hS hF1 => ?_)
    obtain ⟨rfl, hqq3, g0q3, pq3_0⟩ := hEq3
    show W p l e (rmk 1 22) s m [.ref a0].toArray below meth c H locs 0 0 (MQ below (th_QM D cT T (fun v q2 => v = none ∧ qkm q2 ∧ fr [30] q q2 ∧ (1 ≤ q2 30)) [0]) [.ref a0].toArray s 0 0 (th_A T [0])) (F0 m 21 ls [])
    have pq3_0 : 1 ≤ q3 30 := pq3_0
    have h0q3 : fr [30] q q3 := fr_tr fr_rf g0q3 (by decide)
    exact th_vretM S hK hH hS hr hlocks ⟨rfl, hqq3, h0q3, (show 1 ≤ q3 30 by omega)⟩ dX11_misplaced_21


set_option maxHeartbeats 20000000 in
set_option maxRecDepth 100000 in
theorem J14_s1_2_X11_misplaced (l : Launch) (D : va_G) (cT : Nat → ClassId) (T : Nat → Option Nat) (q : Nat → Int) (hT : tokm T) (hq : qkm q) (a0 : Nat) (t0 : T a0 = some 0) (p : Program) (e : Env) (s : State) (m : MethodId) (below : List Frame) (meth : Method) (c : Code) (S : CallFix p m c cX11_misplaced 1 s [.ref a0].toArray gw yX11_misplaced.cls) (hK : va_K D classes (th_tys cT) s) (hr : meth.sig.returnType = none) (hlocks : meth.locks = false) : ∀ (H : Heap) (locs : List Loc) (ls : Array Slot), th_H D cT T (km q) H → va_S (th_A T [0]) s.heap H locs → lv_has ls 1 [(0, .ref a0)] → W p l e (rmk 1 22) s m [.ref a0].toArray below meth c H locs 0 0 (MQ below (th_QM D cT T (fun v q2 => v = none ∧ qkm q2 ∧ fr [30] q q2 ∧ (1 ≤ q2 30)) [0]) [.ref a0].toArray s 0 0 (th_A T [0])) (F0 m 14 ls [.int 2, .ref a0]) := by
    have hx := S.1
    have hb := S.2.1
    intro H locs ls hH hS hl
    refine lv_aload_n hx hb dX11_misplaced_14 rfl (lv_at hl 0 rfl) ?_
    refine th_get S hK hH inG11 t0 km_0 rfl 6 (by decide) gm_1236 rfl rfl dX11_misplaced_15 (fun v4 hv4 fv4 => ?_)
    obtain ⟨x5, rfl, ix5⟩ := th_V.int hv4
    have kx5 : x5.toInt = q 27 := Int.le_antisymm ix5.2 ix5.1
    have ix5 : IV x5 0 1600 := iv_w ix5 (qkm_27 hq)
    refine th_callVM (n := 2) (As := [.int 2, .int x5]) S hK hH hS (th_A.sub (by decide)) (m_X11_fails l D cT T q hT hq a0 t0 (2) (iv_w (iv_c (by decide) : IV 2 2 2) (by decide)) (x5) (iv_top _)) gm_1507 gm_1504 gm_1506 gm_54 gm_124 (by decide +kernel) ⟨rfl, rfl, Nat.le_of_ble_eq_true rfl, Nat.le_of_ble_eq_true rfl⟩ t0 km_0 rfl rfl hl.1 rfl (Nat.le_of_ble_eq_true rfl) dX11_misplaced_18 ⟨Nat.zero_le _, Nat.zero_le _⟩ (fun wq6 q6 H locs hEq6 hH hS hF1 => ?_)
    obtain ⟨rfl, hqq6, g0q6, pq6_0⟩ := hEq6
    show W p l e (rmk 1 22) s m [.ref a0].toArray below meth c H locs 0 0 (MQ below (th_QM D cT T (fun v q2 => v = none ∧ qkm q2 ∧ fr [30] q q2 ∧ (1 ≤ q2 30)) [0]) [.ref a0].toArray s 0 0 (th_A T [0])) (F0 m 21 ls [])
    have pq6_0 : 1 ≤ q6 30 := pq6_0
    have h0q6 : fr [30] q q6 := fr_tr fr_rf g0q6 (by decide)
    exact th_vretM S hK hH hS hr hlocks ⟨rfl, hqq6, h0q6, (show 1 ≤ q6 30 by omega)⟩ dX11_misplaced_21

set_option maxHeartbeats 20000000 in
set_option maxRecDepth 100000 in
theorem m_X11_misplaced (l : Launch) (D : va_G) (cT : Nat → ClassId) (T : Nat → Option Nat) (q : Nat → Int) (hT : tokm T) (hq : qkm q) (a0 : Nat) (t0 : T a0 = some 0) : th_MetM l D cT T q yX11_misplaced cX11_misplaced 1 none (rmk 1 22) [.ref a0] (fun v q2 => v = none ∧ qkm q2 ∧ fr [30] q q2 ∧ (1 ≤ q2 30)) [0] := by
  refine th_startM (by decide) (Nat.le_of_ble_eq_true rfl) ?_
  intro p e s m below meth c ls S hK hH hr hlocks hnm hl
  have hx := S.1
  have hb := S.2.1
  have hl : lv_has ls 1 [(0, .ref a0)] := hl
  have J14_s1_1 := J14_s1_1_X11_misplaced l D cT T q hT hq a0 t0 p e s m below meth c S hK hr hlocks
  have J14_s1_2 := J14_s1_2_X11_misplaced l D cT T q hT hq a0 t0 p e s m below meth c S hK hr hlocks
  have J0 : ∀ (H : Heap) (locs : List Loc) (ls : Array Slot), th_H D cT T (km q) H → va_S (th_A T [0]) s.heap H locs → lv_has ls 1 [(0, .ref a0)] → W p l e (rmk 1 22) s m [.ref a0].toArray below meth c H locs 0 0 (MQ below (th_QM D cT T (fun v q2 => v = none ∧ qkm q2 ∧ fr [30] q q2 ∧ (1 ≤ q2 30)) [0]) [.ref a0].toArray s 0 0 (th_A T [0])) (F0 m 0 ls []) := by
    intro H locs ls hH hS hl
    refine lv_aload_n hx hb dX11_misplaced_0 rfl (lv_at hl 0 rfl) ?_
    refine lv_aload_n hx hb dX11_misplaced_1 rfl (lv_at hl 0 rfl) ?_
    refine th_get S hK hH inG11 t0 km_0 rfl 8 (by decide) gm_1238 rfl rfl dX11_misplaced_2 (fun v7 hv7 fv7 => ?_)
    obtain ⟨x8, rfl, ix8⟩ := th_V.int hv7
    have kx8 : x8.toInt = q 29 := Int.le_antisymm ix8.2 ix8.1
    have ix8 : IV x8 0 5 := iv_w ix8 (qkm_29 hq)
    refine lv_iconst (v := 1) hx hb dX11_misplaced_5 (by decide) ?_
    refine lv_icmp_ne (tgt := 13) hx hb dX11_misplaced_6 (by decide) (fun c9 => ?_) (fun c9 => ?_)
    · skip
      have rlc9 : x8.toInt ≠ (1 : Int) := iv_ne c9
      clear rlc9
      refine lv_iconst (v := 2) hx hb dX11_misplaced_13 (by decide) ?_
      exact J14_s1_2 H locs ls  hH hS (lv_sub hl [0] rfl)
    · skip
      have rlc9 : x8.toInt = (1 : Int) := congrArg Int32.toInt c9
      have ir10 : IV x8 1 1 := iv_eL c9 (iv_c (by decide) : IV 1 1 1)
      have ir10a := ir10.1; have ir10b := ir10.2
      refine lv_iconst (v := 1) hx hb dX11_misplaced_9 (by decide) ?_
      refine lv_goto (tgt := 14) hx hb dX11_misplaced_10 (by decide) ?_
      exact J14_s1_1 H locs ls  hH hS (lv_sub hl [0] rfl)
  exact J0 s.heap [] ls hH va_S.rf hl

set_option maxHeartbeats 20000000 in
set_option maxRecDepth 100000 in
theorem m_X11_must (l : Launch) (D : va_G) (cT : Nat → ClassId) (T : Nat → Option Nat) (q : Nat → Int) (hT : tokm T) (hq : qkm q) (a0 : Nat) (t0 : T a0 = some 0) (y1 : Int32) (j1 : IV y1 0 1) (hp0 : TS q) : th_MetM l D cT T q yX11_must cX11_must 2 none (rmk 2 44) [.ref a0, .int y1] (fun v q2 => v = none ∧ qkm q2 ∧ fr [27, 28, 29, 30, 31] q q2 ∧ (TS q2) ∧ (q 27 ≤ q2 27) ∧ (GD q q2)) [0] := by
  refine th_startM (by decide) (Nat.le_of_ble_eq_true rfl) ?_
  intro p e s m below meth c ls S hK hH hr hlocks hnm hl
  have hx := S.1
  have hb := S.2.1
  have l1y1 := j1.1; have l2y1 := j1.2
  have le0 := TS_le hp0
  have hl : lv_has ls 2 [(0, .ref a0), (1, .int y1)] := hl
  have J0 : ∀ (H : Heap) (locs : List Loc) (ls : Array Slot), th_H D cT T (km q) H → va_S (th_A T [0]) s.heap H locs → lv_has ls 2 [(0, .ref a0), (1, .int y1)] → W p l e (rmk 2 44) s m [.ref a0, .int y1].toArray below meth c H locs 0 0 (MQ below (th_QM D cT T (fun v q2 => v = none ∧ qkm q2 ∧ fr [27, 28, 29, 30, 31] q q2 ∧ (TS q2) ∧ (q 27 ≤ q2 27) ∧ (GD q q2)) [0]) [.ref a0, .int y1].toArray s 0 0 (th_A T [0])) (F0 m 0 ls []) := by
    intro H locs ls hH hS hl
    refine lv_aload_n hx hb dX11_must_0 rfl (lv_at hl 0 rfl) ?_
    refine th_callVp (n := 0) (As := []) S hK hH hS (th_A.sub (by decide)) (m_X11_isGood l D cT T q hT hq a0 t0) gm_1487 gm_1484 gm_1486 gm_49 gm_124 (by decide +kernel) ⟨rfl, rfl, Nat.le_of_ble_eq_true rfl, Nat.le_of_ble_eq_true rfl⟩ t0 km_0 rfl rfl hl.1 rfl (Nat.le_of_ble_eq_true rfl) dX11_must_1 ⟨Nat.zero_le _, Nat.zero_le _⟩ (fun x1 H locs ix1 ox1 hH hS hF1 => ?_)
    obtain ⟨ox1_0, ox1_1⟩ := ox1
    have ox1_0 : x1.toInt ≠ 0 → q 30 = 0 := ox1_0
    have ox1_1 : x1.toInt = 0 → 1 ≤ q 30 := ox1_1
    have l1x1 := ix1.1; have l2x1 := ix1.2
    refine lv_if_ne (tgt := 8) hx hb dX11_must_4 (by decide) (fun c2 => ?_) (fun c2 => ?_)
    · skip
      have rlc2 : x1.toInt ≠ (0 : Int) := iv_ne c2
      have ox1_0r := ox1_0 rlc2
      clear ox1_0
      clear ox1_1
      have ir3 : IV x1 1 1 := iv_cutL ix1 (iv_c (by decide) : IV 0 0 0) c2 (by decide)
      have ir3a := ir3.1; have ir3b := ir3.2
      clear rlc2
      refine lv_iload_n hx hb dX11_must_8 rfl (lv_at hl 1 rfl) ?_
      refine lv_if_eq (tgt := 19) hx hb dX11_must_9 (by decide) (fun c4 => ?_) (fun c4 => ?_)
      · skip
        have rlc4 : y1.toInt = (0 : Int) := congrArg Int32.toInt c4
        have ir5 : IV y1 0 0 := iv_eL c4 (iv_c (by decide) : IV 0 0 0)
        have ir5a := ir5.1; have ir5b := ir5.2
        refine lv_aload_n hx hb dX11_must_19 rfl (lv_at hl 0 rfl) ?_
        refine th_callVM (n := 0) (As := []) S hK hH hS (th_A.sub (by decide)) (m_X11_misplaced l D cT T q hT hq a0 t0) gm_1503 gm_1500 gm_1502 gm_53 gm_124 (by decide +kernel) ⟨rfl, rfl, Nat.le_of_ble_eq_true rfl, Nat.le_of_ble_eq_true rfl⟩ t0 km_0 rfl rfl hl.1 rfl (Nat.le_of_ble_eq_true rfl) dX11_must_20 ⟨Nat.zero_le _, Nat.zero_le _⟩ (fun wq6 q6 H locs hEq6 hH hS hF1 => ?_)
        obtain ⟨rfl, hqq6, g0q6, pq6_0⟩ := hEq6
        show W p l e (rmk 2 44) s m [.ref a0, .int y1].toArray below meth c H locs 0 0 (MQ below (th_QM D cT T (fun v q2 => v = none ∧ qkm q2 ∧ fr [27, 28, 29, 30, 31] q q2 ∧ (TS q2) ∧ (q 27 ≤ q2 27) ∧ (GD q q2)) [0]) [.ref a0, .int y1].toArray s 0 0 (th_A T [0])) (F0 m 23 ls [])
        have pq6_0 : 1 ≤ q6 30 := pq6_0
        have wq6_26 : q6 26 = q 26 := g0q6 26 (by decide) (Or.inl (by decide))
        have wq6_27 : q6 27 = q 27 := g0q6 27 (by decide) (Or.inl (by decide))
        have wq6_28 : q6 28 = q 28 := g0q6 28 (by decide) (Or.inl (by decide))
        have wq6_29 : q6 29 = q 29 := g0q6 29 (by decide) (Or.inl (by decide))
        have wq6_31 : q6 31 = q 31 := g0q6 31 (by decide) (Or.inl (by decide))
        have h0q6 : fr [27, 28, 29, 30, 31] q q6 := fr_tr fr_rf g0q6 (by decide)
        have bgq6 : bg q q6 := bg_fr bg_rf g0q6 (by decide)
        have gdq6 : GD q q6 := GD_tr (GD_eq rfl) (GD_no pq6_0)
        have gbq6 : GD q q6 := GD_tr (GD_eq rfl) (GD_no pq6_0)
        have txq6 : tx q q6 := tx_tr tx_rf (tx_bg (bg_fr bg_rf g0q6 (by decide)))
        exact th_vretM S hK hH hS hr hlocks ⟨rfl, hqq6, h0q6, (show TS q6 by exact (TS_mv hp0 txq6 (by omega) (by omega) (by omega) (by omega) (by omega) (fun z => by omega))), (show q 27 ≤ q6 27 by omega), (show GD q q6 by exact gdq6)⟩ dX11_must_23
      · skip
        have rlc4 : y1.toInt ≠ (0 : Int) := iv_ne c4
        have ir7 : IV y1 1 1 := iv_cutL j1 (iv_c (by decide) : IV 0 0 0) c4 (by decide)
        have ir7a := ir7.1; have ir7b := ir7.2
        clear rlc4
        refine lv_aload_n hx hb dX11_must_12 rfl (lv_at hl 0 rfl) ?_
        have le7 := TS_le hp0
        refine th_callVM (n := 0) (As := []) S hK hH hS (th_A.sub (by decide)) (m_X11_goOn l D cT T q hT hq a0 t0 (show q 28 ≤ q 26 by exact (TS_le hp0).2)) gm_1445 gm_1442 gm_1444 gm_47 gm_124 (by decide +kernel) ⟨rfl, rfl, Nat.le_of_ble_eq_true rfl, Nat.le_of_ble_eq_true rfl⟩ t0 km_0 rfl rfl hl.1 rfl (Nat.le_of_ble_eq_true rfl) dX11_must_13 ⟨Nat.zero_le _, Nat.zero_le _⟩ (fun wq8 q8 H locs hEq8 hH hS hF1 => ?_)
        obtain ⟨rfl, hqq8, g0q8, pq8_0, pq8_1, pq8_2⟩ := hEq8
        show W p l e (rmk 2 44) s m [.ref a0, .int y1].toArray below meth c H locs 0 0 (MQ below (th_QM D cT T (fun v q2 => v = none ∧ qkm q2 ∧ fr [27, 28, 29, 30, 31] q q2 ∧ (TS q2) ∧ (q 27 ≤ q2 27) ∧ (GD q q2)) [0]) [.ref a0, .int y1].toArray s 0 0 (th_A T [0])) (F0 m 16 ls [])
        have pq8_0 : TS q8 := pq8_0
        have pq8_1 : q 28 ≤ q8 27 := pq8_1
        have pq8_2 : LX q q8 := pq8_2
        have wq8_26 : q8 26 = q 26 := g0q8 26 (by decide) (Or.inl (by decide))
        have wq8_30 : q8 30 = q 30 := g0q8 30 (by decide) (Or.inl (by decide))
        have h0q8 : fr [27, 28, 29, 30, 31] q q8 := fr_tr fr_rf g0q8 (by decide)
        have bgq8 : bg q q8 := bg_fr bg_rf g0q8 (by decide)
        have gdq8 : GD q q8 := GD_tr (GD_eq rfl) (GD_eq wq8_30)
        have gbq8 : GD q q8 := GD_tr (GD_eq rfl) (GD_eq wq8_30)
        refine lv_goto (tgt := 23) hx hb dX11_must_16 (by decide) ?_
        exact th_vretM S hK hH hS hr hlocks ⟨rfl, hqq8, h0q8, (show TS q8 by exact pq8_0), (show q 27 ≤ q8 27 by omega), (show GD q q8 by exact gdq8)⟩ dX11_must_23
    · skip
      have rlc2 : x1.toInt = (0 : Int) := congrArg Int32.toInt c2
      clear ox1_0
      have ox1_1r := ox1_1 rlc2
      clear ox1_1
      have ir9 : IV x1 0 0 := iv_eL c2 (iv_c (by decide) : IV 0 0 0)
      have ir9a := ir9.1; have ir9b := ir9.2
      exact th_vretM S hK hH hS hr hlocks ⟨rfl, hq, fr_rf, (show TS q by exact hp0), (show q 27 ≤ q 27 by omega), (show GD q q by exact (GD_eq rfl))⟩ dX11_must_7
  exact J0 s.heap [] ls hH va_S.rf hl
