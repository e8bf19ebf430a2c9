theorem dX11_known_0 : decode cX11_known 0 = .ok (.aload_n 0, 1) := by decide +kernel
theorem dX11_known_1 : decode cX11_known 1 = .ok (.invokevirtual 243, 3) := by decide +kernel
theorem dX11_known_4 : decode cX11_known 4 = .ok (.ifCond .ne 5, 3) := by decide +kernel
theorem dX11_known_7 : decode cX11_known 7 = .ok (.iconst 0, 1) := by decide +kernel
theorem dX11_known_8 : decode cX11_known 8 = .ok (.ireturn, 1) := by decide +kernel
theorem dX11_known_9 : decode cX11_known 9 = .ok (.aload_n 0, 1) := by decide +kernel
theorem dX11_known_10 : decode cX11_known 10 = .ok (.getfield 215, 3) := by decide +kernel
theorem dX11_known_13 : decode cX11_known 13 = .ok (.iconst 2, 1) := by decide +kernel
theorem dX11_known_14 : decode cX11_known 14 = .ok (.if_icmp .eq 10, 3) := by decide +kernel
theorem dX11_known_17 : decode cX11_known 17 = .ok (.aload_n 0, 1) := by decide +kernel
theorem dX11_known_18 : decode cX11_known 18 = .ok (.invokevirtual 250, 3) := by decide +kernel
theorem dX11_known_21 : decode cX11_known 21 = .ok (.goto 23, 3) := by decide +kernel
theorem dX11_known_24 : decode cX11_known 24 = .ok (.iload_n 1, 1) := by decide +kernel
theorem dX11_known_25 : decode cX11_known 25 = .ok (.ifCond .ge 15, 3) := by decide +kernel
theorem dX11_known_28 : decode cX11_known 28 = .ok (.aload_n 0, 1) := by decide +kernel
theorem dX11_known_29 : decode cX11_known 29 = .ok (.iconst 5, 1) := by decide +kernel
theorem dX11_known_30 : decode cX11_known 30 = .ok (.aload_n 0, 1) := by decide +kernel
theorem dX11_known_31 : decode cX11_known 31 = .ok (.getfield 208, 3) := by decide +kernel
theorem dX11_known_34 : decode cX11_known 34 = .ok (.invokevirtual 239, 3) := by decide +kernel
theorem dX11_known_37 : decode cX11_known 37 = .ok (.goto 7, 3) := by decide +kernel
theorem dX11_known_40 : decode cX11_known 40 = .ok (.aload_n 0, 1) := by decide +kernel
theorem dX11_known_41 : decode cX11_known 41 = .ok (.invokevirtual 247, 3) := by decide +kernel
theorem dX11_known_44 : decode cX11_known 44 = .ok (.iload_n 1, 1) := by decide +kernel
theorem dX11_known_45 : decode cX11_known 45 = .ok (.ifCond .ge 7, 3) := by decide +kernel
theorem dX11_known_48 : decode cX11_known 48 = .ok (.iconst 0, 1) := by decide +kernel
theorem dX11_known_49 : decode cX11_known 49 = .ok (.goto 4, 3) := by decide +kernel
theorem dX11_known_52 : decode cX11_known 52 = .ok (.iload_n 1, 1) := by decide +kernel
theorem dX11_known_53 : decode cX11_known 53 = .ok (.ireturn, 1) := by decide +kernel
set_option maxHeartbeats 20000000 in
set_option maxRecDepth 100000 in
theorem J53_X11_known_v0 (l : Launch) (D : va_G) (cT : Nat → ClassId) (T : Nat → Option Nat) (q : Nat → Int) (hT : tokm T) (hq : qkm q) (a0 : Nat) (t0 : T a0 = some 0) (y1 : Int32) (j1 : IV y1 (-1) 2) (hp0 : (q 29 = 0 ∧ q 27 = q 26 ∧ q 28 = q 26) ∨ (1 ≤ q 29 ∧ q 27 < q 28 ∧ q 28 ≤ q 26)) (p : Program) (e : Env) (s : State) (m : MethodId) (below : List Frame) (meth : Method) (c : Code) (S : CallFix p m c cX11_known 2 s [.ref a0, .int y1].toArray gw yX11_known.cls) (hK : va_K D classes (th_tys cT) s) (hr : meth.sig.returnType = (some .int)) (hlocks : meth.locks = false) : ∀ (q53 : Nat → Int) (H : Heap) (locs : List Loc) (ls : Array Slot), qkm q53 → fr [27, 28, 29, 30, 31] q q53 → IV y1 0 2 → ((q53 29 = 0 ∧ q53 27 = q53 26 ∧ q53 28 = q53 26) ∨ (1 ≤ q53 29 ∧ q53 27 < q53 28 ∧ q53 28 ≤ q53 26)) → (q53 30 = 0 → q53 29 = 3 → sg q53 (q53 28) < 97 ∨ 122 < sg q53 (q53 28)) → (q53 30 = 0 → q53 29 = 3 → q53 31 = 7237492 → q53 27 + 3 ≤ q53 28) → (q 27 ≤ q53 27) → (q53 30 = 0 → q 30 = 0 ∧ q 28 ≤ q53 27 ∧ q 29 ≠ 0) → th_H D cT T (km q53) H → va_S (th_A T [0]) s.heap H locs → lv_has ls 2 [] → W p l e (rmk 2 44) s m [.ref a0, .int y1].toArray below meth c H locs 0 0 (MQ below (th_QM D cT T (fun v q2 => ∃ r : Int32, v = some (.int r) ∧ IV r 0 2 ∧ qkm q2 ∧ fr [27, 28, 29, 30, 31] q q2 ∧ ((q2 29 = 0 ∧ q2 27 = q2 26 ∧ q2 28 = q2 26) ∨ (1 ≤ q2 29 ∧ q2 27 < q2 28 ∧ q2 28 ≤ q2 26)) ∧ (q2 30 = 0 → q2 29 = 3 → sg q2 (q2 28) < 97 ∨ 122 < sg q2 (q2 28)) ∧ (q2 30 = 0 → q2 29 = 3 → q2 31 = 7237492 → q2 27 + 3 ≤ q2 28) ∧ (q 27 ≤ q2 27) ∧ (q2 30 = 0 → q 30 = 0 ∧ q 28 ≤ q2 27 ∧ q 29 ≠ 0)) [0]) [.ref a0, .int y1].toArray s 0 0 (th_A T [0])) (F0 m 53 ls [.int y1]) := by
    have hx := S.1
    have hb := S.2.1
    have l1y1 := j1.1; have l2y1 := j1.2
    intro q53 H locs ls hq53 h053 f53_y1 v53_inv0 v53_inv1 v53_inv2 v53_inv3 v53_inv4 hH hS hl
    have w53_26 : q53 26 = q 26 := h053 26 (by decide) (Or.inl (by decide))
    exact th_iretM S hK hH hS hr hlocks ⟨_, rfl, f53_y1, hq53, h053, (show (q53 29 = 0 ∧ q53 27 = q53 26 ∧ q53 28 = q53 26) ∨ (1 ≤ q53 29 ∧ q53 27 < q53 28 ∧ q53 28 ≤ q53 26) by omega), (show q53 30 = 0 → q53 29 = 3 → sg q53 (q53 28) < 97 ∨ 122 < sg q53 (q53 28) by first | assumption | (intro z; exact absurd z (by omega)) | (intro _; assumption)), (show q53 30 = 0 → q53 29 = 3 → q53 31 = 7237492 → q53 27 + 3 ≤ q53 28 by first | assumption | omega), (show q 27 ≤ q53 27 by omega), (show q53 30 = 0 → q 30 = 0 ∧ q 28 ≤ q53 27 ∧ q 29 ≠ 0 by omega)⟩ dX11_known_53


set_option maxHeartbeats 20000000 in
set_option maxRecDepth 100000 in
theorem J53_s0_0_X11_known_v0 (l : Launch) (D : va_G) (cT : Nat → ClassId) (T : Nat → Option Nat) (q : Nat → Int) (hT : tokm T) (hq : qkm q) (a0 : Nat) (t0 : T a0 = some 0) (y1 : Int32) (j1 : IV y1 (-1) 2) (hp0 : (q 29 = 0 ∧ q 27 = q 26 ∧ q 28 = q 26) ∨ (1 ≤ q 29 ∧ q 27 < q 28 ∧ q 28 ≤ q 26)) (p : Program) (e : Env) (s : State) (m : MethodId) (below : List Frame) (meth : Method) (c : Code) (S : CallFix p m c cX11_known 2 s [.ref a0, .int y1].toArray gw yX11_known.cls) (hK : va_K D classes (th_tys cT) s) (hr : meth.sig.returnType = (some .int)) (hlocks : meth.locks = false) : ∀ (q53 : Nat → Int) (H : Heap) (locs : List Loc) (ls : Array Slot), qkm q53 → fr [27, 28, 29, 30, 31] q q53 → ((q53 29 = 0 ∧ q53 27 = q53 26 ∧ q53 28 = q53 26) ∨ (1 ≤ q53 29 ∧ q53 27 < q53 28 ∧ q53 28 ≤ q53 26)) → (q53 30 = 0 → q53 29 = 3 → sg q53 (q53 28) < 97 ∨ 122 < sg q53 (q53 28)) → (q53 30 = 0 → q53 29 = 3 → q53 31 = 7237492 → q53 27 + 3 ≤ q53 28) → (q 27 ≤ q53 27) → (q53 30 = 0 → q 30 = 0 ∧ q 28 ≤ q53 27 ∧ q 29 ≠ 0) → th_H D cT T (km q53) H → va_S (th_A T [0]) s.heap H locs → lv_has ls 2 [] → W p l e (rmk 2 44) s m [.ref a0, .int y1].toArray below meth c H locs 0 0 (MQ below (th_QM D cT T (fun v q2 => ∃ r : Int32, v = some (.int r) ∧ IV r 0 2 ∧ qkm q2 ∧ fr [27, 28, 29, 30, 31] q q2 ∧ ((q2 29 = 0 ∧ q2 27 = q2 26 ∧ q2 28 = q2 26) ∨ (1 ≤ q2 29 ∧ q2 27 < q2 28 ∧ q2 28 ≤ q2 26)) ∧ (q2 30 = 0 → q2 29 = 3 → sg q2 (q2 28) < 97 ∨ 122 < sg q2 (q2 28)) ∧ (q2 30 = 0 → q2 29 = 3 → q2 31 = 7237492 → q2 27 + 3 ≤ q2 28) ∧ (q 27 ≤ q2 27) ∧ (q2 30 = 0 → q 30 = 0 ∧ q 28 ≤ q2 27 ∧ q 29 ≠ 0)) [0]) [.ref a0, .int y1].toArray s 0 0 (th_A T [0])) (F0 m 53 ls [.int 0]) := by
    have hx := S.1
    have hb := S.2.1
    have l1y1 := j1.1; have l2y1 := j1.2
    intro q53 H locs ls hq53 h053 v53_inv0 v53_inv1 v53_inv2 v53_inv3 v53_inv4 hH hS hl
    have w53_26 : q53 26 = q 26 := h053 26 (by decide) (Or.inl (by decide))
    exact th_iretM S hK hH hS hr hlocks ⟨_, rfl, (iv_w (iv_c (by decide) : IV 0 0 0) (by decide)), hq53, h053, (show (q53 29 = 0 ∧ q53 27 = q53 26 ∧ q53 28 = q53 26) ∨ (1 ≤ q53 29 ∧ q53 27 < q53 28 ∧ q53 28 ≤ q53 26) by omega), (show q53 30 = 0 → q53 29 = 3 → sg q53 (q53 28) < 97 ∨ 122 < sg q53 (q53 28) by first | assumption | (intro z; exact absurd z (by omega)) | (intro _; assumption)), (show q53 30 = 0 → q53 29 = 3 → q53 31 = 7237492 → q53 27 + 3 ≤ q53 28 by first | assumption | omega), (show q 27 ≤ q53 27 by omega), (show q53 30 = 0 → q 30 = 0 ∧ q 28 ≤ q53 27 ∧ q 29 ≠ 0 by omega)⟩ dX11_known_53


set_option maxHeartbeats 20000000 in
set_option maxRecDepth 100000 in
theorem J44_X11_known_v0 (l : Launch) (D : va_G) (cT : Nat → ClassId) (T : Nat → Option Nat) (q : Nat → Int) (hT : tokm T) (hq : qkm q) (a0 : Nat) (t0 : T a0 = some 0) (y1 : Int32) (j1 : IV y1 (-1) 2) (hp0 : (q 29 = 0 ∧ q 27 = q 26 ∧ q 28 = q 26) ∨ (1 ≤ q 29 ∧ q 27 < q 28 ∧ q 28 ≤ q 26)) (p : Program) (e : Env) (s : State) (m : MethodId) (below : List Frame) (meth : Method) (c : Code) (S : CallFix p m c cX11_known 2 s [.ref a0, .int y1].toArray gw yX11_known.cls) (hK : va_K D classes (th_tys cT) s) (hr : meth.sig.returnType = (some .int)) (hlocks : meth.locks = false) : ∀ (q44 : Nat → Int) (H : Heap) (locs : List Loc) (ls : Array Slot), qkm q44 → fr [27, 28, 29, 30, 31] q q44 → ((q44 29 = 0 ∧ q44 27 = q44 26 ∧ q44 28 = q44 26) ∨ (1 ≤ q44 29 ∧ q44 27 < q44 28 ∧ q44 28 ≤ q44 26)) → (q44 30 = 0 → q44 29 = 3 → sg q44 (q44 28) < 97 ∨ 122 < sg q44 (q44 28)) → (q44 30 = 0 → q44 29 = 3 → q44 31 = 7237492 → q44 27 + 3 ≤ q44 28) → (q 27 ≤ q44 27) → (q44 30 = 0 → q 30 = 0 ∧ q 28 ≤ q44 27 ∧ q 29 ≠ 0) → th_H D cT T (km q44) H → va_S (th_A T [0]) s.heap H locs → lv_has ls 2 [(1, .int y1)] → W p l e (rmk 2 44) s m [.ref a0, .int y1].toArray below meth c H locs 0 0 (MQ below (th_QM D cT T (fun v q2 => ∃ r : Int32, v = some (.int r) ∧ IV r 0 2 ∧ qkm q2 ∧ fr [27, 28, 29, 30, 31] q q2 ∧ ((q2 29 = 0 ∧ q2 27 = q2 26 ∧ q2 28 = q2 26) ∨ (1 ≤ q2 29 ∧ q2 27 < q2 28 ∧ q2 28 ≤ q2 26)) ∧ (q2 30 = 0 → q2 29 = 3 → sg q2 (q2 28) < 97 ∨ 122 < sg q2 (q2 28)) ∧ (q2 30 = 0 → q2 29 = 3 → q2 31 = 7237492 → q2 27 + 3 ≤ q2 28) ∧ (q 27 ≤ q2 27) ∧ (q2 30 = 0 → q 30 = 0 ∧ q 28 ≤ q2 27 ∧ q 29 ≠ 0)) [0]) [.ref a0, .int y1].toArray s 0 0 (th_A T [0])) (F0 m 44 ls []) := by
    have hx := S.1
    have hb := S.2.1
    have l1y1 := j1.1; have l2y1 := j1.2
    have J53 := J53_X11_known_v0 l D cT T q hT hq a0 t0 y1 j1 hp0 p e s m below meth c S hK hr hlocks
    have J53_s0_0 := J53_s0_0_X11_known_v0 l D cT T q hT hq a0 t0 y1 j1 hp0 p e s m below meth c S hK hr hlocks
    intro q44 H locs ls hq44 h044 v44_inv0 v44_inv1 v44_inv2 v44_inv3 v44_inv4 hH hS hl
    have w44_26 : q44 26 = q 26 := h044 26 (by decide) (Or.inl (by decide))
    refine lv_iload_n hx hb dX11_known_44 rfl (lv_at hl 0 rfl) ?_
    refine lv_if_ge (tgt := 52) hx hb dX11_known_45 (by decide) (fun c1 => ?_) (fun c1 => ?_)
    · skip
      have rlc1 : (0 : Int) ≤ y1.toInt := iv_le c1
      have ir2 : IV y1 0 2 := iv_vR (iv_c (by decide) : IV 0 0 0) j1 (iv_le c1) (by decide)
      have ir2a := ir2.1; have ir2b := ir2.2
      refine lv_iload_n hx hb dX11_known_52 rfl (lv_at hl 0 rfl) ?_
      exact J53 q44 H locs ls hq44 h044 ir2 (show (q44 29 = 0 ∧ q44 27 = q44 26 ∧ q44 28 = q44 26) ∨ (1 ≤ q44 29 ∧ q44 27 < q44 28 ∧ q44 28 ≤ q44 26) by omega) (show q44 30 = 0 → q44 29 = 3 → sg q44 (q44 28) < 97 ∨ 122 < sg q44 (q44 28) by first | assumption | (intro z; exact absurd z (by omega)) | (intro _; assumption)) (show q44 30 = 0 → q44 29 = 3 → q44 31 = 7237492 → q44 27 + 3 ≤ q44 28 by first | assumption | omega) (show q 27 ≤ q44 27 by omega) (show q44 30 = 0 → q 30 = 0 ∧ q 28 ≤ q44 27 ∧ q 29 ≠ 0 by omega) hH hS (lv_sub hl [] rfl)
    · skip
      have rlc1 : y1.toInt < (0 : Int) := iv_nle c1
      have ir3 : IV y1 (-1) (-1) := iv_uL j1 (iv_c (by decide) : IV 0 0 0) (iv_nle c1) (by decide)
      have ir3a := ir3.1; have ir3b := ir3.2
      refine lv_iconst (v := 0) hx hb dX11_known_48 (by decide) ?_
      refine lv_goto (tgt := 53) hx hb dX11_known_49 (by decide) ?_
      exact J53_s0_0 q44 H locs ls hq44 h044 (show (q44 29 = 0 ∧ q44 27 = q44 26 ∧ q44 28 = q44 26) ∨ (1 ≤ q44 29 ∧ q44 27 < q44 28 ∧ q44 28 ≤ q44 26) by omega) (show q44 30 = 0 → q44 29 = 3 → sg q44 (q44 28) < 97 ∨ 122 < sg q44 (q44 28) by first | assumption | (intro z; exact absurd z (by omega)) | (intro _; assumption)) (show q44 30 = 0 → q44 29 = 3 → q44 31 = 7237492 → q44 27 + 3 ≤ q44 28 by first | assumption | omega) (show q 27 ≤ q44 27 by omega) (show q44 30 = 0 → q 30 = 0 ∧ q 28 ≤ q44 27 ∧ q 29 ≠ 0 by omega) hH hS (lv_sub hl [] rfl)

set_option maxHeartbeats 20000000 in
set_option maxRecDepth 100000 in
theorem m_X11_known_v0 (l : Launch) (D : va_G) (cT : Nat → ClassId) (T : Nat → Option Nat) (q : Nat → Int) (hT : tokm T) (hq : qkm q) (a0 : Nat) (t0 : T a0 = some 0) (y1 : Int32) (j1 : IV y1 (-1) 2) (hp0 : (q 29 = 0 ∧ q 27 = q 26 ∧ q 28 = q 26) ∨ (1 ≤ q 29 ∧ q 27 < q 28 ∧ q 28 ≤ q 26)) : th_MetM l D cT T q yX11_known cX11_known 2 (some .int) (rmk 2 44) [.ref a0, .int y1] (fun v q2 => ∃ r : Int32, v = some (.int r) ∧ IV r 0 2 ∧ qkm q2 ∧ fr [27, 28, 29, 30, 31] q q2 ∧ ((q2 29 = 0 ∧ q2 27 = q2 26 ∧ q2 28 = q2 26) ∨ (1 ≤ q2 29 ∧ q2 27 < q2 28 ∧ q2 28 ≤ q2 26)) ∧ (q2 30 = 0 → q2 29 = 3 → sg q2 (q2 28) < 97 ∨ 122 < sg q2 (q2 28)) ∧ (q2 30 = 0 → q2 29 = 3 → q2 31 = 7237492 → q2 27 + 3 ≤ q2 28) ∧ (q 27 ≤ q2 27) ∧ (q2 30 = 0 → q 30 = 0 ∧ q 28 ≤ q2 27 ∧ q 29 ≠ 0)) [0] := by
  refine th_startM (by decide) (Nat.le_of_ble_eq_true rfl) ?_
  intro p e s m below meth c ls S hK hH hr hlocks hnm hl
  have hx := S.1
  have hb := S.2.1
  have l1y1 := j1.1; have l2y1 := j1.2
  have hl : lv_has ls 2 [(0, .ref a0), (1, .int y1)] := hl
  have J53 := J53_X11_known_v0 l D cT T q hT hq a0 t0 y1 j1 hp0 p e s m below meth c S hK hr hlocks
  have J53_s0_0 := J53_s0_0_X11_known_v0 l D cT T q hT hq a0 t0 y1 j1 hp0 p e s m below meth c S hK hr hlocks
  have J44 := J44_X11_known_v0 l D cT T q hT hq a0 t0 y1 j1 hp0 p e s m below meth c S hK hr hlocks
  have J0 : ∀ (H : Heap) (locs : List Loc) (ls : Array Slot), th_H D cT T (km q) H → va_S (th_A T [0]) s.heap H locs → lv_has ls 2 [(0, .ref a0), (1, .int y1)] → W p l e (rmk 2 44) s m [.ref a0, .int y1].toArray below meth c H locs 0 0 (MQ below (th_QM D cT T (fun v q2 => ∃ r : Int32, v = some (.int r) ∧ IV r 0 2 ∧ qkm q2 ∧ fr [27, 28, 29, 30, 31] q q2 ∧ ((q2 29 = 0 ∧ q2 27 = q2 26 ∧ q2 28 = q2 26) ∨ (1 ≤ q2 29 ∧ q2 27 < q2 28 ∧ q2 28 ≤ q2 26)) ∧ (q2 30 = 0 → q2 29 = 3 → sg q2 (q2 28) < 97 ∨ 122 < sg q2 (q2 28)) ∧ (q2 30 = 0 → q2 29 = 3 → q2 31 = 7237492 → q2 27 + 3 ≤ q2 28) ∧ (q 27 ≤ q2 27) ∧ (q2 30 = 0 → q 30 = 0 ∧ q 28 ≤ q2 27 ∧ q 29 ≠ 0)) [0]) [.ref a0, .int y1].toArray s 0 0 (th_A T [0])) (F0 m 0 ls []) := by
    intro H locs ls hH hS hl
    refine lv_aload_n hx hb dX11_known_0 rfl (lv_at hl 0 rfl) ?_
    refine th_callVp (n := 0) (As := []) S hK hH hS (th_A.sub (by decide)) (m_X11_isGood l D cT T q hT hq a0 t0) gm_1487 gm_1484 gm_1486 gm_49 gm_124 (by decide +kernel) ⟨rfl, rfl, Nat.le_of_ble_eq_true rfl, Nat.le_of_ble_eq_true rfl⟩ t0 km_0 rfl rfl hl.1 rfl (Nat.le_of_ble_eq_true rfl) dX11_known_1 ⟨Nat.zero_le _, Nat.zero_le _⟩ (fun x4 H locs ix4 ox4 hH hS hF1 => ?_)
    obtain ⟨ox4_0, ox4_1⟩ := ox4
    have ox4_0 : x4.toInt ≠ 0 → q 30 = 0 := ox4_0
    have ox4_1 : x4.toInt = 0 → q 30 ≠ 0 := ox4_1
    have l1x4 := ix4.1; have l2x4 := ix4.2
    refine lv_if_ne (tgt := 9) hx hb dX11_known_4 (by decide) (fun c5 => ?_) (fun c5 => ?_)
    · skip
      have rlc5 : x4.toInt ≠ (0 : Int) := iv_ne c5
      have ox4_0r := ox4_0 rlc5
      clear ox4_0
      clear ox4_1
      have ir6 : IV x4 1 1 := iv_cutL ix4 (iv_c (by decide) : IV 0 0 0) c5 (by decide)
      have ir6a := ir6.1; have ir6b := ir6.2
      refine lv_aload_n hx hb dX11_known_9 rfl (lv_at hl 0 rfl) ?_
      refine th_get S hK hH inG11 t0 km_0 rfl 8 (by decide) gm_1238 rfl rfl dX11_known_10 (fun v7 hv7 fv7 => ?_)
      obtain ⟨x8, rfl, ix8⟩ := th_V.int hv7
      have kx8a : q 29 ≤ x8.toInt := ix8.1
      have kx8b : x8.toInt ≤ q 29 := ix8.2
      have bx8 := qkm_29 hq
      have ix8 : IV x8 0 5 := iv_w ix8 (qkm_29 hq)
      refine lv_iconst (v := 2) hx hb dX11_known_13 (by decide) ?_
      refine lv_icmp_eq (tgt := 24) hx hb dX11_known_14 (by decide) (fun c9 => ?_) (fun c9 => ?_)
      · skip
        have rlc9 : x8.toInt = (2 : Int) := congrArg Int32.toInt c9
        have ir10 : IV x8 2 2 := iv_eL c9 (iv_c (by decide) : IV 2 2 2)
        have ir10a := ir10.1; have ir10b := ir10.2
        refine lv_iload_n hx hb dX11_known_24 rfl (lv_at hl 1 rfl) ?_
        refine lv_if_ge (tgt := 40) hx hb dX11_known_25 (by decide) (fun c11 => ?_) (fun c11 => ?_)
        · skip
          have rlc11 : (0 : Int) ≤ y1.toInt := iv_le c11
          have ir12 : IV y1 0 2 := iv_vR (iv_c (by decide) : IV 0 0 0) j1 (iv_le c11) (by decide)
          have ir12a := ir12.1; have ir12b := ir12.2
          refine lv_aload_n hx hb dX11_known_40 rfl (lv_at hl 0 rfl) ?_
          refine th_callVM (n := 0) (As := []) S hK hH hS (th_A.sub (by decide)) (m_X11_goOn l D cT T q hT hq a0 t0 (show q 28 ≤ q 26 by omega)) gm_1445 gm_1442 gm_1444 gm_47 gm_124 (by decide +kernel) ⟨rfl, rfl, Nat.le_of_ble_eq_true rfl, Nat.le_of_ble_eq_true rfl⟩ t0 km_0 rfl rfl hl.1 rfl (Nat.le_of_ble_eq_true rfl) dX11_known_41 ⟨Nat.zero_le _, Nat.zero_le _⟩ (fun wq13 q13 H locs hEq13 hH hS hF1 => ?_)
          obtain ⟨rfl, hqq13, g0q13, pq13_0, pq13_1, pq13_2, pq13_3, pq13_4⟩ := hEq13
          show W p l e (rmk 2 44) s m [.ref a0, .int y1].toArray below meth c H locs 0 0 (MQ below (th_QM D cT T (fun v q2 => ∃ r : Int32, v = some (.int r) ∧ IV r 0 2 ∧ qkm q2 ∧ fr [27, 28, 29, 30, 31] q q2 ∧ ((q2 29 = 0 ∧ q2 27 = q2 26 ∧ q2 28 = q2 26) ∨ (1 ≤ q2 29 ∧ q2 27 < q2 28 ∧ q2 28 ≤ q2 26)) ∧ (q2 30 = 0 → q2 29 = 3 → sg q2 (q2 28) < 97 ∨ 122 < sg q2 (q2 28)) ∧ (q2 30 = 0 → q2 29 = 3 → q2 31 = 7237492 → q2 27 + 3 ≤ q2 28) ∧ (q 27 ≤ q2 27) ∧ (q2 30 = 0 → q 30 = 0 ∧ q 28 ≤ q2 27 ∧ q 29 ≠ 0)) [0]) [.ref a0, .int y1].toArray s 0 0 (th_A T [0])) (F0 m 44 ls [])
          have pq13_0 : (q13 29 = 0 ∧ q13 27 = q13 26 ∧ q13 28 = q13 26) ∨ (1 ≤ q13 29 ∧ q13 27 < q13 28 ∧ q13 28 ≤ q13 26) := pq13_0
          have pq13_1 : q13 29 = 3 → sg q13 (q13 28) < 97 ∨ 122 < sg q13 (q13 28) := pq13_1
          have pq13_2 : q13 29 = 3 → q13 31 = 7237492 → q13 27 + 3 ≤ q13 28 := pq13_2
          have pq13_3 : q 28 ≤ q13 27 := pq13_3
          have pq13_4 : q13 29 = 3 → 97 ≤ sg q (q13 27) ∧ sg q (q13 27) ≤ 122 := pq13_4
          have wq13_26 : q13 26 = q 26 := g0q13 26 (by decide) (Or.inl (by decide))
          have wq13_30 : q13 30 = q 30 := g0q13 30 (by decide) (Or.inl (by decide))
          have h0q13 : fr [27, 28, 29, 30, 31] q q13 := fr_tr fr_rf g0q13 (by decide)
          exact J44 q13 H locs ls hqq13 h0q13 (show (q13 29 = 0 ∧ q13 27 = q13 26 ∧ q13 28 = q13 26) ∨ (1 ≤ q13 29 ∧ q13 27 < q13 28 ∧ q13 28 ≤ q13 26) by omega) (show q13 30 = 0 → q13 29 = 3 → sg q13 (q13 28) < 97 ∨ 122 < sg q13 (q13 28) by first | assumption | (intro z; exact absurd z (by omega)) | (intro _; assumption)) (show q13 30 = 0 → q13 29 = 3 → q13 31 = 7237492 → q13 27 + 3 ≤ q13 28 by first | assumption | omega) (show q 27 ≤ q13 27 by omega) (show q13 30 = 0 → q 30 = 0 ∧ q 28 ≤ q13 27 ∧ q 29 ≠ 0 by omega) hH hS (lv_sub hl [1] rfl)
        · skip
          have rlc11 : y1.toInt < (0 : Int) := iv_nle c11
          have ir14 : IV y1 (-1) (-1) := iv_uL j1 (iv_c (by decide) : IV 0 0 0) (iv_nle c11) (by decide)
          have ir14a := ir14.1; have ir14b := ir14.2
          refine lv_aload_n hx hb dX11_known_28 rfl (lv_at hl 0 rfl) ?_
          refine lv_iconst (v := 5) hx hb dX11_known_29 (by decide) ?_
          refine lv_aload_n hx hb dX11_known_30 rfl (lv_at hl 0 rfl) ?_
          refine th_get S hK hH inG11 t0 km_0 rfl 6 (by decide) gm_1236 rfl rfl dX11_known_31 (fun v15 hv15 fv15 => ?_)
          obtain ⟨x16, rfl, ix16⟩ := th_V.int hv15
          have kx16a : q 27 ≤ x16.toInt := ix16.1
          have kx16b : x16.toInt ≤ q 27 := ix16.2
          have bx16 := qkm_27 hq
          have ix16 : IV x16 0 1600 := iv_w ix16 (qkm_27 hq)
          refine th_callVM (n := 2) (As := [.int 5, .int x16]) S hK hH hS (th_A.sub (by decide)) (m_X11_fails l D cT T q hT hq a0 t0 (5) (iv_w (iv_c (by decide) : IV 5 5 5) (by decide)) (x16) (iv_top _)) gm_1507 gm_1504 gm_1506 gm_54 gm_124 (by decide +kernel) ⟨rfl, rfl, Nat.le_of_ble_eq_true rfl, Nat.le_of_ble_eq_true rfl⟩ t0 km_0 rfl rfl hl.1 rfl (Nat.le_of_ble_eq_true rfl) dX11_known_34 ⟨Nat.zero_le _, Nat.zero_le _⟩ (fun wq17 q17 H locs hEq17 hH hS hF1 => ?_)
          obtain ⟨rfl, hqq17, g0q17, pq17_0⟩ := hEq17
          show W p l e (rmk 2 44) s m [.ref a0, .int y1].toArray below meth c H locs 0 0 (MQ below (th_QM D cT T (fun v q2 => ∃ r : Int32, v = some (.int r) ∧ IV r 0 2 ∧ qkm q2 ∧ fr [27, 28, 29, 30, 31] q q2 ∧ ((q2 29 = 0 ∧ q2 27 = q2 26 ∧ q2 28 = q2 26) ∨ (1 ≤ q2 29 ∧ q2 27 < q2 28 ∧ q2 28 ≤ q2 26)) ∧ (q2 30 = 0 → q2 29 = 3 → sg q2 (q2 28) < 97 ∨ 122 < sg q2 (q2 28)) ∧ (q2 30 = 0 → q2 29 = 3 → q2 31 = 7237492 → q2 27 + 3 ≤ q2 28) ∧ (q 27 ≤ q2 27) ∧ (q2 30 = 0 → q 30 = 0 ∧ q 28 ≤ q2 27 ∧ q 29 ≠ 0)) [0]) [.ref a0, .int y1].toArray s 0 0 (th_A T [0])) (F0 m 37 ls [])
          have pq17_0 : q17 30 ≠ 0 := pq17_0
          have wq17_26 : q17 26 = q 26 := g0q17 26 (by decide) (Or.inl (by decide))
          have wq17_27 : q17 27 = q 27 := g0q17 27 (by decide) (Or.inl (by decide))
          have wq17_28 : q17 28 = q 28 := g0q17 28 (by decide) (Or.inl (by decide))
          have wq17_29 : q17 29 = q 29 := g0q17 29 (by decide) (Or.inl (by decide))
          have wq17_31 : q17 31 = q 31 := g0q17 31 (by decide) (Or.inl (by decide))
          have h0q17 : fr [27, 28, 29, 30, 31] q q17 := fr_tr fr_rf g0q17 (by decide)
          refine lv_goto (tgt := 44) hx hb dX11_known_37 (by decide) ?_
          exact J44 q17 H locs ls hqq17 h0q17 (show (q17 29 = 0 ∧ q17 27 = q17 26 ∧ q17 28 = q17 26) ∨ (1 ≤ q17 29 ∧ q17 27 < q17 28 ∧ q17 28 ≤ q17 26) by omega) (show q17 30 = 0 → q17 29 = 3 → sg q17 (q17 28) < 97 ∨ 122 < sg q17 (q17 28) by first | assumption | (intro z; exact absurd z (by omega)) | (intro _; assumption)) (show q17 30 = 0 → q17 29 = 3 → q17 31 = 7237492 → q17 27 + 3 ≤ q17 28 by first | assumption | omega) (show q 27 ≤ q17 27 by omega) (show q17 30 = 0 → q 30 = 0 ∧ q 28 ≤ q17 27 ∧ q 29 ≠ 0 by omega) hH hS (lv_sub hl [1] rfl)
      · skip
        have rlc9 : x8.toInt ≠ (2 : Int) := iv_ne c9
        refine lv_aload_n hx hb dX11_known_17 rfl (lv_at hl 0 rfl) ?_
        refine th_callVM (n := 0) (As := []) S hK hH hS (th_A.sub (by decide)) (m_X11_misplaced l D cT T q hT hq a0 t0) gm_1503 gm_1500 gm_1502 gm_53 gm_124 (by decide +kernel) ⟨rfl, rfl, Nat.le_of_ble_eq_true rfl, Nat.le_of_ble_eq_true rfl⟩ t0 km_0 rfl rfl hl.1 rfl (Nat.le_of_ble_eq_true rfl) dX11_known_18 ⟨Nat.zero_le _, Nat.zero_le _⟩ (fun wq18 q18 H locs hEq18 hH hS hF1 => ?_)
        obtain ⟨rfl, hqq18, g0q18, pq18_0⟩ := hEq18
        show W p l e (rmk 2 44) s m [.ref a0, .int y1].toArray below meth c H locs 0 0 (MQ below (th_QM D cT T (fun v q2 => ∃ r : Int32, v = some (.int r) ∧ IV r 0 2 ∧ qkm q2 ∧ fr [27, 28, 29, 30, 31] q q2 ∧ ((q2 29 = 0 ∧ q2 27 = q2 26 ∧ q2 28 = q2 26) ∨ (1 ≤ q2 29 ∧ q2 27 < q2 28 ∧ q2 28 ≤ q2 26)) ∧ (q2 30 = 0 → q2 29 = 3 → sg q2 (q2 28) < 97 ∨ 122 < sg q2 (q2 28)) ∧ (q2 30 = 0 → q2 29 = 3 → q2 31 = 7237492 → q2 27 + 3 ≤ q2 28) ∧ (q 27 ≤ q2 27) ∧ (q2 30 = 0 → q 30 = 0 ∧ q 28 ≤ q2 27 ∧ q 29 ≠ 0)) [0]) [.ref a0, .int y1].toArray s 0 0 (th_A T [0])) (F0 m 21 ls [])
        have pq18_0 : q18 30 ≠ 0 := pq18_0
        have wq18_26 : q18 26 = q 26 := g0q18 26 (by decide) (Or.inl (by decide))
        have wq18_27 : q18 27 = q 27 := g0q18 27 (by decide) (Or.inl (by decide))
        have wq18_28 : q18 28 = q 28 := g0q18 28 (by decide) (Or.inl (by decide))
        have wq18_29 : q18 29 = q 29 := g0q18 29 (by decide) (Or.inl (by decide))
        have wq18_31 : q18 31 = q 31 := g0q18 31 (by decide) (Or.inl (by decide))
        have h0q18 : fr [27, 28, 29, 30, 31] q q18 := fr_tr fr_rf g0q18 (by decide)
        refine lv_goto (tgt := 44) hx hb dX11_known_21 (by decide) ?_
        exact J44 q18 H locs ls hqq18 h0q18 (show (q18 29 = 0 ∧ q18 27 = q18 26 ∧ q18 28 = q18 26) ∨ (1 ≤ q18 29 ∧ q18 27 < q18 28 ∧ q18 28 ≤ q18 26) by omega) (show q18 30 = 0 → q18 29 = 3 → sg q18 (q18 28) < 97 ∨ 122 < sg q18 (q18 28) by first | assumption | (intro z; exact absurd z (by omega)) | (intro _; assumption)) (show q18 30 = 0 → q18 29 = 3 → q18 31 = 7237492 → q18 27 + 3 ≤ q18 28 by first | assumption | omega) (show q 27 ≤ q18 27 by omega) (show q18 30 = 0 → q 30 = 0 ∧ q 28 ≤ q18 27 ∧ q 29 ≠ 0 by omega) hH hS (lv_sub hl [1] rfl)
    · skip
      have rlc5 : x4.toInt = (0 : Int) := congrArg Int32.toInt c5
      clear ox4_0
      have ox4_1r := ox4_1 rlc5
      clear ox4_1
      have ir19 : IV x4 0 0 := iv_eL c5 (iv_c (by decide) : IV 0 0 0)
      have ir19a := ir19.1; have ir19b := ir19.2
      refine lv_iconst (v := 0) hx hb dX11_known_7 (by decide) ?_
      exact th_iretM S hK hH hS hr hlocks ⟨_, rfl, (iv_w (iv_c (by decide) : IV 0 0 0) (by decide)), hq, fr_rf, (show (q 29 = 0 ∧ q 27 = q 26 ∧ q 28 = q 26) ∨ (1 ≤ q 29 ∧ q 27 < q 28 ∧ q 28 ≤ q 26) by omega), (show q 30 = 0 → q 29 = 3 → sg q (q 28) < 97 ∨ 122 < sg q (q 28) by first | assumption | (intro z; exact absurd z (by omega)) | (intro _; assumption)), (show q 30 = 0 → q 29 = 3 → q 31 = 7237492 → q 27 + 3 ≤ q 28 by first | assumption | omega), (show q 27 ≤ q 27 by omega), (show q 30 = 0 → q 30 = 0 ∧ q 28 ≤ q 27 ∧ q 29 ≠ 0 by omega)⟩ dX11_known_8
  exact J0 s.heap [] ls hH va_S.rf hl

set_option maxHeartbeats 20000000 in
set_option maxRecDepth 100000 in
theorem J53_X11_known_v1 (l : Launch) (D : va_G) (cT : Nat → ClassId) (T : Nat → Option Nat) (q : Nat → Int) (hT : tokm T) (hq : qkm q) (a0 : Nat) (t0 : T a0 = some 0) (y1 : Int32) (j1 : IV y1 (-1) 3) (hp0 : (q 29 = 0 ∧ q 27 = q 26 ∧ q 28 = q 26) ∨ (1 ≤ q 29 ∧ q 27 < q 28 ∧ q 28 ≤ q 26)) (p : Program) (e : Env) (s : State) (m : MethodId) (below : List Frame) (meth : Method) (c : Code) (S : CallFix p m c cX11_known 2 s [.ref a0, .int y1].toArray gw yX11_known.cls) (hK : va_K D classes (th_tys cT) s) (hr : meth.sig.returnType = (some .int)) (hlocks : meth.locks = false) : ∀ (q53 : Nat → Int) (H : Heap) (locs : List Loc) (ls : Array Slot), qkm q53 → fr [27, 28, 29, 30, 31] q q53 → IV y1 0 3 → ((q53 29 = 0 ∧ q53 27 = q53 26 ∧ q53 28 = q53 26) ∨ (1 ≤ q53 29 ∧ q53 27 < q53 28 ∧ q53 28 ≤ q53 26)) → (q53 30 = 0 → q53 29 = 3 → sg q53 (q53 28) < 97 ∨ 122 < sg q53 (q53 28)) → (q53 30 = 0 → q53 29 = 3 → q53 31 = 7237492 → q53 27 + 3 ≤ q53 28) → (q 27 ≤ q53 27) → (q53 30 = 0 → q 30 = 0 ∧ q 28 ≤ q53 27 ∧ q 29 ≠ 0) → th_H D cT T (km q53) H → va_S (th_A T [0]) s.heap H locs → lv_has ls 2 [] → W p l e (rmk 2 44) s m [.ref a0, .int y1].toArray below meth c H locs 0 0 (MQ below (th_QM D cT T (fun v q2 => ∃ r : Int32, v = some (.int r) ∧ IV r 0 3 ∧ qkm q2 ∧ fr [27, 28, 29, 30, 31] q q2 ∧ ((q2 29 = 0 ∧ q2 27 = q2 26 ∧ q2 28 = q2 26) ∨ (1 ≤ q2 29 ∧ q2 27 < q2 28 ∧ q2 28 ≤ q2 26)) ∧ (q2 30 = 0 → q2 29 = 3 → sg q2 (q2 28) < 97 ∨ 122 < sg q2 (q2 28)) ∧ (q2 30 = 0 → q2 29 = 3 → q2 31 = 7237492 → q2 27 + 3 ≤ q2 28) ∧ (q 27 ≤ q2 27) ∧ (q2 30 = 0 → q 30 = 0 ∧ q 28 ≤ q2 27 ∧ q 29 ≠ 0)) [0]) [.ref a0, .int y1].toArray s 0 0 (th_A T [0])) (F0 m 53 ls [.int y1]) := by
    have hx := S.1
    have hb := S.2.1
    have l1y1 := j1.1; have l2y1 := j1.2
    intro q53 H locs ls hq53 h053 f53_y1 v53_inv0 v53_inv1 v53_inv2 v53_inv3 v53_inv4 hH hS hl
    have w53_26 : q53 26 = q 26 := h053 26 (by decide) (Or.inl (by decide))
    exact th_iretM S hK hH hS hr hlocks ⟨_, rfl, f53_y1, hq53, h053, (show (q53 29 = 0 ∧ q53 27 = q53 26 ∧ q53 28 = q53 26) ∨ (1 ≤ q53 29 ∧ q53 27 < q53 28 ∧ q53 28 ≤ q53 26) by omega), (show q53 30 = 0 → q53 29 = 3 → sg q53 (q53 28) < 97 ∨ 122 < sg q53 (q53 28) by first | assumption | (intro z; exact absurd z (by omega)) | (intro _; assumption)), (show q53 30 = 0 → q53 29 = 3 → q53 31 = 7237492 → q53 27 + 3 ≤ q53 28 by first | assumption | omega), (show q 27 ≤ q53 27 by omega), (show q53 30 = 0 → q 30 = 0 ∧ q 28 ≤ q53 27 ∧ q 29 ≠ 0 by omega)⟩ dX11_known_53


set_option maxHeartbeats 20000000 in
set_option maxRecDepth 100000 in
theorem J53_s0_0_X11_known_v1 (l : Launch) (D : va_G) (cT : Nat → ClassId) (T : Nat → Option Nat) (q : Nat → Int) (hT : tokm T) (hq : qkm q) (a0 : Nat) (t0 : T a0 = some 0) (y1 : Int32) (j1 : IV y1 (-1) 3) (hp0 : (q 29 = 0 ∧ q 27 = q 26 ∧ q 28 = q 26) ∨ (1 ≤ q 29 ∧ q 27 < q 28 ∧ q 28 ≤ q 26)) (p : Program) (e : Env) (s : State) (m : MethodId) (below : List Frame) (meth : Method) (c : Code) (S : CallFix p m c cX11_known 2 s [.ref a0, .int y1].toArray gw yX11_known.cls) (hK : va_K D classes (th_tys cT) s) (hr : meth.sig.returnType = (some .int)) (hlocks : meth.locks = false) : ∀ (q53 : Nat → Int) (H : Heap) (locs : List Loc) (ls : Array Slot), qkm q53 → fr [27, 28, 29, 30, 31] q q53 → ((q53 29 = 0 ∧ q53 27 = q53 26 ∧ q53 28 = q53 26) ∨ (1 ≤ q53 29 ∧ q53 27 < q53 28 ∧ q53 28 ≤ q53 26)) → (q53 30 = 0 → q53 29 = 3 → sg q53 (q53 28) < 97 ∨ 122 < sg q53 (q53 28)) → (q53 30 = 0 → q53 29 = 3 → q53 31 = 7237492 → q53 27 + 3 ≤ q53 28) → (q 27 ≤ q53 27) → (q53 30 = 0 → q 30 = 0 ∧ q 28 ≤ q53 27 ∧ q 29 ≠ 0) → th_H D cT T (km q53) H → va_S (th_A T [0]) s.heap H locs → lv_has ls 2 [] → W p l e (rmk 2 44) s m [.ref a0, .int y1].toArray below meth c H locs 0 0 (MQ below (th_QM D cT T (fun v q2 => ∃ r : Int32, v = some (.int r) ∧ IV r 0 3 ∧ qkm q2 ∧ fr [27, 28, 29, 30, 31] q q2 ∧ ((q2 29 = 0 ∧ q2 27 = q2 26 ∧ q2 28 = q2 26) ∨ (1 ≤ q2 29 ∧ q2 27 < q2 28 ∧ q2 28 ≤ q2 26)) ∧ (q2 30 = 0 → q2 29 = 3 → sg q2 (q2 28) < 97 ∨ 122 < sg q2 (q2 28)) ∧ (q2 30 = 0 → q2 29 = 3 → q2 31 = 7237492 → q2 27 + 3 ≤ q2 28) ∧ (q 27 ≤ q2 27) ∧ (q2 30 = 0 → q 30 = 0 ∧ q 28 ≤ q2 27 ∧ q 29 ≠ 0)) [0]) [.ref a0, .int y1].toArray s 0 0 (th_A T [0])) (F0 m 53 ls [.int 0]) := by
    have hx := S.1
    have hb := S.2.1
    have l1y1 := j1.1; have l2y1 := j1.2
    intro q53 H locs ls hq53 h053 v53_inv0 v53_inv1 v53_inv2 v53_inv3 v53_inv4 hH hS hl
    have w53_26 : q53 26 = q 26 := h053 26 (by decide) (Or.inl (by decide))
    exact th_iretM S hK hH hS hr hlocks ⟨_, rfl, (iv_w (iv_c (by decide) : IV 0 0 0) (by decide)), hq53, h053, (show (q53 29 = 0 ∧ q53 27 = q53 26 ∧ q53 28 = q53 26) ∨ (1 ≤ q53 29 ∧ q53 27 < q53 28 ∧ q53 28 ≤ q53 26) by omega), (show q53 30 = 0 → q53 29 = 3 → sg q53 (q53 28) < 97 ∨ 122 < sg q53 (q53 28) by first | assumption | (intro z; exact absurd z (by omega)) | (intro _; assumption)), (show q53 30 = 0 → q53 29 = 3 → q53 31 = 7237492 → q53 27 + 3 ≤ q53 28 by first | assumption | omega), (show q 27 ≤ q53 27 by omega), (show q53 30 = 0 → q 30 = 0 ∧ q 28 ≤ q53 27 ∧ q 29 ≠ 0 by omega)⟩ dX11_known_53


set_option maxHeartbeats 20000000 in
set_option maxRecDepth 100000 in
theorem J44_X11_known_v1 (l : Launch) (D : va_G) (cT : Nat → ClassId) (T : Nat → Option Nat) (q : Nat → Int) (hT : tokm T) (hq : qkm q) (a0 : Nat) (t0 : T a0 = some 0) (y1 : Int32) (j1 : IV y1 (-1) 3) (hp0 : (q 29 = 0 ∧ q 27 = q 26 ∧ q 28 = q 26) ∨ (1 ≤ q 29 ∧ q 27 < q 28 ∧ q 28 ≤ q 26)) (p : Program) (e : Env) (s : State) (m : MethodId) (below : List Frame) (meth : Method) (c : Code) (S : CallFix p m c cX11_known 2 s [.ref a0, .int y1].toArray gw yX11_known.cls) (hK : va_K D classes (th_tys cT) s) (hr : meth.sig.returnType = (some .int)) (hlocks : meth.locks = false) : ∀ (q44 : Nat → Int) (H : Heap) (locs : List Loc) (ls : Array Slot), qkm q44 → fr [27, 28, 29, 30, 31] q q44 → ((q44 29 = 0 ∧ q44 27 = q44 26 ∧ q44 28 = q44 26) ∨ (1 ≤ q44 29 ∧ q44 27 < q44 28 ∧ q44 28 ≤ q44 26)) → (q44 30 = 0 → q44 29 = 3 → sg q44 (q44 28) < 97 ∨ 122 < sg q44 (q44 28)) → (q44 30 = 0 → q44 29 = 3 → q44 31 = 7237492 → q44 27 + 3 ≤ q44 28) → (q 27 ≤ q44 27) → (q44 30 = 0 → q 30 = 0 ∧ q 28 ≤ q44 27 ∧ q 29 ≠ 0) → th_H D cT T (km q44) H → va_S (th_A T [0]) s.heap H locs → lv_has ls 2 [(1, .int y1)] → W p l e (rmk 2 44) s m [.ref a0, .int y1].toArray below meth c H locs 0 0 (MQ below (th_QM D cT T (fun v q2 => ∃ r : Int32, v = some (.int r) ∧ IV r 0 3 ∧ qkm q2 ∧ fr [27, 28, 29, 30, 31] q q2 ∧ ((q2 29 = 0 ∧ q2 27 = q2 26 ∧ q2 28 = q2 26) ∨ (1 ≤ q2 29 ∧ q2 27 < q2 28 ∧ q2 28 ≤ q2 26)) ∧ (q2 30 = 0 → q2 29 = 3 → sg q2 (q2 28) < 97 ∨ 122 < sg q2 (q2 28)) ∧ (q2 30 = 0 → q2 29 = 3 → q2 31 = 7237492 → q2 27 + 3 ≤ q2 28) ∧ (q 27 ≤ q2 27) ∧ (q2 30 = 0 → q 30 = 0 ∧ q 28 ≤ q2 27 ∧ q 29 ≠ 0)) [0]) [.ref a0, .int y1].toArray s 0 0 (th_A T [0])) (F0 m 44 ls []) := by
    have hx := S.1
    have hb := S.2.1
    have l1y1 := j1.1; have l2y1 := j1.2
    have J53 := J53_X11_known_v1 l D cT T q hT hq a0 t0 y1 j1 hp0 p e s m below meth c S hK hr hlocks
    have J53_s0_0 := J53_s0_0_X11_known_v1 l D cT T q hT hq a0 t0 y1 j1 hp0 p e s m below meth c S hK hr hlocks
    intro q44 H locs ls hq44 h044 v44_inv0 v44_inv1 v44_inv2 v44_inv3 v44_inv4 hH hS hl
    have w44_26 : q44 26 = q 26 := h044 26 (by decide) (Or.inl (by decide))
    refine lv_iload_n hx hb dX11_known_44 rfl (lv_at hl 0 rfl) ?_
    refine lv_if_ge (tgt := 52) hx hb dX11_known_45 (by decide) (fun c1 => ?_) (fun c1 => ?_)
    · skip
      have rlc1 : (0 : Int) ≤ y1.toInt := iv_le c1
      have ir2 : IV y1 0 3 := iv_vR (iv_c (by decide) : IV 0 0 0) j1 (iv_le c1) (by decide)
      have ir2a := ir2.1; have ir2b := ir2.2
      refine lv_iload_n hx hb dX11_known_52 rfl (lv_at hl 0 rfl) ?_
      exact J53 q44 H locs ls hq44 h044 ir2 (show (q44 29 = 0 ∧ q44 27 = q44 26 ∧ q44 28 = q44 26) ∨ (1 ≤ q44 29 ∧ q44 27 < q44 28 ∧ q44 28 ≤ q44 26) by omega) (show q44 30 = 0 → q44 29 = 3 → sg q44 (q44 28) < 97 ∨ 122 < sg q44 (q44 28) by first | assumption | (intro z; exact absurd z (by omega)) | (intro _; assumption)) (show q44 30 = 0 → q44 29 = 3 → q44 31 = 7237492 → q44 27 + 3 ≤ q44 28 by first | assumption | omega) (show q 27 ≤ q44 27 by omega) (show q44 30 = 0 → q 30 = 0 ∧ q 28 ≤ q44 27 ∧ q 29 ≠ 0 by omega) hH hS (lv_sub hl [] rfl)
    · skip
      have rlc1 : y1.toInt < (0 : Int) := iv_nle c1
      have ir3 : IV y1 (-1) (-1) := iv_uL j1 (iv_c (by decide) : IV 0 0 0) (iv_nle c1) (by decide)
      have ir3a := ir3.1; have ir3b := ir3.2
      refine lv_iconst (v := 0) hx hb dX11_known_48 (by decide) ?_
      refine lv_goto (tgt := 53) hx hb dX11_known_49 (by decide) ?_
      exact J53_s0_0 q44 H locs ls hq44 h044 (show (q44 29 = 0 ∧ q44 27 = q44 26 ∧ q44 28 = q44 26) ∨ (1 ≤ q44 29 ∧ q44 27 < q44 28 ∧ q44 28 ≤ q44 26) by omega) (show q44 30 = 0 → q44 29 = 3 → sg q44 (q44 28) < 97 ∨ 122 < sg q44 (q44 28) by first | assumption | (intro z; exact absurd z (by omega)) | (intro _; assumption)) (show q44 30 = 0 → q44 29 = 3 → q44 31 = 7237492 → q44 27 + 3 ≤ q44 28 by first | assumption | omega) (show q 27 ≤ q44 27 by omega) (show q44 30 = 0 → q 30 = 0 ∧ q 28 ≤ q44 27 ∧ q 29 ≠ 0 by omega) hH hS (lv_sub hl [] rfl)

set_option maxHeartbeats 20000000 in
set_option maxRecDepth 100000 in
theorem m_X11_known_v1 (l : Launch) (D : va_G) (cT : Nat → ClassId) (T : Nat → Option Nat) (q : Nat → Int) (hT : tokm T) (hq : qkm q) (a0 : Nat) (t0 : T a0 = some 0) (y1 : Int32) (j1 : IV y1 (-1) 3) (hp0 : (q 29 = 0 ∧ q 27 = q 26 ∧ q 28 = q 26) ∨ (1 ≤ q 29 ∧ q 27 < q 28 ∧ q 28 ≤ q 26)) : th_MetM l D cT T q yX11_known cX11_known 2 (some .int) (rmk 2 44) [.ref a0, .int y1] (fun v q2 => ∃ r : Int32, v = some (.int r) ∧ IV r 0 3 ∧ qkm q2 ∧ fr [27, 28, 29, 30, 31] q q2 ∧ ((q2 29 = 0 ∧ q2 27 = q2 26 ∧ q2 28 = q2 26) ∨ (1 ≤ q2 29 ∧ q2 27 < q2 28 ∧ q2 28 ≤ q2 26)) ∧ (q2 30 = 0 → q2 29 = 3 → sg q2 (q2 28) < 97 ∨ 122 < sg q2 (q2 28)) ∧ (q2 30 = 0 → q2 29 = 3 → q2 31 = 7237492 → q2 27 + 3 ≤ q2 28) ∧ (q 27 ≤ q2 27) ∧ (q2 30 = 0 → q 30 = 0 ∧ q 28 ≤ q2 27 ∧ q 29 ≠ 0)) [0] := by
  refine th_startM (by decide) (Nat.le_of_ble_eq_true rfl) ?_
  intro p e s m below meth c ls S hK hH hr hlocks hnm hl
  have hx := S.1
  have hb := S.2.1
  have l1y1 := j1.1; have l2y1 := j1.2
  have hl : lv_has ls 2 [(0, .ref a0), (1, .int y1)] := hl
  have J53 := J53_X11_known_v1 l D cT T q hT hq a0 t0 y1 j1 hp0 p e s m below meth c S hK hr hlocks
  have J53_s0_0 := J53_s0_0_X11_known_v1 l D cT T q hT hq a0 t0 y1 j1 hp0 p e s m below meth c S hK hr hlocks
  have J44 := J44_X11_known_v1 l D cT T q hT hq a0 t0 y1 j1 hp0 p e s m below meth c S hK hr hlocks
  have J0 : ∀ (H : Heap) (locs : List Loc) (ls : Array Slot), th_H D cT T (km q) H → va_S (th_A T [0]) s.heap H locs → lv_has ls 2 [(0, .ref a0), (1, .int y1)] → W p l e (rmk 2 44) s m [.ref a0, .int y1].toArray below meth c H locs 0 0 (MQ below (th_QM D cT T (fun v q2 => ∃ r : Int32, v = some (.int r) ∧ IV r 0 3 ∧ qkm q2 ∧ fr [27, 28, 29, 30, 31] q q2 ∧ ((q2 29 = 0 ∧ q2 27 = q2 26 ∧ q2 28 = q2 26) ∨ (1 ≤ q2 29 ∧ q2 27 < q2 28 ∧ q2 28 ≤ q2 26)) ∧ (q2 30 = 0 → q2 29 = 3 → sg q2 (q2 28) < 97 ∨ 122 < sg q2 (q2 28)) ∧ (q2 30 = 0 → q2 29 = 3 → q2 31 = 7237492 → q2 27 + 3 ≤ q2 28) ∧ (q 27 ≤ q2 27) ∧ (q2 30 = 0 → q 30 = 0 ∧ q 28 ≤ q2 27 ∧ q 29 ≠ 0)) [0]) [.ref a0, .int y1].toArray s 0 0 (th_A T [0])) (F0 m 0 ls []) := by
    intro H locs ls hH hS hl
    refine lv_aload_n hx hb dX11_known_0 rfl (lv_at hl 0 rfl) ?_
    refine th_callVp (n := 0) (As := []) S hK hH hS (th_A.sub (by decide)) (m_X11_isGood l D cT T q hT hq a0 t0) gm_1487 gm_1484 gm_1486 gm_49 gm_124 (by decide +kernel) ⟨rfl, rfl, Nat.le_of_ble_eq_true rfl, Nat.le_of_ble_eq_true rfl⟩ t0 km_0 rfl rfl hl.1 rfl (Nat.le_of_ble_eq_true rfl) dX11_known_1 ⟨Nat.zero_le _, Nat.zero_le _⟩ (fun x4 H locs ix4 ox4 hH hS hF1 => ?_)
    obtain ⟨ox4_0, ox4_1⟩ := ox4
    have ox4_0 : x4.toInt ≠ 0 → q 30 = 0 := ox4_0
    have ox4_1 : x4.toInt = 0 → q 30 ≠ 0 := ox4_1
    have l1x4 := ix4.1; have l2x4 := ix4.2
    refine lv_if_ne (tgt := 9) hx hb dX11_known_4 (by decide) (fun c5 => ?_) (fun c5 => ?_)
    · skip
      have rlc5 : x4.toInt ≠ (0 : Int) := iv_ne c5
      have ox4_0r := ox4_0 rlc5
      clear ox4_0
      clear ox4_1
      have ir6 : IV x4 1 1 := iv_cutL ix4 (iv_c (by decide) : IV 0 0 0) c5 (by decide)
      have ir6a := ir6.1; have ir6b := ir6.2
      refine lv_aload_n hx hb dX11_known_9 rfl (lv_at hl 0 rfl) ?_
      refine th_get S hK hH inG11 t0 km_0 rfl 8 (by decide) gm_1238 rfl rfl dX11_known_10 (fun v7 hv7 fv7 => ?_)
      obtain ⟨x8, rfl, ix8⟩ := th_V.int hv7
      have kx8a : q 29 ≤ x8.toInt := ix8.1
      have kx8b : x8.toInt ≤ q 29 := ix8.2
      have bx8 := qkm_29 hq
      have ix8 : IV x8 0 5 := iv_w ix8 (qkm_29 hq)
      refine lv_iconst (v := 2) hx hb dX11_known_13 (by decide) ?_
      refine lv_icmp_eq (tgt := 24) hx hb dX11_known_14 (by decide) (fun c9 => ?_) (fun c9 => ?_)
      · skip
        have rlc9 : x8.toInt = (2 : Int) := congrArg Int32.toInt c9
        have ir10 : IV x8 2 2 := iv_eL c9 (iv_c (by decide) : IV 2 2 2)
        have ir10a := ir10.1; have ir10b := ir10.2
        refine lv_iload_n hx hb dX11_known_24 rfl (lv_at hl 1 rfl) ?_
        refine lv_if_ge (tgt := 40) hx hb dX11_known_25 (by decide) (fun c11 => ?_) (fun c11 => ?_)
        · skip
          have rlc11 : (0 : Int) ≤ y1.toInt := iv_le c11
          have ir12 : IV y1 0 3 := iv_vR (iv_c (by decide) : IV 0 0 0) j1 (iv_le c11) (by decide)
          have ir12a := ir12.1; have ir12b := ir12.2
          refine lv_aload_n hx hb dX11_known_40 rfl (lv_at hl 0 rfl) ?_
          refine th_callVM (n := 0) (As := []) S hK hH hS (th_A.sub (by decide)) (m_X11_goOn l D cT T q hT hq a0 t0 (show q 28 ≤ q 26 by omega)) gm_1445 gm_1442 gm_1444 gm_47 gm_124 (by decide +kernel) ⟨rfl, rfl, Nat.le_of_ble_eq_true rfl, Nat.le_of_ble_eq_true rfl⟩ t0 km_0 rfl rfl hl.1 rfl (Nat.le_of_ble_eq_true rfl) dX11_known_41 ⟨Nat.zero_le _, Nat.zero_le _⟩ (fun wq13 q13 H locs hEq13 hH hS hF1 => ?_)
          obtain ⟨rfl, hqq13, g0q13, pq13_0, pq13_1, pq13_2, pq13_3, pq13_4⟩ := hEq13
          show W p l e (rmk 2 44) s m [.ref a0, .int y1].toArray below meth c H locs 0 0 (MQ below (th_QM D cT T (fun v q2 => ∃ r : Int32, v = some (.int r) ∧ IV r 0 3 ∧ qkm q2 ∧ fr [27, 28, 29, 30, 31] q q2 ∧ ((q2 29 = 0 ∧ q2 27 = q2 26 ∧ q2 28 = q2 26) ∨ (1 ≤ q2 29 ∧ q2 27 < q2 28 ∧ q2 28 ≤ q2 26)) ∧ (q2 30 = 0 → q2 29 = 3 → sg q2 (q2 28) < 97 ∨ 122 < sg q2 (q2 28)) ∧ (q2 30 = 0 → q2 29 = 3 → q2 31 = 7237492 → q2 27 + 3 ≤ q2 28) ∧ (q 27 ≤ q2 27) ∧ (q2 30 = 0 → q 30 = 0 ∧ q 28 ≤ q2 27 ∧ q 29 ≠ 0)) [0]) [.ref a0, .int y1].toArray s 0 0 (th_A T [0])) (F0 m 44 ls [])
          have pq13_0 : (q13 29 = 0 ∧ q13 27 = q13 26 ∧ q13 28 = q13 26) ∨ (1 ≤ q13 29 ∧ q13 27 < q13 28 ∧ q13 28 ≤ q13 26) := pq13_0
          have pq13_1 : q13 29 = 3 → sg q13 (q13 28) < 97 ∨ 122 < sg q13 (q13 28) := pq13_1
          have pq13_2 : q13 29 = 3 → q13 31 = 7237492 → q13 27 + 3 ≤ q13 28 := pq13_2
          have pq13_3 : q 28 ≤ q13 27 := pq13_3
          have pq13_4 : q13 29 = 3 → 97 ≤ sg q (q13 27) ∧ sg q (q13 27) ≤ 122 := pq13_4
          have wq13_26 : q13 26 = q 26 := g0q13 26 (by decide) (Or.inl (by decide))
          have wq13_30 : q13 30 = q 30 := g0q13 30 (by decide) (Or.inl (by decide))
          have h0q13 : fr [27, 28, 29, 30, 31] q q13 := fr_tr fr_rf g0q13 (by decide)
          exact J44 q13 H locs ls hqq13 h0q13 (show (q13 29 = 0 ∧ q13 27 = q13 26 ∧ q13 28 = q13 26) ∨ (1 ≤ q13 29 ∧ q13 27 < q13 28 ∧ q13 28 ≤ q13 26) by omega) (show q13 30 = 0 → q13 29 = 3 → sg q13 (q13 28) < 97 ∨ 122 < sg q13 (q13 28) by first | assumption | (intro z; exact absurd z (by omega)) | (intro _; assumption)) (show q13 30 = 0 → q13 29 = 3 → q13 31 = 7237492 → q13 27 + 3 ≤ q13 28 by first | assumption | omega) (show q 27 ≤ q13 27 by omega) (show q13 30 = 0 → q 30 = 0 ∧ q 28 ≤ q13 27 ∧ q 29 ≠ 0 by omega) hH hS (lv_sub hl [1] rfl)
        · skip
          have rlc11 : y1.toInt < (0 : Int) := iv_nle c11
          have ir14 : IV y1 (-1) (-1) := iv_uL j1 (iv_c (by decide) : IV 0 0 0) (iv_nle c11) (by decide)
          have ir14a := ir14.1; have ir14b := ir14.2
          refine lv_aload_n hx hb dX11_known_28 rfl (lv_at hl 0 rfl) ?_
          refine lv_iconst (v := 5) hx hb dX11_known_29 (by decide) ?_
          refine lv_aload_n hx hb dX11_known_30 rfl (lv_at hl 0 rfl) ?_
          refine th_get S hK hH inG11 t0 km_0 rfl 6 (by decide) gm_1236 rfl rfl dX11_known_31 (fun v15 hv15 fv15 => ?_)
          obtain ⟨x16, rfl, ix16⟩ := th_V.int hv15
          have kx16a : q 27 ≤ x16.toInt := ix16.1
          have kx16b : x16.toInt ≤ q 27 := ix16.2
          have bx16 := qkm_27 hq
          have ix16 : IV x16 0 1600 := iv_w ix16 (qkm_27 hq)
          refine th_callVM (n := 2) (As := [.int 5, .int x16]) S hK hH hS (th_A.sub (by decide)) (m_X11_fails l D cT T q hT hq a0 t0 (5) (iv_w (iv_c (by decide) : IV 5 5 5) (by decide)) (x16) (iv_top _)) gm_1507 gm_1504 gm_1506 gm_54 gm_124 (by decide +kernel) ⟨rfl, rfl, Nat.le_of_ble_eq_true rfl, Nat.le_of_ble_eq_true rfl⟩ t0 km_0 rfl rfl hl.1 rfl (Nat.le_of_ble_eq_true rfl) dX11_known_34 ⟨Nat.zero_le _, Nat.zero_le _⟩ (fun wq17 q17 H locs hEq17 hH hS hF1 => ?_)
          obtain ⟨rfl, hqq17, g0q17, pq17_0⟩ := hEq17
          show W p l e (rmk 2 44) s m [.ref a0, .int y1].toArray below meth c H locs 0 0 (MQ below (th_QM D cT T (fun v q2 => ∃ r : Int32, v = some (.int r) ∧ IV r 0 3 ∧ qkm q2 ∧ fr [27, 28, 29, 30, 31] q q2 ∧ ((q2 29 = 0 ∧ q2 27 = q2 26 ∧ q2 28 = q2 26) ∨ (1 ≤ q2 29 ∧ q2 27 < q2 28 ∧ q2 28 ≤ q2 26)) ∧ (q2 30 = 0 → q2 29 = 3 → sg q2 (q2 28) < 97 ∨ 122 < sg q2 (q2 28)) ∧ (q2 30 = 0 → q2 29 = 3 → q2 31 = 7237492 → q2 27 + 3 ≤ q2 28) ∧ (q 27 ≤ q2 27) ∧ (q2 30 = 0 → q 30 = 0 ∧ q 28 ≤ q2 27 ∧ q 29 ≠ 0)) [0]) [.ref a0, .int y1].toArray s 0 0 (th_A T [0])) (F0 m 37 ls [])
          have pq17_0 : q17 30 ≠ 0 := pq17_0
          have wq17_26 : q17 26 = q 26 := g0q17 26 (by decide) (Or.inl (by decide))
          have wq17_27 : q17 27 = q 27 := g0q17 27 (by decide) (Or.inl (by decide))
          have wq17_28 : q17 28 = q 28 := g0q17 28 (by decide) (Or.inl (by decide))
          have wq17_29 : q17 29 = q 29 := g0q17 29 (by decide) (Or.inl (by decide))
          have wq17_31 : q17 31 = q 31 := g0q17 31 (by decide) (Or.inl (by decide))
          have h0q17 : fr [27, 28, 29, 30, 31] q q17 := fr_tr fr_rf g0q17 (by decide)
          refine lv_goto (tgt := 44) hx hb dX11_known_37 (by decide) ?_
          exact J44 q17 H locs ls hqq17 h0q17 (show (q17 29 = 0 ∧ q17 27 = q17 26 ∧ q17 28 = q17 26) ∨ (1 ≤ q17 29 ∧ q17 27 < q17 28 ∧ q17 28 ≤ q17 26) by omega) (show q17 30 = 0 → q17 29 = 3 → sg q17 (q17 28) < 97 ∨ 122 < sg q17 (q17 28) by first | assumption | (intro z; exact absurd z (by omega)) | (intro _; assumption)) (show q17 30 = 0 → q17 29 = 3 → q17 31 = 7237492 → q17 27 + 3 ≤ q17 28 by first | assumption | omega) (show q 27 ≤ q17 27 by omega) (show q17 30 = 0 → q 30 = 0 ∧ q 28 ≤ q17 27 ∧ q 29 ≠ 0 by omega) hH hS (lv_sub hl [1] rfl)
      · skip
        have rlc9 : x8.toInt ≠ (2 : Int) := iv_ne c9
        refine lv_aload_n hx hb dX11_known_17 rfl (lv_at hl 0 rfl) ?_
        refine th_callVM (n := 0) (As := []) S hK hH hS (th_A.sub (by decide)) (m_X11_misplaced l D cT T q hT hq a0 t0) gm_1503 gm_1500 gm_1502 gm_53 gm_124 (by decide +kernel) ⟨rfl, rfl, Nat.le_of_ble_eq_true rfl, Nat.le_of_ble_eq_true rfl⟩ t0 km_0 rfl rfl hl.1 rfl (Nat.le_of_ble_eq_true rfl) dX11_known_18 ⟨Nat.zero_le _, Nat.zero_le _⟩ (fun wq18 q18 H locs hEq18 hH hS hF1 => ?_)
        obtain ⟨rfl, hqq18, g0q18, pq18_0⟩ := hEq18
        show W p l e (rmk 2 44) s m [.ref a0, .int y1].toArray below meth c H locs 0 0 (MQ below (th_QM D cT T (fun v q2 => ∃ r : Int32, v = some (.int r) ∧ IV r 0 3 ∧ qkm q2 ∧ fr [27, 28, 29, 30, 31] q q2 ∧ ((q2 29 = 0 ∧ q2 27 = q2 26 ∧ q2 28 = q2 26) ∨ (1 ≤ q2 29 ∧ q2 27 < q2 28 ∧ q2 28 ≤ q2 26)) ∧ (q2 30 = 0 → q2 29 = 3 → sg q2 (q2 28) < 97 ∨ 122 < sg q2 (q2 28)) ∧ (q2 30 = 0 → q2 29 = 3 → q2 31 = 7237492 → q2 27 + 3 ≤ q2 28) ∧ (q 27 ≤ q2 27) ∧ (q2 30 = 0 → q 30 = 0 ∧ q 28 ≤ q2 27 ∧ q 29 ≠ 0)) [0]) [.ref a0, .int y1].toArray s 0 0 (th_A T [0])) (F0 m 21 ls [])
        have pq18_0 : q18 30 ≠ 0 := pq18_0
        have wq18_26 : q18 26 = q 26 := g0q18 26 (by decide) (Or.inl (by decide))
        have wq18_27 : q18 27 = q 27 := g0q18 27 (by decide) (Or.inl (by decide))
        have wq18_28 : q18 28 = q 28 := g0q18 28 (by decide) (Or.inl (by decide))
        have wq18_29 : q18 29 = q 29 := g0q18 29 (by decide) (Or.inl (by decide))
        have wq18_31 : q18 31 = q 31 := g0q18 31 (by decide) (Or.inl (by decide))
        have h0q18 : fr [27, 28, 29, 30, 31] q q18 := fr_tr fr_rf g0q18 (by decide)
        refine lv_goto (tgt := 44) hx hb dX11_known_21 (by decide) ?_
        exact J44 q18 H locs ls hqq18 h0q18 (show (q18 29 = 0 ∧ q18 27 = q18 26 ∧ q18 28 = q18 26) ∨ (1 ≤ q18 29 ∧ q18 27 < q18 28 ∧ q18 28 ≤ q18 26) by omega) (show q18 30 = 0 → q18 29 = 3 → sg q18 (q18 28) < 97 ∨ 122 < sg q18 (q18 28) by first | assumption | (intro z; exact absurd z (by omega)) | (intro _; assumption)) (show q18 30 = 0 → q18 29 = 3 → q18 31 = 7237492 → q18 27 + 3 ≤ q18 28 by first | assumption | omega) (show q 27 ≤ q18 27 by omega) (show q18 30 = 0 → q 30 = 0 ∧ q 28 ≤ q18 27 ∧ q 29 ≠ 0 by omega) hH hS (lv_sub hl [1] rfl)
    · skip
      have rlc5 : x4.toInt = (0 : Int) := congrArg Int32.toInt c5
      clear ox4_0
      have ox4_1r := ox4_1 rlc5
      clear ox4_1
      have ir19 : IV x4 0 0 := iv_eL c5 (iv_c (by decide) : IV 0 0 0)
      have ir19a := ir19.1; have ir19b := ir19.2
      refine lv_iconst (v := 0) hx hb dX11_known_7 (by decide) ?_
      exact th_iretM S hK hH hS hr hlocks ⟨_, rfl, (iv_w (iv_c (by decide) : IV 0 0 0) (by decide)), hq, fr_rf, (show (q 29 = 0 ∧ q 27 = q 26 ∧ q 28 = q 26) ∨ (1 ≤ q 29 ∧ q 27 < q 28 ∧ q 28 ≤ q 26) by omega), (show q 30 = 0 → q 29 = 3 → sg q (q 28) < 97 ∨ 122 < sg q (q 28) by first | assumption | (intro z; exact absurd z (by omega)) | (intro _; assumption)), (show q 30 = 0 → q 29 = 3 → q 31 = 7237492 → q 27 + 3 ≤ q 28 by first | assumption | omega), (show q 27 ≤ q 27 by omega), (show q 30 = 0 → q 30 = 0 ∧ q 28 ≤ q 27 ∧ q 29 ≠ 0 by omega)⟩ dX11_known_8
  exact J0 s.heap [] ls hH va_S.rf hl
