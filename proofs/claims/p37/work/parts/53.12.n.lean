theorem dX11_foodHere_0 : decode cX11_foodHere 0 = .ok (.aload_n 0, 1) := by decide +kernel
theorem dX11_foodHere_1 : decode cX11_foodHere 1 = .ok (.aload_n 0, 1) := by decide +kernel
theorem dX11_foodHere_2 : decode cX11_foodHere 2 = .ok (.getfield 88, 3) := by decide +kernel
theorem dX11_foodHere_5 : decode cX11_foodHere 5 = .ok (.iconst 3, 1) := by decide +kernel
theorem dX11_foodHere_6 : decode cX11_foodHere 6 = .ok (.aload_n 0, 1) := by decide +kernel
theorem dX11_foodHere_7 : decode cX11_foodHere 7 = .ok (.getfield 264, 3) := by decide +kernel
theorem dX11_foodHere_10 : decode cX11_foodHere 10 = .ok (.imul, 1) := by decide +kernel
theorem dX11_foodHere_11 : decode cX11_foodHere 11 = .ok (.aload_n 0, 1) := by decide +kernel
theorem dX11_foodHere_12 : decode cX11_foodHere 12 = .ok (.getfield 20, 3) := by decide +kernel
theorem dX11_foodHere_15 : decode cX11_foodHere 15 = .ok (.aload_n 0, 1) := by decide +kernel
theorem dX11_foodHere_16 : decode cX11_foodHere 16 = .ok (.getfield 264, 3) := by decide +kernel
theorem dX11_foodHere_19 : decode cX11_foodHere 19 = .ok (.iaload, 1) := by decide +kernel
theorem dX11_foodHere_20 : decode cX11_foodHere 20 = .ok (.invokevirtual 304, 3) := by decide +kernel
theorem dX11_foodHere_23 : decode cX11_foodHere 23 = .ok (.ireturn, 1) := by decide +kernel
theorem dX11_fresh_0 : decode cX11_fresh 0 = .ok (.aload_n 0, 1) := by decide +kernel
theorem dX11_fresh_1 : decode cX11_fresh 1 = .ok (.invokevirtual 243, 3) := by decide +kernel
theorem dX11_fresh_4 : decode cX11_fresh 4 = .ok (.ifCond .ne 5, 3) := by decide +kernel
theorem dX11_fresh_7 : decode cX11_fresh 7 = .ok (.lconst 0, 1) := by decide +kernel
theorem dX11_fresh_8 : decode cX11_fresh 8 = .ok (.lreturn, 1) := by decide +kernel
theorem dX11_fresh_9 : decode cX11_fresh 9 = .ok (.aload_n 0, 1) := by decide +kernel
theorem dX11_fresh_10 : decode cX11_fresh 10 = .ok (.getfield 215, 3) := by decide +kernel
theorem dX11_fresh_13 : decode cX11_fresh 13 = .ok (.iconst 2, 1) := by decide +kernel
theorem dX11_fresh_14 : decode cX11_fresh 14 = .ok (.if_icmp .eq 10, 3) := by decide +kernel
theorem dX11_fresh_17 : decode cX11_fresh 17 = .ok (.aload_n 0, 1) := by decide +kernel
theorem dX11_fresh_18 : decode cX11_fresh 18 = .ok (.invokevirtual 250, 3) := by decide +kernel
theorem dX11_fresh_21 : decode cX11_fresh 21 = .ok (.goto 16, 3) := by decide +kernel
theorem dX11_fresh_24 : decode cX11_fresh 24 = .ok (.iload_n 1, 1) := by decide +kernel
theorem dX11_fresh_25 : decode cX11_fresh 25 = .ok (.ifCond .lt 12, 3) := by decide +kernel
theorem dX11_fresh_28 : decode cX11_fresh 28 = .ok (.aload_n 0, 1) := by decide +kernel
theorem dX11_fresh_29 : decode cX11_fresh 29 = .ok (.iconst 3, 1) := by decide +kernel
theorem dX11_fresh_30 : decode cX11_fresh 30 = .ok (.aload_n 0, 1) := by decide +kernel
theorem dX11_fresh_31 : decode cX11_fresh 31 = .ok (.getfield 208, 3) := by decide +kernel
theorem dX11_fresh_34 : decode cX11_fresh 34 = .ok (.invokevirtual 239, 3) := by decide +kernel
theorem dX11_fresh_37 : decode cX11_fresh 37 = .ok (.aload_n 0, 1) := by decide +kernel
theorem dX11_fresh_38 : decode cX11_fresh 38 = .ok (.getfield 222, 3) := by decide +kernel
theorem dX11_fresh_41 : decode cX11_fresh 41 = .ok (.lstore_n 2, 1) := by decide +kernel
theorem dX11_fresh_42 : decode cX11_fresh 42 = .ok (.aload_n 0, 1) := by decide +kernel
theorem dX11_fresh_43 : decode cX11_fresh 43 = .ok (.invokevirtual 243, 3) := by decide +kernel
theorem dX11_fresh_46 : decode cX11_fresh 46 = .ok (.ifCond .eq 7, 3) := by decide +kernel
theorem dX11_fresh_49 : decode cX11_fresh 49 = .ok (.aload_n 0, 1) := by decide +kernel
theorem dX11_fresh_50 : decode cX11_fresh 50 = .ok (.invokevirtual 247, 3) := by decide +kernel
theorem dX11_fresh_53 : decode cX11_fresh 53 = .ok (.lload_n 2, 1) := by decide +kernel
theorem dX11_fresh_54 : decode cX11_fresh 54 = .ok (.lreturn, 1) := by decide +kernel
set_option maxHeartbeats 20000000 in
set_option maxRecDepth 100000 in
theorem m_X11_here_v2 (l : Launch) (D : va_G) (cT : Nat → ClassId) (T : Nat → Option Nat) (q : Nat → Int) (hT : tokm T) (hq : qkm q) (a0 : Nat) (t0 : T a0 = some 0) (a1 : Nat) (t1 : T a1 = some 27) (y2 : Int32) (j2 : IV y2 0 8) (y3 : Int32) (j3 : IV y3 0 8) : th_Met l D cT T (km q) yX11_here cX11_here 5 (some .int) (rmk 0 0) [.ref a0, .ref a1, .int y2, .int y3] (th_R T (some (.inl (-1, 7)))) [] := by
  refine th_start (by decide) (Nat.le_of_ble_eq_true rfl) ?_
  intro p e s m below meth c ls S hK hH hr hlocks hnm hl
  have hx := S.1
  have hb := S.2.1
  have l1y2 := j2.1; have l2y2 := j2.2
  have l1y3 := j3.1; have l2y3 := j3.2
  have hl : lv_has ls 5 [(0, .ref a0), (1, .ref a1), (2, .int y2), (3, .int y3)] := hl
  have J3 := J3_X11_here_v2 l D cT T q hT hq a0 t0 a1 t1 y2 j2 y3 j3 p e s m below meth c S hK hr hlocks
  have J0 : ∀ (H : Heap) (locs : List Loc) (ls : Array Slot), th_H D cT T (km q) H → va_S (th_A T []) s.heap H locs → lv_has ls 5 [(0, .ref a0), (1, .ref a1), (2, .int y2), (3, .int y3)] → W p l e (rmk 0 0) s m [.ref a0, .ref a1, .int y2, .int y3].toArray below meth c H locs 0 0 (MQ below (th_Q D cT T (km q) (th_R T (some (.inl (-1, 7)))) []) [.ref a0, .ref a1, .int y2, .int y3].toArray s 0 0 (th_A T [])) (F0 m 0 ls []) := by
    intro H locs ls hH hS hl
    refine lv_iconst (v := 0) hx hb dX11_here_0 (by decide) ?_
    refine lv_istore (lv' := [(4, .int 0), (0, .ref a0), (1, .ref a1), (2, .int y2), (3, .int y3)]) hx hb dX11_here_1 hl (by decide) rfl (fun ls hl => ?_)
    exact J3 ((8 + 1 - Int32.toInt 0).toNat + 1) H locs ls 0 (iv_w (iv_c (by decide) : IV 0 0 0) (by decide)) hH hS (lv_sub hl [1, 2, 3, 4, 0] rfl) (Nat.lt_succ_self _)
  exact J0 s.heap [] ls hH va_S.rf hl

set_option maxHeartbeats 20000000 in
set_option maxRecDepth 100000 in
theorem m_X11_foodHere (l : Launch) (D : va_G) (cT : Nat → ClassId) (T : Nat → Option Nat) (q : Nat → Int) (hT : tokm T) (hq : qkm q) (a0 : Nat) (t0 : T a0 = some 0) : th_Met l D cT T (km q) yX11_foodHere cX11_foodHere 1 (some .int) (rmk 1 24) [.ref a0] (th_R T (some (.inl (-1, 2)))) [] := by
  refine th_start (by decide) (Nat.le_of_ble_eq_true rfl) ?_
  intro p e s m below meth c ls S hK hH hr hlocks hnm hl
  have hx := S.1
  have hb := S.2.1
  have hl : lv_has ls 1 [(0, .ref a0)] := hl
  have J0 : ∀ (H : Heap) (locs : List Loc) (ls : Array Slot), th_H D cT T (km q) H → va_S (th_A T []) s.heap H locs → lv_has ls 1 [(0, .ref a0)] → W p l e (rmk 1 24) s m [.ref a0].toArray below meth c H locs 0 0 (MQ below (th_Q D cT T (km q) (th_R T (some (.inl (-1, 2)))) []) [.ref a0].toArray s 0 0 (th_A T [])) (F0 m 0 ls []) := by
    intro H locs ls hH hS hl
    refine lv_aload_n hx hb dX11_foodHere_0 rfl (lv_at hl 0 rfl) ?_
    refine lv_aload_n hx hb dX11_foodHere_1 rfl (lv_at hl 0 rfl) ?_
    refine th_get S hK hH inG11 t0 km_0 rfl 33 (by decide) gm_1263 rfl rfl dX11_foodHere_2 (fun v1 hv1 fv1 => ?_)
    obtain ⟨rf2, rfl, trf2⟩ := th_V.ref hv1
    refine lv_iconst (v := 3) hx hb dX11_foodHere_5 (by decide) ?_
    refine lv_aload_n hx hb dX11_foodHere_6 rfl (lv_at hl 0 rfl) ?_
    refine th_get S hK hH inG11 t0 km_0 rfl 42 (by decide) gm_1272 rfl rfl dX11_foodHere_7 (fun v3 hv3 fv3 => ?_)
    obtain ⟨x4, rfl, ix4⟩ := th_V.int hv3
    have kx4 : x4.toInt = q 13 := Int.le_antisymm ix4.2 ix4.1
    have ix4 : IV x4 0 1 := iv_w ix4 (qkm_13 hq)
    refine lv_imul hx hb dX11_foodHere_10 ?_
    refine lv_topi (fun x5 ex5 => ?_)
    have ix5 : IV x5 0 3 := by rw [ex5]; exact iv_mul (iv_c (by decide) : IV 3 3 3) ix4 (by decide) (by decide)
    have ux5 : x5.toInt = (3 : Int) * x4.toInt := by rw [ex5]; exact iv_mulE (iv_corner ((iv_c (by decide) : IV 3 3 3)).1 ((iv_c (by decide) : IV 3 3 3)).2 (ix4).1 (ix4).2 (by decide))
    refine lv_aload_n hx hb dX11_foodHere_11 rfl (lv_at hl 0 rfl) ?_
    refine th_get S hK hH inG11 t0 km_0 rfl 11 (by decide) gm_1241 rfl rfl dX11_foodHere_12 (fun v6 hv6 fv6 => ?_)
    obtain ⟨rf7, rfl, trf7⟩ := th_V.ref hv6
    refine lv_aload_n hx hb dX11_foodHere_15 rfl (lv_at hl 0 rfl) ?_
    refine th_get S hK hH inG11 t0 km_0 rfl 42 (by decide) gm_1272 rfl rfl dX11_foodHere_16 (fun v8 hv8 fv8 => ?_)
    obtain ⟨x9, rfl, ix9⟩ := th_V.int hv8
    have kx9 : x9.toInt = q 13 := Int.le_antisymm ix9.2 ix9.1
    have ix9 : IV x9 0 1 := iv_w ix9 (qkm_13 hq)
    refine th_iald S hK hH trf7 km_3 (th_in (hi := 1) ix9 (by decide)) dX11_foodHere_19 (fun v10 hv10 => ?_)
    obtain ⟨x11, rfl, ix11⟩ := th_bkU (lo := 0) (hi := 3) hv10 (qkm_16 hq) (qkm_17 hq)
    refine th_callVi (n := 3) (As := [.ref rf2, .int x5, .int x11]) S hK hH hS (th_A.sub (by decide)) (m_X11_here_v0 l D cT T q hT hq a0 t0 rf2 trf2 (x5) ix5 (x11) ix11) gm_1519 gm_1516 gm_1518 gm_57 gm_124 (by decide +kernel) ⟨rfl, rfl, Nat.le_of_ble_eq_true rfl, Nat.le_of_ble_eq_true rfl⟩ t0 km_0 rfl rfl hl.1 rfl (Nat.le_of_ble_eq_true rfl) dX11_foodHere_20 ⟨Nat.zero_le _, Nat.zero_le _⟩ (fun x12 H locs ix12 hH hS hF1 => ?_)
    exact th_iret S hK hH hS hr hlocks (th_R.i ix12) dX11_foodHere_23
  exact J0 s.heap [] ls hH va_S.rf hl

set_option maxHeartbeats 20000000 in
set_option maxRecDepth 100000 in
theorem J53_X11_fresh (l : Launch) (D : va_G) (cT : Nat → ClassId) (T : Nat → Option Nat) (q : Nat → Int) (hT : tokm T) (hq : qkm q) (a0 : Nat) (t0 : T a0 = some 0) (y1 : Int32) (j1 : IV y1 (-2147483648) 2147483647) (hp0 : TS q) (p : Program) (e : Env) (s : State) (m : MethodId) (below : List Frame) (meth : Method) (c : Code) (S : CallFix p m c cX11_fresh 4 s [.ref a0, .int y1].toArray gw yX11_fresh.cls) (hK : va_K D classes (th_tys cT) s) (hr : meth.sig.returnType = (some .long)) (hlocks : meth.locks = false) : ∀ (q53 : Nat → Int) (H : Heap) (locs : List Loc) (ls : Array Slot) (v53_2 : Int64), qkm q53 → fr [27, 28, 29, 30, 31] q q53 → (TS q53) → (q 27 ≤ q53 27) → (GD q q53) → th_H D cT T (km q53) H → va_S (th_A T [0]) s.heap H locs → lv_has ls 4 [(2, .long v53_2)] → W p l e (rmk 2 44) s m [.ref a0, .int y1].toArray below meth c H locs 0 0 (MQ below (th_QM D cT T (fun v q2 => (∃ r : Int64, v = some (.long r)) ∧ qkm q2 ∧ fr [27, 28, 29, 30, 31] q q2 ∧ (TS q2) ∧ (q 27 ≤ q2 27) ∧ (GD q q2)) [0]) [.ref a0, .int y1].toArray s 0 0 (th_A T [0])) (F0 m 53 ls []) := by
    have hx := S.1
    have hb := S.2.1
    have le0 := TS_le hp0
    intro q53 H locs ls v53_2 hq53 h053 v53_inv0 v53_inv1 v53_inv2 hH hS hl
    have w53_26 : q53 26 = q 26 := h053 26 (by decide) (Or.inl (by decide))
    refine lv_lload_n hx hb dX11_fresh_53 rfl (lv_at hl 0 rfl) ?_
    exact th_lretM S hK hH hS hr hlocks ⟨⟨_, rfl⟩, hq53, h053, (show TS q53 by exact v53_inv0), (show q 27 ≤ q53 27 by omega), (show GD q q53 by exact v53_inv2)⟩ dX11_fresh_54


set_option maxHeartbeats 20000000 in
set_option maxRecDepth 100000 in
theorem J37_X11_fresh (l : Launch) (D : va_G) (cT : Nat → ClassId) (T : Nat → Option Nat) (q : Nat → Int) (hT : tokm T) (hq : qkm q) (a0 : Nat) (t0 : T a0 = some 0) (y1 : Int32) (j1 : IV y1 (-2147483648) 2147483647) (hp0 : TS q) (p : Program) (e : Env) (s : State) (m : MethodId) (below : List Frame) (meth : Method) (c : Code) (S : CallFix p m c cX11_fresh 4 s [.ref a0, .int y1].toArray gw yX11_fresh.cls) (hK : va_K D classes (th_tys cT) s) (hr : meth.sig.returnType = (some .long)) (hlocks : meth.locks = false) : ∀ (q37 : Nat → Int) (H : Heap) (locs : List Loc) (ls : Array Slot), qkm q37 → fr [27, 28, 29, 30, 31] q q37 → (TS q37) → (q 27 ≤ q37 27) → (GD q q37) → th_H D cT T (km q37) H → va_S (th_A T [0]) s.heap H locs → lv_has ls 4 [(0, .ref a0)] → W p l e (rmk 2 44) s m [.ref a0, .int y1].toArray below meth c H locs 0 0 (MQ below (th_QM D cT T (fun v q2 => (∃ r : Int64, v = some (.long r)) ∧ qkm q2 ∧ fr [27, 28, 29, 30, 31] q q2 ∧ (TS q2) ∧ (q 27 ≤ q2 27) ∧ (GD q q2)) [0]) [.ref a0, .int y1].toArray s 0 0 (th_A T [0])) (F0 m 37 ls []) := by
    have hx := S.1
    have hb := S.2.1
    have le0 := TS_le hp0
    have J53 := J53_X11_fresh l D cT T q hT hq a0 t0 y1 j1 hp0 p e s m below meth c S hK hr hlocks
    intro q37 H locs ls hq37 h037 v37_inv0 v37_inv1 v37_inv2 hH hS hl
    have w37_26 : q37 26 = q 26 := h037 26 (by decide) (Or.inl (by decide))
    refine lv_aload_n hx hb dX11_fresh_37 rfl (lv_at hl 0 rfl) ?_
    refine th_getM S hK hH inG11 t0 km_0 rfl 10 (by decide) gm_1240 rfl rfl dX11_fresh_38 (fun v1 hv1 wv1 => ?_)
    obtain ⟨lg2, rfl⟩ := th_V.long hv1
    have klg2 : lg2.toInt = q37 31 := by obtain ⟨vs, z1, z2⟩ := wv1; exact z2 _ z1
    refine lv_lstore_n (lv' := [(2, .long lg2), (0, .ref a0)]) hx hb dX11_fresh_41 rfl hl (by decide) rfl (fun ls hl => ?_)
    refine lv_aload_n hx hb dX11_fresh_42 rfl (lv_at hl 1 rfl) ?_
    refine th_callVp (n := 0) (As := []) S hK hH hS (th_A.sub (by decide)) (m_X11_isGood l D cT T q37 hT hq37 a0 t0) gm_1487 gm_1484 gm_1486 gm_49 gm_124 (by decide +kernel) ⟨rfl, rfl, Nat.le_of_ble_eq_true rfl, Nat.le_of_ble_eq_true rfl⟩ t0 km_0 rfl rfl hl.1 rfl (Nat.le_of_ble_eq_true rfl) dX11_fresh_43 ⟨Nat.zero_le _, Nat.zero_le _⟩ (fun x3 H locs ix3 ox3 hH hS hF1 => ?_)
    obtain ⟨ox3_0, ox3_1⟩ := ox3
    have ox3_0 : x3.toInt ≠ 0 → q37 30 = 0 := ox3_0
    have ox3_1 : x3.toInt = 0 → 1 ≤ q37 30 := ox3_1
    have l1x3 := ix3.1; have l2x3 := ix3.2
    refine lv_if_eq (tgt := 53) hx hb dX11_fresh_46 (by decide) (fun c4 => ?_) (fun c4 => ?_)
    · skip
      have rlc4 : x3.toInt = (0 : Int) := congrArg Int32.toInt c4
      clear ox3_0
      have ox3_1r := ox3_1 rlc4
      clear ox3_1
      have ir5 : IV x3 0 0 := iv_eL c4 (iv_c (by decide) : IV 0 0 0)
      have ir5a := ir5.1; have ir5b := ir5.2
      exact J53 q37 H locs ls lg2 hq37 h037 (show TS q37 by exact v37_inv0) (show q 27 ≤ q37 27 by omega) (show GD q q37 by exact v37_inv2) hH hS (lv_sub hl [0] rfl)
    · skip
      have rlc4 : x3.toInt ≠ (0 : Int) := iv_ne c4
      have ox3_0r := ox3_0 rlc4
      clear ox3_0
      clear ox3_1
      have ir6 : IV x3 1 1 := iv_cutL ix3 (iv_c (by decide) : IV 0 0 0) c4 (by decide)
      have ir6a := ir6.1; have ir6b := ir6.2
      clear rlc4
      refine lv_aload_n hx hb dX11_fresh_49 rfl (lv_at hl 1 rfl) ?_
      have le6 := TS_le v37_inv0
      refine th_callVM (n := 0) (As := []) S hK hH hS (th_A.sub (by decide)) (m_X11_goOn l D cT T q37 hT hq37 a0 t0 (show q37 28 ≤ q37 26 by exact (TS_le v37_inv0).2)) gm_1445 gm_1442 gm_1444 gm_47 gm_124 (by decide +kernel) ⟨rfl, rfl, Nat.le_of_ble_eq_true rfl, Nat.le_of_ble_eq_true rfl⟩ t0 km_0 rfl rfl hl.1 rfl (Nat.le_of_ble_eq_true rfl) dX11_fresh_50 ⟨Nat.zero_le _, Nat.zero_le _⟩ (fun wq7 q7 H locs hEq7 hH hS hF1 => ?_)
      obtain ⟨rfl, hqq7, g0q7, pq7_0, pq7_1, pq7_2⟩ := hEq7
      show W p l e (rmk 2 44) s m [.ref a0, .int y1].toArray below meth c H locs 0 0 (MQ below (th_QM D cT T (fun v q2 => (∃ r : Int64, v = some (.long r)) ∧ qkm q2 ∧ fr [27, 28, 29, 30, 31] q q2 ∧ (TS q2) ∧ (q 27 ≤ q2 27) ∧ (GD q q2)) [0]) [.ref a0, .int y1].toArray s 0 0 (th_A T [0])) (F0 m 53 ls [])
      have pq7_0 : TS q7 := pq7_0
      have pq7_1 : q37 28 ≤ q7 27 := pq7_1
      have pq7_2 : LX q37 q7 := pq7_2
      have wq7_26 : q7 26 = q37 26 := g0q7 26 (by decide) (Or.inl (by decide))
      have wq7_30 : q7 30 = q37 30 := g0q7 30 (by decide) (Or.inl (by decide))
      have h0q7 : fr [27, 28, 29, 30, 31] q q7 := fr_tr h037 g0q7 (by decide)
      have bgq7 : bg q37 q7 := bg_fr bg_rf g0q7 (by decide)
      have gdq7 : GD q q7 := GD_tr v37_inv2 (GD_eq wq7_30)
      have gbq7 : GD q37 q7 := GD_tr (GD_eq rfl) (GD_eq wq7_30)
      exact J53 q7 H locs ls lg2 hqq7 h0q7 (show TS q7 by exact pq7_0) (show q 27 ≤ q7 27 by omega) (show GD q q7 by exact gdq7) hH hS (lv_sub hl [0] rfl)

set_option maxHeartbeats 20000000 in
set_option maxRecDepth 100000 in
theorem m_X11_fresh (l : Launch) (D : va_G) (cT : Nat → ClassId) (T : Nat → Option Nat) (q : Nat → Int) (hT : tokm T) (hq : qkm q) (a0 : Nat) (t0 : T a0 = some 0) (y1 : Int32) (j1 : IV y1 (-2147483648) 2147483647) (hp0 : TS q) : th_MetM l D cT T q yX11_fresh cX11_fresh 4 (some .long) (rmk 2 44) [.ref a0, .int y1] (fun v q2 => (∃ r : Int64, v = some (.long r)) ∧ qkm q2 ∧ fr [27, 28, 29, 30, 31] q q2 ∧ (TS q2) ∧ (q 27 ≤ q2 27) ∧ (GD q q2)) [0] := by
  refine th_startM (by decide) (Nat.le_of_ble_eq_true rfl) ?_
  intro p e s m below meth c ls S hK hH hr hlocks hnm hl
  have hx := S.1
  have hb := S.2.1
  have le0 := TS_le hp0
  have hl : lv_has ls 4 [(0, .ref a0), (1, .int y1)] := hl
  have J53 := J53_X11_fresh l D cT T q hT hq a0 t0 y1 j1 hp0 p e s m below meth c S hK hr hlocks
  have J37 := J37_X11_fresh l D cT T q hT hq a0 t0 y1 j1 hp0 p e s m below meth c S hK hr hlocks
  have J0 : ∀ (H : Heap) (locs : List Loc) (ls : Array Slot), th_H D cT T (km q) H → va_S (th_A T [0]) s.heap H locs → lv_has ls 4 [(0, .ref a0), (1, .int y1)] → W p l e (rmk 2 44) s m [.ref a0, .int y1].toArray below meth c H locs 0 0 (MQ below (th_QM D cT T (fun v q2 => (∃ r : Int64, v = some (.long r)) ∧ qkm q2 ∧ fr [27, 28, 29, 30, 31] q q2 ∧ (TS q2) ∧ (q 27 ≤ q2 27) ∧ (GD q q2)) [0]) [.ref a0, .int y1].toArray s 0 0 (th_A T [0])) (F0 m 0 ls []) := by
    intro H locs ls hH hS hl
    refine lv_aload_n hx hb dX11_fresh_0 rfl (lv_at hl 0 rfl) ?_
    refine th_callVp (n := 0) (As := []) S hK hH hS (th_A.sub (by decide)) (m_X11_isGood l D cT T q hT hq a0 t0) gm_1487 gm_1484 gm_1486 gm_49 gm_124 (by decide +kernel) ⟨rfl, rfl, Nat.le_of_ble_eq_true rfl, Nat.le_of_ble_eq_true rfl⟩ t0 km_0 rfl rfl hl.1 rfl (Nat.le_of_ble_eq_true rfl) dX11_fresh_1 ⟨Nat.zero_le _, Nat.zero_le _⟩ (fun x8 H locs ix8 ox8 hH hS hF1 => ?_)
    obtain ⟨ox8_0, ox8_1⟩ := ox8
    have ox8_0 : x8.toInt ≠ 0 → q 30 = 0 := ox8_0
    have ox8_1 : x8.toInt = 0 → 1 ≤ q 30 := ox8_1
    have l1x8 := ix8.1; have l2x8 := ix8.2
    refine lv_if_ne (tgt := 9) hx hb dX11_fresh_4 (by decide) (fun c9 => ?_) (fun c9 => ?_)
    · skip
      have rlc9 : x8.toInt ≠ (0 : Int) := iv_ne c9
      have ox8_0r := ox8_0 rlc9
      clear ox8_0
      clear ox8_1
      have ir10 : IV x8 1 1 := iv_cutL ix8 (iv_c (by decide) : IV 0 0 0) c9 (by decide)
      have ir10a := ir10.1; have ir10b := ir10.2
      clear rlc9
      refine lv_aload_n hx hb dX11_fresh_9 rfl (lv_at hl 0 rfl) ?_
      refine th_get S hK hH inG11 t0 km_0 rfl 8 (by decide) gm_1238 rfl rfl dX11_fresh_10 (fun v11 hv11 fv11 => ?_)
      obtain ⟨x12, rfl, ix12⟩ := th_V.int hv11
      have kx12 : x12.toInt = q 29 := Int.le_antisymm ix12.2 ix12.1
      have bx12 := qkm_29 hq
      have ix12 : IV x12 0 5 := iv_w ix12 (qkm_29 hq)
      refine lv_iconst (v := 2) hx hb dX11_fresh_13 (by decide) ?_
      refine lv_icmp_eq (tgt := 24) hx hb dX11_fresh_14 (by decide) (fun c13 => ?_) (fun c13 => ?_)
      · skip
        have rlc13 : x12.toInt = (2 : Int) := congrArg Int32.toInt c13
        have ir14 : IV x12 2 2 := iv_eL c13 (iv_c (by decide) : IV 2 2 2)
        have ir14a := ir14.1; have ir14b := ir14.2
        refine lv_iload_n hx hb dX11_fresh_24 rfl (lv_at hl 1 rfl) ?_
        refine lv_if_lt (tgt := 37) hx hb dX11_fresh_25 (by decide) (fun c15 => ?_) (fun c15 => ?_)
        · skip
          have rlc15 : y1.toInt < (0 : Int) := iv_lt c15
          have ir16 : IV y1 (-2147483648) (-1) := iv_uL j1 (iv_c (by decide) : IV 0 0 0) (iv_lt c15) (by decide)
          have ir16a := ir16.1; have ir16b := ir16.2
          exact J37 q H locs ls hq fr_rf (show TS q by exact hp0) (show q 27 ≤ q 27 by omega) (show GD q q by exact (GD_eq rfl)) hH hS (lv_sub hl [0] rfl)
        · skip
          have rlc15 : (0 : Int) ≤ y1.toInt := iv_nlt c15
          have ir17 : IV y1 0 2147483647 := iv_vR (iv_c (by decide) : IV 0 0 0) j1 (iv_nlt c15) (by decide)
          have ir17a := ir17.1; have ir17b := ir17.2
          refine lv_aload_n hx hb dX11_fresh_28 rfl (lv_at hl 0 rfl) ?_
          refine lv_iconst (v := 3) hx hb dX11_fresh_29 (by decide) ?_
          refine lv_aload_n hx hb dX11_fresh_30 rfl (lv_at hl 0 rfl) ?_
          refine th_get S hK hH inG11 t0 km_0 rfl 6 (by decide) gm_1236 rfl rfl dX11_fresh_31 (fun v18 hv18 fv18 => ?_)
          obtain ⟨x19, rfl, ix19⟩ := th_V.int hv18
          have kx19 : x19.toInt = q 27 := Int.le_antisymm ix19.2 ix19.1
          have bx19 := qkm_27 hq
          have ix19 : IV x19 0 1600 := iv_w ix19 (qkm_27 hq)
          refine th_callVM (n := 2) (As := [.int 3, .int x19]) S hK hH hS (th_A.sub (by decide)) (m_X11_fails l D cT T q hT hq a0 t0 (3) (iv_w (iv_c (by decide) : IV 3 3 3) (by decide)) (x19) (iv_top _)) gm_1507 gm_1504 gm_1506 gm_54 gm_124 (by decide +kernel) ⟨rfl, rfl, Nat.le_of_ble_eq_true rfl, Nat.le_of_ble_eq_true rfl⟩ t0 km_0 rfl rfl hl.1 rfl (Nat.le_of_ble_eq_true rfl) dX11_fresh_34 ⟨Nat.zero_le _, Nat.zero_le _⟩ (fun wq20 q20 H locs hEq20 hH hS hF1 => ?_)
          obtain ⟨rfl, hqq20, g0q20, pq20_0⟩ := hEq20
          show W p l e (rmk 2 44) s m [.ref a0, .int y1].toArray below meth c H locs 0 0 (MQ below (th_QM D cT T (fun v q2 => (∃ r : Int64, v = some (.long r)) ∧ qkm q2 ∧ fr [27, 28, 29, 30, 31] q q2 ∧ (TS q2) ∧ (q 27 ≤ q2 27) ∧ (GD q q2)) [0]) [.ref a0, .int y1].toArray s 0 0 (th_A T [0])) (F0 m 37 ls [])
          have pq20_0 : 1 ≤ q20 30 := pq20_0
          have wq20_26 : q20 26 = q 26 := g0q20 26 (by decide) (Or.inl (by decide))
          have wq20_27 : q20 27 = q 27 := g0q20 27 (by decide) (Or.inl (by decide))
          have wq20_28 : q20 28 = q 28 := g0q20 28 (by decide) (Or.inl (by decide))
          have wq20_29 : q20 29 = q 29 := g0q20 29 (by decide) (Or.inl (by decide))
          have wq20_31 : q20 31 = q 31 := g0q20 31 (by decide) (Or.inl (by decide))
          have h0q20 : fr [27, 28, 29, 30, 31] q q20 := fr_tr fr_rf g0q20 (by decide)
          have bgq20 : bg q q20 := bg_fr bg_rf g0q20 (by decide)
          have gdq20 : GD q q20 := GD_tr (GD_eq rfl) (GD_no pq20_0)
          have gbq20 : GD q q20 := GD_tr (GD_eq rfl) (GD_no pq20_0)
          have txq20 : tx q q20 := tx_tr tx_rf (tx_bg (bg_fr bg_rf g0q20 (by decide)))
          exact J37 q20 H locs ls hqq20 h0q20 (show TS q20 by exact (TS_mv hp0 txq20 (by omega) (by omega) (by omega) (by omega) (by omega) (fun z => by omega))) (show q 27 ≤ q20 27 by omega) (show GD q q20 by exact gdq20) hH hS (lv_sub hl [0] rfl)
      · skip
        have rlc13 : x12.toInt ≠ (2 : Int) := iv_ne c13
        clear rlc13
        refine lv_aload_n hx hb dX11_fresh_17 rfl (lv_at hl 0 rfl) ?_
        refine th_callVM (n := 0) (As := []) S hK hH hS (th_A.sub (by decide)) (m_X11_misplaced l D cT T q hT hq a0 t0) gm_1503 gm_1500 gm_1502 gm_53 gm_124 (by decide +kernel) ⟨rfl, rfl, Nat.le_of_ble_eq_true rfl, Nat.le_of_ble_eq_true rfl⟩ t0 km_0 rfl rfl hl.1 rfl (Nat.le_of_ble_eq_true rfl) dX11_fresh_18 ⟨Nat.zero_le _, Nat.zero_le _⟩ (fun wq21 q21 H locs hEq21 hH hS hF1 => ?_)
        obtain ⟨rfl, hqq21, g0q21, pq21_0⟩ := hEq21
        show W p l e (rmk 2 44) s m [.ref a0, .int y1].toArray below meth c H locs 0 0 (MQ below (th_QM D cT T (fun v q2 => (∃ r : Int64, v = some (.long r)) ∧ qkm q2 ∧ fr [27, 28, 29, 30, 31] q q2 ∧ (TS q2) ∧ (q 27 ≤ q2 27) ∧ (GD q q2)) [0]) [.ref a0, .int y1].toArray s 0 0 (th_A T [0])) (F0 m 21 ls [])
        have pq21_0 : 1 ≤ q21 30 := pq21_0
        have wq21_26 : q21 26 = q 26 := g0q21 26 (by decide) (Or.inl (by decide))
        have wq21_27 : q21 27 = q 27 := g0q21 27 (by decide) (Or.inl (by decide))
        have wq21_28 : q21 28 = q 28 := g0q21 28 (by decide) (Or.inl (by decide))
        have wq21_29 : q21 29 = q 29 := g0q21 29 (by decide) (Or.inl (by decide))
        have wq21_31 : q21 31 = q 31 := g0q21 31 (by decide) (Or.inl (by decide))
        have h0q21 : fr [27, 28, 29, 30, 31] q q21 := fr_tr fr_rf g0q21 (by decide)
        have bgq21 : bg q q21 := bg_fr bg_rf g0q21 (by decide)
        have gdq21 : GD q q21 := GD_tr (GD_eq rfl) (GD_no pq21_0)
        have gbq21 : GD q q21 := GD_tr (GD_eq rfl) (GD_no pq21_0)
        have txq21 : tx q q21 := tx_tr tx_rf (tx_bg (bg_fr bg_rf g0q21 (by decide)))
        refine lv_goto (tgt := 37) hx hb dX11_fresh_21 (by decide) ?_
        exact J37 q21 H locs ls hqq21 h0q21 (show TS q21 by exact (TS_mv hp0 txq21 (by omega) (by omega) (by omega) (by omega) (by omega) (fun z => by omega))) (show q 27 ≤ q21 27 by omega) (show GD q q21 by exact gdq21) hH hS (lv_sub hl [0] rfl)
    · skip
      have rlc9 : x8.toInt = (0 : Int) := congrArg Int32.toInt c9
      clear ox8_0
      have ox8_1r := ox8_1 rlc9
      clear ox8_1
      have ir22 : IV x8 0 0 := iv_eL c9 (iv_c (by decide) : IV 0 0 0)
      have ir22a := ir22.1; have ir22b := ir22.2
      refine lv_lconst (v := 0) hx hb dX11_fresh_7 (by decide) ?_
      exact th_lretM S hK hH hS hr hlocks ⟨⟨_, rfl⟩, hq, fr_rf, (show TS q by exact hp0), (show q 27 ≤ q 27 by omega), (show GD q q by exact (GD_eq rfl))⟩ dX11_fresh_8
  exact J0 s.heap [] ls hH va_S.rf hl
