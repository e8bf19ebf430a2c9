theorem dX11_numeral_0 : decode cX11_numeral 0 = .ok (.aload_n 0, 1) := by decide +kernel
theorem dX11_numeral_1 : decode cX11_numeral 1 = .ok (.invokevirtual 243, 3) := by decide +kernel
theorem dX11_numeral_4 : decode cX11_numeral 4 = .ok (.ifCond .ne 5, 3) := by decide +kernel
theorem dX11_numeral_7 : decode cX11_numeral 7 = .ok (.iload_n 1, 1) := by decide +kernel
theorem dX11_numeral_8 : decode cX11_numeral 8 = .ok (.ireturn, 1) := by decide +kernel
theorem dX11_numeral_9 : decode cX11_numeral 9 = .ok (.aload_n 0, 1) := by decide +kernel
theorem dX11_numeral_10 : decode cX11_numeral 10 = .ok (.getfield 215, 3) := by decide +kernel
theorem dX11_numeral_13 : decode cX11_numeral 13 = .ok (.iconst 4, 1) := by decide +kernel
theorem dX11_numeral_14 : decode cX11_numeral 14 = .ok (.if_icmp .eq 7, 3) := by decide +kernel
theorem dX11_numeral_17 : decode cX11_numeral 17 = .ok (.aload_n 0, 1) := by decide +kernel
theorem dX11_numeral_18 : decode cX11_numeral 18 = .ok (.invokevirtual 250, 3) := by decide +kernel
theorem dX11_numeral_21 : decode cX11_numeral 21 = .ok (.aload_n 0, 1) := by decide +kernel
theorem dX11_numeral_22 : decode cX11_numeral 22 = .ok (.invokevirtual 243, 3) := by decide +kernel
theorem dX11_numeral_25 : decode cX11_numeral 25 = .ok (.ifCond .eq 28, 3) := by decide +kernel
theorem dX11_numeral_28 : decode cX11_numeral 28 = .ok (.aload_n 0, 1) := by decide +kernel
theorem dX11_numeral_29 : decode cX11_numeral 29 = .ok (.getfield 233, 3) := by decide +kernel
theorem dX11_numeral_32 : decode cX11_numeral 32 = .ok (.iload_n 1, 1) := by decide +kernel
theorem dX11_numeral_33 : decode cX11_numeral 33 = .ok (.if_icmp .lt 11, 3) := by decide +kernel
theorem dX11_numeral_36 : decode cX11_numeral 36 = .ok (.aload_n 0, 1) := by decide +kernel
theorem dX11_numeral_37 : decode cX11_numeral 37 = .ok (.getfield 233, 3) := by decide +kernel
theorem dX11_numeral_40 : decode cX11_numeral 40 = .ok (.iload_n 2, 1) := by decide +kernel
theorem dX11_numeral_41 : decode cX11_numeral 41 = .ok (.if_icmp .le 12, 3) := by decide +kernel
theorem dX11_numeral_44 : decode cX11_numeral 44 = .ok (.aload_n 0, 1) := by decide +kernel
theorem dX11_numeral_45 : decode cX11_numeral 45 = .ok (.iconst 4, 1) := by decide +kernel
theorem dX11_numeral_46 : decode cX11_numeral 46 = .ok (.aload_n 0, 1) := by decide +kernel
theorem dX11_numeral_47 : decode cX11_numeral 47 = .ok (.getfield 208, 3) := by decide +kernel
theorem dX11_numeral_50 : decode cX11_numeral 50 = .ok (.invokevirtual 239, 3) := by decide +kernel
theorem dX11_numeral_53 : decode cX11_numeral 53 = .ok (.aload_n 0, 1) := by decide +kernel
theorem dX11_numeral_54 : decode cX11_numeral 54 = .ok (.getfield 233, 3) := by decide +kernel
theorem dX11_numeral_57 : decode cX11_numeral 57 = .ok (.istore_n 3, 1) := by decide +kernel
theorem dX11_numeral_58 : decode cX11_numeral 58 = .ok (.aload_n 0, 1) := by decide +kernel
theorem dX11_numeral_59 : decode cX11_numeral 59 = .ok (.invokevirtual 243, 3) := by decide +kernel
theorem dX11_numeral_62 : decode cX11_numeral 62 = .ok (.ifCond .eq 7, 3) := by decide +kernel
theorem dX11_numeral_65 : decode cX11_numeral 65 = .ok (.aload_n 0, 1) := by decide +kernel
theorem dX11_numeral_66 : decode cX11_numeral 66 = .ok (.invokevirtual 247, 3) := by decide +kernel
theorem dX11_numeral_69 : decode cX11_numeral 69 = .ok (.aload_n 0, 1) := by decide +kernel
theorem dX11_numeral_70 : decode cX11_numeral 70 = .ok (.invokevirtual 243, 3) := by decide +kernel
theorem dX11_numeral_73 : decode cX11_numeral 73 = .ok (.ifCond .eq 7, 3) := by decide +kernel
theorem dX11_numeral_76 : decode cX11_numeral 76 = .ok (.iload_n 3, 1) := by decide +kernel
theorem dX11_numeral_77 : decode cX11_numeral 77 = .ok (.goto 4, 3) := by decide +kernel
theorem dX11_numeral_80 : decode cX11_numeral 80 = .ok (.iload_n 1, 1) := by decide +kernel
theorem dX11_numeral_81 : decode cX11_numeral 81 = .ok (.ireturn, 1) := by decide +kernel
set_option maxHeartbeats 20000000 in
set_option maxRecDepth 100000 in
theorem J81_X11_numeral (l : Launch) (D : va_G) (cT : Nat → ClassId) (T : Nat → Option Nat) (q : Nat → Int) (hT : tokm T) (hq : qkm q) (a0 : Nat) (t0 : T a0 = some 0) (y1 : Int32) (j1 : IV y1 (-2147483648) 2147483647) (y2 : Int32) (j2 : IV y2 (-2147483648) 2147483647) (hp0 : TS q) (p : Program) (e : Env) (s : State) (m : MethodId) (below : List Frame) (meth : Method) (c : Code) (S : CallFix p m c cX11_numeral 4 s [.ref a0, .int y1, .int y2].toArray gw yX11_numeral.cls) (hK : va_K D classes (th_tys cT) s) (hr : meth.sig.returnType = (some .int)) (hlocks : meth.locks = false) : ∀ (q81 : Nat → Int) (H : Heap) (locs : List Loc) (ls : Array Slot) (w81_0 : Int32), qkm q81 → fr [27, 28, 29, 30, 31] q q81 → IV w81_0 (-2147483648) 2147483647 → (TS q81) → (q 27 ≤ q81 27) → (GD q q81) → (TS q81) → (q 27 ≤ q81 27) → (GD q q81) → th_H D cT T (km q81) H → va_S (th_A T [0]) s.heap H locs → lv_has ls 4 [] → W p l e (rmk 2 44) s m [.ref a0, .int y1, .int y2].toArray below meth c H locs 0 0 (MQ below (th_QM D cT T (fun v q2 => ∃ r : Int32, v = some (.int r) ∧ IV r (-2147483648) 2147483647 ∧ qkm q2 ∧ fr [27, 28, 29, 30, 31] q q2 ∧ (TS q2) ∧ (q 27 ≤ q2 27) ∧ (GD q q2)) [0]) [.ref a0, .int y1, .int y2].toArray s 0 0 (th_A T [0])) (F0 m 81 ls [.int w81_0]) := by
    have hx := S.1
    have hb := S.2.1
    have le0 := TS_le hp0
    intro q81 H locs ls w81_0 hq81 h081 iw81_0 v81_inv0 v81_inv1 v81_inv2 v81_inv3 v81_inv4 v81_inv5 hH hS hl
    have w81_26 : q81 26 = q 26 := h081 26 (by decide) (Or.inl (by decide))
    exact th_iretM S hK hH hS hr hlocks ⟨_, rfl, iw81_0, hq81, h081, (show TS q81 by exact v81_inv3), (show q 27 ≤ q81 27 by omega), (show GD q q81 by exact v81_inv5)⟩ dX11_numeral_81


set_option maxHeartbeats 20000000 in
set_option maxRecDepth 100000 in
theorem J69_X11_numeral (l : Launch) (D : va_G) (cT : Nat → ClassId) (T : Nat → Option Nat) (q : Nat → Int) (hT : tokm T) (hq : qkm q) (a0 : Nat) (t0 : T a0 = some 0) (y1 : Int32) (j1 : IV y1 (-2147483648) 2147483647) (y2 : Int32) (j2 : IV y2 (-2147483648) 2147483647) (hp0 : TS q) (p : Program) (e : Env) (s : State) (m : MethodId) (below : List Frame) (meth : Method) (c : Code) (S : CallFix p m c cX11_numeral 4 s [.ref a0, .int y1, .int y2].toArray gw yX11_numeral.cls) (hK : va_K D classes (th_tys cT) s) (hr : meth.sig.returnType = (some .int)) (hlocks : meth.locks = false) : ∀ (q69 : Nat → Int) (H : Heap) (locs : List Loc) (ls : Array Slot) (v69_3 : Int32), qkm q69 → fr [27, 28, 29, 30, 31] q q69 → IV v69_3 (-2147483648) 2147483647 → (TS q69) → (q 27 ≤ q69 27) → (GD q q69) → th_H D cT T (km q69) H → va_S (th_A T [0]) s.heap H locs → lv_has ls 4 [(0, .ref a0), (1, .int y1), (3, .int v69_3)] → W p l e (rmk 2 44) s m [.ref a0, .int y1, .int y2].toArray below meth c H locs 0 0 (MQ below (th_QM D cT T (fun v q2 => ∃ r : Int32, v = some (.int r) ∧ IV r (-2147483648) 2147483647 ∧ qkm q2 ∧ fr [27, 28, 29, 30, 31] q q2 ∧ (TS q2) ∧ (q 27 ≤ q2 27) ∧ (GD q q2)) [0]) [.ref a0, .int y1, .int y2].toArray s 0 0 (th_A T [0])) (F0 m 69 ls []) := by
    have hx := S.1
    have hb := S.2.1
    have le0 := TS_le hp0
    have J81 := J81_X11_numeral l D cT T q hT hq a0 t0 y1 j1 y2 j2 hp0 p e s m below meth c S hK hr hlocks
    intro q69 H locs ls v69_3 hq69 h069 iv69_3 v69_inv0 v69_inv1 v69_inv2 hH hS hl
    have w69_26 : q69 26 = q 26 := h069 26 (by decide) (Or.inl (by decide))
    refine lv_aload_n hx hb dX11_numeral_69 rfl (lv_at hl 0 rfl) ?_
    refine th_callVp (n := 0) (As := []) S hK hH hS (th_A.sub (by decide)) (m_X11_isGood l D cT T q69 hT hq69 a0 t0) gm_1487 gm_1484 gm_1486 gm_49 gm_124 (by decide +kernel) ⟨rfl, rfl, Nat.le_of_ble_eq_true rfl, Nat.le_of_ble_eq_true rfl⟩ t0 km_0 rfl rfl hl.1 rfl (Nat.le_of_ble_eq_true rfl) dX11_numeral_70 ⟨Nat.zero_le _, Nat.zero_le _⟩ (fun x1 H locs ix1 ox1 hH hS hF1 => ?_)
    obtain ⟨ox1_0, ox1_1⟩ := ox1
    have ox1_0 : x1.toInt ≠ 0 → q69 30 = 0 := ox1_0
    have ox1_1 : x1.toInt = 0 → 1 ≤ q69 30 := ox1_1
    have l1x1 := ix1.1; have l2x1 := ix1.2
    refine lv_if_eq (tgt := 80) hx hb dX11_numeral_73 (by decide) (fun c2 => ?_) (fun c2 => ?_)
    · skip
      have rlc2 : x1.toInt = (0 : Int) := congrArg Int32.toInt c2
      clear ox1_0
      have ox1_1r := ox1_1 rlc2
      clear ox1_1
      have ir3 : IV x1 0 0 := iv_eL c2 (iv_c (by decide) : IV 0 0 0)
      have ir3a := ir3.1; have ir3b := ir3.2
      refine lv_iload_n hx hb dX11_numeral_80 rfl (lv_at hl 1 rfl) ?_
      exact J81 q69 H locs ls y1 hq69 h069 j1 (show TS q69 by exact v69_inv0) (show q 27 ≤ q69 27 by omega) (show GD q q69 by exact v69_inv2) (show TS q69 by exact v69_inv0) (show q 27 ≤ q69 27 by omega) (show GD q q69 by exact v69_inv2) hH hS (lv_sub hl [] rfl)
    · skip
      have rlc2 : x1.toInt ≠ (0 : Int) := iv_ne c2
      have ox1_0r := ox1_0 rlc2
      clear ox1_0
      clear ox1_1
      have ir4 : IV x1 1 1 := iv_cutL ix1 (iv_c (by decide) : IV 0 0 0) c2 (by decide)
      have ir4a := ir4.1; have ir4b := ir4.2
      clear rlc2
      refine lv_iload_n hx hb dX11_numeral_76 rfl (lv_at hl 2 rfl) ?_
      refine lv_goto (tgt := 81) hx hb dX11_numeral_77 (by decide) ?_
      exact J81 q69 H locs ls v69_3 hq69 h069 iv69_3 (show TS q69 by exact v69_inv0) (show q 27 ≤ q69 27 by omega) (show GD q q69 by exact v69_inv2) (show TS q69 by exact v69_inv0) (show q 27 ≤ q69 27 by omega) (show GD q q69 by exact v69_inv2) hH hS (lv_sub hl [] rfl)


set_option maxHeartbeats 20000000 in
set_option maxRecDepth 100000 in
theorem J53_X11_numeral (l : Launch) (D : va_G) (cT : Nat → ClassId) (T : Nat → Option Nat) (q : Nat → Int) (hT : tokm T) (hq : qkm q) (a0 : Nat) (t0 : T a0 = some 0) (y1 : Int32) (j1 : IV y1 (-2147483648) 2147483647) (y2 : Int32) (j2 : IV y2 (-2147483648) 2147483647) (hp0 : TS q) (p : Program) (e : Env) (s : State) (m : MethodId) (below : List Frame) (meth : Method) (c : Code) (S : CallFix p m c cX11_numeral 4 s [.ref a0, .int y1, .int y2].toArray gw yX11_numeral.cls) (hK : va_K D classes (th_tys cT) s) (hr : meth.sig.returnType = (some .int)) (hlocks : meth.locks = false) : ∀ (q53 : Nat → Int) (H : Heap) (locs : List Loc) (ls : Array Slot), qkm q53 → fr [27, 28, 29, 30, 31] q q53 → (TS q53) → (q 27 ≤ q53 27) → (GD q q53) → th_H D cT T (km q53) H → va_S (th_A T [0]) s.heap H locs → lv_has ls 4 [(0, .ref a0), (1, .int y1)] → W p l e (rmk 2 44) s m [.ref a0, .int y1, .int y2].toArray below meth c H locs 0 0 (MQ below (th_QM D cT T (fun v q2 => ∃ r : Int32, v = some (.int r) ∧ IV r (-2147483648) 2147483647 ∧ qkm q2 ∧ fr [27, 28, 29, 30, 31] q q2 ∧ (TS q2) ∧ (q 27 ≤ q2 27) ∧ (GD q q2)) [0]) [.ref a0, .int y1, .int y2].toArray s 0 0 (th_A T [0])) (F0 m 53 ls []) := by
    have hx := S.1
    have hb := S.2.1
    have le0 := TS_le hp0
    have J69 := J69_X11_numeral l D cT T q hT hq a0 t0 y1 j1 y2 j2 hp0 p e s m below meth c S hK hr hlocks
    intro q53 H locs ls hq53 h053 v53_inv0 v53_inv1 v53_inv2 hH hS hl
    have w53_26 : q53 26 = q 26 := h053 26 (by decide) (Or.inl (by decide))
    refine lv_aload_n hx hb dX11_numeral_53 rfl (lv_at hl 0 rfl) ?_
    refine th_get S hK hH inG11 t0 km_0 rfl 9 (by decide) gm_1239 rfl rfl dX11_numeral_54 (fun v5 hv5 fv5 => ?_)
    obtain ⟨x6, rfl, ix6⟩ := th_V.int hv5
    refine lv_istore_n (lv' := [(3, .int x6), (0, .ref a0), (1, .int y1)]) hx hb dX11_numeral_57 rfl hl (by decide) rfl (fun ls hl => ?_)
    refine lv_aload_n hx hb dX11_numeral_58 rfl (lv_at hl 1 rfl) ?_
    refine th_callVp (n := 0) (As := []) S hK hH hS (th_A.sub (by decide)) (m_X11_isGood l D cT T q53 hT hq53 a0 t0) gm_1487 gm_1484 gm_1486 gm_49 gm_124 (by decide +kernel) ⟨rfl, rfl, Nat.le_of_ble_eq_true rfl, Nat.le_of_ble_eq_true rfl⟩ t0 km_0 rfl rfl hl.1 rfl (Nat.le_of_ble_eq_true rfl) dX11_numeral_59 ⟨Nat.zero_le _, Nat.zero_le _⟩ (fun x7 H locs ix7 ox7 hH hS hF1 => ?_)
    obtain ⟨ox7_0, ox7_1⟩ := ox7
    have ox7_0 : x7.toInt ≠ 0 → q53 30 = 0 := ox7_0
    have ox7_1 : x7.toInt = 0 → 1 ≤ q53 30 := ox7_1
    have l1x7 := ix7.1; have l2x7 := ix7.2
    have f8 := fv5.kept (hF1 _ fv5.lt (th_off t0 (by decide)))
    refine lv_if_eq (tgt := 69) hx hb dX11_numeral_62 (by decide) (fun c9 => ?_) (fun c9 => ?_)
    · skip
      have rlc9 : x7.toInt = (0 : Int) := congrArg Int32.toInt c9
      clear ox7_0
      have ox7_1r := ox7_1 rlc9
      clear ox7_1
      have ir10 : IV x7 0 0 := iv_eL c9 (iv_c (by decide) : IV 0 0 0)
      have ir10a := ir10.1; have ir10b := ir10.2
      exact J69 q53 H locs ls x6 hq53 h053 ix6 (show TS q53 by exact v53_inv0) (show q 27 ≤ q53 27 by omega) (show GD q q53 by exact v53_inv2) hH hS (lv_sub hl [1, 2, 0] rfl)
    · skip
      have rlc9 : x7.toInt ≠ (0 : Int) := iv_ne c9
      have ox7_0r := ox7_0 rlc9
      clear ox7_0
      clear ox7_1
      have ir11 : IV x7 1 1 := iv_cutL ix7 (iv_c (by decide) : IV 0 0 0) c9 (by decide)
      have ir11a := ir11.1; have ir11b := ir11.2
      clear rlc9
      refine lv_aload_n hx hb dX11_numeral_65 rfl (lv_at hl 1 rfl) ?_
      have le11 := TS_le v53_inv0
      refine th_callVM (n := 0) (As := []) S hK hH hS (th_A.sub (by decide)) (m_X11_goOn l D cT T q53 hT hq53 a0 t0 (show q53 28 ≤ q53 26 by exact (TS_le v53_inv0).2)) gm_1445 gm_1442 gm_1444 gm_47 gm_124 (by decide +kernel) ⟨rfl, rfl, Nat.le_of_ble_eq_true rfl, Nat.le_of_ble_eq_true rfl⟩ t0 km_0 rfl rfl hl.1 rfl (Nat.le_of_ble_eq_true rfl) dX11_numeral_66 ⟨Nat.zero_le _, Nat.zero_le _⟩ (fun wq12 q12 H locs hEq12 hH hS hF1 => ?_)
      obtain ⟨rfl, hqq12, g0q12, pq12_0, pq12_1, pq12_2⟩ := hEq12
      show W p l e (rmk 2 44) s m [.ref a0, .int y1, .int y2].toArray below meth c H locs 0 0 (MQ below (th_QM D cT T (fun v q2 => ∃ r : Int32, v = some (.int r) ∧ IV r (-2147483648) 2147483647 ∧ qkm q2 ∧ fr [27, 28, 29, 30, 31] q q2 ∧ (TS q2) ∧ (q 27 ≤ q2 27) ∧ (GD q q2)) [0]) [.ref a0, .int y1, .int y2].toArray s 0 0 (th_A T [0])) (F0 m 69 ls [])
      have pq12_0 : TS q12 := pq12_0
      have pq12_1 : q53 28 ≤ q12 27 := pq12_1
      have pq12_2 : LX q53 q12 := pq12_2
      have wq12_26 : q12 26 = q53 26 := g0q12 26 (by decide) (Or.inl (by decide))
      have wq12_30 : q12 30 = q53 30 := g0q12 30 (by decide) (Or.inl (by decide))
      have h0q12 : fr [27, 28, 29, 30, 31] q q12 := fr_tr h053 g0q12 (by decide)
      have bgq12 : bg q53 q12 := bg_fr bg_rf g0q12 (by decide)
      have gdq12 : GD q q12 := GD_tr v53_inv2 (GD_eq wq12_30)
      have gbq12 : GD q53 q12 := GD_tr (GD_eq rfl) (GD_eq wq12_30)
      exact J69 q12 H locs ls x6 hqq12 h0q12 ix6 (show TS q12 by exact pq12_0) (show q 27 ≤ q12 27 by omega) (show GD q q12 by exact gdq12) hH hS (lv_sub hl [1, 2, 0] rfl)


set_option maxHeartbeats 20000000 in
set_option maxRecDepth 100000 in
theorem J44_X11_numeral (l : Launch) (D : va_G) (cT : Nat → ClassId) (T : Nat → Option Nat) (q : Nat → Int) (hT : tokm T) (hq : qkm q) (a0 : Nat) (t0 : T a0 = some 0) (y1 : Int32) (j1 : IV y1 (-2147483648) 2147483647) (y2 : Int32) (j2 : IV y2 (-2147483648) 2147483647) (hp0 : TS q) (p : Program) (e : Env) (s : State) (m : MethodId) (below : List Frame) (meth : Method) (c : Code) (S : CallFix p m c cX11_numeral 4 s [.ref a0, .int y1, .int y2].toArray gw yX11_numeral.cls) (hK : va_K D classes (th_tys cT) s) (hr : meth.sig.returnType = (some .int)) (hlocks : meth.locks = false) : ∀ (q44 : Nat → Int) (H : Heap) (locs : List Loc) (ls : Array Slot) (u44_a0_9 : Int32), qkm q44 → fr [27, 28, 29, 30, 31] q q44 → IV u44_a0_9 (-2147483648) 2147483647 → th_fa D H a0 11 9 (.int u44_a0_9) → (TS q44) → (q 27 ≤ q44 27) → (GD q q44) → th_H D cT T (km q44) H → va_S (th_A T [0]) s.heap H locs → lv_has ls 4 [(0, .ref a0), (1, .int y1)] → W p l e (rmk 2 44) s m [.ref a0, .int y1, .int y2].toArray below meth c H locs 0 0 (MQ below (th_QM D cT T (fun v q2 => ∃ r : Int32, v = some (.int r) ∧ IV r (-2147483648) 2147483647 ∧ qkm q2 ∧ fr [27, 28, 29, 30, 31] q q2 ∧ (TS q2) ∧ (q 27 ≤ q2 27) ∧ (GD q q2)) [0]) [.ref a0, .int y1, .int y2].toArray s 0 0 (th_A T [0])) (F0 m 44 ls []) := by
    have hx := S.1
    have hb := S.2.1
    have le0 := TS_le hp0
    have J53 := J53_X11_numeral l D cT T q hT hq a0 t0 y1 j1 y2 j2 hp0 p e s m below meth c S hK hr hlocks
    intro q44 H locs ls u44_a0_9 hq44 h044 iu44_a0_9 gu44_a0_9 v44_inv0 v44_inv1 v44_inv2 hH hS hl
    have w44_26 : q44 26 = q 26 := h044 26 (by decide) (Or.inl (by decide))
    refine lv_aload_n hx hb dX11_numeral_44 rfl (lv_at hl 0 rfl) ?_
    refine lv_iconst (v := 4) hx hb dX11_numeral_45 (by decide) ?_
    refine lv_aload_n hx hb dX11_numeral_46 rfl (lv_at hl 0 rfl) ?_
    refine th_get S hK hH inG11 t0 km_0 rfl 6 (by decide) gm_1236 rfl rfl dX11_numeral_47 (fun v13 hv13 fv13 => ?_)
    obtain ⟨x14, rfl, ix14⟩ := th_V.int hv13
    have kx14 : x14.toInt = q44 27 := Int.le_antisymm ix14.2 ix14.1
    have bx14 := qkm_27 hq44
    have ix14 : IV x14 0 1600 := iv_w ix14 (qkm_27 hq44)
    refine th_callVM (n := 2) (As := [.int 4, .int x14]) S hK hH hS (th_A.sub (by decide)) (m_X11_fails l D cT T q44 hT hq44 a0 t0 (4) (iv_w (iv_c (by decide) : IV 4 4 4) (by decide)) (x14) (iv_top _)) gm_1507 gm_1504 gm_1506 gm_54 gm_124 (by decide +kernel) ⟨rfl, rfl, Nat.le_of_ble_eq_true rfl, Nat.le_of_ble_eq_true rfl⟩ t0 km_0 rfl rfl hl.1 rfl (Nat.le_of_ble_eq_true rfl) dX11_numeral_50 ⟨Nat.zero_le _, Nat.zero_le _⟩ (fun wq15 q15 H locs hEq15 hH hS hF1 => ?_)
    obtain ⟨rfl, hqq15, g0q15, pq15_0⟩ := hEq15
    show W p l e (rmk 2 44) s m [.ref a0, .int y1, .int y2].toArray below meth c H locs 0 0 (MQ below (th_QM D cT T (fun v q2 => ∃ r : Int32, v = some (.int r) ∧ IV r (-2147483648) 2147483647 ∧ qkm q2 ∧ fr [27, 28, 29, 30, 31] q q2 ∧ (TS q2) ∧ (q 27 ≤ q2 27) ∧ (GD q q2)) [0]) [.ref a0, .int y1, .int y2].toArray s 0 0 (th_A T [0])) (F0 m 53 ls [])
    have pq15_0 : 1 ≤ q15 30 := pq15_0
    have wq15_26 : q15 26 = q44 26 := g0q15 26 (by decide) (Or.inl (by decide))
    have wq15_27 : q15 27 = q44 27 := g0q15 27 (by decide) (Or.inl (by decide))
    have wq15_28 : q15 28 = q44 28 := g0q15 28 (by decide) (Or.inl (by decide))
    have wq15_29 : q15 29 = q44 29 := g0q15 29 (by decide) (Or.inl (by decide))
    have wq15_31 : q15 31 = q44 31 := g0q15 31 (by decide) (Or.inl (by decide))
    have h0q15 : fr [27, 28, 29, 30, 31] q q15 := fr_tr h044 g0q15 (by decide)
    have bgq15 : bg q44 q15 := bg_fr bg_rf g0q15 (by decide)
    have gdq15 : GD q q15 := GD_tr v44_inv2 (GD_no pq15_0)
    have gbq15 : GD q44 q15 := GD_tr (GD_eq rfl) (GD_no pq15_0)
    have txq15 : tx q44 q15 := tx_tr tx_rf (tx_bg (bg_fr bg_rf g0q15 (by decide)))
    exact J53 q15 H locs ls hqq15 h0q15 (show TS q15 by exact (TS_mv v44_inv0 txq15 (by omega) (by omega) (by omega) (by omega) (by omega) (fun z => by omega))) (show q 27 ≤ q15 27 by omega) (show GD q q15 by exact gdq15) hH hS (lv_sub hl [0, 1] rfl)


set_option maxHeartbeats 20000000 in
set_option maxRecDepth 100000 in
theorem J21_X11_numeral (l : Launch) (D : va_G) (cT : Nat → ClassId) (T : Nat → Option Nat) (q : Nat → Int) (hT : tokm T) (hq : qkm q) (a0 : Nat) (t0 : T a0 = some 0) (y1 : Int32) (j1 : IV y1 (-2147483648) 2147483647) (y2 : Int32) (j2 : IV y2 (-2147483648) 2147483647) (hp0 : TS q) (p : Program) (e : Env) (s : State) (m : MethodId) (below : List Frame) (meth : Method) (c : Code) (S : CallFix p m c cX11_numeral 4 s [.ref a0, .int y1, .int y2].toArray gw yX11_numeral.cls) (hK : va_K D classes (th_tys cT) s) (hr : meth.sig.returnType = (some .int)) (hlocks : meth.locks = false) : ∀ (q21 : Nat → Int) (H : Heap) (locs : List Loc) (ls : Array Slot), qkm q21 → fr [27, 28, 29, 30, 31] q q21 → (TS q21) → (q 27 ≤ q21 27) → (GD q q21) → th_H D cT T (km q21) H → va_S (th_A T [0]) s.heap H locs → lv_has ls 4 [(0, .ref a0), (1, .int y1), (2, .int y2)] → W p l e (rmk 2 44) s m [.ref a0, .int y1, .int y2].toArray below meth c H locs 0 0 (MQ below (th_QM D cT T (fun v q2 => ∃ r : Int32, v = some (.int r) ∧ IV r (-2147483648) 2147483647 ∧ qkm q2 ∧ fr [27, 28, 29, 30, 31] q q2 ∧ (TS q2) ∧ (q 27 ≤ q2 27) ∧ (GD q q2)) [0]) [.ref a0, .int y1, .int y2].toArray s 0 0 (th_A T [0])) (F0 m 21 ls []) := by
    have hx := S.1
    have hb := S.2.1
    have le0 := TS_le hp0
    have J53 := J53_X11_numeral l D cT T q hT hq a0 t0 y1 j1 y2 j2 hp0 p e s m below meth c S hK hr hlocks
    have J44 := J44_X11_numeral l D cT T q hT hq a0 t0 y1 j1 y2 j2 hp0 p e s m below meth c S hK hr hlocks
    intro q21 H locs ls hq21 h021 v21_inv0 v21_inv1 v21_inv2 hH hS hl
    have w21_26 : q21 26 = q 26 := h021 26 (by decide) (Or.inl (by decide))
    refine lv_aload_n hx hb dX11_numeral_21 rfl (lv_at hl 0 rfl) ?_
    refine th_callVp (n := 0) (As := []) S hK hH hS (th_A.sub (by decide)) (m_X11_isGood l D cT T q21 hT hq21 a0 t0) gm_1487 gm_1484 gm_1486 gm_49 gm_124 (by decide +kernel) ⟨rfl, rfl, Nat.le_of_ble_eq_true rfl, Nat.le_of_ble_eq_true rfl⟩ t0 km_0 rfl rfl hl.1 rfl (Nat.le_of_ble_eq_true rfl) dX11_numeral_22 ⟨Nat.zero_le _, Nat.zero_le _⟩ (fun x16 H locs ix16 ox16 hH hS hF1 => ?_)
    obtain ⟨ox16_0, ox16_1⟩ := ox16
    have ox16_0 : x16.toInt ≠ 0 → q21 30 = 0 := ox16_0
    have ox16_1 : x16.toInt = 0 → 1 ≤ q21 30 := ox16_1
    have l1x16 := ix16.1; have l2x16 := ix16.2
    refine lv_if_eq (tgt := 53) hx hb dX11_numeral_25 (by decide) (fun c17 => ?_) (fun c17 => ?_)
    · skip
      have rlc17 : x16.toInt = (0 : Int) := congrArg Int32.toInt c17
      clear ox16_0
      have ox16_1r := ox16_1 rlc17
      clear ox16_1
      have ir18 : IV x16 0 0 := iv_eL c17 (iv_c (by decide) : IV 0 0 0)
      have ir18a := ir18.1; have ir18b := ir18.2
      exact J53 q21 H locs ls hq21 h021 (show TS q21 by exact v21_inv0) (show q 27 ≤ q21 27 by omega) (show GD q q21 by exact v21_inv2) hH hS (lv_sub hl [0, 1] rfl)
    · skip
      have rlc17 : x16.toInt ≠ (0 : Int) := iv_ne c17
      have ox16_0r := ox16_0 rlc17
      clear ox16_0
      clear ox16_1
      have ir19 : IV x16 1 1 := iv_cutL ix16 (iv_c (by decide) : IV 0 0 0) c17 (by decide)
      have ir19a := ir19.1; have ir19b := ir19.2
      clear rlc17
      refine lv_aload_n hx hb dX11_numeral_28 rfl (lv_at hl 0 rfl) ?_
      refine th_get S hK hH inG11 t0 km_0 rfl 9 (by decide) gm_1239 rfl rfl dX11_numeral_29 (fun v20 hv20 fv20 => ?_)
      obtain ⟨x21, rfl, ix21⟩ := th_V.int hv20
      refine lv_iload_n hx hb dX11_numeral_32 rfl (lv_at hl 1 rfl) ?_
      refine lv_icmp_lt (tgt := 44) hx hb dX11_numeral_33 (by decide) (fun c22 => ?_) (fun c22 => ?_)
      · skip
        have rlc22 : x21.toInt < y1.toInt := iv_lt c22
        have ir23 : IV x21 (-2147483648) 2147483646 := iv_uL ix21 j1 (iv_lt c22) (by decide)
        have ir23a := ir23.1; have ir23b := ir23.2
        have ir24 : IV y1 (-2147483647) 2147483647 := iv_uR ix21 j1 (iv_lt c22) (by decide)
        have ir24a := ir24.1; have ir24b := ir24.2
        exact J44 q21 H locs ls x21 hq21 h021 (iv_top _) fv20 (show TS q21 by exact v21_inv0) (show q 27 ≤ q21 27 by omega) (show GD q q21 by exact v21_inv2) hH hS (lv_sub hl [0, 1] rfl)
      · skip
        have rlc22 : y1.toInt ≤ x21.toInt := iv_nlt c22
        refine lv_aload_n hx hb dX11_numeral_36 rfl (lv_at hl 0 rfl) ?_
        refine th_getK S hK fv20 inG11 rfl (by decide) gm_1239 rfl dX11_numeral_37 ?_
        refine lv_iload_n hx hb dX11_numeral_40 rfl (lv_at hl 2 rfl) ?_
        refine lv_icmp_le (tgt := 53) hx hb dX11_numeral_41 (by decide) (fun c26 => ?_) (fun c26 => ?_)
        · skip
          have rlc26 : x21.toInt ≤ y2.toInt := iv_le c26
          exact J53 q21 H locs ls hq21 h021 (show TS q21 by exact v21_inv0) (show q 27 ≤ q21 27 by omega) (show GD q q21 by exact v21_inv2) hH hS (lv_sub hl [0, 1] rfl)
        · skip
          have rlc26 : y2.toInt < x21.toInt := iv_nle c26
          have ir27 : IV y2 (-2147483648) 2147483646 := iv_uL j2 ix21 (iv_nle c26) (by decide)
          have ir27a := ir27.1; have ir27b := ir27.2
          have ir28 : IV x21 (-2147483647) 2147483647 := iv_uR j2 ix21 (iv_nle c26) (by decide)
          have ir28a := ir28.1; have ir28b := ir28.2
          exact J44 q21 H locs ls x21 hq21 h021 (iv_top _) fv20 (show TS q21 by exact v21_inv0) (show q 27 ≤ q21 27 by omega) (show GD q q21 by exact v21_inv2) hH hS (lv_sub hl [0, 1] rfl)

set_option maxHeartbeats 20000000 in
set_option maxRecDepth 100000 in
theorem m_X11_numeral (l : Launch) (D : va_G) (cT : Nat → ClassId) (T : Nat → Option Nat) (q : Nat → Int) (hT : tokm T) (hq : qkm q) (a0 : Nat) (t0 : T a0 = some 0) (y1 : Int32) (j1 : IV y1 (-2147483648) 2147483647) (y2 : Int32) (j2 : IV y2 (-2147483648) 2147483647) (hp0 : TS q) : th_MetM l D cT T q yX11_numeral cX11_numeral 4 (some .int) (rmk 2 44) [.ref a0, .int y1, .int y2] (fun v q2 => ∃ r : Int32, v = some (.int r) ∧ IV r (-2147483648) 2147483647 ∧ qkm q2 ∧ fr [27, 28, 29, 30, 31] q q2 ∧ (TS q2) ∧ (q 27 ≤ q2 27) ∧ (GD q q2)) [0] := by
  refine th_startM (by decide) (Nat.le_of_ble_eq_true rfl) ?_
  intro p e s m below meth c ls S hK hH hr hlocks hnm hl
  have hx := S.1
  have hb := S.2.1
  have le0 := TS_le hp0
  have hl : lv_has ls 4 [(0, .ref a0), (1, .int y1), (2, .int y2)] := hl
  have J81 := J81_X11_numeral l D cT T q hT hq a0 t0 y1 j1 y2 j2 hp0 p e s m below meth c S hK hr hlocks
  have J69 := J69_X11_numeral l D cT T q hT hq a0 t0 y1 j1 y2 j2 hp0 p e s m below meth c S hK hr hlocks
  have J53 := J53_X11_numeral l D cT T q hT hq a0 t0 y1 j1 y2 j2 hp0 p e s m below meth c S hK hr hlocks
  have J44 := J44_X11_numeral l D cT T q hT hq a0 t0 y1 j1 y2 j2 hp0 p e s m below meth c S hK hr hlocks
  have J21 := J21_X11_numeral l D cT T q hT hq a0 t0 y1 j1 y2 j2 hp0 p e s m below meth c S hK hr hlocks
  have J0 : ∀ (H : Heap) (locs : List Loc) (ls : Array Slot), th_H D cT T (km q) H → va_S (th_A T [0]) s.heap H locs → lv_has ls 4 [(0, .ref a0), (1, .int y1), (2, .int y2)] → W p l e (rmk 2 44) s m [.ref a0, .int y1, .int y2].toArray below meth c H locs 0 0 (MQ below (th_QM D cT T (fun v q2 => ∃ r : Int32, v = some (.int r) ∧ IV r (-2147483648) 2147483647 ∧ qkm q2 ∧ fr [27, 28, 29, 30, 31] q q2 ∧ (TS q2) ∧ (q 27 ≤ q2 27) ∧ (GD q q2)) [0]) [.ref a0, .int y1, .int y2].toArray s 0 0 (th_A T [0])) (F0 m 0 ls []) := by
    intro H locs ls hH hS hl
    refine lv_aload_n hx hb dX11_numeral_0 rfl (lv_at hl 0 rfl) ?_
    refine th_callVp (n := 0) (As := []) S hK hH hS (th_A.sub (by decide)) (m_X11_isGood l D cT T q hT hq a0 t0) gm_1487 gm_1484 gm_1486 gm_49 gm_124 (by decide +kernel) ⟨rfl, rfl, Nat.le_of_ble_eq_true rfl, Nat.le_of_ble_eq_true rfl⟩ t0 km_0 rfl rfl hl.1 rfl (Nat.le_of_ble_eq_true rfl) dX11_numeral_1 ⟨Nat.zero_le _, Nat.zero_le _⟩ (fun x29 H locs ix29 ox29 hH hS hF1 => ?_)
    obtain ⟨ox29_0, ox29_1⟩ := ox29
    have ox29_0 : x29.toInt ≠ 0 → q 30 = 0 := ox29_0
    have ox29_1 : x29.toInt = 0 → 1 ≤ q 30 := ox29_1
    have l1x29 := ix29.1; have l2x29 := ix29.2
    refine lv_if_ne (tgt := 9) hx hb dX11_numeral_4 (by decide) (fun c30 => ?_) (fun c30 => ?_)
    · skip
      have rlc30 : x29.toInt ≠ (0 : Int) := iv_ne c30
      have ox29_0r := ox29_0 rlc30
      clear ox29_0
      clear ox29_1
      have ir31 : IV x29 1 1 := iv_cutL ix29 (iv_c (by decide) : IV 0 0 0) c30 (by decide)
      have ir31a := ir31.1; have ir31b := ir31.2
      clear rlc30
      refine lv_aload_n hx hb dX11_numeral_9 rfl (lv_at hl 0 rfl) ?_
      refine th_get S hK hH inG11 t0 km_0 rfl 8 (by decide) gm_1238 rfl rfl dX11_numeral_10 (fun v32 hv32 fv32 => ?_)
      obtain ⟨x33, rfl, ix33⟩ := th_V.int hv32
      have kx33 : x33.toInt = q 29 := Int.le_antisymm ix33.2 ix33.1
      have bx33 := qkm_29 hq
      have ix33 : IV x33 0 5 := iv_w ix33 (qkm_29 hq)
      refine lv_iconst (v := 4) hx hb dX11_numeral_13 (by decide) ?_
      refine lv_icmp_eq (tgt := 21) hx hb dX11_numeral_14 (by decide) (fun c34 => ?_) (fun c34 => ?_)
      · skip
        have rlc34 : x33.toInt = (4 : Int) := congrArg Int32.toInt c34
        have ir35 : IV x33 4 4 := iv_eL c34 (iv_c (by decide) : IV 4 4 4)
        have ir35a := ir35.1; have ir35b := ir35.2
        exact J21 q H locs ls hq fr_rf (show TS q by exact hp0) (show q 27 ≤ q 27 by omega) (show GD q q by exact (GD_eq rfl)) hH hS (lv_sub hl [0, 1, 2] rfl)
      · skip
        have rlc34 : x33.toInt ≠ (4 : Int) := iv_ne c34
        clear rlc34
        refine lv_aload_n hx hb dX11_numeral_17 rfl (lv_at hl 0 rfl) ?_
        refine th_callVM (n := 0) (As := []) S hK hH hS (th_A.sub (by decide)) (m_X11_misplaced l D cT T q hT hq a0 t0) gm_1503 gm_1500 gm_1502 gm_53 gm_124 (by decide +kernel) ⟨rfl, rfl, Nat.le_of_ble_eq_true rfl, Nat.le_of_ble_eq_true rfl⟩ t0 km_0 rfl rfl hl.1 rfl (Nat.le_of_ble_eq_true rfl) dX11_numeral_18 ⟨Nat.zero_le _, Nat.zero_le _⟩ (fun wq36 q36 H locs hEq36 hH hS hF1 => ?_)
        obtain ⟨rfl, hqq36, g0q36, pq36_0⟩ := hEq36
        show W p l e (rmk 2 44) s m [.ref a0, .int y1, .int y2].toArray below meth c H locs 0 0 (MQ below (th_QM D cT T (fun v q2 => ∃ r : Int32, v = some (.int r) ∧ IV r (-2147483648) 2147483647 ∧ qkm q2 ∧ fr [27, 28, 29, 30, 31] q q2 ∧ (TS q2) ∧ (q 27 ≤ q2 27) ∧ (GD q q2)) [0]) [.ref a0, .int y1, .int y2].toArray s 0 0 (th_A T [0])) (F0 m 21 ls [])
        have pq36_0 : 1 ≤ q36 30 := pq36_0
        have wq36_26 : q36 26 = q 26 := g0q36 26 (by decide) (Or.inl (by decide))
        have wq36_27 : q36 27 = q 27 := g0q36 27 (by decide) (Or.inl (by decide))
        have wq36_28 : q36 28 = q 28 := g0q36 28 (by decide) (Or.inl (by decide))
        have wq36_29 : q36 29 = q 29 := g0q36 29 (by decide) (Or.inl (by decide))
        have wq36_31 : q36 31 = q 31 := g0q36 31 (by decide) (Or.inl (by decide))
        have h0q36 : fr [27, 28, 29, 30, 31] q q36 := fr_tr fr_rf g0q36 (by decide)
        have bgq36 : bg q q36 := bg_fr bg_rf g0q36 (by decide)
        have gdq36 : GD q q36 := GD_tr (GD_eq rfl) (GD_no pq36_0)
        have gbq36 : GD q q36 := GD_tr (GD_eq rfl) (GD_no pq36_0)
        have txq36 : tx q q36 := tx_tr tx_rf (tx_bg (bg_fr bg_rf g0q36 (by decide)))
        exact J21 q36 H locs ls hqq36 h0q36 (show TS q36 by exact (TS_mv hp0 txq36 (by omega) (by omega) (by omega) (by omega) (by omega) (fun z => by omega))) (show q 27 ≤ q36 27 by omega) (show GD q q36 by exact gdq36) hH hS (lv_sub hl [0, 1, 2] rfl)
    · skip
      have rlc30 : x29.toInt = (0 : Int) := congrArg Int32.toInt c30
      clear ox29_0
      have ox29_1r := ox29_1 rlc30
      clear ox29_1
      have ir37 : IV x29 0 0 := iv_eL c30 (iv_c (by decide) : IV 0 0 0)
      have ir37a := ir37.1; have ir37b := ir37.2
      refine lv_iload_n hx hb dX11_numeral_7 rfl (lv_at hl 1 rfl) ?_
      exact th_iretM S hK hH hS hr hlocks ⟨_, rfl, j1, hq, fr_rf, (show TS q by exact hp0), (show q 27 ≤ q 27 by omega), (show GD q q by exact (GD_eq rfl))⟩ dX11_numeral_8
  exact J0 s.heap [] ls hH va_S.rf hl
