theorem dX11_readFood_0 : decode cX11_readFood 0 = .ok (.aload_n 0, 1) := by decide +kernel
theorem dX11_readFood_1 : decode cX11_readFood 1 = .ok (.getfield 88, 3) := by decide +kernel
theorem dX11_readFood_4 : decode cX11_readFood 4 = .ok (.iconst 3, 1) := by decide +kernel
theorem dX11_readFood_5 : decode cX11_readFood 5 = .ok (.aload_n 0, 1) := by decide +kernel
theorem dX11_readFood_6 : decode cX11_readFood 6 = .ok (.getfield 264, 3) := by decide +kernel
theorem dX11_readFood_9 : decode cX11_readFood 9 = .ok (.imul, 1) := by decide +kernel
theorem dX11_readFood_10 : decode cX11_readFood 10 = .ok (.aload_n 0, 1) := by decide +kernel
theorem dX11_readFood_11 : decode cX11_readFood 11 = .ok (.getfield 20, 3) := by decide +kernel
theorem dX11_readFood_14 : decode cX11_readFood 14 = .ok (.aload_n 0, 1) := by decide +kernel
theorem dX11_readFood_15 : decode cX11_readFood 15 = .ok (.getfield 264, 3) := by decide +kernel
theorem dX11_readFood_18 : decode cX11_readFood 18 = .ok (.iaload, 1) := by decide +kernel
theorem dX11_readFood_19 : decode cX11_readFood 19 = .ok (.iadd, 1) := by decide +kernel
theorem dX11_readFood_20 : decode cX11_readFood 20 = .ok (.aload_n 0, 1) := by decide +kernel
theorem dX11_readFood_21 : decode cX11_readFood 21 = .ok (.aload_n 0, 1) := by decide +kernel
theorem dX11_readFood_22 : decode cX11_readFood 22 = .ok (.invokevirtual 308, 3) := by decide +kernel
theorem dX11_readFood_25 : decode cX11_readFood 25 = .ok (.invokevirtual 312, 3) := by decide +kernel
theorem dX11_readFood_28 : decode cX11_readFood 28 = .ok (.lastore, 1) := by decide +kernel
theorem dX11_readFood_29 : decode cX11_readFood 29 = .ok (.aload_n 0, 1) := by decide +kernel
theorem dX11_readFood_30 : decode cX11_readFood 30 = .ok (.getfield 42, 3) := by decide +kernel
theorem dX11_readFood_33 : decode cX11_readFood 33 = .ok (.iconst 3, 1) := by decide +kernel
theorem dX11_readFood_34 : decode cX11_readFood 34 = .ok (.aload_n 0, 1) := by decide +kernel
theorem dX11_readFood_35 : decode cX11_readFood 35 = .ok (.getfield 264, 3) := by decide +kernel
theorem dX11_readFood_38 : decode cX11_readFood 38 = .ok (.imul, 1) := by decide +kernel
theorem dX11_readFood_39 : decode cX11_readFood 39 = .ok (.aload_n 0, 1) := by decide +kernel
theorem dX11_readFood_40 : decode cX11_readFood 40 = .ok (.getfield 20, 3) := by decide +kernel
theorem dX11_readFood_43 : decode cX11_readFood 43 = .ok (.aload_n 0, 1) := by decide +kernel
theorem dX11_readFood_44 : decode cX11_readFood 44 = .ok (.getfield 264, 3) := by decide +kernel
theorem dX11_readFood_47 : decode cX11_readFood 47 = .ok (.iaload, 1) := by decide +kernel
theorem dX11_readFood_48 : decode cX11_readFood 48 = .ok (.iadd, 1) := by decide +kernel
theorem dX11_readFood_49 : decode cX11_readFood 49 = .ok (.aload_n 0, 1) := by decide +kernel
theorem dX11_readFood_50 : decode cX11_readFood 50 = .ok (.iconst 0, 1) := by decide +kernel
theorem dX11_readFood_51 : decode cX11_readFood 51 = .ok (.bipush 99, 2) := by decide +kernel
theorem dX11_readFood_53 : decode cX11_readFood 53 = .ok (.invokevirtual 260, 3) := by decide +kernel
theorem dX11_readFood_56 : decode cX11_readFood 56 = .ok (.iastore, 1) := by decide +kernel
theorem dX11_readFood_57 : decode cX11_readFood 57 = .ok (.aload_n 0, 1) := by decide +kernel
theorem dX11_readFood_58 : decode cX11_readFood 58 = .ok (.getfield 20, 3) := by decide +kernel
theorem dX11_readFood_61 : decode cX11_readFood 61 = .ok (.aload_n 0, 1) := by decide +kernel
theorem dX11_readFood_62 : decode cX11_readFood 62 = .ok (.getfield 264, 3) := by decide +kernel
theorem dX11_readFood_65 : decode cX11_readFood 65 = .ok (.dup2, 1) := by decide +kernel
theorem dX11_readFood_66 : decode cX11_readFood 66 = .ok (.iaload, 1) := by decide +kernel
theorem dX11_readFood_67 : decode cX11_readFood 67 = .ok (.iconst 1, 1) := by decide +kernel
theorem dX11_readFood_68 : decode cX11_readFood 68 = .ok (.iadd, 1) := by decide +kernel
theorem dX11_readFood_69 : decode cX11_readFood 69 = .ok (.iastore, 1) := by decide +kernel
theorem dX11_readFood_70 : decode cX11_readFood 70 = .ok (.return_, 1) := by decide +kernel
set_option maxHeartbeats 20000000 in
set_option maxRecDepth 100000 in
theorem m_X11_fresh (l : Launch) (D : va_G) (cT : Nat → ClassId) (T : Nat → Option Nat) (q : Nat → Int) (hT : tokm T) (hq : qkm q) (a0 : Nat) (t0 : T a0 = some 0) (y1 : Int32) (j1 : IV y1 (-2147483648) 2147483647) (hp0 : TS q) : th_MetM l D cT T q yX11_fresh cX11_fresh 4 (some .long) (rmk 2 44) [.ref a0, .int y1] (fun v q2 => (∃ r : Int64, v = some (.long r)) ∧ qkm q2 ∧ fr [27, 28, 29, 30, 31] q q2 ∧ (TS q2) ∧ (q 27 ≤ q2 27) ∧ (GD q q2)) [0] := by
  refine th_startM (by decide) (Nat.le_of_ble_eq_true rfl) ?_
  intro p e s m below meth c ls S hK hH hr hlocks hnm hl
  have hx := S.1
  have hb := S.2.1
  have le0 := TS_le hp0
  have hl : lv_has ls 4 [(0, .ref a0), (1, .int y1)] := hl
  have J53 := J53_X11_fresh l D cT T q hT hq a0 t0 y1 j1 hp0 p e s m below meth c S hK hr hlocks
  have J37 := J37_X11_fresh l D cT T q hT hq a0 t0 y1 j1 hp0 p e s m below meth c S hK hr hlocks
  have J0 : ∀ (H : Heap) (locs : List Loc) (ls : Array Slot), th_H D cT T (km q) H → va_S (th_A T [0]) s.heap H locs → lv_has ls 4 [(0, .ref a0), (1, .int y1)] → W p l e (rmk 2 44) s m [.ref a0, .int y1].toArray below meth c H locs 0 0 (MQ below (th_QM D cT T (fun v q2 => (∃ r : Int64, v = some (.long r)) ∧ qkm q2 ∧ fr [27, 28, 29, 30, 31] q q2 ∧ (TS q2) ∧ (q 27 ≤ q2 27) ∧ (GD q q2)) [0]) [.ref a0, .int y1].toArray s 0 0 (th_A T [0])) (F0 m 0 ls []) := by
    intro H locs ls hH hS hl
    refine lv_aload_n hx hb dX11_fresh_0 rfl (lv_at hl 0 rfl) ?_
    refine th_callVp (n := 0) (As := []) S hK hH hS (th_A.sub (by decide)) (m_X11_isGood l D cT T q hT hq a0 t0) gm_1487 gm_1484 gm_1486 gm_49 gm_124 (by decide +kernel) ⟨rfl, rfl, Nat.le_of_ble_eq_true rfl, Nat.le_of_ble_eq_true rfl⟩ t0 km_0 rfl rfl hl.1 rfl (Nat.le_of_ble_eq_true rfl) dX11_fresh_1 ⟨Nat.zero_le _, Nat.zero_le _⟩ (fun x8 H locs ix8 ox8 hH hS hF1 => ?_)
    obtain ⟨ox8_0, ox8_1⟩ := ox8
    have ox8_0 : x8.toInt ≠ 0 → q 30 = 0 := ox8_0
    have ox8_1 : x8.toInt = 0 → 1 ≤ q 30 := ox8_1
    have l1x8 := ix8.1; have l2x8 := ix8.2
    refine lv_if_ne (tgt := 9) hx hb dX11_fresh_4 (by decide) (fun c9 => ?_) (fun c9 => ?_)
    · skip
      have rlc9 : x8.toInt ≠ (0 : Int) := iv_ne c9
      have ox8_0r := ox8_0 rlc9
      clear ox8_0
      clear ox8_1
      have ir10 : IV x8 1 1 := iv_cutL ix8 (iv_c (by decide) : IV 0 0 0) c9 (by decide)
      have ir10a := ir10.1; have ir10b := ir10.2
      clear rlc9
      refine lv_aload_n hx hb dX11_fresh_9 rfl (lv_at hl 0 rfl) ?_
      refine th_get S hK hH inG11 t0 km_0 rfl 8 (by decide) gm_1238 rfl rfl dX11_fresh_10 (fun v11 hv11 fv11 => ?_)
      obtain ⟨x12, rfl, ix12⟩ := th_V.int hv11
      have kx12a : q 29 ≤ x12.toInt := ix12.1
      have kx12b : x12.toInt ≤ q 29 := ix12.2
      have bx12 := qkm_29 hq
      have ix12 : IV x12 0 5 := iv_w ix12 (qkm_29 hq)
      refine lv_iconst (v := 2) hx hb dX11_fresh_13 (by decide) ?_
      refine lv_icmp_eq (tgt := 24) hx hb dX11_fresh_14 (by decide) (fun c13 => ?_) (fun c13 => ?_)
      · skip
        have rlc13 : x12.toInt = (2 : Int) := congrArg Int32.toInt c13
        have ir14 : IV x12 2 2 := iv_eL c13 (iv_c (by decide) : IV 2 2 2)
        have ir14a := ir14.1; have ir14b := ir14.2
        refine lv_iload_n hx hb dX11_fresh_24 rfl (lv_at hl 1 rfl) ?_
        refine lv_if_lt (tgt := 37) hx hb dX11_fresh_25 (by decide) (fun c15 => ?_) (fun c15 => ?_)
        · skip
          have rlc15 : y1.toInt < (0 : Int) := iv_lt c15
          have ir16 : IV y1 (-2147483648) (-1) := iv_uL j1 (iv_c (by decide) : IV 0 0 0) (iv_lt c15) (by decide)
          have ir16a := ir16.1; have ir16b := ir16.2
          exact J37 q H locs ls hq fr_rf (show TS q by exact hp0) (show q 27 ≤ q 27 by omega) (show GD q q by exact (GD_eq rfl)) hH hS (lv_sub hl [0] rfl)
        · skip
          have rlc15 : (0 : Int) ≤ y1.toInt := iv_nlt c15
          have ir17 : IV y1 0 2147483647 := iv_vR (iv_c (by decide) : IV 0 0 0) j1 (iv_nlt c15) (by decide)
          have ir17a := ir17.1; have ir17b := ir17.2
          refine lv_aload_n hx hb dX11_fresh_28 rfl (lv_at hl 0 rfl) ?_
          refine lv_iconst (v := 3) hx hb dX11_fresh_29 (by decide) ?_
          refine lv_aload_n hx hb dX11_fresh_30 rfl (lv_at hl 0 rfl) ?_
          refine th_get S hK hH inG11 t0 km_0 rfl 6 (by decide) gm_1236 rfl rfl dX11_fresh_31 (fun v18 hv18 fv18 => ?_)
          obtain ⟨x19, rfl, ix19⟩ := th_V.int hv18
          have kx19a : q 27 ≤ x19.toInt := ix19.1
          have kx19b : x19.toInt ≤ q 27 := ix19.2
          have bx19 := qkm_27 hq
          have ix19 : IV x19 0 1600 := iv_w ix19 (qkm_27 hq)
          refine th_callVM (n := 2) (As := [.int 3, .int x19]) S hK hH hS (th_A.sub (by decide)) (m_X11_fails l D cT T q hT hq a0 t0 (3) (iv_w (iv_c (by decide) : IV 3 3 3) (by decide)) (x19) (iv_top _)) gm_1507 gm_1504 gm_1506 gm_54 gm_124 (by decide +kernel) ⟨rfl, rfl, Nat.le_of_ble_eq_true rfl, Nat.le_of_ble_eq_true rfl⟩ t0 km_0 rfl rfl hl.1 rfl (Nat.le_of_ble_eq_true rfl) dX11_fresh_34 ⟨Nat.zero_le _, Nat.zero_le _⟩ (fun wq20 q20 H locs hEq20 hH hS hF1 => ?_)
          obtain ⟨rfl, hqq20, g0q20, pq20_0⟩ := hEq20
          show W p l e (rmk 2 44) s m [.ref a0, .int y1].toArray below meth c H locs 0 0 (MQ below (th_QM D cT T (fun v q2 => (∃ r : Int64, v = some (.long r)) ∧ qkm q2 ∧ fr [27, 28, 29, 30, 31] q q2 ∧ (TS q2) ∧ (q 27 ≤ q2 27) ∧ (GD q q2)) [0]) [.ref a0, .int y1].toArray s 0 0 (th_A T [0])) (F0 m 37 ls [])
          have pq20_0 : 1 ≤ q20 30 := pq20_0
          have wq20_26 : q20 26 = q 26 := g0q20 26 (by decide) (Or.inl (by decide))
          have wq20_27 : q20 27 = q 27 := g0q20 27 (by decide) (Or.inl (by decide))
          have wq20_28 : q20 28 = q 28 := g0q20 28 (by decide) (Or.inl (by decide))
          have wq20_29 : q20 29 = q 29 := g0q20 29 (by decide) (Or.inl (by decide))
          have wq20_31 : q20 31 = q 31 := g0q20 31 (by decide) (Or.inl (by decide))
          have h0q20 : fr [27, 28, 29, 30, 31] q q20 := fr_tr fr_rf g0q20 (by decide)
          have bgq20 : bg q q20 := bg_fr bg_rf g0q20 (by decide)
          have gdq20 : GD q q20 := GD_tr (GD_eq rfl) (GD_no pq20_0)
          have gbq20 : GD q q20 := GD_tr (GD_eq rfl) (GD_no pq20_0)
          have txq20 : tx q q20 := tx_tr tx_rf (tx_bg (bg_fr bg_rf g0q20 (by decide)))
          exact J37 q20 H locs ls hqq20 h0q20 (show TS q20 by exact (TS_mv hp0 txq20 (by omega) (by omega) (by omega) (by omega) (by omega) (fun z => by omega))) (show q 27 ≤ q20 27 by omega) (show GD q q20 by exact gdq20) hH hS (lv_sub hl [0] rfl)
      · skip
        have rlc13 : x12.toInt ≠ (2 : Int) := iv_ne c13
        clear rlc13
        refine lv_aload_n hx hb dX11_fresh_17 rfl (lv_at hl 0 rfl) ?_
        refine th_callVM (n := 0) (As := []) S hK hH hS (th_A.sub (by decide)) (m_X11_misplaced l D cT T q hT hq a0 t0) gm_1503 gm_1500 gm_1502 gm_53 gm_124 (by decide +kernel) ⟨rfl, rfl, Nat.le_of_ble_eq_true rfl, Nat.le_of_ble_eq_true rfl⟩ t0 km_0 rfl rfl hl.1 rfl (Nat.le_of_ble_eq_true rfl) dX11_fresh_18 ⟨Nat.zero_le _, Nat.zero_le _⟩ (fun wq21 q21 H locs hEq21 hH hS hF1 => ?_)
        obtain ⟨rfl, hqq21, g0q21, pq21_0⟩ := hEq21
        show W p l e (rmk 2 44) s m [.ref a0, .int y1].toArray below meth c H locs 0 0 (MQ below (th_QM D cT T (fun v q2 => (∃ r : Int64, v = some (.long r)) ∧ qkm q2 ∧ fr [27, 28, 29, 30, 31] q q2 ∧ (TS q2) ∧ (q 27 ≤ q2 27) ∧ (GD q q2)) [0]) [.ref a0, .int y1].toArray s 0 0 (th_A T [0])) (F0 m 21 ls [])
        have pq21_0 : 1 ≤ q21 30 := pq21_0
        have wq21_26 : q21 26 = q 26 := g0q21 26 (by decide) (Or.inl (by decide))
        have wq21_27 : q21 27 = q 27 := g0q21 27 (by decide) (Or.inl (by decide))
        have wq21_28 : q21 28 = q 28 := g0q21 28 (by decide) (Or.inl (by decide))
        have wq21_29 : q21 29 = q 29 := g0q21 29 (by decide) (Or.inl (by decide))
        have wq21_31 : q21 31 = q 31 := g0q21 31 (by decide) (Or.inl (by decide))
        have h0q21 : fr [27, 28, 29, 30, 31] q q21 := fr_tr fr_rf g0q21 (by decide)
        have bgq21 : bg q q21 := bg_fr bg_rf g0q21 (by decide)
        have gdq21 : GD q q21 := GD_tr (GD_eq rfl) (GD_no pq21_0)
        have gbq21 : GD q q21 := GD_tr (GD_eq rfl) (GD_no pq21_0)
        have txq21 : tx q q21 := tx_tr tx_rf (tx_bg (bg_fr bg_rf g0q21 (by decide)))
        refine lv_goto (tgt := 37) hx hb dX11_fresh_21 (by decide) ?_
        exact J37 q21 H locs ls hqq21 h0q21 (show TS q21 by exact (TS_mv hp0 txq21 (by omega) (by omega) (by omega) (by omega) (by omega) (fun z => by omega))) (show q 27 ≤ q21 27 by omega) (show GD q q21 by exact gdq21) hH hS (lv_sub hl [0] rfl)
    · skip
      have rlc9 : x8.toInt = (0 : Int) := congrArg Int32.toInt c9
      clear ox8_0
      have ox8_1r := ox8_1 rlc9
      clear ox8_1
      have ir22 : IV x8 0 0 := iv_eL c9 (iv_c (by decide) : IV 0 0 0)
      have ir22a := ir22.1; have ir22b := ir22.2
      refine lv_lconst (v := 0) hx hb dX11_fresh_7 (by decide) ?_
      exact th_lretM S hK hH hS hr hlocks ⟨⟨_, rfl⟩, hq, fr_rf, (show TS q by exact hp0), (show q 27 ≤ q 27 by omega), (show GD q q by exact (GD_eq rfl))⟩ dX11_fresh_8
  exact J0 s.heap [] ls hH va_S.rf hl

set_option maxHeartbeats 20000000 in
set_option maxRecDepth 100000 in
theorem m_X11_readFood (l : Launch) (D : va_G) (cT : Nat → ClassId) (T : Nat → Option Nat) (q : Nat → Int) (hT : tokm T) (hq : qkm q) (a0 : Nat) (t0 : T a0 = some 0) (hp0 : TS q) (hp1 : q 13 = 1 - q 10) (hp2 : q 17 ≤ 2) : th_MetM l D cT T q yX11_readFood cX11_readFood 1 none (rmk 3 67) [.ref a0] (fun v q2 => v = none ∧ qkm q2 ∧ fr [17, 27, 28, 29, 30, 31] q q2 ∧ (TS q2) ∧ (q 27 ≤ q2 27) ∧ (GD q q2)) [0, 3, 10, 25] := by
  refine th_startM (by decide) (Nat.le_of_ble_eq_true rfl) ?_
  intro p e s m below meth c ls S hK hH hr hlocks hnm hl
  have hx := S.1
  have hb := S.2.1
  have hl : lv_has ls 1 [(0, .ref a0)] := hl
  have J0 : ∀ (H : Heap) (locs : List Loc) (ls : Array Slot), th_H D cT T (km q) H → va_S (th_A T [0, 3, 10, 25]) s.heap H locs → lv_has ls 1 [(0, .ref a0)] → W p l e (rmk 3 67) s m [.ref a0].toArray below meth c H locs 0 0 (MQ below (th_QM D cT T (fun v q2 => v = none ∧ qkm q2 ∧ fr [17, 27, 28, 29, 30, 31] q q2 ∧ (TS q2) ∧ (q 27 ≤ q2 27) ∧ (GD q q2)) [0, 3, 10, 25]) [.ref a0].toArray s 0 0 (th_A T [0, 3, 10, 25])) (F0 m 0 ls []) := by
    intro H locs ls hH hS hl
    refine lv_aload_n hx hb dX11_readFood_0 rfl (lv_at hl 0 rfl) ?_
    refine th_get S hK hH inG11 t0 km_0 rfl 33 (by decide) gm_1263 rfl rfl dX11_readFood_1 (fun v1 hv1 fv1 => ?_)
    obtain ⟨rf2, rfl, trf2⟩ := th_V.ref hv1
    refine lv_iconst (v := 3) hx hb dX11_readFood_4 (by decide) ?_
    refine lv_aload_n hx hb dX11_readFood_5 rfl (lv_at hl 0 rfl) ?_
    refine th_get S hK hH inG11 t0 km_0 rfl 42 (by decide) gm_1272 rfl rfl dX11_readFood_6 (fun v3 hv3 fv3 => ?_)
    obtain ⟨x4, rfl, ix4⟩ := th_V.int hv3
    have kx4a : q 13 ≤ x4.toInt := ix4.1
    have kx4b : x4.toInt ≤ q 13 := ix4.2
    have bx4 := qkm_13 hq
    have ix4 : IV x4 0 1 := iv_w ix4 (qkm_13 hq)
    refine lv_imul hx hb dX11_readFood_9 ?_
    refine lv_topi (fun x5 ex5 => ?_)
    have ix5 : IV x5 0 3 := by rw [ex5]; exact iv_mul (iv_c (by decide) : IV 3 3 3) ix4 (by decide) (by decide)
    have ux5 : x5.toInt = (3 : Int) * x4.toInt := by rw [ex5]; exact iv_mulE (iv_corner ((iv_c (by decide) : IV 3 3 3)).1 ((iv_c (by decide) : IV 3 3 3)).2 (ix4).1 (ix4).2 (by decide))
    refine lv_aload_n hx hb dX11_readFood_10 rfl (lv_at hl 0 rfl) ?_
    refine th_get S hK hH inG11 t0 km_0 rfl 11 (by decide) gm_1241 rfl rfl dX11_readFood_11 (fun v6 hv6 fv6 => ?_)
    obtain ⟨rf7, rfl, trf7⟩ := th_V.ref hv6
    refine lv_aload_n hx hb dX11_readFood_14 rfl (lv_at hl 0 rfl) ?_
    refine th_get S hK hH inG11 t0 km_0 rfl 42 (by decide) gm_1272 rfl rfl dX11_readFood_15 (fun v8 hv8 fv8 => ?_)
    obtain ⟨x9, rfl, ix9⟩ := th_V.int hv8
    have kx9a : q 13 ≤ x9.toInt := ix9.1
    have kx9b : x9.toInt ≤ q 13 := ix9.2
    have bx9 := qkm_13 hq
    have ix9 : IV x9 0 1 := iv_w ix9 (qkm_13 hq)
    refine th_iald S hK hH trf7 km_3 (th_in (hi := 1) ix9 (by decide)) dX11_readFood_18 (fun v10 hv10 => ?_)
    obtain ⟨x11, rfl, ix11⟩ := th_bkB hv10 ix9 (by omega)
    have kx11a : q 17 ≤ x11.toInt := ix11.1
    have kx11b : x11.toInt ≤ q 17 := ix11.2
    have bx11 := qkm_17 hq
    have ix11 : IV x11 0 2 := iv_w ix11 ⟨by omega, by omega⟩
    refine lv_iadd hx hb dX11_readFood_19 ?_
    refine lv_topi (fun x12 ex12 => ?_)
    have ix12 : IV x12 0 5 := by rw [ex12]; exact iv_add ix5 ix11 (by decide)
    have ux12 : x12.toInt = x5.toInt + x11.toInt := by rw [ex12]; exact iv_addE (by have z1 := (ix5).1; have z2 := (ix5).2; have z3 := (ix11).1; have z4 := (ix11).2; omega)
    refine lv_aload_n hx hb dX11_readFood_20 rfl (lv_at hl 0 rfl) ?_
    refine lv_aload_n hx hb dX11_readFood_21 rfl (lv_at hl 0 rfl) ?_
    refine th_callVi (n := 0) (As := []) S hK hH hS (th_A.sub (by decide)) (m_X11_foodHere l D cT T q hT hq a0 t0) gm_1515 gm_1512 gm_1514 gm_56 gm_124 (by decide +kernel) ⟨rfl, rfl, Nat.le_of_ble_eq_true rfl, Nat.le_of_ble_eq_true rfl⟩ t0 km_0 rfl rfl hl.1 rfl (Nat.le_of_ble_eq_true rfl) dX11_readFood_22 ⟨Nat.zero_le _, Nat.zero_le _⟩ (fun x13 H locs ix13 hH hS hF1 => ?_)
    have l1x13 := ix13.1; have l2x13 := ix13.2
    have f14 := fv6.kept (hF1 _ fv6.lt (th_off t0 (by decide)))
    refine th_callVM (n := 1) (As := [.int x13]) S hK hH hS (th_A.sub (by decide)) (m_X11_fresh l D cT T q hT hq a0 t0 (x13) (iv_top _) (show TS q by exact hp0)) gm_1523 gm_1520 gm_1522 gm_58 gm_124 (by decide +kernel) ⟨rfl, rfl, Nat.le_of_ble_eq_true rfl, Nat.le_of_ble_eq_true rfl⟩ t0 km_0 rfl rfl hl.1 rfl (Nat.le_of_ble_eq_true rfl) dX11_readFood_25 ⟨Nat.zero_le _, Nat.zero_le _⟩ (fun wq15 q15 H locs hEq15 hH hS hF1 => ?_)
    obtain ⟨⟨lg16, rfl⟩, hqq15, g0q15, pq15_0, pq15_1, pq15_2⟩ := hEq15
    show W p l e (rmk 3 67) s m [.ref a0].toArray below meth c H locs 0 0 (MQ below (th_QM D cT T (fun v q2 => v = none ∧ qkm q2 ∧ fr [17, 27, 28, 29, 30, 31] q q2 ∧ (TS q2) ∧ (q 27 ≤ q2 27) ∧ (GD q q2)) [0, 3, 10, 25]) [.ref a0].toArray s 0 0 (th_A T [0, 3, 10, 25])) (F0 m 28 ls [.long lg16, .int x12, .ref rf2])
    have pq15_0 : TS q15 := pq15_0
    have pq15_1 : q 27 ≤ q15 27 := pq15_1
    have pq15_2 : GD q q15 := pq15_2
    have wq15_10 : q15 10 = q 10 := g0q15 10 (by decide) (Or.inl (by decide))
    have wq15_13 : q15 13 = q 13 := g0q15 13 (by decide) (Or.inl (by decide))
    have wq15_17 : q15 17 = q 17 := g0q15 17 (by decide) (Or.inl (by decide))
    have wq15_26 : q15 26 = q 26 := g0q15 26 (by decide) (Or.inl (by decide))
    have h0q15 : fr [17, 27, 28, 29, 30, 31] q q15 := fr_tr fr_rf g0q15 (by decide)
    have bgq15 : bg q q15 := bg_fr bg_rf g0q15 (by decide)
    have gdq15 : GD q q15 := GD_tr (GD_eq rfl) pq15_2
    have gbq15 : GD q q15 := GD_tr (GD_eq rfl) pq15_2
    refine th_last S hK hH hS ⟨25, by decide, trf2⟩ trf2 km_25 (th_in (hi := 5) ix12 (by decide)) (th_lg _) dX11_readFood_28 (fun H locs hH hS hq1 => ?_)
    refine lv_aload_n hx hb dX11_readFood_29 rfl (lv_at hl 0 rfl) ?_
    refine th_get S hK hH inG11 t0 km_0 rfl 18 (by decide) gm_1248 rfl rfl dX11_readFood_30 (fun v17 hv17 fv17 => ?_)
    obtain ⟨rf18, rfl, trf18⟩ := th_V.ref hv17
    refine lv_iconst (v := 3) hx hb dX11_readFood_33 (by decide) ?_
    refine lv_aload_n hx hb dX11_readFood_34 rfl (lv_at hl 0 rfl) ?_
    refine th_get S hK hH inG11 t0 km_0 rfl 42 (by decide) gm_1272 rfl rfl dX11_readFood_35 (fun v19 hv19 fv19 => ?_)
    obtain ⟨x20, rfl, ix20⟩ := th_V.int hv19
    have kx20a : q15 13 ≤ x20.toInt := ix20.1
    have kx20b : x20.toInt ≤ q15 13 := ix20.2
    have bx20 := qkm_13 hqq15
    have ix20 : IV x20 0 1 := iv_w ix20 (qkm_13 hqq15)
    refine lv_imul hx hb dX11_readFood_38 ?_
    refine lv_topi (fun x21 ex21 => ?_)
    have ix21 : IV x21 0 3 := by rw [ex21]; exact iv_mul (iv_c (by decide) : IV 3 3 3) ix20 (by decide) (by decide)
    have ux21 : x21.toInt = (3 : Int) * x20.toInt := by rw [ex21]; exact iv_mulE (iv_corner ((iv_c (by decide) : IV 3 3 3)).1 ((iv_c (by decide) : IV 3 3 3)).2 (ix20).1 (ix20).2 (by decide))
    refine lv_aload_n hx hb dX11_readFood_39 rfl (lv_at hl 0 rfl) ?_
    refine th_get S hK hH inG11 t0 km_0 rfl 11 (by decide) gm_1241 rfl rfl dX11_readFood_40 (fun v22 hv22 fv22 => ?_)
    obtain ⟨rf23, rfl, trf23⟩ := th_V.ref hv22
    refine lv_aload_n hx hb dX11_readFood_43 rfl (lv_at hl 0 rfl) ?_
    refine th_get S hK hH inG11 t0 km_0 rfl 42 (by decide) gm_1272 rfl rfl dX11_readFood_44 (fun v24 hv24 fv24 => ?_)
    obtain ⟨x25, rfl, ix25⟩ := th_V.int hv24
    have kx25a : q15 13 ≤ x25.toInt := ix25.1
    have kx25b : x25.toInt ≤ q15 13 := ix25.2
    have bx25 := qkm_13 hqq15
    have ix25 : IV x25 0 1 := iv_w ix25 (qkm_13 hqq15)
    refine th_iald S hK hH trf23 km_3 (th_in (hi := 1) ix25 (by decide)) dX11_readFood_47 (fun v26 hv26 => ?_)
    obtain ⟨x27, rfl, ix27⟩ := th_bkB hv26 ix25 (by omega)
    have kx27a : q15 17 ≤ x27.toInt := ix27.1
    have kx27b : x27.toInt ≤ q15 17 := ix27.2
    have bx27 := qkm_17 hqq15
    have ix27 : IV x27 0 2 := iv_w ix27 ⟨by omega, by omega⟩
    refine lv_iadd hx hb dX11_readFood_48 ?_
    refine lv_topi (fun x28 ex28 => ?_)
    have ix28 : IV x28 0 5 := by rw [ex28]; exact iv_add ix21 ix27 (by decide)
    have ux28 : x28.toInt = x21.toInt + x27.toInt := by rw [ex28]; exact iv_addE (by have z1 := (ix21).1; have z2 := (ix21).2; have z3 := (ix27).1; have z4 := (ix27).2; omega)
    refine lv_aload_n hx hb dX11_readFood_49 rfl (lv_at hl 0 rfl) ?_
    refine lv_iconst (v := 0) hx hb dX11_readFood_50 (by decide) ?_
    refine lv_bipush (v := 99) hx hb dX11_readFood_51 (by decide) ?_
    refine th_callVM (n := 2) (As := [.int 0, .int 99]) S hK hH hS (th_A.sub (by decide)) (m_X11_numeral l D cT T q15 hT hqq15 a0 t0 (0) (iv_top _) (99) (iv_top _) (show TS q15 by exact pq15_0)) gm_1527 gm_1524 gm_1526 gm_59 gm_124 (by decide +kernel) ⟨rfl, rfl, Nat.le_of_ble_eq_true rfl, Nat.le_of_ble_eq_true rfl⟩ t0 km_0 rfl rfl hl.1 rfl (Nat.le_of_ble_eq_true rfl) dX11_readFood_53 ⟨Nat.zero_le _, Nat.zero_le _⟩ (fun wq29 q29 H locs hEq29 hH hS hF1 => ?_)
    obtain ⟨x30, rfl, ix30, hqq29, g0q29, pq29_0, pq29_1, pq29_2⟩ := hEq29
    show W p l e (rmk 3 67) s m [.ref a0].toArray below meth c H locs 0 0 (MQ below (th_QM D cT T (fun v q2 => v = none ∧ qkm q2 ∧ fr [17, 27, 28, 29, 30, 31] q q2 ∧ (TS q2) ∧ (q 27 ≤ q2 27) ∧ (GD q q2)) [0, 3, 10, 25]) [.ref a0].toArray s 0 0 (th_A T [0, 3, 10, 25])) (F0 m 56 ls [.int x30, .int x28, .ref rf18])
    have pq29_0 : TS q29 := pq29_0
    have pq29_1 : q15 27 ≤ q29 27 := pq29_1
    have pq29_2 : GD q15 q29 := pq29_2
    have wq29_10 : q29 10 = q15 10 := g0q29 10 (by decide) (Or.inl (by decide))
    have wq29_13 : q29 13 = q15 13 := g0q29 13 (by decide) (Or.inl (by decide))
    have wq29_17 : q29 17 = q15 17 := g0q29 17 (by decide) (Or.inl (by decide))
    have wq29_26 : q29 26 = q15 26 := g0q29 26 (by decide) (Or.inl (by decide))
    have h0q29 : fr [17, 27, 28, 29, 30, 31] q q29 := fr_tr h0q15 g0q29 (by decide)
    have bgq29 : bg q q29 := bg_fr bgq15 g0q29 (by decide)
    have gdq29 : GD q q29 := GD_tr gdq15 pq29_2
    have gbq29 : GD q q29 := GD_tr gbq15 pq29_2
    refine th_iast S hK hH hS ⟨10, by decide, trf18⟩ trf18 km_10 (th_in (hi := 5) ix28 (by decide)) (th_iv ix30) dX11_readFood_56 (fun H locs hH hS hq1 => ?_)
    refine lv_aload_n hx hb dX11_readFood_57 rfl (lv_at hl 0 rfl) ?_
    refine th_get S hK hH inG11 t0 km_0 rfl 11 (by decide) gm_1241 rfl rfl dX11_readFood_58 (fun v31 hv31 fv31 => ?_)
    obtain ⟨rf32, rfl, trf32⟩ := th_V.ref hv31
    refine lv_aload_n hx hb dX11_readFood_61 rfl (lv_at hl 0 rfl) ?_
    refine th_get S hK hH inG11 t0 km_0 rfl 42 (by decide) gm_1272 rfl rfl dX11_readFood_62 (fun v33 hv33 fv33 => ?_)
    obtain ⟨x34, rfl, ix34⟩ := th_V.int hv33
    have kx34a : q29 13 ≤ x34.toInt := ix34.1
    have kx34b : x34.toInt ≤ q29 13 := ix34.2
    have bx34 := qkm_13 hqq29
    have ix34 : IV x34 0 1 := iv_w ix34 (qkm_13 hqq29)
    refine lv_dup2_11 hx hb dX11_readFood_65 rfl rfl ?_
    refine th_iald S hK hH trf32 km_3 (th_in (hi := 1) ix34 (by decide)) dX11_readFood_66 (fun v35 hv35 => ?_)
    obtain ⟨x36, rfl, ix36⟩ := th_bkB hv35 ix34 (by omega)
    have kx36a : q29 17 ≤ x36.toInt := ix36.1
    have kx36b : x36.toInt ≤ q29 17 := ix36.2
    have bx36 := qkm_17 hqq29
    have ix36 : IV x36 0 2 := iv_w ix36 ⟨by omega, by omega⟩
    refine lv_iconst (v := 1) hx hb dX11_readFood_67 (by decide) ?_
    refine lv_iadd hx hb dX11_readFood_68 ?_
    refine lv_topi (fun x37 ex37 => ?_)
    have ix37 : IV x37 1 3 := by rw [ex37]; exact iv_add ix36 (iv_c (by decide) : IV 1 1 1) (by decide)
    have ux37 : x37.toInt = x36.toInt + (1 : Int) := by rw [ex37]; exact iv_addE (by have z1 := (ix36).1; have z2 := (ix36).2; have z3 := ((iv_c (by decide) : IV 1 1 1)).1; have z4 := ((iv_c (by decide) : IV 1 1 1)).2; omega)
    obtain ⟨n38, en38⟩ : ∃ z : Int, z = Int32.toInt x37 := ⟨_, rfl⟩
    refine mst_3 S hK hH hS ⟨3, by decide, trf32⟩ hT trf32 en38 (qkm_10 hqq29) ix34 (by omega) dX11_readFood_69 (fun q39 H locs eq39 hH hS hq1 => ?_)
    have hqq39 : qkm q39 := by rw [eq39]; exact qum_ok17 hqq29 (iv_z en38 (iv_w ix37 (by decide)))
    have h0q39 : fr [17, 27, 28, 29, 30, 31] q q39 := by rw [eq39]; exact fr_up h0q29 (by decide)
    have wq39_10 : q39 10 = q29 10 := by rw [eq39]; rfl
    have wq39_13 : q39 13 = q29 13 := by rw [eq39]; rfl
    have wq39_17 : q39 17 = n38 := by rw [eq39]; rfl
    have wq39_26 : q39 26 = q29 26 := by rw [eq39]; rfl
    have wq39_27 : q39 27 = q29 27 := by rw [eq39]; rfl
    have wq39_28 : q39 28 = q29 28 := by rw [eq39]; rfl
    have wq39_29 : q39 29 = q29 29 := by rw [eq39]; rfl
    have wq39_30 : q39 30 = q29 30 := by rw [eq39]; rfl
    have wq39_31 : q39 31 = q29 31 := by rw [eq39]; rfl
    have bgq39 : bg q q39 := bg_up bgq29 eq39 (by decide)
    have gdq39 : GD q q39 := GD_tr gdq29 (GD_eq wq39_30)
    have gbq39 : GD q q39 := GD_tr gbq29 (GD_eq wq39_30)
    have txq39 : tx q29 q39 := tx_tr tx_rf (tx_up eq39 (by omega))
    have f40 := fv31.kept (hq1 _ (th_ne t0 trf32 (by decide)))
    exact th_vretM S hK hH hS hr hlocks ⟨rfl, hqq39, h0q39, (show TS q39 by exact (TS_mv pq29_0 txq39 (by omega) (by omega) (by omega) (by omega) (by omega) (fun z => by omega))), (show q 27 ≤ q39 27 by omega), (show GD q q39 by exact gdq39)⟩ dX11_readFood_70
  exact J0 s.heap [] ls hH va_S.rf hl
