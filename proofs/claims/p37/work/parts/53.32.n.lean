
set_option maxHeartbeats 20000000 in
set_option maxRecDepth 100000 in
theorem m_X11_readLine (l : Launch) (D : va_G) (cT : Nat → ClassId) (T : Nat → Option Nat) (q : Nat → Int) (hT : tokm T) (hq : qkm q) (a0 : Nat) (t0 : T a0 = some 0) (hp0 : TS q) (hp1 : q 13 = 1 - q 10) (hp2 : q 30 = 0) (hp3 : MB1 q (q 14) (q 15)) : th_MetM l D cT T q yX11_readLine cX11_readLine 3 none (rmk 7 151) [.ref a0] (fun v q2 => v = none ∧ qkm q2 ∧ fr [14, 15, 17, 19, 20, 21, 22, 23, 24, 27, 28, 29, 30, 31, 1000, 35] q q2 ∧ (TS q2) ∧ (q 27 ≤ q2 27) ∧ (MB q2 (q2 14) (q2 15)) ∧ (LM q q2) ∧ (GD q q2)) [0, 3, 4, 5, 6, 7, 8, 9, 10, 11, 12, 13, 14, 15, 16, 17, 18, 19, 20, 21, 22, 23, 24, 25, 26, 27, 28, 29, 30, 31] := by
  refine th_startM (by decide) (Nat.le_of_ble_eq_true rfl) ?_
  intro p e s m below meth c ls S hK hH hr hlocks hnm hl
  have hx := S.1
  have hb := S.2.1
  have c10 := qkm_10 hq; have c13 := qkm_13 hq; have c14 := qkm_14 hq; have c15 := qkm_15 hq; have c20 := qkm_20 hq; have c27 := qkm_27 hq
  have mb0 : MB q (q 14) (q 15) := fun _ => hp3
  have hl : lv_has ls 3 [(0, .ref a0)] := hl
  have J172 := J172_X11_readLine l D cT T q hT hq a0 t0 hp0 hp1 hp2 hp3 p e s m below meth c S hK hr hlocks
  have J137 := J137_X11_readLine l D cT T q hT hq a0 t0 hp0 hp1 hp2 hp3 p e s m below meth c S hK hr hlocks
  have J119 := J119_X11_readLine l D cT T q hT hq a0 t0 hp0 hp1 hp2 hp3 p e s m below meth c S hK hr hlocks
  have J96 := J96_X11_readLine l D cT T q hT hq a0 t0 hp0 hp1 hp2 hp3 p e s m below meth c S hK hr hlocks
  have J84 := J84_X11_readLine l D cT T q hT hq a0 t0 hp0 hp1 hp2 hp3 p e s m below meth c S hK hr hlocks
  have J72 := J72_X11_readLine l D cT T q hT hq a0 t0 hp0 hp1 hp2 hp3 p e s m below meth c S hK hr hlocks
  have J60 := J60_X11_readLine l D cT T q hT hq a0 t0 hp0 hp1 hp2 hp3 p e s m below meth c S hK hr hlocks
  have J48 := J48_X11_readLine l D cT T q hT hq a0 t0 hp0 hp1 hp2 hp3 p e s m below meth c S hK hr hlocks
  have J0 : ∀ (H : Heap) (locs : List Loc) (ls : Array Slot), th_H D cT T (km q) H → va_S (th_A T [0, 3, 4, 5, 6, 7, 8, 9, 10, 11, 12, 13, 14, 15, 16, 17, 18, 19, 20, 21, 22, 23, 24, 25, 26, 27, 28, 29, 30, 31]) s.heap H locs → lv_has ls 3 [(0, .ref a0)] → W p l e (rmk 7 151) s m [.ref a0].toArray below meth c H locs 0 0 (MQ below (th_QM D cT T (fun v q2 => v = none ∧ qkm q2 ∧ fr [14, 15, 17, 19, 20, 21, 22, 23, 24, 27, 28, 29, 30, 31, 1000, 35] q q2 ∧ (TS q2) ∧ (q 27 ≤ q2 27) ∧ (MB q2 (q2 14) (q2 15)) ∧ (LM q q2) ∧ (GD q q2)) [0, 3, 4, 5, 6, 7, 8, 9, 10, 11, 12, 13, 14, 15, 16, 17, 18, 19, 20, 21, 22, 23, 24, 25, 26, 27, 28, 29, 30, 31]) [.ref a0].toArray s 0 0 (th_A T [0, 3, 4, 5, 6, 7, 8, 9, 10, 11, 12, 13, 14, 15, 16, 17, 18, 19, 20, 21, 22, 23, 24, 25, 26, 27, 28, 29, 30, 31])) (F0 m 0 ls []) := by
    intro H locs ls hH hS hl
    refine lv_aload_n hx hb dX11_readLine_0 rfl (lv_at hl 0 rfl) ?_
    refine th_getM S hK hH inG11 t0 km_0 rfl 10 (by decide) gm_1240 rfl rfl dX11_readLine_1 (fun v49 hv49 wv49 => ?_)
    obtain ⟨lg50, rfl⟩ := th_V.long hv49
    have klg50 : lg50.toInt = q 31 := by obtain ⟨vs, z1, z2⟩ := wv49; exact z2 _ z1
    refine lv_lstore_n (lv' := [(1, .long lg50), (0, .ref a0)]) hx hb dX11_readLine_4 rfl hl (by decide) rfl (fun ls hl => ?_)
    refine lv_aload_n hx hb dX11_readLine_5 rfl (lv_at hl 1 rfl) ?_
    refine th_get S hK hH inG11 t0 km_0 rfl 8 (by decide) gm_1238 rfl rfl dX11_readLine_6 (fun v51 hv51 fv51 => ?_)
    obtain ⟨x52, rfl, ix52⟩ := th_V.int hv51
    have kx52 : x52.toInt = q 29 := Int.le_antisymm ix52.2 ix52.1
    have bx52 := qkm_29 hq
    have ix52 : IV x52 0 5 := iv_w ix52 (qkm_29 hq)
    refine lv_iconst (v := 3) hx hb dX11_readLine_9 (by decide) ?_
    refine lv_icmp_ne (tgt := 20) hx hb dX11_readLine_10 (by decide) (fun c53 => ?_) (fun c53 => ?_)
    · skip
      have rlc53 : x52.toInt ≠ (3 : Int) := iv_ne c53
      clear rlc53
      refine lv_aload_n hx hb dX11_readLine_20 rfl (lv_at hl 1 rfl) ?_
      refine th_callVM (n := 0) (As := []) S hK hH hS (th_A.sub (by decide)) (m_X11_misplaced l D cT T q hT hq a0 t0) gm_1503 gm_1500 gm_1502 gm_53 gm_124 (by decide +kernel) ⟨rfl, rfl, Nat.le_of_ble_eq_true rfl, Nat.le_of_ble_eq_true rfl⟩ t0 km_0 rfl rfl hl.1 rfl (Nat.le_of_ble_eq_true rfl) dX11_readLine_21 ⟨Nat.zero_le _, Nat.zero_le _⟩ (fun wq54 q54 H locs hEq54 hH hS hF1 => ?_)
      obtain ⟨rfl, hqq54, g0q54, pq54_0⟩ := hEq54
      show W p l e (rmk 7 151) s m [.ref a0].toArray below meth c H locs 0 0 (MQ below (th_QM D cT T (fun v q2 => v = none ∧ qkm q2 ∧ fr [14, 15, 17, 19, 20, 21, 22, 23, 24, 27, 28, 29, 30, 31, 1000, 35] q q2 ∧ (TS q2) ∧ (q 27 ≤ q2 27) ∧ (MB q2 (q2 14) (q2 15)) ∧ (LM q q2) ∧ (GD q q2)) [0, 3, 4, 5, 6, 7, 8, 9, 10, 11, 12, 13, 14, 15, 16, 17, 18, 19, 20, 21, 22, 23, 24, 25, 26, 27, 28, 29, 30, 31]) [.ref a0].toArray s 0 0 (th_A T [0, 3, 4, 5, 6, 7, 8, 9, 10, 11, 12, 13, 14, 15, 16, 17, 18, 19, 20, 21, 22, 23, 24, 25, 26, 27, 28, 29, 30, 31])) (F0 m 24 ls [])
      have pq54_0 : 1 ≤ q54 30 := pq54_0
      have wq54_10 : q54 10 = q 10 := g0q54 10 (by decide) (Or.inl (by decide))
      have wq54_13 : q54 13 = q 13 := g0q54 13 (by decide) (Or.inl (by decide))
      have wq54_14 : q54 14 = q 14 := g0q54 14 (by decide) (Or.inl (by decide))
      have wq54_15 : q54 15 = q 15 := g0q54 15 (by decide) (Or.inl (by decide))
      have wq54_17 : q54 17 = q 17 := g0q54 17 (by decide) (Or.inl (by decide))
      have wq54_19 : q54 19 = q 19 := g0q54 19 (by decide) (Or.inl (by decide))
      have wq54_20 : q54 20 = q 20 := g0q54 20 (by decide) (Or.inl (by decide))
      have wq54_21 : q54 21 = q 21 := g0q54 21 (by decide) (Or.inl (by decide))
      have wq54_22 : q54 22 = q 22 := g0q54 22 (by decide) (Or.inl (by decide))
      have wq54_23 : q54 23 = q 23 := g0q54 23 (by decide) (Or.inl (by decide))
      have wq54_24 : q54 24 = q 24 := g0q54 24 (by decide) (Or.inl (by decide))
      have wq54_26 : q54 26 = q 26 := g0q54 26 (by decide) (Or.inl (by decide))
      have wq54_27 : q54 27 = q 27 := g0q54 27 (by decide) (Or.inl (by decide))
      have wq54_28 : q54 28 = q 28 := g0q54 28 (by decide) (Or.inl (by decide))
      have wq54_29 : q54 29 = q 29 := g0q54 29 (by decide) (Or.inl (by decide))
      have wq54_31 : q54 31 = q 31 := g0q54 31 (by decide) (Or.inl (by decide))
      have wq54_35 : q54 35 = q 35 := g0q54 35 (by decide) (Or.inl (by decide))
      have h0q54 : fr [14, 15, 17, 19, 20, 21, 22, 23, 24, 27, 28, 29, 30, 31, 1000, 35] q q54 := fr_tr fr_rf g0q54 (by decide)
      have bgq54 : bg q q54 := bg_fr bg_rf g0q54 (by decide)
      have gdq54 : GD q q54 := GD_tr (GD_eq rfl) (GD_no pq54_0)
      have gbq54 : GD q q54 := GD_tr (GD_eq rfl) (GD_no pq54_0)
      have txq54 : tx q q54 := tx_tr tx_rf (tx_bg (bg_fr bg_rf g0q54 (by decide)))
      refine lv_aload_n hx hb dX11_readLine_24 rfl (lv_at hl 1 rfl) ?_
      refine th_callVp (n := 0) (As := []) S hK hH hS (th_A.sub (by decide)) (m_X11_isGood l D cT T q54 hT hqq54 a0 t0) gm_1487 gm_1484 gm_1486 gm_49 gm_124 (by decide +kernel) ⟨rfl, rfl, Nat.le_of_ble_eq_true rfl, Nat.le_of_ble_eq_true rfl⟩ t0 km_0 rfl rfl hl.1 rfl (Nat.le_of_ble_eq_true rfl) dX11_readLine_25 ⟨Nat.zero_le _, Nat.zero_le _⟩ (fun x55 H locs ix55 ox55 hH hS hF1 => ?_)
      obtain ⟨ox55_0, ox55_1⟩ := ox55
      have ox55_0 : x55.toInt ≠ 0 → q54 30 = 0 := ox55_0
      have ox55_1 : x55.toInt = 0 → 1 ≤ q54 30 := ox55_1
      have l1x55 := ix55.1; have l2x55 := ix55.2
      refine lv_if_ne (tgt := 32) hx hb dX11_readLine_28 (by decide) (fun c56 => ?_) (fun c56 => ?_)
      · skip
        have rlc56 : x55.toInt ≠ (0 : Int) := iv_ne c56
        have ox55_0r := ox55_0 rlc56
        clear ox55_0
        clear ox55_1
        have ir57 : IV x55 1 1 := iv_cutL ix55 (iv_c (by decide) : IV 0 0 0) c56 (by decide)
        have ir57a := ir57.1; have ir57b := ir57.2
        clear rlc56
        exfalso; omega
      · skip
        have rlc56 : x55.toInt = (0 : Int) := congrArg Int32.toInt c56
        clear ox55_0
        have ox55_1r := ox55_1 rlc56
        clear ox55_1
        have ir58 : IV x55 0 0 := iv_eL c56 (iv_c (by decide) : IV 0 0 0)
        have ir58a := ir58.1; have ir58b := ir58.2
        exact th_vretM S hK hH hS hr hlocks ⟨rfl, hqq54, h0q54, (show TS q54 by exact (TS_mv hp0 txq54 (by omega) (by omega) (by omega) (by omega) (by omega) (fun z => by omega))), (show q 27 ≤ q54 27 by omega), (show MB q54 (q54 14) (q54 15) by exact (MB_mv mb0 bgq54 gbq54 (by omega) (by omega) (by omega) (by omega) (by omega) (by omega) (by omega))), (show LM q q54 by exact fun z => absurd z (by omega)), (show GD q q54 by exact gdq54)⟩ dX11_readLine_31
    · skip
      have rlc53 : x52.toInt = (3 : Int) := congrArg Int32.toInt c53
      have ir59 : IV x52 3 3 := iv_eL c53 (iv_c (by decide) : IV 3 3 3)
      have ir59a := ir59.1; have ir59b := ir59.2
      refine lv_aload_n hx hb dX11_readLine_13 rfl (lv_at hl 1 rfl) ?_
      refine th_callVp (n := 0) (As := []) S hK hH hS (th_A.sub (by decide)) (m_X11_isFull l D cT T q hT hq a0 t0 (show q 13 = 1 - q 10 by omega)) gm_1495 gm_1492 gm_1494 gm_51 gm_124 (by decide +kernel) ⟨rfl, rfl, Nat.le_of_ble_eq_true rfl, Nat.le_of_ble_eq_true rfl⟩ t0 km_0 rfl rfl hl.1 rfl (Nat.le_of_ble_eq_true rfl) dX11_readLine_14 ⟨Nat.zero_le _, Nat.zero_le _⟩ (fun x60 H locs ix60 ox60 hH hS hF1 => ?_)
      have ox60 : x60.toInt = 0 → q 29 = 3 → FQ q (q 31) := ox60
      have l1x60 := ix60.1; have l2x60 := ix60.2
      refine lv_if_eq (tgt := 24) hx hb dX11_readLine_17 (by decide) (fun c61 => ?_) (fun c61 => ?_)
      · skip
        have rlc61 : x60.toInt = (0 : Int) := congrArg Int32.toInt c61
        have ox60r := ox60 rlc61
        clear ox60
        have ir62 : IV x60 0 0 := iv_eL c61 (iv_c (by decide) : IV 0 0 0)
        have ir62a := ir62.1; have ir62b := ir62.2
        refine lv_aload_n hx hb dX11_readLine_24 rfl (lv_at hl 1 rfl) ?_
        refine th_callVp (n := 0) (As := []) S hK hH hS (th_A.sub (by decide)) (m_X11_isGood l D cT T q hT hq a0 t0) gm_1487 gm_1484 gm_1486 gm_49 gm_124 (by decide +kernel) ⟨rfl, rfl, Nat.le_of_ble_eq_true rfl, Nat.le_of_ble_eq_true rfl⟩ t0 km_0 rfl rfl hl.1 rfl (Nat.le_of_ble_eq_true rfl) dX11_readLine_25 ⟨Nat.zero_le _, Nat.zero_le _⟩ (fun x63 H locs ix63 ox63 hH hS hF1 => ?_)
        obtain ⟨ox63_0, ox63_1⟩ := ox63
        have ox63_0 : x63.toInt ≠ 0 → q 30 = 0 := ox63_0
        have ox63_1 : x63.toInt = 0 → 1 ≤ q 30 := ox63_1
        have l1x63 := ix63.1; have l2x63 := ix63.2
        refine lv_if_ne (tgt := 32) hx hb dX11_readLine_28 (by decide) (fun c64 => ?_) (fun c64 => ?_)
        · skip
          have rlc64 : x63.toInt ≠ (0 : Int) := iv_ne c64
          have ox63_0r := ox63_0 rlc64
          clear ox63_0
          clear ox63_1
          have ir65 : IV x63 1 1 := iv_cutL ix63 (iv_c (by decide) : IV 0 0 0) c64 (by decide)
          have ir65a := ir65.1; have ir65b := ir65.2
          clear rlc64
          obtain ⟨hF1, hF2, hF3⟩ : FQ q (q 31) := ox60r (by omega)
          have hadv := TS_in hp0 (by omega)
          refine lv_aload_n hx hb dX11_readLine_32 rfl (lv_at hl 1 rfl) ?_
          have le65 := TS_le hp0
          refine th_callVM (n := 0) (As := []) S hK hH hS (th_A.sub (by decide)) (m_X11_goOn l D cT T q hT hq a0 t0 (show q 28 ≤ q 26 by exact (TS_le hp0).2)) gm_1445 gm_1442 gm_1444 gm_47 gm_124 (by decide +kernel) ⟨rfl, rfl, Nat.le_of_ble_eq_true rfl, Nat.le_of_ble_eq_true rfl⟩ t0 km_0 rfl rfl hl.1 rfl (Nat.le_of_ble_eq_true rfl) dX11_readLine_33 ⟨Nat.zero_le _, Nat.zero_le _⟩ (fun wq66 q66 H locs hEq66 hH hS hF1 => ?_)
          obtain ⟨rfl, hqq66, g0q66, pq66_0, pq66_1, pq66_2⟩ := hEq66
          show W p l e (rmk 7 151) s m [.ref a0].toArray below meth c H locs 0 0 (MQ below (th_QM D cT T (fun v q2 => v = none ∧ qkm q2 ∧ fr [14, 15, 17, 19, 20, 21, 22, 23, 24, 27, 28, 29, 30, 31, 1000, 35] q q2 ∧ (TS q2) ∧ (q 27 ≤ q2 27) ∧ (MB q2 (q2 14) (q2 15)) ∧ (LM q q2) ∧ (GD q q2)) [0, 3, 4, 5, 6, 7, 8, 9, 10, 11, 12, 13, 14, 15, 16, 17, 18, 19, 20, 21, 22, 23, 24, 25, 26, 27, 28, 29, 30, 31]) [.ref a0].toArray s 0 0 (th_A T [0, 3, 4, 5, 6, 7, 8, 9, 10, 11, 12, 13, 14, 15, 16, 17, 18, 19, 20, 21, 22, 23, 24, 25, 26, 27, 28, 29, 30, 31])) (F0 m 36 ls [])
          have pq66_0 : TS q66 := pq66_0
          have pq66_1 : q 28 ≤ q66 27 := pq66_1
          have pq66_2 : LX q q66 := pq66_2
          have wq66_10 : q66 10 = q 10 := g0q66 10 (by decide) (Or.inl (by decide))
          have wq66_13 : q66 13 = q 13 := g0q66 13 (by decide) (Or.inl (by decide))
          have wq66_14 : q66 14 = q 14 := g0q66 14 (by decide) (Or.inl (by decide))
          have wq66_15 : q66 15 = q 15 := g0q66 15 (by decide) (Or.inl (by decide))
          have wq66_17 : q66 17 = q 17 := g0q66 17 (by decide) (Or.inl (by decide))
          have wq66_19 : q66 19 = q 19 := g0q66 19 (by decide) (Or.inl (by decide))
          have wq66_20 : q66 20 = q 20 := g0q66 20 (by decide) (Or.inl (by decide))
          have wq66_21 : q66 21 = q 21 := g0q66 21 (by decide) (Or.inl (by decide))
          have wq66_22 : q66 22 = q 22 := g0q66 22 (by decide) (Or.inl (by decide))
          have wq66_23 : q66 23 = q 23 := g0q66 23 (by decide) (Or.inl (by decide))
          have wq66_24 : q66 24 = q 24 := g0q66 24 (by decide) (Or.inl (by decide))
          have wq66_26 : q66 26 = q 26 := g0q66 26 (by decide) (Or.inl (by decide))
          have wq66_30 : q66 30 = q 30 := g0q66 30 (by decide) (Or.inl (by decide))
          have wq66_35 : q66 35 = q 35 := g0q66 35 (by decide) (Or.inl (by decide))
          have h0q66 : fr [14, 15, 17, 19, 20, 21, 22, 23, 24, 27, 28, 29, 30, 31, 1000, 35] q q66 := fr_tr fr_rf g0q66 (by decide)
          have bgq66 : bg q q66 := bg_fr bg_rf g0q66 (by decide)
          have gdq66 : GD q q66 := GD_tr (GD_eq rfl) (GD_eq wq66_30)
          have gbq66 : GD q q66 := GD_tr (GD_eq rfl) (GD_eq wq66_30)
          have f14 := qkm_14 hqq66
          refine lv_lload_n hx hb dX11_readLine_36 rfl (lv_at hl 0 rfl) ?_
          refine lv_ldc2 (v := 1718579044) hx hb S.2.2.2.1 (S.2.2.2.2 _ gm_1456) dX11_readLine_37 ?_
          refine W.lcmp hx hb dX11_readLine_40 ?_
          refine lv_topi (fun x67 ex67 => ?_)
          have ix67 := iv_top x67
          have ax67 : x67.toInt = 0 → lg50.toInt = (1718579044 : Int) := lc_eq ex67
          have bx67 : x67.toInt ≠ 0 → lg50.toInt ≠ (1718579044 : Int) := lc_ne ex67
          refine lv_if_ne (tgt := 48) hx hb dX11_readLine_41 (by decide) (fun c68 => ?_) (fun c68 => ?_)
          · skip
            have rlc68 : x67.toInt ≠ (0 : Int) := iv_ne c68
            clear ax67
            have bx67r := bx67 rlc68
            clear bx67
            clear rlc68
            exact J48 q66 H locs ls lg50 hqq66 h0q66 (show TS q66 by exact pq66_0) (show GD q q66 by exact gdq66) (show MB q66 (q66 14) (q66 15) by exact (MB_mv mb0 bgq66 gbq66 (by omega) (by omega) (by omega) (by omega) (by omega) (by omega) (by omega))) (show q 27 < q66 27 ∧ q66 14 ≤ 4 by exact ⟨by omega, by omega⟩) (show lg50.toInt = 7168368 → q66 14 ≤ 3 ∧ q66 30 = 0 by exact fun z => ⟨by omega, by omega⟩) (show lg50.toInt = 482854658917 → q66 19 ≤ 7 by exact fun z => by omega) (show lg50.toInt = 499851162725 → q66 30 = 0 by exact fun z => by omega) hH hS (lv_sub hl [1, 0] rfl)
          · skip
            have rlc68 : x67.toInt = (0 : Int) := congrArg Int32.toInt c68
            have ax67r := ax67 rlc68
            clear ax67
            clear bx67
            have ir69 : IV x67 0 0 := iv_eL c68 (iv_c (by decide) : IV 0 0 0)
            have ir69a := ir69.1; have ir69b := ir69.2
            refine lv_aload_n hx hb dX11_readLine_44 rfl (lv_at hl 1 rfl) ?_
            refine th_callVM (n := 0) (As := []) S hK hH hS (th_A.sub (by decide)) (m_X11_readFood l D cT T q66 hT hqq66 a0 t0 (show TS q66 by exact pq66_0) (show q66 13 = 1 - q66 10 by omega) (show q66 17 ≤ 2 by omega)) gm_1511 gm_1508 gm_1510 gm_55 gm_124 (by decide +kernel) ⟨rfl, rfl, Nat.le_of_ble_eq_true rfl, Nat.le_of_ble_eq_true rfl⟩ t0 km_0 rfl rfl hl.1 rfl (Nat.le_of_ble_eq_true rfl) dX11_readLine_45 ⟨Nat.zero_le _, Nat.zero_le _⟩ (fun wq70 q70 H locs hEq70 hH hS hF1 => ?_)
            obtain ⟨rfl, hqq70, g0q70, pq70_0, pq70_1, pq70_2⟩ := hEq70
            show W p l e (rmk 7 151) s m [.ref a0].toArray below meth c H locs 0 0 (MQ below (th_QM D cT T (fun v q2 => v = none ∧ qkm q2 ∧ fr [14, 15, 17, 19, 20, 21, 22, 23, 24, 27, 28, 29, 30, 31, 1000, 35] q q2 ∧ (TS q2) ∧ (q 27 ≤ q2 27) ∧ (MB q2 (q2 14) (q2 15)) ∧ (LM q q2) ∧ (GD q q2)) [0, 3, 4, 5, 6, 7, 8, 9, 10, 11, 12, 13, 14, 15, 16, 17, 18, 19, 20, 21, 22, 23, 24, 25, 26, 27, 28, 29, 30, 31]) [.ref a0].toArray s 0 0 (th_A T [0, 3, 4, 5, 6, 7, 8, 9, 10, 11, 12, 13, 14, 15, 16, 17, 18, 19, 20, 21, 22, 23, 24, 25, 26, 27, 28, 29, 30, 31])) (F0 m 48 ls [])
            have pq70_0 : TS q70 := pq70_0
            have pq70_1 : q66 27 ≤ q70 27 := pq70_1
            have pq70_2 : GD q66 q70 := pq70_2
            have wq70_10 : q70 10 = q66 10 := g0q70 10 (by decide) (Or.inl (by decide))
            have wq70_13 : q70 13 = q66 13 := g0q70 13 (by decide) (Or.inl (by decide))
            have wq70_14 : q70 14 = q66 14 := g0q70 14 (by decide) (Or.inl (by decide))
            have wq70_15 : q70 15 = q66 15 := g0q70 15 (by decide) (Or.inl (by decide))
            have wq70_19 : q70 19 = q66 19 := g0q70 19 (by decide) (Or.inl (by decide))
            have wq70_20 : q70 20 = q66 20 := g0q70 20 (by decide) (Or.inl (by decide))
            have wq70_21 : q70 21 = q66 21 := g0q70 21 (by decide) (Or.inl (by decide))
            have wq70_22 : q70 22 = q66 22 := g0q70 22 (by decide) (Or.inl (by decide))
            have wq70_23 : q70 23 = q66 23 := g0q70 23 (by decide) (Or.inl (by decide))
            have wq70_24 : q70 24 = q66 24 := g0q70 24 (by decide) (Or.inl (by decide))
            have wq70_26 : q70 26 = q66 26 := g0q70 26 (by decide) (Or.inl (by decide))
            have wq70_35 : q70 35 = q66 35 := g0q70 35 (by decide) (Or.inl (by decide))
            have h0q70 : fr [14, 15, 17, 19, 20, 21, 22, 23, 24, 27, 28, 29, 30, 31, 1000, 35] q q70 := fr_tr h0q66 g0q70 (by decide)
            have bgq70 : bg q q70 := bg_fr bgq66 g0q70 (by decide)
            have gdq70 : GD q q70 := GD_tr gdq66 pq70_2
            have gbq70 : GD q q70 := GD_tr gbq66 pq70_2
            have f14 := qkm_14 hqq70
            exact J48 q70 H locs ls lg50 hqq70 h0q70 (show TS q70 by exact pq70_0) (show GD q q70 by exact gdq70) (show MB q70 (q70 14) (q70 15) by exact (MB_mv mb0 bgq70 gbq70 (by omega) (by omega) (by omega) (by omega) (by omega) (by omega) (by omega))) (show q 27 < q70 27 ∧ q70 14 ≤ 4 by exact ⟨by omega, by omega⟩) (show lg50.toInt = 7168368 → q70 14 ≤ 3 ∧ q70 30 = 0 by exact fun z => ⟨by omega, by omega⟩) (show lg50.toInt = 482854658917 → q70 19 ≤ 7 by exact fun z => by omega) (show lg50.toInt = 499851162725 → q70 30 = 0 by exact fun z => by omega) hH hS (lv_sub hl [1, 0] rfl)
        · skip
          have rlc64 : x63.toInt = (0 : Int) := congrArg Int32.toInt c64
          clear ox63_0
          have ox63_1r := ox63_1 rlc64
          clear ox63_1
          have ir71 : IV x63 0 0 := iv_eL c64 (iv_c (by decide) : IV 0 0 0)
          have ir71a := ir71.1; have ir71b := ir71.2
          exact th_vretM S hK hH hS hr hlocks ⟨rfl, hq, fr_rf, (show TS q by exact hp0), (show q 27 ≤ q 27 by omega), (show MB q (q 14) (q 15) by exact mb0), (show LM q q by exact fun z => absurd z (by omega)), (show GD q q by exact (GD_eq rfl))⟩ dX11_readLine_31
      · skip
        have rlc61 : x60.toInt ≠ (0 : Int) := iv_ne c61
        clear ox60
        have ir72 : IV x60 1 1 := iv_cutL ix60 (iv_c (by decide) : IV 0 0 0) c61 (by decide)
        have ir72a := ir72.1; have ir72b := ir72.2
        clear rlc61
        refine lv_aload_n hx hb dX11_readLine_20 rfl (lv_at hl 1 rfl) ?_
        refine th_callVM (n := 0) (As := []) S hK hH hS (th_A.sub (by decide)) (m_X11_misplaced l D cT T q hT hq a0 t0) gm_1503 gm_1500 gm_1502 gm_53 gm_124 (by decide +kernel) ⟨rfl, rfl, Nat.le_of_ble_eq_true rfl, Nat.le_of_ble_eq_true rfl⟩ t0 km_0 rfl rfl hl.1 rfl (Nat.le_of_ble_eq_true rfl) dX11_readLine_21 ⟨Nat.zero_le _, Nat.zero_le _⟩ (fun wq73 q73 H locs hEq73 hH hS hF1 => ?_)
        obtain ⟨rfl, hqq73, g0q73, pq73_0⟩ := hEq73
        show W p l e (rmk 7 151) s m [.ref a0].toArray below meth c H locs 0 0 (MQ below (th_QM D cT T (fun v q2 => v = none ∧ qkm q2 ∧ fr [14, 15, 17, 19, 20, 21, 22, 23, 24, 27, 28, 29, 30, 31, 1000, 35] q q2 ∧ (TS q2) ∧ (q 27 ≤ q2 27) ∧ (MB q2 (q2 14) (q2 15)) ∧ (LM q q2) ∧ (GD q q2)) [0, 3, 4, 5, 6, 7, 8, 9, 10, 11, 12, 13, 14, 15, 16, 17, 18, 19, 20, 21, 22, 23, 24, 25, 26, 27, 28, 29, 30, 31]) [.ref a0].toArray s 0 0 (th_A T [0, 3, 4, 5, 6, 7, 8, 9, 10, 11, 12, 13, 14, 15, 16, 17, 18, 19, 20, 21, 22, 23, 24, 25, 26, 27, 28, 29, 30, 31])) (F0 m 24 ls [])
        have pq73_0 : 1 ≤ q73 30 := pq73_0
        have wq73_10 : q73 10 = q 10 := g0q73 10 (by decide) (Or.inl (by decide))
        have wq73_13 : q73 13 = q 13 := g0q73 13 (by decide) (Or.inl (by decide))
        have wq73_14 : q73 14 = q 14 := g0q73 14 (by decide) (Or.inl (by decide))
        have wq73_15 : q73 15 = q 15 := g0q73 15 (by decide) (Or.inl (by decide))
        have wq73_17 : q73 17 = q 17 := g0q73 17 (by decide) (Or.inl (by decide))
        have wq73_19 : q73 19 = q 19 := g0q73 19 (by decide) (Or.inl (by decide))
        have wq73_20 : q73 20 = q 20 := g0q73 20 (by decide) (Or.inl (by decide))
        have wq73_21 : q73 21 = q 21 := g0q73 21 (by decide) (Or.inl (by decide))
        have wq73_22 : q73 22 = q 22 := g0q73 22 (by decide) (Or.inl (by decide))
        have wq73_23 : q73 23 = q 23 := g0q73 23 (by decide) (Or.inl (by decide))
        have wq73_24 : q73 24 = q 24 := g0q73 24 (by decide) (Or.inl (by decide))
        have wq73_26 : q73 26 = q 26 := g0q73 26 (by decide) (Or.inl (by decide))
        have wq73_27 : q73 27 = q 27 := g0q73 27 (by decide) (Or.inl (by decide))
        have wq73_28 : q73 28 = q 28 := g0q73 28 (by decide) (Or.inl (by decide))
        have wq73_29 : q73 29 = q 29 := g0q73 29 (by decide) (Or.inl (by decide))
        have wq73_31 : q73 31 = q 31 := g0q73 31 (by decide) (Or.inl (by decide))
        have wq73_35 : q73 35 = q 35 := g0q73 35 (by decide) (Or.inl (by decide))
        have h0q73 : fr [14, 15, 17, 19, 20, 21, 22, 23, 24, 27, 28, 29, 30, 31, 1000, 35] q q73 := fr_tr fr_rf g0q73 (by decide)
        have bgq73 : bg q q73 := bg_fr bg_rf g0q73 (by decide)
        have gdq73 : GD q q73 := GD_tr (GD_eq rfl) (GD_no pq73_0)
        have gbq73 : GD q q73 := GD_tr (GD_eq rfl) (GD_no pq73_0)
        have txq73 : tx q q73 := tx_tr tx_rf (tx_bg (bg_fr bg_rf g0q73 (by decide)))
        refine lv_aload_n hx hb dX11_readLine_24 rfl (lv_at hl 1 rfl) ?_
        refine th_callVp (n := 0) (As := []) S hK hH hS (th_A.sub (by decide)) (m_X11_isGood l D cT T q73 hT hqq73 a0 t0) gm_1487 gm_1484 gm_1486 gm_49 gm_124 (by decide +kernel) ⟨rfl, rfl, Nat.le_of_ble_eq_true rfl, Nat.le_of_ble_eq_true rfl⟩ t0 km_0 rfl rfl hl.1 rfl (Nat.le_of_ble_eq_true rfl) dX11_readLine_25 ⟨Nat.zero_le _, Nat.zero_le _⟩ (fun x74 H locs ix74 ox74 hH hS hF1 => ?_)
        obtain ⟨ox74_0, ox74_1⟩ := ox74
        have ox74_0 : x74.toInt ≠ 0 → q73 30 = 0 := ox74_0
        have ox74_1 : x74.toInt = 0 → 1 ≤ q73 30 := ox74_1
        have l1x74 := ix74.1; have l2x74 := ix74.2
        refine lv_if_ne (tgt := 32) hx hb dX11_readLine_28 (by decide) (fun c75 => ?_) (fun c75 => ?_)
        · skip
          have rlc75 : x74.toInt ≠ (0 : Int) := iv_ne c75
          have ox74_0r := ox74_0 rlc75
          clear ox74_0
          clear ox74_1
          have ir76 : IV x74 1 1 := iv_cutL ix74 (iv_c (by decide) : IV 0 0 0) c75 (by decide)
          have ir76a := ir76.1; have ir76b := ir76.2
          clear rlc75
          exfalso; omega
        · skip
          have rlc75 : x74.toInt = (0 : Int) := congrArg Int32.toInt c75
          clear ox74_0
          have ox74_1r := ox74_1 rlc75
          clear ox74_1
          have ir77 : IV x74 0 0 := iv_eL c75 (iv_c (by decide) : IV 0 0 0)
          have ir77a := ir77.1; have ir77b := ir77.2
          exact th_vretM S hK hH hS hr hlocks ⟨rfl, hqq73, h0q73, (show TS q73 by exact (TS_mv hp0 txq73 (by omega) (by omega) (by omega) (by omega) (by omega) (fun z => by omega))), (show q 27 ≤ q73 27 by omega), (show MB q73 (q73 14) (q73 15) by exact (MB_mv mb0 bgq73 gbq73 (by omega) (by omega) (by omega) (by omega) (by omega) (by omega) (by omega))), (show LM q q73 by exact fun z => absurd z (by omega)), (show GD q q73 by exact gdq73)⟩ dX11_readLine_31
  exact J0 s.heap [] ls hH va_S.rf hl
