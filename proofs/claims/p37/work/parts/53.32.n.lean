
set_option maxHeartbeats 20000000 in
set_option maxRecDepth 100000 in
theorem m_X11_readLine (l : Launch) (D : va_G) (cT : Nat → ClassId) (T : Nat → Option Nat) (q : Nat → Int) (hT : tokm T) (hq : qkm q) (a0 : Nat) (t0 : T a0 = some 0) (hp0 : TS q) (hp1 : q 13 = 1 - q 10) (hp2 : q 30 = 0) (hp3 : MB1 q (q 14) (q 15)) : th_MetM l D cT T q yX11_readLine cX11_readLine 3 none (rmk 7 151) [.ref a0] (fun v q2 => v = none ∧ qkm q2 ∧ fr [14, 15, 17, 19, 20, 21, 22, 23, 24, 27, 28, 29, 30, 31, 1000, 35] q q2 ∧ (TS q2) ∧ (q 27 ≤ q2 27) ∧ (MB q2 (q2 14) (q2 15)) ∧ (LM q q2) ∧ (GD q q2)) [0, 3, 4, 5, 6, 7, 8, 9, 10, 11, 12, 13, 14, 15, 16, 17, 18, 19, 20, 21, 22, 23, 24, 25, 26, 27, 28, 29, 30, 31] := by
  refine th_startM (by decide) (Nat.le_of_ble_eq_true rfl) ?_
  intro p e s m below meth c ls S hK hH hr hlocks hnm hl
  have hx := S.1
  have hb := S.2.1
  have c10 := qkm_10 hq; have c13 := qkm_13 hq; have c14 := qkm_14 hq; have c15 := qkm_15 hq; have c20 := qkm_20 hq; have c27 := qkm_27 hq
  have mb0 : MB q (q 14) (q 15) := fun _ => hp3
  have hl : lv_has ls 3 [(0, .ref a0)] := hl
  have J172 := J172_X11_readLine l D cT T q hT hq a0 t0 hp0 hp1 hp2 hp3 p e s m below meth c S hK hr hlocks
  have J137 := J137_X11_readLine l D cT T q hT hq a0 t0 hp0 hp1 hp2 hp3 p e s m below meth c S hK hr hlocks
  have J119 := J119_X11_readLine l D cT T q hT hq a0 t0 hp0 hp1 hp2 hp3 p e s m below meth c S hK hr hlocks
  have J96 := J96_X11_readLine l D cT T q hT hq a0 t0 hp0 hp1 hp2 hp3 p e s m below meth c S hK hr hlocks
  have J84 := J84_X11_readLine l D cT T q hT hq a0 t0 hp0 hp1 hp2 hp3 p e s m below meth c S hK hr hlocks
  have J72 := J72_X11_readLine l D cT T q hT hq a0 t0 hp0 hp1 hp2 hp3 p e s m below meth c S hK hr hlocks
  have J60 := J60_X11_readLine l D cT T q hT hq a0 t0 hp0 hp1 hp2 hp3 p e s m below meth c S hK hr hlocks
  have J48 := J48_X11_readLine l D cT T q hT hq a0 t0 hp0 hp1 hp2 hp3 p e s m below meth c S hK hr hlocks
  have J0 : ∀ (H : Heap) (locs : List Loc) (ls : Array Slot), th_H D cT T (km q) H → va_S (th_A T [0, 3, 4, 5, 6, 7, 8, 9, 10, 11, 12, 13, 14, 15, 16, 17, 18, 19, 20, 21, 22, 23, 24, 25, 26, 27, 28, 29, 30, 31]) s.heap H locs → lv_has ls 3 [(0, .ref a0)] → W p l e (rmk 7 151) s m [.ref a0].toArray below meth c H locs 0 0 (MQ below (th_QM D cT T (fun v q2 => v = none ∧ qkm q2 ∧ fr [14, 15, 17, 19, 20, 21, 22, 23, 24, 27, 28, 29, 30, 31, 1000, 35] q q2 ∧ (TS q2) ∧ (q 27 ≤ q2 27) ∧ (MB q2 (q2 14) (q2 15)) ∧ (LM q q2) ∧ (GD q q2)) [0, 3, 4, 5, 6, 7, 8, 9, 10, 11, 12, 13, 14, 15, 16, 17, 18, 19, 20, 21, 22, 23, 24, 25, 26, 27, 28, 29, 30, 31]) [.ref a0].toArray s 0 0 (th_A T [0, 3, 4, 5, 6, 7, 8, 9, 10, 11, 12, 13, 14, 15, 16, 17, 18, 19, 20, 21, 22, 23, 24, 25, 26, 27, 28, 29, 30, 31])) (F0 m 0 ls []) := by
    intro H locs ls hH hS hl
    refine lv_aload_n hx hb dX11_readLine_0 rfl (lv_at hl 0 rfl) ?_
    refine th_getM S hK hH inG11 t0 km_0 rfl 10 (by decide) gm_1240 rfl rfl dX11_readLine_1 (fun v50 hv50 wv50 => ?_)
    obtain ⟨lg51, rfl⟩ := th_V.long hv50
    have klg51 : lg51.toInt = q 31 := by obtain ⟨vs, z1, z2⟩ := wv50; exact z2 _ z1
    refine lv_lstore_n (lv' := [(1, .long lg51), (0, .ref a0)]) hx hb dX11_readLine_4 rfl hl (by decide) rfl (fun ls hl => ?_)
    refine lv_aload_n hx hb dX11_readLine_5 rfl (lv_at hl 1 rfl) ?_
    refine th_get S hK hH inG11 t0 km_0 rfl 8 (by decide) gm_1238 rfl rfl dX11_readLine_6 (fun v52 hv52 fv52 => ?_)
    obtain ⟨x53, rfl, ix53⟩ := th_V.int hv52
    have kx53 : x53.toInt = q 29 := Int.le_antisymm ix53.2 ix53.1
    have bx53 := qkm_29 hq
    have ix53 : IV x53 0 5 := iv_w ix53 (qkm_29 hq)
    refine lv_iconst (v := 3) hx hb dX11_readLine_9 (by decide) ?_
    refine lv_icmp_ne (tgt := 20) hx hb dX11_readLine_10 (by decide) (fun c54 => ?_) (fun c54 => ?_)
    · skip
      have rlc54 : x53.toInt ≠ (3 : Int) := iv_ne c54
      clear rlc54
      refine lv_aload_n hx hb dX11_readLine_20 rfl (lv_at hl 1 rfl) ?_
      refine th_callVM (n := 0) (As := []) S hK hH hS (th_A.sub (by decide)) (m_X11_misplaced l D cT T q hT hq a0 t0) gm_1503 gm_1500 gm_1502 gm_53 gm_124 (by decide +kernel) ⟨rfl, rfl, Nat.le_of_ble_eq_true rfl, Nat.le_of_ble_eq_true rfl⟩ t0 km_0 rfl rfl hl.1 rfl (Nat.le_of_ble_eq_true rfl) dX11_readLine_21 ⟨Nat.zero_le _, Nat.zero_le _⟩ (fun wq55 q55 H locs hEq55 hH hS hF1 => ?_)
      obtain ⟨rfl, hqq55, g0q55, pq55_0⟩ := hEq55
      show W p l e (rmk 7 151) s m [.ref a0].toArray below meth c H locs 0 0 (MQ below (th_QM D cT T (fun v q2 => v = none ∧ qkm q2 ∧ fr [14, 15, 17, 19, 20, 21, 22, 23, 24, 27, 28, 29, 30, 31, 1000, 35] q q2 ∧ (TS q2) ∧ (q 27 ≤ q2 27) ∧ (MB q2 (q2 14) (q2 15)) ∧ (LM q q2) ∧ (GD q q2)) [0, 3, 4, 5, 6, 7, 8, 9, 10, 11, 12, 13, 14, 15, 16, 17, 18, 19, 20, 21, 22, 23, 24, 25, 26, 27, 28, 29, 30, 31]) [.ref a0].toArray s 0 0 (th_A T [0, 3, 4, 5, 6, 7, 8, 9, 10, 11, 12, 13, 14, 15, 16, 17, 18, 19, 20, 21, 22, 23, 24, 25, 26, 27, 28, 29, 30, 31])) (F0 m 24 ls [])
      have pq55_0 : 1 ≤ q55 30 := pq55_0
      have wq55_10 : q55 10 = q 10 := g0q55 10 (by decide) (Or.inl (by decide))
      have wq55_13 : q55 13 = q 13 := g0q55 13 (by decide) (Or.inl (by decide))
      have wq55_14 : q55 14 = q 14 := g0q55 14 (by decide) (Or.inl (by decide))
      have wq55_15 : q55 15 = q 15 := g0q55 15 (by decide) (Or.inl (by decide))
      have wq55_17 : q55 17 = q 17 := g0q55 17 (by decide) (Or.inl (by decide))
      have wq55_19 : q55 19 = q 19 := g0q55 19 (by decide) (Or.inl (by decide))
      have wq55_20 : q55 20 = q 20 := g0q55 20 (by decide) (Or.inl (by decide))
      have wq55_21 : q55 21 = q 21 := g0q55 21 (by decide) (Or.inl (by decide))
      have wq55_22 : q55 22 = q 22 := g0q55 22 (by decide) (Or.inl (by decide))
      have wq55_23 : q55 23 = q 23 := g0q55 23 (by decide) (Or.inl (by decide))
      have wq55_24 : q55 24 = q 24 := g0q55 24 (by decide) (Or.inl (by decide))
      have wq55_26 : q55 26 = q 26 := g0q55 26 (by decide) (Or.inl (by decide))
      have wq55_27 : q55 27 = q 27 := g0q55 27 (by decide) (Or.inl (by decide))
      have wq55_28 : q55 28 = q 28 := g0q55 28 (by decide) (Or.inl (by decide))
      have wq55_29 : q55 29 = q 29 := g0q55 29 (by decide) (Or.inl (by decide))
      have wq55_31 : q55 31 = q 31 := g0q55 31 (by decide) (Or.inl (by decide))
      have wq55_35 : q55 35 = q 35 := g0q55 35 (by decide) (Or.inl (by decide))
      have h0q55 : fr [14, 15, 17, 19, 20, 21, 22, 23, 24, 27, 28, 29, 30, 31, 1000, 35] q q55 := fr_tr fr_rf g0q55 (by decide)
      have bgq55 : bg q q55 := bg_fr bg_rf g0q55 (by decide)
      have gdq55 : GD q q55 := GD_tr (GD_eq rfl) (GD_no pq55_0)
      have gbq55 : GD q q55 := GD_tr (GD_eq rfl) (GD_no pq55_0)
      have txq55 : tx q q55 := tx_tr tx_rf (tx_bg (bg_fr bg_rf g0q55 (by decide)))
      refine lv_aload_n hx hb dX11_readLine_24 rfl (lv_at hl 1 rfl) ?_
      refine th_callVp (n := 0) (As := []) S hK hH hS (th_A.sub (by decide)) (m_X11_isGood l D cT T q55 hT hqq55 a0 t0) gm_1487 gm_1484 gm_1486 gm_49 gm_124 (by decide +kernel) ⟨rfl, rfl, Nat.le_of_ble_eq_true rfl, Nat.le_of_ble_eq_true rfl⟩ t0 km_0 rfl rfl hl.1 rfl (Nat.le_of_ble_eq_true rfl) dX11_readLine_25 ⟨Nat.zero_le _, Nat.zero_le _⟩ (fun x56 H locs ix56 ox56 hH hS hF1 => ?_)
      obtain ⟨ox56_0, ox56_1⟩ := ox56
      have ox56_0 : x56.toInt ≠ 0 → q55 30 = 0 := ox56_0
      have ox56_1 : x56.toInt = 0 → 1 ≤ q55 30 := ox56_1
      have l1x56 := ix56.1; have l2x56 := ix56.2
      refine lv_if_ne (tgt := 32) hx hb dX11_readLine_28 (by decide) (fun c57 => ?_) (fun c57 => ?_)
      · skip
        have rlc57 : x56.toInt ≠ (0 : Int) := iv_ne c57
        have ox56_0r := ox56_0 rlc57
        clear ox56_0
        clear ox56_1
        have ir58 : IV x56 1 1 := iv_cutL ix56 (iv_c (by decide) : IV 0 0 0) c57 (by decide)
        have ir58a := ir58.1; have ir58b := ir58.2
        clear rlc57
        exfalso; omega
      · skip
        have rlc57 : x56.toInt = (0 : Int) := congrArg Int32.toInt c57
        clear ox56_0
        have ox56_1r := ox56_1 rlc57
        clear ox56_1
        have ir59 : IV x56 0 0 := iv_eL c57 (iv_c (by decide) : IV 0 0 0)
        have ir59a := ir59.1; have ir59b := ir59.2
        exact th_vretM S hK hH hS hr hlocks ⟨rfl, hqq55, h0q55, (show TS q55 by exact (TS_mv hp0 txq55 (by omega) (by omega) (by omega) (by omega) (by omega) (fun z => by omega))), (show q 27 ≤ q55 27 by omega), (show MB q55 (q55 14) (q55 15) by exact (MB_mv mb0 bgq55 gbq55 (by omega) (by omega) (by omega) (by omega) (by omega) (by omega) (by omega))), (show LM q q55 by exact fun z => absurd z (by omega)), (show GD q q55 by exact gdq55)⟩ dX11_readLine_31
    · skip
      have rlc54 : x53.toInt = (3 : Int) := congrArg Int32.toInt c54
      have ir60 : IV x53 3 3 := iv_eL c54 (iv_c (by decide) : IV 3 3 3)
      have ir60a := ir60.1; have ir60b := ir60.2
      refine lv_aload_n hx hb dX11_readLine_13 rfl (lv_at hl 1 rfl) ?_
      refine th_callVp (n := 0) (As := []) S hK hH hS (th_A.sub (by decide)) (m_X11_isFull l D cT T q hT hq a0 t0 (show q 13 = 1 - q 10 by omega)) gm_1495 gm_1492 gm_1494 gm_51 gm_124 (by decide +kernel) ⟨rfl, rfl, Nat.le_of_ble_eq_true rfl, Nat.le_of_ble_eq_true rfl⟩ t0 km_0 rfl rfl hl.1 rfl (Nat.le_of_ble_eq_true rfl) dX11_readLine_14 ⟨Nat.zero_le _, Nat.zero_le _⟩ (fun x61 H locs ix61 ox61 hH hS hF1 => ?_)
      have ox61 : x61.toInt = 0 → q 29 = 3 → FQ q (q 31) := ox61
      have l1x61 := ix61.1; have l2x61 := ix61.2
      refine lv_if_eq (tgt := 24) hx hb dX11_readLine_17 (by decide) (fun c62 => ?_) (fun c62 => ?_)
      · skip
        have rlc62 : x61.toInt = (0 : Int) := congrArg Int32.toInt c62
        have ox61r := ox61 rlc62
        clear ox61
        have ir63 : IV x61 0 0 := iv_eL c62 (iv_c (by decide) : IV 0 0 0)
        have ir63a := ir63.1; have ir63b := ir63.2
        refine lv_aload_n hx hb dX11_readLine_24 rfl (lv_at hl 1 rfl) ?_
        refine th_callVp (n := 0) (As := []) S hK hH hS (th_A.sub (by decide)) (m_X11_isGood l D cT T q hT hq a0 t0) gm_1487 gm_1484 gm_1486 gm_49 gm_124 (by decide +kernel) ⟨rfl, rfl, Nat.le_of_ble_eq_true rfl, Nat.le_of_ble_eq_true rfl⟩ t0 km_0 rfl rfl hl.1 rfl (Nat.le_of_ble_eq_true rfl) dX11_readLine_25 ⟨Nat.zero_le _, Nat.zero_le _⟩ (fun x64 H locs ix64 ox64 hH hS hF1 => ?_)
        obtain ⟨ox64_0, ox64_1⟩ := ox64
        have ox64_0 : x64.toInt ≠ 0 → q 30 = 0 := ox64_0
        have ox64_1 : x64.toInt = 0 → 1 ≤ q 30 := ox64_1
        have l1x64 := ix64.1; have l2x64 := ix64.2
        refine lv_if_ne (tgt := 32) hx hb dX11_readLine_28 (by decide) (fun c65 => ?_) (fun c65 => ?_)
        · skip
          have rlc65 : x64.toInt ≠ (0 : Int) := iv_ne c65
          have ox64_0r := ox64_0 rlc65
          clear ox64_0
          clear ox64_1
          have ir66 : IV x64 1 1 := iv_cutL ix64 (iv_c (by decide) : IV 0 0 0) c65 (by decide)
          have ir66a := ir66.1; have ir66b := ir66.2
          clear rlc65
          obtain ⟨hF1, hF2, hF3⟩ : FQ q (q 31) := ox61r (by omega)
          have hadv := TS_in hp0 (by omega)
          refine lv_aload_n hx hb dX11_readLine_32 rfl (lv_at hl 1 rfl) ?_
          have le66 := TS_le hp0
          refine th_callVM (n := 0) (As := []) S hK hH hS (th_A.sub (by decide)) (m_X11_goOn l D cT T q hT hq a0 t0 (show q 28 ≤ q 26 by exact (TS_le hp0).2)) gm_1445 gm_1442 gm_1444 gm_47 gm_124 (by decide +kernel) ⟨rfl, rfl, Nat.le_of_ble_eq_true rfl, Nat.le_of_ble_eq_true rfl⟩ t0 km_0 rfl rfl hl.1 rfl (Nat.le_of_ble_eq_true rfl) dX11_readLine_33 ⟨Nat.zero_le _, Nat.zero_le _⟩ (fun wq67 q67 H locs hEq67 hH hS hF1 => ?_)
          obtain ⟨rfl, hqq67, g0q67, pq67_0, pq67_1, pq67_2⟩ := hEq67
          show W p l e (rmk 7 151) s m [.ref a0].toArray below meth c H locs 0 0 (MQ below (th_QM D cT T (fun v q2 => v = none ∧ qkm q2 ∧ fr [14, 15, 17, 19, 20, 21, 22, 23, 24, 27, 28, 29, 30, 31, 1000, 35] q q2 ∧ (TS q2) ∧ (q 27 ≤ q2 27) ∧ (MB q2 (q2 14) (q2 15)) ∧ (LM q q2) ∧ (GD q q2)) [0, 3, 4, 5, 6, 7, 8, 9, 10, 11, 12, 13, 14, 15, 16, 17, 18, 19, 20, 21, 22, 23, 24, 25, 26, 27, 28, 29, 30, 31]) [.ref a0].toArray s 0 0 (th_A T [0, 3, 4, 5, 6, 7, 8, 9, 10, 11, 12, 13, 14, 15, 16, 17, 18, 19, 20, 21, 22, 23, 24, 25, 26, 27, 28, 29, 30, 31])) (F0 m 36 ls [])
          have pq67_0 : TS q67 := pq67_0
          have pq67_1 : q 28 ≤ q67 27 := pq67_1
          have pq67_2 : LX q q67 := pq67_2
          have wq67_10 : q67 10 = q 10 := g0q67 10 (by decide) (Or.inl (by decide))
          have wq67_13 : q67 13 = q 13 := g0q67 13 (by decide) (Or.inl (by decide))
          have wq67_14 : q67 14 = q 14 := g0q67 14 (by decide) (Or.inl (by decide))
          have wq67_15 : q67 15 = q 15 := g0q67 15 (by decide) (Or.inl (by decide))
          have wq67_17 : q67 17 = q 17 := g0q67 17 (by decide) (Or.inl (by decide))
          have wq67_19 : q67 19 = q 19 := g0q67 19 (by decide) (Or.inl (by decide))
          have wq67_20 : q67 20 = q 20 := g0q67 20 (by decide) (Or.inl (by decide))
          have wq67_21 : q67 21 = q 21 := g0q67 21 (by decide) (Or.inl (by decide))
          have wq67_22 : q67 22 = q 22 := g0q67 22 (by decide) (Or.inl (by decide))
          have wq67_23 : q67 23 = q 23 := g0q67 23 (by decide) (Or.inl (by decide))
          have wq67_24 : q67 24 = q 24 := g0q67 24 (by decide) (Or.inl (by decide))
          have wq67_26 : q67 26 = q 26 := g0q67 26 (by decide) (Or.inl (by decide))
          have wq67_30 : q67 30 = q 30 := g0q67 30 (by decide) (Or.inl (by decide))
          have wq67_35 : q67 35 = q 35 := g0q67 35 (by decide) (Or.inl (by decide))
          have h0q67 : fr [14, 15, 17, 19, 20, 21, 22, 23, 24, 27, 28, 29, 30, 31, 1000, 35] q q67 := fr_tr fr_rf g0q67 (by decide)
          have bgq67 : bg q q67 := bg_fr bg_rf g0q67 (by decide)
          have gdq67 : GD q q67 := GD_tr (GD_eq rfl) (GD_eq wq67_30)
          have gbq67 : GD q q67 := GD_tr (GD_eq rfl) (GD_eq wq67_30)
          have f14 := qkm_14 hqq67
          refine lv_lload_n hx hb dX11_readLine_36 rfl (lv_at hl 0 rfl) ?_
          refine lv_ldc2 (v := 1718579044) hx hb S.2.2.2.1 (S.2.2.2.2 _ gm_1456) dX11_readLine_37 ?_
          refine W.lcmp hx hb dX11_readLine_40 ?_
          refine lv_topi (fun x68 ex68 => ?_)
          have ix68 := iv_top x68
          have ax68 : x68.toInt = 0 → lg51.toInt = (1718579044 : Int) := lc_eq ex68
          have bx68 : x68.toInt ≠ 0 → lg51.toInt ≠ (1718579044 : Int) := lc_ne ex68
          refine lv_if_ne (tgt := 48) hx hb dX11_readLine_41 (by decide) (fun c69 => ?_) (fun c69 => ?_)
          · skip
            have rlc69 : x68.toInt ≠ (0 : Int) := iv_ne c69
            clear ax68
            have bx68r := bx68 rlc69
            clear bx68
            clear rlc69
            exact J48 q67 H locs ls lg51 hqq67 h0q67 (show TS q67 by exact pq67_0) (show GD q q67 by exact gdq67) (show MB q67 (q67 14) (q67 15) by exact (MB_mv mb0 bgq67 gbq67 (by omega) (by omega) (by omega) (by omega) (by omega) (by omega) (by omega))) (show q 27 < q67 27 ∧ q67 14 ≤ 4 by exact ⟨by omega, by omega⟩) (show lg51.toInt = 7168368 → q67 14 ≤ 3 ∧ q67 30 = 0 by exact fun z => ⟨by omega, by omega⟩) (show lg51.toInt = 482854658917 → q67 19 ≤ 7 by exact fun z => by omega) (show lg51.toInt = 499851162725 → q67 30 = 0 by exact fun z => by omega) hH hS (lv_sub hl [1, 0] rfl)
          · skip
            have rlc69 : x68.toInt = (0 : Int) := congrArg Int32.toInt c69
            have ax68r := ax68 rlc69
            clear ax68
            clear bx68
            have ir70 : IV x68 0 0 := iv_eL c69 (iv_c (by decide) : IV 0 0 0)
            have ir70a := ir70.1; have ir70b := ir70.2
            refine lv_aload_n hx hb dX11_readLine_44 rfl (lv_at hl 1 rfl) ?_
            refine th_callVM (n := 0) (As := []) S hK hH hS (th_A.sub (by decide)) (m_X11_readFood l D cT T q67 hT hqq67 a0 t0 (show TS q67 by exact pq67_0) (show q67 13 = 1 - q67 10 by omega) (show q67 17 ≤ 2 by omega)) gm_1511 gm_1508 gm_1510 gm_55 gm_124 (by decide +kernel) ⟨rfl, rfl, Nat.le_of_ble_eq_true rfl, Nat.le_of_ble_eq_true rfl⟩ t0 km_0 rfl rfl hl.1 rfl (Nat.le_of_ble_eq_true rfl) dX11_readLine_45 ⟨Nat.zero_le _, Nat.zero_le _⟩ (fun wq71 q71 H locs hEq71 hH hS hF1 => ?_)
            obtain ⟨rfl, hqq71, g0q71, pq71_0, pq71_1, pq71_2⟩ := hEq71
            show W p l e (rmk 7 151) s m [.ref a0].toArray below meth c H locs 0 0 (MQ below (th_QM D cT T (fun v q2 => v = none ∧ qkm q2 ∧ fr [14, 15, 17, 19, 20, 21, 22, 23, 24, 27, 28, 29, 30, 31, 1000, 35] q q2 ∧ (TS q2) ∧ (q 27 ≤ q2 27) ∧ (MB q2 (q2 14) (q2 15)) ∧ (LM q q2) ∧ (GD q q2)) [0, 3, 4, 5, 6, 7, 8, 9, 10, 11, 12, 13, 14, 15, 16, 17, 18, 19, 20, 21, 22, 23, 24, 25, 26, 27, 28, 29, 30, 31]) [.ref a0].toArray s 0 0 (th_A T [0, 3, 4, 5, 6, 7, 8, 9, 10, 11, 12, 13, 14, 15, 16, 17, 18, 19, 20, 21, 22, 23, 24, 25, 26, 27, 28, 29, 30, 31])) (F0 m 48 ls [])
            have pq71_0 : TS q71 := pq71_0
            have pq71_1 : q67 27 ≤ q71 27 := pq71_1
            have pq71_2 : GD q67 q71 := pq71_2
            have wq71_10 : q71 10 = q67 10 := g0q71 10 (by decide) (Or.inl (by decide))
            have wq71_13 : q71 13 = q67 13 := g0q71 13 (by decide) (Or.inl (by decide))
            have wq71_14 : q71 14 = q67 14 := g0q71 14 (by decide) (Or.inl (by decide))
            have wq71_15 : q71 15 = q67 15 := g0q71 15 (by decide) (Or.inl (by decide))
            have wq71_19 : q71 19 = q67 19 := g0q71 19 (by decide) (Or.inl (by decide))
            have wq71_20 : q71 20 = q67 20 := g0q71 20 (by decide) (Or.inl (by decide))
            have wq71_21 : q71 21 = q67 21 := g0q71 21 (by decide) (Or.inl (by decide))
            have wq71_22 : q71 22 = q67 22 := g0q71 22 (by decide) (Or.inl (by decide))
            have wq71_23 : q71 23 = q67 23 := g0q71 23 (by decide) (Or.inl (by decide))
            have wq71_24 : q71 24 = q67 24 := g0q71 24 (by decide) (Or.inl (by decide))
            have wq71_26 : q71 26 = q67 26 := g0q71 26 (by decide) (Or.inl (by decide))
            have wq71_35 : q71 35 = q67 35 := g0q71 35 (by decide) (Or.inl (by decide))
            have h0q71 : fr [14, 15, 17, 19, 20, 21, 22, 23, 24, 27, 28, 29, 30, 31, 1000, 35] q q71 := fr_tr h0q67 g0q71 (by decide)
            have bgq71 : bg q q71 := bg_fr bgq67 g0q71 (by decide)
            have gdq71 : GD q q71 := GD_tr gdq67 pq71_2
            have gbq71 : GD q q71 := GD_tr gbq67 pq71_2
            have f14 := qkm_14 hqq71
            exact J48 q71 H locs ls lg51 hqq71 h0q71 (show TS q71 by exact pq71_0) (show GD q q71 by exact gdq71) (show MB q71 (q71 14) (q71 15) by exact (MB_mv mb0 bgq71 gbq71 (by omega) (by omega) (by omega) (by omega) (by omega) (by omega) (by omega))) (show q 27 < q71 27 ∧ q71 14 ≤ 4 by exact ⟨by omega, by omega⟩) (show lg51.toInt = 7168368 → q71 14 ≤ 3 ∧ q71 30 = 0 by exact fun z => ⟨by omega, by omega⟩) (show lg51.toInt = 482854658917 → q71 19 ≤ 7 by exact fun z => by omega) (show lg51.toInt = 499851162725 → q71 30 = 0 by exact fun z => by omega) hH hS (lv_sub hl [1, 0] rfl)
        · skip
          have rlc65 : x64.toInt = (0 : Int) := congrArg Int32.toInt c65
          clear ox64_0
          have ox64_1r := ox64_1 rlc65
          clear ox64_1
          have ir72 : IV x64 0 0 := iv_eL c65 (iv_c (by decide) : IV 0 0 0)
          have ir72a := ir72.1; have ir72b := ir72.2
          exact th_vretM S hK hH hS hr hlocks ⟨rfl, hq, fr_rf, (show TS q by exact hp0), (show q 27 ≤ q 27 by omega), (show MB q (q 14) (q 15) by exact mb0), (show LM q q by exact fun z => absurd z (by omega)), (show GD q q by exact (GD_eq rfl))⟩ dX11_readLine_31
      · skip
        have rlc62 : x61.toInt ≠ (0 : Int) := iv_ne c62
        clear ox61
        have ir73 : IV x61 1 1 := iv_cutL ix61 (iv_c (by decide) : IV 0 0 0) c62 (by decide)
        have ir73a := ir73.1; have ir73b := ir73.2
        clear rlc62
        refine lv_aload_n hx hb dX11_readLine_20 rfl (lv_at hl 1 rfl) ?_
        refine th_callVM (n := 0) (As := []) S hK hH hS (th_A.sub (by decide)) (m_X11_misplaced l D cT T q hT hq a0 t0) gm_1503 gm_1500 gm_1502 gm_53 gm_124 (by decide +kernel) ⟨rfl, rfl, Nat.le_of_ble_eq_true rfl, Nat.le_of_ble_eq_true rfl⟩ t0 km_0 rfl rfl hl.1 rfl (Nat.le_of_ble_eq_true rfl) dX11_readLine_21 ⟨Nat.zero_le _, Nat.zero_le _⟩ (fun wq74 q74 H locs hEq74 hH hS hF1 => ?_)
        obtain ⟨rfl, hqq74, g0q74, pq74_0⟩ := hEq74
        show W p l e (rmk 7 151) s m [.ref a0].toArray below meth c H locs 0 0 (MQ below (th_QM D cT T (fun v q2 => v = none ∧ qkm q2 ∧ fr [14, 15, 17, 19, 20, 21, 22, 23, 24, 27, 28, 29, 30, 31, 1000, 35] q q2 ∧ (TS q2) ∧ (q 27 ≤ q2 27) ∧ (MB q2 (q2 14) (q2 15)) ∧ (LM q q2) ∧ (GD q q2)) [0, 3, 4, 5, 6, 7, 8, 9, 10, 11, 12, 13, 14, 15, 16, 17, 18, 19, 20, 21, 22, 23, 24, 25, 26, 27, 28, 29, 30, 31]) [.ref a0].toArray s 0 0 (th_A T [0, 3, 4, 5, 6, 7, 8, 9, 10, 11, 12, 13, 14, 15, 16, 17, 18, 19, 20, 21, 22, 23, 24, 25, 26, 27, 28, 29, 30, 31])) (F0 m 24 ls [])
        have pq74_0 : 1 ≤ q74 30 := pq74_0
        have wq74_10 : q74 10 = q 10 := g0q74 10 (by decide) (Or.inl (by decide))
        have wq74_13 : q74 13 = q 13 := g0q74 13 (by decide) (Or.inl (by decide))
        have wq74_14 : q74 14 = q 14 := g0q74 14 (by decide) (Or.inl (by decide))
        have wq74_15 : q74 15 = q 15 := g0q74 15 (by decide) (Or.inl (by decide))
        have wq74_17 : q74 17 = q 17 := g0q74 17 (by decide) (Or.inl (by decide))
        have wq74_19 : q74 19 = q 19 := g0q74 19 (by decide) (Or.inl (by decide))
        have wq74_20 : q74 20 = q 20 := g0q74 20 (by decide) (Or.inl (by decide))
        have wq74_21 : q74 21 = q 21 := g0q74 21 (by decide) (Or.inl (by decide))
        have wq74_22 : q74 22 = q 22 := g0q74 22 (by decide) (Or.inl (by decide))
        have wq74_23 : q74 23 = q 23 := g0q74 23 (by decide) (Or.inl (by decide))
        have wq74_24 : q74 24 = q 24 := g0q74 24 (by decide) (Or.inl (by decide))
        have wq74_26 : q74 26 = q 26 := g0q74 26 (by decide) (Or.inl (by decide))
        have wq74_27 : q74 27 = q 27 := g0q74 27 (by decide) (Or.inl (by decide))
        have wq74_28 : q74 28 = q 28 := g0q74 28 (by decide) (Or.inl (by decide))
        have wq74_29 : q74 29 = q 29 := g0q74 29 (by decide) (Or.inl (by decide))
        have wq74_31 : q74 31 = q 31 := g0q74 31 (by decide) (Or.inl (by decide))
        have wq74_35 : q74 35 = q 35 := g0q74 35 (by decide) (Or.inl (by decide))
        have h0q74 : fr [14, 15, 17, 19, 20, 21, 22, 23, 24, 27, 28, 29, 30, 31, 1000, 35] q q74 := fr_tr fr_rf g0q74 (by decide)
        have bgq74 : bg q q74 := bg_fr bg_rf g0q74 (by decide)
        have gdq74 : GD q q74 := GD_tr (GD_eq rfl) (GD_no pq74_0)
        have gbq74 : GD q q74 := GD_tr (GD_eq rfl) (GD_no pq74_0)
        have txq74 : tx q q74 := tx_tr tx_rf (tx_bg (bg_fr bg_rf g0q74 (by decide)))
        refine lv_aload_n hx hb dX11_readLine_24 rfl (lv_at hl 1 rfl) ?_
        refine th_callVp (n := 0) (As := []) S hK hH hS (th_A.sub (by decide)) (m_X11_isGood l D cT T q74 hT hqq74 a0 t0) gm_1487 gm_1484 gm_1486 gm_49 gm_124 (by decide +kernel) ⟨rfl, rfl, Nat.le_of_ble_eq_true rfl, Nat.le_of_ble_eq_true rfl⟩ t0 km_0 rfl rfl hl.1 rfl (Nat.le_of_ble_eq_true rfl) dX11_readLine_25 ⟨Nat.zero_le _, Nat.zero_le _⟩ (fun x75 H locs ix75 ox75 hH hS hF1 => ?_)
        obtain ⟨ox75_0, ox75_1⟩ := ox75
        have ox75_0 : x75.toInt ≠ 0 → q74 30 = 0 := ox75_0
        have ox75_1 : x75.toInt = 0 → 1 ≤ q74 30 := ox75_1
        have l1x75 := ix75.1; have l2x75 := ix75.2
        refine lv_if_ne (tgt := 32) hx hb dX11_readLine_28 (by decide) (fun c76 => ?_) (fun c76 => ?_)
        · skip
          have rlc76 : x75.toInt ≠ (0 : Int) := iv_ne c76
          have ox75_0r := ox75_0 rlc76
          clear ox75_0
          clear ox75_1
          have ir77 : IV x75 1 1 := iv_cutL ix75 (iv_c (by decide) : IV 0 0 0) c76 (by decide)
          have ir77a := ir77.1; have ir77b := ir77.2
          clear rlc76
          exfalso; omega
        · skip
          have rlc76 : x75.toInt = (0 : Int) := congrArg Int32.toInt c76
          clear ox75_0
          have ox75_1r := ox75_1 rlc76
          clear ox75_1
          have ir78 : IV x75 0 0 := iv_eL c76 (iv_c (by decide) : IV 0 0 0)
          have ir78a := ir78.1; have ir78b := ir78.2
          exact th_vretM S hK hH hS hr hlocks ⟨rfl, hqq74, h0q74, (show TS q74 by exact (TS_mv hp0 txq74 (by omega) (by omega) (by omega) (by omega) (by omega) (fun z => by omega))), (show q 27 ≤ q74 27 by omega), (show MB q74 (q74 14) (q74 15) by exact (MB_mv mb0 bgq74 gbq74 (by omega) (by omega) (by omega) (by omega) (by omega) (by omega) (by omega))), (show LM q q74 by exact fun z => absurd z (by omega)), (show GD q q74 by exact gdq74)⟩ dX11_readLine_31
  exact J0 s.heap [] ls hH va_S.rf hl
