theorem dX11_placeHere_0 : decode cX11_placeHere 0 = .ok (.aload_n 0, 1) := by decide +kernel
theorem dX11_placeHere_1 : decode cX11_placeHere 1 = .ok (.aload_n 0, 1) := by decide +kernel
theorem dX11_placeHere_2 : decode cX11_placeHere 2 = .ok (.getfield 95, 3) := by decide +kernel
theorem dX11_placeHere_5 : decode cX11_placeHere 5 = .ok (.bipush 8, 2) := by decide +kernel
theorem dX11_placeHere_7 : decode cX11_placeHere 7 = .ok (.aload_n 0, 1) := by decide +kernel
theorem dX11_placeHere_8 : decode cX11_placeHere 8 = .ok (.getfield 264, 3) := by decide +kernel
theorem dX11_placeHere_11 : decode cX11_placeHere 11 = .ok (.imul, 1) := by decide +kernel
theorem dX11_placeHere_12 : decode cX11_placeHere 12 = .ok (.aload_n 0, 1) := by decide +kernel
theorem dX11_placeHere_13 : decode cX11_placeHere 13 = .ok (.getfield 27, 3) := by decide +kernel
theorem dX11_placeHere_16 : decode cX11_placeHere 16 = .ok (.aload_n 0, 1) := by decide +kernel
theorem dX11_placeHere_17 : decode cX11_placeHere 17 = .ok (.getfield 264, 3) := by decide +kernel
theorem dX11_placeHere_20 : decode cX11_placeHere 20 = .ok (.iaload, 1) := by decide +kernel
theorem dX11_placeHere_21 : decode cX11_placeHere 21 = .ok (.invokevirtual 304, 3) := by decide +kernel
theorem dX11_placeHere_24 : decode cX11_placeHere 24 = .ok (.ireturn, 1) := by decide +kernel
set_option maxHeartbeats 20000000 in
set_option maxRecDepth 100000 in
theorem m_X11_readMap (l : Launch) (D : va_G) (cT : Nat → ClassId) (T : Nat → Option Nat) (q : Nat → Int) (hT : tokm T) (hq : qkm q) (a0 : Nat) (t0 : T a0 = some 0) (hp0 : TS q) (hp1 : q 13 = 1 - q 10) (hp2 : q 30 = 0) (hp3 : MB1 q (q 14) (q 15)) (hp4 : q 14 ≤ 3) : th_MetM l D cT T q yX11_readMap cX11_readMap 4 none (rmk 6 128) [.ref a0] (fun v q2 => v = none ∧ qkm q2 ∧ fr [14, 20, 21, 22, 23, 24, 27, 28, 29, 30, 31, 1000, 35] q q2 ∧ (TS q2) ∧ (q 27 ≤ q2 27) ∧ (MB q2 (q2 14) (q2 15)) ∧ (GD q q2)) [0, 4, 8, 11, 12, 13, 14, 18, 19, 20, 21, 26, 28, 29, 30, 31] := by
  refine th_startM (by decide) (Nat.le_of_ble_eq_true rfl) ?_
  intro p e s m below meth c ls S hK hH hr hlocks hnm hl
  have hx := S.1
  have hb := S.2.1
  have c10 := qkm_10 hq; have c13 := qkm_13 hq; have c14 := qkm_14 hq; have c20 := qkm_20 hq; have c27 := qkm_27 hq
  have hl : lv_has ls 4 [(0, .ref a0)] := hl
  have J160 := J160_X11_readMap l D cT T q hT hq a0 t0 hp0 hp1 hp2 hp3 hp4 p e s m below meth c S hK hr hlocks
  have J144 := J144_X11_readMap l D cT T q hT hq a0 t0 hp0 hp1 hp2 hp3 hp4 p e s m below meth c S hK hr hlocks
  have J72 := J72_X11_readMap l D cT T q hT hq a0 t0 hp0 hp1 hp2 hp3 hp4 p e s m below meth c S hK hr hlocks
  have J0 : ∀ (H : Heap) (locs : List Loc) (ls : Array Slot), th_H D cT T (km q) H → va_S (th_A T [0, 4, 8, 11, 12, 13, 14, 18, 19, 20, 21, 26, 28, 29, 30, 31]) s.heap H locs → lv_has ls 4 [(0, .ref a0)] → W p l e (rmk 6 128) s m [.ref a0].toArray below meth c H locs 0 0 (MQ below (th_QM D cT T (fun v q2 => v = none ∧ qkm q2 ∧ fr [14, 20, 21, 22, 23, 24, 27, 28, 29, 30, 31, 1000, 35] q q2 ∧ (TS q2) ∧ (q 27 ≤ q2 27) ∧ (MB q2 (q2 14) (q2 15)) ∧ (GD q q2)) [0, 4, 8, 11, 12, 13, 14, 18, 19, 20, 21, 26, 28, 29, 30, 31]) [.ref a0].toArray s 0 0 (th_A T [0, 4, 8, 11, 12, 13, 14, 18, 19, 20, 21, 26, 28, 29, 30, 31])) (F0 m 0 ls []) := by
    intro H locs ls hH hS hl
    refine lv_aload_n hx hb dX11_readMap_0 rfl (lv_at hl 0 rfl) ?_
    refine th_get S hK hH inG11 t0 km_0 rfl 12 (by decide) gm_1242 rfl rfl dX11_readMap_1 (fun v86 hv86 fv86 => ?_)
    obtain ⟨rf87, rfl, trf87⟩ := th_V.ref hv86
    refine lv_aload_n hx hb dX11_readMap_4 rfl (lv_at hl 0 rfl) ?_
    refine th_get S hK hH inG11 t0 km_0 rfl 42 (by decide) gm_1272 rfl rfl dX11_readMap_5 (fun v88 hv88 fv88 => ?_)
    obtain ⟨x89, rfl, ix89⟩ := th_V.int hv88
    have kx89 : x89.toInt = q 13 := Int.le_antisymm ix89.2 ix89.1
    have bx89 := qkm_13 hq
    have ix89 : IV x89 0 1 := iv_w ix89 (qkm_13 hq)
    refine th_iald S hK hH trf87 km_4 (th_in (hi := 1) ix89 (by decide)) dX11_readMap_8 (fun v90 hv90 => ?_)
    obtain ⟨x91, rfl, ix91⟩ := th_bkB hv90 ix89 (by omega)
    have kx91 : x91.toInt = q 14 := Int.le_antisymm ix91.2 ix91.1
    have bx91 := qkm_14 hq
    have ix91 : IV x91 0 3 := iv_w ix91 ⟨by omega, by omega⟩
    refine lv_istore_n (lv' := [(1, .int x91), (0, .ref a0)]) hx hb dX11_readMap_9 rfl hl (by decide) rfl (fun ls hl => ?_)
    refine lv_iconst (v := 4) hx hb dX11_readMap_10 (by decide) ?_
    refine lv_aload_n hx hb dX11_readMap_11 rfl (lv_at hl 1 rfl) ?_
    refine th_get S hK hH inG11 t0 km_0 rfl 42 (by decide) gm_1272 rfl rfl dX11_readMap_12 (fun v92 hv92 fv92 => ?_)
    obtain ⟨x93, rfl, ix93⟩ := th_V.int hv92
    have kx93 : x93.toInt = q 13 := Int.le_antisymm ix93.2 ix93.1
    have bx93 := qkm_13 hq
    have ix93 : IV x93 0 1 := iv_w ix93 (qkm_13 hq)
    refine lv_imul hx hb dX11_readMap_15 ?_
    refine lv_topi (fun x94 ex94 => ?_)
    have ix94 : IV x94 0 4 := by rw [ex94]; exact iv_mul (iv_c (by decide) : IV 4 4 4) ix93 (by decide) (by decide)
    have ux94 : x94.toInt = (4 : Int) * x93.toInt := by rw [ex94]; exact iv_mulE (iv_corner ((iv_c (by decide) : IV 4 4 4)).1 ((iv_c (by decide) : IV 4 4 4)).2 (ix93).1 (ix93).2 (by decide))
    refine lv_iload_n hx hb dX11_readMap_16 rfl (lv_at hl 0 rfl) ?_
    refine lv_iadd hx hb dX11_readMap_17 ?_
    refine lv_topi (fun x95 ex95 => ?_)
    have ix95 : IV x95 0 7 := by rw [ex95]; exact iv_add ix94 ix91 (by decide)
    have ux95 : x95.toInt = x94.toInt + x91.toInt := by rw [ex95]; exact iv_addE (by have z1 := (ix94).1; have z2 := (ix94).2; have z3 := (ix91).1; have z4 := (ix91).2; omega)
    refine lv_istore_n (lv' := [(2, .int x95), (1, .int x91), (0, .ref a0)]) hx hb dX11_readMap_18 rfl hl (by decide) rfl (fun ls hl => ?_)
    refine lv_aload_n hx hb dX11_readMap_19 rfl (lv_at hl 2 rfl) ?_
    refine th_get S hK hH inG11 t0 km_0 rfl 34 (by decide) gm_1264 rfl rfl dX11_readMap_20 (fun v96 hv96 fv96 => ?_)
    obtain ⟨rf97, rfl, trf97⟩ := th_V.ref hv96
    refine lv_iload_n hx hb dX11_readMap_23 rfl (lv_at hl 0 rfl) ?_
    refine lv_aload_n hx hb dX11_readMap_24 rfl (lv_at hl 2 rfl) ?_
    refine lv_aload_n hx hb dX11_readMap_25 rfl (lv_at hl 2 rfl) ?_
    refine th_callVi (n := 0) (As := []) S hK hH hS (th_A.sub (by decide)) (m_X11_mapHere l D cT T q hT hq a0 t0) gm_1535 gm_1532 gm_1534 gm_61 gm_124 (by decide +kernel) ⟨rfl, rfl, Nat.le_of_ble_eq_true rfl, Nat.le_of_ble_eq_true rfl⟩ t0 km_0 rfl rfl hl.1 rfl (Nat.le_of_ble_eq_true rfl) dX11_readMap_26 ⟨Nat.zero_le _, Nat.zero_le _⟩ (fun x98 H locs ix98 hH hS hF1 => ?_)
    have l1x98 := ix98.1; have l2x98 := ix98.2
    have f99 := fv86.kept (hF1 _ fv86.lt (th_off t0 (by decide)))
    refine th_callVM (n := 1) (As := [.int x98]) S hK hH hS (th_A.sub (by decide)) (m_X11_fresh l D cT T q hT hq a0 t0 (x98) (iv_top _) (show TS q by exact hp0)) gm_1523 gm_1520 gm_1522 gm_58 gm_124 (by decide +kernel) ⟨rfl, rfl, Nat.le_of_ble_eq_true rfl, Nat.le_of_ble_eq_true rfl⟩ t0 km_0 rfl rfl hl.1 rfl (Nat.le_of_ble_eq_true rfl) dX11_readMap_29 ⟨Nat.zero_le _, Nat.zero_le _⟩ (fun wq100 q100 H locs hEq100 hH hS hF1 => ?_)
    obtain ⟨⟨lg101, rfl⟩, hqq100, g0q100, pq100_0, pq100_1, pq100_2⟩ := hEq100
    show W p l e (rmk 6 128) s m [.ref a0].toArray below meth c H locs 0 0 (MQ below (th_QM D cT T (fun v q2 => v = none ∧ qkm q2 ∧ fr [14, 20, 21, 22, 23, 24, 27, 28, 29, 30, 31, 1000, 35] q q2 ∧ (TS q2) ∧ (q 27 ≤ q2 27) ∧ (MB q2 (q2 14) (q2 15)) ∧ (GD q q2)) [0, 4, 8, 11, 12, 13, 14, 18, 19, 20, 21, 26, 28, 29, 30, 31]) [.ref a0].toArray s 0 0 (th_A T [0, 4, 8, 11, 12, 13, 14, 18, 19, 20, 21, 26, 28, 29, 30, 31])) (F0 m 32 ls [.long lg101, .int x95, .ref rf97])
    have pq100_0 : TS q100 := pq100_0
    have pq100_1 : q 27 ≤ q100 27 := pq100_1
    have pq100_2 : GD q q100 := pq100_2
    have wq100_10 : q100 10 = q 10 := g0q100 10 (by decide) (Or.inl (by decide))
    have wq100_13 : q100 13 = q 13 := g0q100 13 (by decide) (Or.inl (by decide))
    have wq100_14 : q100 14 = q 14 := g0q100 14 (by decide) (Or.inl (by decide))
    have wq100_15 : q100 15 = q 15 := g0q100 15 (by decide) (Or.inl (by decide))
    have wq100_20 : q100 20 = q 20 := g0q100 20 (by decide) (Or.inl (by decide))
    have wq100_21 : q100 21 = q 21 := g0q100 21 (by decide) (Or.inl (by decide))
    have wq100_22 : q100 22 = q 22 := g0q100 22 (by decide) (Or.inl (by decide))
    have wq100_23 : q100 23 = q 23 := g0q100 23 (by decide) (Or.inl (by decide))
    have wq100_24 : q100 24 = q 24 := g0q100 24 (by decide) (Or.inl (by decide))
    have wq100_26 : q100 26 = q 26 := g0q100 26 (by decide) (Or.inl (by decide))
    have wq100_35 : q100 35 = q 35 := g0q100 35 (by decide) (Or.inl (by decide))
    have h0q100 : fr [14, 20, 21, 22, 23, 24, 27, 28, 29, 30, 31, 1000, 35] q q100 := fr_tr fr_rf g0q100 (by decide)
    have bgq100 : bg q q100 := bg_fr bg_rf g0q100 (by decide)
    have gdq100 : GD q q100 := GD_tr (GD_eq rfl) pq100_2
    have gbq100 : GD q q100 := GD_tr (GD_eq rfl) pq100_2
    refine th_last S hK hH hS ⟨26, by decide, trf97⟩ trf97 km_26 (th_in (hi := 7) ix95 (by decide)) (th_lg _) dX11_readMap_32 (fun H locs hH hS hq1 => ?_)
    refine lv_aload_n hx hb dX11_readMap_33 rfl (lv_at hl 2 rfl) ?_
    refine th_get S hK hH inG11 t0 km_0 rfl 19 (by decide) gm_1249 rfl rfl dX11_readMap_34 (fun v102 hv102 fv102 => ?_)
    obtain ⟨rf103, rfl, trf103⟩ := th_V.ref hv102
    refine lv_iload_n hx hb dX11_readMap_37 rfl (lv_at hl 0 rfl) ?_
    refine lv_aload_n hx hb dX11_readMap_38 rfl (lv_at hl 2 rfl) ?_
    refine lv_ldc2 (v := 495588568165) hx hb S.2.2.2.1 (S.2.2.2.2 _ gm_1458) dX11_readMap_39 ?_
    refine lv_iconst (v := 1) hx hb dX11_readMap_42 (by decide) ?_
    refine lv_bipush (v := 9) hx hb dX11_readMap_43 (by decide) ?_
    refine th_callVM (n := 3) (As := [.long 495588568165, .int 1, .int 9]) S hK hH hS (th_A.sub (by decide)) (m_X11_after l D cT T q100 hT hqq100 a0 t0 (495588568165) (1) (iv_top _) (9) (iv_top _) (show TS q100 by exact pq100_0)) gm_1539 gm_1536 gm_1538 gm_62 gm_124 (by decide +kernel) ⟨rfl, rfl, Nat.le_of_ble_eq_true rfl, Nat.le_of_ble_eq_true rfl⟩ t0 km_0 rfl rfl hl.1 rfl (Nat.le_of_ble_eq_true rfl) dX11_readMap_45 ⟨Nat.zero_le _, Nat.zero_le _⟩ (fun wq104 q104 H locs hEq104 hH hS hF1 => ?_)
    obtain ⟨x105, rfl, ix105, hqq104, g0q104, pq104_0, pq104_1, pq104_2⟩ := hEq104
    show W p l e (rmk 6 128) s m [.ref a0].toArray below meth c H locs 0 0 (MQ below (th_QM D cT T (fun v q2 => v = none ∧ qkm q2 ∧ fr [14, 20, 21, 22, 23, 24, 27, 28, 29, 30, 31, 1000, 35] q q2 ∧ (TS q2) ∧ (q 27 ≤ q2 27) ∧ (MB q2 (q2 14) (q2 15)) ∧ (GD q q2)) [0, 4, 8, 11, 12, 13, 14, 18, 19, 20, 21, 26, 28, 29, 30, 31]) [.ref a0].toArray s 0 0 (th_A T [0, 4, 8, 11, 12, 13, 14, 18, 19, 20, 21, 26, 28, 29, 30, 31])) (F0 m 48 ls [.int x105, .int x95, .ref rf103])
    have pq104_0 : TS q104 := pq104_0
    have pq104_1 : q100 27 ≤ q104 27 := pq104_1
    have pq104_2 : GD q100 q104 := pq104_2
    have wq104_10 : q104 10 = q100 10 := g0q104 10 (by decide) (Or.inl (by decide))
    have wq104_13 : q104 13 = q100 13 := g0q104 13 (by decide) (Or.inl (by decide))
    have wq104_14 : q104 14 = q100 14 := g0q104 14 (by decide) (Or.inl (by decide))
    have wq104_15 : q104 15 = q100 15 := g0q104 15 (by decide) (Or.inl (by decide))
    have wq104_20 : q104 20 = q100 20 := g0q104 20 (by decide) (Or.inl (by decide))
    have wq104_21 : q104 21 = q100 21 := g0q104 21 (by decide) (Or.inl (by decide))
    have wq104_22 : q104 22 = q100 22 := g0q104 22 (by decide) (Or.inl (by decide))
    have wq104_23 : q104 23 = q100 23 := g0q104 23 (by decide) (Or.inl (by decide))
    have wq104_24 : q104 24 = q100 24 := g0q104 24 (by decide) (Or.inl (by decide))
    have wq104_26 : q104 26 = q100 26 := g0q104 26 (by decide) (Or.inl (by decide))
    have wq104_35 : q104 35 = q100 35 := g0q104 35 (by decide) (Or.inl (by decide))
    have h0q104 : fr [14, 20, 21, 22, 23, 24, 27, 28, 29, 30, 31, 1000, 35] q q104 := fr_tr h0q100 g0q104 (by decide)
    have bgq104 : bg q q104 := bg_fr bgq100 g0q104 (by decide)
    have gdq104 : GD q q104 := GD_tr gdq100 pq104_2
    have gbq104 : GD q q104 := GD_tr gbq100 pq104_2
    refine th_iast S hK hH hS ⟨11, by decide, trf103⟩ trf103 km_11 (th_in (hi := 7) ix95 (by decide)) (th_iv ix105) dX11_readMap_48 (fun H locs hH hS hq1 => ?_)
    refine lv_aload_n hx hb dX11_readMap_49 rfl (lv_at hl 2 rfl) ?_
    refine lv_aload_n hx hb dX11_readMap_50 rfl (lv_at hl 2 rfl) ?_
    refine lv_ldc2 (v := 114853572732274) hx hb S.2.2.2.1 (S.2.2.2.2 _ gm_1459) dX11_readMap_51 ?_
    refine th_callVp (n := 1) (As := [.long 114853572732274]) S hK hH hS (th_A.sub (by decide)) (m_X11_isWord l D cT T q104 hT hqq104 a0 t0 (114853572732274)) gm_1499 gm_1496 gm_1498 gm_52 gm_124 (by decide +kernel) ⟨rfl, rfl, Nat.le_of_ble_eq_true rfl, Nat.le_of_ble_eq_true rfl⟩ t0 km_0 rfl rfl hl.1 rfl (Nat.le_of_ble_eq_true rfl) dX11_readMap_54 ⟨Nat.zero_le _, Nat.zero_le _⟩ (fun x106 H locs ix106 ox106 hH hS hF1 => ?_)
    obtain ⟨ox106_0, ox106_1⟩ := ox106
    have ox106_0 : x106.toInt ≠ 0 → q104 29 = 3 ∧ q104 31 = (114853572732274 : Int) := ox106_0
    have ox106_1 : x106.toInt = 0 → q104 29 ≠ 3 ∨ q104 31 ≠ (114853572732274 : Int) := ox106_1
    have l1x106 := ix106.1; have l2x106 := ix106.2
    refine th_callVM (n := 1) (As := [.int x106]) S hK hH hS (th_A.sub (by decide)) (m_X11_must l D cT T q104 hT hqq104 a0 t0 (x106) ix106 (show TS q104 by exact pq104_0)) gm_1543 gm_1540 gm_1542 gm_63 gm_124 (by decide +kernel) ⟨rfl, rfl, Nat.le_of_ble_eq_true rfl, Nat.le_of_ble_eq_true rfl⟩ t0 km_0 rfl rfl hl.1 rfl (Nat.le_of_ble_eq_true rfl) dX11_readMap_57 ⟨Nat.zero_le _, Nat.zero_le _⟩ (fun wq108 q108 H locs hEq108 hH hS hF1 => ?_)
    obtain ⟨rfl, hqq108, g0q108, pq108_0, pq108_1, pq108_2⟩ := hEq108
    show W p l e (rmk 6 128) s m [.ref a0].toArray below meth c H locs 0 0 (MQ below (th_QM D cT T (fun v q2 => v = none ∧ qkm q2 ∧ fr [14, 20, 21, 22, 23, 24, 27, 28, 29, 30, 31, 1000, 35] q q2 ∧ (TS q2) ∧ (q 27 ≤ q2 27) ∧ (MB q2 (q2 14) (q2 15)) ∧ (GD q q2)) [0, 4, 8, 11, 12, 13, 14, 18, 19, 20, 21, 26, 28, 29, 30, 31]) [.ref a0].toArray s 0 0 (th_A T [0, 4, 8, 11, 12, 13, 14, 18, 19, 20, 21, 26, 28, 29, 30, 31])) (F0 m 60 ls [])
    have pq108_0 : TS q108 := pq108_0
    have pq108_1 : q104 27 ≤ q108 27 := pq108_1
    have pq108_2 : GD q104 q108 := pq108_2
    have wq108_10 : q108 10 = q104 10 := g0q108 10 (by decide) (Or.inl (by decide))
    have wq108_13 : q108 13 = q104 13 := g0q108 13 (by decide) (Or.inl (by decide))
    have wq108_14 : q108 14 = q104 14 := g0q108 14 (by decide) (Or.inl (by decide))
    have wq108_15 : q108 15 = q104 15 := g0q108 15 (by decide) (Or.inl (by decide))
    have wq108_20 : q108 20 = q104 20 := g0q108 20 (by decide) (Or.inl (by decide))
    have wq108_21 : q108 21 = q104 21 := g0q108 21 (by decide) (Or.inl (by decide))
    have wq108_22 : q108 22 = q104 22 := g0q108 22 (by decide) (Or.inl (by decide))
    have wq108_23 : q108 23 = q104 23 := g0q108 23 (by decide) (Or.inl (by decide))
    have wq108_24 : q108 24 = q104 24 := g0q108 24 (by decide) (Or.inl (by decide))
    have wq108_26 : q108 26 = q104 26 := g0q108 26 (by decide) (Or.inl (by decide))
    have wq108_35 : q108 35 = q104 35 := g0q108 35 (by decide) (Or.inl (by decide))
    have h0q108 : fr [14, 20, 21, 22, 23, 24, 27, 28, 29, 30, 31, 1000, 35] q q108 := fr_tr h0q104 g0q108 (by decide)
    have bgq108 : bg q q108 := bg_fr bgq104 g0q108 (by decide)
    have gdq108 : GD q q108 := GD_tr gdq104 pq108_2
    have gbq108 : GD q q108 := GD_tr gbq104 pq108_2
    refine lv_aload_n hx hb dX11_readMap_60 rfl (lv_at hl 2 rfl) ?_
    refine th_callVp (n := 0) (As := []) S hK hH hS (th_A.sub (by decide)) (m_X11_isGood l D cT T q108 hT hqq108 a0 t0) gm_1487 gm_1484 gm_1486 gm_49 gm_124 (by decide +kernel) ⟨rfl, rfl, Nat.le_of_ble_eq_true rfl, Nat.le_of_ble_eq_true rfl⟩ t0 km_0 rfl rfl hl.1 rfl (Nat.le_of_ble_eq_true rfl) dX11_readMap_61 ⟨Nat.zero_le _, Nat.zero_le _⟩ (fun x109 H locs ix109 ox109 hH hS hF1 => ?_)
    obtain ⟨ox109_0, ox109_1⟩ := ox109
    have ox109_0 : x109.toInt ≠ 0 → q108 30 = 0 := ox109_0
    have ox109_1 : x109.toInt = 0 → 1 ≤ q108 30 := ox109_1
    have l1x109 := ix109.1; have l2x109 := ix109.2
    refine lv_if_eq (tgt := 72) hx hb dX11_readMap_64 (by decide) (fun c110 => ?_) (fun c110 => ?_)
    · skip
      have rlc110 : x109.toInt = (0 : Int) := congrArg Int32.toInt c110
      clear ox109_0
      have ox109_1r := ox109_1 rlc110
      clear ox109_1
      have ir111 : IV x109 0 0 := iv_eL c110 (iv_c (by decide) : IV 0 0 0)
      have ir111a := ir111.1; have ir111b := ir111.2
      exact J72 q108 H locs ls x91 x95 hqq108 h0q108 ix91 ix95 (show TS q108 by exact pq108_0) (show q 27 ≤ q108 27 by omega) (show GD q q108 by exact gdq108) (show q108 14 = q 14 by omega) (show MB q108 (q 14 + 1) (q 15) by first | exact hM | exact MB_no (by omega)) hH hS (lv_sub hl [2, 1, 0] rfl)
    · skip
      have rlc110 : x109.toInt ≠ (0 : Int) := iv_ne c110
      have ox109_0r := ox109_0 rlc110
      clear ox109_0
      clear ox109_1
      have ir112 : IV x109 1 1 := iv_cutL ix109 (iv_c (by decide) : IV 0 0 0) c110 (by decide)
      have ir112a := ir112.1; have ir112b := ir112.2
      clear rlc110
      have hAC : AC q108 := AC_mv hp3.1 (by omega) (by omega) (by omega) (by omega)
      refine lv_aload_n hx hb dX11_readMap_67 rfl (lv_at hl 2 rfl) ?_
      refine lv_iload_n hx hb dX11_readMap_68 rfl (lv_at hl 1 rfl) ?_
      refine th_callVM (n := 1) (As := [.int x91]) S hK hH hS (th_A.sub (by decide)) (m_X11_readRule l D cT T q108 hT hqq108 a0 t0 (x91) (iv_w ix91 (by decide)) (show TS q108 by exact pq108_0) (show q108 13 = 1 - q108 10 by omega) (show q108 30 = 0 by omega) (show AC q108 by assumption)) gm_1547 gm_1544 gm_1546 gm_64 gm_124 (by decide +kernel) ⟨rfl, rfl, Nat.le_of_ble_eq_true rfl, Nat.le_of_ble_eq_true rfl⟩ t0 km_0 rfl rfl hl.1 rfl (Nat.le_of_ble_eq_true rfl) dX11_readMap_69 ⟨Nat.zero_le _, Nat.zero_le _⟩ (fun wq113 q113 H locs hEq113 hH hS hF1 => ?_)
      obtain ⟨rfl, hqq113, g0q113, pq113_0, pq113_1, pq113_2, pq113_3, pq113_4⟩ := hEq113
      show W p l e (rmk 6 128) s m [.ref a0].toArray below meth c H locs 0 0 (MQ below (th_QM D cT T (fun v q2 => v = none ∧ qkm q2 ∧ fr [14, 20, 21, 22, 23, 24, 27, 28, 29, 30, 31, 1000, 35] q q2 ∧ (TS q2) ∧ (q 27 ≤ q2 27) ∧ (MB q2 (q2 14) (q2 15)) ∧ (GD q q2)) [0, 4, 8, 11, 12, 13, 14, 18, 19, 20, 21, 26, 28, 29, 30, 31]) [.ref a0].toArray s 0 0 (th_A T [0, 4, 8, 11, 12, 13, 14, 18, 19, 20, 21, 26, 28, 29, 30, 31])) (F0 m 72 ls [])
      have pq113_0 : TS q113 := pq113_0
      have pq113_1 : q108 27 ≤ q113 27 := pq113_1
      have pq113_2 : kq q108 q113 (q108 20) (5 * (q108 13).toNat + (x91.toInt).toNat) := pq113_2
      have pq113_3 : RR q108 q113 (x91.toInt).toNat := pq113_3
      have pq113_4 : GD q108 q113 := pq113_4
      have wq113_10 : q113 10 = q108 10 := g0q113 10 (by decide) (Or.inl (by decide))
      have wq113_13 : q113 13 = q108 13 := g0q113 13 (by decide) (Or.inl (by decide))
      have wq113_14 : q113 14 = q108 14 := g0q113 14 (by decide) (Or.inl (by decide))
      have wq113_15 : q113 15 = q108 15 := g0q113 15 (by decide) (Or.inl (by decide))
      have wq113_26 : q113 26 = q108 26 := g0q113 26 (by decide) (Or.inl (by decide))
      have h0q113 : fr [14, 20, 21, 22, 23, 24, 27, 28, 29, 30, 31, 1000, 35] q q113 := fr_tr h0q108 g0q113 (by decide)
      have gdq113 : GD q q113 := GD_tr gdq108 pq113_4
      have hM : MB q113 (q 14 + 1) (q 15) := MB_mapI hp3 bgq108 pq113_2 pq113_3 (by omega) (by omega) (by omega) (by omega) (by omega) (by omega) (by omega)
      exact J72 q113 H locs ls x91 x95 hqq113 h0q113 ix91 ix95 (show TS q113 by exact pq113_0) (show q 27 ≤ q113 27 by omega) (show GD q q113 by exact gdq113) (show q113 14 = q 14 by omega) (show MB q113 (q 14 + 1) (q 15) by first | exact hM | exact MB_no (by omega)) hH hS (lv_sub hl [2, 1, 0] rfl)
  exact J0 s.heap [] ls hH va_S.rf hl

set_option maxHeartbeats 20000000 in
set_option maxRecDepth 100000 in
theorem m_X11_placeHere (l : Launch) (D : va_G) (cT : Nat → ClassId) (T : Nat → Option Nat) (q : Nat → Int) (hT : tokm T) (hq : qkm q) (a0 : Nat) (t0 : T a0 = some 0) : th_Met l D cT T (km q) yX11_placeHere cX11_placeHere 1 (some .int) (rmk 1 24) [.ref a0] (th_R T (some (.inl (-1, 7)))) [] := by
  refine th_start (by decide) (Nat.le_of_ble_eq_true rfl) ?_
  intro p e s m below meth c ls S hK hH hr hlocks hnm hl
  have hx := S.1
  have hb := S.2.1
  have hl : lv_has ls 1 [(0, .ref a0)] := hl
  have J0 : ∀ (H : Heap) (locs : List Loc) (ls : Array Slot), th_H D cT T (km q) H → va_S (th_A T []) s.heap H locs → lv_has ls 1 [(0, .ref a0)] → W p l e (rmk 1 24) s m [.ref a0].toArray below meth c H locs 0 0 (MQ below (th_Q D cT T (km q) (th_R T (some (.inl (-1, 7)))) []) [.ref a0].toArray s 0 0 (th_A T [])) (F0 m 0 ls []) := by
    intro H locs ls hH hS hl
    refine lv_aload_n hx hb dX11_placeHere_0 rfl (lv_at hl 0 rfl) ?_
    refine lv_aload_n hx hb dX11_placeHere_1 rfl (lv_at hl 0 rfl) ?_
    refine th_get S hK hH inG11 t0 km_0 rfl 35 (by decide) gm_1265 rfl rfl dX11_placeHere_2 (fun v1 hv1 fv1 => ?_)
    obtain ⟨rf2, rfl, trf2⟩ := th_V.ref hv1
    refine lv_bipush (v := 8) hx hb dX11_placeHere_5 (by decide) ?_
    refine lv_aload_n hx hb dX11_placeHere_7 rfl (lv_at hl 0 rfl) ?_
    refine th_get S hK hH inG11 t0 km_0 rfl 42 (by decide) gm_1272 rfl rfl dX11_placeHere_8 (fun v3 hv3 fv3 => ?_)
    obtain ⟨x4, rfl, ix4⟩ := th_V.int hv3
    have kx4 : x4.toInt = q 13 := Int.le_antisymm ix4.2 ix4.1
    have ix4 : IV x4 0 1 := iv_w ix4 (qkm_13 hq)
    refine lv_imul hx hb dX11_placeHere_11 ?_
    refine lv_topi (fun x5 ex5 => ?_)
    have ix5 : IV x5 0 8 := by rw [ex5]; exact iv_mul (iv_c (by decide) : IV 8 8 8) ix4 (by decide) (by decide)
    have ux5 : x5.toInt = (8 : Int) * x4.toInt := by rw [ex5]; exact iv_mulE (iv_corner ((iv_c (by decide) : IV 8 8 8)).1 ((iv_c (by decide) : IV 8 8 8)).2 (ix4).1 (ix4).2 (by decide))
    refine lv_aload_n hx hb dX11_placeHere_12 rfl (lv_at hl 0 rfl) ?_
    refine th_get S hK hH inG11 t0 km_0 rfl 13 (by decide) gm_1243 rfl rfl dX11_placeHere_13 (fun v6 hv6 fv6 => ?_)
    obtain ⟨rf7, rfl, trf7⟩ := th_V.ref hv6
    refine lv_aload_n hx hb dX11_placeHere_16 rfl (lv_at hl 0 rfl) ?_
    refine th_get S hK hH inG11 t0 km_0 rfl 42 (by decide) gm_1272 rfl rfl dX11_placeHere_17 (fun v8 hv8 fv8 => ?_)
    obtain ⟨x9, rfl, ix9⟩ := th_V.int hv8
    have kx9 : x9.toInt = q 13 := Int.le_antisymm ix9.2 ix9.1
    have ix9 : IV x9 0 1 := iv_w ix9 (qkm_13 hq)
    refine th_iald S hK hH trf7 km_5 (th_in (hi := 1) ix9 (by decide)) dX11_placeHere_20 (fun v10 hv10 => ?_)
    obtain ⟨x11, rfl, ix11⟩ := th_bkU (lo := 0) (hi := 8) hv10 (qkm_18 hq) (qkm_19 hq)
    refine th_callVi (n := 3) (As := [.ref rf2, .int x5, .int x11]) S hK hH hS (th_A.sub (by decide)) (m_X11_here_v2 l D cT T q hT hq a0 t0 rf2 trf2 (x5) ix5 (x11) ix11) gm_1519 gm_1516 gm_1518 gm_57 gm_124 (by decide +kernel) ⟨rfl, rfl, Nat.le_of_ble_eq_true rfl, Nat.le_of_ble_eq_true rfl⟩ t0 km_0 rfl rfl hl.1 rfl (Nat.le_of_ble_eq_true rfl) dX11_placeHere_21 ⟨Nat.zero_le _, Nat.zero_le _⟩ (fun x12 H locs ix12 hH hS hF1 => ?_)
    exact th_iret S hK hH hS hr hlocks (th_R.i ix12) dX11_placeHere_24
  exact J0 s.heap [] ls hH va_S.rf hl
