theorem dX11_readFood_0 : decode cX11_readFood 0 = .ok (.aload_n 0, 1) := by decide +kernel
theorem dX11_readFood_1 : decode cX11_readFood 1 = .ok (.getfield 88, 3) := by decide +kernel
theorem dX11_readFood_4 : decode cX11_readFood 4 = .ok (.iconst 3, 1) := by decide +kernel
theorem dX11_readFood_5 : decode cX11_readFood 5 = .ok (.aload_n 0, 1) := by decide +kernel
theorem dX11_readFood_6 : decode cX11_readFood 6 = .ok (.getfield 264, 3) := by decide +kernel
theorem dX11_readFood_9 : decode cX11_readFood 9 = .ok (.imul, 1) := by decide +kernel
theorem dX11_readFood_10 : decode cX11_readFood 10 = .ok (.aload_n 0, 1) := by decide +kernel
theorem dX11_readFood_11 : decode cX11_readFood 11 = .ok (.getfield 20, 3) := by decide +kernel
theorem dX11_readFood_14 : decode cX11_readFood 14 = .ok (.aload_n 0, 1) := by decide +kernel
theorem dX11_readFood_15 : decode cX11_readFood 15 = .ok (.getfield 264, 3) := by decide +kernel
theorem dX11_readFood_18 : decode cX11_readFood 18 = .ok (.iaload, 1) := by decide +kernel
theorem dX11_readFood_19 : decode cX11_readFood 19 = .ok (.iadd, 1) := by decide +kernel
theorem dX11_readFood_20 : decode cX11_readFood 20 = .ok (.aload_n 0, 1) := by decide +kernel
theorem dX11_readFood_21 : decode cX11_readFood 21 = .ok (.aload_n 0, 1) := by decide +kernel
theorem dX11_readFood_22 : decode cX11_readFood 22 = .ok (.invokevirtual 308, 3) := by decide +kernel
theorem dX11_readFood_25 : decode cX11_readFood 25 = .ok (.invokevirtual 312, 3) := by decide +kernel
theorem dX11_readFood_28 : decode cX11_readFood 28 = .ok (.lastore, 1) := by decide +kernel
theorem dX11_readFood_29 : decode cX11_readFood 29 = .ok (.aload_n 0, 1) := by decide +kernel
theorem dX11_readFood_30 : decode cX11_readFood 30 = .ok (.getfield 42, 3) := by decide +kernel
theorem dX11_readFood_33 : decode cX11_readFood 33 = .ok (.iconst 3, 1) := by decide +kernel
theorem dX11_readFood_34 : decode cX11_readFood 34 = .ok (.aload_n 0, 1) := by decide +kernel
theorem dX11_readFood_35 : decode cX11_readFood 35 = .ok (.getfield 264, 3) := by decide +kernel
theorem dX11_readFood_38 : decode cX11_readFood 38 = .ok (.imul, 1) := by decide +kernel
theorem dX11_readFood_39 : decode cX11_readFood 39 = .ok (.aload_n 0, 1) := by decide +kernel
theorem dX11_readFood_40 : decode cX11_readFood 40 = .ok (.getfield 20, 3) := by decide +kernel
theorem dX11_readFood_43 : decode cX11_readFood 43 = .ok (.aload_n 0, 1) := by decide +kernel
theorem dX11_readFood_44 : decode cX11_readFood 44 = .ok (.getfield 264, 3) := by decide +kernel
theorem dX11_readFood_47 : decode cX11_readFood 47 = .ok (.iaload, 1) := by decide +kernel
theorem dX11_readFood_48 : decode cX11_readFood 48 = .ok (.iadd, 1) := by decide +kernel
theorem dX11_readFood_49 : decode cX11_readFood 49 = .ok (.aload_n 0, 1) := by decide +kernel
theorem dX11_readFood_50 : decode cX11_readFood 50 = .ok (.iconst 0, 1) := by decide +kernel
theorem dX11_readFood_51 : decode cX11_readFood 51 = .ok (.bipush 99, 2) := by decide +kernel
theorem dX11_readFood_53 : decode cX11_readFood 53 = .ok (.invokevirtual 260, 3) := by decide +kernel
theorem dX11_readFood_56 : decode cX11_readFood 56 = .ok (.iastore, 1) := by decide +kernel
theorem dX11_readFood_57 : decode cX11_readFood 57 = .ok (.aload_n 0, 1) := by decide +kernel
theorem dX11_readFood_58 : decode cX11_readFood 58 = .ok (.getfield 20, 3) := by decide +kernel
theorem dX11_readFood_61 : decode cX11_readFood 61 = .ok (.aload_n 0, 1) := by decide +kernel
theorem dX11_readFood_62 : decode cX11_readFood 62 = .ok (.getfield 264, 3) := by decide +kernel
theorem dX11_readFood_65 : decode cX11_readFood 65 = .ok (.dup2, 1) := by decide +kernel
theorem dX11_readFood_66 : decode cX11_readFood 66 = .ok (.iaload, 1) := by decide +kernel
theorem dX11_readFood_67 : decode cX11_readFood 67 = .ok (.iconst 1, 1) := by decide +kernel
theorem dX11_readFood_68 : decode cX11_readFood 68 = .ok (.iadd, 1) := by decide +kernel
theorem dX11_readFood_69 : decode cX11_readFood 69 = .ok (.iastore, 1) := by decide +kernel
theorem dX11_readFood_70 : decode cX11_readFood 70 = .ok (.return_, 1) := by decide +kernel
theorem dX11_mapHere_0 : decode cX11_mapHere 0 = .ok (.aload_n 0, 1) := by decide +kernel
theorem dX11_mapHere_1 : decode cX11_mapHere 1 = .ok (.aload_n 0, 1) := by decide +kernel
theorem dX11_mapHere_2 : decode cX11_mapHere 2 = .ok (.getfield 92, 3) := by decide +kernel
theorem dX11_mapHere_5 : decode cX11_mapHere 5 = .ok (.iconst 4, 1) := by decide +kernel
theorem dX11_mapHere_6 : decode cX11_mapHere 6 = .ok (.aload_n 0, 1) := by decide +kernel
theorem dX11_mapHere_7 : decode cX11_mapHere 7 = .ok (.getfield 264, 3) := by decide +kernel
theorem dX11_mapHere_10 : decode cX11_mapHere 10 = .ok (.imul, 1) := by decide +kernel
theorem dX11_mapHere_11 : decode cX11_mapHere 11 = .ok (.aload_n 0, 1) := by decide +kernel
theorem dX11_mapHere_12 : decode cX11_mapHere 12 = .ok (.getfield 24, 3) := by decide +kernel
theorem dX11_mapHere_15 : decode cX11_mapHere 15 = .ok (.aload_n 0, 1) := by decide +kernel
theorem dX11_mapHere_16 : decode cX11_mapHere 16 = .ok (.getfield 264, 3) := by decide +kernel
theorem dX11_mapHere_19 : decode cX11_mapHere 19 = .ok (.iaload, 1) := by decide +kernel
theorem dX11_mapHere_20 : decode cX11_mapHere 20 = .ok (.invokevirtual 304, 3) := by decide +kernel
theorem dX11_mapHere_23 : decode cX11_mapHere 23 = .ok (.ireturn, 1) := by decide +kernel
theorem dX11_pushE_0 : decode cX11_pushE 0 = .ok (.aload_n 0, 1) := by decide +kernel
theorem dX11_pushE_1 : decode cX11_pushE 1 = .ok (.getfield 104, 3) := by decide +kernel
theorem dX11_pushE_4 : decode cX11_pushE 4 = .ok (.aload_n 0, 1) := by decide +kernel
theorem dX11_pushE_5 : decode cX11_pushE 5 = .ok (.getfield 335, 3) := by decide +kernel
theorem dX11_pushE_8 : decode cX11_pushE 8 = .ok (.iload_n 1, 1) := by decide +kernel
theorem dX11_pushE_9 : decode cX11_pushE 9 = .ok (.iastore, 1) := by decide +kernel
theorem dX11_pushE_10 : decode cX11_pushE 10 = .ok (.aload_n 0, 1) := by decide +kernel
theorem dX11_pushE_11 : decode cX11_pushE 11 = .ok (.getfield 107, 3) := by decide +kernel
theorem dX11_pushE_14 : decode cX11_pushE 14 = .ok (.aload_n 0, 1) := by decide +kernel
theorem dX11_pushE_15 : decode cX11_pushE 15 = .ok (.getfield 335, 3) := by decide +kernel
theorem dX11_pushE_18 : decode cX11_pushE 18 = .ok (.iload_n 2, 1) := by decide +kernel
theorem dX11_pushE_19 : decode cX11_pushE 19 = .ok (.iastore, 1) := by decide +kernel
theorem dX11_pushE_20 : decode cX11_pushE 20 = .ok (.aload_n 0, 1) := by decide +kernel
theorem dX11_pushE_21 : decode cX11_pushE 21 = .ok (.dup, 1) := by decide +kernel
theorem dX11_pushE_22 : decode cX11_pushE 22 = .ok (.getfield 335, 3) := by decide +kernel
theorem dX11_pushE_25 : decode cX11_pushE 25 = .ok (.iconst 1, 1) := by decide +kernel
theorem dX11_pushE_26 : decode cX11_pushE 26 = .ok (.iadd, 1) := by decide +kernel
theorem dX11_pushE_27 : decode cX11_pushE 27 = .ok (.putfield 335, 3) := by decide +kernel
theorem dX11_pushE_30 : decode cX11_pushE 30 = .ok (.return_, 1) := by decide +kernel
set_option maxHeartbeats 20000000 in
set_option maxRecDepth 100000 in
theorem m_X11_readFood (l : Launch) (D : va_G) (cT : Nat → ClassId) (T : Nat → Option Nat) (q : Nat → Int) (hT : tokm T) (hq : qkm q) (a0 : Nat) (t0 : T a0 = some 0) (hp0 : TS q) (hp1 : q 13 = 1 - q 10) (hp2 : q 17 ≤ 2) : th_MetM l D cT T q yX11_readFood cX11_readFood 1 none (rmk 3 67) [.ref a0] (fun v q2 => v = none ∧ qkm q2 ∧ fr [17, 27, 28, 29, 30, 31] q q2 ∧ (TS q2) ∧ (q 27 ≤ q2 27) ∧ (GD q q2)) [0, 3, 10, 25] := by
  refine th_startM (by decide) (Nat.le_of_ble_eq_true rfl) ?_
  intro p e s m below meth c ls S hK hH hr hlocks hnm hl
  have hx := S.1
  have hb := S.2.1
  have hl : lv_has ls 1 [(0, .ref a0)] := hl
  have J0 : ∀ (H : Heap) (locs : List Loc) (ls : Array Slot), th_H D cT T (km q) H → va_S (th_A T [0, 3, 10, 25]) s.heap H locs → lv_has ls 1 [(0, .ref a0)] → W p l e (rmk 3 67) s m [.ref a0].toArray below meth c H locs 0 0 (MQ below (th_QM D cT T (fun v q2 => v = none ∧ qkm q2 ∧ fr [17, 27, 28, 29, 30, 31] q q2 ∧ (TS q2) ∧ (q 27 ≤ q2 27) ∧ (GD q q2)) [0, 3, 10, 25]) [.ref a0].toArray s 0 0 (th_A T [0, 3, 10, 25])) (F0 m 0 ls []) := by
    intro H locs ls hH hS hl
    refine lv_aload_n hx hb dX11_readFood_0 rfl (lv_at hl 0 rfl) ?_
    refine th_get S hK hH inG11 t0 km_0 rfl 33 (by decide) gm_1263 rfl rfl dX11_readFood_1 (fun v1 hv1 fv1 => ?_)
    obtain ⟨rf2, rfl, trf2⟩ := th_V.ref hv1
    refine lv_iconst (v := 3) hx hb dX11_readFood_4 (by decide) ?_
    refine lv_aload_n hx hb dX11_readFood_5 rfl (lv_at hl 0 rfl) ?_
    refine th_get S hK hH inG11 t0 km_0 rfl 42 (by decide) gm_1272 rfl rfl dX11_readFood_6 (fun v3 hv3 fv3 => ?_)
    obtain ⟨x4, rfl, ix4⟩ := th_V.int hv3
    have kx4 : x4.toInt = q 13 := Int.le_antisymm ix4.2 ix4.1
    have bx4 := qkm_13 hq
    have ix4 : IV x4 0 1 := iv_w ix4 (qkm_13 hq)
    refine lv_imul hx hb dX11_readFood_9 ?_
    refine lv_topi (fun x5 ex5 => ?_)
    have ix5 : IV x5 0 3 := by rw [ex5]; exact iv_mul (iv_c (by decide) : IV 3 3 3) ix4 (by decide) (by decide)
    have ux5 : x5.toInt = (3 : Int) * x4.toInt := by rw [ex5]; exact iv_mulE (iv_corner ((iv_c (by decide) : IV 3 3 3)).1 ((iv_c (by decide) : IV 3 3 3)).2 (ix4).1 (ix4).2 (by decide))
    refine lv_aload_n hx hb dX11_readFood_10 rfl (lv_at hl 0 rfl) ?_
    refine th_get S hK hH inG11 t0 km_0 rfl 11 (by decide) gm_1241 rfl rfl dX11_readFood_11 (fun v6 hv6 fv6 => ?_)
    obtain ⟨rf7, rfl, trf7⟩ := th_V.ref hv6
    refine lv_aload_n hx hb dX11_readFood_14 rfl (lv_at hl 0 rfl) ?_
    refine th_get S hK hH inG11 t0 km_0 rfl 42 (by decide) gm_1272 rfl rfl dX11_readFood_15 (fun v8 hv8 fv8 => ?_)
    obtain ⟨x9, rfl, ix9⟩ := th_V.int hv8
    have kx9 : x9.toInt = q 13 := Int.le_antisymm ix9.2 ix9.1
    have bx9 := qkm_13 hq
    have ix9 : IV x9 0 1 := iv_w ix9 (qkm_13 hq)
    refine th_iald S hK hH trf7 km_3 (th_in (hi := 1) ix9 (by decide)) dX11_readFood_18 (fun v10 hv10 => ?_)
    obtain ⟨x11, rfl, ix11⟩ := th_bkB hv10 ix9 (by omega)
    have kx11 : x11.toInt = q 17 := Int.le_antisymm ix11.2 ix11.1
    have bx11 := qkm_17 hq
    have ix11 : IV x11 0 2 := iv_w ix11 ⟨by omega, by omega⟩
    refine lv_iadd hx hb dX11_readFood_19 ?_
    refine lv_topi (fun x12 ex12 => ?_)
    have ix12 : IV x12 0 5 := by rw [ex12]; exact iv_add ix5 ix11 (by decide)
    have ux12 : x12.toInt = x5.toInt + x11.toInt := by rw [ex12]; exact iv_addE (by have z1 := (ix5).1; have z2 := (ix5).2; have z3 := (ix11).1; have z4 := (ix11).2; omega)
    refine lv_aload_n hx hb dX11_readFood_20 rfl (lv_at hl 0 rfl) ?_
    refine lv_aload_n hx hb dX11_readFood_21 rfl (lv_at hl 0 rfl) ?_
    refine th_callVi (n := 0) (As := []) S hK hH hS (th_A.sub (by decide)) (m_X11_foodHere l D cT T q hT hq a0 t0) gm_1515 gm_1512 gm_1514 gm_56 gm_124 (by decide +kernel) ⟨rfl, rfl, Nat.le_of_ble_eq_true rfl, Nat.le_of_ble_eq_true rfl⟩ t0 km_0 rfl rfl hl.1 rfl (Nat.le_of_ble_eq_true rfl) dX11_readFood_22 ⟨Nat.zero_le _, Nat.zero_le _⟩ (fun x13 H locs ix13 hH hS hF1 => ?_)
    have l1x13 := ix13.1; have l2x13 := ix13.2
    have f14 := fv6.kept (hF1 _ fv6.lt (th_off t0 (by decide)))
    refine th_callVM (n := 1) (As := [.int x13]) S hK hH hS (th_A.sub (by decide)) (m_X11_fresh l D cT T q hT hq a0 t0 (x13) (iv_top _) (show TS q by exact hp0)) gm_1523 gm_1520 gm_1522 gm_58 gm_124 (by decide +kernel) ⟨rfl, rfl, Nat.le_of_ble_eq_true rfl, Nat.le_of_ble_eq_true rfl⟩ t0 km_0 rfl rfl hl.1 rfl (Nat.le_of_ble_eq_true rfl) dX11_readFood_25 ⟨Nat.zero_le _, Nat.zero_le _⟩ (fun wq15 q15 H locs hEq15 hH hS hF1 => ?_)
    obtain ⟨⟨lg16, rfl⟩, hqq15, g0q15, pq15_0, pq15_1, pq15_2⟩ := hEq15
    show W p l e (rmk 3 67) s m [.ref a0].toArray below meth c H locs 0 0 (MQ below (th_QM D cT T (fun v q2 => v = none ∧ qkm q2 ∧ fr [17, 27, 28, 29, 30, 31] q q2 ∧ (TS q2) ∧ (q 27 ≤ q2 27) ∧ (GD q q2)) [0, 3, 10, 25]) [.ref a0].toArray s 0 0 (th_A T [0, 3, 10, 25])) (F0 m 28 ls [.long lg16, .int x12, .ref rf2])
    have pq15_0 : TS q15 := pq15_0
    have pq15_1 : q 27 ≤ q15 27 := pq15_1
    have pq15_2 : GD q q15 := pq15_2
    have wq15_10 : q15 10 = q 10 := g0q15 10 (by decide) (Or.inl (by decide))
    have wq15_13 : q15 13 = q 13 := g0q15 13 (by decide) (Or.inl (by decide))
    have wq15_17 : q15 17 = q 17 := g0q15 17 (by decide) (Or.inl (by decide))
    have wq15_26 : q15 26 = q 26 := g0q15 26 (by decide) (Or.inl (by decide))
    have h0q15 : fr [17, 27, 28, 29, 30, 31] q q15 := fr_tr fr_rf g0q15 (by decide)
    have bgq15 : bg q q15 := bg_fr bg_rf g0q15 (by decide)
    have gdq15 : GD q q15 := GD_tr (GD_eq rfl) pq15_2
    have gbq15 : GD q q15 := GD_tr (GD_eq rfl) pq15_2
    refine th_last S hK hH hS ⟨25, by decide, trf2⟩ trf2 km_25 (th_in (hi := 5) ix12 (by decide)) (th_lg _) dX11_readFood_28 (fun H locs hH hS hq1 => ?_)
    refine lv_aload_n hx hb dX11_readFood_29 rfl (lv_at hl 0 rfl) ?_
    refine th_get S hK hH inG11 t0 km_0 rfl 18 (by decide) gm_1248 rfl rfl dX11_readFood_30 (fun v17 hv17 fv17 => ?_)
    obtain ⟨rf18, rfl, trf18⟩ := th_V.ref hv17
    refine lv_iconst (v := 3) hx hb dX11_readFood_33 (by decide) ?_
    refine lv_aload_n hx hb dX11_readFood_34 rfl (lv_at hl 0 rfl) ?_
    refine th_get S hK hH inG11 t0 km_0 rfl 42 (by decide) gm_1272 rfl rfl dX11_readFood_35 (fun v19 hv19 fv19 => ?_)
    obtain ⟨x20, rfl, ix20⟩ := th_V.int hv19
    have kx20 : x20.toInt = q15 13 := Int.le_antisymm ix20.2 ix20.1
    have bx20 := qkm_13 hqq15
    have ix20 : IV x20 0 1 := iv_w ix20 (qkm_13 hqq15)
    refine lv_imul hx hb dX11_readFood_38 ?_
    refine lv_topi (fun x21 ex21 => ?_)
    have ix21 : IV x21 0 3 := by rw [ex21]; exact iv_mul (iv_c (by decide) : IV 3 3 3) ix20 (by decide) (by decide)
    have ux21 : x21.toInt = (3 : Int) * x20.toInt := by rw [ex21]; exact iv_mulE (iv_corner ((iv_c (by decide) : IV 3 3 3)).1 ((iv_c (by decide) : IV 3 3 3)).2 (ix20).1 (ix20).2 (by decide))
    refine lv_aload_n hx hb dX11_readFood_39 rfl (lv_at hl 0 rfl) ?_
    refine th_get S hK hH inG11 t0 km_0 rfl 11 (by decide) gm_1241 rfl rfl dX11_readFood_40 (fun v22 hv22 fv22 => ?_)
    obtain ⟨rf23, rfl, trf23⟩ := th_V.ref hv22
    refine lv_aload_n hx hb dX11_readFood_43 rfl (lv_at hl 0 rfl) ?_
    refine th_get S hK hH inG11 t0 km_0 rfl 42 (by decide) gm_1272 rfl rfl dX11_readFood_44 (fun v24 hv24 fv24 => ?_)
    obtain ⟨x25, rfl, ix25⟩ := th_V.int hv24
    have kx25 : x25.toInt = q15 13 := Int.le_antisymm ix25.2 ix25.1
    have bx25 := qkm_13 hqq15
    have ix25 : IV x25 0 1 := iv_w ix25 (qkm_13 hqq15)
    refine th_iald S hK hH trf23 km_3 (th_in (hi := 1) ix25 (by decide)) dX11_readFood_47 (fun v26 hv26 => ?_)
    obtain ⟨x27, rfl, ix27⟩ := th_bkB hv26 ix25 (by omega)
    have kx27 : x27.toInt = q15 17 := Int.le_antisymm ix27.2 ix27.1
    have bx27 := qkm_17 hqq15
    have ix27 : IV x27 0 2 := iv_w ix27 ⟨by omega, by omega⟩
    refine lv_iadd hx hb dX11_readFood_48 ?_
    refine lv_topi (fun x28 ex28 => ?_)
    have ix28 : IV x28 0 5 := by rw [ex28]; exact iv_add ix21 ix27 (by decide)
    have ux28 : x28.toInt = x21.toInt + x27.toInt := by rw [ex28]; exact iv_addE (by have z1 := (ix21).1; have z2 := (ix21).2; have z3 := (ix27).1; have z4 := (ix27).2; omega)
    refine lv_aload_n hx hb dX11_readFood_49 rfl (lv_at hl 0 rfl) ?_
    refine lv_iconst (v := 0) hx hb dX11_readFood_50 (by decide) ?_
    refine lv_bipush (v := 99) hx hb dX11_readFood_51 (by decide) ?_
    refine th_callVM (n := 2) (As := [.int 0, .int 99]) S hK hH hS (th_A.sub (by decide)) (m_X11_numeral l D cT T q15 hT hqq15 a0 t0 (0) (iv_top _) (99) (iv_top _) (show TS q15 by exact pq15_0)) gm_1527 gm_1524 gm_1526 gm_59 gm_124 (by decide +kernel) ⟨rfl, rfl, Nat.le_of_ble_eq_true rfl, Nat.le_of_ble_eq_true rfl⟩ t0 km_0 rfl rfl hl.1 rfl (Nat.le_of_ble_eq_true rfl) dX11_readFood_53 ⟨Nat.zero_le _, Nat.zero_le _⟩ (fun wq29 q29 H locs hEq29 hH hS hF1 => ?_)
    obtain ⟨x30, rfl, ix30, hqq29, g0q29, pq29_0, pq29_1, pq29_2⟩ := hEq29
    show W p l e (rmk 3 67) s m [.ref a0].toArray below meth c H locs 0 0 (MQ below (th_QM D cT T (fun v q2 => v = none ∧ qkm q2 ∧ fr [17, 27, 28, 29, 30, 31] q q2 ∧ (TS q2) ∧ (q 27 ≤ q2 27) ∧ (GD q q2)) [0, 3, 10, 25]) [.ref a0].toArray s 0 0 (th_A T [0, 3, 10, 25])) (F0 m 56 ls [.int x30, .int x28, .ref rf18])
    have pq29_0 : TS q29 := pq29_0
    have pq29_1 : q15 27 ≤ q29 27 := pq29_1
    have pq29_2 : GD q15 q29 := pq29_2
    have wq29_10 : q29 10 = q15 10 := g0q29 10 (by decide) (Or.inl (by decide))
    have wq29_13 : q29 13 = q15 13 := g0q29 13 (by decide) (Or.inl (by decide))
    have wq29_17 : q29 17 = q15 17 := g0q29 17 (by decide) (Or.inl (by decide))
    have wq29_26 : q29 26 = q15 26 := g0q29 26 (by decide) (Or.inl (by decide))
    have h0q29 : fr [17, 27, 28, 29, 30, 31] q q29 := fr_tr h0q15 g0q29 (by decide)
    have bgq29 : bg q q29 := bg_fr bgq15 g0q29 (by decide)
    have gdq29 : GD q q29 := GD_tr gdq15 pq29_2
    have gbq29 : GD q q29 := GD_tr gbq15 pq29_2
    refine th_iast S hK hH hS ⟨10, by decide, trf18⟩ trf18 km_10 (th_in (hi := 5) ix28 (by decide)) (th_iv ix30) dX11_readFood_56 (fun H locs hH hS hq1 => ?_)
    refine lv_aload_n hx hb dX11_readFood_57 rfl (lv_at hl 0 rfl) ?_
    refine th_get S hK hH inG11 t0 km_0 rfl 11 (by decide) gm_1241 rfl rfl dX11_readFood_58 (fun v31 hv31 fv31 => ?_)
    obtain ⟨rf32, rfl, trf32⟩ := th_V.ref hv31
    refine lv_aload_n hx hb dX11_readFood_61 rfl (lv_at hl 0 rfl) ?_
    refine th_get S hK hH inG11 t0 km_0 rfl 42 (by decide) gm_1272 rfl rfl dX11_readFood_62 (fun v33 hv33 fv33 => ?_)
    obtain ⟨x34, rfl, ix34⟩ := th_V.int hv33
    have kx34 : x34.toInt = q29 13 := Int.le_antisymm ix34.2 ix34.1
    have bx34 := qkm_13 hqq29
    have ix34 : IV x34 0 1 := iv_w ix34 (qkm_13 hqq29)
    refine lv_dup2_11 hx hb dX11_readFood_65 rfl rfl ?_
    refine th_iald S hK hH trf32 km_3 (th_in (hi := 1) ix34 (by decide)) dX11_readFood_66 (fun v35 hv35 => ?_)
    obtain ⟨x36, rfl, ix36⟩ := th_bkB hv35 ix34 (by omega)
    have kx36 : x36.toInt = q29 17 := Int.le_antisymm ix36.2 ix36.1
    have bx36 := qkm_17 hqq29
    have ix36 : IV x36 0 2 := iv_w ix36 ⟨by omega, by omega⟩
    refine lv_iconst (v := 1) hx hb dX11_readFood_67 (by decide) ?_
    refine lv_iadd hx hb dX11_readFood_68 ?_
    refine lv_topi (fun x37 ex37 => ?_)
    have ix37 : IV x37 1 3 := by rw [ex37]; exact iv_add ix36 (iv_c (by decide) : IV 1 1 1) (by decide)
    have ux37 : x37.toInt = x36.toInt + (1 : Int) := by rw [ex37]; exact iv_addE (by have z1 := (ix36).1; have z2 := (ix36).2; have z3 := ((iv_c (by decide) : IV 1 1 1)).1; have z4 := ((iv_c (by decide) : IV 1 1 1)).2; omega)
    obtain ⟨n38, en38⟩ : ∃ z : Int, z = Int32.toInt x37 := ⟨_, rfl⟩
    refine mst_3 S hK hH hS ⟨3, by decide, trf32⟩ hT trf32 en38 (qkm_10 hqq29) ix34 (by omega) dX11_readFood_69 (fun q39 H locs eq39 hH hS hq1 => ?_)
    have hqq39 : qkm q39 := by rw [eq39]; exact qum_ok17 hqq29 (iv_z en38 (iv_w ix37 (by decide)))
    have h0q39 : fr [17, 27, 28, 29, 30, 31] q q39 := by rw [eq39]; exact fr_up h0q29 (by decide)
    have wq39_10 : q39 10 = q29 10 := by rw [eq39]; rfl
    have wq39_13 : q39 13 = q29 13 := by rw [eq39]; rfl
    have wq39_17 : q39 17 = q29 17 + (1 : Int) := by rw [show q39 17 = n38 by rw [eq39]; rfl, en38, ux37, kx36]
    have wq39_26 : q39 26 = q29 26 := by rw [eq39]; rfl
    have wq39_27 : q39 27 = q29 27 := by rw [eq39]; rfl
    have wq39_28 : q39 28 = q29 28 := by rw [eq39]; rfl
    have wq39_29 : q39 29 = q29 29 := by rw [eq39]; rfl
    have wq39_30 : q39 30 = q29 30 := by rw [eq39]; rfl
    have wq39_31 : q39 31 = q29 31 := by rw [eq39]; rfl
    have bgq39 : bg q q39 := bg_up bgq29 eq39 (by decide)
    have gdq39 : GD q q39 := GD_tr gdq29 (GD_eq wq39_30)
    have gbq39 : GD q q39 := GD_tr gbq29 (GD_eq wq39_30)
    have txq39 : tx q29 q39 := tx_tr tx_rf (tx_up eq39 (by omega))
    clear en38
    clear ux37
    have f40 := fv31.kept (hq1 _ (th_ne t0 trf32 (by decide)))
    exact th_vretM S hK hH hS hr hlocks ⟨rfl, hqq39, h0q39, (show TS q39 by exact (TS_mv pq29_0 txq39 (by omega) (by omega) (by omega) (by omega) (by omega) (fun z => by omega))), (show q 27 ≤ q39 27 by omega), (show GD q q39 by exact gdq39)⟩ dX11_readFood_70
  exact J0 s.heap [] ls hH va_S.rf hl

set_option maxHeartbeats 20000000 in
set_option maxRecDepth 100000 in
theorem m_X11_mapHere (l : Launch) (D : va_G) (cT : Nat → ClassId) (T : Nat → Option Nat) (q : Nat → Int) (hT : tokm T) (hq : qkm q) (a0 : Nat) (t0 : T a0 = some 0) : th_Met l D cT T (km q) yX11_mapHere cX11_mapHere 1 (some .int) (rmk 1 24) [.ref a0] (th_R T (some (.inl (-1, 3)))) [] := by
  refine th_start (by decide) (Nat.le_of_ble_eq_true rfl) ?_
  intro p e s m below meth c ls S hK hH hr hlocks hnm hl
  have hx := S.1
  have hb := S.2.1
  have hl : lv_has ls 1 [(0, .ref a0)] := hl
  have J0 : ∀ (H : Heap) (locs : List Loc) (ls : Array Slot), th_H D cT T (km q) H → va_S (th_A T []) s.heap H locs → lv_has ls 1 [(0, .ref a0)] → W p l e (rmk 1 24) s m [.ref a0].toArray below meth c H locs 0 0 (MQ below (th_Q D cT T (km q) (th_R T (some (.inl (-1, 3)))) []) [.ref a0].toArray s 0 0 (th_A T [])) (F0 m 0 ls []) := by
    intro H locs ls hH hS hl
    refine lv_aload_n hx hb dX11_mapHere_0 rfl (lv_at hl 0 rfl) ?_
    refine lv_aload_n hx hb dX11_mapHere_1 rfl (lv_at hl 0 rfl) ?_
    refine th_get S hK hH inG11 t0 km_0 rfl 34 (by decide) gm_1264 rfl rfl dX11_mapHere_2 (fun v1 hv1 fv1 => ?_)
    obtain ⟨rf2, rfl, trf2⟩ := th_V.ref hv1
    refine lv_iconst (v := 4) hx hb dX11_mapHere_5 (by decide) ?_
    refine lv_aload_n hx hb dX11_mapHere_6 rfl (lv_at hl 0 rfl) ?_
    refine th_get S hK hH inG11 t0 km_0 rfl 42 (by decide) gm_1272 rfl rfl dX11_mapHere_7 (fun v3 hv3 fv3 => ?_)
    obtain ⟨x4, rfl, ix4⟩ := th_V.int hv3
    have kx4 : x4.toInt = q 13 := Int.le_antisymm ix4.2 ix4.1
    have ix4 : IV x4 0 1 := iv_w ix4 (qkm_13 hq)
    refine lv_imul hx hb dX11_mapHere_10 ?_
    refine lv_topi (fun x5 ex5 => ?_)
    have ix5 : IV x5 0 4 := by rw [ex5]; exact iv_mul (iv_c (by decide) : IV 4 4 4) ix4 (by decide) (by decide)
    have ux5 : x5.toInt = (4 : Int) * x4.toInt := by rw [ex5]; exact iv_mulE (iv_corner ((iv_c (by decide) : IV 4 4 4)).1 ((iv_c (by decide) : IV 4 4 4)).2 (ix4).1 (ix4).2 (by decide))
    refine lv_aload_n hx hb dX11_mapHere_11 rfl (lv_at hl 0 rfl) ?_
    refine th_get S hK hH inG11 t0 km_0 rfl 12 (by decide) gm_1242 rfl rfl dX11_mapHere_12 (fun v6 hv6 fv6 => ?_)
    obtain ⟨rf7, rfl, trf7⟩ := th_V.ref hv6
    refine lv_aload_n hx hb dX11_mapHere_15 rfl (lv_at hl 0 rfl) ?_
    refine th_get S hK hH inG11 t0 km_0 rfl 42 (by decide) gm_1272 rfl rfl dX11_mapHere_16 (fun v8 hv8 fv8 => ?_)
    obtain ⟨x9, rfl, ix9⟩ := th_V.int hv8
    have kx9 : x9.toInt = q 13 := Int.le_antisymm ix9.2 ix9.1
    have ix9 : IV x9 0 1 := iv_w ix9 (qkm_13 hq)
    refine th_iald S hK hH trf7 km_4 (th_in (hi := 1) ix9 (by decide)) dX11_mapHere_19 (fun v10 hv10 => ?_)
    obtain ⟨x11, rfl, ix11⟩ := th_bkU (lo := 0) (hi := 4) hv10 (qkm_11 hq) (qkm_14 hq)
    refine th_callVi (n := 3) (As := [.ref rf2, .int x5, .int x11]) S hK hH hS (th_A.sub (by decide)) (m_X11_here_v1 l D cT T q hT hq a0 t0 rf2 trf2 (x5) ix5 (x11) ix11) gm_1519 gm_1516 gm_1518 gm_57 gm_124 (by decide +kernel) ⟨rfl, rfl, Nat.le_of_ble_eq_true rfl, Nat.le_of_ble_eq_true rfl⟩ t0 km_0 rfl rfl hl.1 rfl (Nat.le_of_ble_eq_true rfl) dX11_mapHere_20 ⟨Nat.zero_le _, Nat.zero_le _⟩ (fun x12 H locs ix12 hH hS hF1 => ?_)
    exact th_iret S hK hH hS hr hlocks (th_R.i ix12) dX11_mapHere_23
  exact J0 s.heap [] ls hH va_S.rf hl

set_option maxHeartbeats 20000000 in
set_option maxRecDepth 100000 in
theorem m_X11_pushE (l : Launch) (D : va_G) (cT : Nat → ClassId) (T : Nat → Option Nat) (q : Nat → Int) (hT : tokm T) (hq : qkm q) (a0 : Nat) (t0 : T a0 = some 0) (y1 : Int32) (j1 : IV y1 1 8) (y2 : Int32) (j2 : IV y2 (-2147483648) 2147483647) (hp0 : q 21 ≤ 60) : th_MetM l D cT T q yX11_pushE cX11_pushE 3 none (rmk 0 0) [.ref a0, .int y1, .int y2] (fun v q2 => v = none ∧ qkm q2 ∧ fr [21, 1000] q q2 ∧ (q2 = pushq q y1.toInt y2.toInt) ∧ (q2 21 = q 21 + 1) ∧ (tx q q2)) [0, 30, 31] := by
  refine th_startM (by decide) (Nat.le_of_ble_eq_true rfl) ?_
  intro p e s m below meth c ls S hK hH hr hlocks hnm hl
  have hx := S.1
  have hb := S.2.1
  have l1y1 := j1.1; have l2y1 := j1.2
  have b21 := qkm_21 hq
  have hl : lv_has ls 3 [(0, .ref a0), (1, .int y1), (2, .int y2)] := hl
  have J0 : ∀ (H : Heap) (locs : List Loc) (ls : Array Slot), th_H D cT T (km q) H → va_S (th_A T [0, 30, 31]) s.heap H locs → lv_has ls 3 [(0, .ref a0), (1, .int y1), (2, .int y2)] → W p l e (rmk 0 0) s m [.ref a0, .int y1, .int y2].toArray below meth c H locs 0 0 (MQ below (th_QM D cT T (fun v q2 => v = none ∧ qkm q2 ∧ fr [21, 1000] q q2 ∧ (q2 = pushq q y1.toInt y2.toInt) ∧ (q2 21 = q 21 + 1) ∧ (tx q q2)) [0, 30, 31]) [.ref a0, .int y1, .int y2].toArray s 0 0 (th_A T [0, 30, 31])) (F0 m 0 ls []) := by
    intro H locs ls hH hS hl
    refine lv_aload_n hx hb dX11_pushE_0 rfl (lv_at hl 0 rfl) ?_
    refine th_get S hK hH inG11 t0 km_0 rfl 38 (by decide) gm_1268 rfl rfl dX11_pushE_1 (fun v1 hv1 fv1 => ?_)
    obtain ⟨rf2, rfl, trf2⟩ := th_V.ref hv1
    refine lv_aload_n hx hb dX11_pushE_4 rfl (lv_at hl 0 rfl) ?_
    refine th_get S hK hH inG11 t0 km_0 rfl 45 (by decide) gm_1275 rfl rfl dX11_pushE_5 (fun v3 hv3 fv3 => ?_)
    obtain ⟨x4, rfl, ix4⟩ := th_V.int hv3
    have kx4 : x4.toInt = q 21 := Int.le_antisymm ix4.2 ix4.1
    have bx4 := qkm_21 hq
    have ix4 : IV x4 0 60 := iv_w ix4 ⟨by omega, by omega⟩
    refine lv_iload_n hx hb dX11_pushE_8 rfl (lv_at hl 1 rfl) ?_
    obtain ⟨n5, en5⟩ : ∃ z : Int, z = Int32.toInt y1 := ⟨_, rfl⟩
    have jq6 := th_nat (hi := 60) ix4
    refine mst_30 S hK hH hS ⟨30, by decide, trf2⟩ hT trf2 en5 (th_in (hi := 60) ix4 (by decide)) dX11_pushE_9 (fun q6 H locs eq6 hH hS hq1 => ?_)
    have hqq6 : qkm q6 := by rw [eq6]; exact qkm_big30 hq (th_lt (th_in (hi := 60) ix4 (by decide)))
    have h0q6 : fr [21, 1000] q q6 := by rw [eq6]; exact fr_upB fr_rf (by omega) (by decide)
    have wq6_21 : q6 21 = q 21 := by rw [eq6]; exact if_neg (by omega)
    refine lv_aload_n hx hb dX11_pushE_10 rfl (lv_at hl 0 rfl) ?_
    refine th_get S hK hH inG11 t0 km_0 rfl 39 (by decide) gm_1269 rfl rfl dX11_pushE_11 (fun v7 hv7 fv7 => ?_)
    obtain ⟨rf8, rfl, trf8⟩ := th_V.ref hv7
    refine lv_aload_n hx hb dX11_pushE_14 rfl (lv_at hl 0 rfl) ?_
    refine th_get S hK hH inG11 t0 km_0 rfl 45 (by decide) gm_1275 rfl rfl dX11_pushE_15 (fun v9 hv9 fv9 => ?_)
    obtain ⟨x10, rfl, ix10⟩ := th_V.int hv9
    have kx10 : x10.toInt = q6 21 := Int.le_antisymm ix10.2 ix10.1
    have bx10 := qkm_21 hqq6
    have ix10 : IV x10 0 60 := iv_w ix10 ⟨by omega, by omega⟩
    refine lv_iload_n hx hb dX11_pushE_18 rfl (lv_at hl 2 rfl) ?_
    obtain ⟨n11, en11⟩ : ∃ z : Int, z = Int32.toInt y2 := ⟨_, rfl⟩
    have jq12 := th_nat (hi := 60) ix10
    refine mst_31 S hK hH hS ⟨31, by decide, trf8⟩ hT trf8 en11 (th_in (hi := 60) ix10 (by decide)) dX11_pushE_19 (fun q12 H locs eq12 hH hS hq1 => ?_)
    have hqq12 : qkm q12 := by rw [eq12]; exact qkm_big31 hqq6 (th_lt (th_in (hi := 60) ix10 (by decide)))
    have h0q12 : fr [21, 1000] q q12 := by rw [eq12]; exact fr_upB h0q6 (by omega) (by decide)
    have wq12_21 : q12 21 = q6 21 := by rw [eq12]; exact if_neg (by omega)
    refine lv_aload_n hx hb dX11_pushE_20 rfl (lv_at hl 0 rfl) ?_
    refine lv_dup hx hb dX11_pushE_21 rfl ?_
    refine th_get S hK hH inG11 t0 km_0 rfl 45 (by decide) gm_1275 rfl rfl dX11_pushE_22 (fun v13 hv13 fv13 => ?_)
    obtain ⟨x14, rfl, ix14⟩ := th_V.int hv13
    have kx14 : x14.toInt = q12 21 := Int.le_antisymm ix14.2 ix14.1
    have bx14 := qkm_21 hqq12
    have ix14 : IV x14 0 60 := iv_w ix14 ⟨by omega, by omega⟩
    refine lv_iconst (v := 1) hx hb dX11_pushE_25 (by decide) ?_
    refine lv_iadd hx hb dX11_pushE_26 ?_
    refine lv_topi (fun x15 ex15 => ?_)
    have ix15 : IV x15 1 61 := by rw [ex15]; exact iv_add ix14 (iv_c (by decide) : IV 1 1 1) (by decide)
    have ux15 : x15.toInt = x14.toInt + (1 : Int) := by rw [ex15]; exact iv_addE (by have z1 := (ix14).1; have z2 := (ix14).2; have z3 := ((iv_c (by decide) : IV 1 1 1)).1; have z4 := ((iv_c (by decide) : IV 1 1 1)).2; omega)
    obtain ⟨n17, en17⟩ : ∃ z : Int, z = Int32.toInt x15 := ⟨_, rfl⟩
    refine mput_21 S hK hH hS ⟨0, by decide, t0⟩ hT t0 en17 gm_1275 dX11_pushE_27 (fun q16 H locs eq16 hH hS hq1 => ?_)
    have hqq16 : qkm q16 := by rw [eq16]; exact qum_ok21 hqq12 (iv_z en17 (iv_w ix15 (by decide)))
    have h0q16 : fr [21, 1000] q q16 := by rw [eq16]; exact fr_up h0q12 (by decide)
    have wq16_21 : q16 21 = q12 21 + (1 : Int) := by rw [show q16 21 = n17 by rw [eq16]; rfl, en17, ux15, kx14]
    have hE := pushq_of (a := y1.toInt) (s := y2.toInt) eq6 eq12 eq16 (by omega) (by omega) (by omega) (by omega) (by omega)
    exact th_vretM S hK hH hS hr hlocks ⟨rfl, hqq16, h0q16, (show q16 = pushq q y1.toInt y2.toInt by exact hE), (show q16 21 = q 21 + 1 by omega), (show tx q q16 by exact tx_kp (f := 0) (kp_push hE (by omega) (by decide)))⟩ dX11_pushE_30
  exact J0 s.heap [] ls hH va_S.rf hl
