theorem dX11_readLikes_0 : decode cX11_readLikes 0 = .ok (.iconst 4, 1) := by decide +kernel
theorem dX11_readLikes_1 : decode cX11_readLikes 1 = .ok (.aload_n 0, 1) := by decide +kernel
theorem dX11_readLikes_2 : decode cX11_readLikes 2 = .ok (.getfield 264, 3) := by decide +kernel
theorem dX11_readLikes_5 : decode cX11_readLikes 5 = .ok (.imul, 1) := by decide +kernel
theorem dX11_readLikes_6 : decode cX11_readLikes 6 = .ok (.aload_n 0, 1) := by decide +kernel
theorem dX11_readLikes_7 : decode cX11_readLikes 7 = .ok (.aload_n 0, 1) := by decide +kernel
theorem dX11_readLikes_8 : decode cX11_readLikes 8 = .ok (.invokevirtual 316, 3) := by decide +kernel
theorem dX11_readLikes_11 : decode cX11_readLikes 11 = .ok (.invokevirtual 326, 3) := by decide +kernel
theorem dX11_readLikes_14 : decode cX11_readLikes 14 = .ok (.iadd, 1) := by decide +kernel
theorem dX11_readLikes_15 : decode cX11_readLikes 15 = .ok (.istore_n 1, 1) := by decide +kernel
theorem dX11_readLikes_16 : decode cX11_readLikes 16 = .ok (.aload_n 0, 1) := by decide +kernel
theorem dX11_readLikes_17 : decode cX11_readLikes 17 = .ok (.invokevirtual 243, 3) := by decide +kernel
theorem dX11_readLikes_20 : decode cX11_readLikes 20 = .ok (.ifCond .ne 4, 3) := by decide +kernel
theorem dX11_readLikes_23 : decode cX11_readLikes 23 = .ok (.return_, 1) := by decide +kernel
theorem dX11_readLikes_24 : decode cX11_readLikes 24 = .ok (.aload_n 0, 1) := by decide +kernel
theorem dX11_readLikes_25 : decode cX11_readLikes 25 = .ok (.invokevirtual 308, 3) := by decide +kernel
theorem dX11_readLikes_28 : decode cX11_readLikes 28 = .ok (.istore_n 2, 1) := by decide +kernel
theorem dX11_readLikes_29 : decode cX11_readLikes 29 = .ok (.iload_n 2, 1) := by decide +kernel
theorem dX11_readLikes_30 : decode cX11_readLikes 30 = .ok (.ifCond .lt 26, 3) := by decide +kernel
theorem dX11_readLikes_33 : decode cX11_readLikes 33 = .ok (.aload_n 0, 1) := by decide +kernel
theorem dX11_readLikes_34 : decode cX11_readLikes 34 = .ok (.getfield 69, 3) := by decide +kernel
theorem dX11_readLikes_37 : decode cX11_readLikes 37 = .ok (.iload_n 1, 1) := by decide +kernel
theorem dX11_readLikes_38 : decode cX11_readLikes 38 = .ok (.iaload, 1) := by decide +kernel
theorem dX11_readLikes_39 : decode cX11_readLikes 39 = .ok (.iload_n 2, 1) := by decide +kernel
theorem dX11_readLikes_40 : decode cX11_readLikes 40 = .ok (.ishr, 1) := by decide +kernel
theorem dX11_readLikes_41 : decode cX11_readLikes 41 = .ok (.iconst 1, 1) := by decide +kernel
theorem dX11_readLikes_42 : decode cX11_readLikes 42 = .ok (.iand, 1) := by decide +kernel
theorem dX11_readLikes_43 : decode cX11_readLikes 43 = .ok (.iconst 1, 1) := by decide +kernel
theorem dX11_readLikes_44 : decode cX11_readLikes 44 = .ok (.if_icmp .ne 12, 3) := by decide +kernel
theorem dX11_readLikes_47 : decode cX11_readLikes 47 = .ok (.aload_n 0, 1) := by decide +kernel
theorem dX11_readLikes_48 : decode cX11_readLikes 48 = .ok (.iconst 3, 1) := by decide +kernel
theorem dX11_readLikes_49 : decode cX11_readLikes 49 = .ok (.aload_n 0, 1) := by decide +kernel
theorem dX11_readLikes_50 : decode cX11_readLikes 50 = .ok (.getfield 208, 3) := by decide +kernel
theorem dX11_readLikes_53 : decode cX11_readLikes 53 = .ok (.invokevirtual 239, 3) := by decide +kernel
theorem dX11_readLikes_56 : decode cX11_readLikes 56 = .ok (.aload_n 0, 1) := by decide +kernel
theorem dX11_readLikes_57 : decode cX11_readLikes 57 = .ok (.iload_n 2, 1) := by decide +kernel
theorem dX11_readLikes_58 : decode cX11_readLikes 58 = .ok (.invokevirtual 326, 3) := by decide +kernel
theorem dX11_readLikes_61 : decode cX11_readLikes 61 = .ok (.istore_n 2, 1) := by decide +kernel
theorem dX11_readLikes_62 : decode cX11_readLikes 62 = .ok (.aload_n 0, 1) := by decide +kernel
theorem dX11_readLikes_63 : decode cX11_readLikes 63 = .ok (.iconst 0, 1) := by decide +kernel
theorem dX11_readLikes_64 : decode cX11_readLikes 64 = .ok (.bipush 9, 2) := by decide +kernel
theorem dX11_readLikes_66 : decode cX11_readLikes 66 = .ok (.invokevirtual 260, 3) := by decide +kernel
theorem dX11_readLikes_69 : decode cX11_readLikes 69 = .ok (.istore_n 3, 1) := by decide +kernel
theorem dX11_readLikes_70 : decode cX11_readLikes 70 = .ok (.aload_n 0, 1) := by decide +kernel
theorem dX11_readLikes_71 : decode cX11_readLikes 71 = .ok (.invokevirtual 243, 3) := by decide +kernel
theorem dX11_readLikes_74 : decode cX11_readLikes 74 = .ok (.ifCond .ne 4, 3) := by decide +kernel
theorem dX11_readLikes_77 : decode cX11_readLikes 77 = .ok (.return_, 1) := by decide +kernel
theorem dX11_readLikes_78 : decode cX11_readLikes 78 = .ok (.aload_n 0, 1) := by decide +kernel
theorem dX11_readLikes_79 : decode cX11_readLikes 79 = .ok (.getfield 69, 3) := by decide +kernel
theorem dX11_readLikes_82 : decode cX11_readLikes 82 = .ok (.iload_n 1, 1) := by decide +kernel
theorem dX11_readLikes_83 : decode cX11_readLikes 83 = .ok (.dup2, 1) := by decide +kernel
theorem dX11_readLikes_84 : decode cX11_readLikes 84 = .ok (.iaload, 1) := by decide +kernel
theorem dX11_readLikes_85 : decode cX11_readLikes 85 = .ok (.iconst 1, 1) := by decide +kernel
theorem dX11_readLikes_86 : decode cX11_readLikes 86 = .ok (.iload_n 2, 1) := by decide +kernel
theorem dX11_readLikes_87 : decode cX11_readLikes 87 = .ok (.ishl, 1) := by decide +kernel
theorem dX11_readLikes_88 : decode cX11_readLikes 88 = .ok (.ior, 1) := by decide +kernel
theorem dX11_readLikes_89 : decode cX11_readLikes 89 = .ok (.iastore, 1) := by decide +kernel
theorem dX11_readLikes_90 : decode cX11_readLikes 90 = .ok (.aload_n 0, 1) := by decide +kernel
theorem dX11_readLikes_91 : decode cX11_readLikes 91 = .ok (.getfield 66, 3) := by decide +kernel
theorem dX11_readLikes_94 : decode cX11_readLikes 94 = .ok (.iconst 3, 1) := by decide +kernel
theorem dX11_readLikes_95 : decode cX11_readLikes 95 = .ok (.iload_n 1, 1) := by decide +kernel
theorem dX11_readLikes_96 : decode cX11_readLikes 96 = .ok (.imul, 1) := by decide +kernel
theorem dX11_readLikes_97 : decode cX11_readLikes 97 = .ok (.iload_n 2, 1) := by decide +kernel
theorem dX11_readLikes_98 : decode cX11_readLikes 98 = .ok (.iadd, 1) := by decide +kernel
theorem dX11_readLikes_99 : decode cX11_readLikes 99 = .ok (.iload_n 3, 1) := by decide +kernel
theorem dX11_readLikes_100 : decode cX11_readLikes 100 = .ok (.iastore, 1) := by decide +kernel
theorem dX11_readLikes_101 : decode cX11_readLikes 101 = .ok (.aload_n 0, 1) := by decide +kernel
theorem dX11_readLikes_102 : decode cX11_readLikes 102 = .ok (.getfield 30, 3) := by decide +kernel
theorem dX11_readLikes_105 : decode cX11_readLikes 105 = .ok (.aload_n 0, 1) := by decide +kernel
theorem dX11_readLikes_106 : decode cX11_readLikes 106 = .ok (.getfield 264, 3) := by decide +kernel
theorem dX11_readLikes_109 : decode cX11_readLikes 109 = .ok (.dup2, 1) := by decide +kernel
theorem dX11_readLikes_110 : decode cX11_readLikes 110 = .ok (.iaload, 1) := by decide +kernel
theorem dX11_readLikes_111 : decode cX11_readLikes 111 = .ok (.iconst 1, 1) := by decide +kernel
theorem dX11_readLikes_112 : decode cX11_readLikes 112 = .ok (.iadd, 1) := by decide +kernel
theorem dX11_readLikes_113 : decode cX11_readLikes 113 = .ok (.iastore, 1) := by decide +kernel
theorem dX11_readLikes_114 : decode cX11_readLikes 114 = .ok (.return_, 1) := by decide +kernel
set_option maxHeartbeats 20000000 in
set_option maxRecDepth 100000 in
theorem m_X11_readPlace (l : Launch) (D : va_G) (cT : Nat → ClassId) (T : Nat → Option Nat) (q : Nat → Int) (hT : tokm T) (hq : qkm q) (a0 : Nat) (t0 : T a0 = some 0) (hp0 : TS q) (hp1 : q 13 = 1 - q 10) (hp2 : q 19 ≤ 7) : th_MetM l D cT T q yX11_readPlace cX11_readPlace 4 none (rmk 4 91) [.ref a0] (fun v q2 => v = none ∧ qkm q2 ∧ fr [19, 27, 28, 29, 30, 31] q q2 ∧ (TS q2) ∧ (q 27 ≤ q2 27) ∧ (GD q q2)) [0, 5, 15, 16, 17, 27] := by
  refine th_startM (by decide) (Nat.le_of_ble_eq_true rfl) ?_
  intro p e s m below meth c ls S hK hH hr hlocks hnm hl
  have hx := S.1
  have hb := S.2.1
  have hl : lv_has ls 4 [(0, .ref a0)] := hl
  have J87 := J87_X11_readPlace l D cT T q hT hq a0 t0 hp0 hp1 hp2 p e s m below meth c S hK hr hlocks
  have J0 : ∀ (H : Heap) (locs : List Loc) (ls : Array Slot), th_H D cT T (km q) H → va_S (th_A T [0, 5, 15, 16, 17, 27]) s.heap H locs → lv_has ls 4 [(0, .ref a0)] → W p l e (rmk 4 91) s m [.ref a0].toArray below meth c H locs 0 0 (MQ below (th_QM D cT T (fun v q2 => v = none ∧ qkm q2 ∧ fr [19, 27, 28, 29, 30, 31] q q2 ∧ (TS q2) ∧ (q 27 ≤ q2 27) ∧ (GD q q2)) [0, 5, 15, 16, 17, 27]) [.ref a0].toArray s 0 0 (th_A T [0, 5, 15, 16, 17, 27])) (F0 m 0 ls []) := by
    intro H locs ls hH hS hl
    refine lv_bipush (v := 8) hx hb dX11_readPlace_0 (by decide) ?_
    refine lv_aload_n hx hb dX11_readPlace_2 rfl (lv_at hl 0 rfl) ?_
    refine th_get S hK hH inG11 t0 km_0 rfl 42 (by decide) gm_1272 rfl rfl dX11_readPlace_3 (fun v81 hv81 fv81 => ?_)
    obtain ⟨x82, rfl, ix82⟩ := th_V.int hv81
    have kx82 : x82.toInt = q 13 := Int.le_antisymm ix82.2 ix82.1
    have bx82 := qkm_13 hq
    have ix82 : IV x82 0 1 := iv_w ix82 (qkm_13 hq)
    refine lv_imul hx hb dX11_readPlace_6 ?_
    refine lv_topi (fun x83 ex83 => ?_)
    have ix83 : IV x83 0 8 := by rw [ex83]; exact iv_mul (iv_c (by decide) : IV 8 8 8) ix82 (by decide) (by decide)
    have ux83 : x83.toInt = (8 : Int) * x82.toInt := by rw [ex83]; exact iv_mulE (iv_corner ((iv_c (by decide) : IV 8 8 8)).1 ((iv_c (by decide) : IV 8 8 8)).2 (ix82).1 (ix82).2 (by decide))
    refine lv_aload_n hx hb dX11_readPlace_7 rfl (lv_at hl 0 rfl) ?_
    refine th_get S hK hH inG11 t0 km_0 rfl 13 (by decide) gm_1243 rfl rfl dX11_readPlace_8 (fun v84 hv84 fv84 => ?_)
    obtain ⟨rf85, rfl, trf85⟩ := th_V.ref hv84
    refine lv_aload_n hx hb dX11_readPlace_11 rfl (lv_at hl 0 rfl) ?_
    refine th_get S hK hH inG11 t0 km_0 rfl 42 (by decide) gm_1272 rfl rfl dX11_readPlace_12 (fun v86 hv86 fv86 => ?_)
    obtain ⟨x87, rfl, ix87⟩ := th_V.int hv86
    have kx87 : x87.toInt = q 13 := Int.le_antisymm ix87.2 ix87.1
    have bx87 := qkm_13 hq
    have ix87 : IV x87 0 1 := iv_w ix87 (qkm_13 hq)
    refine th_iald S hK hH trf85 km_5 (th_in (hi := 1) ix87 (by decide)) dX11_readPlace_15 (fun v88 hv88 => ?_)
    obtain ⟨x89, rfl, ix89⟩ := th_bkB hv88 ix87 (by omega)
    have kx89 : x89.toInt = q 19 := Int.le_antisymm ix89.2 ix89.1
    have bx89 := qkm_19 hq
    have ix89 : IV x89 0 7 := iv_w ix89 ⟨by omega, by omega⟩
    refine lv_iadd hx hb dX11_readPlace_16 ?_
    refine lv_topi (fun x90 ex90 => ?_)
    have ix90 : IV x90 0 15 := by rw [ex90]; exact iv_add ix83 ix89 (by decide)
    have ux90 : x90.toInt = x83.toInt + x89.toInt := by rw [ex90]; exact iv_addE (by have z1 := (ix83).1; have z2 := (ix83).2; have z3 := (ix89).1; have z4 := (ix89).2; omega)
    refine lv_istore_n (lv' := [(1, .int x90), (0, .ref a0)]) hx hb dX11_readPlace_17 rfl hl (by decide) rfl (fun ls hl => ?_)
    refine lv_aload_n hx hb dX11_readPlace_18 rfl (lv_at hl 1 rfl) ?_
    refine th_get S hK hH inG11 t0 km_0 rfl 35 (by decide) gm_1265 rfl rfl dX11_readPlace_19 (fun v91 hv91 fv91 => ?_)
    obtain ⟨rf92, rfl, trf92⟩ := th_V.ref hv91
    refine lv_iload_n hx hb dX11_readPlace_22 rfl (lv_at hl 0 rfl) ?_
    refine lv_aload_n hx hb dX11_readPlace_23 rfl (lv_at hl 1 rfl) ?_
    refine lv_aload_n hx hb dX11_readPlace_24 rfl (lv_at hl 1 rfl) ?_
    refine th_callVi (n := 0) (As := []) S hK hH hS (th_A.sub (by decide)) (m_X11_placeHere l D cT T q hT hq a0 t0) gm_1591 gm_1588 gm_1590 gm_75 gm_124 (by decide +kernel) ⟨rfl, rfl, Nat.le_of_ble_eq_true rfl, Nat.le_of_ble_eq_true rfl⟩ t0 km_0 rfl rfl hl.1 rfl (Nat.le_of_ble_eq_true rfl) dX11_readPlace_25 ⟨Nat.zero_le _, Nat.zero_le _⟩ (fun x93 H locs ix93 hH hS hF1 => ?_)
    have l1x93 := ix93.1; have l2x93 := ix93.2
    have f94 := fv84.kept (hF1 _ fv84.lt (th_off t0 (by decide)))
    refine th_callVM (n := 1) (As := [.int x93]) S hK hH hS (th_A.sub (by decide)) (m_X11_fresh l D cT T q hT hq a0 t0 (x93) (iv_top _) (show TS q by exact hp0)) gm_1523 gm_1520 gm_1522 gm_58 gm_124 (by decide +kernel) ⟨rfl, rfl, Nat.le_of_ble_eq_true rfl, Nat.le_of_ble_eq_true rfl⟩ t0 km_0 rfl rfl hl.1 rfl (Nat.le_of_ble_eq_true rfl) dX11_readPlace_28 ⟨Nat.zero_le _, Nat.zero_le _⟩ (fun wq95 q95 H locs hEq95 hH hS hF1 => ?_)
    obtain ⟨⟨lg96, rfl⟩, hqq95, g0q95, pq95_0, pq95_1, pq95_2⟩ := hEq95
    show W p l e (rmk 4 91) s m [.ref a0].toArray below meth c H locs 0 0 (MQ below (th_QM D cT T (fun v q2 => v = none ∧ qkm q2 ∧ fr [19, 27, 28, 29, 30, 31] q q2 ∧ (TS q2) ∧ (q 27 ≤ q2 27) ∧ (GD q q2)) [0, 5, 15, 16, 17, 27]) [.ref a0].toArray s 0 0 (th_A T [0, 5, 15, 16, 17, 27])) (F0 m 31 ls [.long lg96, .int x90, .ref rf92])
    have pq95_0 : TS q95 := pq95_0
    have pq95_1 : q 27 ≤ q95 27 := pq95_1
    have pq95_2 : GD q q95 := pq95_2
    have wq95_10 : q95 10 = q 10 := g0q95 10 (by decide) (Or.inl (by decide))
    have wq95_13 : q95 13 = q 13 := g0q95 13 (by decide) (Or.inl (by decide))
    have wq95_19 : q95 19 = q 19 := g0q95 19 (by decide) (Or.inl (by decide))
    have wq95_26 : q95 26 = q 26 := g0q95 26 (by decide) (Or.inl (by decide))
    have h0q95 : fr [19, 27, 28, 29, 30, 31] q q95 := fr_tr fr_rf g0q95 (by decide)
    have bgq95 : bg q q95 := bg_fr bg_rf g0q95 (by decide)
    have gdq95 : GD q q95 := GD_tr (GD_eq rfl) pq95_2
    have gbq95 : GD q q95 := GD_tr (GD_eq rfl) pq95_2
    refine th_last S hK hH hS ⟨27, by decide, trf92⟩ trf92 km_27 (th_in (hi := 15) ix90 (by decide)) (th_lg _) dX11_readPlace_31 (fun H locs hH hS hq1 => ?_)
    refine lv_aload_n hx hb dX11_readPlace_32 rfl (lv_at hl 1 rfl) ?_
    refine th_get S hK hH inG11 t0 km_0 rfl 23 (by decide) gm_1253 rfl rfl dX11_readPlace_33 (fun v97 hv97 fv97 => ?_)
    obtain ⟨rf98, rfl, trf98⟩ := th_V.ref hv97
    refine lv_iload_n hx hb dX11_readPlace_36 rfl (lv_at hl 0 rfl) ?_
    refine lv_aload_n hx hb dX11_readPlace_37 rfl (lv_at hl 1 rfl) ?_
    refine lv_ldc2 (v := 1936292453) hx hb S.2.2.2.1 (S.2.2.2.2 _ gm_1463) dX11_readPlace_38 ?_
    refine lv_iconst (v := 1) hx hb dX11_readPlace_41 (by decide) ?_
    refine lv_bipush (v := 60) hx hb dX11_readPlace_42 (by decide) ?_
    refine th_callVM (n := 3) (As := [.long 1936292453, .int 1, .int 60]) S hK hH hS (th_A.sub (by decide)) (m_X11_after l D cT T q95 hT hqq95 a0 t0 (1936292453) (1) (iv_top _) (60) (iv_top _) (show TS q95 by exact pq95_0)) gm_1539 gm_1536 gm_1538 gm_62 gm_124 (by decide +kernel) ⟨rfl, rfl, Nat.le_of_ble_eq_true rfl, Nat.le_of_ble_eq_true rfl⟩ t0 km_0 rfl rfl hl.1 rfl (Nat.le_of_ble_eq_true rfl) dX11_readPlace_44 ⟨Nat.zero_le _, Nat.zero_le _⟩ (fun wq99 q99 H locs hEq99 hH hS hF1 => ?_)
    obtain ⟨x100, rfl, ix100, hqq99, g0q99, pq99_0, pq99_1, pq99_2⟩ := hEq99
    show W p l e (rmk 4 91) s m [.ref a0].toArray below meth c H locs 0 0 (MQ below (th_QM D cT T (fun v q2 => v = none ∧ qkm q2 ∧ fr [19, 27, 28, 29, 30, 31] q q2 ∧ (TS q2) ∧ (q 27 ≤ q2 27) ∧ (GD q q2)) [0, 5, 15, 16, 17, 27]) [.ref a0].toArray s 0 0 (th_A T [0, 5, 15, 16, 17, 27])) (F0 m 47 ls [.int x100, .int x90, .ref rf98])
    have pq99_0 : TS q99 := pq99_0
    have pq99_1 : q95 27 ≤ q99 27 := pq99_1
    have pq99_2 : GD q95 q99 := pq99_2
    have wq99_10 : q99 10 = q95 10 := g0q99 10 (by decide) (Or.inl (by decide))
    have wq99_13 : q99 13 = q95 13 := g0q99 13 (by decide) (Or.inl (by decide))
    have wq99_19 : q99 19 = q95 19 := g0q99 19 (by decide) (Or.inl (by decide))
    have wq99_26 : q99 26 = q95 26 := g0q99 26 (by decide) (Or.inl (by decide))
    have h0q99 : fr [19, 27, 28, 29, 30, 31] q q99 := fr_tr h0q95 g0q99 (by decide)
    have bgq99 : bg q q99 := bg_fr bgq95 g0q99 (by decide)
    have gdq99 : GD q q99 := GD_tr gdq95 pq99_2
    have gbq99 : GD q q99 := GD_tr gbq95 pq99_2
    refine th_iast S hK hH hS ⟨15, by decide, trf98⟩ trf98 km_15 (th_in (hi := 15) ix90 (by decide)) (th_iv ix100) dX11_readPlace_47 (fun H locs hH hS hq1 => ?_)
    refine lv_aload_n hx hb dX11_readPlace_48 rfl (lv_at hl 1 rfl) ?_
    refine th_get S hK hH inG11 t0 km_0 rfl 24 (by decide) gm_1254 rfl rfl dX11_readPlace_49 (fun v101 hv101 fv101 => ?_)
    obtain ⟨rf102, rfl, trf102⟩ := th_V.ref hv101
    refine lv_iload_n hx hb dX11_readPlace_52 rfl (lv_at hl 0 rfl) ?_
    refine lv_aload_n hx hb dX11_readPlace_53 rfl (lv_at hl 1 rfl) ?_
    refine lv_ldc2 (v := 512970880104) hx hb S.2.2.2.1 (S.2.2.2.2 _ gm_1464) dX11_readPlace_54 ?_
    refine lv_iconst (v := 0) hx hb dX11_readPlace_57 (by decide) ?_
    refine lv_bipush (v := 9) hx hb dX11_readPlace_58 (by decide) ?_
    refine th_callVM (n := 3) (As := [.long 512970880104, .int 0, .int 9]) S hK hH hS (th_A.sub (by decide)) (m_X11_after l D cT T q99 hT hqq99 a0 t0 (512970880104) (0) (iv_top _) (9) (iv_top _) (show TS q99 by exact pq99_0)) gm_1539 gm_1536 gm_1538 gm_62 gm_124 (by decide +kernel) ⟨rfl, rfl, Nat.le_of_ble_eq_true rfl, Nat.le_of_ble_eq_true rfl⟩ t0 km_0 rfl rfl hl.1 rfl (Nat.le_of_ble_eq_true rfl) dX11_readPlace_60 ⟨Nat.zero_le _, Nat.zero_le _⟩ (fun wq103 q103 H locs hEq103 hH hS hF1 => ?_)
    obtain ⟨x104, rfl, ix104, hqq103, g0q103, pq103_0, pq103_1, pq103_2⟩ := hEq103
    show W p l e (rmk 4 91) s m [.ref a0].toArray below meth c H locs 0 0 (MQ below (th_QM D cT T (fun v q2 => v = none ∧ qkm q2 ∧ fr [19, 27, 28, 29, 30, 31] q q2 ∧ (TS q2) ∧ (q 27 ≤ q2 27) ∧ (GD q q2)) [0, 5, 15, 16, 17, 27]) [.ref a0].toArray s 0 0 (th_A T [0, 5, 15, 16, 17, 27])) (F0 m 63 ls [.int x104, .int x90, .ref rf102])
    have pq103_0 : TS q103 := pq103_0
    have pq103_1 : q99 27 ≤ q103 27 := pq103_1
    have pq103_2 : GD q99 q103 := pq103_2
    have wq103_10 : q103 10 = q99 10 := g0q103 10 (by decide) (Or.inl (by decide))
    have wq103_13 : q103 13 = q99 13 := g0q103 13 (by decide) (Or.inl (by decide))
    have wq103_19 : q103 19 = q99 19 := g0q103 19 (by decide) (Or.inl (by decide))
    have wq103_26 : q103 26 = q99 26 := g0q103 26 (by decide) (Or.inl (by decide))
    have h0q103 : fr [19, 27, 28, 29, 30, 31] q q103 := fr_tr h0q99 g0q103 (by decide)
    have bgq103 : bg q q103 := bg_fr bgq99 g0q103 (by decide)
    have gdq103 : GD q q103 := GD_tr gdq99 pq103_2
    have gbq103 : GD q q103 := GD_tr gbq99 pq103_2
    refine th_iast S hK hH hS ⟨16, by decide, trf102⟩ trf102 km_16 (th_in (hi := 15) ix90 (by decide)) (th_iv ix104) dX11_readPlace_63 (fun H locs hH hS hq1 => ?_)
    refine lv_aload_n hx hb dX11_readPlace_64 rfl (lv_at hl 1 rfl) ?_
    refine lv_aload_n hx hb dX11_readPlace_65 rfl (lv_at hl 1 rfl) ?_
    refine lv_ldc2 (v := 28526) hx hb S.2.2.2.1 (S.2.2.2.2 _ gm_1465) dX11_readPlace_66 ?_
    refine th_callVp (n := 1) (As := [.long 28526]) S hK hH hS (th_A.sub (by decide)) (m_X11_isWord l D cT T q103 hT hqq103 a0 t0 (28526)) gm_1499 gm_1496 gm_1498 gm_52 gm_124 (by decide +kernel) ⟨rfl, rfl, Nat.le_of_ble_eq_true rfl, Nat.le_of_ble_eq_true rfl⟩ t0 km_0 rfl rfl hl.1 rfl (Nat.le_of_ble_eq_true rfl) dX11_readPlace_69 ⟨Nat.zero_le _, Nat.zero_le _⟩ (fun x105 H locs ix105 ox105 hH hS hF1 => ?_)
    obtain ⟨ox105_0, ox105_1⟩ := ox105
    have ox105_0 : x105.toInt ≠ 0 → q103 29 = 3 ∧ q103 31 = (28526 : Int) := ox105_0
    have ox105_1 : x105.toInt = 0 → q103 29 ≠ 3 ∨ q103 31 ≠ (28526 : Int) := ox105_1
    have l1x105 := ix105.1; have l2x105 := ix105.2
    refine th_callVM (n := 1) (As := [.int x105]) S hK hH hS (th_A.sub (by decide)) (m_X11_must l D cT T q103 hT hqq103 a0 t0 (x105) ix105 (show TS q103 by exact pq103_0)) gm_1543 gm_1540 gm_1542 gm_63 gm_124 (by decide +kernel) ⟨rfl, rfl, Nat.le_of_ble_eq_true rfl, Nat.le_of_ble_eq_true rfl⟩ t0 km_0 rfl rfl hl.1 rfl (Nat.le_of_ble_eq_true rfl) dX11_readPlace_72 ⟨Nat.zero_le _, Nat.zero_le _⟩ (fun wq106 q106 H locs hEq106 hH hS hF1 => ?_)
    obtain ⟨rfl, hqq106, g0q106, pq106_0, pq106_1, pq106_2⟩ := hEq106
    show W p l e (rmk 4 91) s m [.ref a0].toArray below meth c H locs 0 0 (MQ below (th_QM D cT T (fun v q2 => v = none ∧ qkm q2 ∧ fr [19, 27, 28, 29, 30, 31] q q2 ∧ (TS q2) ∧ (q 27 ≤ q2 27) ∧ (GD q q2)) [0, 5, 15, 16, 17, 27]) [.ref a0].toArray s 0 0 (th_A T [0, 5, 15, 16, 17, 27])) (F0 m 75 ls [])
    have pq106_0 : TS q106 := pq106_0
    have pq106_1 : q103 27 ≤ q106 27 := pq106_1
    have pq106_2 : GD q103 q106 := pq106_2
    have wq106_10 : q106 10 = q103 10 := g0q106 10 (by decide) (Or.inl (by decide))
    have wq106_13 : q106 13 = q103 13 := g0q106 13 (by decide) (Or.inl (by decide))
    have wq106_19 : q106 19 = q103 19 := g0q106 19 (by decide) (Or.inl (by decide))
    have wq106_26 : q106 26 = q103 26 := g0q106 26 (by decide) (Or.inl (by decide))
    have h0q106 : fr [19, 27, 28, 29, 30, 31] q q106 := fr_tr h0q103 g0q106 (by decide)
    have bgq106 : bg q q106 := bg_fr bgq103 g0q106 (by decide)
    have gdq106 : GD q q106 := GD_tr gdq103 pq106_2
    have gbq106 : GD q q106 := GD_tr gbq103 pq106_2
    refine lv_aload_n hx hb dX11_readPlace_75 rfl (lv_at hl 1 rfl) ?_
    refine th_get S hK hH inG11 t0 km_0 rfl 25 (by decide) gm_1255 rfl rfl dX11_readPlace_76 (fun v107 hv107 fv107 => ?_)
    obtain ⟨rf108, rfl, trf108⟩ := th_V.ref hv107
    refine lv_iload_n hx hb dX11_readPlace_79 rfl (lv_at hl 0 rfl) ?_
    refine lv_iconst (v := 0) hx hb dX11_readPlace_80 (by decide) ?_
    refine th_iast S hK hH hS ⟨17, by decide, trf108⟩ trf108 km_17 (th_in (hi := 15) ix90 (by decide)) (th_iv (iv_top _)) dX11_readPlace_81 (fun H locs hH hS hq1 => ?_)
    have f109 := fv107.kept (hq1 _ (th_ne t0 trf108 (by decide)))
    refine lv_aload_n hx hb dX11_readPlace_82 rfl (lv_at hl 1 rfl) ?_
    refine th_callVp (n := 0) (As := []) S hK hH hS (th_A.sub (by decide)) (m_X11_isGood l D cT T q106 hT hqq106 a0 t0) gm_1487 gm_1484 gm_1486 gm_49 gm_124 (by decide +kernel) ⟨rfl, rfl, Nat.le_of_ble_eq_true rfl, Nat.le_of_ble_eq_true rfl⟩ t0 km_0 rfl rfl hl.1 rfl (Nat.le_of_ble_eq_true rfl) dX11_readPlace_83 ⟨Nat.zero_le _, Nat.zero_le _⟩ (fun x110 H locs ix110 ox110 hH hS hF1 => ?_)
    obtain ⟨ox110_0, ox110_1⟩ := ox110
    have ox110_0 : x110.toInt ≠ 0 → q106 30 = 0 := ox110_0
    have ox110_1 : x110.toInt = 0 → 1 ≤ q106 30 := ox110_1
    have l1x110 := ix110.1; have l2x110 := ix110.2
    have f111 := f109.kept (hF1 _ f109.lt (th_off t0 (by decide)))
    refine lv_istore_n (lv' := [(2, .int x110), (1, .int x90), (0, .ref a0)]) hx hb dX11_readPlace_86 rfl hl (by decide) rfl (fun ls hl => ?_)
    exact J87 ((1601 - q106 27).toNat + 1) q106 H locs ls x90 x110 hqq106 h0q106 ix90 ix110 (show TS q106 by exact pq106_0) (show q 27 ≤ q106 27 by omega) (show GD q q106 by exact gdq106) (show q106 19 = q 19 by omega) hH hS (lv_sub hl [2, 1, 0] rfl) (Nat.lt_succ_self _)
  exact J0 s.heap [] ls hH va_S.rf hl

set_option maxHeartbeats 20000000 in
set_option maxRecDepth 100000 in
theorem m_X11_readLikes (l : Launch) (D : va_G) (cT : Nat → ClassId) (T : Nat → Option Nat) (q : Nat → Int) (hT : tokm T) (hq : qkm q) (a0 : Nat) (t0 : T a0 = some 0) (hp0 : TS q) (hp1 : q 13 = 1 - q 10) : th_MetM l D cT T q yX11_readLikes cX11_readLikes 4 none (rmk 3 67) [.ref a0] (fun v q2 => v = none ∧ qkm q2 ∧ fr [27, 28, 29, 30, 31] q q2 ∧ (TS q2) ∧ (q 27 ≤ q2 27) ∧ (GD q q2)) [0, 6, 18, 19] := by
  refine th_startM (by decide) (Nat.le_of_ble_eq_true rfl) ?_
  intro p e s m below meth c ls S hK hH hr hlocks hnm hl
  have hx := S.1
  have hb := S.2.1
  have hl : lv_has ls 4 [(0, .ref a0)] := hl
  have J0 : ∀ (H : Heap) (locs : List Loc) (ls : Array Slot), th_H D cT T (km q) H → va_S (th_A T [0, 6, 18, 19]) s.heap H locs → lv_has ls 4 [(0, .ref a0)] → W p l e (rmk 3 67) s m [.ref a0].toArray below meth c H locs 0 0 (MQ below (th_QM D cT T (fun v q2 => v = none ∧ qkm q2 ∧ fr [27, 28, 29, 30, 31] q q2 ∧ (TS q2) ∧ (q 27 ≤ q2 27) ∧ (GD q q2)) [0, 6, 18, 19]) [.ref a0].toArray s 0 0 (th_A T [0, 6, 18, 19])) (F0 m 0 ls []) := by
    intro H locs ls hH hS hl
    refine lv_iconst (v := 4) hx hb dX11_readLikes_0 (by decide) ?_
    refine lv_aload_n hx hb dX11_readLikes_1 rfl (lv_at hl 0 rfl) ?_
    refine th_get S hK hH inG11 t0 km_0 rfl 42 (by decide) gm_1272 rfl rfl dX11_readLikes_2 (fun v1 hv1 fv1 => ?_)
    obtain ⟨x2, rfl, ix2⟩ := th_V.int hv1
    have kx2 : x2.toInt = q 13 := Int.le_antisymm ix2.2 ix2.1
    have bx2 := qkm_13 hq
    have ix2 : IV x2 0 1 := iv_w ix2 (qkm_13 hq)
    refine lv_imul hx hb dX11_readLikes_5 ?_
    refine lv_topi (fun x3 ex3 => ?_)
    have ix3 : IV x3 0 4 := by rw [ex3]; exact iv_mul (iv_c (by decide) : IV 4 4 4) ix2 (by decide) (by decide)
    have ux3 : x3.toInt = (4 : Int) * x2.toInt := by rw [ex3]; exact iv_mulE (iv_corner ((iv_c (by decide) : IV 4 4 4)).1 ((iv_c (by decide) : IV 4 4 4)).2 (ix2).1 (ix2).2 (by decide))
    refine lv_aload_n hx hb dX11_readLikes_6 rfl (lv_at hl 0 rfl) ?_
    refine lv_aload_n hx hb dX11_readLikes_7 rfl (lv_at hl 0 rfl) ?_
    refine th_callVi (n := 0) (As := []) S hK hH hS (th_A.sub (by decide)) (m_X11_mapHere l D cT T q hT hq a0 t0) gm_1535 gm_1532 gm_1534 gm_61 gm_124 (by decide +kernel) ⟨rfl, rfl, Nat.le_of_ble_eq_true rfl, Nat.le_of_ble_eq_true rfl⟩ t0 km_0 rfl rfl hl.1 rfl (Nat.le_of_ble_eq_true rfl) dX11_readLikes_8 ⟨Nat.zero_le _, Nat.zero_le _⟩ (fun x4 H locs ix4 hH hS hF1 => ?_)
    have l1x4 := ix4.1; have l2x4 := ix4.2
    refine th_callVM (n := 1) (As := [.int x4]) S hK hH hS (th_A.sub (by decide)) (m_X11_known_v1 l D cT T q hT hq a0 t0 (x4) ix4 (show TS q by exact hp0)) gm_1595 gm_1592 gm_1594 gm_76 gm_124 (by decide +kernel) ⟨rfl, rfl, Nat.le_of_ble_eq_true rfl, Nat.le_of_ble_eq_true rfl⟩ t0 km_0 rfl rfl hl.1 rfl (Nat.le_of_ble_eq_true rfl) dX11_readLikes_11 ⟨Nat.zero_le _, Nat.zero_le _⟩ (fun wq5 q5 H locs hEq5 hH hS hF1 => ?_)
    obtain ⟨x6, rfl, ix6, hqq5, g0q5, pq5_0, pq5_1, pq5_2⟩ := hEq5
    show W p l e (rmk 3 67) s m [.ref a0].toArray below meth c H locs 0 0 (MQ below (th_QM D cT T (fun v q2 => v = none ∧ qkm q2 ∧ fr [27, 28, 29, 30, 31] q q2 ∧ (TS q2) ∧ (q 27 ≤ q2 27) ∧ (GD q q2)) [0, 6, 18, 19]) [.ref a0].toArray s 0 0 (th_A T [0, 6, 18, 19])) (F0 m 14 ls [.int x6, .int x3])
    have pq5_0 : TS q5 := pq5_0
    have pq5_1 : q 27 ≤ q5 27 := pq5_1
    have pq5_2 : AD q q5 := pq5_2
    have wq5_10 : q5 10 = q 10 := g0q5 10 (by decide) (Or.inl (by decide))
    have wq5_13 : q5 13 = q 13 := g0q5 13 (by decide) (Or.inl (by decide))
    have wq5_26 : q5 26 = q 26 := g0q5 26 (by decide) (Or.inl (by decide))
    have h0q5 : fr [27, 28, 29, 30, 31] q q5 := fr_tr fr_rf g0q5 (by decide)
    have bgq5 : bg q q5 := bg_fr bg_rf g0q5 (by decide)
    have gdq5 : GD q q5 := GD_tr (GD_eq rfl) (AD_GD pq5_2)
    have gbq5 : GD q q5 := GD_tr (GD_eq rfl) (AD_GD pq5_2)
    have l1x6 := ix6.1; have l2x6 := ix6.2
    refine lv_iadd hx hb dX11_readLikes_14 ?_
    refine lv_topi (fun x7 ex7 => ?_)
    have ix7 : IV x7 0 7 := by rw [ex7]; exact iv_add ix3 ix6 (by decide)
    have ux7 : x7.toInt = x3.toInt + x6.toInt := by rw [ex7]; exact iv_addE (by have z1 := (ix3).1; have z2 := (ix3).2; have z3 := (ix6).1; have z4 := (ix6).2; omega)
    refine lv_istore_n (lv' := [(1, .int x7), (0, .ref a0)]) hx hb dX11_readLikes_15 rfl hl (by decide) rfl (fun ls hl => ?_)
    refine lv_aload_n hx hb dX11_readLikes_16 rfl (lv_at hl 1 rfl) ?_
    refine th_callVp (n := 0) (As := []) S hK hH hS (th_A.sub (by decide)) (m_X11_isGood l D cT T q5 hT hqq5 a0 t0) gm_1487 gm_1484 gm_1486 gm_49 gm_124 (by decide +kernel) ⟨rfl, rfl, Nat.le_of_ble_eq_true rfl, Nat.le_of_ble_eq_true rfl⟩ t0 km_0 rfl rfl hl.1 rfl (Nat.le_of_ble_eq_true rfl) dX11_readLikes_17 ⟨Nat.zero_le _, Nat.zero_le _⟩ (fun x8 H locs ix8 ox8 hH hS hF1 => ?_)
    obtain ⟨ox8_0, ox8_1⟩ := ox8
    have ox8_0 : x8.toInt ≠ 0 → q5 30 = 0 := ox8_0
    have ox8_1 : x8.toInt = 0 → 1 ≤ q5 30 := ox8_1
    have l1x8 := ix8.1; have l2x8 := ix8.2
    refine lv_if_ne (tgt := 24) hx hb dX11_readLikes_20 (by decide) (fun c9 => ?_) (fun c9 => ?_)
    · skip
      have rlc9 : x8.toInt ≠ (0 : Int) := iv_ne c9
      have ox8_0r := ox8_0 rlc9
      clear ox8_0
      clear ox8_1
      have ir10 : IV x8 1 1 := iv_cutL ix8 (iv_c (by decide) : IV 0 0 0) c9 (by decide)
      have ir10a := ir10.1; have ir10b := ir10.2
      clear rlc9
      refine lv_aload_n hx hb dX11_readLikes_24 rfl (lv_at hl 1 rfl) ?_
      refine th_callVi (n := 0) (As := []) S hK hH hS (th_A.sub (by decide)) (m_X11_foodHere l D cT T q5 hT hqq5 a0 t0) gm_1515 gm_1512 gm_1514 gm_56 gm_124 (by decide +kernel) ⟨rfl, rfl, Nat.le_of_ble_eq_true rfl, Nat.le_of_ble_eq_true rfl⟩ t0 km_0 rfl rfl hl.1 rfl (Nat.le_of_ble_eq_true rfl) dX11_readLikes_25 ⟨Nat.zero_le _, Nat.zero_le _⟩ (fun x11 H locs ix11 hH hS hF1 => ?_)
      have l1x11 := ix11.1; have l2x11 := ix11.2
      refine lv_istore_n (lv' := [(2, .int x11), (1, .int x7), (0, .ref a0)]) hx hb dX11_readLikes_28 rfl hl (by decide) rfl (fun ls hl => ?_)
      refine lv_iload_n hx hb dX11_readLikes_29 rfl (lv_at hl 0 rfl) ?_
      refine lv_if_lt (tgt := 56) hx hb dX11_readLikes_30 (by decide) (fun c12 => ?_) (fun c12 => ?_)
      · skip
        have rlc12 : x11.toInt < (0 : Int) := iv_lt c12
        have ir13 : IV x11 (-1) (-1) := iv_uL ix11 (iv_c (by decide) : IV 0 0 0) (iv_lt c12) (by decide)
        have ir13a := ir13.1; have ir13b := ir13.2
        refine lv_aload_n hx hb dX11_readLikes_56 rfl (lv_at hl 2 rfl) ?_
        refine lv_iload_n hx hb dX11_readLikes_57 rfl (lv_at hl 0 rfl) ?_
        refine th_callVM (n := 1) (As := [.int x11]) S hK hH hS (th_A.sub (by decide)) (m_X11_known_v0 l D cT T q5 hT hqq5 a0 t0 (x11) (iv_w ir13 (by decide)) (show TS q5 by exact pq5_0)) gm_1595 gm_1592 gm_1594 gm_76 gm_124 (by decide +kernel) ⟨rfl, rfl, Nat.le_of_ble_eq_true rfl, Nat.le_of_ble_eq_true rfl⟩ t0 km_0 rfl rfl hl.1 rfl (Nat.le_of_ble_eq_true rfl) dX11_readLikes_58 ⟨Nat.zero_le _, Nat.zero_le _⟩ (fun wq14 q14 H locs hEq14 hH hS hF1 => ?_)
        obtain ⟨x15, rfl, ix15, hqq14, g0q14, pq14_0, pq14_1, pq14_2⟩ := hEq14
        show W p l e (rmk 3 67) s m [.ref a0].toArray below meth c H locs 0 0 (MQ below (th_QM D cT T (fun v q2 => v = none ∧ qkm q2 ∧ fr [27, 28, 29, 30, 31] q q2 ∧ (TS q2) ∧ (q 27 ≤ q2 27) ∧ (GD q q2)) [0, 6, 18, 19]) [.ref a0].toArray s 0 0 (th_A T [0, 6, 18, 19])) (F0 m 61 ls [.int x15])
        have pq14_0 : TS q14 := pq14_0
        have pq14_1 : q5 27 ≤ q14 27 := pq14_1
        have pq14_2 : AD q5 q14 := pq14_2
        have wq14_10 : q14 10 = q5 10 := g0q14 10 (by decide) (Or.inl (by decide))
        have wq14_13 : q14 13 = q5 13 := g0q14 13 (by decide) (Or.inl (by decide))
        have wq14_26 : q14 26 = q5 26 := g0q14 26 (by decide) (Or.inl (by decide))
        have h0q14 : fr [27, 28, 29, 30, 31] q q14 := fr_tr h0q5 g0q14 (by decide)
        have bgq14 : bg q q14 := bg_fr bgq5 g0q14 (by decide)
        have gdq14 : GD q q14 := GD_tr gdq5 (AD_GD pq14_2)
        have gbq14 : GD q q14 := GD_tr gbq5 (AD_GD pq14_2)
        have l1x15 := ix15.1; have l2x15 := ix15.2
        refine lv_istore_n (lv' := [(2, .int x15), (1, .int x7), (0, .ref a0)]) hx hb dX11_readLikes_61 rfl hl (by decide) rfl (fun ls hl => ?_)
        refine lv_aload_n hx hb dX11_readLikes_62 rfl (lv_at hl 2 rfl) ?_
        refine lv_iconst (v := 0) hx hb dX11_readLikes_63 (by decide) ?_
        refine lv_bipush (v := 9) hx hb dX11_readLikes_64 (by decide) ?_
        refine th_callVM (n := 2) (As := [.int 0, .int 9]) S hK hH hS (th_A.sub (by decide)) (m_X11_numeral l D cT T q14 hT hqq14 a0 t0 (0) (iv_top _) (9) (iv_top _) (show TS q14 by exact pq14_0)) gm_1527 gm_1524 gm_1526 gm_59 gm_124 (by decide +kernel) ⟨rfl, rfl, Nat.le_of_ble_eq_true rfl, Nat.le_of_ble_eq_true rfl⟩ t0 km_0 rfl rfl hl.1 rfl (Nat.le_of_ble_eq_true rfl) dX11_readLikes_66 ⟨Nat.zero_le _, Nat.zero_le _⟩ (fun wq16 q16 H locs hEq16 hH hS hF1 => ?_)
        obtain ⟨x17, rfl, ix17, hqq16, g0q16, pq16_0, pq16_1, pq16_2⟩ := hEq16
        show W p l e (rmk 3 67) s m [.ref a0].toArray below meth c H locs 0 0 (MQ below (th_QM D cT T (fun v q2 => v = none ∧ qkm q2 ∧ fr [27, 28, 29, 30, 31] q q2 ∧ (TS q2) ∧ (q 27 ≤ q2 27) ∧ (GD q q2)) [0, 6, 18, 19]) [.ref a0].toArray s 0 0 (th_A T [0, 6, 18, 19])) (F0 m 69 ls [.int x17])
        have pq16_0 : TS q16 := pq16_0
        have pq16_1 : q14 27 ≤ q16 27 := pq16_1
        have pq16_2 : GD q14 q16 := pq16_2
        have wq16_10 : q16 10 = q14 10 := g0q16 10 (by decide) (Or.inl (by decide))
        have wq16_13 : q16 13 = q14 13 := g0q16 13 (by decide) (Or.inl (by decide))
        have wq16_26 : q16 26 = q14 26 := g0q16 26 (by decide) (Or.inl (by decide))
        have h0q16 : fr [27, 28, 29, 30, 31] q q16 := fr_tr h0q14 g0q16 (by decide)
        have bgq16 : bg q q16 := bg_fr bgq14 g0q16 (by decide)
        have gdq16 : GD q q16 := GD_tr gdq14 pq16_2
        have gbq16 : GD q q16 := GD_tr gbq14 pq16_2
        refine lv_istore_n (lv' := [(3, .int x17), (2, .int x15), (1, .int x7), (0, .ref a0)]) hx hb dX11_readLikes_69 rfl hl (by decide) rfl (fun ls hl => ?_)
        refine lv_aload_n hx hb dX11_readLikes_70 rfl (lv_at hl 3 rfl) ?_
        refine th_callVp (n := 0) (As := []) S hK hH hS (th_A.sub (by decide)) (m_X11_isGood l D cT T q16 hT hqq16 a0 t0) gm_1487 gm_1484 gm_1486 gm_49 gm_124 (by decide +kernel) ⟨rfl, rfl, Nat.le_of_ble_eq_true rfl, Nat.le_of_ble_eq_true rfl⟩ t0 km_0 rfl rfl hl.1 rfl (Nat.le_of_ble_eq_true rfl) dX11_readLikes_71 ⟨Nat.zero_le _, Nat.zero_le _⟩ (fun x18 H locs ix18 ox18 hH hS hF1 => ?_)
        obtain ⟨ox18_0, ox18_1⟩ := ox18
        have ox18_0 : x18.toInt ≠ 0 → q16 30 = 0 := ox18_0
        have ox18_1 : x18.toInt = 0 → 1 ≤ q16 30 := ox18_1
        have l1x18 := ix18.1; have l2x18 := ix18.2
        refine lv_if_ne (tgt := 78) hx hb dX11_readLikes_74 (by decide) (fun c19 => ?_) (fun c19 => ?_)
        · skip
          have rlc19 : x18.toInt ≠ (0 : Int) := iv_ne c19
          have ox18_0r := ox18_0 rlc19
          clear ox18_0
          clear ox18_1
          have ir20 : IV x18 1 1 := iv_cutL ix18 (iv_c (by decide) : IV 0 0 0) c19 (by decide)
          have ir20a := ir20.1; have ir20b := ir20.2
          clear rlc19
          refine lv_aload_n hx hb dX11_readLikes_78 rfl (lv_at hl 3 rfl) ?_
          refine th_get S hK hH inG11 t0 km_0 rfl 27 (by decide) gm_1257 rfl rfl dX11_readLikes_79 (fun v21 hv21 fv21 => ?_)
          obtain ⟨rf22, rfl, trf22⟩ := th_V.ref hv21
          refine lv_iload_n hx hb dX11_readLikes_82 rfl (lv_at hl 2 rfl) ?_
          refine lv_dup2_11 hx hb dX11_readLikes_83 rfl rfl ?_
          refine th_iald S hK hH trf22 km_19 (th_in (hi := 7) ix7 (by decide)) dX11_readLikes_84 (fun v23 hv23 => ?_)
          obtain ⟨x24, rfl, ix24⟩ := th_V.int hv23
          refine lv_iconst (v := 1) hx hb dX11_readLikes_85 (by decide) ?_
          refine lv_iload_n hx hb dX11_readLikes_86 rfl (lv_at hl 1 rfl) ?_
          refine lv_ishl hx hb dX11_readLikes_87 ?_
          refine lv_topi (fun x25 ex25 => ?_)
          have ix25 := iv_top x25
          have ix25 : IV x25 1 1073741824 := by rw [ex25]; exact iv_shl1 (iv_w ix15 (by decide))
          refine lv_ior hx hb dX11_readLikes_88 ?_
          refine lv_topi (fun x26 ex26 => ?_)
          have ix26 := iv_top x26
          refine th_iast S hK hH hS ⟨19, by decide, trf22⟩ trf22 km_19 (th_in (hi := 7) ix7 (by decide)) (th_iv ix26) dX11_readLikes_89 (fun H locs hH hS hq1 => ?_)
          have f27 := fv21.kept (hq1 _ (th_ne t0 trf22 (by decide)))
          refine lv_aload_n hx hb dX11_readLikes_90 rfl (lv_at hl 3 rfl) ?_
          refine th_get S hK hH inG11 t0 km_0 rfl 26 (by decide) gm_1256 rfl rfl dX11_readLikes_91 (fun v28 hv28 fv28 => ?_)
          obtain ⟨rf29, rfl, trf29⟩ := th_V.ref hv28
          refine lv_iconst (v := 3) hx hb dX11_readLikes_94 (by decide) ?_
          refine lv_iload_n hx hb dX11_readLikes_95 rfl (lv_at hl 2 rfl) ?_
          refine lv_imul hx hb dX11_readLikes_96 ?_
          refine lv_topi (fun x30 ex30 => ?_)
          have ix30 : IV x30 0 21 := by rw [ex30]; exact iv_mul (iv_c (by decide) : IV 3 3 3) ix7 (by decide) (by decide)
          have ux30 : x30.toInt = (3 : Int) * x7.toInt := by rw [ex30]; exact iv_mulE (iv_corner ((iv_c (by decide) : IV 3 3 3)).1 ((iv_c (by decide) : IV 3 3 3)).2 (ix7).1 (ix7).2 (by decide))
          refine lv_iload_n hx hb dX11_readLikes_97 rfl (lv_at hl 1 rfl) ?_
          refine lv_iadd hx hb dX11_readLikes_98 ?_
          refine lv_topi (fun x31 ex31 => ?_)
          have ix31 : IV x31 0 23 := by rw [ex31]; exact iv_add ix30 ix15 (by decide)
          have ux31 : x31.toInt = x30.toInt + x15.toInt := by rw [ex31]; exact iv_addE (by have z1 := (ix30).1; have z2 := (ix30).2; have z3 := (ix15).1; have z4 := (ix15).2; omega)
          refine lv_iload_n hx hb dX11_readLikes_99 rfl (lv_at hl 0 rfl) ?_
          refine th_iast S hK hH hS ⟨18, by decide, trf29⟩ trf29 km_18 (th_in (hi := 23) ix31 (by decide)) (th_iv ix17) dX11_readLikes_100 (fun H locs hH hS hq1 => ?_)
          have f32 := f27.kept (hq1 _ (th_ne t0 trf29 (by decide)))
          refine lv_aload_n hx hb dX11_readLikes_101 rfl (lv_at hl 3 rfl) ?_
          refine th_get S hK hH inG11 t0 km_0 rfl 14 (by decide) gm_1244 rfl rfl dX11_readLikes_102 (fun v33 hv33 fv33 => ?_)
          obtain ⟨rf34, rfl, trf34⟩ := th_V.ref hv33
          refine lv_aload_n hx hb dX11_readLikes_105 rfl (lv_at hl 3 rfl) ?_
          refine th_get S hK hH inG11 t0 km_0 rfl 42 (by decide) gm_1272 rfl rfl dX11_readLikes_106 (fun v35 hv35 fv35 => ?_)
          obtain ⟨x36, rfl, ix36⟩ := th_V.int hv35
          have kx36 : x36.toInt = q16 13 := Int.le_antisymm ix36.2 ix36.1
          have bx36 := qkm_13 hqq16
          have ix36 : IV x36 0 1 := iv_w ix36 (qkm_13 hqq16)
          refine lv_dup2_11 hx hb dX11_readLikes_109 rfl rfl ?_
          refine th_iald S hK hH trf34 km_6 (th_in (hi := 1) ix36 (by decide)) dX11_readLikes_110 (fun v37 hv37 => ?_)
          obtain ⟨x38, rfl, ix38⟩ := th_V.int hv37
          refine lv_iconst (v := 1) hx hb dX11_readLikes_111 (by decide) ?_
          refine lv_iadd hx hb dX11_readLikes_112 ?_
          refine lv_topi (fun x39 ex39 => ?_)
          have ix39 := iv_top x39
          refine th_iast S hK hH hS ⟨6, by decide, trf34⟩ trf34 km_6 (th_in (hi := 1) ix36 (by decide)) (th_iv ix39) dX11_readLikes_113 (fun H locs hH hS hq1 => ?_)
          have f40 := f32.kept (hq1 _ (th_ne t0 trf34 (by decide)))
          exact th_vretM S hK hH hS hr hlocks ⟨rfl, hqq16, h0q16, (show TS q16 by exact pq16_0), (show q 27 ≤ q16 27 by omega), (show GD q q16 by exact gdq16)⟩ dX11_readLikes_114
        · skip
          have rlc19 : x18.toInt = (0 : Int) := congrArg Int32.toInt c19
          clear ox18_0
          have ox18_1r := ox18_1 rlc19
          clear ox18_1
          have ir41 : IV x18 0 0 := iv_eL c19 (iv_c (by decide) : IV 0 0 0)
          have ir41a := ir41.1; have ir41b := ir41.2
          exact th_vretM S hK hH hS hr hlocks ⟨rfl, hqq16, h0q16, (show TS q16 by exact pq16_0), (show q 27 ≤ q16 27 by omega), (show GD q q16 by exact gdq16)⟩ dX11_readLikes_77
      · skip
        have rlc12 : (0 : Int) ≤ x11.toInt := iv_nlt c12
        have ir42 : IV x11 0 2 := iv_vR (iv_c (by decide) : IV 0 0 0) ix11 (iv_nlt c12) (by decide)
        have ir42a := ir42.1; have ir42b := ir42.2
        refine lv_aload_n hx hb dX11_readLikes_33 rfl (lv_at hl 2 rfl) ?_
        refine th_get S hK hH inG11 t0 km_0 rfl 27 (by decide) gm_1257 rfl rfl dX11_readLikes_34 (fun v43 hv43 fv43 => ?_)
        obtain ⟨rf44, rfl, trf44⟩ := th_V.ref hv43
        refine lv_iload_n hx hb dX11_readLikes_37 rfl (lv_at hl 1 rfl) ?_
        refine th_iald S hK hH trf44 km_19 (th_in (hi := 7) ix7 (by decide)) dX11_readLikes_38 (fun v45 hv45 => ?_)
        obtain ⟨x46, rfl, ix46⟩ := th_V.int hv45
        refine lv_iload_n hx hb dX11_readLikes_39 rfl (lv_at hl 0 rfl) ?_
        refine lv_ishr hx hb dX11_readLikes_40 ?_
        refine lv_topi (fun x47 ex47 => ?_)
        have ix47 := iv_top x47
        refine lv_iconst (v := 1) hx hb dX11_readLikes_41 (by decide) ?_
        refine lv_iand hx hb dX11_readLikes_42 ?_
        refine lv_topi (fun x48 ex48 => ?_)
        have ix48 : IV x48 0 1 := by rw [ex48]; exact iv_and (h2 := 1) (iv_w (iv_c (by decide) : IV 1 1 1) (by decide)) (by decide)
        refine lv_iconst (v := 1) hx hb dX11_readLikes_43 (by decide) ?_
        refine lv_icmp_ne (tgt := 56) hx hb dX11_readLikes_44 (by decide) (fun c49 => ?_) (fun c49 => ?_)
        · skip
          have rlc49 : x48.toInt ≠ (1 : Int) := iv_ne c49
          have ir50 : IV x48 0 0 := iv_cutH ix48 (iv_c (by decide) : IV 1 1 1) c49 (by decide)
          have ir50a := ir50.1; have ir50b := ir50.2
          clear rlc49
          refine lv_aload_n hx hb dX11_readLikes_56 rfl (lv_at hl 2 rfl) ?_
          refine lv_iload_n hx hb dX11_readLikes_57 rfl (lv_at hl 0 rfl) ?_
          refine th_callVM (n := 1) (As := [.int x11]) S hK hH hS (th_A.sub (by decide)) (m_X11_known_v0 l D cT T q5 hT hqq5 a0 t0 (x11) (iv_w ir42 (by decide)) (show TS q5 by exact pq5_0)) gm_1595 gm_1592 gm_1594 gm_76 gm_124 (by decide +kernel) ⟨rfl, rfl, Nat.le_of_ble_eq_true rfl, Nat.le_of_ble_eq_true rfl⟩ t0 km_0 rfl rfl hl.1 rfl (Nat.le_of_ble_eq_true rfl) dX11_readLikes_58 ⟨Nat.zero_le _, Nat.zero_le _⟩ (fun wq51 q51 H locs hEq51 hH hS hF1 => ?_)
          obtain ⟨x52, rfl, ix52, hqq51, g0q51, pq51_0, pq51_1, pq51_2⟩ := hEq51
          show W p l e (rmk 3 67) s m [.ref a0].toArray below meth c H locs 0 0 (MQ below (th_QM D cT T (fun v q2 => v = none ∧ qkm q2 ∧ fr [27, 28, 29, 30, 31] q q2 ∧ (TS q2) ∧ (q 27 ≤ q2 27) ∧ (GD q q2)) [0, 6, 18, 19]) [.ref a0].toArray s 0 0 (th_A T [0, 6, 18, 19])) (F0 m 61 ls [.int x52])
          have pq51_0 : TS q51 := pq51_0
          have pq51_1 : q5 27 ≤ q51 27 := pq51_1
          have pq51_2 : AD q5 q51 := pq51_2
          have wq51_10 : q51 10 = q5 10 := g0q51 10 (by decide) (Or.inl (by decide))
          have wq51_13 : q51 13 = q5 13 := g0q51 13 (by decide) (Or.inl (by decide))
          have wq51_26 : q51 26 = q5 26 := g0q51 26 (by decide) (Or.inl (by decide))
          have h0q51 : fr [27, 28, 29, 30, 31] q q51 := fr_tr h0q5 g0q51 (by decide)
          have bgq51 : bg q q51 := bg_fr bgq5 g0q51 (by decide)
          have gdq51 : GD q q51 := GD_tr gdq5 (AD_GD pq51_2)
          have gbq51 : GD q q51 := GD_tr gbq5 (AD_GD pq51_2)
          have l1x52 := ix52.1; have l2x52 := ix52.2
          refine lv_istore_n (lv' := [(2, .int x52), (1, .int x7), (0, .ref a0)]) hx hb dX11_readLikes_61 rfl hl (by decide) rfl (fun ls hl => ?_)
          refine lv_aload_n hx hb dX11_readLikes_62 rfl (lv_at hl 2 rfl) ?_
          refine lv_iconst (v := 0) hx hb dX11_readLikes_63 (by decide) ?_
          refine lv_bipush (v := 9) hx hb dX11_readLikes_64 (by decide) ?_
          refine th_callVM (n := 2) (As := [.int 0, .int 9]) S hK hH hS (th_A.sub (by decide)) (m_X11_numeral l D cT T q51 hT hqq51 a0 t0 (0) (iv_top _) (9) (iv_top _) (show TS q51 by exact pq51_0)) gm_1527 gm_1524 gm_1526 gm_59 gm_124 (by decide +kernel) ⟨rfl, rfl, Nat.le_of_ble_eq_true rfl, Nat.le_of_ble_eq_true rfl⟩ t0 km_0 rfl rfl hl.1 rfl (Nat.le_of_ble_eq_true rfl) dX11_readLikes_66 ⟨Nat.zero_le _, Nat.zero_le _⟩ (fun wq53 q53 H locs hEq53 hH hS hF1 => ?_)
          obtain ⟨x54, rfl, ix54, hqq53, g0q53, pq53_0, pq53_1, pq53_2⟩ := hEq53
          show W p l e (rmk 3 67) s m [.ref a0].toArray below meth c H locs 0 0 (MQ below (th_QM D cT T (fun v q2 => v = none ∧ qkm q2 ∧ fr [27, 28, 29, 30, 31] q q2 ∧ (TS q2) ∧ (q 27 ≤ q2 27) ∧ (GD q q2)) [0, 6, 18, 19]) [.ref a0].toArray s 0 0 (th_A T [0, 6, 18, 19])) (F0 m 69 ls [.int x54])
          have pq53_0 : TS q53 := pq53_0
          have pq53_1 : q51 27 ≤ q53 27 := pq53_1
          have pq53_2 : GD q51 q53 := pq53_2
          have wq53_10 : q53 10 = q51 10 := g0q53 10 (by decide) (Or.inl (by decide))
          have wq53_13 : q53 13 = q51 13 := g0q53 13 (by decide) (Or.inl (by decide))
          have wq53_26 : q53 26 = q51 26 := g0q53 26 (by decide) (Or.inl (by decide))
          have h0q53 : fr [27, 28, 29, 30, 31] q q53 := fr_tr h0q51 g0q53 (by decide)
          have bgq53 : bg q q53 := bg_fr bgq51 g0q53 (by decide)
          have gdq53 : GD q q53 := GD_tr gdq51 pq53_2
          have gbq53 : GD q q53 := GD_tr gbq51 pq53_2
          refine lv_istore_n (lv' := [(3, .int x54), (2, .int x52), (1, .int x7), (0, .ref a0)]) hx hb dX11_readLikes_69 rfl hl (by decide) rfl (fun ls hl => ?_)
          refine lv_aload_n hx hb dX11_readLikes_70 rfl (lv_at hl 3 rfl) ?_
          refine th_callVp (n := 0) (As := []) S hK hH hS (th_A.sub (by decide)) (m_X11_isGood l D cT T q53 hT hqq53 a0 t0) gm_1487 gm_1484 gm_1486 gm_49 gm_124 (by decide +kernel) ⟨rfl, rfl, Nat.le_of_ble_eq_true rfl, Nat.le_of_ble_eq_true rfl⟩ t0 km_0 rfl rfl hl.1 rfl (Nat.le_of_ble_eq_true rfl) dX11_readLikes_71 ⟨Nat.zero_le _, Nat.zero_le _⟩ (fun x55 H locs ix55 ox55 hH hS hF1 => ?_)
          obtain ⟨ox55_0, ox55_1⟩ := ox55
          have ox55_0 : x55.toInt ≠ 0 → q53 30 = 0 := ox55_0
          have ox55_1 : x55.toInt = 0 → 1 ≤ q53 30 := ox55_1
          have l1x55 := ix55.1; have l2x55 := ix55.2
          refine lv_if_ne (tgt := 78) hx hb dX11_readLikes_74 (by decide) (fun c56 => ?_) (fun c56 => ?_)
          · skip
            have rlc56 : x55.toInt ≠ (0 : Int) := iv_ne c56
            have ox55_0r := ox55_0 rlc56
            clear ox55_0
            clear ox55_1
            have ir57 : IV x55 1 1 := iv_cutL ix55 (iv_c (by decide) : IV 0 0 0) c56 (by decide)
            have ir57a := ir57.1; have ir57b := ir57.2
            clear rlc56
            refine lv_aload_n hx hb dX11_readLikes_78 rfl (lv_at hl 3 rfl) ?_
            refine th_get S hK hH inG11 t0 km_0 rfl 27 (by decide) gm_1257 rfl rfl dX11_readLikes_79 (fun v58 hv58 fv58 => ?_)
            obtain ⟨rf59, rfl, trf59⟩ := th_V.ref hv58
            refine lv_iload_n hx hb dX11_readLikes_82 rfl (lv_at hl 2 rfl) ?_
            refine lv_dup2_11 hx hb dX11_readLikes_83 rfl rfl ?_
            refine th_iald S hK hH trf59 km_19 (th_in (hi := 7) ix7 (by decide)) dX11_readLikes_84 (fun v60 hv60 => ?_)
            obtain ⟨x61, rfl, ix61⟩ := th_V.int hv60
            refine lv_iconst (v := 1) hx hb dX11_readLikes_85 (by decide) ?_
            refine lv_iload_n hx hb dX11_readLikes_86 rfl (lv_at hl 1 rfl) ?_
            refine lv_ishl hx hb dX11_readLikes_87 ?_
            refine lv_topi (fun x62 ex62 => ?_)
            have ix62 := iv_top x62
            have ix62 : IV x62 1 1073741824 := by rw [ex62]; exact iv_shl1 (iv_w ix52 (by decide))
            refine lv_ior hx hb dX11_readLikes_88 ?_
            refine lv_topi (fun x63 ex63 => ?_)
            have ix63 := iv_top x63
            refine th_iast S hK hH hS ⟨19, by decide, trf59⟩ trf59 km_19 (th_in (hi := 7) ix7 (by decide)) (th_iv ix63) dX11_readLikes_89 (fun H locs hH hS hq1 => ?_)
            have f64 := fv58.kept (hq1 _ (th_ne t0 trf59 (by decide)))
            refine lv_aload_n hx hb dX11_readLikes_90 rfl (lv_at hl 3 rfl) ?_
            refine th_get S hK hH inG11 t0 km_0 rfl 26 (by decide) gm_1256 rfl rfl dX11_readLikes_91 (fun v65 hv65 fv65 => ?_)
            obtain ⟨rf66, rfl, trf66⟩ := th_V.ref hv65
            refine lv_iconst (v := 3) hx hb dX11_readLikes_94 (by decide) ?_
            refine lv_iload_n hx hb dX11_readLikes_95 rfl (lv_at hl 2 rfl) ?_
            refine lv_imul hx hb dX11_readLikes_96 ?_
            refine lv_topi (fun x67 ex67 => ?_)
            have ix67 : IV x67 0 21 := by rw [ex67]; exact iv_mul (iv_c (by decide) : IV 3 3 3) ix7 (by decide) (by decide)
            have ux67 : x67.toInt = (3 : Int) * x7.toInt := by rw [ex67]; exact iv_mulE (iv_corner ((iv_c (by decide) : IV 3 3 3)).1 ((iv_c (by decide) : IV 3 3 3)).2 (ix7).1 (ix7).2 (by decide))
            refine lv_iload_n hx hb dX11_readLikes_97 rfl (lv_at hl 1 rfl) ?_
            refine lv_iadd hx hb dX11_readLikes_98 ?_
            refine lv_topi (fun x68 ex68 => ?_)
            have ix68 : IV x68 0 23 := by rw [ex68]; exact iv_add ix67 ix52 (by decide)
            have ux68 : x68.toInt = x67.toInt + x52.toInt := by rw [ex68]; exact iv_addE (by have z1 := (ix67).1; have z2 := (ix67).2; have z3 := (ix52).1; have z4 := (ix52).2; omega)
            refine lv_iload_n hx hb dX11_readLikes_99 rfl (lv_at hl 0 rfl) ?_
            refine th_iast S hK hH hS ⟨18, by decide, trf66⟩ trf66 km_18 (th_in (hi := 23) ix68 (by decide)) (th_iv ix54) dX11_readLikes_100 (fun H locs hH hS hq1 => ?_)
            have f69 := f64.kept (hq1 _ (th_ne t0 trf66 (by decide)))
            refine lv_aload_n hx hb dX11_readLikes_101 rfl (lv_at hl 3 rfl) ?_
            refine th_get S hK hH inG11 t0 km_0 rfl 14 (by decide) gm_1244 rfl rfl dX11_readLikes_102 (fun v70 hv70 fv70 => ?_)
            obtain ⟨rf71, rfl, trf71⟩ := th_V.ref hv70
            refine lv_aload_n hx hb dX11_readLikes_105 rfl (lv_at hl 3 rfl) ?_
            refine th_get S hK hH inG11 t0 km_0 rfl 42 (by decide) gm_1272 rfl rfl dX11_readLikes_106 (fun v72 hv72 fv72 => ?_)
            obtain ⟨x73, rfl, ix73⟩ := th_V.int hv72
            have kx73 : x73.toInt = q53 13 := Int.le_antisymm ix73.2 ix73.1
            have bx73 := qkm_13 hqq53
            have ix73 : IV x73 0 1 := iv_w ix73 (qkm_13 hqq53)
            refine lv_dup2_11 hx hb dX11_readLikes_109 rfl rfl ?_
            refine th_iald S hK hH trf71 km_6 (th_in (hi := 1) ix73 (by decide)) dX11_readLikes_110 (fun v74 hv74 => ?_)
            obtain ⟨x75, rfl, ix75⟩ := th_V.int hv74
            refine lv_iconst (v := 1) hx hb dX11_readLikes_111 (by decide) ?_
            refine lv_iadd hx hb dX11_readLikes_112 ?_
            refine lv_topi (fun x76 ex76 => ?_)
            have ix76 := iv_top x76
            refine th_iast S hK hH hS ⟨6, by decide, trf71⟩ trf71 km_6 (th_in (hi := 1) ix73 (by decide)) (th_iv ix76) dX11_readLikes_113 (fun H locs hH hS hq1 => ?_)
            have f77 := f69.kept (hq1 _ (th_ne t0 trf71 (by decide)))
            exact th_vretM S hK hH hS hr hlocks ⟨rfl, hqq53, h0q53, (show TS q53 by exact pq53_0), (show q 27 ≤ q53 27 by omega), (show GD q q53 by exact gdq53)⟩ dX11_readLikes_114
          · skip
            have rlc56 : x55.toInt = (0 : Int) := congrArg Int32.toInt c56
            clear ox55_0
            have ox55_1r := ox55_1 rlc56
            clear ox55_1
            have ir78 : IV x55 0 0 := iv_eL c56 (iv_c (by decide) : IV 0 0 0)
            have ir78a := ir78.1; have ir78b := ir78.2
            exact th_vretM S hK hH hS hr hlocks ⟨rfl, hqq53, h0q53, (show TS q53 by exact pq53_0), (show q 27 ≤ q53 27 by omega), (show GD q q53 by exact gdq53)⟩ dX11_readLikes_77
        · skip
          have rlc49 : x48.toInt = (1 : Int) := congrArg Int32.toInt c49
          have ir79 : IV x48 1 1 := ⟨(iv_eL c49 (iv_c (by decide) : IV 1 1 1)).1, ix48.2⟩
          have ir79a := ir79.1; have ir79b := ir79.2
          refine lv_aload_n hx hb dX11_readLikes_47 rfl (lv_at hl 2 rfl) ?_
          refine lv_iconst (v := 3) hx hb dX11_readLikes_48 (by decide) ?_
          refine lv_aload_n hx hb dX11_readLikes_49 rfl (lv_at hl 2 rfl) ?_
          refine th_get S hK hH inG11 t0 km_0 rfl 6 (by decide) gm_1236 rfl rfl dX11_readLikes_50 (fun v80 hv80 fv80 => ?_)
          obtain ⟨x81, rfl, ix81⟩ := th_V.int hv80
          have kx81 : x81.toInt = q5 27 := Int.le_antisymm ix81.2 ix81.1
          have bx81 := qkm_27 hqq5
          have ix81 : IV x81 0 1600 := iv_w ix81 (qkm_27 hqq5)
          refine th_callVM (n := 2) (As := [.int 3, .int x81]) S hK hH hS (th_A.sub (by decide)) (m_X11_fails l D cT T q5 hT hqq5 a0 t0 (3) (iv_w (iv_c (by decide) : IV 3 3 3) (by decide)) (x81) (iv_top _)) gm_1507 gm_1504 gm_1506 gm_54 gm_124 (by decide +kernel) ⟨rfl, rfl, Nat.le_of_ble_eq_true rfl, Nat.le_of_ble_eq_true rfl⟩ t0 km_0 rfl rfl hl.1 rfl (Nat.le_of_ble_eq_true rfl) dX11_readLikes_53 ⟨Nat.zero_le _, Nat.zero_le _⟩ (fun wq82 q82 H locs hEq82 hH hS hF1 => ?_)
          obtain ⟨rfl, hqq82, g0q82, pq82_0⟩ := hEq82
          show W p l e (rmk 3 67) s m [.ref a0].toArray below meth c H locs 0 0 (MQ below (th_QM D cT T (fun v q2 => v = none ∧ qkm q2 ∧ fr [27, 28, 29, 30, 31] q q2 ∧ (TS q2) ∧ (q 27 ≤ q2 27) ∧ (GD q q2)) [0, 6, 18, 19]) [.ref a0].toArray s 0 0 (th_A T [0, 6, 18, 19])) (F0 m 56 ls [])
          have pq82_0 : 1 ≤ q82 30 := pq82_0
          have wq82_10 : q82 10 = q5 10 := g0q82 10 (by decide) (Or.inl (by decide))
          have wq82_13 : q82 13 = q5 13 := g0q82 13 (by decide) (Or.inl (by decide))
          have wq82_26 : q82 26 = q5 26 := g0q82 26 (by decide) (Or.inl (by decide))
          have wq82_27 : q82 27 = q5 27 := g0q82 27 (by decide) (Or.inl (by decide))
          have wq82_28 : q82 28 = q5 28 := g0q82 28 (by decide) (Or.inl (by decide))
          have wq82_29 : q82 29 = q5 29 := g0q82 29 (by decide) (Or.inl (by decide))
          have wq82_31 : q82 31 = q5 31 := g0q82 31 (by decide) (Or.inl (by decide))
          have h0q82 : fr [27, 28, 29, 30, 31] q q82 := fr_tr h0q5 g0q82 (by decide)
          have bgq82 : bg q q82 := bg_fr bgq5 g0q82 (by decide)
          have gdq82 : GD q q82 := GD_tr gdq5 (GD_no pq82_0)
          have gbq82 : GD q q82 := GD_tr gbq5 (GD_no pq82_0)
          have txq82 : tx q5 q82 := tx_tr tx_rf (tx_bg (bg_fr bg_rf g0q82 (by decide)))
          refine lv_aload_n hx hb dX11_readLikes_56 rfl (lv_at hl 2 rfl) ?_
          refine lv_iload_n hx hb dX11_readLikes_57 rfl (lv_at hl 0 rfl) ?_
          refine th_callVM (n := 1) (As := [.int x11]) S hK hH hS (th_A.sub (by decide)) (m_X11_known_v0 l D cT T q82 hT hqq82 a0 t0 (x11) (iv_w ir42 (by decide)) (show TS q82 by exact (TS_mv pq5_0 txq82 (by omega) (by omega) (by omega) (by omega) (by omega) (fun z => by omega)))) gm_1595 gm_1592 gm_1594 gm_76 gm_124 (by decide +kernel) ⟨rfl, rfl, Nat.le_of_ble_eq_true rfl, Nat.le_of_ble_eq_true rfl⟩ t0 km_0 rfl rfl hl.1 rfl (Nat.le_of_ble_eq_true rfl) dX11_readLikes_58 ⟨Nat.zero_le _, Nat.zero_le _⟩ (fun wq83 q83 H locs hEq83 hH hS hF1 => ?_)
          obtain ⟨x84, rfl, ix84, hqq83, g0q83, pq83_0, pq83_1, pq83_2⟩ := hEq83
          show W p l e (rmk 3 67) s m [.ref a0].toArray below meth c H locs 0 0 (MQ below (th_QM D cT T (fun v q2 => v = none ∧ qkm q2 ∧ fr [27, 28, 29, 30, 31] q q2 ∧ (TS q2) ∧ (q 27 ≤ q2 27) ∧ (GD q q2)) [0, 6, 18, 19]) [.ref a0].toArray s 0 0 (th_A T [0, 6, 18, 19])) (F0 m 61 ls [.int x84])
          have pq83_0 : TS q83 := pq83_0
          have pq83_1 : q82 27 ≤ q83 27 := pq83_1
          have pq83_2 : AD q82 q83 := pq83_2
          have wq83_10 : q83 10 = q82 10 := g0q83 10 (by decide) (Or.inl (by decide))
          have wq83_13 : q83 13 = q82 13 := g0q83 13 (by decide) (Or.inl (by decide))
          have wq83_26 : q83 26 = q82 26 := g0q83 26 (by decide) (Or.inl (by decide))
          have h0q83 : fr [27, 28, 29, 30, 31] q q83 := fr_tr h0q82 g0q83 (by decide)
          have bgq83 : bg q q83 := bg_fr bgq82 g0q83 (by decide)
          have gdq83 : GD q q83 := GD_tr gdq82 (AD_GD pq83_2)
          have gbq83 : GD q q83 := GD_tr gbq82 (AD_GD pq83_2)
          have l1x84 := ix84.1; have l2x84 := ix84.2
          refine lv_istore_n (lv' := [(2, .int x84), (1, .int x7), (0, .ref a0)]) hx hb dX11_readLikes_61 rfl hl (by decide) rfl (fun ls hl => ?_)
          refine lv_aload_n hx hb dX11_readLikes_62 rfl (lv_at hl 2 rfl) ?_
          refine lv_iconst (v := 0) hx hb dX11_readLikes_63 (by decide) ?_
          refine lv_bipush (v := 9) hx hb dX11_readLikes_64 (by decide) ?_
          refine th_callVM (n := 2) (As := [.int 0, .int 9]) S hK hH hS (th_A.sub (by decide)) (m_X11_numeral l D cT T q83 hT hqq83 a0 t0 (0) (iv_top _) (9) (iv_top _) (show TS q83 by exact pq83_0)) gm_1527 gm_1524 gm_1526 gm_59 gm_124 (by decide +kernel) ⟨rfl, rfl, Nat.le_of_ble_eq_true rfl, Nat.le_of_ble_eq_true rfl⟩ t0 km_0 rfl rfl hl.1 rfl (Nat.le_of_ble_eq_true rfl) dX11_readLikes_66 ⟨Nat.zero_le _, Nat.zero_le _⟩ (fun wq85 q85 H locs hEq85 hH hS hF1 => ?_)
          obtain ⟨x86, rfl, ix86, hqq85, g0q85, pq85_0, pq85_1, pq85_2⟩ := hEq85
          show W p l e (rmk 3 67) s m [.ref a0].toArray below meth c H locs 0 0 (MQ below (th_QM D cT T (fun v q2 => v = none ∧ qkm q2 ∧ fr [27, 28, 29, 30, 31] q q2 ∧ (TS q2) ∧ (q 27 ≤ q2 27) ∧ (GD q q2)) [0, 6, 18, 19]) [.ref a0].toArray s 0 0 (th_A T [0, 6, 18, 19])) (F0 m 69 ls [.int x86])
          have pq85_0 : TS q85 := pq85_0
          have pq85_1 : q83 27 ≤ q85 27 := pq85_1
          have pq85_2 : GD q83 q85 := pq85_2
          have wq85_10 : q85 10 = q83 10 := g0q85 10 (by decide) (Or.inl (by decide))
          have wq85_13 : q85 13 = q83 13 := g0q85 13 (by decide) (Or.inl (by decide))
          have wq85_26 : q85 26 = q83 26 := g0q85 26 (by decide) (Or.inl (by decide))
          have h0q85 : fr [27, 28, 29, 30, 31] q q85 := fr_tr h0q83 g0q85 (by decide)
          have bgq85 : bg q q85 := bg_fr bgq83 g0q85 (by decide)
          have gdq85 : GD q q85 := GD_tr gdq83 pq85_2
          have gbq85 : GD q q85 := GD_tr gbq83 pq85_2
          refine lv_istore_n (lv' := [(3, .int x86), (2, .int x84), (1, .int x7), (0, .ref a0)]) hx hb dX11_readLikes_69 rfl hl (by decide) rfl (fun ls hl => ?_)
          refine lv_aload_n hx hb dX11_readLikes_70 rfl (lv_at hl 3 rfl) ?_
          refine th_callVp (n := 0) (As := []) S hK hH hS (th_A.sub (by decide)) (m_X11_isGood l D cT T q85 hT hqq85 a0 t0) gm_1487 gm_1484 gm_1486 gm_49 gm_124 (by decide +kernel) ⟨rfl, rfl, Nat.le_of_ble_eq_true rfl, Nat.le_of_ble_eq_true rfl⟩ t0 km_0 rfl rfl hl.1 rfl (Nat.le_of_ble_eq_true rfl) dX11_readLikes_71 ⟨Nat.zero_le _, Nat.zero_le _⟩ (fun x87 H locs ix87 ox87 hH hS hF1 => ?_)
          obtain ⟨ox87_0, ox87_1⟩ := ox87
          have ox87_0 : x87.toInt ≠ 0 → q85 30 = 0 := ox87_0
          have ox87_1 : x87.toInt = 0 → 1 ≤ q85 30 := ox87_1
          have l1x87 := ix87.1; have l2x87 := ix87.2
          refine lv_if_ne (tgt := 78) hx hb dX11_readLikes_74 (by decide) (fun c88 => ?_) (fun c88 => ?_)
          · skip
            have rlc88 : x87.toInt ≠ (0 : Int) := iv_ne c88
            have ox87_0r := ox87_0 rlc88
            clear ox87_0
            clear ox87_1
            have ir89 : IV x87 1 1 := iv_cutL ix87 (iv_c (by decide) : IV 0 0 0) c88 (by decide)
            have ir89a := ir89.1; have ir89b := ir89.2
            clear rlc88
            refine lv_aload_n hx hb dX11_readLikes_78 rfl (lv_at hl 3 rfl) ?_
            refine th_get S hK hH inG11 t0 km_0 rfl 27 (by decide) gm_1257 rfl rfl dX11_readLikes_79 (fun v90 hv90 fv90 => ?_)
            obtain ⟨rf91, rfl, trf91⟩ := th_V.ref hv90
            refine lv_iload_n hx hb dX11_readLikes_82 rfl (lv_at hl 2 rfl) ?_
            refine lv_dup2_11 hx hb dX11_readLikes_83 rfl rfl ?_
            refine th_iald S hK hH trf91 km_19 (th_in (hi := 7) ix7 (by decide)) dX11_readLikes_84 (fun v92 hv92 => ?_)
            obtain ⟨x93, rfl, ix93⟩ := th_V.int hv92
            refine lv_iconst (v := 1) hx hb dX11_readLikes_85 (by decide) ?_
            refine lv_iload_n hx hb dX11_readLikes_86 rfl (lv_at hl 1 rfl) ?_
            refine lv_ishl hx hb dX11_readLikes_87 ?_
            refine lv_topi (fun x94 ex94 => ?_)
            have ix94 := iv_top x94
            have ix94 : IV x94 1 1073741824 := by rw [ex94]; exact iv_shl1 (iv_w ix84 (by decide))
            refine lv_ior hx hb dX11_readLikes_88 ?_
            refine lv_topi (fun x95 ex95 => ?_)
            have ix95 := iv_top x95
            refine th_iast S hK hH hS ⟨19, by decide, trf91⟩ trf91 km_19 (th_in (hi := 7) ix7 (by decide)) (th_iv ix95) dX11_readLikes_89 (fun H locs hH hS hq1 => ?_)
            have f96 := fv90.kept (hq1 _ (th_ne t0 trf91 (by decide)))
            refine lv_aload_n hx hb dX11_readLikes_90 rfl (lv_at hl 3 rfl) ?_
            refine th_get S hK hH inG11 t0 km_0 rfl 26 (by decide) gm_1256 rfl rfl dX11_readLikes_91 (fun v97 hv97 fv97 => ?_)
            obtain ⟨rf98, rfl, trf98⟩ := th_V.ref hv97
            refine lv_iconst (v := 3) hx hb dX11_readLikes_94 (by decide) ?_
            refine lv_iload_n hx hb dX11_readLikes_95 rfl (lv_at hl 2 rfl) ?_
            refine lv_imul hx hb dX11_readLikes_96 ?_
            refine lv_topi (fun x99 ex99 => ?_)
            have ix99 : IV x99 0 21 := by rw [ex99]; exact iv_mul (iv_c (by decide) : IV 3 3 3) ix7 (by decide) (by decide)
            have ux99 : x99.toInt = (3 : Int) * x7.toInt := by rw [ex99]; exact iv_mulE (iv_corner ((iv_c (by decide) : IV 3 3 3)).1 ((iv_c (by decide) : IV 3 3 3)).2 (ix7).1 (ix7).2 (by decide))
            refine lv_iload_n hx hb dX11_readLikes_97 rfl (lv_at hl 1 rfl) ?_
            refine lv_iadd hx hb dX11_readLikes_98 ?_
            refine lv_topi (fun x100 ex100 => ?_)
            have ix100 : IV x100 0 23 := by rw [ex100]; exact iv_add ix99 ix84 (by decide)
            have ux100 : x100.toInt = x99.toInt + x84.toInt := by rw [ex100]; exact iv_addE (by have z1 := (ix99).1; have z2 := (ix99).2; have z3 := (ix84).1; have z4 := (ix84).2; omega)
            refine lv_iload_n hx hb dX11_readLikes_99 rfl (lv_at hl 0 rfl) ?_
            refine th_iast S hK hH hS ⟨18, by decide, trf98⟩ trf98 km_18 (th_in (hi := 23) ix100 (by decide)) (th_iv ix86) dX11_readLikes_100 (fun H locs hH hS hq1 => ?_)
            have f101 := f96.kept (hq1 _ (th_ne t0 trf98 (by decide)))
            refine lv_aload_n hx hb dX11_readLikes_101 rfl (lv_at hl 3 rfl) ?_
            refine th_get S hK hH inG11 t0 km_0 rfl 14 (by decide) gm_1244 rfl rfl dX11_readLikes_102 (fun v102 hv102 fv102 => ?_)
            obtain ⟨rf103, rfl, trf103⟩ := th_V.ref hv102
            refine lv_aload_n hx hb dX11_readLikes_105 rfl (lv_at hl 3 rfl) ?_
            refine th_get S hK hH inG11 t0 km_0 rfl 42 (by decide) gm_1272 rfl rfl dX11_readLikes_106 (fun v104 hv104 fv104 => ?_)
            obtain ⟨x105, rfl, ix105⟩ := th_V.int hv104
            have kx105 : x105.toInt = q85 13 := Int.le_antisymm ix105.2 ix105.1
            have bx105 := qkm_13 hqq85
            have ix105 : IV x105 0 1 := iv_w ix105 (qkm_13 hqq85)
            refine lv_dup2_11 hx hb dX11_readLikes_109 rfl rfl ?_
            refine th_iald S hK hH trf103 km_6 (th_in (hi := 1) ix105 (by decide)) dX11_readLikes_110 (fun v106 hv106 => ?_)
            obtain ⟨x107, rfl, ix107⟩ := th_V.int hv106
            refine lv_iconst (v := 1) hx hb dX11_readLikes_111 (by decide) ?_
            refine lv_iadd hx hb dX11_readLikes_112 ?_
            refine lv_topi (fun x108 ex108 => ?_)
            have ix108 := iv_top x108
            refine th_iast S hK hH hS ⟨6, by decide, trf103⟩ trf103 km_6 (th_in (hi := 1) ix105 (by decide)) (th_iv ix108) dX11_readLikes_113 (fun H locs hH hS hq1 => ?_)
            have f109 := f101.kept (hq1 _ (th_ne t0 trf103 (by decide)))
            exact th_vretM S hK hH hS hr hlocks ⟨rfl, hqq85, h0q85, (show TS q85 by exact pq85_0), (show q 27 ≤ q85 27 by omega), (show GD q q85 by exact gdq85)⟩ dX11_readLikes_114
          · skip
            have rlc88 : x87.toInt = (0 : Int) := congrArg Int32.toInt c88
            clear ox87_0
            have ox87_1r := ox87_1 rlc88
            clear ox87_1
            have ir110 : IV x87 0 0 := iv_eL c88 (iv_c (by decide) : IV 0 0 0)
            have ir110a := ir110.1; have ir110b := ir110.2
            exact th_vretM S hK hH hS hr hlocks ⟨rfl, hqq85, h0q85, (show TS q85 by exact pq85_0), (show q 27 ≤ q85 27 by omega), (show GD q q85 by exact gdq85)⟩ dX11_readLikes_77
    · skip
      have rlc9 : x8.toInt = (0 : Int) := congrArg Int32.toInt c9
      clear ox8_0
      have ox8_1r := ox8_1 rlc9
      clear ox8_1
      have ir111 : IV x8 0 0 := iv_eL c9 (iv_c (by decide) : IV 0 0 0)
      have ir111a := ir111.1; have ir111b := ir111.2
      exact th_vretM S hK hH hS hr hlocks ⟨rfl, hqq5, h0q5, (show TS q5 by exact pq5_0), (show q 27 ≤ q5 27 by omega), (show GD q q5 by exact gdq5)⟩ dX11_readLikes_23
  exact J0 s.heap [] ls hH va_S.rf hl
