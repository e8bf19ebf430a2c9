theorem dX11_after_0 : decode cX11_after 0 = .ok (.aload_n 0, 1) := by decide +kernel
theorem dX11_after_1 : decode cX11_after 1 = .ok (.aload_n 0, 1) := by decide +kernel
theorem dX11_after_2 : decode cX11_after 2 = .ok (.lload_n 1, 1) := by decide +kernel
theorem dX11_after_3 : decode cX11_after 3 = .ok (.invokevirtual 253, 3) := by decide +kernel
theorem dX11_after_6 : decode cX11_after 6 = .ok (.invokevirtual 256, 3) := by decide +kernel
theorem dX11_after_9 : decode cX11_after 9 = .ok (.aload_n 0, 1) := by decide +kernel
theorem dX11_after_10 : decode cX11_after 10 = .ok (.iload_n 3, 1) := by decide +kernel
theorem dX11_after_11 : decode cX11_after 11 = .ok (.iload 4, 2) := by decide +kernel
theorem dX11_after_13 : decode cX11_after 13 = .ok (.invokevirtual 260, 3) := by decide +kernel
theorem dX11_after_16 : decode cX11_after 16 = .ok (.ireturn, 1) := by decide +kernel
theorem dX11_clearBank_0 : decode cX11_clearBank 0 = .ok (.aload_n 0, 1) := by decide +kernel
theorem dX11_clearBank_1 : decode cX11_clearBank 1 = .ok (.getfield 20, 3) := by decide +kernel
theorem dX11_clearBank_4 : decode cX11_clearBank 4 = .ok (.aload_n 0, 1) := by decide +kernel
theorem dX11_clearBank_5 : decode cX11_clearBank 5 = .ok (.getfield 264, 3) := by decide +kernel
theorem dX11_clearBank_8 : decode cX11_clearBank 8 = .ok (.iconst 0, 1) := by decide +kernel
theorem dX11_clearBank_9 : decode cX11_clearBank 9 = .ok (.iastore, 1) := by decide +kernel
theorem dX11_clearBank_10 : decode cX11_clearBank 10 = .ok (.aload_n 0, 1) := by decide +kernel
theorem dX11_clearBank_11 : decode cX11_clearBank 11 = .ok (.getfield 24, 3) := by decide +kernel
theorem dX11_clearBank_14 : decode cX11_clearBank 14 = .ok (.aload_n 0, 1) := by decide +kernel
theorem dX11_clearBank_15 : decode cX11_clearBank 15 = .ok (.getfield 264, 3) := by decide +kernel
theorem dX11_clearBank_18 : decode cX11_clearBank 18 = .ok (.iconst 0, 1) := by decide +kernel
theorem dX11_clearBank_19 : decode cX11_clearBank 19 = .ok (.iastore, 1) := by decide +kernel
theorem dX11_clearBank_20 : decode cX11_clearBank 20 = .ok (.aload_n 0, 1) := by decide +kernel
theorem dX11_clearBank_21 : decode cX11_clearBank 21 = .ok (.getfield 27, 3) := by decide +kernel
theorem dX11_clearBank_24 : decode cX11_clearBank 24 = .ok (.aload_n 0, 1) := by decide +kernel
theorem dX11_clearBank_25 : decode cX11_clearBank 25 = .ok (.getfield 264, 3) := by decide +kernel
theorem dX11_clearBank_28 : decode cX11_clearBank 28 = .ok (.iconst 0, 1) := by decide +kernel
theorem dX11_clearBank_29 : decode cX11_clearBank 29 = .ok (.iastore, 1) := by decide +kernel
theorem dX11_clearBank_30 : decode cX11_clearBank 30 = .ok (.aload_n 0, 1) := by decide +kernel
theorem dX11_clearBank_31 : decode cX11_clearBank 31 = .ok (.getfield 30, 3) := by decide +kernel
theorem dX11_clearBank_34 : decode cX11_clearBank 34 = .ok (.aload_n 0, 1) := by decide +kernel
theorem dX11_clearBank_35 : decode cX11_clearBank 35 = .ok (.getfield 264, 3) := by decide +kernel
theorem dX11_clearBank_38 : decode cX11_clearBank 38 = .ok (.iconst 0, 1) := by decide +kernel
theorem dX11_clearBank_39 : decode cX11_clearBank 39 = .ok (.iastore, 1) := by decide +kernel
theorem dX11_clearBank_40 : decode cX11_clearBank 40 = .ok (.aload_n 0, 1) := by decide +kernel
theorem dX11_clearBank_41 : decode cX11_clearBank 41 = .ok (.getfield 33, 3) := by decide +kernel
theorem dX11_clearBank_44 : decode cX11_clearBank 44 = .ok (.aload_n 0, 1) := by decide +kernel
theorem dX11_clearBank_45 : decode cX11_clearBank 45 = .ok (.getfield 264, 3) := by decide +kernel
theorem dX11_clearBank_48 : decode cX11_clearBank 48 = .ok (.iconst 0, 1) := by decide +kernel
theorem dX11_clearBank_49 : decode cX11_clearBank 49 = .ok (.iastore, 1) := by decide +kernel
theorem dX11_clearBank_50 : decode cX11_clearBank 50 = .ok (.aload_n 0, 1) := by decide +kernel
theorem dX11_clearBank_51 : decode cX11_clearBank 51 = .ok (.getfield 36, 3) := by decide +kernel
theorem dX11_clearBank_54 : decode cX11_clearBank 54 = .ok (.aload_n 0, 1) := by decide +kernel
theorem dX11_clearBank_55 : decode cX11_clearBank 55 = .ok (.getfield 264, 3) := by decide +kernel
theorem dX11_clearBank_58 : decode cX11_clearBank 58 = .ok (.iconst 0, 1) := by decide +kernel
theorem dX11_clearBank_59 : decode cX11_clearBank 59 = .ok (.iastore, 1) := by decide +kernel
theorem dX11_clearBank_60 : decode cX11_clearBank 60 = .ok (.aload_n 0, 1) := by decide +kernel
theorem dX11_clearBank_61 : decode cX11_clearBank 61 = .ok (.getfield 39, 3) := by decide +kernel
theorem dX11_clearBank_64 : decode cX11_clearBank 64 = .ok (.aload_n 0, 1) := by decide +kernel
theorem dX11_clearBank_65 : decode cX11_clearBank 65 = .ok (.getfield 264, 3) := by decide +kernel
theorem dX11_clearBank_68 : decode cX11_clearBank 68 = .ok (.iconst 0, 1) := by decide +kernel
theorem dX11_clearBank_69 : decode cX11_clearBank 69 = .ok (.iastore, 1) := by decide +kernel
theorem dX11_clearBank_70 : decode cX11_clearBank 70 = .ok (.aload_n 0, 1) := by decide +kernel
theorem dX11_clearBank_71 : decode cX11_clearBank 71 = .ok (.getfield 51, 3) := by decide +kernel
theorem dX11_clearBank_74 : decode cX11_clearBank 74 = .ok (.aload_n 0, 1) := by decide +kernel
theorem dX11_clearBank_75 : decode cX11_clearBank 75 = .ok (.getfield 264, 3) := by decide +kernel
theorem dX11_clearBank_78 : decode cX11_clearBank 78 = .ok (.iconst 0, 1) := by decide +kernel
theorem dX11_clearBank_79 : decode cX11_clearBank 79 = .ok (.iastore, 1) := by decide +kernel
theorem dX11_clearBank_80 : decode cX11_clearBank 80 = .ok (.aload_n 0, 1) := by decide +kernel
theorem dX11_clearBank_81 : decode cX11_clearBank 81 = .ok (.getfield 78, 3) := by decide +kernel
theorem dX11_clearBank_84 : decode cX11_clearBank 84 = .ok (.aload_n 0, 1) := by decide +kernel
theorem dX11_clearBank_85 : decode cX11_clearBank 85 = .ok (.getfield 264, 3) := by decide +kernel
theorem dX11_clearBank_88 : decode cX11_clearBank 88 = .ok (.iconst 0, 1) := by decide +kernel
theorem dX11_clearBank_89 : decode cX11_clearBank 89 = .ok (.bastore, 1) := by decide +kernel
theorem dX11_clearBank_90 : decode cX11_clearBank 90 = .ok (.aload_n 0, 1) := by decide +kernel
theorem dX11_clearBank_91 : decode cX11_clearBank 91 = .ok (.getfield 82, 3) := by decide +kernel
theorem dX11_clearBank_94 : decode cX11_clearBank 94 = .ok (.aload_n 0, 1) := by decide +kernel
theorem dX11_clearBank_95 : decode cX11_clearBank 95 = .ok (.getfield 264, 3) := by decide +kernel
theorem dX11_clearBank_98 : decode cX11_clearBank 98 = .ok (.iconst 0, 1) := by decide +kernel
theorem dX11_clearBank_99 : decode cX11_clearBank 99 = .ok (.bastore, 1) := by decide +kernel
theorem dX11_clearBank_100 : decode cX11_clearBank 100 = .ok (.aload_n 0, 1) := by decide +kernel
theorem dX11_clearBank_101 : decode cX11_clearBank 101 = .ok (.getfield 85, 3) := by decide +kernel
theorem dX11_clearBank_104 : decode cX11_clearBank 104 = .ok (.aload_n 0, 1) := by decide +kernel
theorem dX11_clearBank_105 : decode cX11_clearBank 105 = .ok (.getfield 264, 3) := by decide +kernel
theorem dX11_clearBank_108 : decode cX11_clearBank 108 = .ok (.iconst 0, 1) := by decide +kernel
theorem dX11_clearBank_109 : decode cX11_clearBank 109 = .ok (.bastore, 1) := by decide +kernel
theorem dX11_clearBank_110 : decode cX11_clearBank 110 = .ok (.aload_n 0, 1) := by decide +kernel
theorem dX11_clearBank_111 : decode cX11_clearBank 111 = .ok (.sipush 560, 3) := by decide +kernel
theorem dX11_clearBank_114 : decode cX11_clearBank 114 = .ok (.aload_n 0, 1) := by decide +kernel
theorem dX11_clearBank_115 : decode cX11_clearBank 115 = .ok (.getfield 264, 3) := by decide +kernel
theorem dX11_clearBank_118 : decode cX11_clearBank 118 = .ok (.imul, 1) := by decide +kernel
theorem dX11_clearBank_119 : decode cX11_clearBank 119 = .ok (.putfield 267, 3) := by decide +kernel
theorem dX11_clearBank_122 : decode cX11_clearBank 122 = .ok (.return_, 1) := by decide +kernel
set_option maxHeartbeats 20000000 in
set_option maxRecDepth 100000 in
theorem m_X11_after (l : Launch) (D : va_G) (cT : Nat → ClassId) (T : Nat → Option Nat) (q : Nat → Int) (hT : tokm T) (hq : qkm q) (a0 : Nat) (t0 : T a0 = some 0) (y1 : Int64) (y2 : Int32) (j2 : IV y2 (-2147483648) 2147483647) (y3 : Int32) (j3 : IV y3 (-2147483648) 2147483647) (hp0 : TS q) : th_MetM l D cT T q yX11_after cX11_after 5 (some .int) (rmk 3 67) [.ref a0, .long y1, .int y2, .int y3] (fun v q2 => ∃ r : Int32, v = some (.int r) ∧ IV r (-2147483648) 2147483647 ∧ qkm q2 ∧ fr [27, 28, 29, 30, 31] q q2 ∧ (TS q2) ∧ (q 27 ≤ q2 27) ∧ (GD q q2)) [0] := by
  refine th_startM (by decide) (Nat.le_of_ble_eq_true rfl) ?_
  intro p e s m below meth c ls S hK hH hr hlocks hnm hl
  have hx := S.1
  have hb := S.2.1
  have hl : lv_has ls 5 [(0, .ref a0), (1, .long y1), (3, .int y2), (4, .int y3)] := hl
  have J0 : ∀ (H : Heap) (locs : List Loc) (ls : Array Slot), th_H D cT T (km q) H → va_S (th_A T [0]) s.heap H locs → lv_has ls 5 [(0, .ref a0), (1, .long y1), (3, .int y2), (4, .int y3)] → W p l e (rmk 3 67) s m [.ref a0, .long y1, .int y2, .int y3].toArray below meth c H locs 0 0 (MQ below (th_QM D cT T (fun v q2 => ∃ r : Int32, v = some (.int r) ∧ IV r (-2147483648) 2147483647 ∧ qkm q2 ∧ fr [27, 28, 29, 30, 31] q q2 ∧ (TS q2) ∧ (q 27 ≤ q2 27) ∧ (GD q q2)) [0]) [.ref a0, .long y1, .int y2, .int y3].toArray s 0 0 (th_A T [0])) (F0 m 0 ls []) := by
    intro H locs ls hH hS hl
    refine lv_aload_n hx hb dX11_after_0 rfl (lv_at hl 0 rfl) ?_
    refine lv_aload_n hx hb dX11_after_1 rfl (lv_at hl 0 rfl) ?_
    refine lv_lload_n hx hb dX11_after_2 rfl (lv_at hl 1 rfl) ?_
    refine th_callVp (n := 1) (As := [.long y1]) S hK hH hS (th_A.sub (by decide)) (m_X11_isWord l D cT T q hT hq a0 t0 (y1)) gm_1499 gm_1496 gm_1498 gm_52 gm_124 (by decide +kernel) ⟨rfl, rfl, Nat.le_of_ble_eq_true rfl, Nat.le_of_ble_eq_true rfl⟩ t0 km_0 rfl rfl hl.1 rfl (Nat.le_of_ble_eq_true rfl) dX11_after_3 ⟨Nat.zero_le _, Nat.zero_le _⟩ (fun x1 H locs ix1 ox1 hH hS hF1 => ?_)
    obtain ⟨ox1_0, ox1_1⟩ := ox1
    have ox1_0 : x1.toInt ≠ 0 → q 29 = 3 ∧ q 31 = y1.toInt := ox1_0
    have ox1_1 : x1.toInt = 0 → q 29 ≠ 3 ∨ q 31 ≠ y1.toInt := ox1_1
    have l1x1 := ix1.1; have l2x1 := ix1.2
    refine th_callVM (n := 1) (As := [.int x1]) S hK hH hS (th_A.sub (by decide)) (m_X11_must l D cT T q hT hq a0 t0 (x1) ix1 (show TS q by exact hp0)) gm_1543 gm_1540 gm_1542 gm_63 gm_124 (by decide +kernel) ⟨rfl, rfl, Nat.le_of_ble_eq_true rfl, Nat.le_of_ble_eq_true rfl⟩ t0 km_0 rfl rfl hl.1 rfl (Nat.le_of_ble_eq_true rfl) dX11_after_6 ⟨Nat.zero_le _, Nat.zero_le _⟩ (fun wq2 q2 H locs hEq2 hH hS hF1 => ?_)
    obtain ⟨rfl, hqq2, g0q2, pq2_0, pq2_1, pq2_2⟩ := hEq2
    show W p l e (rmk 3 67) s m [.ref a0, .long y1, .int y2, .int y3].toArray below meth c H locs 0 0 (MQ below (th_QM D cT T (fun v q2 => ∃ r : Int32, v = some (.int r) ∧ IV r (-2147483648) 2147483647 ∧ qkm q2 ∧ fr [27, 28, 29, 30, 31] q q2 ∧ (TS q2) ∧ (q 27 ≤ q2 27) ∧ (GD q q2)) [0]) [.ref a0, .long y1, .int y2, .int y3].toArray s 0 0 (th_A T [0])) (F0 m 9 ls [])
    have pq2_0 : TS q2 := pq2_0
    have pq2_1 : q 27 ≤ q2 27 := pq2_1
    have pq2_2 : GD q q2 := pq2_2
    have wq2_26 : q2 26 = q 26 := g0q2 26 (by decide) (Or.inl (by decide))
    have h0q2 : fr [27, 28, 29, 30, 31] q q2 := fr_tr fr_rf g0q2 (by decide)
    have bgq2 : bg q q2 := bg_fr bg_rf g0q2 (by decide)
    have gdq2 : GD q q2 := GD_tr (GD_eq rfl) pq2_2
    have gbq2 : GD q q2 := GD_tr (GD_eq rfl) pq2_2
    refine lv_aload_n hx hb dX11_after_9 rfl (lv_at hl 0 rfl) ?_
    refine lv_iload_n hx hb dX11_after_10 rfl (lv_at hl 2 rfl) ?_
    refine lv_iload hx hb dX11_after_11 (lv_at hl 3 rfl) ?_
    refine th_callVM (n := 2) (As := [.int y2, .int y3]) S hK hH hS (th_A.sub (by decide)) (m_X11_numeral l D cT T q2 hT hqq2 a0 t0 (y2) j2 (y3) j3 (show TS q2 by exact pq2_0)) gm_1527 gm_1524 gm_1526 gm_59 gm_124 (by decide +kernel) ⟨rfl, rfl, Nat.le_of_ble_eq_true rfl, Nat.le_of_ble_eq_true rfl⟩ t0 km_0 rfl rfl hl.1 rfl (Nat.le_of_ble_eq_true rfl) dX11_after_13 ⟨Nat.zero_le _, Nat.zero_le _⟩ (fun wq3 q3 H locs hEq3 hH hS hF1 => ?_)
    obtain ⟨x4, rfl, ix4, hqq3, g0q3, pq3_0, pq3_1, pq3_2⟩ := hEq3
    show W p l e (rmk 3 67) s m [.ref a0, .long y1, .int y2, .int y3].toArray below meth c H locs 0 0 (MQ below (th_QM D cT T (fun v q2 => ∃ r : Int32, v = some (.int r) ∧ IV r (-2147483648) 2147483647 ∧ qkm q2 ∧ fr [27, 28, 29, 30, 31] q q2 ∧ (TS q2) ∧ (q 27 ≤ q2 27) ∧ (GD q q2)) [0]) [.ref a0, .long y1, .int y2, .int y3].toArray s 0 0 (th_A T [0])) (F0 m 16 ls [.int x4])
    have pq3_0 : TS q3 := pq3_0
    have pq3_1 : q2 27 ≤ q3 27 := pq3_1
    have pq3_2 : GD q2 q3 := pq3_2
    have wq3_26 : q3 26 = q2 26 := g0q3 26 (by decide) (Or.inl (by decide))
    have h0q3 : fr [27, 28, 29, 30, 31] q q3 := fr_tr h0q2 g0q3 (by decide)
    have bgq3 : bg q q3 := bg_fr bgq2 g0q3 (by decide)
    have gdq3 : GD q q3 := GD_tr gdq2 pq3_2
    have gbq3 : GD q q3 := GD_tr gbq2 pq3_2
    exact th_iretM S hK hH hS hr hlocks ⟨_, rfl, ix4, hqq3, h0q3, (show TS q3 by exact pq3_0), (show q 27 ≤ q3 27 by omega), (show GD q q3 by exact gdq3)⟩ dX11_after_16
  exact J0 s.heap [] ls hH va_S.rf hl

set_option maxHeartbeats 20000000 in
set_option maxRecDepth 100000 in
theorem m_X11_clearBank (l : Launch) (D : va_G) (cT : Nat → ClassId) (T : Nat → Option Nat) (q : Nat → Int) (hT : tokm T) (hq : qkm q) (a0 : Nat) (t0 : T a0 = some 0) (hp0 : q 13 = 1 - q 10) : th_MetM l D cT T q yX11_clearBank cX11_clearBank 1 none (rmk 0 0) [.ref a0] (fun v q2 => v = none ∧ qkm q2 ∧ fr [14, 15, 17, 19, 20, 24] q q2 ∧ (q2 14 = 0 ∧ q2 15 = 0 ∧ q2 17 = 0 ∧ q2 19 = 0 ∧ q2 24 = 0 ∧ q2 20 = 560 * q 13)) [0, 3, 4, 5, 6, 7, 8, 9, 13, 22, 23, 24] := by
  refine th_startM (by decide) (Nat.le_of_ble_eq_true rfl) ?_
  intro p e s m below meth c ls S hK hH hr hlocks hnm hl
  have hx := S.1
  have hb := S.2.1
  have b13 := qkm_13 hq
  have hl : lv_has ls 1 [(0, .ref a0)] := hl
  have J0 : ∀ (H : Heap) (locs : List Loc) (ls : Array Slot), th_H D cT T (km q) H → va_S (th_A T [0, 3, 4, 5, 6, 7, 8, 9, 13, 22, 23, 24]) s.heap H locs → lv_has ls 1 [(0, .ref a0)] → W p l e (rmk 0 0) s m [.ref a0].toArray below meth c H locs 0 0 (MQ below (th_QM D cT T (fun v q2 => v = none ∧ qkm q2 ∧ fr [14, 15, 17, 19, 20, 24] q q2 ∧ (q2 14 = 0 ∧ q2 15 = 0 ∧ q2 17 = 0 ∧ q2 19 = 0 ∧ q2 24 = 0 ∧ q2 20 = 560 * q 13)) [0, 3, 4, 5, 6, 7, 8, 9, 13, 22, 23, 24]) [.ref a0].toArray s 0 0 (th_A T [0, 3, 4, 5, 6, 7, 8, 9, 13, 22, 23, 24])) (F0 m 0 ls []) := by
    intro H locs ls hH hS hl
    refine lv_aload_n hx hb dX11_clearBank_0 rfl (lv_at hl 0 rfl) ?_
    refine th_get S hK hH inG11 t0 km_0 rfl 11 (by decide) gm_1241 rfl rfl dX11_clearBank_1 (fun v1 hv1 fv1 => ?_)
    obtain ⟨rf2, rfl, trf2⟩ := th_V.ref hv1
    refine lv_aload_n hx hb dX11_clearBank_4 rfl (lv_at hl 0 rfl) ?_
    refine th_get S hK hH inG11 t0 km_0 rfl 42 (by decide) gm_1272 rfl rfl dX11_clearBank_5 (fun v3 hv3 fv3 => ?_)
    obtain ⟨x4, rfl, ix4⟩ := th_V.int hv3
    have kx4 : x4.toInt = q 13 := Int.le_antisymm ix4.2 ix4.1
    have bx4 := qkm_13 hq
    have ix4 : IV x4 0 1 := iv_w ix4 (qkm_13 hq)
    refine lv_iconst (v := 0) hx hb dX11_clearBank_8 (by decide) ?_
    obtain ⟨n5, en5⟩ : ∃ z : Int, z = Int32.toInt 0 := ⟨_, rfl⟩
    have fn5 : n5 = 0 := by rw [en5]; rfl
    refine mst_3 S hK hH hS ⟨3, by decide, trf2⟩ hT trf2 en5 (qkm_10 hq) ix4 (by omega) dX11_clearBank_9 (fun q6 H locs eq6 hH hS hq1 => ?_)
    have hqq6 : qkm q6 := by rw [eq6]; exact qum_ok17 hq (iv_z en5 (iv_w (iv_c (by decide) : IV 0 0 0) (by decide)))
    have h0q6 : fr [14, 15, 17, 19, 20, 24] q q6 := by rw [eq6]; exact fr_up fr_rf (by decide)
    have wq6_10 : q6 10 = q 10 := by rw [eq6]; rfl
    have wq6_13 : q6 13 = q 13 := by rw [eq6]; rfl
    have wq6_14 : q6 14 = q 14 := by rw [eq6]; rfl
    have wq6_15 : q6 15 = q 15 := by rw [eq6]; rfl
    have wq6_17 : q6 17 = 0 := by rw [show q6 17 = n5 by rw [eq6]; rfl, fn5]
    have wq6_19 : q6 19 = q 19 := by rw [eq6]; rfl
    have wq6_20 : q6 20 = q 20 := by rw [eq6]; rfl
    have wq6_24 : q6 24 = q 24 := by rw [eq6]; rfl
    clear en5 fn5
    refine lv_aload_n hx hb dX11_clearBank_10 rfl (lv_at hl 0 rfl) ?_
    refine th_get S hK hH inG11 t0 km_0 rfl 12 (by decide) gm_1242 rfl rfl dX11_clearBank_11 (fun v7 hv7 fv7 => ?_)
    obtain ⟨rf8, rfl, trf8⟩ := th_V.ref hv7
    refine lv_aload_n hx hb dX11_clearBank_14 rfl (lv_at hl 0 rfl) ?_
    refine th_get S hK hH inG11 t0 km_0 rfl 42 (by decide) gm_1272 rfl rfl dX11_clearBank_15 (fun v9 hv9 fv9 => ?_)
    obtain ⟨x10, rfl, ix10⟩ := th_V.int hv9
    have kx10 : x10.toInt = q6 13 := Int.le_antisymm ix10.2 ix10.1
    have bx10 := qkm_13 hqq6
    have ix10 : IV x10 0 1 := iv_w ix10 (qkm_13 hqq6)
    refine lv_iconst (v := 0) hx hb dX11_clearBank_18 (by decide) ?_
    obtain ⟨n11, en11⟩ : ∃ z : Int, z = Int32.toInt 0 := ⟨_, rfl⟩
    have fn11 : n11 = 0 := by rw [en11]; rfl
    refine mst_4 S hK hH hS ⟨4, by decide, trf8⟩ hT trf8 en11 (qkm_10 hqq6) ix10 (by omega) dX11_clearBank_19 (fun q12 H locs eq12 hH hS hq1 => ?_)
    have hqq12 : qkm q12 := by rw [eq12]; exact qum_ok14 hqq6 (iv_z en11 (iv_w (iv_c (by decide) : IV 0 0 0) (by decide)))
    have h0q12 : fr [14, 15, 17, 19, 20, 24] q q12 := by rw [eq12]; exact fr_up h0q6 (by decide)
    have wq12_10 : q12 10 = q6 10 := by rw [eq12]; rfl
    have wq12_13 : q12 13 = q6 13 := by rw [eq12]; rfl
    have wq12_14 : q12 14 = 0 := by rw [show q12 14 = n11 by rw [eq12]; rfl, fn11]
    have wq12_15 : q12 15 = q6 15 := by rw [eq12]; rfl
    have wq12_17 : q12 17 = q6 17 := by rw [eq12]; rfl
    have wq12_19 : q12 19 = q6 19 := by rw [eq12]; rfl
    have wq12_20 : q12 20 = q6 20 := by rw [eq12]; rfl
    have wq12_24 : q12 24 = q6 24 := by rw [eq12]; rfl
    clear en11 fn11
    refine lv_aload_n hx hb dX11_clearBank_20 rfl (lv_at hl 0 rfl) ?_
    refine th_get S hK hH inG11 t0 km_0 rfl 13 (by decide) gm_1243 rfl rfl dX11_clearBank_21 (fun v13 hv13 fv13 => ?_)
    obtain ⟨rf14, rfl, trf14⟩ := th_V.ref hv13
    refine lv_aload_n hx hb dX11_clearBank_24 rfl (lv_at hl 0 rfl) ?_
    refine th_get S hK hH inG11 t0 km_0 rfl 42 (by decide) gm_1272 rfl rfl dX11_clearBank_25 (fun v15 hv15 fv15 => ?_)
    obtain ⟨x16, rfl, ix16⟩ := th_V.int hv15
    have kx16 : x16.toInt = q12 13 := Int.le_antisymm ix16.2 ix16.1
    have bx16 := qkm_13 hqq12
    have ix16 : IV x16 0 1 := iv_w ix16 (qkm_13 hqq12)
    refine lv_iconst (v := 0) hx hb dX11_clearBank_28 (by decide) ?_
    obtain ⟨n17, en17⟩ : ∃ z : Int, z = Int32.toInt 0 := ⟨_, rfl⟩
    have fn17 : n17 = 0 := by rw [en17]; rfl
    refine mst_5 S hK hH hS ⟨5, by decide, trf14⟩ hT trf14 en17 (qkm_10 hqq12) ix16 (by omega) dX11_clearBank_29 (fun q18 H locs eq18 hH hS hq1 => ?_)
    have hqq18 : qkm q18 := by rw [eq18]; exact qum_ok19 hqq12 (iv_z en17 (iv_w (iv_c (by decide) : IV 0 0 0) (by decide)))
    have h0q18 : fr [14, 15, 17, 19, 20, 24] q q18 := by rw [eq18]; exact fr_up h0q12 (by decide)
    have wq18_10 : q18 10 = q12 10 := by rw [eq18]; rfl
    have wq18_13 : q18 13 = q12 13 := by rw [eq18]; rfl
    have wq18_14 : q18 14 = q12 14 := by rw [eq18]; rfl
    have wq18_15 : q18 15 = q12 15 := by rw [eq18]; rfl
    have wq18_17 : q18 17 = q12 17 := by rw [eq18]; rfl
    have wq18_19 : q18 19 = 0 := by rw [show q18 19 = n17 by rw [eq18]; rfl, fn17]
    have wq18_20 : q18 20 = q12 20 := by rw [eq18]; rfl
    have wq18_24 : q18 24 = q12 24 := by rw [eq18]; rfl
    clear en17 fn17
    refine lv_aload_n hx hb dX11_clearBank_30 rfl (lv_at hl 0 rfl) ?_
    refine th_get S hK hH inG11 t0 km_0 rfl 14 (by decide) gm_1244 rfl rfl dX11_clearBank_31 (fun v19 hv19 fv19 => ?_)
    obtain ⟨rf20, rfl, trf20⟩ := th_V.ref hv19
    refine lv_aload_n hx hb dX11_clearBank_34 rfl (lv_at hl 0 rfl) ?_
    refine th_get S hK hH inG11 t0 km_0 rfl 42 (by decide) gm_1272 rfl rfl dX11_clearBank_35 (fun v21 hv21 fv21 => ?_)
    obtain ⟨x22, rfl, ix22⟩ := th_V.int hv21
    have kx22 : x22.toInt = q18 13 := Int.le_antisymm ix22.2 ix22.1
    have bx22 := qkm_13 hqq18
    have ix22 : IV x22 0 1 := iv_w ix22 (qkm_13 hqq18)
    refine lv_iconst (v := 0) hx hb dX11_clearBank_38 (by decide) ?_
    refine th_iast S hK hH hS ⟨6, by decide, trf20⟩ trf20 km_6 (th_in (hi := 1) ix22 (by decide)) (th_iv (iv_top _)) dX11_clearBank_39 (fun H locs hH hS hq1 => ?_)
    refine lv_aload_n hx hb dX11_clearBank_40 rfl (lv_at hl 0 rfl) ?_
    refine th_get S hK hH inG11 t0 km_0 rfl 15 (by decide) gm_1245 rfl rfl dX11_clearBank_41 (fun v23 hv23 fv23 => ?_)
    obtain ⟨rf24, rfl, trf24⟩ := th_V.ref hv23
    refine lv_aload_n hx hb dX11_clearBank_44 rfl (lv_at hl 0 rfl) ?_
    refine th_get S hK hH inG11 t0 km_0 rfl 42 (by decide) gm_1272 rfl rfl dX11_clearBank_45 (fun v25 hv25 fv25 => ?_)
    obtain ⟨x26, rfl, ix26⟩ := th_V.int hv25
    have kx26 : x26.toInt = q18 13 := Int.le_antisymm ix26.2 ix26.1
    have bx26 := qkm_13 hqq18
    have ix26 : IV x26 0 1 := iv_w ix26 (qkm_13 hqq18)
    refine lv_iconst (v := 0) hx hb dX11_clearBank_48 (by decide) ?_
    refine th_iast S hK hH hS ⟨7, by decide, trf24⟩ trf24 km_7 (th_in (hi := 1) ix26 (by decide)) (th_iv (iv_top _)) dX11_clearBank_49 (fun H locs hH hS hq1 => ?_)
    refine lv_aload_n hx hb dX11_clearBank_50 rfl (lv_at hl 0 rfl) ?_
    refine th_get S hK hH inG11 t0 km_0 rfl 16 (by decide) gm_1246 rfl rfl dX11_clearBank_51 (fun v27 hv27 fv27 => ?_)
    obtain ⟨rf28, rfl, trf28⟩ := th_V.ref hv27
    refine lv_aload_n hx hb dX11_clearBank_54 rfl (lv_at hl 0 rfl) ?_
    refine th_get S hK hH inG11 t0 km_0 rfl 42 (by decide) gm_1272 rfl rfl dX11_clearBank_55 (fun v29 hv29 fv29 => ?_)
    obtain ⟨x30, rfl, ix30⟩ := th_V.int hv29
    have kx30 : x30.toInt = q18 13 := Int.le_antisymm ix30.2 ix30.1
    have bx30 := qkm_13 hqq18
    have ix30 : IV x30 0 1 := iv_w ix30 (qkm_13 hqq18)
    refine lv_iconst (v := 0) hx hb dX11_clearBank_58 (by decide) ?_
    obtain ⟨n31, en31⟩ : ∃ z : Int, z = Int32.toInt 0 := ⟨_, rfl⟩
    have fn31 : n31 = 0 := by rw [en31]; rfl
    refine mst_8 S hK hH hS ⟨8, by decide, trf28⟩ hT trf28 en31 (qkm_10 hqq18) ix30 (by omega) dX11_clearBank_59 (fun q32 H locs eq32 hH hS hq1 => ?_)
    have hqq32 : qkm q32 := by rw [eq32]; exact qum_ok24 hqq18 (iv_z en31 (iv_w (iv_c (by decide) : IV 0 0 0) (by decide)))
    have h0q32 : fr [14, 15, 17, 19, 20, 24] q q32 := by rw [eq32]; exact fr_up h0q18 (by decide)
    have wq32_10 : q32 10 = q18 10 := by rw [eq32]; rfl
    have wq32_13 : q32 13 = q18 13 := by rw [eq32]; rfl
    have wq32_14 : q32 14 = q18 14 := by rw [eq32]; rfl
    have wq32_15 : q32 15 = q18 15 := by rw [eq32]; rfl
    have wq32_17 : q32 17 = q18 17 := by rw [eq32]; rfl
    have wq32_19 : q32 19 = q18 19 := by rw [eq32]; rfl
    have wq32_20 : q32 20 = q18 20 := by rw [eq32]; rfl
    have wq32_24 : q32 24 = 0 := by rw [show q32 24 = n31 by rw [eq32]; rfl, fn31]
    clear en31 fn31
    refine lv_aload_n hx hb dX11_clearBank_60 rfl (lv_at hl 0 rfl) ?_
    refine th_get S hK hH inG11 t0 km_0 rfl 17 (by decide) gm_1247 rfl rfl dX11_clearBank_61 (fun v33 hv33 fv33 => ?_)
    obtain ⟨rf34, rfl, trf34⟩ := th_V.ref hv33
    refine lv_aload_n hx hb dX11_clearBank_64 rfl (lv_at hl 0 rfl) ?_
    refine th_get S hK hH inG11 t0 km_0 rfl 42 (by decide) gm_1272 rfl rfl dX11_clearBank_65 (fun v35 hv35 fv35 => ?_)
    obtain ⟨x36, rfl, ix36⟩ := th_V.int hv35
    have kx36 : x36.toInt = q32 13 := Int.le_antisymm ix36.2 ix36.1
    have bx36 := qkm_13 hqq32
    have ix36 : IV x36 0 1 := iv_w ix36 (qkm_13 hqq32)
    refine lv_iconst (v := 0) hx hb dX11_clearBank_68 (by decide) ?_
    refine th_iast S hK hH hS ⟨9, by decide, trf34⟩ trf34 km_9 (th_in (hi := 1) ix36 (by decide)) (th_iv (iv_top _)) dX11_clearBank_69 (fun H locs hH hS hq1 => ?_)
    refine lv_aload_n hx hb dX11_clearBank_70 rfl (lv_at hl 0 rfl) ?_
    refine th_get S hK hH inG11 t0 km_0 rfl 21 (by decide) gm_1251 rfl rfl dX11_clearBank_71 (fun v37 hv37 fv37 => ?_)
    obtain ⟨rf38, rfl, trf38⟩ := th_V.ref hv37
    refine lv_aload_n hx hb dX11_clearBank_74 rfl (lv_at hl 0 rfl) ?_
    refine th_get S hK hH inG11 t0 km_0 rfl 42 (by decide) gm_1272 rfl rfl dX11_clearBank_75 (fun v39 hv39 fv39 => ?_)
    obtain ⟨x40, rfl, ix40⟩ := th_V.int hv39
    have kx40 : x40.toInt = q32 13 := Int.le_antisymm ix40.2 ix40.1
    have bx40 := qkm_13 hqq32
    have ix40 : IV x40 0 1 := iv_w ix40 (qkm_13 hqq32)
    refine lv_iconst (v := 0) hx hb dX11_clearBank_78 (by decide) ?_
    refine th_iast S hK hH hS ⟨13, by decide, trf38⟩ trf38 km_13 (th_in (hi := 1) ix40 (by decide)) (th_iv (iv_top _)) dX11_clearBank_79 (fun H locs hH hS hq1 => ?_)
    refine lv_aload_n hx hb dX11_clearBank_80 rfl (lv_at hl 0 rfl) ?_
    refine th_get S hK hH inG11 t0 km_0 rfl 30 (by decide) gm_1260 rfl rfl dX11_clearBank_81 (fun v41 hv41 fv41 => ?_)
    obtain ⟨rf42, rfl, trf42⟩ := th_V.ref hv41
    refine lv_aload_n hx hb dX11_clearBank_84 rfl (lv_at hl 0 rfl) ?_
    refine th_get S hK hH inG11 t0 km_0 rfl 42 (by decide) gm_1272 rfl rfl dX11_clearBank_85 (fun v43 hv43 fv43 => ?_)
    obtain ⟨x44, rfl, ix44⟩ := th_V.int hv43
    have kx44 : x44.toInt = q32 13 := Int.le_antisymm ix44.2 ix44.1
    have bx44 := qkm_13 hqq32
    have ix44 : IV x44 0 1 := iv_w ix44 (qkm_13 hqq32)
    refine lv_iconst (v := 0) hx hb dX11_clearBank_88 (by decide) ?_
    obtain ⟨n45, en45⟩ : ∃ z : Int, z = (vp_nar .boolean 0).toInt := ⟨_, rfl⟩
    have fn45 : n45 = 0 := by rw [en45]; decide
    refine mst_22 S hK hH hS ⟨22, by decide, trf42⟩ hT trf42 en45 (qkm_10 hqq32) ix44 (by omega) dX11_clearBank_89 (fun q46 H locs eq46 hH hS hq1 => ?_)
    have hqq46 : qkm q46 := by rw [eq46]; exact qum_ok15 hqq32 (iv_z en45 (iv_w (iv_c (by decide) : IV 0 0 0) (by decide)))
    have h0q46 : fr [14, 15, 17, 19, 20, 24] q q46 := by rw [eq46]; exact fr_up h0q32 (by decide)
    have wq46_10 : q46 10 = q32 10 := by rw [eq46]; rfl
    have wq46_13 : q46 13 = q32 13 := by rw [eq46]; rfl
    have wq46_14 : q46 14 = q32 14 := by rw [eq46]; rfl
    have wq46_15 : q46 15 = 0 := by rw [show q46 15 = n45 by rw [eq46]; rfl, fn45]
    have wq46_17 : q46 17 = q32 17 := by rw [eq46]; rfl
    have wq46_19 : q46 19 = q32 19 := by rw [eq46]; rfl
    have wq46_20 : q46 20 = q32 20 := by rw [eq46]; rfl
    have wq46_24 : q46 24 = q32 24 := by rw [eq46]; rfl
    clear en45 fn45
    refine lv_aload_n hx hb dX11_clearBank_90 rfl (lv_at hl 0 rfl) ?_
    refine th_get S hK hH inG11 t0 km_0 rfl 31 (by decide) gm_1261 rfl rfl dX11_clearBank_91 (fun v47 hv47 fv47 => ?_)
    obtain ⟨rf48, rfl, trf48⟩ := th_V.ref hv47
    refine lv_aload_n hx hb dX11_clearBank_94 rfl (lv_at hl 0 rfl) ?_
    refine th_get S hK hH inG11 t0 km_0 rfl 42 (by decide) gm_1272 rfl rfl dX11_clearBank_95 (fun v49 hv49 fv49 => ?_)
    obtain ⟨x50, rfl, ix50⟩ := th_V.int hv49
    have kx50 : x50.toInt = q46 13 := Int.le_antisymm ix50.2 ix50.1
    have bx50 := qkm_13 hqq46
    have ix50 : IV x50 0 1 := iv_w ix50 (qkm_13 hqq46)
    refine lv_iconst (v := 0) hx hb dX11_clearBank_98 (by decide) ?_
    refine th_zast S hK hH hS ⟨23, by decide, trf48⟩ trf48 km_23 (th_in (hi := 1) ix50 (by decide)) (fun z => th_iv (iv_nbool z)) dX11_clearBank_99 (fun H locs hH hS hq1 => ?_)
    refine lv_aload_n hx hb dX11_clearBank_100 rfl (lv_at hl 0 rfl) ?_
    refine th_get S hK hH inG11 t0 km_0 rfl 32 (by decide) gm_1262 rfl rfl dX11_clearBank_101 (fun v51 hv51 fv51 => ?_)
    obtain ⟨rf52, rfl, trf52⟩ := th_V.ref hv51
    refine lv_aload_n hx hb dX11_clearBank_104 rfl (lv_at hl 0 rfl) ?_
    refine th_get S hK hH inG11 t0 km_0 rfl 42 (by decide) gm_1272 rfl rfl dX11_clearBank_105 (fun v53 hv53 fv53 => ?_)
    obtain ⟨x54, rfl, ix54⟩ := th_V.int hv53
    have kx54 : x54.toInt = q46 13 := Int.le_antisymm ix54.2 ix54.1
    have bx54 := qkm_13 hqq46
    have ix54 : IV x54 0 1 := iv_w ix54 (qkm_13 hqq46)
    refine lv_iconst (v := 0) hx hb dX11_clearBank_108 (by decide) ?_
    refine th_zast S hK hH hS ⟨24, by decide, trf52⟩ trf52 km_24 (th_in (hi := 1) ix54 (by decide)) (fun z => th_iv (iv_nbool z)) dX11_clearBank_109 (fun H locs hH hS hq1 => ?_)
    refine lv_aload_n hx hb dX11_clearBank_110 rfl (lv_at hl 0 rfl) ?_
    refine lv_sipush (v := 560) hx hb dX11_clearBank_111 (by decide) ?_
    refine lv_aload_n hx hb dX11_clearBank_114 rfl (lv_at hl 0 rfl) ?_
    refine th_get S hK hH inG11 t0 km_0 rfl 42 (by decide) gm_1272 rfl rfl dX11_clearBank_115 (fun v55 hv55 fv55 => ?_)
    obtain ⟨x56, rfl, ix56⟩ := th_V.int hv55
    have kx56 : x56.toInt = q46 13 := Int.le_antisymm ix56.2 ix56.1
    have bx56 := qkm_13 hqq46
    have ix56 : IV x56 0 1 := iv_w ix56 (qkm_13 hqq46)
    refine lv_imul hx hb dX11_clearBank_118 ?_
    refine lv_topi (fun x57 ex57 => ?_)
    have ix57 : IV x57 0 560 := by rw [ex57]; exact iv_mul (iv_c (by decide) : IV 560 560 560) ix56 (by decide) (by decide)
    have ux57 : x57.toInt = (560 : Int) * x56.toInt := by rw [ex57]; exact iv_mulE (iv_corner ((iv_c (by decide) : IV 560 560 560)).1 ((iv_c (by decide) : IV 560 560 560)).2 (ix56).1 (ix56).2 (by decide))
    obtain ⟨n59, en59⟩ : ∃ z : Int, z = Int32.toInt x57 := ⟨_, rfl⟩
    refine mput_20 S hK hH hS ⟨0, by decide, t0⟩ hT t0 en59 gm_1273 dX11_clearBank_119 (fun q58 H locs eq58 hH hS hq1 => ?_)
    have hqq58 : qkm q58 := by rw [eq58]; exact qum_ok20 hqq46 (iv_z en59 (iv_w ix57 (by decide)))
    have h0q58 : fr [14, 15, 17, 19, 20, 24] q q58 := by rw [eq58]; exact fr_up h0q46 (by decide)
    have wq58_10 : q58 10 = q46 10 := by rw [eq58]; rfl
    have wq58_13 : q58 13 = q46 13 := by rw [eq58]; rfl
    have wq58_14 : q58 14 = q46 14 := by rw [eq58]; rfl
    have wq58_15 : q58 15 = q46 15 := by rw [eq58]; rfl
    have wq58_17 : q58 17 = q46 17 := by rw [eq58]; rfl
    have wq58_19 : q58 19 = q46 19 := by rw [eq58]; rfl
    have wq58_20 : q58 20 = n59 := by rw [eq58]; rfl
    have wq58_24 : q58 24 = q46 24 := by rw [eq58]; rfl
    exact th_vretM S hK hH hS hr hlocks ⟨rfl, hqq58, h0q58, (show q58 14 = 0 ∧ q58 15 = 0 ∧ q58 17 = 0 ∧ q58 19 = 0 ∧ q58 24 = 0 ∧ q58 20 = 560 * q 13 by omega)⟩ dX11_clearBank_122
  exact J0 s.heap [] ls hH va_S.rf hl
