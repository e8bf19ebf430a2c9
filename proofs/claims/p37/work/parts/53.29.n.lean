theorem dX11_readBorder_0 : decode cX11_readBorder 0 = .ok (.aload_n 0, 1) := by decide +kernel
theorem dX11_readBorder_1 : decode cX11_readBorder 1 = .ok (.aload_n 0, 1) := by decide +kernel
theorem dX11_readBorder_2 : decode cX11_readBorder 2 = .ok (.invokevirtual 316, 3) := by decide +kernel
theorem dX11_readBorder_5 : decode cX11_readBorder 5 = .ok (.invokevirtual 326, 3) := by decide +kernel
theorem dX11_readBorder_8 : decode cX11_readBorder 8 = .ok (.istore_n 1, 1) := by decide +kernel
theorem dX11_readBorder_9 : decode cX11_readBorder 9 = .ok (.aload_n 0, 1) := by decide +kernel
theorem dX11_readBorder_10 : decode cX11_readBorder 10 = .ok (.invokevirtual 243, 3) := by decide +kernel
theorem dX11_readBorder_13 : decode cX11_readBorder 13 = .ok (.ifCond .ne 4, 3) := by decide +kernel
theorem dX11_readBorder_16 : decode cX11_readBorder 16 = .ok (.return_, 1) := by decide +kernel
theorem dX11_readBorder_17 : decode cX11_readBorder 17 = .ok (.aload_n 0, 1) := by decide +kernel
theorem dX11_readBorder_18 : decode cX11_readBorder 18 = .ok (.invokevirtual 316, 3) := by decide +kernel
theorem dX11_readBorder_21 : decode cX11_readBorder 21 = .ok (.istore_n 2, 1) := by decide +kernel
theorem dX11_readBorder_22 : decode cX11_readBorder 22 = .ok (.iload_n 2, 1) := by decide +kernel
theorem dX11_readBorder_23 : decode cX11_readBorder 23 = .ok (.ifCond .lt 38, 3) := by decide +kernel
theorem dX11_readBorder_26 : decode cX11_readBorder 26 = .ok (.iload_n 2, 1) := by decide +kernel
theorem dX11_readBorder_27 : decode cX11_readBorder 27 = .ok (.iload_n 1, 1) := by decide +kernel
theorem dX11_readBorder_28 : decode cX11_readBorder 28 = .ok (.if_icmp .eq 24, 3) := by decide +kernel
theorem dX11_readBorder_31 : decode cX11_readBorder 31 = .ok (.aload_n 0, 1) := by decide +kernel
theorem dX11_readBorder_32 : decode cX11_readBorder 32 = .ok (.getfield 54, 3) := by decide +kernel
theorem dX11_readBorder_35 : decode cX11_readBorder 35 = .ok (.iconst 4, 1) := by decide +kernel
theorem dX11_readBorder_36 : decode cX11_readBorder 36 = .ok (.aload_n 0, 1) := by decide +kernel
theorem dX11_readBorder_37 : decode cX11_readBorder 37 = .ok (.getfield 264, 3) := by decide +kernel
theorem dX11_readBorder_40 : decode cX11_readBorder 40 = .ok (.imul, 1) := by decide +kernel
theorem dX11_readBorder_41 : decode cX11_readBorder 41 = .ok (.iload_n 1, 1) := by decide +kernel
theorem dX11_readBorder_42 : decode cX11_readBorder 42 = .ok (.iadd, 1) := by decide +kernel
theorem dX11_readBorder_43 : decode cX11_readBorder 43 = .ok (.iaload, 1) := by decide +kernel
theorem dX11_readBorder_44 : decode cX11_readBorder 44 = .ok (.iload_n 2, 1) := by decide +kernel
theorem dX11_readBorder_45 : decode cX11_readBorder 45 = .ok (.ishr, 1) := by decide +kernel
theorem dX11_readBorder_46 : decode cX11_readBorder 46 = .ok (.iconst 1, 1) := by decide +kernel
theorem dX11_readBorder_47 : decode cX11_readBorder 47 = .ok (.iand, 1) := by decide +kernel
theorem dX11_readBorder_48 : decode cX11_readBorder 48 = .ok (.iconst 1, 1) := by decide +kernel
theorem dX11_readBorder_49 : decode cX11_readBorder 49 = .ok (.if_icmp .ne 12, 3) := by decide +kernel
theorem dX11_readBorder_52 : decode cX11_readBorder 52 = .ok (.aload_n 0, 1) := by decide +kernel
theorem dX11_readBorder_53 : decode cX11_readBorder 53 = .ok (.iconst 3, 1) := by decide +kernel
theorem dX11_readBorder_54 : decode cX11_readBorder 54 = .ok (.aload_n 0, 1) := by decide +kernel
theorem dX11_readBorder_55 : decode cX11_readBorder 55 = .ok (.getfield 208, 3) := by decide +kernel
theorem dX11_readBorder_58 : decode cX11_readBorder 58 = .ok (.invokevirtual 239, 3) := by decide +kernel
theorem dX11_readBorder_61 : decode cX11_readBorder 61 = .ok (.aload_n 0, 1) := by decide +kernel
theorem dX11_readBorder_62 : decode cX11_readBorder 62 = .ok (.iload_n 2, 1) := by decide +kernel
theorem dX11_readBorder_63 : decode cX11_readBorder 63 = .ok (.invokevirtual 326, 3) := by decide +kernel
theorem dX11_readBorder_66 : decode cX11_readBorder 66 = .ok (.istore_n 2, 1) := by decide +kernel
theorem dX11_readBorder_67 : decode cX11_readBorder 67 = .ok (.aload_n 0, 1) := by decide +kernel
theorem dX11_readBorder_68 : decode cX11_readBorder 68 = .ok (.invokevirtual 243, 3) := by decide +kernel
theorem dX11_readBorder_71 : decode cX11_readBorder 71 = .ok (.ifCond .ne 4, 3) := by decide +kernel
theorem dX11_readBorder_74 : decode cX11_readBorder 74 = .ok (.return_, 1) := by decide +kernel
theorem dX11_readBorder_75 : decode cX11_readBorder 75 = .ok (.aload_n 0, 1) := by decide +kernel
theorem dX11_readBorder_76 : decode cX11_readBorder 76 = .ok (.getfield 54, 3) := by decide +kernel
theorem dX11_readBorder_79 : decode cX11_readBorder 79 = .ok (.iconst 4, 1) := by decide +kernel
theorem dX11_readBorder_80 : decode cX11_readBorder 80 = .ok (.aload_n 0, 1) := by decide +kernel
theorem dX11_readBorder_81 : decode cX11_readBorder 81 = .ok (.getfield 264, 3) := by decide +kernel
theorem dX11_readBorder_84 : decode cX11_readBorder 84 = .ok (.imul, 1) := by decide +kernel
theorem dX11_readBorder_85 : decode cX11_readBorder 85 = .ok (.iload_n 1, 1) := by decide +kernel
theorem dX11_readBorder_86 : decode cX11_readBorder 86 = .ok (.iadd, 1) := by decide +kernel
theorem dX11_readBorder_87 : decode cX11_readBorder 87 = .ok (.dup2, 1) := by decide +kernel
theorem dX11_readBorder_88 : decode cX11_readBorder 88 = .ok (.iaload, 1) := by decide +kernel
theorem dX11_readBorder_89 : decode cX11_readBorder 89 = .ok (.iconst 1, 1) := by decide +kernel
theorem dX11_readBorder_90 : decode cX11_readBorder 90 = .ok (.iload_n 2, 1) := by decide +kernel
theorem dX11_readBorder_91 : decode cX11_readBorder 91 = .ok (.ishl, 1) := by decide +kernel
theorem dX11_readBorder_92 : decode cX11_readBorder 92 = .ok (.ior, 1) := by decide +kernel
theorem dX11_readBorder_93 : decode cX11_readBorder 93 = .ok (.iastore, 1) := by decide +kernel
theorem dX11_readBorder_94 : decode cX11_readBorder 94 = .ok (.aload_n 0, 1) := by decide +kernel
theorem dX11_readBorder_95 : decode cX11_readBorder 95 = .ok (.getfield 54, 3) := by decide +kernel
theorem dX11_readBorder_98 : decode cX11_readBorder 98 = .ok (.iconst 4, 1) := by decide +kernel
theorem dX11_readBorder_99 : decode cX11_readBorder 99 = .ok (.aload_n 0, 1) := by decide +kernel
theorem dX11_readBorder_100 : decode cX11_readBorder 100 = .ok (.getfield 264, 3) := by decide +kernel
theorem dX11_readBorder_103 : decode cX11_readBorder 103 = .ok (.imul, 1) := by decide +kernel
theorem dX11_readBorder_104 : decode cX11_readBorder 104 = .ok (.iload_n 2, 1) := by decide +kernel
theorem dX11_readBorder_105 : decode cX11_readBorder 105 = .ok (.iadd, 1) := by decide +kernel
theorem dX11_readBorder_106 : decode cX11_readBorder 106 = .ok (.dup2, 1) := by decide +kernel
theorem dX11_readBorder_107 : decode cX11_readBorder 107 = .ok (.iaload, 1) := by decide +kernel
theorem dX11_readBorder_108 : decode cX11_readBorder 108 = .ok (.iconst 1, 1) := by decide +kernel
theorem dX11_readBorder_109 : decode cX11_readBorder 109 = .ok (.iload_n 1, 1) := by decide +kernel
theorem dX11_readBorder_110 : decode cX11_readBorder 110 = .ok (.ishl, 1) := by decide +kernel
theorem dX11_readBorder_111 : decode cX11_readBorder 111 = .ok (.ior, 1) := by decide +kernel
theorem dX11_readBorder_112 : decode cX11_readBorder 112 = .ok (.iastore, 1) := by decide +kernel
theorem dX11_readBorder_113 : decode cX11_readBorder 113 = .ok (.aload_n 0, 1) := by decide +kernel
theorem dX11_readBorder_114 : decode cX11_readBorder 114 = .ok (.getfield 33, 3) := by decide +kernel
theorem dX11_readBorder_117 : decode cX11_readBorder 117 = .ok (.aload_n 0, 1) := by decide +kernel
theorem dX11_readBorder_118 : decode cX11_readBorder 118 = .ok (.getfield 264, 3) := by decide +kernel
theorem dX11_readBorder_121 : decode cX11_readBorder 121 = .ok (.dup2, 1) := by decide +kernel
theorem dX11_readBorder_122 : decode cX11_readBorder 122 = .ok (.iaload, 1) := by decide +kernel
theorem dX11_readBorder_123 : decode cX11_readBorder 123 = .ok (.iconst 1, 1) := by decide +kernel
theorem dX11_readBorder_124 : decode cX11_readBorder 124 = .ok (.iadd, 1) := by decide +kernel
theorem dX11_readBorder_125 : decode cX11_readBorder 125 = .ok (.iastore, 1) := by decide +kernel
theorem dX11_readBorder_126 : decode cX11_readBorder 126 = .ok (.return_, 1) := by decide +kernel
set_option maxHeartbeats 20000000 in
set_option maxRecDepth 100000 in
theorem m_X11_readBorder (l : Launch) (D : va_G) (cT : Nat → ClassId) (T : Nat → Option Nat) (q : Nat → Int) (hT : tokm T) (hq : qkm q) (a0 : Nat) (t0 : T a0 = some 0) (hp0 : TS q) (hp1 : q 13 = 1 - q 10) : th_MetM l D cT T q yX11_readBorder cX11_readBorder 3 none (rmk 3 65) [.ref a0] (fun v q2 => v = none ∧ qkm q2 ∧ fr [27, 28, 29, 30, 31] q q2 ∧ (TS q2) ∧ (q 27 ≤ q2 27) ∧ (GD q q2)) [0, 7, 14] := by
  refine th_startM (by decide) (Nat.le_of_ble_eq_true rfl) ?_
  intro p e s m below meth c ls S hK hH hr hlocks hnm hl
  have hx := S.1
  have hb := S.2.1
  have hl : lv_has ls 3 [(0, .ref a0)] := hl
  have J0 : ∀ (H : Heap) (locs : List Loc) (ls : Array Slot), th_H D cT T (km q) H → va_S (th_A T [0, 7, 14]) s.heap H locs → lv_has ls 3 [(0, .ref a0)] → W p l e (rmk 3 65) s m [.ref a0].toArray below meth c H locs 0 0 (MQ below (th_QM D cT T (fun v q2 => v = none ∧ qkm q2 ∧ fr [27, 28, 29, 30, 31] q q2 ∧ (TS q2) ∧ (q 27 ≤ q2 27) ∧ (GD q q2)) [0, 7, 14]) [.ref a0].toArray s 0 0 (th_A T [0, 7, 14])) (F0 m 0 ls []) := by
    intro H locs ls hH hS hl
    refine lv_aload_n hx hb dX11_readBorder_0 rfl (lv_at hl 0 rfl) ?_
    refine lv_aload_n hx hb dX11_readBorder_1 rfl (lv_at hl 0 rfl) ?_
    refine th_callVi (n := 0) (As := []) S hK hH hS (th_A.sub (by decide)) (m_X11_mapHere l D cT T q hT hq a0 t0) gm_1535 gm_1532 gm_1534 gm_61 gm_124 (by decide +kernel) ⟨rfl, rfl, Nat.le_of_ble_eq_true rfl, Nat.le_of_ble_eq_true rfl⟩ t0 km_0 rfl rfl hl.1 rfl (Nat.le_of_ble_eq_true rfl) dX11_readBorder_2 ⟨Nat.zero_le _, Nat.zero_le _⟩ (fun x1 H locs ix1 hH hS hF1 => ?_)
    have l1x1 := ix1.1; have l2x1 := ix1.2
    refine th_callVM (n := 1) (As := [.int x1]) S hK hH hS (th_A.sub (by decide)) (m_X11_known_v1 l D cT T q hT hq a0 t0 (x1) ix1 (show TS q by exact hp0)) gm_1595 gm_1592 gm_1594 gm_76 gm_124 (by decide +kernel) ⟨rfl, rfl, Nat.le_of_ble_eq_true rfl, Nat.le_of_ble_eq_true rfl⟩ t0 km_0 rfl rfl hl.1 rfl (Nat.le_of_ble_eq_true rfl) dX11_readBorder_5 ⟨Nat.zero_le _, Nat.zero_le _⟩ (fun wq2 q2 H locs hEq2 hH hS hF1 => ?_)
    obtain ⟨x3, rfl, ix3, hqq2, g0q2, pq2_0, pq2_1, pq2_2⟩ := hEq2
    show W p l e (rmk 3 65) s m [.ref a0].toArray below meth c H locs 0 0 (MQ below (th_QM D cT T (fun v q2 => v = none ∧ qkm q2 ∧ fr [27, 28, 29, 30, 31] q q2 ∧ (TS q2) ∧ (q 27 ≤ q2 27) ∧ (GD q q2)) [0, 7, 14]) [.ref a0].toArray s 0 0 (th_A T [0, 7, 14])) (F0 m 8 ls [.int x3])
    have pq2_0 : TS q2 := pq2_0
    have pq2_1 : q 27 ≤ q2 27 := pq2_1
    have pq2_2 : AD q q2 := pq2_2
    have wq2_10 : q2 10 = q 10 := g0q2 10 (by decide) (Or.inl (by decide))
    have wq2_13 : q2 13 = q 13 := g0q2 13 (by decide) (Or.inl (by decide))
    have wq2_26 : q2 26 = q 26 := g0q2 26 (by decide) (Or.inl (by decide))
    have h0q2 : fr [27, 28, 29, 30, 31] q q2 := fr_tr fr_rf g0q2 (by decide)
    have bgq2 : bg q q2 := bg_fr bg_rf g0q2 (by decide)
    have gdq2 : GD q q2 := GD_tr (GD_eq rfl) (AD_GD pq2_2)
    have gbq2 : GD q q2 := GD_tr (GD_eq rfl) (AD_GD pq2_2)
    have l1x3 := ix3.1; have l2x3 := ix3.2
    refine lv_istore_n (lv' := [(1, .int x3), (0, .ref a0)]) hx hb dX11_readBorder_8 rfl hl (by decide) rfl (fun ls hl => ?_)
    refine lv_aload_n hx hb dX11_readBorder_9 rfl (lv_at hl 1 rfl) ?_
    refine th_callVp (n := 0) (As := []) S hK hH hS (th_A.sub (by decide)) (m_X11_isGood l D cT T q2 hT hqq2 a0 t0) gm_1487 gm_1484 gm_1486 gm_49 gm_124 (by decide +kernel) ⟨rfl, rfl, Nat.le_of_ble_eq_true rfl, Nat.le_of_ble_eq_true rfl⟩ t0 km_0 rfl rfl hl.1 rfl (Nat.le_of_ble_eq_true rfl) dX11_readBorder_10 ⟨Nat.zero_le _, Nat.zero_le _⟩ (fun x4 H locs ix4 ox4 hH hS hF1 => ?_)
    obtain ⟨ox4_0, ox4_1⟩ := ox4
    have ox4_0 : x4.toInt ≠ 0 → q2 30 = 0 := ox4_0
    have ox4_1 : x4.toInt = 0 → 1 ≤ q2 30 := ox4_1
    have l1x4 := ix4.1; have l2x4 := ix4.2
    refine lv_if_ne (tgt := 17) hx hb dX11_readBorder_13 (by decide) (fun c5 => ?_) (fun c5 => ?_)
    · skip
      have rlc5 : x4.toInt ≠ (0 : Int) := iv_ne c5
      have ox4_0r := ox4_0 rlc5
      clear ox4_0
      clear ox4_1
      have ir6 : IV x4 1 1 := iv_cutL ix4 (iv_c (by decide) : IV 0 0 0) c5 (by decide)
      have ir6a := ir6.1; have ir6b := ir6.2
      clear rlc5
      refine lv_aload_n hx hb dX11_readBorder_17 rfl (lv_at hl 1 rfl) ?_
      refine th_callVi (n := 0) (As := []) S hK hH hS (th_A.sub (by decide)) (m_X11_mapHere l D cT T q2 hT hqq2 a0 t0) gm_1535 gm_1532 gm_1534 gm_61 gm_124 (by decide +kernel) ⟨rfl, rfl, Nat.le_of_ble_eq_true rfl, Nat.le_of_ble_eq_true rfl⟩ t0 km_0 rfl rfl hl.1 rfl (Nat.le_of_ble_eq_true rfl) dX11_readBorder_18 ⟨Nat.zero_le _, Nat.zero_le _⟩ (fun x7 H locs ix7 hH hS hF1 => ?_)
      have l1x7 := ix7.1; have l2x7 := ix7.2
      refine lv_istore_n (lv' := [(2, .int x7), (1, .int x3), (0, .ref a0)]) hx hb dX11_readBorder_21 rfl hl (by decide) rfl (fun ls hl => ?_)
      refine lv_iload_n hx hb dX11_readBorder_22 rfl (lv_at hl 0 rfl) ?_
      refine lv_if_lt (tgt := 61) hx hb dX11_readBorder_23 (by decide) (fun c8 => ?_) (fun c8 => ?_)
      · skip
        have rlc8 : x7.toInt < (0 : Int) := iv_lt c8
        have ir9 : IV x7 (-1) (-1) := iv_uL ix7 (iv_c (by decide) : IV 0 0 0) (iv_lt c8) (by decide)
        have ir9a := ir9.1; have ir9b := ir9.2
        refine lv_aload_n hx hb dX11_readBorder_61 rfl (lv_at hl 2 rfl) ?_
        refine lv_iload_n hx hb dX11_readBorder_62 rfl (lv_at hl 0 rfl) ?_
        refine th_callVM (n := 1) (As := [.int x7]) S hK hH hS (th_A.sub (by decide)) (m_X11_known_v0 l D cT T q2 hT hqq2 a0 t0 (x7) (iv_w ir9 (by decide)) (show TS q2 by exact pq2_0)) gm_1595 gm_1592 gm_1594 gm_76 gm_124 (by decide +kernel) ⟨rfl, rfl, Nat.le_of_ble_eq_true rfl, Nat.le_of_ble_eq_true rfl⟩ t0 km_0 rfl rfl hl.1 rfl (Nat.le_of_ble_eq_true rfl) dX11_readBorder_63 ⟨Nat.zero_le _, Nat.zero_le _⟩ (fun wq10 q10 H locs hEq10 hH hS hF1 => ?_)
        obtain ⟨x11, rfl, ix11, hqq10, g0q10, pq10_0, pq10_1, pq10_2⟩ := hEq10
        show W p l e (rmk 3 65) s m [.ref a0].toArray below meth c H locs 0 0 (MQ below (th_QM D cT T (fun v q2 => v = none ∧ qkm q2 ∧ fr [27, 28, 29, 30, 31] q q2 ∧ (TS q2) ∧ (q 27 ≤ q2 27) ∧ (GD q q2)) [0, 7, 14]) [.ref a0].toArray s 0 0 (th_A T [0, 7, 14])) (F0 m 66 ls [.int x11])
        have pq10_0 : TS q10 := pq10_0
        have pq10_1 : q2 27 ≤ q10 27 := pq10_1
        have pq10_2 : AD q2 q10 := pq10_2
        have wq10_10 : q10 10 = q2 10 := g0q10 10 (by decide) (Or.inl (by decide))
        have wq10_13 : q10 13 = q2 13 := g0q10 13 (by decide) (Or.inl (by decide))
        have wq10_26 : q10 26 = q2 26 := g0q10 26 (by decide) (Or.inl (by decide))
        have h0q10 : fr [27, 28, 29, 30, 31] q q10 := fr_tr h0q2 g0q10 (by decide)
        have bgq10 : bg q q10 := bg_fr bgq2 g0q10 (by decide)
        have gdq10 : GD q q10 := GD_tr gdq2 (AD_GD pq10_2)
        have gbq10 : GD q q10 := GD_tr gbq2 (AD_GD pq10_2)
        have l1x11 := ix11.1; have l2x11 := ix11.2
        refine lv_istore_n (lv' := [(2, .int x11), (1, .int x3), (0, .ref a0)]) hx hb dX11_readBorder_66 rfl hl (by decide) rfl (fun ls hl => ?_)
        refine lv_aload_n hx hb dX11_readBorder_67 rfl (lv_at hl 2 rfl) ?_
        refine th_callVp (n := 0) (As := []) S hK hH hS (th_A.sub (by decide)) (m_X11_isGood l D cT T q10 hT hqq10 a0 t0) gm_1487 gm_1484 gm_1486 gm_49 gm_124 (by decide +kernel) ⟨rfl, rfl, Nat.le_of_ble_eq_true rfl, Nat.le_of_ble_eq_true rfl⟩ t0 km_0 rfl rfl hl.1 rfl (Nat.le_of_ble_eq_true rfl) dX11_readBorder_68 ⟨Nat.zero_le _, Nat.zero_le _⟩ (fun x12 H locs ix12 ox12 hH hS hF1 => ?_)
        obtain ⟨ox12_0, ox12_1⟩ := ox12
        have ox12_0 : x12.toInt ≠ 0 → q10 30 = 0 := ox12_0
        have ox12_1 : x12.toInt = 0 → 1 ≤ q10 30 := ox12_1
        have l1x12 := ix12.1; have l2x12 := ix12.2
        refine lv_if_ne (tgt := 75) hx hb dX11_readBorder_71 (by decide) (fun c13 => ?_) (fun c13 => ?_)
        · skip
          have rlc13 : x12.toInt ≠ (0 : Int) := iv_ne c13
          have ox12_0r := ox12_0 rlc13
          clear ox12_0
          clear ox12_1
          have ir14 : IV x12 1 1 := iv_cutL ix12 (iv_c (by decide) : IV 0 0 0) c13 (by decide)
          have ir14a := ir14.1; have ir14b := ir14.2
          clear rlc13
          refine lv_aload_n hx hb dX11_readBorder_75 rfl (lv_at hl 2 rfl) ?_
          refine th_get S hK hH inG11 t0 km_0 rfl 22 (by decide) gm_1252 rfl rfl dX11_readBorder_76 (fun v15 hv15 fv15 => ?_)
          obtain ⟨rf16, rfl, trf16⟩ := th_V.ref hv15
          refine lv_iconst (v := 4) hx hb dX11_readBorder_79 (by decide) ?_
          refine lv_aload_n hx hb dX11_readBorder_80 rfl (lv_at hl 2 rfl) ?_
          refine th_get S hK hH inG11 t0 km_0 rfl 42 (by decide) gm_1272 rfl rfl dX11_readBorder_81 (fun v17 hv17 fv17 => ?_)
          obtain ⟨x18, rfl, ix18⟩ := th_V.int hv17
          have kx18 : x18.toInt = q10 13 := Int.le_antisymm ix18.2 ix18.1
          have bx18 := qkm_13 hqq10
          have ix18 : IV x18 0 1 := iv_w ix18 (qkm_13 hqq10)
          refine lv_imul hx hb dX11_readBorder_84 ?_
          refine lv_topi (fun x19 ex19 => ?_)
          have ix19 : IV x19 0 4 := by rw [ex19]; exact iv_mul (iv_c (by decide) : IV 4 4 4) ix18 (by decide) (by decide)
          have ux19 : x19.toInt = (4 : Int) * x18.toInt := by rw [ex19]; exact iv_mulE (iv_corner ((iv_c (by decide) : IV 4 4 4)).1 ((iv_c (by decide) : IV 4 4 4)).2 (ix18).1 (ix18).2 (by decide))
          refine lv_iload_n hx hb dX11_readBorder_85 rfl (lv_at hl 1 rfl) ?_
          refine lv_iadd hx hb dX11_readBorder_86 ?_
          refine lv_topi (fun x20 ex20 => ?_)
          have ix20 : IV x20 0 7 := by rw [ex20]; exact iv_add ix19 ix3 (by decide)
          have ux20 : x20.toInt = x19.toInt + x3.toInt := by rw [ex20]; exact iv_addE (by have z1 := (ix19).1; have z2 := (ix19).2; have z3 := (ix3).1; have z4 := (ix3).2; omega)
          refine lv_dup2_11 hx hb dX11_readBorder_87 rfl rfl ?_
          refine th_iald S hK hH trf16 km_14 (th_in (hi := 7) ix20 (by decide)) dX11_readBorder_88 (fun v21 hv21 => ?_)
          obtain ⟨x22, rfl, ix22⟩ := th_V.int hv21
          refine lv_iconst (v := 1) hx hb dX11_readBorder_89 (by decide) ?_
          refine lv_iload_n hx hb dX11_readBorder_90 rfl (lv_at hl 0 rfl) ?_
          refine lv_ishl hx hb dX11_readBorder_91 ?_
          refine lv_topi (fun x23 ex23 => ?_)
          have ix23 := iv_top x23
          have ix23 : IV x23 1 1073741824 := by rw [ex23]; exact iv_shl1 (iv_w ix11 (by decide))
          refine lv_ior hx hb dX11_readBorder_92 ?_
          refine lv_topi (fun x24 ex24 => ?_)
          have ix24 := iv_top x24
          refine th_iast S hK hH hS ⟨14, by decide, trf16⟩ trf16 km_14 (th_in (hi := 7) ix20 (by decide)) (th_iv ix24) dX11_readBorder_93 (fun H locs hH hS hq1 => ?_)
          have f25 := fv15.kept (hq1 _ (th_ne t0 trf16 (by decide)))
          refine lv_aload_n hx hb dX11_readBorder_94 rfl (lv_at hl 2 rfl) ?_
          refine th_getK S hK f25 inG11 rfl (by decide) gm_1252 rfl dX11_readBorder_95 ?_
          refine lv_iconst (v := 4) hx hb dX11_readBorder_98 (by decide) ?_
          refine lv_aload_n hx hb dX11_readBorder_99 rfl (lv_at hl 2 rfl) ?_
          refine th_get S hK hH inG11 t0 km_0 rfl 42 (by decide) gm_1272 rfl rfl dX11_readBorder_100 (fun v27 hv27 fv27 => ?_)
          obtain ⟨x28, rfl, ix28⟩ := th_V.int hv27
          have kx28 : x28.toInt = q10 13 := Int.le_antisymm ix28.2 ix28.1
          have bx28 := qkm_13 hqq10
          have ix28 : IV x28 0 1 := iv_w ix28 (qkm_13 hqq10)
          refine lv_imul hx hb dX11_readBorder_103 ?_
          refine lv_topi (fun x29 ex29 => ?_)
          have ix29 : IV x29 0 4 := by rw [ex29]; exact iv_mul (iv_c (by decide) : IV 4 4 4) ix28 (by decide) (by decide)
          have ux29 : x29.toInt = (4 : Int) * x28.toInt := by rw [ex29]; exact iv_mulE (iv_corner ((iv_c (by decide) : IV 4 4 4)).1 ((iv_c (by decide) : IV 4 4 4)).2 (ix28).1 (ix28).2 (by decide))
          refine lv_iload_n hx hb dX11_readBorder_104 rfl (lv_at hl 0 rfl) ?_
          refine lv_iadd hx hb dX11_readBorder_105 ?_
          refine lv_topi (fun x30 ex30 => ?_)
          have ix30 : IV x30 0 6 := by rw [ex30]; exact iv_add ix29 ix11 (by decide)
          have ux30 : x30.toInt = x29.toInt + x11.toInt := by rw [ex30]; exact iv_addE (by have z1 := (ix29).1; have z2 := (ix29).2; have z3 := (ix11).1; have z4 := (ix11).2; omega)
          refine lv_dup2_11 hx hb dX11_readBorder_106 rfl rfl ?_
          refine th_iald S hK hH trf16 km_14 (th_in (hi := 6) ix30 (by decide)) dX11_readBorder_107 (fun v31 hv31 => ?_)
          obtain ⟨x32, rfl, ix32⟩ := th_V.int hv31
          refine lv_iconst (v := 1) hx hb dX11_readBorder_108 (by decide) ?_
          refine lv_iload_n hx hb dX11_readBorder_109 rfl (lv_at hl 1 rfl) ?_
          refine lv_ishl hx hb dX11_readBorder_110 ?_
          refine lv_topi (fun x33 ex33 => ?_)
          have ix33 := iv_top x33
          have ix33 : IV x33 1 1073741824 := by rw [ex33]; exact iv_shl1 (iv_w ix3 (by decide))
          refine lv_ior hx hb dX11_readBorder_111 ?_
          refine lv_topi (fun x34 ex34 => ?_)
          have ix34 := iv_top x34
          refine th_iast S hK hH hS ⟨14, by decide, trf16⟩ trf16 km_14 (th_in (hi := 6) ix30 (by decide)) (th_iv ix34) dX11_readBorder_112 (fun H locs hH hS hq1 => ?_)
          have f35 := f25.kept (hq1 _ (th_ne t0 trf16 (by decide)))
          refine lv_aload_n hx hb dX11_readBorder_113 rfl (lv_at hl 2 rfl) ?_
          refine th_get S hK hH inG11 t0 km_0 rfl 15 (by decide) gm_1245 rfl rfl dX11_readBorder_114 (fun v36 hv36 fv36 => ?_)
          obtain ⟨rf37, rfl, trf37⟩ := th_V.ref hv36
          refine lv_aload_n hx hb dX11_readBorder_117 rfl (lv_at hl 2 rfl) ?_
          refine th_get S hK hH inG11 t0 km_0 rfl 42 (by decide) gm_1272 rfl rfl dX11_readBorder_118 (fun v38 hv38 fv38 => ?_)
          obtain ⟨x39, rfl, ix39⟩ := th_V.int hv38
          have kx39 : x39.toInt = q10 13 := Int.le_antisymm ix39.2 ix39.1
          have bx39 := qkm_13 hqq10
          have ix39 : IV x39 0 1 := iv_w ix39 (qkm_13 hqq10)
          refine lv_dup2_11 hx hb dX11_readBorder_121 rfl rfl ?_
          refine th_iald S hK hH trf37 km_7 (th_in (hi := 1) ix39 (by decide)) dX11_readBorder_122 (fun v40 hv40 => ?_)
          obtain ⟨x41, rfl, ix41⟩ := th_V.int hv40
          refine lv_iconst (v := 1) hx hb dX11_readBorder_123 (by decide) ?_
          refine lv_iadd hx hb dX11_readBorder_124 ?_
          refine lv_topi (fun x42 ex42 => ?_)
          have ix42 := iv_top x42
          refine th_iast S hK hH hS ⟨7, by decide, trf37⟩ trf37 km_7 (th_in (hi := 1) ix39 (by decide)) (th_iv ix42) dX11_readBorder_125 (fun H locs hH hS hq1 => ?_)
          have f43 := f35.kept (hq1 _ (th_ne t0 trf37 (by decide)))
          exact th_vretM S hK hH hS hr hlocks ⟨rfl, hqq10, h0q10, (show TS q10 by exact pq10_0), (show q 27 ≤ q10 27 by omega), (show GD q q10 by exact gdq10)⟩ dX11_readBorder_126
        · skip
          have rlc13 : x12.toInt = (0 : Int) := congrArg Int32.toInt c13
          clear ox12_0
          have ox12_1r := ox12_1 rlc13
          clear ox12_1
          have ir44 : IV x12 0 0 := iv_eL c13 (iv_c (by decide) : IV 0 0 0)
          have ir44a := ir44.1; have ir44b := ir44.2
          exact th_vretM S hK hH hS hr hlocks ⟨rfl, hqq10, h0q10, (show TS q10 by exact pq10_0), (show q 27 ≤ q10 27 by omega), (show GD q q10 by exact gdq10)⟩ dX11_readBorder_74
      · skip
        have rlc8 : (0 : Int) ≤ x7.toInt := iv_nlt c8
        have ir45 : IV x7 0 3 := iv_vR (iv_c (by decide) : IV 0 0 0) ix7 (iv_nlt c8) (by decide)
        have ir45a := ir45.1; have ir45b := ir45.2
        refine lv_iload_n hx hb dX11_readBorder_26 rfl (lv_at hl 0 rfl) ?_
        refine lv_iload_n hx hb dX11_readBorder_27 rfl (lv_at hl 1 rfl) ?_
        refine lv_icmp_eq (tgt := 52) hx hb dX11_readBorder_28 (by decide) (fun c46 => ?_) (fun c46 => ?_)
        · skip
          have rlc46 : x7.toInt = x3.toInt := congrArg Int32.toInt c46
          refine lv_aload_n hx hb dX11_readBorder_52 rfl (lv_at hl 2 rfl) ?_
          refine lv_iconst (v := 3) hx hb dX11_readBorder_53 (by decide) ?_
          refine lv_aload_n hx hb dX11_readBorder_54 rfl (lv_at hl 2 rfl) ?_
          refine th_get S hK hH inG11 t0 km_0 rfl 6 (by decide) gm_1236 rfl rfl dX11_readBorder_55 (fun v47 hv47 fv47 => ?_)
          obtain ⟨x48, rfl, ix48⟩ := th_V.int hv47
          have kx48 : x48.toInt = q2 27 := Int.le_antisymm ix48.2 ix48.1
          have bx48 := qkm_27 hqq2
          have ix48 : IV x48 0 1600 := iv_w ix48 (qkm_27 hqq2)
          refine th_callVM (n := 2) (As := [.int 3, .int x48]) S hK hH hS (th_A.sub (by decide)) (m_X11_fails l D cT T q2 hT hqq2 a0 t0 (3) (iv_w (iv_c (by decide) : IV 3 3 3) (by decide)) (x48) (iv_top _)) gm_1507 gm_1504 gm_1506 gm_54 gm_124 (by decide +kernel) ⟨rfl, rfl, Nat.le_of_ble_eq_true rfl, Nat.le_of_ble_eq_true rfl⟩ t0 km_0 rfl rfl hl.1 rfl (Nat.le_of_ble_eq_true rfl) dX11_readBorder_58 ⟨Nat.zero_le _, Nat.zero_le _⟩ (fun wq49 q49 H locs hEq49 hH hS hF1 => ?_)
          obtain ⟨rfl, hqq49, g0q49, pq49_0⟩ := hEq49
          show W p l e (rmk 3 65) s m [.ref a0].toArray below meth c H locs 0 0 (MQ below (th_QM D cT T (fun v q2 => v = none ∧ qkm q2 ∧ fr [27, 28, 29, 30, 31] q q2 ∧ (TS q2) ∧ (q 27 ≤ q2 27) ∧ (GD q q2)) [0, 7, 14]) [.ref a0].toArray s 0 0 (th_A T [0, 7, 14])) (F0 m 61 ls [])
          have pq49_0 : 1 ≤ q49 30 := pq49_0
          have wq49_10 : q49 10 = q2 10 := g0q49 10 (by decide) (Or.inl (by decide))
          have wq49_13 : q49 13 = q2 13 := g0q49 13 (by decide) (Or.inl (by decide))
          have wq49_26 : q49 26 = q2 26 := g0q49 26 (by decide) (Or.inl (by decide))
          have wq49_27 : q49 27 = q2 27 := g0q49 27 (by decide) (Or.inl (by decide))
          have wq49_28 : q49 28 = q2 28 := g0q49 28 (by decide) (Or.inl (by decide))
          have wq49_29 : q49 29 = q2 29 := g0q49 29 (by decide) (Or.inl (by decide))
          have wq49_31 : q49 31 = q2 31 := g0q49 31 (by decide) (Or.inl (by decide))
          have h0q49 : fr [27, 28, 29, 30, 31] q q49 := fr_tr h0q2 g0q49 (by decide)
          have bgq49 : bg q q49 := bg_fr bgq2 g0q49 (by decide)
          have gdq49 : GD q q49 := GD_tr gdq2 (GD_no pq49_0)
          have gbq49 : GD q q49 := GD_tr gbq2 (GD_no pq49_0)
          have txq49 : tx q2 q49 := tx_tr tx_rf (tx_bg (bg_fr bg_rf g0q49 (by decide)))
          refine lv_aload_n hx hb dX11_readBorder_61 rfl (lv_at hl 2 rfl) ?_
          refine lv_iload_n hx hb dX11_readBorder_62 rfl (lv_at hl 0 rfl) ?_
          refine th_callVM (n := 1) (As := [.int x7]) S hK hH hS (th_A.sub (by decide)) (m_X11_known_v1 l D cT T q49 hT hqq49 a0 t0 (x7) (iv_w ir45 (by decide)) (show TS q49 by exact (TS_mv pq2_0 txq49 (by omega) (by omega) (by omega) (by omega) (by omega) (fun z => by omega)))) gm_1595 gm_1592 gm_1594 gm_76 gm_124 (by decide +kernel) ⟨rfl, rfl, Nat.le_of_ble_eq_true rfl, Nat.le_of_ble_eq_true rfl⟩ t0 km_0 rfl rfl hl.1 rfl (Nat.le_of_ble_eq_true rfl) dX11_readBorder_63 ⟨Nat.zero_le _, Nat.zero_le _⟩ (fun wq50 q50 H locs hEq50 hH hS hF1 => ?_)
          obtain ⟨x51, rfl, ix51, hqq50, g0q50, pq50_0, pq50_1, pq50_2⟩ := hEq50
          show W p l e (rmk 3 65) s m [.ref a0].toArray below meth c H locs 0 0 (MQ below (th_QM D cT T (fun v q2 => v = none ∧ qkm q2 ∧ fr [27, 28, 29, 30, 31] q q2 ∧ (TS q2) ∧ (q 27 ≤ q2 27) ∧ (GD q q2)) [0, 7, 14]) [.ref a0].toArray s 0 0 (th_A T [0, 7, 14])) (F0 m 66 ls [.int x51])
          have pq50_0 : TS q50 := pq50_0
          have pq50_1 : q49 27 ≤ q50 27 := pq50_1
          have pq50_2 : AD q49 q50 := pq50_2
          have wq50_10 : q50 10 = q49 10 := g0q50 10 (by decide) (Or.inl (by decide))
          have wq50_13 : q50 13 = q49 13 := g0q50 13 (by decide) (Or.inl (by decide))
          have wq50_26 : q50 26 = q49 26 := g0q50 26 (by decide) (Or.inl (by decide))
          have h0q50 : fr [27, 28, 29, 30, 31] q q50 := fr_tr h0q49 g0q50 (by decide)
          have bgq50 : bg q q50 := bg_fr bgq49 g0q50 (by decide)
          have gdq50 : GD q q50 := GD_tr gdq49 (AD_GD pq50_2)
          have gbq50 : GD q q50 := GD_tr gbq49 (AD_GD pq50_2)
          have l1x51 := ix51.1; have l2x51 := ix51.2
          refine lv_istore_n (lv' := [(2, .int x51), (1, .int x3), (0, .ref a0)]) hx hb dX11_readBorder_66 rfl hl (by decide) rfl (fun ls hl => ?_)
          refine lv_aload_n hx hb dX11_readBorder_67 rfl (lv_at hl 2 rfl) ?_
          refine th_callVp (n := 0) (As := []) S hK hH hS (th_A.sub (by decide)) (m_X11_isGood l D cT T q50 hT hqq50 a0 t0) gm_1487 gm_1484 gm_1486 gm_49 gm_124 (by decide +kernel) ⟨rfl, rfl, Nat.le_of_ble_eq_true rfl, Nat.le_of_ble_eq_true rfl⟩ t0 km_0 rfl rfl hl.1 rfl (Nat.le_of_ble_eq_true rfl) dX11_readBorder_68 ⟨Nat.zero_le _, Nat.zero_le _⟩ (fun x52 H locs ix52 ox52 hH hS hF1 => ?_)
          obtain ⟨ox52_0, ox52_1⟩ := ox52
          have ox52_0 : x52.toInt ≠ 0 → q50 30 = 0 := ox52_0
          have ox52_1 : x52.toInt = 0 → 1 ≤ q50 30 := ox52_1
          have l1x52 := ix52.1; have l2x52 := ix52.2
          refine lv_if_ne (tgt := 75) hx hb dX11_readBorder_71 (by decide) (fun c53 => ?_) (fun c53 => ?_)
          · skip
            have rlc53 : x52.toInt ≠ (0 : Int) := iv_ne c53
            have ox52_0r := ox52_0 rlc53
            clear ox52_0
            clear ox52_1
            have ir54 : IV x52 1 1 := iv_cutL ix52 (iv_c (by decide) : IV 0 0 0) c53 (by decide)
            have ir54a := ir54.1; have ir54b := ir54.2
            clear rlc53
            refine lv_aload_n hx hb dX11_readBorder_75 rfl (lv_at hl 2 rfl) ?_
            refine th_get S hK hH inG11 t0 km_0 rfl 22 (by decide) gm_1252 rfl rfl dX11_readBorder_76 (fun v55 hv55 fv55 => ?_)
            obtain ⟨rf56, rfl, trf56⟩ := th_V.ref hv55
            refine lv_iconst (v := 4) hx hb dX11_readBorder_79 (by decide) ?_
            refine lv_aload_n hx hb dX11_readBorder_80 rfl (lv_at hl 2 rfl) ?_
            refine th_get S hK hH inG11 t0 km_0 rfl 42 (by decide) gm_1272 rfl rfl dX11_readBorder_81 (fun v57 hv57 fv57 => ?_)
            obtain ⟨x58, rfl, ix58⟩ := th_V.int hv57
            have kx58 : x58.toInt = q50 13 := Int.le_antisymm ix58.2 ix58.1
            have bx58 := qkm_13 hqq50
            have ix58 : IV x58 0 1 := iv_w ix58 (qkm_13 hqq50)
            refine lv_imul hx hb dX11_readBorder_84 ?_
            refine lv_topi (fun x59 ex59 => ?_)
            have ix59 : IV x59 0 4 := by rw [ex59]; exact iv_mul (iv_c (by decide) : IV 4 4 4) ix58 (by decide) (by decide)
            have ux59 : x59.toInt = (4 : Int) * x58.toInt := by rw [ex59]; exact iv_mulE (iv_corner ((iv_c (by decide) : IV 4 4 4)).1 ((iv_c (by decide) : IV 4 4 4)).2 (ix58).1 (ix58).2 (by decide))
            refine lv_iload_n hx hb dX11_readBorder_85 rfl (lv_at hl 1 rfl) ?_
            refine lv_iadd hx hb dX11_readBorder_86 ?_
            refine lv_topi (fun x60 ex60 => ?_)
            have ix60 : IV x60 0 7 := by rw [ex60]; exact iv_add ix59 ix3 (by decide)
            have ux60 : x60.toInt = x59.toInt + x3.toInt := by rw [ex60]; exact iv_addE (by have z1 := (ix59).1; have z2 := (ix59).2; have z3 := (ix3).1; have z4 := (ix3).2; omega)
            refine lv_dup2_11 hx hb dX11_readBorder_87 rfl rfl ?_
            refine th_iald S hK hH trf56 km_14 (th_in (hi := 7) ix60 (by decide)) dX11_readBorder_88 (fun v61 hv61 => ?_)
            obtain ⟨x62, rfl, ix62⟩ := th_V.int hv61
            refine lv_iconst (v := 1) hx hb dX11_readBorder_89 (by decide) ?_
            refine lv_iload_n hx hb dX11_readBorder_90 rfl (lv_at hl 0 rfl) ?_
            refine lv_ishl hx hb dX11_readBorder_91 ?_
            refine lv_topi (fun x63 ex63 => ?_)
            have ix63 := iv_top x63
            have ix63 : IV x63 1 1073741824 := by rw [ex63]; exact iv_shl1 (iv_w ix51 (by decide))
            refine lv_ior hx hb dX11_readBorder_92 ?_
            refine lv_topi (fun x64 ex64 => ?_)
            have ix64 := iv_top x64
            refine th_iast S hK hH hS ⟨14, by decide, trf56⟩ trf56 km_14 (th_in (hi := 7) ix60 (by decide)) (th_iv ix64) dX11_readBorder_93 (fun H locs hH hS hq1 => ?_)
            have f65 := fv55.kept (hq1 _ (th_ne t0 trf56 (by decide)))
            refine lv_aload_n hx hb dX11_readBorder_94 rfl (lv_at hl 2 rfl) ?_
            refine th_getK S hK f65 inG11 rfl (by decide) gm_1252 rfl dX11_readBorder_95 ?_
            refine lv_iconst (v := 4) hx hb dX11_readBorder_98 (by decide) ?_
            refine lv_aload_n hx hb dX11_readBorder_99 rfl (lv_at hl 2 rfl) ?_
            refine th_get S hK hH inG11 t0 km_0 rfl 42 (by decide) gm_1272 rfl rfl dX11_readBorder_100 (fun v67 hv67 fv67 => ?_)
            obtain ⟨x68, rfl, ix68⟩ := th_V.int hv67
            have kx68 : x68.toInt = q50 13 := Int.le_antisymm ix68.2 ix68.1
            have bx68 := qkm_13 hqq50
            have ix68 : IV x68 0 1 := iv_w ix68 (qkm_13 hqq50)
            refine lv_imul hx hb dX11_readBorder_103 ?_
            refine lv_topi (fun x69 ex69 => ?_)
            have ix69 : IV x69 0 4 := by rw [ex69]; exact iv_mul (iv_c (by decide) : IV 4 4 4) ix68 (by decide) (by decide)
            have ux69 : x69.toInt = (4 : Int) * x68.toInt := by rw [ex69]; exact iv_mulE (iv_corner ((iv_c (by decide) : IV 4 4 4)).1 ((iv_c (by decide) : IV 4 4 4)).2 (ix68).1 (ix68).2 (by decide))
            refine lv_iload_n hx hb dX11_readBorder_104 rfl (lv_at hl 0 rfl) ?_
            refine lv_iadd hx hb dX11_readBorder_105 ?_
            refine lv_topi (fun x70 ex70 => ?_)
            have ix70 : IV x70 0 7 := by rw [ex70]; exact iv_add ix69 ix51 (by decide)
            have ux70 : x70.toInt = x69.toInt + x51.toInt := by rw [ex70]; exact iv_addE (by have z1 := (ix69).1; have z2 := (ix69).2; have z3 := (ix51).1; have z4 := (ix51).2; omega)
            refine lv_dup2_11 hx hb dX11_readBorder_106 rfl rfl ?_
            refine th_iald S hK hH trf56 km_14 (th_in (hi := 7) ix70 (by decide)) dX11_readBorder_107 (fun v71 hv71 => ?_)
            obtain ⟨x72, rfl, ix72⟩ := th_V.int hv71
            refine lv_iconst (v := 1) hx hb dX11_readBorder_108 (by decide) ?_
            refine lv_iload_n hx hb dX11_readBorder_109 rfl (lv_at hl 1 rfl) ?_
            refine lv_ishl hx hb dX11_readBorder_110 ?_
            refine lv_topi (fun x73 ex73 => ?_)
            have ix73 := iv_top x73
            have ix73 : IV x73 1 1073741824 := by rw [ex73]; exact iv_shl1 (iv_w ix3 (by decide))
            refine lv_ior hx hb dX11_readBorder_111 ?_
            refine lv_topi (fun x74 ex74 => ?_)
            have ix74 := iv_top x74
            refine th_iast S hK hH hS ⟨14, by decide, trf56⟩ trf56 km_14 (th_in (hi := 7) ix70 (by decide)) (th_iv ix74) dX11_readBorder_112 (fun H locs hH hS hq1 => ?_)
            have f75 := f65.kept (hq1 _ (th_ne t0 trf56 (by decide)))
            refine lv_aload_n hx hb dX11_readBorder_113 rfl (lv_at hl 2 rfl) ?_
            refine th_get S hK hH inG11 t0 km_0 rfl 15 (by decide) gm_1245 rfl rfl dX11_readBorder_114 (fun v76 hv76 fv76 => ?_)
            obtain ⟨rf77, rfl, trf77⟩ := th_V.ref hv76
            refine lv_aload_n hx hb dX11_readBorder_117 rfl (lv_at hl 2 rfl) ?_
            refine th_get S hK hH inG11 t0 km_0 rfl 42 (by decide) gm_1272 rfl rfl dX11_readBorder_118 (fun v78 hv78 fv78 => ?_)
            obtain ⟨x79, rfl, ix79⟩ := th_V.int hv78
            have kx79 : x79.toInt = q50 13 := Int.le_antisymm ix79.2 ix79.1
            have bx79 := qkm_13 hqq50
            have ix79 : IV x79 0 1 := iv_w ix79 (qkm_13 hqq50)
            refine lv_dup2_11 hx hb dX11_readBorder_121 rfl rfl ?_
            refine th_iald S hK hH trf77 km_7 (th_in (hi := 1) ix79 (by decide)) dX11_readBorder_122 (fun v80 hv80 => ?_)
            obtain ⟨x81, rfl, ix81⟩ := th_V.int hv80
            refine lv_iconst (v := 1) hx hb dX11_readBorder_123 (by decide) ?_
            refine lv_iadd hx hb dX11_readBorder_124 ?_
            refine lv_topi (fun x82 ex82 => ?_)
            have ix82 := iv_top x82
            refine th_iast S hK hH hS ⟨7, by decide, trf77⟩ trf77 km_7 (th_in (hi := 1) ix79 (by decide)) (th_iv ix82) dX11_readBorder_125 (fun H locs hH hS hq1 => ?_)
            have f83 := f75.kept (hq1 _ (th_ne t0 trf77 (by decide)))
            exact th_vretM S hK hH hS hr hlocks ⟨rfl, hqq50, h0q50, (show TS q50 by exact pq50_0), (show q 27 ≤ q50 27 by omega), (show GD q q50 by exact gdq50)⟩ dX11_readBorder_126
          · skip
            have rlc53 : x52.toInt = (0 : Int) := congrArg Int32.toInt c53
            clear ox52_0
            have ox52_1r := ox52_1 rlc53
            clear ox52_1
            have ir84 : IV x52 0 0 := iv_eL c53 (iv_c (by decide) : IV 0 0 0)
            have ir84a := ir84.1; have ir84b := ir84.2
            exact th_vretM S hK hH hS hr hlocks ⟨rfl, hqq50, h0q50, (show TS q50 by exact pq50_0), (show q 27 ≤ q50 27 by omega), (show GD q q50 by exact gdq50)⟩ dX11_readBorder_74
        · skip
          have rlc46 : x7.toInt ≠ x3.toInt := iv_ne c46
          clear rlc46
          refine lv_aload_n hx hb dX11_readBorder_31 rfl (lv_at hl 2 rfl) ?_
          refine th_get S hK hH inG11 t0 km_0 rfl 22 (by decide) gm_1252 rfl rfl dX11_readBorder_32 (fun v85 hv85 fv85 => ?_)
          obtain ⟨rf86, rfl, trf86⟩ := th_V.ref hv85
          refine lv_iconst (v := 4) hx hb dX11_readBorder_35 (by decide) ?_
          refine lv_aload_n hx hb dX11_readBorder_36 rfl (lv_at hl 2 rfl) ?_
          refine th_get S hK hH inG11 t0 km_0 rfl 42 (by decide) gm_1272 rfl rfl dX11_readBorder_37 (fun v87 hv87 fv87 => ?_)
          obtain ⟨x88, rfl, ix88⟩ := th_V.int hv87
          have kx88 : x88.toInt = q2 13 := Int.le_antisymm ix88.2 ix88.1
          have bx88 := qkm_13 hqq2
          have ix88 : IV x88 0 1 := iv_w ix88 (qkm_13 hqq2)
          refine lv_imul hx hb dX11_readBorder_40 ?_
          refine lv_topi (fun x89 ex89 => ?_)
          have ix89 : IV x89 0 4 := by rw [ex89]; exact iv_mul (iv_c (by decide) : IV 4 4 4) ix88 (by decide) (by decide)
          have ux89 : x89.toInt = (4 : Int) * x88.toInt := by rw [ex89]; exact iv_mulE (iv_corner ((iv_c (by decide) : IV 4 4 4)).1 ((iv_c (by decide) : IV 4 4 4)).2 (ix88).1 (ix88).2 (by decide))
          refine lv_iload_n hx hb dX11_readBorder_41 rfl (lv_at hl 1 rfl) ?_
          refine lv_iadd hx hb dX11_readBorder_42 ?_
          refine lv_topi (fun x90 ex90 => ?_)
          have ix90 : IV x90 0 7 := by rw [ex90]; exact iv_add ix89 ix3 (by decide)
          have ux90 : x90.toInt = x89.toInt + x3.toInt := by rw [ex90]; exact iv_addE (by have z1 := (ix89).1; have z2 := (ix89).2; have z3 := (ix3).1; have z4 := (ix3).2; omega)
          refine th_iald S hK hH trf86 km_14 (th_in (hi := 7) ix90 (by decide)) dX11_readBorder_43 (fun v91 hv91 => ?_)
          obtain ⟨x92, rfl, ix92⟩ := th_V.int hv91
          refine lv_iload_n hx hb dX11_readBorder_44 rfl (lv_at hl 0 rfl) ?_
          refine lv_ishr hx hb dX11_readBorder_45 ?_
          refine lv_topi (fun x93 ex93 => ?_)
          have ix93 := iv_top x93
          refine lv_iconst (v := 1) hx hb dX11_readBorder_46 (by decide) ?_
          refine lv_iand hx hb dX11_readBorder_47 ?_
          refine lv_topi (fun x94 ex94 => ?_)
          have ix94 : IV x94 0 1 := by rw [ex94]; exact iv_and (h2 := 1) (iv_w (iv_c (by decide) : IV 1 1 1) (by decide)) (by decide)
          refine lv_iconst (v := 1) hx hb dX11_readBorder_48 (by decide) ?_
          refine lv_icmp_ne (tgt := 61) hx hb dX11_readBorder_49 (by decide) (fun c95 => ?_) (fun c95 => ?_)
          · skip
            have rlc95 : x94.toInt ≠ (1 : Int) := iv_ne c95
            have ir96 : IV x94 0 0 := iv_cutH ix94 (iv_c (by decide) : IV 1 1 1) c95 (by decide)
            have ir96a := ir96.1; have ir96b := ir96.2
            clear rlc95
            refine lv_aload_n hx hb dX11_readBorder_61 rfl (lv_at hl 2 rfl) ?_
            refine lv_iload_n hx hb dX11_readBorder_62 rfl (lv_at hl 0 rfl) ?_
            refine th_callVM (n := 1) (As := [.int x7]) S hK hH hS (th_A.sub (by decide)) (m_X11_known_v1 l D cT T q2 hT hqq2 a0 t0 (x7) (iv_w ir45 (by decide)) (show TS q2 by exact pq2_0)) gm_1595 gm_1592 gm_1594 gm_76 gm_124 (by decide +kernel) ⟨rfl, rfl, Nat.le_of_ble_eq_true rfl, Nat.le_of_ble_eq_true rfl⟩ t0 km_0 rfl rfl hl.1 rfl (Nat.le_of_ble_eq_true rfl) dX11_readBorder_63 ⟨Nat.zero_le _, Nat.zero_le _⟩ (fun wq97 q97 H locs hEq97 hH hS hF1 => ?_)
            obtain ⟨x98, rfl, ix98, hqq97, g0q97, pq97_0, pq97_1, pq97_2⟩ := hEq97
            show W p l e (rmk 3 65) s m [.ref a0].toArray below meth c H locs 0 0 (MQ below (th_QM D cT T (fun v q2 => v = none ∧ qkm q2 ∧ fr [27, 28, 29, 30, 31] q q2 ∧ (TS q2) ∧ (q 27 ≤ q2 27) ∧ (GD q q2)) [0, 7, 14]) [.ref a0].toArray s 0 0 (th_A T [0, 7, 14])) (F0 m 66 ls [.int x98])
            have pq97_0 : TS q97 := pq97_0
            have pq97_1 : q2 27 ≤ q97 27 := pq97_1
            have pq97_2 : AD q2 q97 := pq97_2
            have wq97_10 : q97 10 = q2 10 := g0q97 10 (by decide) (Or.inl (by decide))
            have wq97_13 : q97 13 = q2 13 := g0q97 13 (by decide) (Or.inl (by decide))
            have wq97_26 : q97 26 = q2 26 := g0q97 26 (by decide) (Or.inl (by decide))
            have h0q97 : fr [27, 28, 29, 30, 31] q q97 := fr_tr h0q2 g0q97 (by decide)
            have bgq97 : bg q q97 := bg_fr bgq2 g0q97 (by decide)
            have gdq97 : GD q q97 := GD_tr gdq2 (AD_GD pq97_2)
            have gbq97 : GD q q97 := GD_tr gbq2 (AD_GD pq97_2)
            have l1x98 := ix98.1; have l2x98 := ix98.2
            refine lv_istore_n (lv' := [(2, .int x98), (1, .int x3), (0, .ref a0)]) hx hb dX11_readBorder_66 rfl hl (by decide) rfl (fun ls hl => ?_)
            refine lv_aload_n hx hb dX11_readBorder_67 rfl (lv_at hl 2 rfl) ?_
            refine th_callVp (n := 0) (As := []) S hK hH hS (th_A.sub (by decide)) (m_X11_isGood l D cT T q97 hT hqq97 a0 t0) gm_1487 gm_1484 gm_1486 gm_49 gm_124 (by decide +kernel) ⟨rfl, rfl, Nat.le_of_ble_eq_true rfl, Nat.le_of_ble_eq_true rfl⟩ t0 km_0 rfl rfl hl.1 rfl (Nat.le_of_ble_eq_true rfl) dX11_readBorder_68 ⟨Nat.zero_le _, Nat.zero_le _⟩ (fun x99 H locs ix99 ox99 hH hS hF1 => ?_)
            obtain ⟨ox99_0, ox99_1⟩ := ox99
            have ox99_0 : x99.toInt ≠ 0 → q97 30 = 0 := ox99_0
            have ox99_1 : x99.toInt = 0 → 1 ≤ q97 30 := ox99_1
            have l1x99 := ix99.1; have l2x99 := ix99.2
            refine lv_if_ne (tgt := 75) hx hb dX11_readBorder_71 (by decide) (fun c100 => ?_) (fun c100 => ?_)
            · skip
              have rlc100 : x99.toInt ≠ (0 : Int) := iv_ne c100
              have ox99_0r := ox99_0 rlc100
              clear ox99_0
              clear ox99_1
              have ir101 : IV x99 1 1 := iv_cutL ix99 (iv_c (by decide) : IV 0 0 0) c100 (by decide)
              have ir101a := ir101.1; have ir101b := ir101.2
              clear rlc100
              refine lv_aload_n hx hb dX11_readBorder_75 rfl (lv_at hl 2 rfl) ?_
              refine th_get S hK hH inG11 t0 km_0 rfl 22 (by decide) gm_1252 rfl rfl dX11_readBorder_76 (fun v102 hv102 fv102 => ?_)
              obtain ⟨rf103, rfl, trf103⟩ := th_V.ref hv102
              refine lv_iconst (v := 4) hx hb dX11_readBorder_79 (by decide) ?_
              refine lv_aload_n hx hb dX11_readBorder_80 rfl (lv_at hl 2 rfl) ?_
              refine th_get S hK hH inG11 t0 km_0 rfl 42 (by decide) gm_1272 rfl rfl dX11_readBorder_81 (fun v104 hv104 fv104 => ?_)
              obtain ⟨x105, rfl, ix105⟩ := th_V.int hv104
              have kx105 : x105.toInt = q97 13 := Int.le_antisymm ix105.2 ix105.1
              have bx105 := qkm_13 hqq97
              have ix105 : IV x105 0 1 := iv_w ix105 (qkm_13 hqq97)
              refine lv_imul hx hb dX11_readBorder_84 ?_
              refine lv_topi (fun x106 ex106 => ?_)
              have ix106 : IV x106 0 4 := by rw [ex106]; exact iv_mul (iv_c (by decide) : IV 4 4 4) ix105 (by decide) (by decide)
              have ux106 : x106.toInt = (4 : Int) * x105.toInt := by rw [ex106]; exact iv_mulE (iv_corner ((iv_c (by decide) : IV 4 4 4)).1 ((iv_c (by decide) : IV 4 4 4)).2 (ix105).1 (ix105).2 (by decide))
              refine lv_iload_n hx hb dX11_readBorder_85 rfl (lv_at hl 1 rfl) ?_
              refine lv_iadd hx hb dX11_readBorder_86 ?_
              refine lv_topi (fun x107 ex107 => ?_)
              have ix107 : IV x107 0 7 := by rw [ex107]; exact iv_add ix106 ix3 (by decide)
              have ux107 : x107.toInt = x106.toInt + x3.toInt := by rw [ex107]; exact iv_addE (by have z1 := (ix106).1; have z2 := (ix106).2; have z3 := (ix3).1; have z4 := (ix3).2; omega)
              refine lv_dup2_11 hx hb dX11_readBorder_87 rfl rfl ?_
              refine th_iald S hK hH trf103 km_14 (th_in (hi := 7) ix107 (by decide)) dX11_readBorder_88 (fun v108 hv108 => ?_)
              obtain ⟨x109, rfl, ix109⟩ := th_V.int hv108
              refine lv_iconst (v := 1) hx hb dX11_readBorder_89 (by decide) ?_
              refine lv_iload_n hx hb dX11_readBorder_90 rfl (lv_at hl 0 rfl) ?_
              refine lv_ishl hx hb dX11_readBorder_91 ?_
              refine lv_topi (fun x110 ex110 => ?_)
              have ix110 := iv_top x110
              have ix110 : IV x110 1 1073741824 := by rw [ex110]; exact iv_shl1 (iv_w ix98 (by decide))
              refine lv_ior hx hb dX11_readBorder_92 ?_
              refine lv_topi (fun x111 ex111 => ?_)
              have ix111 := iv_top x111
              refine th_iast S hK hH hS ⟨14, by decide, trf103⟩ trf103 km_14 (th_in (hi := 7) ix107 (by decide)) (th_iv ix111) dX11_readBorder_93 (fun H locs hH hS hq1 => ?_)
              have f112 := fv102.kept (hq1 _ (th_ne t0 trf103 (by decide)))
              refine lv_aload_n hx hb dX11_readBorder_94 rfl (lv_at hl 2 rfl) ?_
              refine th_getK S hK f112 inG11 rfl (by decide) gm_1252 rfl dX11_readBorder_95 ?_
              refine lv_iconst (v := 4) hx hb dX11_readBorder_98 (by decide) ?_
              refine lv_aload_n hx hb dX11_readBorder_99 rfl (lv_at hl 2 rfl) ?_
              refine th_get S hK hH inG11 t0 km_0 rfl 42 (by decide) gm_1272 rfl rfl dX11_readBorder_100 (fun v114 hv114 fv114 => ?_)
              obtain ⟨x115, rfl, ix115⟩ := th_V.int hv114
              have kx115 : x115.toInt = q97 13 := Int.le_antisymm ix115.2 ix115.1
              have bx115 := qkm_13 hqq97
              have ix115 : IV x115 0 1 := iv_w ix115 (qkm_13 hqq97)
              refine lv_imul hx hb dX11_readBorder_103 ?_
              refine lv_topi (fun x116 ex116 => ?_)
              have ix116 : IV x116 0 4 := by rw [ex116]; exact iv_mul (iv_c (by decide) : IV 4 4 4) ix115 (by decide) (by decide)
              have ux116 : x116.toInt = (4 : Int) * x115.toInt := by rw [ex116]; exact iv_mulE (iv_corner ((iv_c (by decide) : IV 4 4 4)).1 ((iv_c (by decide) : IV 4 4 4)).2 (ix115).1 (ix115).2 (by decide))
              refine lv_iload_n hx hb dX11_readBorder_104 rfl (lv_at hl 0 rfl) ?_
              refine lv_iadd hx hb dX11_readBorder_105 ?_
              refine lv_topi (fun x117 ex117 => ?_)
              have ix117 : IV x117 0 7 := by rw [ex117]; exact iv_add ix116 ix98 (by decide)
              have ux117 : x117.toInt = x116.toInt + x98.toInt := by rw [ex117]; exact iv_addE (by have z1 := (ix116).1; have z2 := (ix116).2; have z3 := (ix98).1; have z4 := (ix98).2; omega)
              refine lv_dup2_11 hx hb dX11_readBorder_106 rfl rfl ?_
              refine th_iald S hK hH trf103 km_14 (th_in (hi := 7) ix117 (by decide)) dX11_readBorder_107 (fun v118 hv118 => ?_)
              obtain ⟨x119, rfl, ix119⟩ := th_V.int hv118
              refine lv_iconst (v := 1) hx hb dX11_readBorder_108 (by decide) ?_
              refine lv_iload_n hx hb dX11_readBorder_109 rfl (lv_at hl 1 rfl) ?_
              refine lv_ishl hx hb dX11_readBorder_110 ?_
              refine lv_topi (fun x120 ex120 => ?_)
              have ix120 := iv_top x120
              have ix120 : IV x120 1 1073741824 := by rw [ex120]; exact iv_shl1 (iv_w ix3 (by decide))
              refine lv_ior hx hb dX11_readBorder_111 ?_
              refine lv_topi (fun x121 ex121 => ?_)
              have ix121 := iv_top x121
              refine th_iast S hK hH hS ⟨14, by decide, trf103⟩ trf103 km_14 (th_in (hi := 7) ix117 (by decide)) (th_iv ix121) dX11_readBorder_112 (fun H locs hH hS hq1 => ?_)
              have f122 := f112.kept (hq1 _ (th_ne t0 trf103 (by decide)))
              refine lv_aload_n hx hb dX11_readBorder_113 rfl (lv_at hl 2 rfl) ?_
              refine th_get S hK hH inG11 t0 km_0 rfl 15 (by decide) gm_1245 rfl rfl dX11_readBorder_114 (fun v123 hv123 fv123 => ?_)
              obtain ⟨rf124, rfl, trf124⟩ := th_V.ref hv123
              refine lv_aload_n hx hb dX11_readBorder_117 rfl (lv_at hl 2 rfl) ?_
              refine th_get S hK hH inG11 t0 km_0 rfl 42 (by decide) gm_1272 rfl rfl dX11_readBorder_118 (fun v125 hv125 fv125 => ?_)
              obtain ⟨x126, rfl, ix126⟩ := th_V.int hv125
              have kx126 : x126.toInt = q97 13 := Int.le_antisymm ix126.2 ix126.1
              have bx126 := qkm_13 hqq97
              have ix126 : IV x126 0 1 := iv_w ix126 (qkm_13 hqq97)
              refine lv_dup2_11 hx hb dX11_readBorder_121 rfl rfl ?_
              refine th_iald S hK hH trf124 km_7 (th_in (hi := 1) ix126 (by decide)) dX11_readBorder_122 (fun v127 hv127 => ?_)
              obtain ⟨x128, rfl, ix128⟩ := th_V.int hv127
              refine lv_iconst (v := 1) hx hb dX11_readBorder_123 (by decide) ?_
              refine lv_iadd hx hb dX11_readBorder_124 ?_
              refine lv_topi (fun x129 ex129 => ?_)
              have ix129 := iv_top x129
              refine th_iast S hK hH hS ⟨7, by decide, trf124⟩ trf124 km_7 (th_in (hi := 1) ix126 (by decide)) (th_iv ix129) dX11_readBorder_125 (fun H locs hH hS hq1 => ?_)
              have f130 := f122.kept (hq1 _ (th_ne t0 trf124 (by decide)))
              exact th_vretM S hK hH hS hr hlocks ⟨rfl, hqq97, h0q97, (show TS q97 by exact pq97_0), (show q 27 ≤ q97 27 by omega), (show GD q q97 by exact gdq97)⟩ dX11_readBorder_126
            · skip
              have rlc100 : x99.toInt = (0 : Int) := congrArg Int32.toInt c100
              clear ox99_0
              have ox99_1r := ox99_1 rlc100
              clear ox99_1
              have ir131 : IV x99 0 0 := iv_eL c100 (iv_c (by decide) : IV 0 0 0)
              have ir131a := ir131.1; have ir131b := ir131.2
              exact th_vretM S hK hH hS hr hlocks ⟨rfl, hqq97, h0q97, (show TS q97 by exact pq97_0), (show q 27 ≤ q97 27 by omega), (show GD q q97 by exact gdq97)⟩ dX11_readBorder_74
          · skip
            have rlc95 : x94.toInt = (1 : Int) := congrArg Int32.toInt c95
            have ir132 : IV x94 1 1 := ⟨(iv_eL c95 (iv_c (by decide) : IV 1 1 1)).1, ix94.2⟩
            have ir132a := ir132.1; have ir132b := ir132.2
            refine lv_aload_n hx hb dX11_readBorder_52 rfl (lv_at hl 2 rfl) ?_
            refine lv_iconst (v := 3) hx hb dX11_readBorder_53 (by decide) ?_
            refine lv_aload_n hx hb dX11_readBorder_54 rfl (lv_at hl 2 rfl) ?_
            refine th_get S hK hH inG11 t0 km_0 rfl 6 (by decide) gm_1236 rfl rfl dX11_readBorder_55 (fun v133 hv133 fv133 => ?_)
            obtain ⟨x134, rfl, ix134⟩ := th_V.int hv133
            have kx134 : x134.toInt = q2 27 := Int.le_antisymm ix134.2 ix134.1
            have bx134 := qkm_27 hqq2
            have ix134 : IV x134 0 1600 := iv_w ix134 (qkm_27 hqq2)
            refine th_callVM (n := 2) (As := [.int 3, .int x134]) S hK hH hS (th_A.sub (by decide)) (m_X11_fails l D cT T q2 hT hqq2 a0 t0 (3) (iv_w (iv_c (by decide) : IV 3 3 3) (by decide)) (x134) (iv_top _)) gm_1507 gm_1504 gm_1506 gm_54 gm_124 (by decide +kernel) ⟨rfl, rfl, Nat.le_of_ble_eq_true rfl, Nat.le_of_ble_eq_true rfl⟩ t0 km_0 rfl rfl hl.1 rfl (Nat.le_of_ble_eq_true rfl) dX11_readBorder_58 ⟨Nat.zero_le _, Nat.zero_le _⟩ (fun wq135 q135 H locs hEq135 hH hS hF1 => ?_)
            obtain ⟨rfl, hqq135, g0q135, pq135_0⟩ := hEq135
            show W p l e (rmk 3 65) s m [.ref a0].toArray below meth c H locs 0 0 (MQ below (th_QM D cT T (fun v q2 => v = none ∧ qkm q2 ∧ fr [27, 28, 29, 30, 31] q q2 ∧ (TS q2) ∧ (q 27 ≤ q2 27) ∧ (GD q q2)) [0, 7, 14]) [.ref a0].toArray s 0 0 (th_A T [0, 7, 14])) (F0 m 61 ls [])
            have pq135_0 : 1 ≤ q135 30 := pq135_0
            have wq135_10 : q135 10 = q2 10 := g0q135 10 (by decide) (Or.inl (by decide))
            have wq135_13 : q135 13 = q2 13 := g0q135 13 (by decide) (Or.inl (by decide))
            have wq135_26 : q135 26 = q2 26 := g0q135 26 (by decide) (Or.inl (by decide))
            have wq135_27 : q135 27 = q2 27 := g0q135 27 (by decide) (Or.inl (by decide))
            have wq135_28 : q135 28 = q2 28 := g0q135 28 (by decide) (Or.inl (by decide))
            have wq135_29 : q135 29 = q2 29 := g0q135 29 (by decide) (Or.inl (by decide))
            have wq135_31 : q135 31 = q2 31 := g0q135 31 (by decide) (Or.inl (by decide))
            have h0q135 : fr [27, 28, 29, 30, 31] q q135 := fr_tr h0q2 g0q135 (by decide)
            have bgq135 : bg q q135 := bg_fr bgq2 g0q135 (by decide)
            have gdq135 : GD q q135 := GD_tr gdq2 (GD_no pq135_0)
            have gbq135 : GD q q135 := GD_tr gbq2 (GD_no pq135_0)
            have txq135 : tx q2 q135 := tx_tr tx_rf (tx_bg (bg_fr bg_rf g0q135 (by decide)))
            refine lv_aload_n hx hb dX11_readBorder_61 rfl (lv_at hl 2 rfl) ?_
            refine lv_iload_n hx hb dX11_readBorder_62 rfl (lv_at hl 0 rfl) ?_
            refine th_callVM (n := 1) (As := [.int x7]) S hK hH hS (th_A.sub (by decide)) (m_X11_known_v1 l D cT T q135 hT hqq135 a0 t0 (x7) (iv_w ir45 (by decide)) (show TS q135 by exact (TS_mv pq2_0 txq135 (by omega) (by omega) (by omega) (by omega) (by omega) (fun z => by omega)))) gm_1595 gm_1592 gm_1594 gm_76 gm_124 (by decide +kernel) ⟨rfl, rfl, Nat.le_of_ble_eq_true rfl, Nat.le_of_ble_eq_true rfl⟩ t0 km_0 rfl rfl hl.1 rfl (Nat.le_of_ble_eq_true rfl) dX11_readBorder_63 ⟨Nat.zero_le _, Nat.zero_le _⟩ (fun wq136 q136 H locs hEq136 hH hS hF1 => ?_)
            obtain ⟨x137, rfl, ix137, hqq136, g0q136, pq136_0, pq136_1, pq136_2⟩ := hEq136
            show W p l e (rmk 3 65) s m [.ref a0].toArray below meth c H locs 0 0 (MQ below (th_QM D cT T (fun v q2 => v = none ∧ qkm q2 ∧ fr [27, 28, 29, 30, 31] q q2 ∧ (TS q2) ∧ (q 27 ≤ q2 27) ∧ (GD q q2)) [0, 7, 14]) [.ref a0].toArray s 0 0 (th_A T [0, 7, 14])) (F0 m 66 ls [.int x137])
            have pq136_0 : TS q136 := pq136_0
            have pq136_1 : q135 27 ≤ q136 27 := pq136_1
            have pq136_2 : AD q135 q136 := pq136_2
            have wq136_10 : q136 10 = q135 10 := g0q136 10 (by decide) (Or.inl (by decide))
            have wq136_13 : q136 13 = q135 13 := g0q136 13 (by decide) (Or.inl (by decide))
            have wq136_26 : q136 26 = q135 26 := g0q136 26 (by decide) (Or.inl (by decide))
            have h0q136 : fr [27, 28, 29, 30, 31] q q136 := fr_tr h0q135 g0q136 (by decide)
            have bgq136 : bg q q136 := bg_fr bgq135 g0q136 (by decide)
            have gdq136 : GD q q136 := GD_tr gdq135 (AD_GD pq136_2)
            have gbq136 : GD q q136 := GD_tr gbq135 (AD_GD pq136_2)
            have l1x137 := ix137.1; have l2x137 := ix137.2
            refine lv_istore_n (lv' := [(2, .int x137), (1, .int x3), (0, .ref a0)]) hx hb dX11_readBorder_66 rfl hl (by decide) rfl (fun ls hl => ?_)
            refine lv_aload_n hx hb dX11_readBorder_67 rfl (lv_at hl 2 rfl) ?_
            refine th_callVp (n := 0) (As := []) S hK hH hS (th_A.sub (by decide)) (m_X11_isGood l D cT T q136 hT hqq136 a0 t0) gm_1487 gm_1484 gm_1486 gm_49 gm_124 (by decide +kernel) ⟨rfl, rfl, Nat.le_of_ble_eq_true rfl, Nat.le_of_ble_eq_true rfl⟩ t0 km_0 rfl rfl hl.1 rfl (Nat.le_of_ble_eq_true rfl) dX11_readBorder_68 ⟨Nat.zero_le _, Nat.zero_le _⟩ (fun x138 H locs ix138 ox138 hH hS hF1 => ?_)
            obtain ⟨ox138_0, ox138_1⟩ := ox138
            have ox138_0 : x138.toInt ≠ 0 → q136 30 = 0 := ox138_0
            have ox138_1 : x138.toInt = 0 → 1 ≤ q136 30 := ox138_1
            have l1x138 := ix138.1; have l2x138 := ix138.2
            refine lv_if_ne (tgt := 75) hx hb dX11_readBorder_71 (by decide) (fun c139 => ?_) (fun c139 => ?_)
            · skip
              have rlc139 : x138.toInt ≠ (0 : Int) := iv_ne c139
              have ox138_0r := ox138_0 rlc139
              clear ox138_0
              clear ox138_1
              have ir140 : IV x138 1 1 := iv_cutL ix138 (iv_c (by decide) : IV 0 0 0) c139 (by decide)
              have ir140a := ir140.1; have ir140b := ir140.2
              clear rlc139
              refine lv_aload_n hx hb dX11_readBorder_75 rfl (lv_at hl 2 rfl) ?_
              refine th_get S hK hH inG11 t0 km_0 rfl 22 (by decide) gm_1252 rfl rfl dX11_readBorder_76 (fun v141 hv141 fv141 => ?_)
              obtain ⟨rf142, rfl, trf142⟩ := th_V.ref hv141
              refine lv_iconst (v := 4) hx hb dX11_readBorder_79 (by decide) ?_
              refine lv_aload_n hx hb dX11_readBorder_80 rfl (lv_at hl 2 rfl) ?_
              refine th_get S hK hH inG11 t0 km_0 rfl 42 (by decide) gm_1272 rfl rfl dX11_readBorder_81 (fun v143 hv143 fv143 => ?_)
              obtain ⟨x144, rfl, ix144⟩ := th_V.int hv143
              have kx144 : x144.toInt = q136 13 := Int.le_antisymm ix144.2 ix144.1
              have bx144 := qkm_13 hqq136
              have ix144 : IV x144 0 1 := iv_w ix144 (qkm_13 hqq136)
              refine lv_imul hx hb dX11_readBorder_84 ?_
              refine lv_topi (fun x145 ex145 => ?_)
              have ix145 : IV x145 0 4 := by rw [ex145]; exact iv_mul (iv_c (by decide) : IV 4 4 4) ix144 (by decide) (by decide)
              have ux145 : x145.toInt = (4 : Int) * x144.toInt := by rw [ex145]; exact iv_mulE (iv_corner ((iv_c (by decide) : IV 4 4 4)).1 ((iv_c (by decide) : IV 4 4 4)).2 (ix144).1 (ix144).2 (by decide))
              refine lv_iload_n hx hb dX11_readBorder_85 rfl (lv_at hl 1 rfl) ?_
              refine lv_iadd hx hb dX11_readBorder_86 ?_
              refine lv_topi (fun x146 ex146 => ?_)
              have ix146 : IV x146 0 7 := by rw [ex146]; exact iv_add ix145 ix3 (by decide)
              have ux146 : x146.toInt = x145.toInt + x3.toInt := by rw [ex146]; exact iv_addE (by have z1 := (ix145).1; have z2 := (ix145).2; have z3 := (ix3).1; have z4 := (ix3).2; omega)
              refine lv_dup2_11 hx hb dX11_readBorder_87 rfl rfl ?_
              refine th_iald S hK hH trf142 km_14 (th_in (hi := 7) ix146 (by decide)) dX11_readBorder_88 (fun v147 hv147 => ?_)
              obtain ⟨x148, rfl, ix148⟩ := th_V.int hv147
              refine lv_iconst (v := 1) hx hb dX11_readBorder_89 (by decide) ?_
              refine lv_iload_n hx hb dX11_readBorder_90 rfl (lv_at hl 0 rfl) ?_
              refine lv_ishl hx hb dX11_readBorder_91 ?_
              refine lv_topi (fun x149 ex149 => ?_)
              have ix149 := iv_top x149
              have ix149 : IV x149 1 1073741824 := by rw [ex149]; exact iv_shl1 (iv_w ix137 (by decide))
              refine lv_ior hx hb dX11_readBorder_92 ?_
              refine lv_topi (fun x150 ex150 => ?_)
              have ix150 := iv_top x150
              refine th_iast S hK hH hS ⟨14, by decide, trf142⟩ trf142 km_14 (th_in (hi := 7) ix146 (by decide)) (th_iv ix150) dX11_readBorder_93 (fun H locs hH hS hq1 => ?_)
              have f151 := fv141.kept (hq1 _ (th_ne t0 trf142 (by decide)))
              refine lv_aload_n hx hb dX11_readBorder_94 rfl (lv_at hl 2 rfl) ?_
              refine th_getK S hK f151 inG11 rfl (by decide) gm_1252 rfl dX11_readBorder_95 ?_
              refine lv_iconst (v := 4) hx hb dX11_readBorder_98 (by decide) ?_
              refine lv_aload_n hx hb dX11_readBorder_99 rfl (lv_at hl 2 rfl) ?_
              refine th_get S hK hH inG11 t0 km_0 rfl 42 (by decide) gm_1272 rfl rfl dX11_readBorder_100 (fun v153 hv153 fv153 => ?_)
              obtain ⟨x154, rfl, ix154⟩ := th_V.int hv153
              have kx154 : x154.toInt = q136 13 := Int.le_antisymm ix154.2 ix154.1
              have bx154 := qkm_13 hqq136
              have ix154 : IV x154 0 1 := iv_w ix154 (qkm_13 hqq136)
              refine lv_imul hx hb dX11_readBorder_103 ?_
              refine lv_topi (fun x155 ex155 => ?_)
              have ix155 : IV x155 0 4 := by rw [ex155]; exact iv_mul (iv_c (by decide) : IV 4 4 4) ix154 (by decide) (by decide)
              have ux155 : x155.toInt = (4 : Int) * x154.toInt := by rw [ex155]; exact iv_mulE (iv_corner ((iv_c (by decide) : IV 4 4 4)).1 ((iv_c (by decide) : IV 4 4 4)).2 (ix154).1 (ix154).2 (by decide))
              refine lv_iload_n hx hb dX11_readBorder_104 rfl (lv_at hl 0 rfl) ?_
              refine lv_iadd hx hb dX11_readBorder_105 ?_
              refine lv_topi (fun x156 ex156 => ?_)
              have ix156 : IV x156 0 7 := by rw [ex156]; exact iv_add ix155 ix137 (by decide)
              have ux156 : x156.toInt = x155.toInt + x137.toInt := by rw [ex156]; exact iv_addE (by have z1 := (ix155).1; have z2 := (ix155).2; have z3 := (ix137).1; have z4 := (ix137).2; omega)
              refine lv_dup2_11 hx hb dX11_readBorder_106 rfl rfl ?_
              refine th_iald S hK hH trf142 km_14 (th_in (hi := 7) ix156 (by decide)) dX11_readBorder_107 (fun v157 hv157 => ?_)
              obtain ⟨x158, rfl, ix158⟩ := th_V.int hv157
              refine lv_iconst (v := 1) hx hb dX11_readBorder_108 (by decide) ?_
              refine lv_iload_n hx hb dX11_readBorder_109 rfl (lv_at hl 1 rfl) ?_
              refine lv_ishl hx hb dX11_readBorder_110 ?_
              refine lv_topi (fun x159 ex159 => ?_)
              have ix159 := iv_top x159
              have ix159 : IV x159 1 1073741824 := by rw [ex159]; exact iv_shl1 (iv_w ix3 (by decide))
              refine lv_ior hx hb dX11_readBorder_111 ?_
              refine lv_topi (fun x160 ex160 => ?_)
              have ix160 := iv_top x160
              refine th_iast S hK hH hS ⟨14, by decide, trf142⟩ trf142 km_14 (th_in (hi := 7) ix156 (by decide)) (th_iv ix160) dX11_readBorder_112 (fun H locs hH hS hq1 => ?_)
              have f161 := f151.kept (hq1 _ (th_ne t0 trf142 (by decide)))
              refine lv_aload_n hx hb dX11_readBorder_113 rfl (lv_at hl 2 rfl) ?_
              refine th_get S hK hH inG11 t0 km_0 rfl 15 (by decide) gm_1245 rfl rfl dX11_readBorder_114 (fun v162 hv162 fv162 => ?_)
              obtain ⟨rf163, rfl, trf163⟩ := th_V.ref hv162
              refine lv_aload_n hx hb dX11_readBorder_117 rfl (lv_at hl 2 rfl) ?_
              refine th_get S hK hH inG11 t0 km_0 rfl 42 (by decide) gm_1272 rfl rfl dX11_readBorder_118 (fun v164 hv164 fv164 => ?_)
              obtain ⟨x165, rfl, ix165⟩ := th_V.int hv164
              have kx165 : x165.toInt = q136 13 := Int.le_antisymm ix165.2 ix165.1
              have bx165 := qkm_13 hqq136
              have ix165 : IV x165 0 1 := iv_w ix165 (qkm_13 hqq136)
              refine lv_dup2_11 hx hb dX11_readBorder_121 rfl rfl ?_
              refine th_iald S hK hH trf163 km_7 (th_in (hi := 1) ix165 (by decide)) dX11_readBorder_122 (fun v166 hv166 => ?_)
              obtain ⟨x167, rfl, ix167⟩ := th_V.int hv166
              refine lv_iconst (v := 1) hx hb dX11_readBorder_123 (by decide) ?_
              refine lv_iadd hx hb dX11_readBorder_124 ?_
              refine lv_topi (fun x168 ex168 => ?_)
              have ix168 := iv_top x168
              refine th_iast S hK hH hS ⟨7, by decide, trf163⟩ trf163 km_7 (th_in (hi := 1) ix165 (by decide)) (th_iv ix168) dX11_readBorder_125 (fun H locs hH hS hq1 => ?_)
              have f169 := f161.kept (hq1 _ (th_ne t0 trf163 (by decide)))
              exact th_vretM S hK hH hS hr hlocks ⟨rfl, hqq136, h0q136, (show TS q136 by exact pq136_0), (show q 27 ≤ q136 27 by omega), (show GD q q136 by exact gdq136)⟩ dX11_readBorder_126
            · skip
              have rlc139 : x138.toInt = (0 : Int) := congrArg Int32.toInt c139
              clear ox138_0
              have ox138_1r := ox138_1 rlc139
              clear ox138_1
              have ir170 : IV x138 0 0 := iv_eL c139 (iv_c (by decide) : IV 0 0 0)
              have ir170a := ir170.1; have ir170b := ir170.2
              exact th_vretM S hK hH hS hr hlocks ⟨rfl, hqq136, h0q136, (show TS q136 by exact pq136_0), (show q 27 ≤ q136 27 by omega), (show GD q q136 by exact gdq136)⟩ dX11_readBorder_74
    · skip
      have rlc5 : x4.toInt = (0 : Int) := congrArg Int32.toInt c5
      clear ox4_0
      have ox4_1r := ox4_1 rlc5
      clear ox4_1
      have ir171 : IV x4 0 0 := iv_eL c5 (iv_c (by decide) : IV 0 0 0)
      have ir171a := ir171.1; have ir171b := ir171.2
      exact th_vretM S hK hH hS hr hlocks ⟨rfl, hqq2, h0q2, (show TS q2 by exact pq2_0), (show q 27 ≤ q2 27 by omega), (show GD q q2 by exact gdq2)⟩ dX11_readBorder_16
  exact J0 s.heap [] ls hH va_S.rf hl
