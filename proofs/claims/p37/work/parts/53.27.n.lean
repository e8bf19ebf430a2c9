theorem dX11_readPlace_0 : decode cX11_readPlace 0 = .ok (.bipush 8, 2) := by decide +kernel
theorem dX11_readPlace_2 : decode cX11_readPlace 2 = .ok (.aload_n 0, 1) := by decide +kernel
theorem dX11_readPlace_3 : decode cX11_readPlace 3 = .ok (.getfield 264, 3) := by decide +kernel
theorem dX11_readPlace_6 : decode cX11_readPlace 6 = .ok (.imul, 1) := by decide +kernel
theorem dX11_readPlace_7 : decode cX11_readPlace 7 = .ok (.aload_n 0, 1) := by decide +kernel
theorem dX11_readPlace_8 : decode cX11_readPlace 8 = .ok (.getfield 27, 3) := by decide +kernel
theorem dX11_readPlace_11 : decode cX11_readPlace 11 = .ok (.aload_n 0, 1) := by decide +kernel
theorem dX11_readPlace_12 : decode cX11_readPlace 12 = .ok (.getfield 264, 3) := by decide +kernel
theorem dX11_readPlace_15 : decode cX11_readPlace 15 = .ok (.iaload, 1) := by decide +kernel
theorem dX11_readPlace_16 : decode cX11_readPlace 16 = .ok (.iadd, 1) := by decide +kernel
theorem dX11_readPlace_17 : decode cX11_readPlace 17 = .ok (.istore_n 1, 1) := by decide +kernel
theorem dX11_readPlace_18 : decode cX11_readPlace 18 = .ok (.aload_n 0, 1) := by decide +kernel
theorem dX11_readPlace_19 : decode cX11_readPlace 19 = .ok (.getfield 95, 3) := by decide +kernel
theorem dX11_readPlace_22 : decode cX11_readPlace 22 = .ok (.iload_n 1, 1) := by decide +kernel
theorem dX11_readPlace_23 : decode cX11_readPlace 23 = .ok (.aload_n 0, 1) := by decide +kernel
theorem dX11_readPlace_24 : decode cX11_readPlace 24 = .ok (.aload_n 0, 1) := by decide +kernel
theorem dX11_readPlace_25 : decode cX11_readPlace 25 = .ok (.invokevirtual 323, 3) := by decide +kernel
theorem dX11_readPlace_28 : decode cX11_readPlace 28 = .ok (.invokevirtual 312, 3) := by decide +kernel
theorem dX11_readPlace_31 : decode cX11_readPlace 31 = .ok (.lastore, 1) := by decide +kernel
theorem dX11_readPlace_32 : decode cX11_readPlace 32 = .ok (.aload_n 0, 1) := by decide +kernel
theorem dX11_readPlace_33 : decode cX11_readPlace 33 = .ok (.getfield 57, 3) := by decide +kernel
theorem dX11_readPlace_36 : decode cX11_readPlace 36 = .ok (.iload_n 1, 1) := by decide +kernel
theorem dX11_readPlace_37 : decode cX11_readPlace 37 = .ok (.aload_n 0, 1) := by decide +kernel
theorem dX11_readPlace_38 : decode cX11_readPlace 38 = .ok (.ldc2_w 175, 3) := by decide +kernel
theorem dX11_readPlace_41 : decode cX11_readPlace 41 = .ok (.iconst 1, 1) := by decide +kernel
theorem dX11_readPlace_42 : decode cX11_readPlace 42 = .ok (.bipush 60, 2) := by decide +kernel
theorem dX11_readPlace_44 : decode cX11_readPlace 44 = .ok (.invokevirtual 319, 3) := by decide +kernel
theorem dX11_readPlace_47 : decode cX11_readPlace 47 = .ok (.iastore, 1) := by decide +kernel
theorem dX11_readPlace_48 : decode cX11_readPlace 48 = .ok (.aload_n 0, 1) := by decide +kernel
theorem dX11_readPlace_49 : decode cX11_readPlace 49 = .ok (.getfield 60, 3) := by decide +kernel
theorem dX11_readPlace_52 : decode cX11_readPlace 52 = .ok (.iload_n 1, 1) := by decide +kernel
theorem dX11_readPlace_53 : decode cX11_readPlace 53 = .ok (.aload_n 0, 1) := by decide +kernel
theorem dX11_readPlace_54 : decode cX11_readPlace 54 = .ok (.ldc2_w 177, 3) := by decide +kernel
theorem dX11_readPlace_57 : decode cX11_readPlace 57 = .ok (.iconst 0, 1) := by decide +kernel
theorem dX11_readPlace_58 : decode cX11_readPlace 58 = .ok (.bipush 9, 2) := by decide +kernel
theorem dX11_readPlace_60 : decode cX11_readPlace 60 = .ok (.invokevirtual 319, 3) := by decide +kernel
theorem dX11_readPlace_63 : decode cX11_readPlace 63 = .ok (.iastore, 1) := by decide +kernel
theorem dX11_readPlace_64 : decode cX11_readPlace 64 = .ok (.aload_n 0, 1) := by decide +kernel
theorem dX11_readPlace_65 : decode cX11_readPlace 65 = .ok (.aload_n 0, 1) := by decide +kernel
theorem dX11_readPlace_66 : decode cX11_readPlace 66 = .ok (.ldc2_w 179, 3) := by decide +kernel
theorem dX11_readPlace_69 : decode cX11_readPlace 69 = .ok (.invokevirtual 253, 3) := by decide +kernel
theorem dX11_readPlace_72 : decode cX11_readPlace 72 = .ok (.invokevirtual 256, 3) := by decide +kernel
theorem dX11_readPlace_75 : decode cX11_readPlace 75 = .ok (.aload_n 0, 1) := by decide +kernel
theorem dX11_readPlace_76 : decode cX11_readPlace 76 = .ok (.getfield 63, 3) := by decide +kernel
theorem dX11_readPlace_79 : decode cX11_readPlace 79 = .ok (.iload_n 1, 1) := by decide +kernel
theorem dX11_readPlace_80 : decode cX11_readPlace 80 = .ok (.iconst 0, 1) := by decide +kernel
theorem dX11_readPlace_81 : decode cX11_readPlace 81 = .ok (.iastore, 1) := by decide +kernel
theorem dX11_readPlace_82 : decode cX11_readPlace 82 = .ok (.aload_n 0, 1) := by decide +kernel
theorem dX11_readPlace_83 : decode cX11_readPlace 83 = .ok (.invokevirtual 243, 3) := by decide +kernel
theorem dX11_readPlace_86 : decode cX11_readPlace 86 = .ok (.istore_n 2, 1) := by decide +kernel
theorem dX11_readPlace_87 : decode cX11_readPlace 87 = .ok (.iload_n 2, 1) := by decide +kernel
theorem dX11_readPlace_88 : decode cX11_readPlace 88 = .ok (.ifCond .eq 78, 3) := by decide +kernel
theorem dX11_readPlace_91 : decode cX11_readPlace 91 = .ok (.aload_n 0, 1) := by decide +kernel
theorem dX11_readPlace_92 : decode cX11_readPlace 92 = .ok (.invokevirtual 316, 3) := by decide +kernel
theorem dX11_readPlace_95 : decode cX11_readPlace 95 = .ok (.istore_n 3, 1) := by decide +kernel
theorem dX11_readPlace_96 : decode cX11_readPlace 96 = .ok (.iload_n 3, 1) := by decide +kernel
theorem dX11_readPlace_97 : decode cX11_readPlace 97 = .ok (.ifCond .lt 26, 3) := by decide +kernel
theorem dX11_readPlace_100 : decode cX11_readPlace 100 = .ok (.aload_n 0, 1) := by decide +kernel
theorem dX11_readPlace_101 : decode cX11_readPlace 101 = .ok (.getfield 63, 3) := by decide +kernel
theorem dX11_readPlace_104 : decode cX11_readPlace 104 = .ok (.iload_n 1, 1) := by decide +kernel
theorem dX11_readPlace_105 : decode cX11_readPlace 105 = .ok (.iaload, 1) := by decide +kernel
theorem dX11_readPlace_106 : decode cX11_readPlace 106 = .ok (.iload_n 3, 1) := by decide +kernel
theorem dX11_readPlace_107 : decode cX11_readPlace 107 = .ok (.ishr, 1) := by decide +kernel
theorem dX11_readPlace_108 : decode cX11_readPlace 108 = .ok (.iconst 1, 1) := by decide +kernel
theorem dX11_readPlace_109 : decode cX11_readPlace 109 = .ok (.iand, 1) := by decide +kernel
theorem dX11_readPlace_110 : decode cX11_readPlace 110 = .ok (.iconst 1, 1) := by decide +kernel
theorem dX11_readPlace_111 : decode cX11_readPlace 111 = .ok (.if_icmp .ne 12, 3) := by decide +kernel
theorem dX11_readPlace_114 : decode cX11_readPlace 114 = .ok (.aload_n 0, 1) := by decide +kernel
theorem dX11_readPlace_115 : decode cX11_readPlace 115 = .ok (.iconst 3, 1) := by decide +kernel
theorem dX11_readPlace_116 : decode cX11_readPlace 116 = .ok (.aload_n 0, 1) := by decide +kernel
theorem dX11_readPlace_117 : decode cX11_readPlace 117 = .ok (.getfield 208, 3) := by decide +kernel
theorem dX11_readPlace_120 : decode cX11_readPlace 120 = .ok (.invokevirtual 239, 3) := by decide +kernel
theorem dX11_readPlace_123 : decode cX11_readPlace 123 = .ok (.aload_n 0, 1) := by decide +kernel
theorem dX11_readPlace_124 : decode cX11_readPlace 124 = .ok (.iload_n 3, 1) := by decide +kernel
theorem dX11_readPlace_125 : decode cX11_readPlace 125 = .ok (.invokevirtual 326, 3) := by decide +kernel
theorem dX11_readPlace_128 : decode cX11_readPlace 128 = .ok (.istore_n 3, 1) := by decide +kernel
theorem dX11_readPlace_129 : decode cX11_readPlace 129 = .ok (.aload_n 0, 1) := by decide +kernel
theorem dX11_readPlace_130 : decode cX11_readPlace 130 = .ok (.invokevirtual 243, 3) := by decide +kernel
theorem dX11_readPlace_133 : decode cX11_readPlace 133 = .ok (.ifCond .ne 4, 3) := by decide +kernel
theorem dX11_readPlace_136 : decode cX11_readPlace 136 = .ok (.return_, 1) := by decide +kernel
theorem dX11_readPlace_137 : decode cX11_readPlace 137 = .ok (.aload_n 0, 1) := by decide +kernel
theorem dX11_readPlace_138 : decode cX11_readPlace 138 = .ok (.getfield 63, 3) := by decide +kernel
theorem dX11_readPlace_141 : decode cX11_readPlace 141 = .ok (.iload_n 1, 1) := by decide +kernel
theorem dX11_readPlace_142 : decode cX11_readPlace 142 = .ok (.dup2, 1) := by decide +kernel
theorem dX11_readPlace_143 : decode cX11_readPlace 143 = .ok (.iaload, 1) := by decide +kernel
theorem dX11_readPlace_144 : decode cX11_readPlace 144 = .ok (.iconst 1, 1) := by decide +kernel
theorem dX11_readPlace_145 : decode cX11_readPlace 145 = .ok (.iload_n 3, 1) := by decide +kernel
theorem dX11_readPlace_146 : decode cX11_readPlace 146 = .ok (.ishl, 1) := by decide +kernel
theorem dX11_readPlace_147 : decode cX11_readPlace 147 = .ok (.ior, 1) := by decide +kernel
theorem dX11_readPlace_148 : decode cX11_readPlace 148 = .ok (.iastore, 1) := by decide +kernel
theorem dX11_readPlace_149 : decode cX11_readPlace 149 = .ok (.aload_n 0, 1) := by decide +kernel
theorem dX11_readPlace_150 : decode cX11_readPlace 150 = .ok (.getfield 215, 3) := by decide +kernel
theorem dX11_readPlace_153 : decode cX11_readPlace 153 = .ok (.iconst 2, 1) := by decide +kernel
theorem dX11_readPlace_154 : decode cX11_readPlace 154 = .ok (.if_icmp .ne 7, 3) := by decide +kernel
theorem dX11_readPlace_157 : decode cX11_readPlace 157 = .ok (.iconst 1, 1) := by decide +kernel
theorem dX11_readPlace_158 : decode cX11_readPlace 158 = .ok (.goto 4, 3) := by decide +kernel
theorem dX11_readPlace_161 : decode cX11_readPlace 161 = .ok (.iconst 0, 1) := by decide +kernel
theorem dX11_readPlace_162 : decode cX11_readPlace 162 = .ok (.istore_n 2, 1) := by decide +kernel
theorem dX11_readPlace_163 : decode cX11_readPlace 163 = .ok (.goto (-76), 3) := by decide +kernel
theorem dX11_readPlace_166 : decode cX11_readPlace 166 = .ok (.aload_n 0, 1) := by decide +kernel
theorem dX11_readPlace_167 : decode cX11_readPlace 167 = .ok (.getfield 27, 3) := by decide +kernel
theorem dX11_readPlace_170 : decode cX11_readPlace 170 = .ok (.aload_n 0, 1) := by decide +kernel
theorem dX11_readPlace_171 : decode cX11_readPlace 171 = .ok (.getfield 264, 3) := by decide +kernel
theorem dX11_readPlace_174 : decode cX11_readPlace 174 = .ok (.dup2, 1) := by decide +kernel
theorem dX11_readPlace_175 : decode cX11_readPlace 175 = .ok (.iaload, 1) := by decide +kernel
theorem dX11_readPlace_176 : decode cX11_readPlace 176 = .ok (.iconst 1, 1) := by decide +kernel
theorem dX11_readPlace_177 : decode cX11_readPlace 177 = .ok (.iadd, 1) := by decide +kernel
theorem dX11_readPlace_178 : decode cX11_readPlace 178 = .ok (.iastore, 1) := by decide +kernel
theorem dX11_readPlace_179 : decode cX11_readPlace 179 = .ok (.return_, 1) := by decide +kernel
set_option maxHeartbeats 20000000 in
set_option maxRecDepth 100000 in
theorem m_X11_known_v2 (l : Launch) (D : va_G) (cT : Nat → ClassId) (T : Nat → Option Nat) (q : Nat → Int) (hT : tokm T) (hq : qkm q) (a0 : Nat) (t0 : T a0 = some 0) (y1 : Int32) (j1 : IV y1 (-1) 7) (hp0 : TS q) : th_MetM l D cT T q yX11_known cX11_known 2 (some .int) (rmk 2 44) [.ref a0, .int y1] (fun v q2 => ∃ r : Int32, v = some (.int r) ∧ IV r 0 7 ∧ qkm q2 ∧ fr [27, 28, 29, 30, 31] q q2 ∧ (TS q2) ∧ (q 27 ≤ q2 27) ∧ (AD q q2)) [0] := by
  refine th_startM (by decide) (Nat.le_of_ble_eq_true rfl) ?_
  intro p e s m below meth c ls S hK hH hr hlocks hnm hl
  have hx := S.1
  have hb := S.2.1
  have l1y1 := j1.1; have l2y1 := j1.2
  have le0 := TS_le hp0
  have hl : lv_has ls 2 [(0, .ref a0), (1, .int y1)] := hl
  have J0 : ∀ (H : Heap) (locs : List Loc) (ls : Array Slot), th_H D cT T (km q) H → va_S (th_A T [0]) s.heap H locs → lv_has ls 2 [(0, .ref a0), (1, .int y1)] → W p l e (rmk 2 44) s m [.ref a0, .int y1].toArray below meth c H locs 0 0 (MQ below (th_QM D cT T (fun v q2 => ∃ r : Int32, v = some (.int r) ∧ IV r 0 7 ∧ qkm q2 ∧ fr [27, 28, 29, 30, 31] q q2 ∧ (TS q2) ∧ (q 27 ≤ q2 27) ∧ (AD q q2)) [0]) [.ref a0, .int y1].toArray s 0 0 (th_A T [0])) (F0 m 0 ls []) := by
    intro H locs ls hH hS hl
    refine lv_aload_n hx hb dX11_known_0 rfl (lv_at hl 0 rfl) ?_
    refine th_callVp (n := 0) (As := []) S hK hH hS (th_A.sub (by decide)) (m_X11_isGood l D cT T q hT hq a0 t0) gm_1487 gm_1484 gm_1486 gm_49 gm_124 (by decide +kernel) ⟨rfl, rfl, Nat.le_of_ble_eq_true rfl, Nat.le_of_ble_eq_true rfl⟩ t0 km_0 rfl rfl hl.1 rfl (Nat.le_of_ble_eq_true rfl) dX11_known_1 ⟨Nat.zero_le _, Nat.zero_le _⟩ (fun x1 H locs ix1 ox1 hH hS hF1 => ?_)
    obtain ⟨ox1_0, ox1_1⟩ := ox1
    have ox1_0 : x1.toInt ≠ 0 → q 30 = 0 := ox1_0
    have ox1_1 : x1.toInt = 0 → 1 ≤ q 30 := ox1_1
    have l1x1 := ix1.1; have l2x1 := ix1.2
    refine lv_if_ne (tgt := 9) hx hb dX11_known_4 (by decide) (fun c2 => ?_) (fun c2 => ?_)
    · skip
      have rlc2 : x1.toInt ≠ (0 : Int) := iv_ne c2
      have ox1_0r := ox1_0 rlc2
      clear ox1_0
      clear ox1_1
      have ir3 : IV x1 1 1 := iv_cutL ix1 (iv_c (by decide) : IV 0 0 0) c2 (by decide)
      have ir3a := ir3.1; have ir3b := ir3.2
      clear rlc2
      refine lv_aload_n hx hb dX11_known_9 rfl (lv_at hl 0 rfl) ?_
      refine th_get S hK hH inG11 t0 km_0 rfl 8 (by decide) gm_1238 rfl rfl dX11_known_10 (fun v4 hv4 fv4 => ?_)
      obtain ⟨x5, rfl, ix5⟩ := th_V.int hv4
      have kx5 : x5.toInt = q 29 := Int.le_antisymm ix5.2 ix5.1
      have bx5 := qkm_29 hq
      have ix5 : IV x5 0 5 := iv_w ix5 (qkm_29 hq)
      refine lv_iconst (v := 2) hx hb dX11_known_13 (by decide) ?_
      refine lv_icmp_eq (tgt := 24) hx hb dX11_known_14 (by decide) (fun c6 => ?_) (fun c6 => ?_)
      · skip
        have rlc6 : x5.toInt = (2 : Int) := congrArg Int32.toInt c6
        have ir7 : IV x5 2 2 := iv_eL c6 (iv_c (by decide) : IV 2 2 2)
        have ir7a := ir7.1; have ir7b := ir7.2
        refine lv_iload_n hx hb dX11_known_24 rfl (lv_at hl 1 rfl) ?_
        refine lv_if_ge (tgt := 40) hx hb dX11_known_25 (by decide) (fun c8 => ?_) (fun c8 => ?_)
        · skip
          have rlc8 : (0 : Int) ≤ y1.toInt := iv_le c8
          have ir9 : IV y1 0 7 := iv_vR (iv_c (by decide) : IV 0 0 0) j1 (iv_le c8) (by decide)
          have ir9a := ir9.1; have ir9b := ir9.2
          refine lv_aload_n hx hb dX11_known_40 rfl (lv_at hl 0 rfl) ?_
          have le9 := TS_le hp0
          refine th_callVM (n := 0) (As := []) S hK hH hS (th_A.sub (by decide)) (m_X11_goOn l D cT T q hT hq a0 t0 (show q 28 ≤ q 26 by exact (TS_le hp0).2)) gm_1445 gm_1442 gm_1444 gm_47 gm_124 (by decide +kernel) ⟨rfl, rfl, Nat.le_of_ble_eq_true rfl, Nat.le_of_ble_eq_true rfl⟩ t0 km_0 rfl rfl hl.1 rfl (Nat.le_of_ble_eq_true rfl) dX11_known_41 ⟨Nat.zero_le _, Nat.zero_le _⟩ (fun wq10 q10 H locs hEq10 hH hS hF1 => ?_)
          obtain ⟨rfl, hqq10, g0q10, pq10_0, pq10_1, pq10_2⟩ := hEq10
          show W p l e (rmk 2 44) s m [.ref a0, .int y1].toArray below meth c H locs 0 0 (MQ below (th_QM D cT T (fun v q2 => ∃ r : Int32, v = some (.int r) ∧ IV r 0 7 ∧ qkm q2 ∧ fr [27, 28, 29, 30, 31] q q2 ∧ (TS q2) ∧ (q 27 ≤ q2 27) ∧ (AD q q2)) [0]) [.ref a0, .int y1].toArray s 0 0 (th_A T [0])) (F0 m 44 ls [])
          have pq10_0 : TS q10 := pq10_0
          have pq10_1 : q 28 ≤ q10 27 := pq10_1
          have pq10_2 : LX q q10 := pq10_2
          have wq10_26 : q10 26 = q 26 := g0q10 26 (by decide) (Or.inl (by decide))
          have wq10_30 : q10 30 = q 30 := g0q10 30 (by decide) (Or.inl (by decide))
          have h0q10 : fr [27, 28, 29, 30, 31] q q10 := fr_tr fr_rf g0q10 (by decide)
          have bgq10 : bg q q10 := bg_fr bg_rf g0q10 (by decide)
          have gdq10 : GD q q10 := GD_tr (GD_eq rfl) (GD_eq wq10_30)
          have gbq10 : GD q q10 := GD_tr (GD_eq rfl) (GD_eq wq10_30)
          refine lv_iload_n hx hb dX11_known_44 rfl (lv_at hl 1 rfl) ?_
          refine lv_if_ge (tgt := 52) hx hb dX11_known_45 (by decide) (fun c11 => ?_) (fun c11 => ?_)
          · skip
            have rlc11 : (0 : Int) ≤ y1.toInt := iv_le c11
            refine lv_iload_n hx hb dX11_known_52 rfl (lv_at hl 1 rfl) ?_
            exact th_iretM S hK hH hS hr hlocks ⟨_, rfl, ir9, hqq10, h0q10, (show TS q10 by exact pq10_0), (show q 27 ≤ q10 27 by omega), (show AD q q10 by first | exact AD_of (by omega) (by omega) (by omega) | exact AD_no (by omega))⟩ dX11_known_53
          · skip
            have rlc11 : y1.toInt < (0 : Int) := iv_nle c11
            exfalso
            have z1 := iv_nle c11
            have z2 := (ir9).1
            have z3 := (ir9).2
            have z4 := ((iv_c (by decide) : IV 0 0 0)).1
            have z5 := ((iv_c (by decide) : IV 0 0 0)).2
            omega
        · skip
          have rlc8 : y1.toInt < (0 : Int) := iv_nle c8
          have ir12 : IV y1 (-1) (-1) := iv_uL j1 (iv_c (by decide) : IV 0 0 0) (iv_nle c8) (by decide)
          have ir12a := ir12.1; have ir12b := ir12.2
          refine lv_aload_n hx hb dX11_known_28 rfl (lv_at hl 0 rfl) ?_
          refine lv_iconst (v := 5) hx hb dX11_known_29 (by decide) ?_
          refine lv_aload_n hx hb dX11_known_30 rfl (lv_at hl 0 rfl) ?_
          refine th_get S hK hH inG11 t0 km_0 rfl 6 (by decide) gm_1236 rfl rfl dX11_known_31 (fun v13 hv13 fv13 => ?_)
          obtain ⟨x14, rfl, ix14⟩ := th_V.int hv13
          have kx14 : x14.toInt = q 27 := Int.le_antisymm ix14.2 ix14.1
          have bx14 := qkm_27 hq
          have ix14 : IV x14 0 1600 := iv_w ix14 (qkm_27 hq)
          refine th_callVM (n := 2) (As := [.int 5, .int x14]) S hK hH hS (th_A.sub (by decide)) (m_X11_fails l D cT T q hT hq a0 t0 (5) (iv_w (iv_c (by decide) : IV 5 5 5) (by decide)) (x14) (iv_top _)) gm_1507 gm_1504 gm_1506 gm_54 gm_124 (by decide +kernel) ⟨rfl, rfl, Nat.le_of_ble_eq_true rfl, Nat.le_of_ble_eq_true rfl⟩ t0 km_0 rfl rfl hl.1 rfl (Nat.le_of_ble_eq_true rfl) dX11_known_34 ⟨Nat.zero_le _, Nat.zero_le _⟩ (fun wq15 q15 H locs hEq15 hH hS hF1 => ?_)
          obtain ⟨rfl, hqq15, g0q15, pq15_0⟩ := hEq15
          show W p l e (rmk 2 44) s m [.ref a0, .int y1].toArray below meth c H locs 0 0 (MQ below (th_QM D cT T (fun v q2 => ∃ r : Int32, v = some (.int r) ∧ IV r 0 7 ∧ qkm q2 ∧ fr [27, 28, 29, 30, 31] q q2 ∧ (TS q2) ∧ (q 27 ≤ q2 27) ∧ (AD q q2)) [0]) [.ref a0, .int y1].toArray s 0 0 (th_A T [0])) (F0 m 37 ls [])
          have pq15_0 : 1 ≤ q15 30 := pq15_0
          have wq15_26 : q15 26 = q 26 := g0q15 26 (by decide) (Or.inl (by decide))
          have wq15_27 : q15 27 = q 27 := g0q15 27 (by decide) (Or.inl (by decide))
          have wq15_28 : q15 28 = q 28 := g0q15 28 (by decide) (Or.inl (by decide))
          have wq15_29 : q15 29 = q 29 := g0q15 29 (by decide) (Or.inl (by decide))
          have wq15_31 : q15 31 = q 31 := g0q15 31 (by decide) (Or.inl (by decide))
          have h0q15 : fr [27, 28, 29, 30, 31] q q15 := fr_tr fr_rf g0q15 (by decide)
          have bgq15 : bg q q15 := bg_fr bg_rf g0q15 (by decide)
          have gdq15 : GD q q15 := GD_tr (GD_eq rfl) (GD_no pq15_0)
          have gbq15 : GD q q15 := GD_tr (GD_eq rfl) (GD_no pq15_0)
          have txq15 : tx q q15 := tx_tr tx_rf (tx_bg (bg_fr bg_rf g0q15 (by decide)))
          refine lv_goto (tgt := 44) hx hb dX11_known_37 (by decide) ?_
          refine lv_iload_n hx hb dX11_known_44 rfl (lv_at hl 1 rfl) ?_
          refine lv_if_ge (tgt := 52) hx hb dX11_known_45 (by decide) (fun c16 => ?_) (fun c16 => ?_)
          · skip
            have rlc16 : (0 : Int) ≤ y1.toInt := iv_le c16
            exfalso
            have z1 := iv_le c16
            have z2 := (ir12).1
            have z3 := (ir12).2
            have z4 := ((iv_c (by decide) : IV 0 0 0)).1
            have z5 := ((iv_c (by decide) : IV 0 0 0)).2
            omega
          · skip
            have rlc16 : y1.toInt < (0 : Int) := iv_nle c16
            refine lv_iconst (v := 0) hx hb dX11_known_48 (by decide) ?_
            refine lv_goto (tgt := 53) hx hb dX11_known_49 (by decide) ?_
            exact th_iretM S hK hH hS hr hlocks ⟨_, rfl, (iv_w (iv_c (by decide) : IV 0 0 0) (by decide)), hqq15, h0q15, (show TS q15 by exact (TS_mv hp0 txq15 (by omega) (by omega) (by omega) (by omega) (by omega) (fun z => by omega))), (show q 27 ≤ q15 27 by omega), (show AD q q15 by first | exact AD_of (by omega) (by omega) (by omega) | exact AD_no (by omega))⟩ dX11_known_53
      · skip
        have rlc6 : x5.toInt ≠ (2 : Int) := iv_ne c6
        clear rlc6
        refine lv_aload_n hx hb dX11_known_17 rfl (lv_at hl 0 rfl) ?_
        refine th_callVM (n := 0) (As := []) S hK hH hS (th_A.sub (by decide)) (m_X11_misplaced l D cT T q hT hq a0 t0) gm_1503 gm_1500 gm_1502 gm_53 gm_124 (by decide +kernel) ⟨rfl, rfl, Nat.le_of_ble_eq_true rfl, Nat.le_of_ble_eq_true rfl⟩ t0 km_0 rfl rfl hl.1 rfl (Nat.le_of_ble_eq_true rfl) dX11_known_18 ⟨Nat.zero_le _, Nat.zero_le _⟩ (fun wq17 q17 H locs hEq17 hH hS hF1 => ?_)
        obtain ⟨rfl, hqq17, g0q17, pq17_0⟩ := hEq17
        show W p l e (rmk 2 44) s m [.ref a0, .int y1].toArray below meth c H locs 0 0 (MQ below (th_QM D cT T (fun v q2 => ∃ r : Int32, v = some (.int r) ∧ IV r 0 7 ∧ qkm q2 ∧ fr [27, 28, 29, 30, 31] q q2 ∧ (TS q2) ∧ (q 27 ≤ q2 27) ∧ (AD q q2)) [0]) [.ref a0, .int y1].toArray s 0 0 (th_A T [0])) (F0 m 21 ls [])
        have pq17_0 : 1 ≤ q17 30 := pq17_0
        have wq17_26 : q17 26 = q 26 := g0q17 26 (by decide) (Or.inl (by decide))
        have wq17_27 : q17 27 = q 27 := g0q17 27 (by decide) (Or.inl (by decide))
        have wq17_28 : q17 28 = q 28 := g0q17 28 (by decide) (Or.inl (by decide))
        have wq17_29 : q17 29 = q 29 := g0q17 29 (by decide) (Or.inl (by decide))
        have wq17_31 : q17 31 = q 31 := g0q17 31 (by decide) (Or.inl (by decide))
        have h0q17 : fr [27, 28, 29, 30, 31] q q17 := fr_tr fr_rf g0q17 (by decide)
        have bgq17 : bg q q17 := bg_fr bg_rf g0q17 (by decide)
        have gdq17 : GD q q17 := GD_tr (GD_eq rfl) (GD_no pq17_0)
        have gbq17 : GD q q17 := GD_tr (GD_eq rfl) (GD_no pq17_0)
        have txq17 : tx q q17 := tx_tr tx_rf (tx_bg (bg_fr bg_rf g0q17 (by decide)))
        refine lv_goto (tgt := 44) hx hb dX11_known_21 (by decide) ?_
        refine lv_iload_n hx hb dX11_known_44 rfl (lv_at hl 1 rfl) ?_
        refine lv_if_ge (tgt := 52) hx hb dX11_known_45 (by decide) (fun c18 => ?_) (fun c18 => ?_)
        · skip
          have rlc18 : (0 : Int) ≤ y1.toInt := iv_le c18
          have ir19 : IV y1 0 7 := iv_vR (iv_c (by decide) : IV 0 0 0) j1 (iv_le c18) (by decide)
          have ir19a := ir19.1; have ir19b := ir19.2
          refine lv_iload_n hx hb dX11_known_52 rfl (lv_at hl 1 rfl) ?_
          exact th_iretM S hK hH hS hr hlocks ⟨_, rfl, ir19, hqq17, h0q17, (show TS q17 by exact (TS_mv hp0 txq17 (by omega) (by omega) (by omega) (by omega) (by omega) (fun z => by omega))), (show q 27 ≤ q17 27 by omega), (show AD q q17 by first | exact AD_of (by omega) (by omega) (by omega) | exact AD_no (by omega))⟩ dX11_known_53
        · skip
          have rlc18 : y1.toInt < (0 : Int) := iv_nle c18
          have ir20 : IV y1 (-1) (-1) := iv_uL j1 (iv_c (by decide) : IV 0 0 0) (iv_nle c18) (by decide)
          have ir20a := ir20.1; have ir20b := ir20.2
          refine lv_iconst (v := 0) hx hb dX11_known_48 (by decide) ?_
          refine lv_goto (tgt := 53) hx hb dX11_known_49 (by decide) ?_
          exact th_iretM S hK hH hS hr hlocks ⟨_, rfl, (iv_w (iv_c (by decide) : IV 0 0 0) (by decide)), hqq17, h0q17, (show TS q17 by exact (TS_mv hp0 txq17 (by omega) (by omega) (by omega) (by omega) (by omega) (fun z => by omega))), (show q 27 ≤ q17 27 by omega), (show AD q q17 by first | exact AD_of (by omega) (by omega) (by omega) | exact AD_no (by omega))⟩ dX11_known_53
    · skip
      have rlc2 : x1.toInt = (0 : Int) := congrArg Int32.toInt c2
      clear ox1_0
      have ox1_1r := ox1_1 rlc2
      clear ox1_1
      have ir21 : IV x1 0 0 := iv_eL c2 (iv_c (by decide) : IV 0 0 0)
      have ir21a := ir21.1; have ir21b := ir21.2
      refine lv_iconst (v := 0) hx hb dX11_known_7 (by decide) ?_
      exact th_iretM S hK hH hS hr hlocks ⟨_, rfl, (iv_w (iv_c (by decide) : IV 0 0 0) (by decide)), hq, fr_rf, (show TS q by exact hp0), (show q 27 ≤ q 27 by omega), (show AD q q by first | exact AD_of (by omega) (by omega) (by omega) | exact AD_no (by omega))⟩ dX11_known_8
  exact J0 s.heap [] ls hH va_S.rf hl

set_option maxHeartbeats 20000000 in
set_option maxRecDepth 100000 in
theorem J87_X11_readPlace (l : Launch) (D : va_G) (cT : Nat → ClassId) (T : Nat → Option Nat) (q : Nat → Int) (hT : tokm T) (hq : qkm q) (a0 : Nat) (t0 : T a0 = some 0) (hp0 : TS q) (hp1 : q 13 = 1 - q 10) (hp2 : q 19 ≤ 7) (p : Program) (e : Env) (s : State) (m : MethodId) (below : List Frame) (meth : Method) (c : Code) (S : CallFix p m c cX11_readPlace 4 s [.ref a0].toArray gw yX11_readPlace.cls) (hK : va_K D classes (th_tys cT) s) (hr : meth.sig.returnType = none) (hlocks : meth.locks = false) : ∀ (n : Nat) (q87 : Nat → Int) (H : Heap) (locs : List Loc) (ls : Array Slot) (v87_1 : Int32) (v87_2 : Int32), qkm q87 → fr [19, 27, 28, 29, 30, 31] q q87 → IV v87_1 0 15 → IV v87_2 0 1 → (TS q87) → (q 27 ≤ q87 27) → (GD q q87) → (q87 19 = q 19) → th_H D cT T (km q87) H → va_S (th_A T [0, 5, 15, 16, 17, 27]) s.heap H locs → lv_has ls 4 [(0, .ref a0), (1, .int v87_1), (2, .int v87_2)] → (1601 - q87 27).toNat < n → W p l e (rmk 4 91) s m [.ref a0].toArray below meth c H locs 0 0 (MQ below (th_QM D cT T (fun v q2 => v = none ∧ qkm q2 ∧ fr [19, 27, 28, 29, 30, 31] q q2 ∧ (TS q2) ∧ (q 27 ≤ q2 27) ∧ (GD q q2)) [0, 5, 15, 16, 17, 27]) [.ref a0].toArray s 0 0 (th_A T [0, 5, 15, 16, 17, 27])) (F0 m 87 ls []) := by
    have hx := S.1
    have hb := S.2.1
    intro n
    induction n with
    | zero => intro q87 H locs ls v87_1 v87_2 hq87 h087 iv87_1 iv87_2 v87_inv0 v87_inv1 v87_inv2 v87_inv3 hH hS hl hn; exact absurd hn (Nat.not_lt_zero _)
    | succ n ih87 =>
      intro q87 H locs ls v87_1 v87_2 hq87 h087 iv87_1 iv87_2 v87_inv0 v87_inv1 v87_inv2 v87_inv3 hH hS hl hn87
      have w87_10 : q87 10 = q 10 := h087 10 (by decide) (Or.inl (by decide))
      have w87_13 : q87 13 = q 13 := h087 13 (by decide) (Or.inl (by decide))
      have w87_26 : q87 26 = q 26 := h087 26 (by decide) (Or.inl (by decide))
      have b27 := qkm_27 hq87; have le0 := TS_le v87_inv0
      have l1v87_1 := iv87_1.1; have l2v87_1 := iv87_1.2
      have l1v87_2 := iv87_2.1; have l2v87_2 := iv87_2.2
      refine lv_iload_n hx hb dX11_readPlace_87 rfl (lv_at hl 2 rfl) ?_
      refine lv_if_eq (tgt := 166) hx hb dX11_readPlace_88 (by decide) (fun c1 => ?_) (fun c1 => ?_)
      · skip
        have rlc1 : v87_2.toInt = (0 : Int) := congrArg Int32.toInt c1
        have ir2 : IV v87_2 0 0 := iv_eL c1 (iv_c (by decide) : IV 0 0 0)
        have ir2a := ir2.1; have ir2b := ir2.2
        refine lv_aload_n hx hb dX11_readPlace_166 rfl (lv_at hl 0 rfl) ?_
        refine th_get S hK hH inG11 t0 km_0 rfl 13 (by decide) gm_1243 rfl rfl dX11_readPlace_167 (fun v3 hv3 fv3 => ?_)
        obtain ⟨rf4, rfl, trf4⟩ := th_V.ref hv3
        refine lv_aload_n hx hb dX11_readPlace_170 rfl (lv_at hl 0 rfl) ?_
        refine th_get S hK hH inG11 t0 km_0 rfl 42 (by decide) gm_1272 rfl rfl dX11_readPlace_171 (fun v5 hv5 fv5 => ?_)
        obtain ⟨x6, rfl, ix6⟩ := th_V.int hv5
        have kx6 : x6.toInt = q87 13 := Int.le_antisymm ix6.2 ix6.1
        have bx6 := qkm_13 hq87
        have ix6 : IV x6 0 1 := iv_w ix6 (qkm_13 hq87)
        refine lv_dup2_11 hx hb dX11_readPlace_174 rfl rfl ?_
        refine th_iald S hK hH trf4 km_5 (th_in (hi := 1) ix6 (by decide)) dX11_readPlace_175 (fun v7 hv7 => ?_)
        obtain ⟨x8, rfl, ix8⟩ := th_bkB hv7 ix6 (by omega)
        have kx8 : x8.toInt = q87 19 := Int.le_antisymm ix8.2 ix8.1
        have bx8 := qkm_19 hq87
        have ix8 : IV x8 0 8 := iv_w ix8 (qkm_19 hq87)
        refine lv_iconst (v := 1) hx hb dX11_readPlace_176 (by decide) ?_
        refine lv_iadd hx hb dX11_readPlace_177 ?_
        refine lv_topi (fun x9 ex9 => ?_)
        have ix9 : IV x9 1 9 := by rw [ex9]; exact iv_add ix8 (iv_c (by decide) : IV 1 1 1) (by decide)
        have ux9 : x9.toInt = x8.toInt + (1 : Int) := by rw [ex9]; exact iv_addE (by have z1 := (ix8).1; have z2 := (ix8).2; have z3 := ((iv_c (by decide) : IV 1 1 1)).1; have z4 := ((iv_c (by decide) : IV 1 1 1)).2; omega)
        obtain ⟨n10, en10⟩ : ∃ z : Int, z = Int32.toInt x9 := ⟨_, rfl⟩
        refine mst_5 S hK hH hS ⟨5, by decide, trf4⟩ hT trf4 en10 (qkm_10 hq87) ix6 (by omega) dX11_readPlace_178 (fun q11 H locs eq11 hH hS hq1 => ?_)
        have hqq11 : qkm q11 := by rw [eq11]; exact qum_ok19 hq87 (by have z1 := (ix9).1; have z2 := (ix9).2; exact ⟨by omega, by omega⟩)
        have h0q11 : fr [19, 27, 28, 29, 30, 31] q q11 := by rw [eq11]; exact fr_up h087 (by decide)
        have wq11_10 : q11 10 = q87 10 := by rw [eq11]; rfl
        have wq11_13 : q11 13 = q87 13 := by rw [eq11]; rfl
        have wq11_19 : q11 19 = q87 19 + (1 : Int) := by rw [show q11 19 = n10 by rw [eq11]; rfl, en10, ux9, kx8]
        have wq11_26 : q11 26 = q87 26 := by rw [eq11]; rfl
        have wq11_27 : q11 27 = q87 27 := by rw [eq11]; rfl
        have wq11_28 : q11 28 = q87 28 := by rw [eq11]; rfl
        have wq11_29 : q11 29 = q87 29 := by rw [eq11]; rfl
        have wq11_30 : q11 30 = q87 30 := by rw [eq11]; rfl
        have wq11_31 : q11 31 = q87 31 := by rw [eq11]; rfl
        have bgq11 : bg q87 q11 := bg_up bg_rf eq11 (by decide)
        have gdq11 : GD q q11 := GD_tr v87_inv2 (GD_eq wq11_30)
        have gbq11 : GD q87 q11 := GD_tr (GD_eq rfl) (GD_eq wq11_30)
        have txq11 : tx q87 q11 := tx_tr tx_rf (tx_up eq11 (by omega))
        clear en10
        clear ux9
        have f12 := fv3.kept (hq1 _ (th_ne t0 trf4 (by decide)))
        exact th_vretM S hK hH hS hr hlocks ⟨rfl, hqq11, h0q11, (show TS q11 by exact (TS_mv v87_inv0 txq11 (by omega) (by omega) (by omega) (by omega) (by omega) (fun z => by omega))), (show q 27 ≤ q11 27 by omega), (show GD q q11 by exact gdq11)⟩ dX11_readPlace_179
      · skip
        have rlc1 : v87_2.toInt ≠ (0 : Int) := iv_ne c1
        have ir13 : IV v87_2 1 1 := iv_cutL iv87_2 (iv_c (by decide) : IV 0 0 0) c1 (by decide)
        have ir13a := ir13.1; have ir13b := ir13.2
        clear rlc1
        refine lv_aload_n hx hb dX11_readPlace_91 rfl (lv_at hl 0 rfl) ?_
        refine th_callVi (n := 0) (As := []) S hK hH hS (th_A.sub (by decide)) (m_X11_mapHere l D cT T q87 hT hq87 a0 t0) gm_1535 gm_1532 gm_1534 gm_61 gm_124 (by decide +kernel) ⟨rfl, rfl, Nat.le_of_ble_eq_true rfl, Nat.le_of_ble_eq_true rfl⟩ t0 km_0 rfl rfl hl.1 rfl (Nat.le_of_ble_eq_true rfl) dX11_readPlace_92 ⟨Nat.zero_le _, Nat.zero_le _⟩ (fun x14 H locs ix14 hH hS hF1 => ?_)
        have l1x14 := ix14.1; have l2x14 := ix14.2
        refine lv_istore_n (lv' := [(3, .int x14), (0, .ref a0), (1, .int v87_1), (2, .int v87_2)]) hx hb dX11_readPlace_95 rfl hl (by decide) rfl (fun ls hl => ?_)
        refine lv_iload_n hx hb dX11_readPlace_96 rfl (lv_at hl 0 rfl) ?_
        refine lv_if_lt (tgt := 123) hx hb dX11_readPlace_97 (by decide) (fun c15 => ?_) (fun c15 => ?_)
        · skip
          have rlc15 : x14.toInt < (0 : Int) := iv_lt c15
          have ir16 : IV x14 (-1) (-1) := iv_uL ix14 (iv_c (by decide) : IV 0 0 0) (iv_lt c15) (by decide)
          have ir16a := ir16.1; have ir16b := ir16.2
          refine lv_aload_n hx hb dX11_readPlace_123 rfl (lv_at hl 1 rfl) ?_
          refine lv_iload_n hx hb dX11_readPlace_124 rfl (lv_at hl 0 rfl) ?_
          refine th_callVM (n := 1) (As := [.int x14]) S hK hH hS (th_A.sub (by decide)) (m_X11_known_v0 l D cT T q87 hT hq87 a0 t0 (x14) (iv_w ir16 (by decide)) (show TS q87 by exact v87_inv0)) gm_1595 gm_1592 gm_1594 gm_76 gm_124 (by decide +kernel) ⟨rfl, rfl, Nat.le_of_ble_eq_true rfl, Nat.le_of_ble_eq_true rfl⟩ t0 km_0 rfl rfl hl.1 rfl (Nat.le_of_ble_eq_true rfl) dX11_readPlace_125 ⟨Nat.zero_le _, Nat.zero_le _⟩ (fun wq17 q17 H locs hEq17 hH hS hF1 => ?_)
          obtain ⟨x18, rfl, ix18, hqq17, g0q17, pq17_0, pq17_1, pq17_2⟩ := hEq17
          show W p l e (rmk 4 91) s m [.ref a0].toArray below meth c H locs 0 0 (MQ below (th_QM D cT T (fun v q2 => v = none ∧ qkm q2 ∧ fr [19, 27, 28, 29, 30, 31] q q2 ∧ (TS q2) ∧ (q 27 ≤ q2 27) ∧ (GD q q2)) [0, 5, 15, 16, 17, 27]) [.ref a0].toArray s 0 0 (th_A T [0, 5, 15, 16, 17, 27])) (F0 m 128 ls [.int x18])
          have pq17_0 : TS q17 := pq17_0
          have pq17_1 : q87 27 ≤ q17 27 := pq17_1
          have pq17_2 : AD q87 q17 := pq17_2
          have wq17_10 : q17 10 = q87 10 := g0q17 10 (by decide) (Or.inl (by decide))
          have wq17_13 : q17 13 = q87 13 := g0q17 13 (by decide) (Or.inl (by decide))
          have wq17_19 : q17 19 = q87 19 := g0q17 19 (by decide) (Or.inl (by decide))
          have wq17_26 : q17 26 = q87 26 := g0q17 26 (by decide) (Or.inl (by decide))
          have h0q17 : fr [19, 27, 28, 29, 30, 31] q q17 := fr_tr h087 g0q17 (by decide)
          have bgq17 : bg q87 q17 := bg_fr bg_rf g0q17 (by decide)
          have gdq17 : GD q q17 := GD_tr v87_inv2 (AD_GD pq17_2)
          have gbq17 : GD q87 q17 := GD_tr (GD_eq rfl) (AD_GD pq17_2)
          have l1x18 := ix18.1; have l2x18 := ix18.2
          refine lv_istore_n (lv' := [(3, .int x18), (0, .ref a0), (1, .int v87_1), (2, .int v87_2)]) hx hb dX11_readPlace_128 rfl hl (by decide) rfl (fun ls hl => ?_)
          refine lv_aload_n hx hb dX11_readPlace_129 rfl (lv_at hl 1 rfl) ?_
          refine th_callVp (n := 0) (As := []) S hK hH hS (th_A.sub (by decide)) (m_X11_isGood l D cT T q17 hT hqq17 a0 t0) gm_1487 gm_1484 gm_1486 gm_49 gm_124 (by decide +kernel) ⟨rfl, rfl, Nat.le_of_ble_eq_true rfl, Nat.le_of_ble_eq_true rfl⟩ t0 km_0 rfl rfl hl.1 rfl (Nat.le_of_ble_eq_true rfl) dX11_readPlace_130 ⟨Nat.zero_le _, Nat.zero_le _⟩ (fun x19 H locs ix19 ox19 hH hS hF1 => ?_)
          obtain ⟨ox19_0, ox19_1⟩ := ox19
          have ox19_0 : x19.toInt ≠ 0 → q17 30 = 0 := ox19_0
          have ox19_1 : x19.toInt = 0 → 1 ≤ q17 30 := ox19_1
          have l1x19 := ix19.1; have l2x19 := ix19.2
          refine lv_if_ne (tgt := 137) hx hb dX11_readPlace_133 (by decide) (fun c20 => ?_) (fun c20 => ?_)
          · skip
            have rlc20 : x19.toInt ≠ (0 : Int) := iv_ne c20
            have ox19_0r := ox19_0 rlc20
            clear ox19_0
            clear ox19_1
            have ir21 : IV x19 1 1 := iv_cutL ix19 (iv_c (by decide) : IV 0 0 0) c20 (by decide)
            have ir21a := ir21.1; have ir21b := ir21.2
            clear rlc20
            have hA := pq17_2 (by omega)
            have hadv := TS_in v87_inv0 (by omega)
            refine lv_aload_n hx hb dX11_readPlace_137 rfl (lv_at hl 1 rfl) ?_
            refine th_get S hK hH inG11 t0 km_0 rfl 25 (by decide) gm_1255 rfl rfl dX11_readPlace_138 (fun v22 hv22 fv22 => ?_)
            obtain ⟨rf23, rfl, trf23⟩ := th_V.ref hv22
            refine lv_iload_n hx hb dX11_readPlace_141 rfl (lv_at hl 2 rfl) ?_
            refine lv_dup2_11 hx hb dX11_readPlace_142 rfl rfl ?_
            refine th_iald S hK hH trf23 km_17 (th_in (hi := 15) iv87_1 (by decide)) dX11_readPlace_143 (fun v24 hv24 => ?_)
            obtain ⟨x25, rfl, ix25⟩ := th_V.int hv24
            refine lv_iconst (v := 1) hx hb dX11_readPlace_144 (by decide) ?_
            refine lv_iload_n hx hb dX11_readPlace_145 rfl (lv_at hl 0 rfl) ?_
            refine lv_ishl hx hb dX11_readPlace_146 ?_
            refine lv_topi (fun x26 ex26 => ?_)
            have ix26 := iv_top x26
            have ix26 : IV x26 1 1073741824 := by rw [ex26]; exact iv_shl1 (iv_w ix18 (by decide))
            refine lv_ior hx hb dX11_readPlace_147 ?_
            refine lv_topi (fun x27 ex27 => ?_)
            have ix27 := iv_top x27
            refine th_iast S hK hH hS ⟨17, by decide, trf23⟩ trf23 km_17 (th_in (hi := 15) iv87_1 (by decide)) (th_iv ix27) dX11_readPlace_148 (fun H locs hH hS hq1 => ?_)
            have f28 := fv22.kept (hq1 _ (th_ne t0 trf23 (by decide)))
            refine lv_aload_n hx hb dX11_readPlace_149 rfl (lv_at hl 1 rfl) ?_
            refine th_get S hK hH inG11 t0 km_0 rfl 8 (by decide) gm_1238 rfl rfl dX11_readPlace_150 (fun v29 hv29 fv29 => ?_)
            obtain ⟨x30, rfl, ix30⟩ := th_V.int hv29
            have kx30 : x30.toInt = q17 29 := Int.le_antisymm ix30.2 ix30.1
            have bx30 := qkm_29 hqq17
            have ix30 : IV x30 0 5 := iv_w ix30 (qkm_29 hqq17)
            refine lv_iconst (v := 2) hx hb dX11_readPlace_153 (by decide) ?_
            refine lv_icmp_ne (tgt := 161) hx hb dX11_readPlace_154 (by decide) (fun c31 => ?_) (fun c31 => ?_)
            · skip
              have rlc31 : x30.toInt ≠ (2 : Int) := iv_ne c31
              clear rlc31
              refine lv_iconst (v := 0) hx hb dX11_readPlace_161 (by decide) ?_
              refine lv_istore_n (lv' := [(2, .int 0), (3, .int x18), (0, .ref a0), (1, .int v87_1)]) hx hb dX11_readPlace_162 rfl hl (by decide) rfl (fun ls hl => ?_)
              refine lv_goto (tgt := 87) hx hb dX11_readPlace_163 (by decide) ?_
              exact ih87 q17 H locs ls v87_1 0 hqq17 h0q17 iv87_1 (iv_w (iv_c (by decide) : IV 0 0 0) (by decide)) (show TS q17 by exact pq17_0) (show q 27 ≤ q17 27 by omega) (show GD q q17 by exact gdq17) (show q17 19 = q 19 by omega) hH hS (lv_sub hl [2, 3, 0] rfl) (show (1601 - q17 27).toNat < n by omega)
            · skip
              have rlc31 : x30.toInt = (2 : Int) := congrArg Int32.toInt c31
              have ir32 : IV x30 2 2 := iv_eL c31 (iv_c (by decide) : IV 2 2 2)
              have ir32a := ir32.1; have ir32b := ir32.2
              refine lv_iconst (v := 1) hx hb dX11_readPlace_157 (by decide) ?_
              refine lv_goto (tgt := 162) hx hb dX11_readPlace_158 (by decide) ?_
              refine lv_istore_n (lv' := [(2, .int 1), (3, .int x18), (0, .ref a0), (1, .int v87_1)]) hx hb dX11_readPlace_162 rfl hl (by decide) rfl (fun ls hl => ?_)
              refine lv_goto (tgt := 87) hx hb dX11_readPlace_163 (by decide) ?_
              exact ih87 q17 H locs ls v87_1 1 hqq17 h0q17 iv87_1 (iv_w (iv_c (by decide) : IV 1 1 1) (by decide)) (show TS q17 by exact pq17_0) (show q 27 ≤ q17 27 by omega) (show GD q q17 by exact gdq17) (show q17 19 = q 19 by omega) hH hS (lv_sub hl [2, 3, 0] rfl) (show (1601 - q17 27).toNat < n by omega)
          · skip
            have rlc20 : x19.toInt = (0 : Int) := congrArg Int32.toInt c20
            clear ox19_0
            have ox19_1r := ox19_1 rlc20
            clear ox19_1
            have ir33 : IV x19 0 0 := iv_eL c20 (iv_c (by decide) : IV 0 0 0)
            have ir33a := ir33.1; have ir33b := ir33.2
            exact th_vretM S hK hH hS hr hlocks ⟨rfl, hqq17, h0q17, (show TS q17 by exact pq17_0), (show q 27 ≤ q17 27 by omega), (show GD q q17 by exact gdq17)⟩ dX11_readPlace_136
        · skip
          have rlc15 : (0 : Int) ≤ x14.toInt := iv_nlt c15
          have ir34 : IV x14 0 3 := iv_vR (iv_c (by decide) : IV 0 0 0) ix14 (iv_nlt c15) (by decide)
          have ir34a := ir34.1; have ir34b := ir34.2
          refine lv_aload_n hx hb dX11_readPlace_100 rfl (lv_at hl 1 rfl) ?_
          refine th_get S hK hH inG11 t0 km_0 rfl 25 (by decide) gm_1255 rfl rfl dX11_readPlace_101 (fun v35 hv35 fv35 => ?_)
          obtain ⟨rf36, rfl, trf36⟩ := th_V.ref hv35
          refine lv_iload_n hx hb dX11_readPlace_104 rfl (lv_at hl 2 rfl) ?_
          refine th_iald S hK hH trf36 km_17 (th_in (hi := 15) iv87_1 (by decide)) dX11_readPlace_105 (fun v37 hv37 => ?_)
          obtain ⟨x38, rfl, ix38⟩ := th_V.int hv37
          refine lv_iload_n hx hb dX11_readPlace_106 rfl (lv_at hl 0 rfl) ?_
          refine lv_ishr hx hb dX11_readPlace_107 ?_
          refine lv_topi (fun x39 ex39 => ?_)
          have ix39 := iv_top x39
          refine lv_iconst (v := 1) hx hb dX11_readPlace_108 (by decide) ?_
          refine lv_iand hx hb dX11_readPlace_109 ?_
          refine lv_topi (fun x40 ex40 => ?_)
          have ix40 : IV x40 0 1 := by rw [ex40]; exact iv_and (h2 := 1) (iv_w (iv_c (by decide) : IV 1 1 1) (by decide)) (by decide)
          refine lv_iconst (v := 1) hx hb dX11_readPlace_110 (by decide) ?_
          refine lv_icmp_ne (tgt := 123) hx hb dX11_readPlace_111 (by decide) (fun c41 => ?_) (fun c41 => ?_)
          · skip
            have rlc41 : x40.toInt ≠ (1 : Int) := iv_ne c41
            have ir42 : IV x40 0 0 := iv_cutH ix40 (iv_c (by decide) : IV 1 1 1) c41 (by decide)
            have ir42a := ir42.1; have ir42b := ir42.2
            clear rlc41
            refine lv_aload_n hx hb dX11_readPlace_123 rfl (lv_at hl 1 rfl) ?_
            refine lv_iload_n hx hb dX11_readPlace_124 rfl (lv_at hl 0 rfl) ?_
            refine th_callVM (n := 1) (As := [.int x14]) S hK hH hS (th_A.sub (by decide)) (m_X11_known_v1 l D cT T q87 hT hq87 a0 t0 (x14) (iv_w ir34 (by decide)) (show TS q87 by exact v87_inv0)) gm_1595 gm_1592 gm_1594 gm_76 gm_124 (by decide +kernel) ⟨rfl, rfl, Nat.le_of_ble_eq_true rfl, Nat.le_of_ble_eq_true rfl⟩ t0 km_0 rfl rfl hl.1 rfl (Nat.le_of_ble_eq_true rfl) dX11_readPlace_125 ⟨Nat.zero_le _, Nat.zero_le _⟩ (fun wq43 q43 H locs hEq43 hH hS hF1 => ?_)
            obtain ⟨x44, rfl, ix44, hqq43, g0q43, pq43_0, pq43_1, pq43_2⟩ := hEq43
            show W p l e (rmk 4 91) s m [.ref a0].toArray below meth c H locs 0 0 (MQ below (th_QM D cT T (fun v q2 => v = none ∧ qkm q2 ∧ fr [19, 27, 28, 29, 30, 31] q q2 ∧ (TS q2) ∧ (q 27 ≤ q2 27) ∧ (GD q q2)) [0, 5, 15, 16, 17, 27]) [.ref a0].toArray s 0 0 (th_A T [0, 5, 15, 16, 17, 27])) (F0 m 128 ls [.int x44])
            have pq43_0 : TS q43 := pq43_0
            have pq43_1 : q87 27 ≤ q43 27 := pq43_1
            have pq43_2 : AD q87 q43 := pq43_2
            have wq43_10 : q43 10 = q87 10 := g0q43 10 (by decide) (Or.inl (by decide))
            have wq43_13 : q43 13 = q87 13 := g0q43 13 (by decide) (Or.inl (by decide))
            have wq43_19 : q43 19 = q87 19 := g0q43 19 (by decide) (Or.inl (by decide))
            have wq43_26 : q43 26 = q87 26 := g0q43 26 (by decide) (Or.inl (by decide))
            have h0q43 : fr [19, 27, 28, 29, 30, 31] q q43 := fr_tr h087 g0q43 (by decide)
            have bgq43 : bg q87 q43 := bg_fr bg_rf g0q43 (by decide)
            have gdq43 : GD q q43 := GD_tr v87_inv2 (AD_GD pq43_2)
            have gbq43 : GD q87 q43 := GD_tr (GD_eq rfl) (AD_GD pq43_2)
            have l1x44 := ix44.1; have l2x44 := ix44.2
            refine lv_istore_n (lv' := [(3, .int x44), (0, .ref a0), (1, .int v87_1), (2, .int v87_2)]) hx hb dX11_readPlace_128 rfl hl (by decide) rfl (fun ls hl => ?_)
            refine lv_aload_n hx hb dX11_readPlace_129 rfl (lv_at hl 1 rfl) ?_
            refine th_callVp (n := 0) (As := []) S hK hH hS (th_A.sub (by decide)) (m_X11_isGood l D cT T q43 hT hqq43 a0 t0) gm_1487 gm_1484 gm_1486 gm_49 gm_124 (by decide +kernel) ⟨rfl, rfl, Nat.le_of_ble_eq_true rfl, Nat.le_of_ble_eq_true rfl⟩ t0 km_0 rfl rfl hl.1 rfl (Nat.le_of_ble_eq_true rfl) dX11_readPlace_130 ⟨Nat.zero_le _, Nat.zero_le _⟩ (fun x45 H locs ix45 ox45 hH hS hF1 => ?_)
            obtain ⟨ox45_0, ox45_1⟩ := ox45
            have ox45_0 : x45.toInt ≠ 0 → q43 30 = 0 := ox45_0
            have ox45_1 : x45.toInt = 0 → 1 ≤ q43 30 := ox45_1
            have l1x45 := ix45.1; have l2x45 := ix45.2
            refine lv_if_ne (tgt := 137) hx hb dX11_readPlace_133 (by decide) (fun c46 => ?_) (fun c46 => ?_)
            · skip
              have rlc46 : x45.toInt ≠ (0 : Int) := iv_ne c46
              have ox45_0r := ox45_0 rlc46
              clear ox45_0
              clear ox45_1
              have ir47 : IV x45 1 1 := iv_cutL ix45 (iv_c (by decide) : IV 0 0 0) c46 (by decide)
              have ir47a := ir47.1; have ir47b := ir47.2
              clear rlc46
              have hA := pq43_2 (by omega)
              have hadv := TS_in v87_inv0 (by omega)
              refine lv_aload_n hx hb dX11_readPlace_137 rfl (lv_at hl 1 rfl) ?_
              refine th_get S hK hH inG11 t0 km_0 rfl 25 (by decide) gm_1255 rfl rfl dX11_readPlace_138 (fun v48 hv48 fv48 => ?_)
              obtain ⟨rf49, rfl, trf49⟩ := th_V.ref hv48
              refine lv_iload_n hx hb dX11_readPlace_141 rfl (lv_at hl 2 rfl) ?_
              refine lv_dup2_11 hx hb dX11_readPlace_142 rfl rfl ?_
              refine th_iald S hK hH trf49 km_17 (th_in (hi := 15) iv87_1 (by decide)) dX11_readPlace_143 (fun v50 hv50 => ?_)
              obtain ⟨x51, rfl, ix51⟩ := th_V.int hv50
              refine lv_iconst (v := 1) hx hb dX11_readPlace_144 (by decide) ?_
              refine lv_iload_n hx hb dX11_readPlace_145 rfl (lv_at hl 0 rfl) ?_
              refine lv_ishl hx hb dX11_readPlace_146 ?_
              refine lv_topi (fun x52 ex52 => ?_)
              have ix52 := iv_top x52
              have ix52 : IV x52 1 1073741824 := by rw [ex52]; exact iv_shl1 (iv_w ix44 (by decide))
              refine lv_ior hx hb dX11_readPlace_147 ?_
              refine lv_topi (fun x53 ex53 => ?_)
              have ix53 := iv_top x53
              refine th_iast S hK hH hS ⟨17, by decide, trf49⟩ trf49 km_17 (th_in (hi := 15) iv87_1 (by decide)) (th_iv ix53) dX11_readPlace_148 (fun H locs hH hS hq1 => ?_)
              have f54 := fv48.kept (hq1 _ (th_ne t0 trf49 (by decide)))
              refine lv_aload_n hx hb dX11_readPlace_149 rfl (lv_at hl 1 rfl) ?_
              refine th_get S hK hH inG11 t0 km_0 rfl 8 (by decide) gm_1238 rfl rfl dX11_readPlace_150 (fun v55 hv55 fv55 => ?_)
              obtain ⟨x56, rfl, ix56⟩ := th_V.int hv55
              have kx56 : x56.toInt = q43 29 := Int.le_antisymm ix56.2 ix56.1
              have bx56 := qkm_29 hqq43
              have ix56 : IV x56 0 5 := iv_w ix56 (qkm_29 hqq43)
              refine lv_iconst (v := 2) hx hb dX11_readPlace_153 (by decide) ?_
              refine lv_icmp_ne (tgt := 161) hx hb dX11_readPlace_154 (by decide) (fun c57 => ?_) (fun c57 => ?_)
              · skip
                have rlc57 : x56.toInt ≠ (2 : Int) := iv_ne c57
                clear rlc57
                refine lv_iconst (v := 0) hx hb dX11_readPlace_161 (by decide) ?_
                refine lv_istore_n (lv' := [(2, .int 0), (3, .int x44), (0, .ref a0), (1, .int v87_1)]) hx hb dX11_readPlace_162 rfl hl (by decide) rfl (fun ls hl => ?_)
                refine lv_goto (tgt := 87) hx hb dX11_readPlace_163 (by decide) ?_
                exact ih87 q43 H locs ls v87_1 0 hqq43 h0q43 iv87_1 (iv_w (iv_c (by decide) : IV 0 0 0) (by decide)) (show TS q43 by exact pq43_0) (show q 27 ≤ q43 27 by omega) (show GD q q43 by exact gdq43) (show q43 19 = q 19 by omega) hH hS (lv_sub hl [2, 3, 0] rfl) (show (1601 - q43 27).toNat < n by omega)
              · skip
                have rlc57 : x56.toInt = (2 : Int) := congrArg Int32.toInt c57
                have ir58 : IV x56 2 2 := iv_eL c57 (iv_c (by decide) : IV 2 2 2)
                have ir58a := ir58.1; have ir58b := ir58.2
                refine lv_iconst (v := 1) hx hb dX11_readPlace_157 (by decide) ?_
                refine lv_goto (tgt := 162) hx hb dX11_readPlace_158 (by decide) ?_
                refine lv_istore_n (lv' := [(2, .int 1), (3, .int x44), (0, .ref a0), (1, .int v87_1)]) hx hb dX11_readPlace_162 rfl hl (by decide) rfl (fun ls hl => ?_)
                refine lv_goto (tgt := 87) hx hb dX11_readPlace_163 (by decide) ?_
                exact ih87 q43 H locs ls v87_1 1 hqq43 h0q43 iv87_1 (iv_w (iv_c (by decide) : IV 1 1 1) (by decide)) (show TS q43 by exact pq43_0) (show q 27 ≤ q43 27 by omega) (show GD q q43 by exact gdq43) (show q43 19 = q 19 by omega) hH hS (lv_sub hl [2, 3, 0] rfl) (show (1601 - q43 27).toNat < n by omega)
            · skip
              have rlc46 : x45.toInt = (0 : Int) := congrArg Int32.toInt c46
              clear ox45_0
              have ox45_1r := ox45_1 rlc46
              clear ox45_1
              have ir59 : IV x45 0 0 := iv_eL c46 (iv_c (by decide) : IV 0 0 0)
              have ir59a := ir59.1; have ir59b := ir59.2
              exact th_vretM S hK hH hS hr hlocks ⟨rfl, hqq43, h0q43, (show TS q43 by exact pq43_0), (show q 27 ≤ q43 27 by omega), (show GD q q43 by exact gdq43)⟩ dX11_readPlace_136
          · skip
            have rlc41 : x40.toInt = (1 : Int) := congrArg Int32.toInt c41
            have ir60 : IV x40 1 1 := ⟨(iv_eL c41 (iv_c (by decide) : IV 1 1 1)).1, ix40.2⟩
            have ir60a := ir60.1; have ir60b := ir60.2
            refine lv_aload_n hx hb dX11_readPlace_114 rfl (lv_at hl 1 rfl) ?_
            refine lv_iconst (v := 3) hx hb dX11_readPlace_115 (by decide) ?_
            refine lv_aload_n hx hb dX11_readPlace_116 rfl (lv_at hl 1 rfl) ?_
            refine th_get S hK hH inG11 t0 km_0 rfl 6 (by decide) gm_1236 rfl rfl dX11_readPlace_117 (fun v61 hv61 fv61 => ?_)
            obtain ⟨x62, rfl, ix62⟩ := th_V.int hv61
            have kx62 : x62.toInt = q87 27 := Int.le_antisymm ix62.2 ix62.1
            have bx62 := qkm_27 hq87
            have ix62 : IV x62 0 1600 := iv_w ix62 (qkm_27 hq87)
            refine th_callVM (n := 2) (As := [.int 3, .int x62]) S hK hH hS (th_A.sub (by decide)) (m_X11_fails l D cT T q87 hT hq87 a0 t0 (3) (iv_w (iv_c (by decide) : IV 3 3 3) (by decide)) (x62) (iv_top _)) gm_1507 gm_1504 gm_1506 gm_54 gm_124 (by decide +kernel) ⟨rfl, rfl, Nat.le_of_ble_eq_true rfl, Nat.le_of_ble_eq_true rfl⟩ t0 km_0 rfl rfl hl.1 rfl (Nat.le_of_ble_eq_true rfl) dX11_readPlace_120 ⟨Nat.zero_le _, Nat.zero_le _⟩ (fun wq63 q63 H locs hEq63 hH hS hF1 => ?_)
            obtain ⟨rfl, hqq63, g0q63, pq63_0⟩ := hEq63
            show W p l e (rmk 4 91) s m [.ref a0].toArray below meth c H locs 0 0 (MQ below (th_QM D cT T (fun v q2 => v = none ∧ qkm q2 ∧ fr [19, 27, 28, 29, 30, 31] q q2 ∧ (TS q2) ∧ (q 27 ≤ q2 27) ∧ (GD q q2)) [0, 5, 15, 16, 17, 27]) [.ref a0].toArray s 0 0 (th_A T [0, 5, 15, 16, 17, 27])) (F0 m 123 ls [])
            have pq63_0 : 1 ≤ q63 30 := pq63_0
            have wq63_10 : q63 10 = q87 10 := g0q63 10 (by decide) (Or.inl (by decide))
            have wq63_13 : q63 13 = q87 13 := g0q63 13 (by decide) (Or.inl (by decide))
            have wq63_19 : q63 19 = q87 19 := g0q63 19 (by decide) (Or.inl (by decide))
            have wq63_26 : q63 26 = q87 26 := g0q63 26 (by decide) (Or.inl (by decide))
            have wq63_27 : q63 27 = q87 27 := g0q63 27 (by decide) (Or.inl (by decide))
            have wq63_28 : q63 28 = q87 28 := g0q63 28 (by decide) (Or.inl (by decide))
            have wq63_29 : q63 29 = q87 29 := g0q63 29 (by decide) (Or.inl (by decide))
            have wq63_31 : q63 31 = q87 31 := g0q63 31 (by decide) (Or.inl (by decide))
            have h0q63 : fr [19, 27, 28, 29, 30, 31] q q63 := fr_tr h087 g0q63 (by decide)
            have bgq63 : bg q87 q63 := bg_fr bg_rf g0q63 (by decide)
            have gdq63 : GD q q63 := GD_tr v87_inv2 (GD_no pq63_0)
            have gbq63 : GD q87 q63 := GD_tr (GD_eq rfl) (GD_no pq63_0)
            have txq63 : tx q87 q63 := tx_tr tx_rf (tx_bg (bg_fr bg_rf g0q63 (by decide)))
            refine lv_aload_n hx hb dX11_readPlace_123 rfl (lv_at hl 1 rfl) ?_
            refine lv_iload_n hx hb dX11_readPlace_124 rfl (lv_at hl 0 rfl) ?_
            refine th_callVM (n := 1) (As := [.int x14]) S hK hH hS (th_A.sub (by decide)) (m_X11_known_v1 l D cT T q63 hT hqq63 a0 t0 (x14) (iv_w ir34 (by decide)) (show TS q63 by exact (TS_mv v87_inv0 txq63 (by omega) (by omega) (by omega) (by omega) (by omega) (fun z => by omega)))) gm_1595 gm_1592 gm_1594 gm_76 gm_124 (by decide +kernel) ⟨rfl, rfl, Nat.le_of_ble_eq_true rfl, Nat.le_of_ble_eq_true rfl⟩ t0 km_0 rfl rfl hl.1 rfl (Nat.le_of_ble_eq_true rfl) dX11_readPlace_125 ⟨Nat.zero_le _, Nat.zero_le _⟩ (fun wq64 q64 H locs hEq64 hH hS hF1 => ?_)
            obtain ⟨x65, rfl, ix65, hqq64, g0q64, pq64_0, pq64_1, pq64_2⟩ := hEq64
            show W p l e (rmk 4 91) s m [.ref a0].toArray below meth c H locs 0 0 (MQ below (th_QM D cT T (fun v q2 => v = none ∧ qkm q2 ∧ fr [19, 27, 28, 29, 30, 31] q q2 ∧ (TS q2) ∧ (q 27 ≤ q2 27) ∧ (GD q q2)) [0, 5, 15, 16, 17, 27]) [.ref a0].toArray s 0 0 (th_A T [0, 5, 15, 16, 17, 27])) (F0 m 128 ls [.int x65])
            have pq64_0 : TS q64 := pq64_0
            have pq64_1 : q63 27 ≤ q64 27 := pq64_1
            have pq64_2 : AD q63 q64 := pq64_2
            have wq64_10 : q64 10 = q63 10 := g0q64 10 (by decide) (Or.inl (by decide))
            have wq64_13 : q64 13 = q63 13 := g0q64 13 (by decide) (Or.inl (by decide))
            have wq64_19 : q64 19 = q63 19 := g0q64 19 (by decide) (Or.inl (by decide))
            have wq64_26 : q64 26 = q63 26 := g0q64 26 (by decide) (Or.inl (by decide))
            have h0q64 : fr [19, 27, 28, 29, 30, 31] q q64 := fr_tr h0q63 g0q64 (by decide)
            have bgq64 : bg q87 q64 := bg_fr bgq63 g0q64 (by decide)
            have gdq64 : GD q q64 := GD_tr gdq63 (AD_GD pq64_2)
            have gbq64 : GD q87 q64 := GD_tr gbq63 (AD_GD pq64_2)
            have l1x65 := ix65.1; have l2x65 := ix65.2
            refine lv_istore_n (lv' := [(3, .int x65), (0, .ref a0), (1, .int v87_1), (2, .int v87_2)]) hx hb dX11_readPlace_128 rfl hl (by decide) rfl (fun ls hl => ?_)
            refine lv_aload_n hx hb dX11_readPlace_129 rfl (lv_at hl 1 rfl) ?_
            refine th_callVp (n := 0) (As := []) S hK hH hS (th_A.sub (by decide)) (m_X11_isGood l D cT T q64 hT hqq64 a0 t0) gm_1487 gm_1484 gm_1486 gm_49 gm_124 (by decide +kernel) ⟨rfl, rfl, Nat.le_of_ble_eq_true rfl, Nat.le_of_ble_eq_true rfl⟩ t0 km_0 rfl rfl hl.1 rfl (Nat.le_of_ble_eq_true rfl) dX11_readPlace_130 ⟨Nat.zero_le _, Nat.zero_le _⟩ (fun x66 H locs ix66 ox66 hH hS hF1 => ?_)
            obtain ⟨ox66_0, ox66_1⟩ := ox66
            have ox66_0 : x66.toInt ≠ 0 → q64 30 = 0 := ox66_0
            have ox66_1 : x66.toInt = 0 → 1 ≤ q64 30 := ox66_1
            have l1x66 := ix66.1; have l2x66 := ix66.2
            refine lv_if_ne (tgt := 137) hx hb dX11_readPlace_133 (by decide) (fun c67 => ?_) (fun c67 => ?_)
            · skip
              have rlc67 : x66.toInt ≠ (0 : Int) := iv_ne c67
              have ox66_0r := ox66_0 rlc67
              clear ox66_0
              clear ox66_1
              have ir68 : IV x66 1 1 := iv_cutL ix66 (iv_c (by decide) : IV 0 0 0) c67 (by decide)
              have ir68a := ir68.1; have ir68b := ir68.2
              clear rlc67
              have hA := pq64_2 (by omega)
              have hadv := TS_in v87_inv0 (by omega)
              refine lv_aload_n hx hb dX11_readPlace_137 rfl (lv_at hl 1 rfl) ?_
              refine th_get S hK hH inG11 t0 km_0 rfl 25 (by decide) gm_1255 rfl rfl dX11_readPlace_138 (fun v69 hv69 fv69 => ?_)
              obtain ⟨rf70, rfl, trf70⟩ := th_V.ref hv69
              refine lv_iload_n hx hb dX11_readPlace_141 rfl (lv_at hl 2 rfl) ?_
              refine lv_dup2_11 hx hb dX11_readPlace_142 rfl rfl ?_
              refine th_iald S hK hH trf70 km_17 (th_in (hi := 15) iv87_1 (by decide)) dX11_readPlace_143 (fun v71 hv71 => ?_)
              obtain ⟨x72, rfl, ix72⟩ := th_V.int hv71
              refine lv_iconst (v := 1) hx hb dX11_readPlace_144 (by decide) ?_
              refine lv_iload_n hx hb dX11_readPlace_145 rfl (lv_at hl 0 rfl) ?_
              refine lv_ishl hx hb dX11_readPlace_146 ?_
              refine lv_topi (fun x73 ex73 => ?_)
              have ix73 := iv_top x73
              have ix73 : IV x73 1 1073741824 := by rw [ex73]; exact iv_shl1 (iv_w ix65 (by decide))
              refine lv_ior hx hb dX11_readPlace_147 ?_
              refine lv_topi (fun x74 ex74 => ?_)
              have ix74 := iv_top x74
              refine th_iast S hK hH hS ⟨17, by decide, trf70⟩ trf70 km_17 (th_in (hi := 15) iv87_1 (by decide)) (th_iv ix74) dX11_readPlace_148 (fun H locs hH hS hq1 => ?_)
              have f75 := fv69.kept (hq1 _ (th_ne t0 trf70 (by decide)))
              refine lv_aload_n hx hb dX11_readPlace_149 rfl (lv_at hl 1 rfl) ?_
              refine th_get S hK hH inG11 t0 km_0 rfl 8 (by decide) gm_1238 rfl rfl dX11_readPlace_150 (fun v76 hv76 fv76 => ?_)
              obtain ⟨x77, rfl, ix77⟩ := th_V.int hv76
              have kx77 : x77.toInt = q64 29 := Int.le_antisymm ix77.2 ix77.1
              have bx77 := qkm_29 hqq64
              have ix77 : IV x77 0 5 := iv_w ix77 (qkm_29 hqq64)
              refine lv_iconst (v := 2) hx hb dX11_readPlace_153 (by decide) ?_
              refine lv_icmp_ne (tgt := 161) hx hb dX11_readPlace_154 (by decide) (fun c78 => ?_) (fun c78 => ?_)
              · skip
                have rlc78 : x77.toInt ≠ (2 : Int) := iv_ne c78
                clear rlc78
                refine lv_iconst (v := 0) hx hb dX11_readPlace_161 (by decide) ?_
                refine lv_istore_n (lv' := [(2, .int 0), (3, .int x65), (0, .ref a0), (1, .int v87_1)]) hx hb dX11_readPlace_162 rfl hl (by decide) rfl (fun ls hl => ?_)
                refine lv_goto (tgt := 87) hx hb dX11_readPlace_163 (by decide) ?_
                exact ih87 q64 H locs ls v87_1 0 hqq64 h0q64 iv87_1 (iv_w (iv_c (by decide) : IV 0 0 0) (by decide)) (show TS q64 by exact pq64_0) (show q 27 ≤ q64 27 by omega) (show GD q q64 by exact gdq64) (show q64 19 = q 19 by omega) hH hS (lv_sub hl [2, 3, 0] rfl) (show (1601 - q64 27).toNat < n by omega)
              · skip
                have rlc78 : x77.toInt = (2 : Int) := congrArg Int32.toInt c78
                have ir79 : IV x77 2 2 := iv_eL c78 (iv_c (by decide) : IV 2 2 2)
                have ir79a := ir79.1; have ir79b := ir79.2
                refine lv_iconst (v := 1) hx hb dX11_readPlace_157 (by decide) ?_
                refine lv_goto (tgt := 162) hx hb dX11_readPlace_158 (by decide) ?_
                refine lv_istore_n (lv' := [(2, .int 1), (3, .int x65), (0, .ref a0), (1, .int v87_1)]) hx hb dX11_readPlace_162 rfl hl (by decide) rfl (fun ls hl => ?_)
                refine lv_goto (tgt := 87) hx hb dX11_readPlace_163 (by decide) ?_
                exact ih87 q64 H locs ls v87_1 1 hqq64 h0q64 iv87_1 (iv_w (iv_c (by decide) : IV 1 1 1) (by decide)) (show TS q64 by exact pq64_0) (show q 27 ≤ q64 27 by omega) (show GD q q64 by exact gdq64) (show q64 19 = q 19 by omega) hH hS (lv_sub hl [2, 3, 0] rfl) (show (1601 - q64 27).toNat < n by omega)
            · skip
              have rlc67 : x66.toInt = (0 : Int) := congrArg Int32.toInt c67
              clear ox66_0
              have ox66_1r := ox66_1 rlc67
              clear ox66_1
              have ir80 : IV x66 0 0 := iv_eL c67 (iv_c (by decide) : IV 0 0 0)
              have ir80a := ir80.1; have ir80b := ir80.2
              exact th_vretM S hK hH hS hr hlocks ⟨rfl, hqq64, h0q64, (show TS q64 by exact pq64_0), (show q 27 ≤ q64 27 by omega), (show GD q q64 by exact gdq64)⟩ dX11_readPlace_136
