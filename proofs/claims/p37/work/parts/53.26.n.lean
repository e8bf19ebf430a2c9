theorem dX11_known_0 : decode cX11_known 0 = .ok (.aload_n 0, 1) := by decide +kernel
theorem dX11_known_1 : decode cX11_known 1 = .ok (.invokevirtual 243, 3) := by decide +kernel
theorem dX11_known_4 : decode cX11_known 4 = .ok (.ifCond .ne 5, 3) := by decide +kernel
theorem dX11_known_7 : decode cX11_known 7 = .ok (.iconst 0, 1) := by decide +kernel
theorem dX11_known_8 : decode cX11_known 8 = .ok (.ireturn, 1) := by decide +kernel
theorem dX11_known_9 : decode cX11_known 9 = .ok (.aload_n 0, 1) := by decide +kernel
theorem dX11_known_10 : decode cX11_known 10 = .ok (.getfield 215, 3) := by decide +kernel
theorem dX11_known_13 : decode cX11_known 13 = .ok (.iconst 2, 1) := by decide +kernel
theorem dX11_known_14 : decode cX11_known 14 = .ok (.if_icmp .eq 10, 3) := by decide +kernel
theorem dX11_known_17 : decode cX11_known 17 = .ok (.aload_n 0, 1) := by decide +kernel
theorem dX11_known_18 : decode cX11_known 18 = .ok (.invokevirtual 250, 3) := by decide +kernel
theorem dX11_known_21 : decode cX11_known 21 = .ok (.goto 23, 3) := by decide +kernel
theorem dX11_known_24 : decode cX11_known 24 = .ok (.iload_n 1, 1) := by decide +kernel
theorem dX11_known_25 : decode cX11_known 25 = .ok (.ifCond .ge 15, 3) := by decide +kernel
theorem dX11_known_28 : decode cX11_known 28 = .ok (.aload_n 0, 1) := by decide +kernel
theorem dX11_known_29 : decode cX11_known 29 = .ok (.iconst 5, 1) := by decide +kernel
theorem dX11_known_30 : decode cX11_known 30 = .ok (.aload_n 0, 1) := by decide +kernel
theorem dX11_known_31 : decode cX11_known 31 = .ok (.getfield 208, 3) := by decide +kernel
theorem dX11_known_34 : decode cX11_known 34 = .ok (.invokevirtual 239, 3) := by decide +kernel
theorem dX11_known_37 : decode cX11_known 37 = .ok (.goto 7, 3) := by decide +kernel
theorem dX11_known_40 : decode cX11_known 40 = .ok (.aload_n 0, 1) := by decide +kernel
theorem dX11_known_41 : decode cX11_known 41 = .ok (.invokevirtual 247, 3) := by decide +kernel
theorem dX11_known_44 : decode cX11_known 44 = .ok (.iload_n 1, 1) := by decide +kernel
theorem dX11_known_45 : decode cX11_known 45 = .ok (.ifCond .ge 7, 3) := by decide +kernel
theorem dX11_known_48 : decode cX11_known 48 = .ok (.iconst 0, 1) := by decide +kernel
theorem dX11_known_49 : decode cX11_known 49 = .ok (.goto 4, 3) := by decide +kernel
theorem dX11_known_52 : decode cX11_known 52 = .ok (.iload_n 1, 1) := by decide +kernel
theorem dX11_known_53 : decode cX11_known 53 = .ok (.ireturn, 1) := by decide +kernel
set_option maxHeartbeats 20000000 in
set_option maxRecDepth 100000 in
theorem m_X11_known_v0 (l : Launch) (D : va_G) (cT : Nat → ClassId) (T : Nat → Option Nat) (q : Nat → Int) (hT : tokm T) (hq : qkm q) (a0 : Nat) (t0 : T a0 = some 0) (y1 : Int32) (j1 : IV y1 (-1) 2) (hp0 : TS q) : th_MetM l D cT T q yX11_known cX11_known 2 (some .int) (rmk 2 44) [.ref a0, .int y1] (fun v q2 => ∃ r : Int32, v = some (.int r) ∧ IV r 0 2 ∧ qkm q2 ∧ fr [27, 28, 29, 30, 31] q q2 ∧ (TS q2) ∧ (q 27 ≤ q2 27) ∧ (AD q q2)) [0] := by
  refine th_startM (by decide) (Nat.le_of_ble_eq_true rfl) ?_
  intro p e s m below meth c ls S hK hH hr hlocks hnm hl
  have hx := S.1
  have hb := S.2.1
  have l1y1 := j1.1; have l2y1 := j1.2
  have le0 := TS_le hp0
  have hl : lv_has ls 2 [(0, .ref a0), (1, .int y1)] := hl
  have J0 : ∀ (H : Heap) (locs : List Loc) (ls : Array Slot), th_H D cT T (km q) H → va_S (th_A T [0]) s.heap H locs → lv_has ls 2 [(0, .ref a0), (1, .int y1)] → W p l e (rmk 2 44) s m [.ref a0, .int y1].toArray below meth c H locs 0 0 (MQ below (th_QM D cT T (fun v q2 => ∃ r : Int32, v = some (.int r) ∧ IV r 0 2 ∧ qkm q2 ∧ fr [27, 28, 29, 30, 31] q q2 ∧ (TS q2) ∧ (q 27 ≤ q2 27) ∧ (AD q q2)) [0]) [.ref a0, .int y1].toArray s 0 0 (th_A T [0])) (F0 m 0 ls []) := by
    intro H locs ls hH hS hl
    refine lv_aload_n hx hb dX11_known_0 rfl (lv_at hl 0 rfl) ?_
    refine th_callVp (n := 0) (As := []) S hK hH hS (th_A.sub (by decide)) (m_X11_isGood l D cT T q hT hq a0 t0) gm_1487 gm_1484 gm_1486 gm_49 gm_124 (by decide +kernel) ⟨rfl, rfl, Nat.le_of_ble_eq_true rfl, Nat.le_of_ble_eq_true rfl⟩ t0 km_0 rfl rfl hl.1 rfl (Nat.le_of_ble_eq_true rfl) dX11_known_1 ⟨Nat.zero_le _, Nat.zero_le _⟩ (fun x1 H locs ix1 ox1 hH hS hF1 => ?_)
    obtain ⟨ox1_0, ox1_1⟩ := ox1
    have ox1_0 : x1.toInt ≠ 0 → q 30 = 0 := ox1_0
    have ox1_1 : x1.toInt = 0 → 1 ≤ q 30 := ox1_1
    have l1x1 := ix1.1; have l2x1 := ix1.2
    refine lv_if_ne (tgt := 9) hx hb dX11_known_4 (by decide) (fun c2 => ?_) (fun c2 => ?_)
    · skip
      have rlc2 : x1.toInt ≠ (0 : Int) := iv_ne c2
      have ox1_0r := ox1_0 rlc2
      clear ox1_0
      clear ox1_1
      have ir3 : IV x1 1 1 := iv_cutL ix1 (iv_c (by decide) : IV 0 0 0) c2 (by decide)
      have ir3a := ir3.1; have ir3b := ir3.2
      clear rlc2
      refine lv_aload_n hx hb dX11_known_9 rfl (lv_at hl 0 rfl) ?_
      refine th_get S hK hH inG11 t0 km_0 rfl 8 (by decide) gm_1238 rfl rfl dX11_known_10 (fun v4 hv4 fv4 => ?_)
      obtain ⟨x5, rfl, ix5⟩ := th_V.int hv4
      have kx5 : x5.toInt = q 29 := Int.le_antisymm ix5.2 ix5.1
      have bx5 := qkm_29 hq
      have ix5 : IV x5 0 5 := iv_w ix5 (qkm_29 hq)
      refine lv_iconst (v := 2) hx hb dX11_known_13 (by decide) ?_
      refine lv_icmp_eq (tgt := 24) hx hb dX11_known_14 (by decide) (fun c6 => ?_) (fun c6 => ?_)
      · skip
        have rlc6 : x5.toInt = (2 : Int) := congrArg Int32.toInt c6
        have ir7 : IV x5 2 2 := iv_eL c6 (iv_c (by decide) : IV 2 2 2)
        have ir7a := ir7.1; have ir7b := ir7.2
        refine lv_iload_n hx hb dX11_known_24 rfl (lv_at hl 1 rfl) ?_
        refine lv_if_ge (tgt := 40) hx hb dX11_known_25 (by decide) (fun c8 => ?_) (fun c8 => ?_)
        · skip
          have rlc8 : (0 : Int) ≤ y1.toInt := iv_le c8
          have ir9 : IV y1 0 2 := iv_vR (iv_c (by decide) : IV 0 0 0) j1 (iv_le c8) (by decide)
          have ir9a := ir9.1; have ir9b := ir9.2
          refine lv_aload_n hx hb dX11_known_40 rfl (lv_at hl 0 rfl) ?_
          have le9 := TS_le hp0
          refine th_callVM (n := 0) (As := []) S hK hH hS (th_A.sub (by decide)) (m_X11_goOn l D cT T q hT hq a0 t0 (show q 28 ≤ q 26 by exact (TS_le hp0).2)) gm_1445 gm_1442 gm_1444 gm_47 gm_124 (by decide +kernel) ⟨rfl, rfl, Nat.le_of_ble_eq_true rfl, Nat.le_of_ble_eq_true rfl⟩ t0 km_0 rfl rfl hl.1 rfl (Nat.le_of_ble_eq_true rfl) dX11_known_41 ⟨Nat.zero_le _, Nat.zero_le _⟩ (fun wq10 q10 H locs hEq10 hH hS hF1 => ?_)
          obtain ⟨rfl, hqq10, g0q10, pq10_0, pq10_1, pq10_2⟩ := hEq10
          show W p l e (rmk 2 44) s m [.ref a0, .int y1].toArray below meth c H locs 0 0 (MQ below (th_QM D cT T (fun v q2 => ∃ r : Int32, v = some (.int r) ∧ IV r 0 2 ∧ qkm q2 ∧ fr [27, 28, 29, 30, 31] q q2 ∧ (TS q2) ∧ (q 27 ≤ q2 27) ∧ (AD q q2)) [0]) [.ref a0, .int y1].toArray s 0 0 (th_A T [0])) (F0 m 44 ls [])
          have pq10_0 : TS q10 := pq10_0
          have pq10_1 : q 28 ≤ q10 27 := pq10_1
          have pq10_2 : LX q q10 := pq10_2
          have wq10_26 : q10 26 = q 26 := g0q10 26 (by decide) (Or.inl (by decide))
          have wq10_30 : q10 30 = q 30 := g0q10 30 (by decide) (Or.inl (by decide))
          have h0q10 : fr [27, 28, 29, 30, 31] q q10 := fr_tr fr_rf g0q10 (by decide)
          have bgq10 : bg q q10 := bg_fr bg_rf g0q10 (by decide)
          have gdq10 : GD q q10 := GD_tr (GD_eq rfl) (GD_eq wq10_30)
          have gbq10 : GD q q10 := GD_tr (GD_eq rfl) (GD_eq wq10_30)
          refine lv_iload_n hx hb dX11_known_44 rfl (lv_at hl 1 rfl) ?_
          refine lv_if_ge (tgt := 52) hx hb dX11_known_45 (by decide) (fun c11 => ?_) (fun c11 => ?_)
          · skip
            have rlc11 : (0 : Int) ≤ y1.toInt := iv_le c11
            refine lv_iload_n hx hb dX11_known_52 rfl (lv_at hl 1 rfl) ?_
            exact th_iretM S hK hH hS hr hlocks ⟨_, rfl, ir9, hqq10, h0q10, (show TS q10 by exact pq10_0), (show q 27 ≤ q10 27 by omega), (show AD q q10 by first | exact AD_of (by omega) (by omega) (by omega) | exact AD_no (by omega))⟩ dX11_known_53
          · skip
            have rlc11 : y1.toInt < (0 : Int) := iv_nle c11
            exfalso
            have z1 := iv_nle c11
            have z2 := (ir9).1
            have z3 := (ir9).2
            have z4 := ((iv_c (by decide) : IV 0 0 0)).1
            have z5 := ((iv_c (by decide) : IV 0 0 0)).2
            omega
        · skip
          have rlc8 : y1.toInt < (0 : Int) := iv_nle c8
          have ir12 : IV y1 (-1) (-1) := iv_uL j1 (iv_c (by decide) : IV 0 0 0) (iv_nle c8) (by decide)
          have ir12a := ir12.1; have ir12b := ir12.2
          refine lv_aload_n hx hb dX11_known_28 rfl (lv_at hl 0 rfl) ?_
          refine lv_iconst (v := 5) hx hb dX11_known_29 (by decide) ?_
          refine lv_aload_n hx hb dX11_known_30 rfl (lv_at hl 0 rfl) ?_
          refine th_get S hK hH inG11 t0 km_0 rfl 6 (by decide) gm_1236 rfl rfl dX11_known_31 (fun v13 hv13 fv13 => ?_)
          obtain ⟨x14, rfl, ix14⟩ := th_V.int hv13
          have kx14 : x14.toInt = q 27 := Int.le_antisymm ix14.2 ix14.1
          have bx14 := qkm_27 hq
          have ix14 : IV x14 0 1600 := iv_w ix14 (qkm_27 hq)
          refine th_callVM (n := 2) (As := [.int 5, .int x14]) S hK hH hS (th_A.sub (by decide)) (m_X11_fails l D cT T q hT hq a0 t0 (5) (iv_w (iv_c (by decide) : IV 5 5 5) (by decide)) (x14) (iv_top _)) gm_1507 gm_1504 gm_1506 gm_54 gm_124 (by decide +kernel) ⟨rfl, rfl, Nat.le_of_ble_eq_true rfl, Nat.le_of_ble_eq_true rfl⟩ t0 km_0 rfl rfl hl.1 rfl (Nat.le_of_ble_eq_true rfl) dX11_known_34 ⟨Nat.zero_le _, Nat.zero_le _⟩ (fun wq15 q15 H locs hEq15 hH hS hF1 => ?_)
          obtain ⟨rfl, hqq15, g0q15, pq15_0⟩ := hEq15
          show W p l e (rmk 2 44) s m [.ref a0, .int y1].toArray below meth c H locs 0 0 (MQ below (th_QM D cT T (fun v q2 => ∃ r : Int32, v = some (.int r) ∧ IV r 0 2 ∧ qkm q2 ∧ fr [27, 28, 29, 30, 31] q q2 ∧ (TS q2) ∧ (q 27 ≤ q2 27) ∧ (AD q q2)) [0]) [.ref a0, .int y1].toArray s 0 0 (th_A T [0])) (F0 m 37 ls [])
          have pq15_0 : 1 ≤ q15 30 := pq15_0
          have wq15_26 : q15 26 = q 26 := g0q15 26 (by decide) (Or.inl (by decide))
          have wq15_27 : q15 27 = q 27 := g0q15 27 (by decide) (Or.inl (by decide))
          have wq15_28 : q15 28 = q 28 := g0q15 28 (by decide) (Or.inl (by decide))
          have wq15_29 : q15 29 = q 29 := g0q15 29 (by decide) (Or.inl (by decide))
          have wq15_31 : q15 31 = q 31 := g0q15 31 (by decide) (Or.inl (by decide))
          have h0q15 : fr [27, 28, 29, 30, 31] q q15 := fr_tr fr_rf g0q15 (by decide)
          have bgq15 : bg q q15 := bg_fr bg_rf g0q15 (by decide)
          have gdq15 : GD q q15 := GD_tr (GD_eq rfl) (GD_no pq15_0)
          have gbq15 : GD q q15 := GD_tr (GD_eq rfl) (GD_no pq15_0)
          have txq15 : tx q q15 := tx_tr tx_rf (tx_bg (bg_fr bg_rf g0q15 (by decide)))
          refine lv_goto (tgt := 44) hx hb dX11_known_37 (by decide) ?_
          refine lv_iload_n hx hb dX11_known_44 rfl (lv_at hl 1 rfl) ?_
          refine lv_if_ge (tgt := 52) hx hb dX11_known_45 (by decide) (fun c16 => ?_) (fun c16 => ?_)
          · skip
            have rlc16 : (0 : Int) ≤ y1.toInt := iv_le c16
            exfalso
            have z1 := iv_le c16
            have z2 := (ir12).1
            have z3 := (ir12).2
            have z4 := ((iv_c (by decide) : IV 0 0 0)).1
            have z5 := ((iv_c (by decide) : IV 0 0 0)).2
            omega
          · skip
            have rlc16 : y1.toInt < (0 : Int) := iv_nle c16
            refine lv_iconst (v := 0) hx hb dX11_known_48 (by decide) ?_
            refine lv_goto (tgt := 53) hx hb dX11_known_49 (by decide) ?_
            exact th_iretM S hK hH hS hr hlocks ⟨_, rfl, (iv_w (iv_c (by decide) : IV 0 0 0) (by decide)), hqq15, h0q15, (show TS q15 by exact (TS_mv hp0 txq15 (by omega) (by omega) (by omega) (by omega) (by omega) (fun z => by omega))), (show q 27 ≤ q15 27 by omega), (show AD q q15 by first | exact AD_of (by omega) (by omega) (by omega) | exact AD_no (by omega))⟩ dX11_known_53
      · skip
        have rlc6 : x5.toInt ≠ (2 : Int) := iv_ne c6
        clear rlc6
        refine lv_aload_n hx hb dX11_known_17 rfl (lv_at hl 0 rfl) ?_
        refine th_callVM (n := 0) (As := []) S hK hH hS (th_A.sub (by decide)) (m_X11_misplaced l D cT T q hT hq a0 t0) gm_1503 gm_1500 gm_1502 gm_53 gm_124 (by decide +kernel) ⟨rfl, rfl, Nat.le_of_ble_eq_true rfl, Nat.le_of_ble_eq_true rfl⟩ t0 km_0 rfl rfl hl.1 rfl (Nat.le_of_ble_eq_true rfl) dX11_known_18 ⟨Nat.zero_le _, Nat.zero_le _⟩ (fun wq17 q17 H locs hEq17 hH hS hF1 => ?_)
        obtain ⟨rfl, hqq17, g0q17, pq17_0⟩ := hEq17
        show W p l e (rmk 2 44) s m [.ref a0, .int y1].toArray below meth c H locs 0 0 (MQ below (th_QM D cT T (fun v q2 => ∃ r : Int32, v = some (.int r) ∧ IV r 0 2 ∧ qkm q2 ∧ fr [27, 28, 29, 30, 31] q q2 ∧ (TS q2) ∧ (q 27 ≤ q2 27) ∧ (AD q q2)) [0]) [.ref a0, .int y1].toArray s 0 0 (th_A T [0])) (F0 m 21 ls [])
        have pq17_0 : 1 ≤ q17 30 := pq17_0
        have wq17_26 : q17 26 = q 26 := g0q17 26 (by decide) (Or.inl (by decide))
        have wq17_27 : q17 27 = q 27 := g0q17 27 (by decide) (Or.inl (by decide))
        have wq17_28 : q17 28 = q 28 := g0q17 28 (by decide) (Or.inl (by decide))
        have wq17_29 : q17 29 = q 29 := g0q17 29 (by decide) (Or.inl (by decide))
        have wq17_31 : q17 31 = q 31 := g0q17 31 (by decide) (Or.inl (by decide))
        have h0q17 : fr [27, 28, 29, 30, 31] q q17 := fr_tr fr_rf g0q17 (by decide)
        have bgq17 : bg q q17 := bg_fr bg_rf g0q17 (by decide)
        have gdq17 : GD q q17 := GD_tr (GD_eq rfl) (GD_no pq17_0)
        have gbq17 : GD q q17 := GD_tr (GD_eq rfl) (GD_no pq17_0)
        have txq17 : tx q q17 := tx_tr tx_rf (tx_bg (bg_fr bg_rf g0q17 (by decide)))
        refine lv_goto (tgt := 44) hx hb dX11_known_21 (by decide) ?_
        refine lv_iload_n hx hb dX11_known_44 rfl (lv_at hl 1 rfl) ?_
        refine lv_if_ge (tgt := 52) hx hb dX11_known_45 (by decide) (fun c18 => ?_) (fun c18 => ?_)
        · skip
          have rlc18 : (0 : Int) ≤ y1.toInt := iv_le c18
          have ir19 : IV y1 0 2 := iv_vR (iv_c (by decide) : IV 0 0 0) j1 (iv_le c18) (by decide)
          have ir19a := ir19.1; have ir19b := ir19.2
          refine lv_iload_n hx hb dX11_known_52 rfl (lv_at hl 1 rfl) ?_
          exact th_iretM S hK hH hS hr hlocks ⟨_, rfl, ir19, hqq17, h0q17, (show TS q17 by exact (TS_mv hp0 txq17 (by omega) (by omega) (by omega) (by omega) (by omega) (fun z => by omega))), (show q 27 ≤ q17 27 by omega), (show AD q q17 by first | exact AD_of (by omega) (by omega) (by omega) | exact AD_no (by omega))⟩ dX11_known_53
        · skip
          have rlc18 : y1.toInt < (0 : Int) := iv_nle c18
          have ir20 : IV y1 (-1) (-1) := iv_uL j1 (iv_c (by decide) : IV 0 0 0) (iv_nle c18) (by decide)
          have ir20a := ir20.1; have ir20b := ir20.2
          refine lv_iconst (v := 0) hx hb dX11_known_48 (by decide) ?_
          refine lv_goto (tgt := 53) hx hb dX11_known_49 (by decide) ?_
          exact th_iretM S hK hH hS hr hlocks ⟨_, rfl, (iv_w (iv_c (by decide) : IV 0 0 0) (by decide)), hqq17, h0q17, (show TS q17 by exact (TS_mv hp0 txq17 (by omega) (by omega) (by omega) (by omega) (by omega) (fun z => by omega))), (show q 27 ≤ q17 27 by omega), (show AD q q17 by first | exact AD_of (by omega) (by omega) (by omega) | exact AD_no (by omega))⟩ dX11_known_53
    · skip
      have rlc2 : x1.toInt = (0 : Int) := congrArg Int32.toInt c2
      clear ox1_0
      have ox1_1r := ox1_1 rlc2
      clear ox1_1
      have ir21 : IV x1 0 0 := iv_eL c2 (iv_c (by decide) : IV 0 0 0)
      have ir21a := ir21.1; have ir21b := ir21.2
      refine lv_iconst (v := 0) hx hb dX11_known_7 (by decide) ?_
      exact th_iretM S hK hH hS hr hlocks ⟨_, rfl, (iv_w (iv_c (by decide) : IV 0 0 0) (by decide)), hq, fr_rf, (show TS q by exact hp0), (show q 27 ≤ q 27 by omega), (show AD q q by first | exact AD_of (by omega) (by omega) (by omega) | exact AD_no (by omega))⟩ dX11_known_8
  exact J0 s.heap [] ls hH va_S.rf hl

set_option maxHeartbeats 20000000 in
set_option maxRecDepth 100000 in
theorem m_X11_known_v1 (l : Launch) (D : va_G) (cT : Nat → ClassId) (T : Nat → Option Nat) (q : Nat → Int) (hT : tokm T) (hq : qkm q) (a0 : Nat) (t0 : T a0 = some 0) (y1 : Int32) (j1 : IV y1 (-1) 3) (hp0 : TS q) : th_MetM l D cT T q yX11_known cX11_known 2 (some .int) (rmk 2 44) [.ref a0, .int y1] (fun v q2 => ∃ r : Int32, v = some (.int r) ∧ IV r 0 3 ∧ qkm q2 ∧ fr [27, 28, 29, 30, 31] q q2 ∧ (TS q2) ∧ (q 27 ≤ q2 27) ∧ (AD q q2)) [0] := by
  refine th_startM (by decide) (Nat.le_of_ble_eq_true rfl) ?_
  intro p e s m below meth c ls S hK hH hr hlocks hnm hl
  have hx := S.1
  have hb := S.2.1
  have l1y1 := j1.1; have l2y1 := j1.2
  have le0 := TS_le hp0
  have hl : lv_has ls 2 [(0, .ref a0), (1, .int y1)] := hl
  have J0 : ∀ (H : Heap) (locs : List Loc) (ls : Array Slot), th_H D cT T (km q) H → va_S (th_A T [0]) s.heap H locs → lv_has ls 2 [(0, .ref a0), (1, .int y1)] → W p l e (rmk 2 44) s m [.ref a0, .int y1].toArray below meth c H locs 0 0 (MQ below (th_QM D cT T (fun v q2 => ∃ r : Int32, v = some (.int r) ∧ IV r 0 3 ∧ qkm q2 ∧ fr [27, 28, 29, 30, 31] q q2 ∧ (TS q2) ∧ (q 27 ≤ q2 27) ∧ (AD q q2)) [0]) [.ref a0, .int y1].toArray s 0 0 (th_A T [0])) (F0 m 0 ls []) := by
    intro H locs ls hH hS hl
    refine lv_aload_n hx hb dX11_known_0 rfl (lv_at hl 0 rfl) ?_
    refine th_callVp (n := 0) (As := []) S hK hH hS (th_A.sub (by decide)) (m_X11_isGood l D cT T q hT hq a0 t0) gm_1487 gm_1484 gm_1486 gm_49 gm_124 (by decide +kernel) ⟨rfl, rfl, Nat.le_of_ble_eq_true rfl, Nat.le_of_ble_eq_true rfl⟩ t0 km_0 rfl rfl hl.1 rfl (Nat.le_of_ble_eq_true rfl) dX11_known_1 ⟨Nat.zero_le _, Nat.zero_le _⟩ (fun x1 H locs ix1 ox1 hH hS hF1 => ?_)
    obtain ⟨ox1_0, ox1_1⟩ := ox1
    have ox1_0 : x1.toInt ≠ 0 → q 30 = 0 := ox1_0
    have ox1_1 : x1.toInt = 0 → 1 ≤ q 30 := ox1_1
    have l1x1 := ix1.1; have l2x1 := ix1.2
    refine lv_if_ne (tgt := 9) hx hb dX11_known_4 (by decide) (fun c2 => ?_) (fun c2 => ?_)
    · skip
      have rlc2 : x1.toInt ≠ (0 : Int) := iv_ne c2
      have ox1_0r := ox1_0 rlc2
      clear ox1_0
      clear ox1_1
      have ir3 : IV x1 1 1 := iv_cutL ix1 (iv_c (by decide) : IV 0 0 0) c2 (by decide)
      have ir3a := ir3.1; have ir3b := ir3.2
      clear rlc2
      refine lv_aload_n hx hb dX11_known_9 rfl (lv_at hl 0 rfl) ?_
      refine th_get S hK hH inG11 t0 km_0 rfl 8 (by decide) gm_1238 rfl rfl dX11_known_10 (fun v4 hv4 fv4 => ?_)
      obtain ⟨x5, rfl, ix5⟩ := th_V.int hv4
      have kx5 : x5.toInt = q 29 := Int.le_antisymm ix5.2 ix5.1
      have bx5 := qkm_29 hq
      have ix5 : IV x5 0 5 := iv_w ix5 (qkm_29 hq)
      refine lv_iconst (v := 2) hx hb dX11_known_13 (by decide) ?_
      refine lv_icmp_eq (tgt := 24) hx hb dX11_known_14 (by decide) (fun c6 => ?_) (fun c6 => ?_)
      · skip
        have rlc6 : x5.toInt = (2 : Int) := congrArg Int32.toInt c6
        have ir7 : IV x5 2 2 := iv_eL c6 (iv_c (by decide) : IV 2 2 2)
        have ir7a := ir7.1; have ir7b := ir7.2
        refine lv_iload_n hx hb dX11_known_24 rfl (lv_at hl 1 rfl) ?_
        refine lv_if_ge (tgt := 40) hx hb dX11_known_25 (by decide) (fun c8 => ?_) (fun c8 => ?_)
        · skip
          have rlc8 : (0 : Int) ≤ y1.toInt := iv_le c8
          have ir9 : IV y1 0 3 := iv_vR (iv_c (by decide) : IV 0 0 0) j1 (iv_le c8) (by decide)
          have ir9a := ir9.1; have ir9b := ir9.2
          refine lv_aload_n hx hb dX11_known_40 rfl (lv_at hl 0 rfl) ?_
          have le9 := TS_le hp0
          refine th_callVM (n := 0) (As := []) S hK hH hS (th_A.sub (by decide)) (m_X11_goOn l D cT T q hT hq a0 t0 (show q 28 ≤ q 26 by exact (TS_le hp0).2)) gm_1445 gm_1442 gm_1444 gm_47 gm_124 (by decide +kernel) ⟨rfl, rfl, Nat.le_of_ble_eq_true rfl, Nat.le_of_ble_eq_true rfl⟩ t0 km_0 rfl rfl hl.1 rfl (Nat.le_of_ble_eq_true rfl) dX11_known_41 ⟨Nat.zero_le _, Nat.zero_le _⟩ (fun wq10 q10 H locs hEq10 hH hS hF1 => ?_)
          obtain ⟨rfl, hqq10, g0q10, pq10_0, pq10_1, pq10_2⟩ := hEq10
          show W p l e (rmk 2 44) s m [.ref a0, .int y1].toArray below meth c H locs 0 0 (MQ below (th_QM D cT T (fun v q2 => ∃ r : Int32, v = some (.int r) ∧ IV r 0 3 ∧ qkm q2 ∧ fr [27, 28, 29, 30, 31] q q2 ∧ (TS q2) ∧ (q 27 ≤ q2 27) ∧ (AD q q2)) [0]) [.ref a0, .int y1].toArray s 0 0 (th_A T [0])) (F0 m 44 ls [])
          have pq10_0 : TS q10 := pq10_0
          have pq10_1 : q 28 ≤ q10 27 := pq10_1
          have pq10_2 : LX q q10 := pq10_2
          have wq10_26 : q10 26 = q 26 := g0q10 26 (by decide) (Or.inl (by decide))
          have wq10_30 : q10 30 = q 30 := g0q10 30 (by decide) (Or.inl (by decide))
          have h0q10 : fr [27, 28, 29, 30, 31] q q10 := fr_tr fr_rf g0q10 (by decide)
          have bgq10 : bg q q10 := bg_fr bg_rf g0q10 (by decide)
          have gdq10 : GD q q10 := GD_tr (GD_eq rfl) (GD_eq wq10_30)
          have gbq10 : GD q q10 := GD_tr (GD_eq rfl) (GD_eq wq10_30)
          refine lv_iload_n hx hb dX11_known_44 rfl (lv_at hl 1 rfl) ?_
          refine lv_if_ge (tgt := 52) hx hb dX11_known_45 (by decide) (fun c11 => ?_) (fun c11 => ?_)
          · skip
            have rlc11 : (0 : Int) ≤ y1.toInt := iv_le c11
            refine lv_iload_n hx hb dX11_known_52 rfl (lv_at hl 1 rfl) ?_
            exact th_iretM S hK hH hS hr hlocks ⟨_, rfl, ir9, hqq10, h0q10, (show TS q10 by exact pq10_0), (show q 27 ≤ q10 27 by omega), (show AD q q10 by first | exact AD_of (by omega) (by omega) (by omega) | exact AD_no (by omega))⟩ dX11_known_53
          · skip
            have rlc11 : y1.toInt < (0 : Int) := iv_nle c11
            exfalso
            have z1 := iv_nle c11
            have z2 := (ir9).1
            have z3 := (ir9).2
            have z4 := ((iv_c (by decide) : IV 0 0 0)).1
            have z5 := ((iv_c (by decide) : IV 0 0 0)).2
            omega
        · skip
          have rlc8 : y1.toInt < (0 : Int) := iv_nle c8
          have ir12 : IV y1 (-1) (-1) := iv_uL j1 (iv_c (by decide) : IV 0 0 0) (iv_nle c8) (by decide)
          have ir12a := ir12.1; have ir12b := ir12.2
          refine lv_aload_n hx hb dX11_known_28 rfl (lv_at hl 0 rfl) ?_
          refine lv_iconst (v := 5) hx hb dX11_known_29 (by decide) ?_
          refine lv_aload_n hx hb dX11_known_30 rfl (lv_at hl 0 rfl) ?_
          refine th_get S hK hH inG11 t0 km_0 rfl 6 (by decide) gm_1236 rfl rfl dX11_known_31 (fun v13 hv13 fv13 => ?_)
          obtain ⟨x14, rfl, ix14⟩ := th_V.int hv13
          have kx14 : x14.toInt = q 27 := Int.le_antisymm ix14.2 ix14.1
          have bx14 := qkm_27 hq
          have ix14 : IV x14 0 1600 := iv_w ix14 (qkm_27 hq)
          refine th_callVM (n := 2) (As := [.int 5, .int x14]) S hK hH hS (th_A.sub (by decide)) (m_X11_fails l D cT T q hT hq a0 t0 (5) (iv_w (iv_c (by decide) : IV 5 5 5) (by decide)) (x14) (iv_top _)) gm_1507 gm_1504 gm_1506 gm_54 gm_124 (by decide +kernel) ⟨rfl, rfl, Nat.le_of_ble_eq_true rfl, Nat.le_of_ble_eq_true rfl⟩ t0 km_0 rfl rfl hl.1 rfl (Nat.le_of_ble_eq_true rfl) dX11_known_34 ⟨Nat.zero_le _, Nat.zero_le _⟩ (fun wq15 q15 H locs hEq15 hH hS hF1 => ?_)
          obtain ⟨rfl, hqq15, g0q15, pq15_0⟩ := hEq15
          show W p l e (rmk 2 44) s m [.ref a0, .int y1].toArray below meth c H locs 0 0 (MQ below (th_QM D cT T (fun v q2 => ∃ r : Int32, v = some (.int r) ∧ IV r 0 3 ∧ qkm q2 ∧ fr [27, 28, 29, 30, 31] q q2 ∧ (TS q2) ∧ (q 27 ≤ q2 27) ∧ (AD q q2)) [0]) [.ref a0, .int y1].toArray s 0 0 (th_A T [0])) (F0 m 37 ls [])
          have pq15_0 : 1 ≤ q15 30 := pq15_0
          have wq15_26 : q15 26 = q 26 := g0q15 26 (by decide) (Or.inl (by decide))
          have wq15_27 : q15 27 = q 27 := g0q15 27 (by decide) (Or.inl (by decide))
          have wq15_28 : q15 28 = q 28 := g0q15 28 (by decide) (Or.inl (by decide))
          have wq15_29 : q15 29 = q 29 := g0q15 29 (by decide) (Or.inl (by decide))
          have wq15_31 : q15 31 = q 31 := g0q15 31 (by decide) (Or.inl (by decide))
          have h0q15 : fr [27, 28, 29, 30, 31] q q15 := fr_tr fr_rf g0q15 (by decide)
          have bgq15 : bg q q15 := bg_fr bg_rf g0q15 (by decide)
          have gdq15 : GD q q15 := GD_tr (GD_eq rfl) (GD_no pq15_0)
          have gbq15 : GD q q15 := GD_tr (GD_eq rfl) (GD_no pq15_0)
          have txq15 : tx q q15 := tx_tr tx_rf (tx_bg (bg_fr bg_rf g0q15 (by decide)))
          refine lv_goto (tgt := 44) hx hb dX11_known_37 (by decide) ?_
          refine lv_iload_n hx hb dX11_known_44 rfl (lv_at hl 1 rfl) ?_
          refine lv_if_ge (tgt := 52) hx hb dX11_known_45 (by decide) (fun c16 => ?_) (fun c16 => ?_)
          · skip
            have rlc16 : (0 : Int) ≤ y1.toInt := iv_le c16
            exfalso
            have z1 := iv_le c16
            have z2 := (ir12).1
            have z3 := (ir12).2
            have z4 := ((iv_c (by decide) : IV 0 0 0)).1
            have z5 := ((iv_c (by decide) : IV 0 0 0)).2
            omega
          · skip
            have rlc16 : y1.toInt < (0 : Int) := iv_nle c16
            refine lv_iconst (v := 0) hx hb dX11_known_48 (by decide) ?_
            refine lv_goto (tgt := 53) hx hb dX11_known_49 (by decide) ?_
            exact th_iretM S hK hH hS hr hlocks ⟨_, rfl, (iv_w (iv_c (by decide) : IV 0 0 0) (by decide)), hqq15, h0q15, (show TS q15 by exact (TS_mv hp0 txq15 (by omega) (by omega) (by omega) (by omega) (by omega) (fun z => by omega))), (show q 27 ≤ q15 27 by omega), (show AD q q15 by first | exact AD_of (by omega) (by omega) (by omega) | exact AD_no (by omega))⟩ dX11_known_53
      · skip
        have rlc6 : x5.toInt ≠ (2 : Int) := iv_ne c6
        clear rlc6
        refine lv_aload_n hx hb dX11_known_17 rfl (lv_at hl 0 rfl) ?_
        refine th_callVM (n := 0) (As := []) S hK hH hS (th_A.sub (by decide)) (m_X11_misplaced l D cT T q hT hq a0 t0) gm_1503 gm_1500 gm_1502 gm_53 gm_124 (by decide +kernel) ⟨rfl, rfl, Nat.le_of_ble_eq_true rfl, Nat.le_of_ble_eq_true rfl⟩ t0 km_0 rfl rfl hl.1 rfl (Nat.le_of_ble_eq_true rfl) dX11_known_18 ⟨Nat.zero_le _, Nat.zero_le _⟩ (fun wq17 q17 H locs hEq17 hH hS hF1 => ?_)
        obtain ⟨rfl, hqq17, g0q17, pq17_0⟩ := hEq17
        show W p l e (rmk 2 44) s m [.ref a0, .int y1].toArray below meth c H locs 0 0 (MQ below (th_QM D cT T (fun v q2 => ∃ r : Int32, v = some (.int r) ∧ IV r 0 3 ∧ qkm q2 ∧ fr [27, 28, 29, 30, 31] q q2 ∧ (TS q2) ∧ (q 27 ≤ q2 27) ∧ (AD q q2)) [0]) [.ref a0, .int y1].toArray s 0 0 (th_A T [0])) (F0 m 21 ls [])
        have pq17_0 : 1 ≤ q17 30 := pq17_0
        have wq17_26 : q17 26 = q 26 := g0q17 26 (by decide) (Or.inl (by decide))
        have wq17_27 : q17 27 = q 27 := g0q17 27 (by decide) (Or.inl (by decide))
        have wq17_28 : q17 28 = q 28 := g0q17 28 (by decide) (Or.inl (by decide))
        have wq17_29 : q17 29 = q 29 := g0q17 29 (by decide) (Or.inl (by decide))
        have wq17_31 : q17 31 = q 31 := g0q17 31 (by decide) (Or.inl (by decide))
        have h0q17 : fr [27, 28, 29, 30, 31] q q17 := fr_tr fr_rf g0q17 (by decide)
        have bgq17 : bg q q17 := bg_fr bg_rf g0q17 (by decide)
        have gdq17 : GD q q17 := GD_tr (GD_eq rfl) (GD_no pq17_0)
        have gbq17 : GD q q17 := GD_tr (GD_eq rfl) (GD_no pq17_0)
        have txq17 : tx q q17 := tx_tr tx_rf (tx_bg (bg_fr bg_rf g0q17 (by decide)))
        refine lv_goto (tgt := 44) hx hb dX11_known_21 (by decide) ?_
        refine lv_iload_n hx hb dX11_known_44 rfl (lv_at hl 1 rfl) ?_
        refine lv_if_ge (tgt := 52) hx hb dX11_known_45 (by decide) (fun c18 => ?_) (fun c18 => ?_)
        · skip
          have rlc18 : (0 : Int) ≤ y1.toInt := iv_le c18
          have ir19 : IV y1 0 3 := iv_vR (iv_c (by decide) : IV 0 0 0) j1 (iv_le c18) (by decide)
          have ir19a := ir19.1; have ir19b := ir19.2
          refine lv_iload_n hx hb dX11_known_52 rfl (lv_at hl 1 rfl) ?_
          exact th_iretM S hK hH hS hr hlocks ⟨_, rfl, ir19, hqq17, h0q17, (show TS q17 by exact (TS_mv hp0 txq17 (by omega) (by omega) (by omega) (by omega) (by omega) (fun z => by omega))), (show q 27 ≤ q17 27 by omega), (show AD q q17 by first | exact AD_of (by omega) (by omega) (by omega) | exact AD_no (by omega))⟩ dX11_known_53
        · skip
          have rlc18 : y1.toInt < (0 : Int) := iv_nle c18
          have ir20 : IV y1 (-1) (-1) := iv_uL j1 (iv_c (by decide) : IV 0 0 0) (iv_nle c18) (by decide)
          have ir20a := ir20.1; have ir20b := ir20.2
          refine lv_iconst (v := 0) hx hb dX11_known_48 (by decide) ?_
          refine lv_goto (tgt := 53) hx hb dX11_known_49 (by decide) ?_
          exact th_iretM S hK hH hS hr hlocks ⟨_, rfl, (iv_w (iv_c (by decide) : IV 0 0 0) (by decide)), hqq17, h0q17, (show TS q17 by exact (TS_mv hp0 txq17 (by omega) (by omega) (by omega) (by omega) (by omega) (fun z => by omega))), (show q 27 ≤ q17 27 by omega), (show AD q q17 by first | exact AD_of (by omega) (by omega) (by omega) | exact AD_no (by omega))⟩ dX11_known_53
    · skip
      have rlc2 : x1.toInt = (0 : Int) := congrArg Int32.toInt c2
      clear ox1_0
      have ox1_1r := ox1_1 rlc2
      clear ox1_1
      have ir21 : IV x1 0 0 := iv_eL c2 (iv_c (by decide) : IV 0 0 0)
      have ir21a := ir21.1; have ir21b := ir21.2
      refine lv_iconst (v := 0) hx hb dX11_known_7 (by decide) ?_
      exact th_iretM S hK hH hS hr hlocks ⟨_, rfl, (iv_w (iv_c (by decide) : IV 0 0 0) (by decide)), hq, fr_rf, (show TS q by exact hp0), (show q 27 ≤ q 27 by omega), (show AD q q by first | exact AD_of (by omega) (by omega) (by omega) | exact AD_no (by omega))⟩ dX11_known_8
  exact J0 s.heap [] ls hH va_S.rf hl
