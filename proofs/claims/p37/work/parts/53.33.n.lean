theorem dX11_house_0 : decode cX11_house 0 = .ok (.aload_n 0, 1) := by decide +kernel
theorem dX11_house_1 : decode cX11_house 1 = .ok (.iconst 0, 1) := by decide +kernel
theorem dX11_house_2 : decode cX11_house 2 = .ok (.putfield 158, 3) := by decide +kernel
theorem dX11_house_5 : decode cX11_house 5 = .ok (.aload_n 0, 1) := by decide +kernel
theorem dX11_house_6 : decode cX11_house 6 = .ok (.iconst (-1), 1) := by decide +kernel
theorem dX11_house_7 : decode cX11_house 7 = .ok (.putfield 16, 3) := by decide +kernel
theorem dX11_house_10 : decode cX11_house 10 = .ok (.aload_n 0, 1) := by decide +kernel
theorem dX11_house_11 : decode cX11_house 11 = .ok (.aload_n 0, 1) := by decide +kernel
theorem dX11_house_12 : decode cX11_house 12 = .ok (.getfield 270, 3) := by decide +kernel
theorem dX11_house_15 : decode cX11_house 15 = .ok (.putfield 155, 3) := by decide +kernel
theorem dX11_house_18 : decode cX11_house 18 = .ok (.iconst 0, 1) := by decide +kernel
theorem dX11_house_19 : decode cX11_house 19 = .ok (.istore_n 1, 1) := by decide +kernel
theorem dX11_house_20 : decode cX11_house 20 = .ok (.iload_n 1, 1) := by decide +kernel
theorem dX11_house_21 : decode cX11_house 21 = .ok (.aload_n 0, 1) := by decide +kernel
theorem dX11_house_22 : decode cX11_house 22 = .ok (.getfield 155, 3) := by decide +kernel
theorem dX11_house_25 : decode cX11_house 25 = .ok (.if_icmp .ge 21, 3) := by decide +kernel
theorem dX11_house_28 : decode cX11_house 28 = .ok (.aload_n 0, 1) := by decide +kernel
theorem dX11_house_29 : decode cX11_house 29 = .ok (.getfield 13, 3) := by decide +kernel
theorem dX11_house_32 : decode cX11_house 32 = .ok (.iload_n 1, 1) := by decide +kernel
theorem dX11_house_33 : decode cX11_house 33 = .ok (.aload_n 0, 1) := by decide +kernel
theorem dX11_house_34 : decode cX11_house 34 = .ok (.getfield 7, 3) := by decide +kernel
theorem dX11_house_37 : decode cX11_house 37 = .ok (.iload_n 1, 1) := by decide +kernel
theorem dX11_house_38 : decode cX11_house 38 = .ok (.baload, 1) := by decide +kernel
theorem dX11_house_39 : decode cX11_house 39 = .ok (.bastore, 1) := by decide +kernel
theorem dX11_house_40 : decode cX11_house 40 = .ok (.iinc 1 1, 3) := by decide +kernel
theorem dX11_house_43 : decode cX11_house 43 = .ok (.goto (-23), 3) := by decide +kernel
theorem dX11_house_46 : decode cX11_house 46 = .ok (.aload_n 0, 1) := by decide +kernel
theorem dX11_house_47 : decode cX11_house 47 = .ok (.iconst 0, 1) := by decide +kernel
theorem dX11_house_48 : decode cX11_house 48 = .ok (.putfield 270, 3) := by decide +kernel
theorem dX11_house_51 : decode cX11_house 51 = .ok (.aload_n 0, 1) := by decide +kernel
theorem dX11_house_52 : decode cX11_house 52 = .ok (.iconst 0, 1) := by decide +kernel
theorem dX11_house_53 : decode cX11_house 53 = .ok (.putfield 205, 3) := by decide +kernel
theorem dX11_house_56 : decode cX11_house 56 = .ok (.aload_n 0, 1) := by decide +kernel
theorem dX11_house_57 : decode cX11_house 57 = .ok (.iconst 1, 1) := by decide +kernel
theorem dX11_house_58 : decode cX11_house 58 = .ok (.aload_n 0, 1) := by decide +kernel
theorem dX11_house_59 : decode cX11_house 59 = .ok (.getfield 273, 3) := by decide +kernel
theorem dX11_house_62 : decode cX11_house 62 = .ok (.isub, 1) := by decide +kernel
theorem dX11_house_63 : decode cX11_house 63 = .ok (.putfield 264, 3) := by decide +kernel
theorem dX11_house_66 : decode cX11_house 66 = .ok (.aload_n 0, 1) := by decide +kernel
theorem dX11_house_67 : decode cX11_house 67 = .ok (.invokevirtual 149, 3) := by decide +kernel
theorem dX11_house_70 : decode cX11_house 70 = .ok (.aload_n 0, 1) := by decide +kernel
theorem dX11_house_71 : decode cX11_house 71 = .ok (.invokevirtual 247, 3) := by decide +kernel
theorem dX11_house_74 : decode cX11_house 74 = .ok (.aload_n 0, 1) := by decide +kernel
theorem dX11_house_75 : decode cX11_house 75 = .ok (.invokevirtual 243, 3) := by decide +kernel
theorem dX11_house_78 : decode cX11_house 78 = .ok (.ifCond .eq 17, 3) := by decide +kernel
theorem dX11_house_81 : decode cX11_house 81 = .ok (.aload_n 0, 1) := by decide +kernel
theorem dX11_house_82 : decode cX11_house 82 = .ok (.getfield 215, 3) := by decide +kernel
theorem dX11_house_85 : decode cX11_house 85 = .ok (.ifCond .eq 10, 3) := by decide +kernel
theorem dX11_house_88 : decode cX11_house 88 = .ok (.aload_n 0, 1) := by decide +kernel
theorem dX11_house_89 : decode cX11_house 89 = .ok (.invokevirtual 276, 3) := by decide +kernel
theorem dX11_house_92 : decode cX11_house 92 = .ok (.goto (-18), 3) := by decide +kernel
theorem dX11_house_95 : decode cX11_house 95 = .ok (.aload_n 0, 1) := by decide +kernel
theorem dX11_house_96 : decode cX11_house 96 = .ok (.invokevirtual 243, 3) := by decide +kernel
theorem dX11_house_99 : decode cX11_house 99 = .ok (.ifCond .ne 5, 3) := by decide +kernel
theorem dX11_house_102 : decode cX11_house 102 = .ok (.iconst (-1), 1) := by decide +kernel
theorem dX11_house_103 : decode cX11_house 103 = .ok (.ireturn, 1) := by decide +kernel
theorem dX11_house_104 : decode cX11_house 104 = .ok (.aload_n 0, 1) := by decide +kernel
theorem dX11_house_105 : decode cX11_house 105 = .ok (.aload_n 0, 1) := by decide +kernel
theorem dX11_house_106 : decode cX11_house 106 = .ok (.getfield 264, 3) := by decide +kernel
theorem dX11_house_109 : decode cX11_house 109 = .ok (.putfield 273, 3) := by decide +kernel
theorem dX11_house_112 : decode cX11_house 112 = .ok (.aload_n 0, 1) := by decide +kernel
theorem dX11_house_113 : decode cX11_house 113 = .ok (.invokevirtual 152, 3) := by decide +kernel
theorem dX11_house_116 : decode cX11_house 116 = .ok (.aload_n 0, 1) := by decide +kernel
theorem dX11_house_117 : decode cX11_house 117 = .ok (.getfield 24, 3) := by decide +kernel
theorem dX11_house_120 : decode cX11_house 120 = .ok (.aload_n 0, 1) := by decide +kernel
theorem dX11_house_121 : decode cX11_house 121 = .ok (.getfield 273, 3) := by decide +kernel
theorem dX11_house_124 : decode cX11_house 124 = .ok (.iaload, 1) := by decide +kernel
theorem dX11_house_125 : decode cX11_house 125 = .ok (.ireturn, 1) := by decide +kernel
set_option maxHeartbeats 20000000 in
set_option maxRecDepth 100000 in
theorem J74_X11_house (l : Launch) (D : va_G) (cT : Nat → ClassId) (T : Nat → Option Nat) (q : Nat → Int) (hT : tokm T) (hq : qkm q) (a0 : Nat) (t0 : T a0 = some 0) (hp0 : q 7 + q 8 ≤ 40) (p : Program) (e : Env) (s : State) (m : MethodId) (below : List Frame) (meth : Method) (c : Code) (S : CallFix p m c cX11_house 2 s [.ref a0].toArray gw yX11_house.cls) (hK : va_K D classes (th_tys cT) s) (hr : meth.sig.returnType = (some .int)) (hlocks : meth.locks = false) : ∀ (n : Nat) (q74 : Nat → Int) (H : Heap) (locs : List Loc) (ls : Array Slot), qkm q74 → fr [7, 8, 10, 11, 12, 13, 14, 15, 16, 17, 18, 19, 20, 21, 22, 23, 24, 25, 26, 27, 28, 29, 30, 31, 35, 1000] q q74 → (TS q74) → (q74 13 = 1 - q74 10) → (MB q74 (q74 14) (q74 15)) → (q74 7 = q 7 ∧ q74 8 = q 8) → (q74 14 ≤ 4) → th_H D cT T (km q74) H → va_S (th_A T [0, 2, 3, 4, 5, 6, 7, 8, 9, 10, 11, 12, 13, 14, 15, 16, 17, 18, 19, 20, 21, 22, 23, 24, 25, 26, 27, 28, 29, 30, 31, 33, 44]) s.heap H locs → lv_has ls 2 [(0, .ref a0)] → (5000 * (5 - q74 30) + (1600 - q74 27)).toNat < n → W p l e (rmk 8 173) s m [.ref a0].toArray below meth c H locs 0 0 (MQ below (th_QM D cT T (fun v q2 => ∃ r : Int32, v = some (.int r) ∧ IV r (-1) 4 ∧ qkm q2 ∧ fr [7, 8, 10, 11, 12, 13, 14, 15, 16, 17, 18, 19, 20, 21, 22, 23, 24, 25, 26, 27, 28, 29, 30, 31, 35, 1000] q q2 ∧ (q2 7 + q2 8 ≤ 40)) [0, 2, 3, 4, 5, 6, 7, 8, 9, 10, 11, 12, 13, 14, 15, 16, 17, 18, 19, 20, 21, 22, 23, 24, 25, 26, 27, 28, 29, 30, 31, 33, 44]) [.ref a0].toArray s 0 0 (th_A T [0, 2, 3, 4, 5, 6, 7, 8, 9, 10, 11, 12, 13, 14, 15, 16, 17, 18, 19, 20, 21, 22, 23, 24, 25, 26, 27, 28, 29, 30, 31, 33, 44])) (F0 m 74 ls []) := by
    have hx := S.1
    have hb := S.2.1
    have c10 := qkm_10 hq; have c13 := qkm_13 hq; have c26 := qkm_26 hq; have c27 := qkm_27 hq
    intro n
    induction n with
    | zero => intro q74 H locs ls hq74 h074 v74_inv0 v74_inv1 v74_inv2 v74_inv3 v74_inv4 hH hS hl hn; exact absurd hn (Nat.not_lt_zero _)
    | succ n ih74 =>
      intro q74 H locs ls hq74 h074 v74_inv0 v74_inv1 v74_inv2 v74_inv3 v74_inv4 hH hS hl hn74
      have d10 := qkm_10 hq74; have d13 := qkm_13 hq74; have d14 := qkm_14 hq74; have d20 := qkm_20 hq74; have d26 := qkm_26 hq74; have d27 := qkm_27 hq74; have d28 := qkm_28 hq74; have d30 := qkm_30 hq74
      refine lv_aload_n hx hb dX11_house_74 rfl (lv_at hl 0 rfl) ?_
      refine th_callVp (n := 0) (As := []) S hK hH hS (th_A.sub (by decide)) (m_X11_isGood l D cT T q74 hT hq74 a0 t0) gm_1487 gm_1484 gm_1486 gm_49 gm_124 (by decide +kernel) ⟨rfl, rfl, Nat.le_of_ble_eq_true rfl, Nat.le_of_ble_eq_true rfl⟩ t0 km_0 rfl rfl hl.1 rfl (Nat.le_of_ble_eq_true rfl) dX11_house_75 ⟨Nat.zero_le _, Nat.zero_le _⟩ (fun x1 H locs ix1 ox1 hH hS hF1 => ?_)
      obtain ⟨ox1_0, ox1_1⟩ := ox1
      have ox1_0 : x1.toInt ≠ 0 → q74 30 = 0 := ox1_0
      have ox1_1 : x1.toInt = 0 → 1 ≤ q74 30 := ox1_1
      have l1x1 := ix1.1; have l2x1 := ix1.2
      refine lv_if_eq (tgt := 95) hx hb dX11_house_78 (by decide) (fun c2 => ?_) (fun c2 => ?_)
      · skip
        have rlc2 : x1.toInt = (0 : Int) := congrArg Int32.toInt c2
        clear ox1_0
        have ox1_1r := ox1_1 rlc2
        clear ox1_1
        have ir3 : IV x1 0 0 := iv_eL c2 (iv_c (by decide) : IV 0 0 0)
        have ir3a := ir3.1; have ir3b := ir3.2
        refine lv_aload_n hx hb dX11_house_95 rfl (lv_at hl 0 rfl) ?_
        refine th_callVp (n := 0) (As := []) S hK hH hS (th_A.sub (by decide)) (m_X11_isGood l D cT T q74 hT hq74 a0 t0) gm_1487 gm_1484 gm_1486 gm_49 gm_124 (by decide +kernel) ⟨rfl, rfl, Nat.le_of_ble_eq_true rfl, Nat.le_of_ble_eq_true rfl⟩ t0 km_0 rfl rfl hl.1 rfl (Nat.le_of_ble_eq_true rfl) dX11_house_96 ⟨Nat.zero_le _, Nat.zero_le _⟩ (fun x4 H locs ix4 ox4 hH hS hF1 => ?_)
        obtain ⟨ox4_0, ox4_1⟩ := ox4
        have ox4_0 : x4.toInt ≠ 0 → q74 30 = 0 := ox4_0
        have ox4_1 : x4.toInt = 0 → 1 ≤ q74 30 := ox4_1
        have l1x4 := ix4.1; have l2x4 := ix4.2
        refine lv_if_ne (tgt := 104) hx hb dX11_house_99 (by decide) (fun c5 => ?_) (fun c5 => ?_)
        · skip
          have rlc5 : x4.toInt ≠ (0 : Int) := iv_ne c5
          have ox4_0r := ox4_0 rlc5
          clear ox4_0
          clear ox4_1
          have ir6 : IV x4 1 1 := iv_cutL ix4 (iv_c (by decide) : IV 0 0 0) c5 (by decide)
          have ir6a := ir6.1; have ir6b := ir6.2
          clear rlc5
          have hmb := v74_inv2 (by omega)
          refine lv_aload_n hx hb dX11_house_104 rfl (lv_at hl 0 rfl) ?_
          refine lv_aload_n hx hb dX11_house_105 rfl (lv_at hl 0 rfl) ?_
          refine th_get S hK hH inG11 t0 km_0 rfl 42 (by decide) gm_1272 rfl rfl dX11_house_106 (fun v7 hv7 fv7 => ?_)
          obtain ⟨x8, rfl, ix8⟩ := th_V.int hv7
          have kx8 : x8.toInt = q74 13 := Int.le_antisymm ix8.2 ix8.1
          have bx8 := qkm_13 hq74
          have ix8 : IV x8 0 1 := iv_w ix8 (qkm_13 hq74)
          refine mput_bank S hK hH hS ⟨0, by decide, t0⟩ hT t0 (show x8.toInt = q74 13 by omega) (by omega) (qkm_10 hq74) gm_1271 dX11_house_109 (fun q9 H locs eq9 hH hS hq1 => ?_)
          have hqq9 : qkm q9 := by rw [eq9]; exact qkm_sw hq74 hmb (by omega)
          have h0q9 : fr [7, 8, 10, 11, 12, 13, 14, 15, 16, 17, 18, 19, 20, 21, 22, 23, 24, 25, 26, 27, 28, 29, 30, 31, 35, 1000] q q9 := by rw [eq9]; exact fr_sw h074 (by decide) (by decide)
          refine lv_aload_n hx hb dX11_house_112 rfl (lv_at hl 0 rfl) ?_
          refine th_callVM (n := 0) (As := []) S hK hH hS (th_A.sub (by decide)) (m_X11_startAnew l D cT T q9 hT hqq9 a0 t0) gm_1225 gm_1222 gm_1224 gm_45 gm_124 (by decide +kernel) ⟨rfl, rfl, Nat.le_of_ble_eq_true rfl, Nat.le_of_ble_eq_true rfl⟩ t0 km_0 rfl rfl hl.1 rfl (Nat.le_of_ble_eq_true rfl) dX11_house_113 ⟨Nat.zero_le _, Nat.zero_le _⟩ (fun wq10 q10 H locs hEq10 hH hS hF1 => ?_)
          obtain ⟨rfl, hqq10, g0q10, pq10_0, pq10_1⟩ := hEq10
          show W p l e (rmk 8 173) s m [.ref a0].toArray below meth c H locs 0 0 (MQ below (th_QM D cT T (fun v q2 => ∃ r : Int32, v = some (.int r) ∧ IV r (-1) 4 ∧ qkm q2 ∧ fr [7, 8, 10, 11, 12, 13, 14, 15, 16, 17, 18, 19, 20, 21, 22, 23, 24, 25, 26, 27, 28, 29, 30, 31, 35, 1000] q q2 ∧ (q2 7 + q2 8 ≤ 40)) [0, 2, 3, 4, 5, 6, 7, 8, 9, 10, 11, 12, 13, 14, 15, 16, 17, 18, 19, 20, 21, 22, 23, 24, 25, 26, 27, 28, 29, 30, 31, 33, 44]) [.ref a0].toArray s 0 0 (th_A T [0, 2, 3, 4, 5, 6, 7, 8, 9, 10, 11, 12, 13, 14, 15, 16, 17, 18, 19, 20, 21, 22, 23, 24, 25, 26, 27, 28, 29, 30, 31, 33, 44])) (F0 m 116 ls [])
          have pq10_0 : q10 7 = 0 := pq10_0
          have pq10_1 : q10 8 = 0 := pq10_1
          have wq10_10 : q10 10 = q9 10 := g0q10 10 (by decide) (Or.inl (by decide))
          have wq10_13 : q10 13 = q9 13 := g0q10 13 (by decide) (Or.inl (by decide))
          have wq10_14 : q10 14 = q9 14 := g0q10 14 (by decide) (Or.inl (by decide))
          have wq10_15 : q10 15 = q9 15 := g0q10 15 (by decide) (Or.inl (by decide))
          have wq10_20 : q10 20 = q9 20 := g0q10 20 (by decide) (Or.inl (by decide))
          have wq10_21 : q10 21 = q9 21 := g0q10 21 (by decide) (Or.inl (by decide))
          have wq10_22 : q10 22 = q9 22 := g0q10 22 (by decide) (Or.inl (by decide))
          have wq10_23 : q10 23 = q9 23 := g0q10 23 (by decide) (Or.inl (by decide))
          have wq10_24 : q10 24 = q9 24 := g0q10 24 (by decide) (Or.inl (by decide))
          have wq10_26 : q10 26 = q9 26 := g0q10 26 (by decide) (Or.inl (by decide))
          have wq10_27 : q10 27 = q9 27 := g0q10 27 (by decide) (Or.inl (by decide))
          have wq10_28 : q10 28 = q9 28 := g0q10 28 (by decide) (Or.inl (by decide))
          have wq10_29 : q10 29 = q9 29 := g0q10 29 (by decide) (Or.inl (by decide))
          have wq10_30 : q10 30 = q9 30 := g0q10 30 (by decide) (Or.inl (by decide))
          have wq10_31 : q10 31 = q9 31 := g0q10 31 (by decide) (Or.inl (by decide))
          have wq10_35 : q10 35 = q9 35 := g0q10 35 (by decide) (Or.inl (by decide))
          have h0q10 : fr [7, 8, 10, 11, 12, 13, 14, 15, 16, 17, 18, 19, 20, 21, 22, 23, 24, 25, 26, 27, 28, 29, 30, 31, 35, 1000] q q10 := fr_tr h0q9 g0q10 (by decide)
          have bgq10 : bg q9 q10 := bg_fr bg_rf g0q10 (by decide)
          have gbq10 : GD q9 q10 := GD_tr (GD_eq rfl) (GD_eq wq10_30)
          refine lv_aload_n hx hb dX11_house_116 rfl (lv_at hl 0 rfl) ?_
          refine th_get S hK hH inG11 t0 km_0 rfl 12 (by decide) gm_1242 rfl rfl dX11_house_117 (fun v11 hv11 fv11 => ?_)
          obtain ⟨rf12, rfl, trf12⟩ := th_V.ref hv11
          refine lv_aload_n hx hb dX11_house_120 rfl (lv_at hl 0 rfl) ?_
          refine th_get S hK hH inG11 t0 km_0 rfl 41 (by decide) gm_1271 rfl rfl dX11_house_121 (fun v13 hv13 fv13 => ?_)
          obtain ⟨x14, rfl, ix14⟩ := th_V.int hv13
          have kx14 : x14.toInt = q10 10 := Int.le_antisymm ix14.2 ix14.1
          have bx14 := qkm_10 hqq10
          have ix14 : IV x14 0 1 := iv_w ix14 (qkm_10 hqq10)
          refine th_iald S hK hH trf12 km_4 (th_in (hi := 1) ix14 (by decide)) dX11_house_124 (fun v15 hv15 => ?_)
          obtain ⟨x16, rfl, ix16⟩ := th_bkA hv15 ix14 (by omega)
          have kx16 : x16.toInt = q10 11 := Int.le_antisymm ix16.2 ix16.1
          have ix16 : IV x16 0 4 := iv_w ix16 (qkm_11 hqq10)
          exact th_iretM S hK hH hS hr hlocks ⟨_, rfl, (iv_w ix16 (by decide)), hqq10, h0q10, (show q10 7 + q10 8 ≤ 40 by omega)⟩ dX11_house_125
        · skip
          have rlc5 : x4.toInt = (0 : Int) := congrArg Int32.toInt c5
          clear ox4_0
          have ox4_1r := ox4_1 rlc5
          clear ox4_1
          have ir17 : IV x4 0 0 := iv_eL c5 (iv_c (by decide) : IV 0 0 0)
          have ir17a := ir17.1; have ir17b := ir17.2
          refine lv_iconst (v := (-1)) hx hb dX11_house_102 (by decide) ?_
          exact th_iretM S hK hH hS hr hlocks ⟨_, rfl, (iv_w (iv_c (by decide) : IV (-1) (-1) (-1)) (by decide)), hq74, h074, (show q74 7 + q74 8 ≤ 40 by omega)⟩ dX11_house_103
      · skip
        have rlc2 : x1.toInt ≠ (0 : Int) := iv_ne c2
        have ox1_0r := ox1_0 rlc2
        clear ox1_0
        clear ox1_1
        have ir18 : IV x1 1 1 := iv_cutL ix1 (iv_c (by decide) : IV 0 0 0) c2 (by decide)
        have ir18a := ir18.1; have ir18b := ir18.2
        clear rlc2
        refine lv_aload_n hx hb dX11_house_81 rfl (lv_at hl 0 rfl) ?_
        refine th_get S hK hH inG11 t0 km_0 rfl 8 (by decide) gm_1238 rfl rfl dX11_house_82 (fun v19 hv19 fv19 => ?_)
        obtain ⟨x20, rfl, ix20⟩ := th_V.int hv19
        have kx20 : x20.toInt = q74 29 := Int.le_antisymm ix20.2 ix20.1
        have bx20 := qkm_29 hq74
        have ix20 : IV x20 0 5 := iv_w ix20 (qkm_29 hq74)
        refine lv_if_eq (tgt := 95) hx hb dX11_house_85 (by decide) (fun c21 => ?_) (fun c21 => ?_)
        · skip
          have rlc21 : x20.toInt = (0 : Int) := congrArg Int32.toInt c21
          have ir22 : IV x20 0 0 := iv_eL c21 (iv_c (by decide) : IV 0 0 0)
          have ir22a := ir22.1; have ir22b := ir22.2
          refine lv_aload_n hx hb dX11_house_95 rfl (lv_at hl 0 rfl) ?_
          refine th_callVp (n := 0) (As := []) S hK hH hS (th_A.sub (by decide)) (m_X11_isGood l D cT T q74 hT hq74 a0 t0) gm_1487 gm_1484 gm_1486 gm_49 gm_124 (by decide +kernel) ⟨rfl, rfl, Nat.le_of_ble_eq_true rfl, Nat.le_of_ble_eq_true rfl⟩ t0 km_0 rfl rfl hl.1 rfl (Nat.le_of_ble_eq_true rfl) dX11_house_96 ⟨Nat.zero_le _, Nat.zero_le _⟩ (fun x23 H locs ix23 ox23 hH hS hF1 => ?_)
          obtain ⟨ox23_0, ox23_1⟩ := ox23
          have ox23_0 : x23.toInt ≠ 0 → q74 30 = 0 := ox23_0
          have ox23_1 : x23.toInt = 0 → 1 ≤ q74 30 := ox23_1
          have l1x23 := ix23.1; have l2x23 := ix23.2
          refine lv_if_ne (tgt := 104) hx hb dX11_house_99 (by decide) (fun c24 => ?_) (fun c24 => ?_)
          · skip
            have rlc24 : x23.toInt ≠ (0 : Int) := iv_ne c24
            have ox23_0r := ox23_0 rlc24
            clear ox23_0
            clear ox23_1
            have ir25 : IV x23 1 1 := iv_cutL ix23 (iv_c (by decide) : IV 0 0 0) c24 (by decide)
            have ir25a := ir25.1; have ir25b := ir25.2
            clear rlc24
            have hmb := v74_inv2 (by omega)
            refine lv_aload_n hx hb dX11_house_104 rfl (lv_at hl 0 rfl) ?_
            refine lv_aload_n hx hb dX11_house_105 rfl (lv_at hl 0 rfl) ?_
            refine th_get S hK hH inG11 t0 km_0 rfl 42 (by decide) gm_1272 rfl rfl dX11_house_106 (fun v26 hv26 fv26 => ?_)
            obtain ⟨x27, rfl, ix27⟩ := th_V.int hv26
            have kx27 : x27.toInt = q74 13 := Int.le_antisymm ix27.2 ix27.1
            have bx27 := qkm_13 hq74
            have ix27 : IV x27 0 1 := iv_w ix27 (qkm_13 hq74)
            refine mput_bank S hK hH hS ⟨0, by decide, t0⟩ hT t0 (show x27.toInt = q74 13 by omega) (by omega) (qkm_10 hq74) gm_1271 dX11_house_109 (fun q28 H locs eq28 hH hS hq1 => ?_)
            have hqq28 : qkm q28 := by rw [eq28]; exact qkm_sw hq74 hmb (by omega)
            have h0q28 : fr [7, 8, 10, 11, 12, 13, 14, 15, 16, 17, 18, 19, 20, 21, 22, 23, 24, 25, 26, 27, 28, 29, 30, 31, 35, 1000] q q28 := by rw [eq28]; exact fr_sw h074 (by decide) (by decide)
            refine lv_aload_n hx hb dX11_house_112 rfl (lv_at hl 0 rfl) ?_
            refine th_callVM (n := 0) (As := []) S hK hH hS (th_A.sub (by decide)) (m_X11_startAnew l D cT T q28 hT hqq28 a0 t0) gm_1225 gm_1222 gm_1224 gm_45 gm_124 (by decide +kernel) ⟨rfl, rfl, Nat.le_of_ble_eq_true rfl, Nat.le_of_ble_eq_true rfl⟩ t0 km_0 rfl rfl hl.1 rfl (Nat.le_of_ble_eq_true rfl) dX11_house_113 ⟨Nat.zero_le _, Nat.zero_le _⟩ (fun wq29 q29 H locs hEq29 hH hS hF1 => ?_)
            obtain ⟨rfl, hqq29, g0q29, pq29_0, pq29_1⟩ := hEq29
            show W p l e (rmk 8 173) s m [.ref a0].toArray below meth c H locs 0 0 (MQ below (th_QM D cT T (fun v q2 => ∃ r : Int32, v = some (.int r) ∧ IV r (-1) 4 ∧ qkm q2 ∧ fr [7, 8, 10, 11, 12, 13, 14, 15, 16, 17, 18, 19, 20, 21, 22, 23, 24, 25, 26, 27, 28, 29, 30, 31, 35, 1000] q q2 ∧ (q2 7 + q2 8 ≤ 40)) [0, 2, 3, 4, 5, 6, 7, 8, 9, 10, 11, 12, 13, 14, 15, 16, 17, 18, 19, 20, 21, 22, 23, 24, 25, 26, 27, 28, 29, 30, 31, 33, 44]) [.ref a0].toArray s 0 0 (th_A T [0, 2, 3, 4, 5, 6, 7, 8, 9, 10, 11, 12, 13, 14, 15, 16, 17, 18, 19, 20, 21, 22, 23, 24, 25, 26, 27, 28, 29, 30, 31, 33, 44])) (F0 m 116 ls [])
            have pq29_0 : q29 7 = 0 := pq29_0
            have pq29_1 : q29 8 = 0 := pq29_1
            have wq29_10 : q29 10 = q28 10 := g0q29 10 (by decide) (Or.inl (by decide))
            have wq29_13 : q29 13 = q28 13 := g0q29 13 (by decide) (Or.inl (by decide))
            have wq29_14 : q29 14 = q28 14 := g0q29 14 (by decide) (Or.inl (by decide))
            have wq29_15 : q29 15 = q28 15 := g0q29 15 (by decide) (Or.inl (by decide))
            have wq29_20 : q29 20 = q28 20 := g0q29 20 (by decide) (Or.inl (by decide))
            have wq29_21 : q29 21 = q28 21 := g0q29 21 (by decide) (Or.inl (by decide))
            have wq29_22 : q29 22 = q28 22 := g0q29 22 (by decide) (Or.inl (by decide))
            have wq29_23 : q29 23 = q28 23 := g0q29 23 (by decide) (Or.inl (by decide))
            have wq29_24 : q29 24 = q28 24 := g0q29 24 (by decide) (Or.inl (by decide))
            have wq29_26 : q29 26 = q28 26 := g0q29 26 (by decide) (Or.inl (by decide))
            have wq29_27 : q29 27 = q28 27 := g0q29 27 (by decide) (Or.inl (by decide))
            have wq29_28 : q29 28 = q28 28 := g0q29 28 (by decide) (Or.inl (by decide))
            have wq29_29 : q29 29 = q28 29 := g0q29 29 (by decide) (Or.inl (by decide))
            have wq29_30 : q29 30 = q28 30 := g0q29 30 (by decide) (Or.inl (by decide))
            have wq29_31 : q29 31 = q28 31 := g0q29 31 (by decide) (Or.inl (by decide))
            have wq29_35 : q29 35 = q28 35 := g0q29 35 (by decide) (Or.inl (by decide))
            have h0q29 : fr [7, 8, 10, 11, 12, 13, 14, 15, 16, 17, 18, 19, 20, 21, 22, 23, 24, 25, 26, 27, 28, 29, 30, 31, 35, 1000] q q29 := fr_tr h0q28 g0q29 (by decide)
            have bgq29 : bg q28 q29 := bg_fr bg_rf g0q29 (by decide)
            have gbq29 : GD q28 q29 := GD_tr (GD_eq rfl) (GD_eq wq29_30)
            refine lv_aload_n hx hb dX11_house_116 rfl (lv_at hl 0 rfl) ?_
            refine th_get S hK hH inG11 t0 km_0 rfl 12 (by decide) gm_1242 rfl rfl dX11_house_117 (fun v30 hv30 fv30 => ?_)
            obtain ⟨rf31, rfl, trf31⟩ := th_V.ref hv30
            refine lv_aload_n hx hb dX11_house_120 rfl (lv_at hl 0 rfl) ?_
            refine th_get S hK hH inG11 t0 km_0 rfl 41 (by decide) gm_1271 rfl rfl dX11_house_121 (fun v32 hv32 fv32 => ?_)
            obtain ⟨x33, rfl, ix33⟩ := th_V.int hv32
            have kx33 : x33.toInt = q29 10 := Int.le_antisymm ix33.2 ix33.1
            have bx33 := qkm_10 hqq29
            have ix33 : IV x33 0 1 := iv_w ix33 (qkm_10 hqq29)
            refine th_iald S hK hH trf31 km_4 (th_in (hi := 1) ix33 (by decide)) dX11_house_124 (fun v34 hv34 => ?_)
            obtain ⟨x35, rfl, ix35⟩ := th_bkA hv34 ix33 (by omega)
            have kx35 : x35.toInt = q29 11 := Int.le_antisymm ix35.2 ix35.1
            have ix35 : IV x35 0 4 := iv_w ix35 (qkm_11 hqq29)
            exact th_iretM S hK hH hS hr hlocks ⟨_, rfl, (iv_w ix35 (by decide)), hqq29, h0q29, (show q29 7 + q29 8 ≤ 40 by omega)⟩ dX11_house_125
          · skip
            have rlc24 : x23.toInt = (0 : Int) := congrArg Int32.toInt c24
            clear ox23_0
            have ox23_1r := ox23_1 rlc24
            clear ox23_1
            have ir36 : IV x23 0 0 := iv_eL c24 (iv_c (by decide) : IV 0 0 0)
            have ir36a := ir36.1; have ir36b := ir36.2
            refine lv_iconst (v := (-1)) hx hb dX11_house_102 (by decide) ?_
            exact th_iretM S hK hH hS hr hlocks ⟨_, rfl, (iv_w (iv_c (by decide) : IV (-1) (-1) (-1)) (by decide)), hq74, h074, (show q74 7 + q74 8 ≤ 40 by omega)⟩ dX11_house_103
        · skip
          have rlc21 : x20.toInt ≠ (0 : Int) := iv_ne c21
          have ir37 : IV x20 1 5 := iv_cutL ix20 (iv_c (by decide) : IV 0 0 0) c21 (by decide)
          have ir37a := ir37.1; have ir37b := ir37.2
          clear rlc21
          have hmb := v74_inv2 (by omega)
          refine lv_aload_n hx hb dX11_house_88 rfl (lv_at hl 0 rfl) ?_
          refine th_callVM (n := 0) (As := []) S hK hH hS (th_A.sub (by decide)) (m_X11_readLine l D cT T q74 hT hq74 a0 t0 (show TS q74 by exact v74_inv0) (show q74 13 = 1 - q74 10 by omega) (show q74 30 = 0 by omega) (show MB1 q74 (q74 14) (q74 15) by assumption)) gm_1491 gm_1488 gm_1490 gm_50 gm_124 (by decide +kernel) ⟨rfl, rfl, Nat.le_of_ble_eq_true rfl, Nat.le_of_ble_eq_true rfl⟩ t0 km_0 rfl rfl hl.1 rfl (Nat.le_of_ble_eq_true rfl) dX11_house_89 ⟨Nat.zero_le _, Nat.zero_le _⟩ (fun wq38 q38 H locs hEq38 hH hS hF1 => ?_)
          obtain ⟨rfl, hqq38, g0q38, pq38_0, pq38_1, pq38_2, pq38_3, pq38_4⟩ := hEq38
          show W p l e (rmk 8 173) s m [.ref a0].toArray below meth c H locs 0 0 (MQ below (th_QM D cT T (fun v q2 => ∃ r : Int32, v = some (.int r) ∧ IV r (-1) 4 ∧ qkm q2 ∧ fr [7, 8, 10, 11, 12, 13, 14, 15, 16, 17, 18, 19, 20, 21, 22, 23, 24, 25, 26, 27, 28, 29, 30, 31, 35, 1000] q q2 ∧ (q2 7 + q2 8 ≤ 40)) [0, 2, 3, 4, 5, 6, 7, 8, 9, 10, 11, 12, 13, 14, 15, 16, 17, 18, 19, 20, 21, 22, 23, 24, 25, 26, 27, 28, 29, 30, 31, 33, 44]) [.ref a0].toArray s 0 0 (th_A T [0, 2, 3, 4, 5, 6, 7, 8, 9, 10, 11, 12, 13, 14, 15, 16, 17, 18, 19, 20, 21, 22, 23, 24, 25, 26, 27, 28, 29, 30, 31, 33, 44])) (F0 m 92 ls [])
          have pq38_0 : TS q38 := pq38_0
          have pq38_1 : q74 27 ≤ q38 27 := pq38_1
          have pq38_2 : MB q38 (q38 14) (q38 15) := pq38_2
          have pq38_3 : LM q74 q38 := pq38_3
          have pq38_4 : GD q74 q38 := pq38_4
          have wq38_7 : q38 7 = q74 7 := g0q38 7 (by decide) (Or.inl (by decide))
          have wq38_8 : q38 8 = q74 8 := g0q38 8 (by decide) (Or.inl (by decide))
          have wq38_10 : q38 10 = q74 10 := g0q38 10 (by decide) (Or.inl (by decide))
          have wq38_13 : q38 13 = q74 13 := g0q38 13 (by decide) (Or.inl (by decide))
          have wq38_26 : q38 26 = q74 26 := g0q38 26 (by decide) (Or.inl (by decide))
          have h0q38 : fr [7, 8, 10, 11, 12, 13, 14, 15, 16, 17, 18, 19, 20, 21, 22, 23, 24, 25, 26, 27, 28, 29, 30, 31, 35, 1000] q q38 := fr_tr h074 g0q38 (by decide)
          have f10 := qkm_10 hqq38; have f13 := qkm_13 hqq38; have f14 := qkm_14 hqq38; have f20 := qkm_20 hqq38; have f26 := qkm_26 hqq38; have f27 := qkm_27 hqq38; have f28 := qkm_28 hqq38; have f30 := qkm_30 hqq38
          have hLM := pq38_3
          refine lv_goto (tgt := 74) hx hb dX11_house_92 (by decide) ?_
          exact ih74 q38 H locs ls hqq38 h0q38 (show TS q38 by exact pq38_0) (show q38 13 = 1 - q38 10 by omega) (show MB q38 (q38 14) (q38 15) by exact pq38_2) (show q38 7 = q 7 ∧ q38 8 = q 8 by exact ⟨by omega, by omega⟩) (show q38 14 ≤ 4 by omega) hH hS (lv_sub hl [0] rfl) (show (5000 * (5 - q38 30) + (1600 - q38 27)).toNat < n by exact LM_lt hLM (by omega) f30 d27 f27 hn74)

