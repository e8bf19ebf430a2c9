
set_option maxHeartbeats 20000000 in
set_option maxRecDepth 100000 in
theorem J144_X11_readMap (l : Launch) (D : va_G) (cT : Nat → ClassId) (T : Nat → Option Nat) (q : Nat → Int) (hT : tokm T) (hq : qkm q) (a0 : Nat) (t0 : T a0 = some 0) (hp0 : TS q) (hp1 : q 13 = 1 - q 10) (hp2 : q 30 = 0) (hp3 : MB1 q (q 14) (q 15)) (hp4 : q 14 ≤ 3) (p : Program) (e : Env) (s : State) (m : MethodId) (below : List Frame) (meth : Method) (c : Code) (S : CallFix p m c cX11_readMap 4 s [.ref a0].toArray gw yX11_readMap.cls) (hK : va_K D classes (th_tys cT) s) (hr : meth.sig.returnType = none) (hlocks : meth.locks = false) : ∀ (q144 : Nat → Int) (H : Heap) (locs : List Loc) (ls : Array Slot) (v144_2 : Int32), qkm q144 → fr [14, 20, 21, 22, 23, 24, 27, 28, 29, 30, 31, 1000, 35] q q144 → IV v144_2 0 7 → (TS q144) → (q 27 ≤ q144 27) → (GD q q144) → (q144 14 = q 14) → (MB q144 (q 14 + 1) (q 15)) → th_H D cT T (km q144) H → va_S (th_A T [0, 4, 8, 11, 12, 13, 14, 18, 19, 20, 21, 26, 28, 29, 30, 31]) s.heap H locs → lv_has ls 4 [(0, .ref a0), (2, .int v144_2)] → W p l e (rmk 6 128) s m [.ref a0].toArray below meth c H locs 0 0 (MQ below (th_QM D cT T (fun v q2 => v = none ∧ qkm q2 ∧ fr [14, 20, 21, 22, 23, 24, 27, 28, 29, 30, 31, 1000, 35] q q2 ∧ (TS q2) ∧ (q 27 ≤ q2 27) ∧ (MB q2 (q2 14) (q2 15)) ∧ (GD q q2)) [0, 4, 8, 11, 12, 13, 14, 18, 19, 20, 21, 26, 28, 29, 30, 31]) [.ref a0].toArray s 0 0 (th_A T [0, 4, 8, 11, 12, 13, 14, 18, 19, 20, 21, 26, 28, 29, 30, 31])) (F0 m 144 ls []) := by
    have hx := S.1
    have hb := S.2.1
    have c10 := qkm_10 hq; have c13 := qkm_13 hq; have c14 := qkm_14 hq; have c20 := qkm_20 hq; have c27 := qkm_27 hq
    have J160 := J160_X11_readMap l D cT T q hT hq a0 t0 hp0 hp1 hp2 hp3 hp4 p e s m below meth c S hK hr hlocks
    intro q144 H locs ls v144_2 hq144 h0144 iv144_2 v144_inv0 v144_inv1 v144_inv2 v144_inv3 v144_inv4 hH hS hl
    have w144_10 : q144 10 = q 10 := h0144 10 (by decide) (Or.inl (by decide))
    have w144_13 : q144 13 = q 13 := h0144 13 (by decide) (Or.inl (by decide))
    have w144_15 : q144 15 = q 15 := h0144 15 (by decide) (Or.inl (by decide))
    have w144_26 : q144 26 = q 26 := h0144 26 (by decide) (Or.inl (by decide))
    have l1v144_2 := iv144_2.1; have l2v144_2 := iv144_2.2
    refine lv_aload_n hx hb dX11_readMap_144 rfl (lv_at hl 0 rfl) ?_
    refine th_get S hK hH inG11 t0 km_0 rfl 22 (by decide) gm_1252 rfl rfl dX11_readMap_145 (fun v19 hv19 fv19 => ?_)
    obtain ⟨rf20, rfl, trf20⟩ := th_V.ref hv19
    refine lv_iload_n hx hb dX11_readMap_148 rfl (lv_at hl 1 rfl) ?_
    refine lv_iconst (v := 0) hx hb dX11_readMap_149 (by decide) ?_
    refine th_iast S hK hH hS ⟨14, by decide, trf20⟩ trf20 km_14 (th_in (hi := 7) iv144_2 (by decide)) (th_iv (iv_top _)) dX11_readMap_150 (fun H locs hH hS hq1 => ?_)
    refine lv_aload_n hx hb dX11_readMap_151 rfl (lv_at hl 0 rfl) ?_
    refine th_get S hK hH inG11 t0 km_0 rfl 27 (by decide) gm_1257 rfl rfl dX11_readMap_152 (fun v21 hv21 fv21 => ?_)
    obtain ⟨rf22, rfl, trf22⟩ := th_V.ref hv21
    refine lv_iload_n hx hb dX11_readMap_155 rfl (lv_at hl 1 rfl) ?_
    refine lv_iconst (v := 0) hx hb dX11_readMap_156 (by decide) ?_
    refine th_iast S hK hH hS ⟨19, by decide, trf22⟩ trf22 km_19 (th_in (hi := 7) iv144_2 (by decide)) (th_iv (iv_top _)) dX11_readMap_157 (fun H locs hH hS hq1 => ?_)
    refine lv_iconst (v := 0) hx hb dX11_readMap_158 (by decide) ?_
    refine lv_istore_n (lv' := [(3, .int 0), (0, .ref a0), (2, .int v144_2)]) hx hb dX11_readMap_159 rfl hl (by decide) rfl (fun ls hl => ?_)
    exact J160 ((3 + 1 - Int32.toInt 0).toNat + 1) q144 H locs ls v144_2 0 hq144 h0144 iv144_2 (iv_w (iv_c (by decide) : IV 0 0 0) (by decide)) (show TS q144 by exact v144_inv0) (show q 27 ≤ q144 27 by omega) (show GD q q144 by exact v144_inv2) (show q144 14 = q 14 by omega) (show MB q144 (q 14 + 1) (q 15) by exact v144_inv4) hH hS (lv_sub hl [1, 2, 0] rfl) (Nat.lt_succ_self _)


set_option maxHeartbeats 20000000 in
set_option maxRecDepth 100000 in
theorem J72_X11_readMap (l : Launch) (D : va_G) (cT : Nat → ClassId) (T : Nat → Option Nat) (q : Nat → Int) (hT : tokm T) (hq : qkm q) (a0 : Nat) (t0 : T a0 = some 0) (hp0 : TS q) (hp1 : q 13 = 1 - q 10) (hp2 : q 30 = 0) (hp3 : MB1 q (q 14) (q 15)) (hp4 : q 14 ≤ 3) (p : Program) (e : Env) (s : State) (m : MethodId) (below : List Frame) (meth : Method) (c : Code) (S : CallFix p m c cX11_readMap 4 s [.ref a0].toArray gw yX11_readMap.cls) (hK : va_K D classes (th_tys cT) s) (hr : meth.sig.returnType = none) (hlocks : meth.locks = false) : ∀ (q72 : Nat → Int) (H : Heap) (locs : List Loc) (ls : Array Slot) (v72_1 : Int32) (v72_2 : Int32), qkm q72 → fr [14, 20, 21, 22, 23, 24, 27, 28, 29, 30, 31, 1000, 35] q q72 → IV v72_1 0 3 → IV v72_2 0 7 → (TS q72) → (q 27 ≤ q72 27) → (GD q q72) → (q72 14 = q 14) → (MB q72 (q 14 + 1) (q 15)) → th_H D cT T (km q72) H → va_S (th_A T [0, 4, 8, 11, 12, 13, 14, 18, 19, 20, 21, 26, 28, 29, 30, 31]) s.heap H locs → lv_has ls 4 [(0, .ref a0), (1, .int v72_1), (2, .int v72_2)] → W p l e (rmk 6 128) s m [.ref a0].toArray below meth c H locs 0 0 (MQ below (th_QM D cT T (fun v q2 => v = none ∧ qkm q2 ∧ fr [14, 20, 21, 22, 23, 24, 27, 28, 29, 30, 31, 1000, 35] q q2 ∧ (TS q2) ∧ (q 27 ≤ q2 27) ∧ (MB q2 (q2 14) (q2 15)) ∧ (GD q q2)) [0, 4, 8, 11, 12, 13, 14, 18, 19, 20, 21, 26, 28, 29, 30, 31]) [.ref a0].toArray s 0 0 (th_A T [0, 4, 8, 11, 12, 13, 14, 18, 19, 20, 21, 26, 28, 29, 30, 31])) (F0 m 72 ls []) := by
    have hx := S.1
    have hb := S.2.1
    have c10 := qkm_10 hq; have c13 := qkm_13 hq; have c14 := qkm_14 hq; have c20 := qkm_20 hq; have c27 := qkm_27 hq
    have J144 := J144_X11_readMap l D cT T q hT hq a0 t0 hp0 hp1 hp2 hp3 hp4 p e s m below meth c S hK hr hlocks
    intro q72 H locs ls v72_1 v72_2 hq72 h072 iv72_1 iv72_2 v72_inv0 v72_inv1 v72_inv2 v72_inv3 v72_inv4 hH hS hl
    have w72_10 : q72 10 = q 10 := h072 10 (by decide) (Or.inl (by decide))
    have w72_13 : q72 13 = q 13 := h072 13 (by decide) (Or.inl (by decide))
    have w72_15 : q72 15 = q 15 := h072 15 (by decide) (Or.inl (by decide))
    have w72_26 : q72 26 = q 26 := h072 26 (by decide) (Or.inl (by decide))
    have l1v72_1 := iv72_1.1; have l2v72_1 := iv72_1.2
    have l1v72_2 := iv72_2.1; have l2v72_2 := iv72_2.2
    refine lv_aload_n hx hb dX11_readMap_72 rfl (lv_at hl 0 rfl) ?_
    refine th_get S hK hH inG11 t0 km_0 rfl 20 (by decide) gm_1250 rfl rfl dX11_readMap_73 (fun v23 hv23 fv23 => ?_)
    obtain ⟨rf24, rfl, trf24⟩ := th_V.ref hv23
    refine lv_iload_n hx hb dX11_readMap_76 rfl (lv_at hl 2 rfl) ?_
    refine lv_aload_n hx hb dX11_readMap_77 rfl (lv_at hl 0 rfl) ?_
    refine th_callVp (n := 0) (As := []) S hK hH hS (th_A.sub (by decide)) (m_X11_isGood l D cT T q72 hT hq72 a0 t0) gm_1487 gm_1484 gm_1486 gm_49 gm_124 (by decide +kernel) ⟨rfl, rfl, Nat.le_of_ble_eq_true rfl, Nat.le_of_ble_eq_true rfl⟩ t0 km_0 rfl rfl hl.1 rfl (Nat.le_of_ble_eq_true rfl) dX11_readMap_78 ⟨Nat.zero_le _, Nat.zero_le _⟩ (fun x25 H locs ix25 ox25 hH hS hF1 => ?_)
    obtain ⟨ox25_0, ox25_1⟩ := ox25
    have ox25_0 : x25.toInt ≠ 0 → q72 30 = 0 := ox25_0
    have ox25_1 : x25.toInt = 0 → 1 ≤ q72 30 := ox25_1
    have l1x25 := ix25.1; have l2x25 := ix25.2
    refine lv_if_eq (tgt := 106) hx hb dX11_readMap_81 (by decide) (fun c26 => ?_) (fun c26 => ?_)
    · skip
      have rlc26 : x25.toInt = (0 : Int) := congrArg Int32.toInt c26
      clear ox25_0
      have ox25_1r := ox25_1 rlc26
      clear ox25_1
      have ir27 : IV x25 0 0 := iv_eL c26 (iv_c (by decide) : IV 0 0 0)
      have ir27a := ir27.1; have ir27b := ir27.2
      refine lv_iconst (v := 0) hx hb dX11_readMap_106 (by decide) ?_
      refine th_iast S hK hH hS ⟨12, by decide, trf24⟩ trf24 km_12 (th_in (hi := 7) iv72_2 (by decide)) (th_iv (iv_top _)) dX11_readMap_107 (fun H locs hH hS hq1 => ?_)
      refine lv_aload_n hx hb dX11_readMap_108 rfl (lv_at hl 0 rfl) ?_
      refine th_callVp (n := 0) (As := []) S hK hH hS (th_A.sub (by decide)) (m_X11_isGood l D cT T q72 hT hq72 a0 t0) gm_1487 gm_1484 gm_1486 gm_49 gm_124 (by decide +kernel) ⟨rfl, rfl, Nat.le_of_ble_eq_true rfl, Nat.le_of_ble_eq_true rfl⟩ t0 km_0 rfl rfl hl.1 rfl (Nat.le_of_ble_eq_true rfl) dX11_readMap_109 ⟨Nat.zero_le _, Nat.zero_le _⟩ (fun x28 H locs ix28 ox28 hH hS hF1 => ?_)
      obtain ⟨ox28_0, ox28_1⟩ := ox28
      have ox28_0 : x28.toInt ≠ 0 → q72 30 = 0 := ox28_0
      have ox28_1 : x28.toInt = 0 → 1 ≤ q72 30 := ox28_1
      have l1x28 := ix28.1; have l2x28 := ix28.2
      refine lv_if_eq (tgt := 144) hx hb dX11_readMap_112 (by decide) (fun c29 => ?_) (fun c29 => ?_)
      · skip
        have rlc29 : x28.toInt = (0 : Int) := congrArg Int32.toInt c29
        clear ox28_0
        have ox28_1r := ox28_1 rlc29
        clear ox28_1
        have ir30 : IV x28 0 0 := iv_eL c29 (iv_c (by decide) : IV 0 0 0)
        have ir30a := ir30.1; have ir30b := ir30.2
        exact J144 q72 H locs ls v72_2 hq72 h072 iv72_2 (show TS q72 by exact v72_inv0) (show q 27 ≤ q72 27 by omega) (show GD q q72 by exact v72_inv2) (show q72 14 = q 14 by omega) (show MB q72 (q 14 + 1) (q 15) by exact v72_inv4) hH hS (lv_sub hl [0, 2] rfl)
      · skip
        have rlc29 : x28.toInt ≠ (0 : Int) := iv_ne c29
        have ox28_0r := ox28_0 rlc29
        clear ox28_0
        clear ox28_1
        have ir31 : IV x28 1 1 := iv_cutL ix28 (iv_c (by decide) : IV 0 0 0) c29 (by decide)
        have ir31a := ir31.1; have ir31b := ir31.2
        clear rlc29
        refine lv_aload_n hx hb dX11_readMap_115 rfl (lv_at hl 0 rfl) ?_
        refine lv_ldc2 (v := 112628745921892) hx hb S.2.2.2.1 (S.2.2.2.2 _ gm_1461) dX11_readMap_116 ?_
        refine th_callVp (n := 1) (As := [.long 112628745921892]) S hK hH hS (th_A.sub (by decide)) (m_X11_isWord l D cT T q72 hT hq72 a0 t0 (112628745921892)) gm_1499 gm_1496 gm_1498 gm_52 gm_124 (by decide +kernel) ⟨rfl, rfl, Nat.le_of_ble_eq_true rfl, Nat.le_of_ble_eq_true rfl⟩ t0 km_0 rfl rfl hl.1 rfl (Nat.le_of_ble_eq_true rfl) dX11_readMap_119 ⟨Nat.zero_le _, Nat.zero_le _⟩ (fun x32 H locs ix32 ox32 hH hS hF1 => ?_)
        obtain ⟨ox32_0, ox32_1⟩ := ox32
        have ox32_0 : x32.toInt ≠ 0 → q72 29 = 3 ∧ q72 31 = (112628745921892 : Int) := ox32_0
        have ox32_1 : x32.toInt = 0 → q72 29 ≠ 3 ∨ q72 31 ≠ (112628745921892 : Int) := ox32_1
        have l1x32 := ix32.1; have l2x32 := ix32.2
        refine lv_if_eq (tgt := 144) hx hb dX11_readMap_122 (by decide) (fun c33 => ?_) (fun c33 => ?_)
        · skip
          have rlc33 : x32.toInt = (0 : Int) := congrArg Int32.toInt c33
          clear ox32_0
          clear ox32_1
          have ir34 : IV x32 0 0 := iv_eL c33 (iv_c (by decide) : IV 0 0 0)
          have ir34a := ir34.1; have ir34b := ir34.2
          exact J144 q72 H locs ls v72_2 hq72 h072 iv72_2 (show TS q72 by exact v72_inv0) (show q 27 ≤ q72 27 by omega) (show GD q q72 by exact v72_inv2) (show q72 14 = q 14 by omega) (show MB q72 (q 14 + 1) (q 15) by exact v72_inv4) hH hS (lv_sub hl [0, 2] rfl)
        · skip
          have rlc33 : x32.toInt ≠ (0 : Int) := iv_ne c33
          have ox32_0r := ox32_0 rlc33
          clear ox32_0
          clear ox32_1
          have ir35 : IV x32 1 1 := iv_cutL ix32 (iv_c (by decide) : IV 0 0 0) c33 (by decide)
          have ir35a := ir35.1; have ir35b := ir35.2
          clear rlc33
          refine lv_aload_n hx hb dX11_readMap_125 rfl (lv_at hl 0 rfl) ?_
          refine th_get S hK hH inG11 t0 km_0 rfl 21 (by decide) gm_1251 rfl rfl dX11_readMap_126 (fun v36 hv36 fv36 => ?_)
          obtain ⟨rf37, rfl, trf37⟩ := th_V.ref hv36
          refine lv_aload_n hx hb dX11_readMap_129 rfl (lv_at hl 0 rfl) ?_
          refine th_get S hK hH inG11 t0 km_0 rfl 42 (by decide) gm_1272 rfl rfl dX11_readMap_130 (fun v38 hv38 fv38 => ?_)
          obtain ⟨x39, rfl, ix39⟩ := th_V.int hv38
          have kx39 : x39.toInt = q72 13 := Int.le_antisymm ix39.2 ix39.1
          have bx39 := qkm_13 hq72
          have ix39 : IV x39 0 1 := iv_w ix39 (qkm_13 hq72)
          refine lv_dup2_11 hx hb dX11_readMap_133 rfl rfl ?_
          refine th_iald S hK hH trf37 km_13 (th_in (hi := 1) ix39 (by decide)) dX11_readMap_134 (fun v40 hv40 => ?_)
          obtain ⟨x41, rfl, ix41⟩ := th_V.int hv40
          refine lv_iconst (v := 1) hx hb dX11_readMap_135 (by decide) ?_
          refine lv_iload_n hx hb dX11_readMap_136 rfl (lv_at hl 1 rfl) ?_
          refine lv_ishl hx hb dX11_readMap_137 ?_
          refine lv_topi (fun x42 ex42 => ?_)
          have ix42 := iv_top x42
          have ix42 : IV x42 1 1073741824 := by rw [ex42]; exact iv_shl1 (iv_w iv72_1 (by decide))
          refine lv_ior hx hb dX11_readMap_138 ?_
          refine lv_topi (fun x43 ex43 => ?_)
          have ix43 := iv_top x43
          refine th_iast S hK hH hS ⟨13, by decide, trf37⟩ trf37 km_13 (th_in (hi := 1) ix39 (by decide)) (th_iv ix43) dX11_readMap_139 (fun H locs hH hS hq1 => ?_)
          refine lv_aload_n hx hb dX11_readMap_140 rfl (lv_at hl 0 rfl) ?_
          have le43 := TS_le v72_inv0
          refine th_callVM (n := 0) (As := []) S hK hH hS (th_A.sub (by decide)) (m_X11_goOn l D cT T q72 hT hq72 a0 t0 (show q72 28 ≤ q72 26 by exact (TS_le v72_inv0).2)) gm_1445 gm_1442 gm_1444 gm_47 gm_124 (by decide +kernel) ⟨rfl, rfl, Nat.le_of_ble_eq_true rfl, Nat.le_of_ble_eq_true rfl⟩ t0 km_0 rfl rfl hl.1 rfl (Nat.le_of_ble_eq_true rfl) dX11_readMap_141 ⟨Nat.zero_le _, Nat.zero_le _⟩ (fun wq44 q44 H locs hEq44 hH hS hF1 => ?_)
          obtain ⟨rfl, hqq44, g0q44, pq44_0, pq44_1, pq44_2⟩ := hEq44
          show W p l e (rmk 6 128) s m [.ref a0].toArray below meth c H locs 0 0 (MQ below (th_QM D cT T (fun v q2 => v = none ∧ qkm q2 ∧ fr [14, 20, 21, 22, 23, 24, 27, 28, 29, 30, 31, 1000, 35] q q2 ∧ (TS q2) ∧ (q 27 ≤ q2 27) ∧ (MB q2 (q2 14) (q2 15)) ∧ (GD q q2)) [0, 4, 8, 11, 12, 13, 14, 18, 19, 20, 21, 26, 28, 29, 30, 31]) [.ref a0].toArray s 0 0 (th_A T [0, 4, 8, 11, 12, 13, 14, 18, 19, 20, 21, 26, 28, 29, 30, 31])) (F0 m 144 ls [])
          have pq44_0 : TS q44 := pq44_0
          have pq44_1 : q72 28 ≤ q44 27 := pq44_1
          have pq44_2 : LX q72 q44 := pq44_2
          have wq44_10 : q44 10 = q72 10 := g0q44 10 (by decide) (Or.inl (by decide))
          have wq44_13 : q44 13 = q72 13 := g0q44 13 (by decide) (Or.inl (by decide))
          have wq44_14 : q44 14 = q72 14 := g0q44 14 (by decide) (Or.inl (by decide))
          have wq44_15 : q44 15 = q72 15 := g0q44 15 (by decide) (Or.inl (by decide))
          have wq44_20 : q44 20 = q72 20 := g0q44 20 (by decide) (Or.inl (by decide))
          have wq44_21 : q44 21 = q72 21 := g0q44 21 (by decide) (Or.inl (by decide))
          have wq44_22 : q44 22 = q72 22 := g0q44 22 (by decide) (Or.inl (by decide))
          have wq44_23 : q44 23 = q72 23 := g0q44 23 (by decide) (Or.inl (by decide))
          have wq44_24 : q44 24 = q72 24 := g0q44 24 (by decide) (Or.inl (by decide))
          have wq44_26 : q44 26 = q72 26 := g0q44 26 (by decide) (Or.inl (by decide))
          have wq44_30 : q44 30 = q72 30 := g0q44 30 (by decide) (Or.inl (by decide))
          have wq44_35 : q44 35 = q72 35 := g0q44 35 (by decide) (Or.inl (by decide))
          have h0q44 : fr [14, 20, 21, 22, 23, 24, 27, 28, 29, 30, 31, 1000, 35] q q44 := fr_tr h072 g0q44 (by decide)
          have bgq44 : bg q72 q44 := bg_fr bg_rf g0q44 (by decide)
          have gdq44 : GD q q44 := GD_tr v72_inv2 (GD_eq wq44_30)
          have gbq44 : GD q72 q44 := GD_tr (GD_eq rfl) (GD_eq wq44_30)
          exact J144 q44 H locs ls v72_2 hqq44 h0q44 iv72_2 (show TS q44 by exact pq44_0) (show q 27 ≤ q44 27 by omega) (show GD q q44 by exact gdq44) (show q44 14 = q 14 by omega) (show MB q44 (q 14 + 1) (q 15) by exact (MB_mv v72_inv4 bgq44 gbq44 (by omega) (by omega) (by omega) (by omega) (by omega) (by omega) (by omega))) hH hS (lv_sub hl [0, 2] rfl)
    · skip
      have rlc26 : x25.toInt ≠ (0 : Int) := iv_ne c26
      have ox25_0r := ox25_0 rlc26
      clear ox25_0
      clear ox25_1
      have ir45 : IV x25 1 1 := iv_cutL ix25 (iv_c (by decide) : IV 0 0 0) c26 (by decide)
      have ir45a := ir45.1; have ir45b := ir45.2
      clear rlc26
      refine lv_aload_n hx hb dX11_readMap_84 rfl (lv_at hl 0 rfl) ?_
      refine lv_ldc2 (v := 26990) hx hb S.2.2.2.1 (S.2.2.2.2 _ gm_1460) dX11_readMap_85 ?_
      refine th_callVp (n := 1) (As := [.long 26990]) S hK hH hS (th_A.sub (by decide)) (m_X11_isWord l D cT T q72 hT hq72 a0 t0 (26990)) gm_1499 gm_1496 gm_1498 gm_52 gm_124 (by decide +kernel) ⟨rfl, rfl, Nat.le_of_ble_eq_true rfl, Nat.le_of_ble_eq_true rfl⟩ t0 km_0 rfl rfl hl.1 rfl (Nat.le_of_ble_eq_true rfl) dX11_readMap_88 ⟨Nat.zero_le _, Nat.zero_le _⟩ (fun x46 H locs ix46 ox46 hH hS hF1 => ?_)
      obtain ⟨ox46_0, ox46_1⟩ := ox46
      have ox46_0 : x46.toInt ≠ 0 → q72 29 = 3 ∧ q72 31 = (26990 : Int) := ox46_0
      have ox46_1 : x46.toInt = 0 → q72 29 ≠ 3 ∨ q72 31 ≠ (26990 : Int) := ox46_1
      have l1x46 := ix46.1; have l2x46 := ix46.2
      refine lv_if_eq (tgt := 106) hx hb dX11_readMap_91 (by decide) (fun c47 => ?_) (fun c47 => ?_)
      · skip
        have rlc47 : x46.toInt = (0 : Int) := congrArg Int32.toInt c47
        clear ox46_0
        clear ox46_1
        have ir48 : IV x46 0 0 := iv_eL c47 (iv_c (by decide) : IV 0 0 0)
        have ir48a := ir48.1; have ir48b := ir48.2
        refine lv_iconst (v := 0) hx hb dX11_readMap_106 (by decide) ?_
        refine th_iast S hK hH hS ⟨12, by decide, trf24⟩ trf24 km_12 (th_in (hi := 7) iv72_2 (by decide)) (th_iv (iv_top _)) dX11_readMap_107 (fun H locs hH hS hq1 => ?_)
        refine lv_aload_n hx hb dX11_readMap_108 rfl (lv_at hl 0 rfl) ?_
        refine th_callVp (n := 0) (As := []) S hK hH hS (th_A.sub (by decide)) (m_X11_isGood l D cT T q72 hT hq72 a0 t0) gm_1487 gm_1484 gm_1486 gm_49 gm_124 (by decide +kernel) ⟨rfl, rfl, Nat.le_of_ble_eq_true rfl, Nat.le_of_ble_eq_true rfl⟩ t0 km_0 rfl rfl hl.1 rfl (Nat.le_of_ble_eq_true rfl) dX11_readMap_109 ⟨Nat.zero_le _, Nat.zero_le _⟩ (fun x49 H locs ix49 ox49 hH hS hF1 => ?_)
        obtain ⟨ox49_0, ox49_1⟩ := ox49
        have ox49_0 : x49.toInt ≠ 0 → q72 30 = 0 := ox49_0
        have ox49_1 : x49.toInt = 0 → 1 ≤ q72 30 := ox49_1
        have l1x49 := ix49.1; have l2x49 := ix49.2
        refine lv_if_eq (tgt := 144) hx hb dX11_readMap_112 (by decide) (fun c50 => ?_) (fun c50 => ?_)
        · skip
          have rlc50 : x49.toInt = (0 : Int) := congrArg Int32.toInt c50
          clear ox49_0
          have ox49_1r := ox49_1 rlc50
          clear ox49_1
          have ir51 : IV x49 0 0 := iv_eL c50 (iv_c (by decide) : IV 0 0 0)
          have ir51a := ir51.1; have ir51b := ir51.2
          exact J144 q72 H locs ls v72_2 hq72 h072 iv72_2 (show TS q72 by exact v72_inv0) (show q 27 ≤ q72 27 by omega) (show GD q q72 by exact v72_inv2) (show q72 14 = q 14 by omega) (show MB q72 (q 14 + 1) (q 15) by exact v72_inv4) hH hS (lv_sub hl [0, 2] rfl)
        · skip
          have rlc50 : x49.toInt ≠ (0 : Int) := iv_ne c50
          have ox49_0r := ox49_0 rlc50
          clear ox49_0
          clear ox49_1
          have ir52 : IV x49 1 1 := iv_cutL ix49 (iv_c (by decide) : IV 0 0 0) c50 (by decide)
          have ir52a := ir52.1; have ir52b := ir52.2
          clear rlc50
          refine lv_aload_n hx hb dX11_readMap_115 rfl (lv_at hl 0 rfl) ?_
          refine lv_ldc2 (v := 112628745921892) hx hb S.2.2.2.1 (S.2.2.2.2 _ gm_1461) dX11_readMap_116 ?_
          refine th_callVp (n := 1) (As := [.long 112628745921892]) S hK hH hS (th_A.sub (by decide)) (m_X11_isWord l D cT T q72 hT hq72 a0 t0 (112628745921892)) gm_1499 gm_1496 gm_1498 gm_52 gm_124 (by decide +kernel) ⟨rfl, rfl, Nat.le_of_ble_eq_true rfl, Nat.le_of_ble_eq_true rfl⟩ t0 km_0 rfl rfl hl.1 rfl (Nat.le_of_ble_eq_true rfl) dX11_readMap_119 ⟨Nat.zero_le _, Nat.zero_le _⟩ (fun x53 H locs ix53 ox53 hH hS hF1 => ?_)
          obtain ⟨ox53_0, ox53_1⟩ := ox53
          have ox53_0 : x53.toInt ≠ 0 → q72 29 = 3 ∧ q72 31 = (112628745921892 : Int) := ox53_0
          have ox53_1 : x53.toInt = 0 → q72 29 ≠ 3 ∨ q72 31 ≠ (112628745921892 : Int) := ox53_1
          have l1x53 := ix53.1; have l2x53 := ix53.2
          refine lv_if_eq (tgt := 144) hx hb dX11_readMap_122 (by decide) (fun c54 => ?_) (fun c54 => ?_)
          · skip
            have rlc54 : x53.toInt = (0 : Int) := congrArg Int32.toInt c54
            clear ox53_0
            clear ox53_1
            have ir55 : IV x53 0 0 := iv_eL c54 (iv_c (by decide) : IV 0 0 0)
            have ir55a := ir55.1; have ir55b := ir55.2
            exact J144 q72 H locs ls v72_2 hq72 h072 iv72_2 (show TS q72 by exact v72_inv0) (show q 27 ≤ q72 27 by omega) (show GD q q72 by exact v72_inv2) (show q72 14 = q 14 by omega) (show MB q72 (q 14 + 1) (q 15) by exact v72_inv4) hH hS (lv_sub hl [0, 2] rfl)
          · skip
            have rlc54 : x53.toInt ≠ (0 : Int) := iv_ne c54
            have ox53_0r := ox53_0 rlc54
            clear ox53_0
            clear ox53_1
            have ir56 : IV x53 1 1 := iv_cutL ix53 (iv_c (by decide) : IV 0 0 0) c54 (by decide)
            have ir56a := ir56.1; have ir56b := ir56.2
            clear rlc54
            refine lv_aload_n hx hb dX11_readMap_125 rfl (lv_at hl 0 rfl) ?_
            refine th_get S hK hH inG11 t0 km_0 rfl 21 (by decide) gm_1251 rfl rfl dX11_readMap_126 (fun v57 hv57 fv57 => ?_)
            obtain ⟨rf58, rfl, trf58⟩ := th_V.ref hv57
            refine lv_aload_n hx hb dX11_readMap_129 rfl (lv_at hl 0 rfl) ?_
            refine th_get S hK hH inG11 t0 km_0 rfl 42 (by decide) gm_1272 rfl rfl dX11_readMap_130 (fun v59 hv59 fv59 => ?_)
            obtain ⟨x60, rfl, ix60⟩ := th_V.int hv59
            have kx60 : x60.toInt = q72 13 := Int.le_antisymm ix60.2 ix60.1
            have bx60 := qkm_13 hq72
            have ix60 : IV x60 0 1 := iv_w ix60 (qkm_13 hq72)
            refine lv_dup2_11 hx hb dX11_readMap_133 rfl rfl ?_
            refine th_iald S hK hH trf58 km_13 (th_in (hi := 1) ix60 (by decide)) dX11_readMap_134 (fun v61 hv61 => ?_)
            obtain ⟨x62, rfl, ix62⟩ := th_V.int hv61
            refine lv_iconst (v := 1) hx hb dX11_readMap_135 (by decide) ?_
            refine lv_iload_n hx hb dX11_readMap_136 rfl (lv_at hl 1 rfl) ?_
            refine lv_ishl hx hb dX11_readMap_137 ?_
            refine lv_topi (fun x63 ex63 => ?_)
            have ix63 := iv_top x63
            have ix63 : IV x63 1 1073741824 := by rw [ex63]; exact iv_shl1 (iv_w iv72_1 (by decide))
            refine lv_ior hx hb dX11_readMap_138 ?_
            refine lv_topi (fun x64 ex64 => ?_)
            have ix64 := iv_top x64
            refine th_iast S hK hH hS ⟨13, by decide, trf58⟩ trf58 km_13 (th_in (hi := 1) ix60 (by decide)) (th_iv ix64) dX11_readMap_139 (fun H locs hH hS hq1 => ?_)
            refine lv_aload_n hx hb dX11_readMap_140 rfl (lv_at hl 0 rfl) ?_
            have le64 := TS_le v72_inv0
            refine th_callVM (n := 0) (As := []) S hK hH hS (th_A.sub (by decide)) (m_X11_goOn l D cT T q72 hT hq72 a0 t0 (show q72 28 ≤ q72 26 by exact (TS_le v72_inv0).2)) gm_1445 gm_1442 gm_1444 gm_47 gm_124 (by decide +kernel) ⟨rfl, rfl, Nat.le_of_ble_eq_true rfl, Nat.le_of_ble_eq_true rfl⟩ t0 km_0 rfl rfl hl.1 rfl (Nat.le_of_ble_eq_true rfl) dX11_readMap_141 ⟨Nat.zero_le _, Nat.zero_le _⟩ (fun wq65 q65 H locs hEq65 hH hS hF1 => ?_)
            obtain ⟨rfl, hqq65, g0q65, pq65_0, pq65_1, pq65_2⟩ := hEq65
            show W p l e (rmk 6 128) s m [.ref a0].toArray below meth c H locs 0 0 (MQ below (th_QM D cT T (fun v q2 => v = none ∧ qkm q2 ∧ fr [14, 20, 21, 22, 23, 24, 27, 28, 29, 30, 31, 1000, 35] q q2 ∧ (TS q2) ∧ (q 27 ≤ q2 27) ∧ (MB q2 (q2 14) (q2 15)) ∧ (GD q q2)) [0, 4, 8, 11, 12, 13, 14, 18, 19, 20, 21, 26, 28, 29, 30, 31]) [.ref a0].toArray s 0 0 (th_A T [0, 4, 8, 11, 12, 13, 14, 18, 19, 20, 21, 26, 28, 29, 30, 31])) (F0 m 144 ls [])
            have pq65_0 : TS q65 := pq65_0
            have pq65_1 : q72 28 ≤ q65 27 := pq65_1
            have pq65_2 : LX q72 q65 := pq65_2
            have wq65_10 : q65 10 = q72 10 := g0q65 10 (by decide) (Or.inl (by decide))
            have wq65_13 : q65 13 = q72 13 := g0q65 13 (by decide) (Or.inl (by decide))
            have wq65_14 : q65 14 = q72 14 := g0q65 14 (by decide) (Or.inl (by decide))
            have wq65_15 : q65 15 = q72 15 := g0q65 15 (by decide) (Or.inl (by decide))
            have wq65_20 : q65 20 = q72 20 := g0q65 20 (by decide) (Or.inl (by decide))
            have wq65_21 : q65 21 = q72 21 := g0q65 21 (by decide) (Or.inl (by decide))
            have wq65_22 : q65 22 = q72 22 := g0q65 22 (by decide) (Or.inl (by decide))
            have wq65_23 : q65 23 = q72 23 := g0q65 23 (by decide) (Or.inl (by decide))
            have wq65_24 : q65 24 = q72 24 := g0q65 24 (by decide) (Or.inl (by decide))
            have wq65_26 : q65 26 = q72 26 := g0q65 26 (by decide) (Or.inl (by decide))
            have wq65_30 : q65 30 = q72 30 := g0q65 30 (by decide) (Or.inl (by decide))
            have wq65_35 : q65 35 = q72 35 := g0q65 35 (by decide) (Or.inl (by decide))
            have h0q65 : fr [14, 20, 21, 22, 23, 24, 27, 28, 29, 30, 31, 1000, 35] q q65 := fr_tr h072 g0q65 (by decide)
            have bgq65 : bg q72 q65 := bg_fr bg_rf g0q65 (by decide)
            have gdq65 : GD q q65 := GD_tr v72_inv2 (GD_eq wq65_30)
            have gbq65 : GD q72 q65 := GD_tr (GD_eq rfl) (GD_eq wq65_30)
            exact J144 q65 H locs ls v72_2 hqq65 h0q65 iv72_2 (show TS q65 by exact pq65_0) (show q 27 ≤ q65 27 by omega) (show GD q q65 by exact gdq65) (show q65 14 = q 14 by omega) (show MB q65 (q 14 + 1) (q 15) by exact (MB_mv v72_inv4 bgq65 gbq65 (by omega) (by omega) (by omega) (by omega) (by omega) (by omega) (by omega))) hH hS (lv_sub hl [0, 2] rfl)
      · skip
        have rlc47 : x46.toInt ≠ (0 : Int) := iv_ne c47
        have ox46_0r := ox46_0 rlc47
        clear ox46_0
        clear ox46_1
        have ir66 : IV x46 1 1 := iv_cutL ix46 (iv_c (by decide) : IV 0 0 0) c47 (by decide)
        have ir66a := ir66.1; have ir66b := ir66.2
        clear rlc47
        refine lv_aload_n hx hb dX11_readMap_94 rfl (lv_at hl 0 rfl) ?_
        refine lv_ldc2 (v := 26990) hx hb S.2.2.2.1 (S.2.2.2.2 _ gm_1460) dX11_readMap_95 ?_
        refine lv_iconst (v := 0) hx hb dX11_readMap_98 (by decide) ?_
        refine lv_iconst (v := 3) hx hb dX11_readMap_99 (by decide) ?_
        refine th_callVM (n := 3) (As := [.long 26990, .int 0, .int 3]) S hK hH hS (th_A.sub (by decide)) (m_X11_after l D cT T q72 hT hq72 a0 t0 (26990) (0) (iv_top _) (3) (iv_top _) (show TS q72 by exact v72_inv0)) gm_1539 gm_1536 gm_1538 gm_62 gm_124 (by decide +kernel) ⟨rfl, rfl, Nat.le_of_ble_eq_true rfl, Nat.le_of_ble_eq_true rfl⟩ t0 km_0 rfl rfl hl.1 rfl (Nat.le_of_ble_eq_true rfl) dX11_readMap_100 ⟨Nat.zero_le _, Nat.zero_le _⟩ (fun wq67 q67 H locs hEq67 hH hS hF1 => ?_)
        obtain ⟨x68, rfl, ix68, hqq67, g0q67, pq67_0, pq67_1, pq67_2⟩ := hEq67
        show W p l e (rmk 6 128) s m [.ref a0].toArray below meth c H locs 0 0 (MQ below (th_QM D cT T (fun v q2 => v = none ∧ qkm q2 ∧ fr [14, 20, 21, 22, 23, 24, 27, 28, 29, 30, 31, 1000, 35] q q2 ∧ (TS q2) ∧ (q 27 ≤ q2 27) ∧ (MB q2 (q2 14) (q2 15)) ∧ (GD q q2)) [0, 4, 8, 11, 12, 13, 14, 18, 19, 20, 21, 26, 28, 29, 30, 31]) [.ref a0].toArray s 0 0 (th_A T [0, 4, 8, 11, 12, 13, 14, 18, 19, 20, 21, 26, 28, 29, 30, 31])) (F0 m 103 ls [.int x68, .int v72_2, .ref rf24])
        have pq67_0 : TS q67 := pq67_0
        have pq67_1 : q72 27 ≤ q67 27 := pq67_1
        have pq67_2 : GD q72 q67 := pq67_2
        have wq67_10 : q67 10 = q72 10 := g0q67 10 (by decide) (Or.inl (by decide))
        have wq67_13 : q67 13 = q72 13 := g0q67 13 (by decide) (Or.inl (by decide))
        have wq67_14 : q67 14 = q72 14 := g0q67 14 (by decide) (Or.inl (by decide))
        have wq67_15 : q67 15 = q72 15 := g0q67 15 (by decide) (Or.inl (by decide))
        have wq67_20 : q67 20 = q72 20 := g0q67 20 (by decide) (Or.inl (by decide))
        have wq67_21 : q67 21 = q72 21 := g0q67 21 (by decide) (Or.inl (by decide))
        have wq67_22 : q67 22 = q72 22 := g0q67 22 (by decide) (Or.inl (by decide))
        have wq67_23 : q67 23 = q72 23 := g0q67 23 (by decide) (Or.inl (by decide))
        have wq67_24 : q67 24 = q72 24 := g0q67 24 (by decide) (Or.inl (by decide))
        have wq67_26 : q67 26 = q72 26 := g0q67 26 (by decide) (Or.inl (by decide))
        have wq67_35 : q67 35 = q72 35 := g0q67 35 (by decide) (Or.inl (by decide))
        have h0q67 : fr [14, 20, 21, 22, 23, 24, 27, 28, 29, 30, 31, 1000, 35] q q67 := fr_tr h072 g0q67 (by decide)
        have bgq67 : bg q72 q67 := bg_fr bg_rf g0q67 (by decide)
        have gdq67 : GD q q67 := GD_tr v72_inv2 pq67_2
        have gbq67 : GD q72 q67 := GD_tr (GD_eq rfl) pq67_2
        refine lv_goto (tgt := 107) hx hb dX11_readMap_103 (by decide) ?_
        refine th_iast S hK hH hS ⟨12, by decide, trf24⟩ trf24 km_12 (th_in (hi := 7) iv72_2 (by decide)) (th_iv ix68) dX11_readMap_107 (fun H locs hH hS hq1 => ?_)
        refine lv_aload_n hx hb dX11_readMap_108 rfl (lv_at hl 0 rfl) ?_
        refine th_callVp (n := 0) (As := []) S hK hH hS (th_A.sub (by decide)) (m_X11_isGood l D cT T q67 hT hqq67 a0 t0) gm_1487 gm_1484 gm_1486 gm_49 gm_124 (by decide +kernel) ⟨rfl, rfl, Nat.le_of_ble_eq_true rfl, Nat.le_of_ble_eq_true rfl⟩ t0 km_0 rfl rfl hl.1 rfl (Nat.le_of_ble_eq_true rfl) dX11_readMap_109 ⟨Nat.zero_le _, Nat.zero_le _⟩ (fun x69 H locs ix69 ox69 hH hS hF1 => ?_)
        obtain ⟨ox69_0, ox69_1⟩ := ox69
        have ox69_0 : x69.toInt ≠ 0 → q67 30 = 0 := ox69_0
        have ox69_1 : x69.toInt = 0 → 1 ≤ q67 30 := ox69_1
        have l1x69 := ix69.1; have l2x69 := ix69.2
        refine lv_if_eq (tgt := 144) hx hb dX11_readMap_112 (by decide) (fun c70 => ?_) (fun c70 => ?_)
        · skip
          have rlc70 : x69.toInt = (0 : Int) := congrArg Int32.toInt c70
          clear ox69_0
          have ox69_1r := ox69_1 rlc70
          clear ox69_1
          have ir71 : IV x69 0 0 := iv_eL c70 (iv_c (by decide) : IV 0 0 0)
          have ir71a := ir71.1; have ir71b := ir71.2
          exact J144 q67 H locs ls v72_2 hqq67 h0q67 iv72_2 (show TS q67 by exact pq67_0) (show q 27 ≤ q67 27 by omega) (show GD q q67 by exact gdq67) (show q67 14 = q 14 by omega) (show MB q67 (q 14 + 1) (q 15) by exact (MB_mv v72_inv4 bgq67 gbq67 (by omega) (by omega) (by omega) (by omega) (by omega) (by omega) (by omega))) hH hS (lv_sub hl [0, 2] rfl)
        · skip
          have rlc70 : x69.toInt ≠ (0 : Int) := iv_ne c70
          have ox69_0r := ox69_0 rlc70
          clear ox69_0
          clear ox69_1
          have ir72 : IV x69 1 1 := iv_cutL ix69 (iv_c (by decide) : IV 0 0 0) c70 (by decide)
          have ir72a := ir72.1; have ir72b := ir72.2
          clear rlc70
          refine lv_aload_n hx hb dX11_readMap_115 rfl (lv_at hl 0 rfl) ?_
          refine lv_ldc2 (v := 112628745921892) hx hb S.2.2.2.1 (S.2.2.2.2 _ gm_1461) dX11_readMap_116 ?_
          refine th_callVp (n := 1) (As := [.long 112628745921892]) S hK hH hS (th_A.sub (by decide)) (m_X11_isWord l D cT T q67 hT hqq67 a0 t0 (112628745921892)) gm_1499 gm_1496 gm_1498 gm_52 gm_124 (by decide +kernel) ⟨rfl, rfl, Nat.le_of_ble_eq_true rfl, Nat.le_of_ble_eq_true rfl⟩ t0 km_0 rfl rfl hl.1 rfl (Nat.le_of_ble_eq_true rfl) dX11_readMap_119 ⟨Nat.zero_le _, Nat.zero_le _⟩ (fun x73 H locs ix73 ox73 hH hS hF1 => ?_)
          obtain ⟨ox73_0, ox73_1⟩ := ox73
          have ox73_0 : x73.toInt ≠ 0 → q67 29 = 3 ∧ q67 31 = (112628745921892 : Int) := ox73_0
          have ox73_1 : x73.toInt = 0 → q67 29 ≠ 3 ∨ q67 31 ≠ (112628745921892 : Int) := ox73_1
          have l1x73 := ix73.1; have l2x73 := ix73.2
          refine lv_if_eq (tgt := 144) hx hb dX11_readMap_122 (by decide) (fun c74 => ?_) (fun c74 => ?_)
          · skip
            have rlc74 : x73.toInt = (0 : Int) := congrArg Int32.toInt c74
            clear ox73_0
            clear ox73_1
            have ir75 : IV x73 0 0 := iv_eL c74 (iv_c (by decide) : IV 0 0 0)
            have ir75a := ir75.1; have ir75b := ir75.2
            exact J144 q67 H locs ls v72_2 hqq67 h0q67 iv72_2 (show TS q67 by exact pq67_0) (show q 27 ≤ q67 27 by omega) (show GD q q67 by exact gdq67) (show q67 14 = q 14 by omega) (show MB q67 (q 14 + 1) (q 15) by exact (MB_mv v72_inv4 bgq67 gbq67 (by omega) (by omega) (by omega) (by omega) (by omega) (by omega) (by omega))) hH hS (lv_sub hl [0, 2] rfl)
          · skip
            have rlc74 : x73.toInt ≠ (0 : Int) := iv_ne c74
            have ox73_0r := ox73_0 rlc74
            clear ox73_0
            clear ox73_1
            have ir76 : IV x73 1 1 := iv_cutL ix73 (iv_c (by decide) : IV 0 0 0) c74 (by decide)
            have ir76a := ir76.1; have ir76b := ir76.2
            clear rlc74
            refine lv_aload_n hx hb dX11_readMap_125 rfl (lv_at hl 0 rfl) ?_
            refine th_get S hK hH inG11 t0 km_0 rfl 21 (by decide) gm_1251 rfl rfl dX11_readMap_126 (fun v77 hv77 fv77 => ?_)
            obtain ⟨rf78, rfl, trf78⟩ := th_V.ref hv77
            refine lv_aload_n hx hb dX11_readMap_129 rfl (lv_at hl 0 rfl) ?_
            refine th_get S hK hH inG11 t0 km_0 rfl 42 (by decide) gm_1272 rfl rfl dX11_readMap_130 (fun v79 hv79 fv79 => ?_)
            obtain ⟨x80, rfl, ix80⟩ := th_V.int hv79
            have kx80 : x80.toInt = q67 13 := Int.le_antisymm ix80.2 ix80.1
            have bx80 := qkm_13 hqq67
            have ix80 : IV x80 0 1 := iv_w ix80 (qkm_13 hqq67)
            refine lv_dup2_11 hx hb dX11_readMap_133 rfl rfl ?_
            refine th_iald S hK hH trf78 km_13 (th_in (hi := 1) ix80 (by decide)) dX11_readMap_134 (fun v81 hv81 => ?_)
            obtain ⟨x82, rfl, ix82⟩ := th_V.int hv81
            refine lv_iconst (v := 1) hx hb dX11_readMap_135 (by decide) ?_
            refine lv_iload_n hx hb dX11_readMap_136 rfl (lv_at hl 1 rfl) ?_
            refine lv_ishl hx hb dX11_readMap_137 ?_
            refine lv_topi (fun x83 ex83 => ?_)
            have ix83 := iv_top x83
            have ix83 : IV x83 1 1073741824 := by rw [ex83]; exact iv_shl1 (iv_w iv72_1 (by decide))
            refine lv_ior hx hb dX11_readMap_138 ?_
            refine lv_topi (fun x84 ex84 => ?_)
            have ix84 := iv_top x84
            refine th_iast S hK hH hS ⟨13, by decide, trf78⟩ trf78 km_13 (th_in (hi := 1) ix80 (by decide)) (th_iv ix84) dX11_readMap_139 (fun H locs hH hS hq1 => ?_)
            refine lv_aload_n hx hb dX11_readMap_140 rfl (lv_at hl 0 rfl) ?_
            have le84 := TS_le pq67_0
            refine th_callVM (n := 0) (As := []) S hK hH hS (th_A.sub (by decide)) (m_X11_goOn l D cT T q67 hT hqq67 a0 t0 (show q67 28 ≤ q67 26 by exact (TS_le pq67_0).2)) gm_1445 gm_1442 gm_1444 gm_47 gm_124 (by decide +kernel) ⟨rfl, rfl, Nat.le_of_ble_eq_true rfl, Nat.le_of_ble_eq_true rfl⟩ t0 km_0 rfl rfl hl.1 rfl (Nat.le_of_ble_eq_true rfl) dX11_readMap_141 ⟨Nat.zero_le _, Nat.zero_le _⟩ (fun wq85 q85 H locs hEq85 hH hS hF1 => ?_)
            obtain ⟨rfl, hqq85, g0q85, pq85_0, pq85_1, pq85_2⟩ := hEq85
            show W p l e (rmk 6 128) s m [.ref a0].toArray below meth c H locs 0 0 (MQ below (th_QM D cT T (fun v q2 => v = none ∧ qkm q2 ∧ fr [14, 20, 21, 22, 23, 24, 27, 28, 29, 30, 31, 1000, 35] q q2 ∧ (TS q2) ∧ (q 27 ≤ q2 27) ∧ (MB q2 (q2 14) (q2 15)) ∧ (GD q q2)) [0, 4, 8, 11, 12, 13, 14, 18, 19, 20, 21, 26, 28, 29, 30, 31]) [.ref a0].toArray s 0 0 (th_A T [0, 4, 8, 11, 12, 13, 14, 18, 19, 20, 21, 26, 28, 29, 30, 31])) (F0 m 144 ls [])
            have pq85_0 : TS q85 := pq85_0
            have pq85_1 : q67 28 ≤ q85 27 := pq85_1
            have pq85_2 : LX q67 q85 := pq85_2
            have wq85_10 : q85 10 = q67 10 := g0q85 10 (by decide) (Or.inl (by decide))
            have wq85_13 : q85 13 = q67 13 := g0q85 13 (by decide) (Or.inl (by decide))
            have wq85_14 : q85 14 = q67 14 := g0q85 14 (by decide) (Or.inl (by decide))
            have wq85_15 : q85 15 = q67 15 := g0q85 15 (by decide) (Or.inl (by decide))
            have wq85_20 : q85 20 = q67 20 := g0q85 20 (by decide) (Or.inl (by decide))
            have wq85_21 : q85 21 = q67 21 := g0q85 21 (by decide) (Or.inl (by decide))
            have wq85_22 : q85 22 = q67 22 := g0q85 22 (by decide) (Or.inl (by decide))
            have wq85_23 : q85 23 = q67 23 := g0q85 23 (by decide) (Or.inl (by decide))
            have wq85_24 : q85 24 = q67 24 := g0q85 24 (by decide) (Or.inl (by decide))
            have wq85_26 : q85 26 = q67 26 := g0q85 26 (by decide) (Or.inl (by decide))
            have wq85_30 : q85 30 = q67 30 := g0q85 30 (by decide) (Or.inl (by decide))
            have wq85_35 : q85 35 = q67 35 := g0q85 35 (by decide) (Or.inl (by decide))
            have h0q85 : fr [14, 20, 21, 22, 23, 24, 27, 28, 29, 30, 31, 1000, 35] q q85 := fr_tr h0q67 g0q85 (by decide)
            have bgq85 : bg q72 q85 := bg_fr bgq67 g0q85 (by decide)
            have gdq85 : GD q q85 := GD_tr gdq67 (GD_eq wq85_30)
            have gbq85 : GD q72 q85 := GD_tr gbq67 (GD_eq wq85_30)
            exact J144 q85 H locs ls v72_2 hqq85 h0q85 iv72_2 (show TS q85 by exact pq85_0) (show q 27 ≤ q85 27 by omega) (show GD q q85 by exact gdq85) (show q85 14 = q 14 by omega) (show MB q85 (q 14 + 1) (q 15) by exact (MB_mv v72_inv4 bgq85 gbq85 (by omega) (by omega) (by omega) (by omega) (by omega) (by omega) (by omega))) hH hS (lv_sub hl [0, 2] rfl)
