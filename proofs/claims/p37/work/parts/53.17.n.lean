
set_option maxHeartbeats 20000000 in
set_option maxRecDepth 100000 in
theorem J98_s0_0_l2_0_X11_unit (l : Launch) (D : va_G) (cT : Nat → ClassId) (T : Nat → Option Nat) (q : Nat → Int) (hT : tokm T) (hq : qkm q) (a0 : Nat) (t0 : T a0 = some 0) (hp0 : TS q) (hp1 : q 13 = 1 - q 10) (hp2 : q 30 = 0) (hp3 : 0 ≤ q 35) (hp4 : RS q 1) (hp5 : 1 ≤ q 21) (p : Program) (e : Env) (s : State) (m : MethodId) (below : List Frame) (meth : Method) (c : Code) (S : CallFix p m c cX11_unit 7 s [.ref a0].toArray gw yX11_unit.cls) (hK : va_K D classes (th_tys cT) s) (hr : meth.sig.returnType = (some .boolean)) (hlocks : meth.locks = false) : ∀ (H : Heap) (locs : List Loc) (ls : Array Slot) (v98_3 : Int32) (v98_4 : Int32), IV v98_3 0 1 → IV v98_4 0 122 → (v98_3.toInt ≠ 0 → q 29 = 5) → (v98_4.toInt ≠ 0 → q 29 = 3 ∧ 97 ≤ v98_4.toInt) → (q 24 ≤ 89 ∧ q 23 ≤ 29) → th_H D cT T (km q) H → va_S (th_A T [0, 8, 28, 29, 30, 31]) s.heap H locs → lv_has ls 7 [(0, .ref a0), (2, .int 0), (3, .int v98_3), (4, .int v98_4)] → W p l e (rmk 2 44) s m [.ref a0].toArray below meth c H locs 0 0 (MQ below (th_QM D cT T (fun v q2 => ∃ r : Int32, v = some (.int r) ∧ IV r 0 1 ∧ qkm q2 ∧ fr [20, 21, 22, 23, 24, 27, 28, 29, 30, 31, 1000] q q2 ∧ (TS q2) ∧ (q 27 ≤ q2 27) ∧ (DM q q2) ∧ (kp q q2 (q 35)) ∧ (RU q2 r.toInt) ∧ (GD q q2)) [0, 8, 28, 29, 30, 31]) [.ref a0].toArray s 0 0 (th_A T [0, 8, 28, 29, 30, 31])) (F0 m 98 ls [.int 0]) := by
    have hx := S.1
    have hb := S.2.1
    have b13 := qkm_13 hq; have b10 := qkm_10 hq; have b20 := qkm_20 hq; have b22 := qkm_22 hq; have b23 := qkm_23 hq; have b24 := qkm_24 hq; have b26 := qkm_26 hq; have b27 := qkm_27 hq; have le0 := TS_le hp0
    obtain ⟨hlo1, hlo2, hlo3⟩ := RS_lo hp4; have hpil := RS_piled hp4 (by decide)
    have J126_l2_0 := J126_l2_0_X11_unit l D cT T q hT hq a0 t0 hp0 hp1 hp2 hp3 hp4 hp5 p e s m below meth c S hK hr hlocks
    intro H locs ls v98_3 v98_4 iv98_3 iv98_4 v98_inv0 v98_inv1 v98_inv2 hH hS hl
    have l1v98_3 := iv98_3.1; have l2v98_3 := iv98_3.2
    have l1v98_4 := iv98_4.1; have l2v98_4 := iv98_4.2
    refine lv_istore (lv' := [(5, .int 0), (0, .ref a0), (2, .int 0), (3, .int v98_3), (4, .int v98_4)]) hx hb dX11_unit_98 hl (by decide) rfl (fun ls hl => ?_)
    refine lv_iload_n hx hb dX11_unit_100 rfl (lv_at hl 2 rfl) ?_
    refine lv_if_ne (tgt := 126) hx hb dX11_unit_101 (by decide) (fun c152 => ?_) (fun c152 => ?_)
    · skip
      have rlc152 : (0 : Int) ≠ (0 : Int) := iv_ne c152
      exact absurd (iv_eqc (iv_c (by decide) : IV 0 0 0) (iv_c (by decide) : IV 0 0 0)) c152
    · skip
      have rlc152 : (0 : Int) = (0 : Int) := congrArg Int32.toInt c152
      refine lv_iload hx hb dX11_unit_104 (lv_at hl 4 rfl) ?_
      refine lv_if_ne (tgt := 121) hx hb dX11_unit_106 (by decide) (fun c153 => ?_) (fun c153 => ?_)
      · skip
        have rlc153 : v98_4.toInt ≠ (0 : Int) := iv_ne c153
        have ir154 : IV v98_4 1 122 := iv_cutL iv98_4 (iv_c (by decide) : IV 0 0 0) c153 (by decide)
        have ir154a := ir154.1; have ir154b := ir154.2
        refine lv_iload hx hb dX11_unit_121 (lv_at hl 0 rfl) ?_
        refine lv_if_ne (tgt := 143) hx hb dX11_unit_123 (by decide) (fun c155 => ?_) (fun c155 => ?_)
        · skip
          have rlc155 : (0 : Int) ≠ (0 : Int) := iv_ne c155
          exact absurd (iv_eqc (iv_c (by decide) : IV 0 0 0) (iv_c (by decide) : IV 0 0 0)) c155
        · skip
          have rlc155 : (0 : Int) = (0 : Int) := congrArg Int32.toInt c155
          exact J126_l2_0 H locs ls v98_3 v98_4 iv98_3 (iv_w ir154 (by decide)) (show v98_3.toInt ≠ 0 → q 29 = 5 by first | assumption | omega) (show v98_4.toInt ≠ 0 → q 29 = 3 ∧ 97 ≤ v98_4.toInt by first | assumption | omega) (show q 24 ≤ 89 ∧ q 23 ≤ 29 by exact ⟨by omega, by omega⟩) (show v98_4.toInt ≠ 0 ∨ q 29 = 4 ∨ v98_3.toInt ≠ 0 by omega) hH hS (lv_sub hl [1, 2, 3, 4] rfl)
      · skip
        have rlc153 : v98_4.toInt = (0 : Int) := congrArg Int32.toInt c153
        have ir156 : IV v98_4 0 0 := iv_eL c153 (iv_c (by decide) : IV 0 0 0)
        have ir156a := ir156.1; have ir156b := ir156.2
        refine lv_aload_n hx hb dX11_unit_109 rfl (lv_at hl 1 rfl) ?_
        refine th_get S hK hH inG11 t0 km_0 rfl 8 (by decide) gm_1238 rfl rfl dX11_unit_110 (fun v157 hv157 fv157 => ?_)
        obtain ⟨x158, rfl, ix158⟩ := th_V.int hv157
        have kx158 : x158.toInt = q 29 := Int.le_antisymm ix158.2 ix158.1
        have bx158 := qkm_29 hq
        have ix158 : IV x158 0 5 := iv_w ix158 (qkm_29 hq)
        refine lv_iconst (v := 4) hx hb dX11_unit_113 (by decide) ?_
        refine lv_icmp_eq (tgt := 121) hx hb dX11_unit_114 (by decide) (fun c159 => ?_) (fun c159 => ?_)
        · skip
          have rlc159 : x158.toInt = (4 : Int) := congrArg Int32.toInt c159
          have ir160 : IV x158 4 4 := iv_eL c159 (iv_c (by decide) : IV 4 4 4)
          have ir160a := ir160.1; have ir160b := ir160.2
          refine lv_iload hx hb dX11_unit_121 (lv_at hl 0 rfl) ?_
          refine lv_if_ne (tgt := 143) hx hb dX11_unit_123 (by decide) (fun c161 => ?_) (fun c161 => ?_)
          · skip
            have rlc161 : (0 : Int) ≠ (0 : Int) := iv_ne c161
            exact absurd (iv_eqc (iv_c (by decide) : IV 0 0 0) (iv_c (by decide) : IV 0 0 0)) c161
          · skip
            have rlc161 : (0 : Int) = (0 : Int) := congrArg Int32.toInt c161
            exact J126_l2_0 H locs ls v98_3 v98_4 iv98_3 (iv_w ir156 (by decide)) (show v98_3.toInt ≠ 0 → q 29 = 5 by first | assumption | omega) (show v98_4.toInt ≠ 0 → q 29 = 3 ∧ 97 ≤ v98_4.toInt by first | assumption | omega) (show q 24 ≤ 89 ∧ q 23 ≤ 29 by exact ⟨by omega, by omega⟩) (show v98_4.toInt ≠ 0 ∨ q 29 = 4 ∨ v98_3.toInt ≠ 0 by omega) hH hS (lv_sub hl [1, 2, 3, 4] rfl)
        · skip
          have rlc159 : x158.toInt ≠ (4 : Int) := iv_ne c159
          clear rlc159
          refine lv_iload_n hx hb dX11_unit_117 rfl (lv_at hl 3 rfl) ?_
          refine lv_if_eq (tgt := 143) hx hb dX11_unit_118 (by decide) (fun c162 => ?_) (fun c162 => ?_)
          · skip
            have rlc162 : v98_3.toInt = (0 : Int) := congrArg Int32.toInt c162
            have ir163 : IV v98_3 0 0 := iv_eL c162 (iv_c (by decide) : IV 0 0 0)
            have ir163a := ir163.1; have ir163b := ir163.2
            refine lv_aload_n hx hb dX11_unit_143 rfl (lv_at hl 1 rfl) ?_
            refine th_callVM (n := 0) (As := []) S hK hH hS (th_A.sub (by decide)) (m_X11_misplaced l D cT T q hT hq a0 t0) gm_1503 gm_1500 gm_1502 gm_53 gm_124 (by decide +kernel) ⟨rfl, rfl, Nat.le_of_ble_eq_true rfl, Nat.le_of_ble_eq_true rfl⟩ t0 km_0 rfl rfl hl.1 rfl (Nat.le_of_ble_eq_true rfl) dX11_unit_144 ⟨Nat.zero_le _, Nat.zero_le _⟩ (fun wq164 q164 H locs hEq164 hH hS hF1 => ?_)
            obtain ⟨rfl, hqq164, g0q164, pq164_0⟩ := hEq164
            show W p l e (rmk 2 44) s m [.ref a0].toArray below meth c H locs 0 0 (MQ below (th_QM D cT T (fun v q2 => ∃ r : Int32, v = some (.int r) ∧ IV r 0 1 ∧ qkm q2 ∧ fr [20, 21, 22, 23, 24, 27, 28, 29, 30, 31, 1000] q q2 ∧ (TS q2) ∧ (q 27 ≤ q2 27) ∧ (DM q q2) ∧ (kp q q2 (q 35)) ∧ (RU q2 r.toInt) ∧ (GD q q2)) [0, 8, 28, 29, 30, 31]) [.ref a0].toArray s 0 0 (th_A T [0, 8, 28, 29, 30, 31])) (F0 m 147 ls [])
            have pq164_0 : 1 ≤ q164 30 := pq164_0
            have wq164_10 : q164 10 = q 10 := g0q164 10 (by decide) (Or.inl (by decide))
            have wq164_13 : q164 13 = q 13 := g0q164 13 (by decide) (Or.inl (by decide))
            have wq164_20 : q164 20 = q 20 := g0q164 20 (by decide) (Or.inl (by decide))
            have wq164_21 : q164 21 = q 21 := g0q164 21 (by decide) (Or.inl (by decide))
            have wq164_22 : q164 22 = q 22 := g0q164 22 (by decide) (Or.inl (by decide))
            have wq164_23 : q164 23 = q 23 := g0q164 23 (by decide) (Or.inl (by decide))
            have wq164_24 : q164 24 = q 24 := g0q164 24 (by decide) (Or.inl (by decide))
            have wq164_26 : q164 26 = q 26 := g0q164 26 (by decide) (Or.inl (by decide))
            have wq164_27 : q164 27 = q 27 := g0q164 27 (by decide) (Or.inl (by decide))
            have wq164_28 : q164 28 = q 28 := g0q164 28 (by decide) (Or.inl (by decide))
            have wq164_29 : q164 29 = q 29 := g0q164 29 (by decide) (Or.inl (by decide))
            have wq164_31 : q164 31 = q 31 := g0q164 31 (by decide) (Or.inl (by decide))
            have wq164_35 : q164 35 = q 35 := g0q164 35 (by decide) (Or.inl (by decide))
            have h0q164 : fr [20, 21, 22, 23, 24, 27, 28, 29, 30, 31, 1000] q q164 := fr_tr fr_rf g0q164 (by decide)
            have bgq164 : bg q q164 := bg_fr bg_rf g0q164 (by decide)
            have gdq164 : GD q q164 := GD_tr (GD_eq rfl) (GD_no pq164_0)
            have gbq164 : GD q q164 := GD_tr (GD_eq rfl) (GD_no pq164_0)
            have txq164 : tx q q164 := tx_tr tx_rf (tx_bg (bg_fr bg_rf g0q164 (by decide)))
            refine lv_aload_n hx hb dX11_unit_147 rfl (lv_at hl 1 rfl) ?_
            refine th_callVp (n := 0) (As := []) S hK hH hS (th_A.sub (by decide)) (m_X11_isGood l D cT T q164 hT hqq164 a0 t0) gm_1487 gm_1484 gm_1486 gm_49 gm_124 (by decide +kernel) ⟨rfl, rfl, Nat.le_of_ble_eq_true rfl, Nat.le_of_ble_eq_true rfl⟩ t0 km_0 rfl rfl hl.1 rfl (Nat.le_of_ble_eq_true rfl) dX11_unit_148 ⟨Nat.zero_le _, Nat.zero_le _⟩ (fun x165 H locs ix165 ox165 hH hS hF1 => ?_)
            obtain ⟨ox165_0, ox165_1⟩ := ox165
            have ox165_0 : x165.toInt ≠ 0 → q164 30 = 0 := ox165_0
            have ox165_1 : x165.toInt = 0 → 1 ≤ q164 30 := ox165_1
            have l1x165 := ix165.1; have l2x165 := ix165.2
            refine lv_if_ne (tgt := 156) hx hb dX11_unit_151 (by decide) (fun c166 => ?_) (fun c166 => ?_)
            · skip
              have rlc166 : x165.toInt ≠ (0 : Int) := iv_ne c166
              have ox165_0r := ox165_0 rlc166
              clear ox165_0
              clear ox165_1
              have ir167 : IV x165 1 1 := iv_cutL ix165 (iv_c (by decide) : IV 0 0 0) c166 (by decide)
              have ir167a := ir167.1; have ir167b := ir167.2
              clear rlc166
              exfalso; omega
            · skip
              have rlc166 : x165.toInt = (0 : Int) := congrArg Int32.toInt c166
              clear ox165_0
              have ox165_1r := ox165_1 rlc166
              clear ox165_1
              have ir168 : IV x165 0 0 := iv_eL c166 (iv_c (by decide) : IV 0 0 0)
              have ir168a := ir168.1; have ir168b := ir168.2
              have hkp : kp q q164 (q 35) := kp_bg bgq164
              have hRU : RU q164 (1 : Int) := RU_no (by omega)
              refine lv_iconst (v := 1) hx hb dX11_unit_154 (by decide) ?_
              exact th_zretM S hK hH hS hr hlocks (iv_w (iv_c (by decide) : IV 1 1 1) (by decide)) ⟨_, rfl, (iv_w (iv_c (by decide) : IV 1 1 1) (by decide)), hqq164, h0q164, (show TS q164 by exact (TS_mv hp0 txq164 (by omega) (by omega) (by omega) (by omega) (by omega) (fun z => by omega))), (show q 27 ≤ q164 27 by omega), (show DM q q164 by exact DM_no (by omega)), (show kp q q164 (q 35) by exact hkp), (show RU q164 (1 : Int) by exact hRU), (show GD q q164 by exact gdq164)⟩ dX11_unit_155
          · skip
            have rlc162 : v98_3.toInt ≠ (0 : Int) := iv_ne c162
            have ir169 : IV v98_3 1 1 := iv_cutL iv98_3 (iv_c (by decide) : IV 0 0 0) c162 (by decide)
            have ir169a := ir169.1; have ir169b := ir169.2
            refine lv_iload hx hb dX11_unit_121 (lv_at hl 0 rfl) ?_
            refine lv_if_ne (tgt := 143) hx hb dX11_unit_123 (by decide) (fun c170 => ?_) (fun c170 => ?_)
            · skip
              have rlc170 : (0 : Int) ≠ (0 : Int) := iv_ne c170
              exact absurd (iv_eqc (iv_c (by decide) : IV 0 0 0) (iv_c (by decide) : IV 0 0 0)) c170
            · skip
              have rlc170 : (0 : Int) = (0 : Int) := congrArg Int32.toInt c170
              exact J126_l2_0 H locs ls v98_3 v98_4 (iv_w ir169 (by decide)) (iv_w ir156 (by decide)) (show v98_3.toInt ≠ 0 → q 29 = 5 by first | assumption | omega) (show v98_4.toInt ≠ 0 → q 29 = 3 ∧ 97 ≤ v98_4.toInt by first | assumption | omega) (show q 24 ≤ 89 ∧ q 23 ≤ 29 by exact ⟨by omega, by omega⟩) (show v98_4.toInt ≠ 0 ∨ q 29 = 4 ∨ v98_3.toInt ≠ 0 by omega) hH hS (lv_sub hl [1, 2, 3, 4] rfl)


set_option maxHeartbeats 20000000 in
set_option maxRecDepth 100000 in
theorem J98_s0_0_l2_1_X11_unit (l : Launch) (D : va_G) (cT : Nat → ClassId) (T : Nat → Option Nat) (q : Nat → Int) (hT : tokm T) (hq : qkm q) (a0 : Nat) (t0 : T a0 = some 0) (hp0 : TS q) (hp1 : q 13 = 1 - q 10) (hp2 : q 30 = 0) (hp3 : 0 ≤ q 35) (hp4 : RS q 1) (hp5 : 1 ≤ q 21) (p : Program) (e : Env) (s : State) (m : MethodId) (below : List Frame) (meth : Method) (c : Code) (S : CallFix p m c cX11_unit 7 s [.ref a0].toArray gw yX11_unit.cls) (hK : va_K D classes (th_tys cT) s) (hr : meth.sig.returnType = (some .boolean)) (hlocks : meth.locks = false) : ∀ (H : Heap) (locs : List Loc) (ls : Array Slot) (v98_3 : Int32) (v98_4 : Int32), IV v98_3 0 1 → IV v98_4 0 122 → (v98_3.toInt ≠ 0 → q 29 = 5) → (v98_4.toInt ≠ 0 → q 29 = 3 ∧ 97 ≤ v98_4.toInt) → (q 29 = 3 ∧ q 31 = 7237492) → (q 24 ≤ 89 ∧ q 23 ≤ 29) → th_H D cT T (km q) H → va_S (th_A T [0, 8, 28, 29, 30, 31]) s.heap H locs → lv_has ls 7 [(0, .ref a0), (2, .int 1), (3, .int v98_3), (4, .int v98_4)] → W p l e (rmk 2 44) s m [.ref a0].toArray below meth c H locs 0 0 (MQ below (th_QM D cT T (fun v q2 => ∃ r : Int32, v = some (.int r) ∧ IV r 0 1 ∧ qkm q2 ∧ fr [20, 21, 22, 23, 24, 27, 28, 29, 30, 31, 1000] q q2 ∧ (TS q2) ∧ (q 27 ≤ q2 27) ∧ (DM q q2) ∧ (kp q q2 (q 35)) ∧ (RU q2 r.toInt) ∧ (GD q q2)) [0, 8, 28, 29, 30, 31]) [.ref a0].toArray s 0 0 (th_A T [0, 8, 28, 29, 30, 31])) (F0 m 98 ls [.int 0]) := by
    have hx := S.1
    have hb := S.2.1
    have b13 := qkm_13 hq; have b10 := qkm_10 hq; have b20 := qkm_20 hq; have b22 := qkm_22 hq; have b23 := qkm_23 hq; have b24 := qkm_24 hq; have b26 := qkm_26 hq; have b27 := qkm_27 hq; have le0 := TS_le hp0
    obtain ⟨hlo1, hlo2, hlo3⟩ := RS_lo hp4; have hpil := RS_piled hp4 (by decide)
    have J126_l2_1 := J126_l2_1_X11_unit l D cT T q hT hq a0 t0 hp0 hp1 hp2 hp3 hp4 hp5 p e s m below meth c S hK hr hlocks
    intro H locs ls v98_3 v98_4 iv98_3 iv98_4 v98_inv0 v98_inv1 v98_inv2 v98_inv3 hH hS hl
    have l1v98_3 := iv98_3.1; have l2v98_3 := iv98_3.2
    have l1v98_4 := iv98_4.1; have l2v98_4 := iv98_4.2
    refine lv_istore (lv' := [(5, .int 0), (0, .ref a0), (2, .int 1), (3, .int v98_3), (4, .int v98_4)]) hx hb dX11_unit_98 hl (by decide) rfl (fun ls hl => ?_)
    refine lv_iload_n hx hb dX11_unit_100 rfl (lv_at hl 2 rfl) ?_
    refine lv_if_ne (tgt := 126) hx hb dX11_unit_101 (by decide) (fun c171 => ?_) (fun c171 => ?_)
    · skip
      have rlc171 : (1 : Int) ≠ (0 : Int) := iv_ne c171
      clear rlc171
      exact J126_l2_1 H locs ls v98_3 v98_4 iv98_3 iv98_4 (show v98_3.toInt ≠ 0 → q 29 = 5 by first | assumption | omega) (show v98_4.toInt ≠ 0 → q 29 = 3 ∧ 97 ≤ v98_4.toInt by first | assumption | omega) (show q 29 = 3 ∧ q 31 = 7237492 by omega) hH hS (lv_sub hl [1, 2, 3, 4] rfl)
    · skip
      have rlc171 : (1 : Int) = (0 : Int) := congrArg Int32.toInt c171
      exfalso
      have z1 := congrArg Int32.toInt c171
      have z2 := ((iv_c (by decide) : IV 1 1 1)).1
      have z3 := ((iv_c (by decide) : IV 1 1 1)).2
      have z4 := ((iv_c (by decide) : IV 0 0 0)).1
      have z5 := ((iv_c (by decide) : IV 0 0 0)).2
      omega


set_option maxHeartbeats 20000000 in
set_option maxRecDepth 100000 in
theorem J98_s0_1_l2_0_X11_unit (l : Launch) (D : va_G) (cT : Nat → ClassId) (T : Nat → Option Nat) (q : Nat → Int) (hT : tokm T) (hq : qkm q) (a0 : Nat) (t0 : T a0 = some 0) (hp0 : TS q) (hp1 : q 13 = 1 - q 10) (hp2 : q 30 = 0) (hp3 : 0 ≤ q 35) (hp4 : RS q 1) (hp5 : 1 ≤ q 21) (p : Program) (e : Env) (s : State) (m : MethodId) (below : List Frame) (meth : Method) (c : Code) (S : CallFix p m c cX11_unit 7 s [.ref a0].toArray gw yX11_unit.cls) (hK : va_K D classes (th_tys cT) s) (hr : meth.sig.returnType = (some .boolean)) (hlocks : meth.locks = false) : ∀ (H : Heap) (locs : List Loc) (ls : Array Slot) (v98_3 : Int32) (v98_4 : Int32), IV v98_3 0 1 → IV v98_4 0 122 → (v98_3.toInt ≠ 0 → q 29 = 5) → (v98_4.toInt ≠ 0 → q 29 = 3 ∧ 97 ≤ v98_4.toInt) → th_H D cT T (km q) H → va_S (th_A T [0, 8, 28, 29, 30, 31]) s.heap H locs → lv_has ls 7 [(0, .ref a0), (2, .int 0), (3, .int v98_3), (4, .int v98_4)] → W p l e (rmk 2 44) s m [.ref a0].toArray below meth c H locs 0 0 (MQ below (th_QM D cT T (fun v q2 => ∃ r : Int32, v = some (.int r) ∧ IV r 0 1 ∧ qkm q2 ∧ fr [20, 21, 22, 23, 24, 27, 28, 29, 30, 31, 1000] q q2 ∧ (TS q2) ∧ (q 27 ≤ q2 27) ∧ (DM q q2) ∧ (kp q q2 (q 35)) ∧ (RU q2 r.toInt) ∧ (GD q q2)) [0, 8, 28, 29, 30, 31]) [.ref a0].toArray s 0 0 (th_A T [0, 8, 28, 29, 30, 31])) (F0 m 98 ls [.int 1]) := by
    have hx := S.1
    have hb := S.2.1
    have b13 := qkm_13 hq; have b10 := qkm_10 hq; have b20 := qkm_20 hq; have b22 := qkm_22 hq; have b23 := qkm_23 hq; have b24 := qkm_24 hq; have b26 := qkm_26 hq; have b27 := qkm_27 hq; have le0 := TS_le hp0
    obtain ⟨hlo1, hlo2, hlo3⟩ := RS_lo hp4; have hpil := RS_piled hp4 (by decide)
    intro H locs ls v98_3 v98_4 iv98_3 iv98_4 v98_inv0 v98_inv1 hH hS hl
    have l1v98_3 := iv98_3.1; have l2v98_3 := iv98_3.2
    have l1v98_4 := iv98_4.1; have l2v98_4 := iv98_4.2
    refine lv_istore (lv' := [(5, .int 1), (0, .ref a0), (2, .int 0), (3, .int v98_3), (4, .int v98_4)]) hx hb dX11_unit_98 hl (by decide) rfl (fun ls hl => ?_)
    refine lv_iload_n hx hb dX11_unit_100 rfl (lv_at hl 2 rfl) ?_
    refine lv_if_ne (tgt := 126) hx hb dX11_unit_101 (by decide) (fun c172 => ?_) (fun c172 => ?_)
    · skip
      have rlc172 : (0 : Int) ≠ (0 : Int) := iv_ne c172
      exact absurd (iv_eqc (iv_c (by decide) : IV 0 0 0) (iv_c (by decide) : IV 0 0 0)) c172
    · skip
      have rlc172 : (0 : Int) = (0 : Int) := congrArg Int32.toInt c172
      refine lv_iload hx hb dX11_unit_104 (lv_at hl 4 rfl) ?_
      refine lv_if_ne (tgt := 121) hx hb dX11_unit_106 (by decide) (fun c173 => ?_) (fun c173 => ?_)
      · skip
        have rlc173 : v98_4.toInt ≠ (0 : Int) := iv_ne c173
        have ir174 : IV v98_4 1 122 := iv_cutL iv98_4 (iv_c (by decide) : IV 0 0 0) c173 (by decide)
        have ir174a := ir174.1; have ir174b := ir174.2
        refine lv_iload hx hb dX11_unit_121 (lv_at hl 0 rfl) ?_
        refine lv_if_ne (tgt := 143) hx hb dX11_unit_123 (by decide) (fun c175 => ?_) (fun c175 => ?_)
        · skip
          have rlc175 : (1 : Int) ≠ (0 : Int) := iv_ne c175
          clear rlc175
          refine lv_aload_n hx hb dX11_unit_143 rfl (lv_at hl 1 rfl) ?_
          refine th_callVM (n := 0) (As := []) S hK hH hS (th_A.sub (by decide)) (m_X11_misplaced l D cT T q hT hq a0 t0) gm_1503 gm_1500 gm_1502 gm_53 gm_124 (by decide +kernel) ⟨rfl, rfl, Nat.le_of_ble_eq_true rfl, Nat.le_of_ble_eq_true rfl⟩ t0 km_0 rfl rfl hl.1 rfl (Nat.le_of_ble_eq_true rfl) dX11_unit_144 ⟨Nat.zero_le _, Nat.zero_le _⟩ (fun wq176 q176 H locs hEq176 hH hS hF1 => ?_)
          obtain ⟨rfl, hqq176, g0q176, pq176_0⟩ := hEq176
          show W p l e (rmk 2 44) s m [.ref a0].toArray below meth c H locs 0 0 (MQ below (th_QM D cT T (fun v q2 => ∃ r : Int32, v = some (.int r) ∧ IV r 0 1 ∧ qkm q2 ∧ fr [20, 21, 22, 23, 24, 27, 28, 29, 30, 31, 1000] q q2 ∧ (TS q2) ∧ (q 27 ≤ q2 27) ∧ (DM q q2) ∧ (kp q q2 (q 35)) ∧ (RU q2 r.toInt) ∧ (GD q q2)) [0, 8, 28, 29, 30, 31]) [.ref a0].toArray s 0 0 (th_A T [0, 8, 28, 29, 30, 31])) (F0 m 147 ls [])
          have pq176_0 : 1 ≤ q176 30 := pq176_0
          have wq176_10 : q176 10 = q 10 := g0q176 10 (by decide) (Or.inl (by decide))
          have wq176_13 : q176 13 = q 13 := g0q176 13 (by decide) (Or.inl (by decide))
          have wq176_20 : q176 20 = q 20 := g0q176 20 (by decide) (Or.inl (by decide))
          have wq176_21 : q176 21 = q 21 := g0q176 21 (by decide) (Or.inl (by decide))
          have wq176_22 : q176 22 = q 22 := g0q176 22 (by decide) (Or.inl (by decide))
          have wq176_23 : q176 23 = q 23 := g0q176 23 (by decide) (Or.inl (by decide))
          have wq176_24 : q176 24 = q 24 := g0q176 24 (by decide) (Or.inl (by decide))
          have wq176_26 : q176 26 = q 26 := g0q176 26 (by decide) (Or.inl (by decide))
          have wq176_27 : q176 27 = q 27 := g0q176 27 (by decide) (Or.inl (by decide))
          have wq176_28 : q176 28 = q 28 := g0q176 28 (by decide) (Or.inl (by decide))
          have wq176_29 : q176 29 = q 29 := g0q176 29 (by decide) (Or.inl (by decide))
          have wq176_31 : q176 31 = q 31 := g0q176 31 (by decide) (Or.inl (by decide))
          have wq176_35 : q176 35 = q 35 := g0q176 35 (by decide) (Or.inl (by decide))
          have h0q176 : fr [20, 21, 22, 23, 24, 27, 28, 29, 30, 31, 1000] q q176 := fr_tr fr_rf g0q176 (by decide)
          have bgq176 : bg q q176 := bg_fr bg_rf g0q176 (by decide)
          have gdq176 : GD q q176 := GD_tr (GD_eq rfl) (GD_no pq176_0)
          have gbq176 : GD q q176 := GD_tr (GD_eq rfl) (GD_no pq176_0)
          have txq176 : tx q q176 := tx_tr tx_rf (tx_bg (bg_fr bg_rf g0q176 (by decide)))
          refine lv_aload_n hx hb dX11_unit_147 rfl (lv_at hl 1 rfl) ?_
          refine th_callVp (n := 0) (As := []) S hK hH hS (th_A.sub (by decide)) (m_X11_isGood l D cT T q176 hT hqq176 a0 t0) gm_1487 gm_1484 gm_1486 gm_49 gm_124 (by decide +kernel) ⟨rfl, rfl, Nat.le_of_ble_eq_true rfl, Nat.le_of_ble_eq_true rfl⟩ t0 km_0 rfl rfl hl.1 rfl (Nat.le_of_ble_eq_true rfl) dX11_unit_148 ⟨Nat.zero_le _, Nat.zero_le _⟩ (fun x177 H locs ix177 ox177 hH hS hF1 => ?_)
          obtain ⟨ox177_0, ox177_1⟩ := ox177
          have ox177_0 : x177.toInt ≠ 0 → q176 30 = 0 := ox177_0
          have ox177_1 : x177.toInt = 0 → 1 ≤ q176 30 := ox177_1
          have l1x177 := ix177.1; have l2x177 := ix177.2
          refine lv_if_ne (tgt := 156) hx hb dX11_unit_151 (by decide) (fun c178 => ?_) (fun c178 => ?_)
          · skip
            have rlc178 : x177.toInt ≠ (0 : Int) := iv_ne c178
            have ox177_0r := ox177_0 rlc178
            clear ox177_0
            clear ox177_1
            have ir179 : IV x177 1 1 := iv_cutL ix177 (iv_c (by decide) : IV 0 0 0) c178 (by decide)
            have ir179a := ir179.1; have ir179b := ir179.2
            clear rlc178
            exfalso; omega
          · skip
            have rlc178 : x177.toInt = (0 : Int) := congrArg Int32.toInt c178
            clear ox177_0
            have ox177_1r := ox177_1 rlc178
            clear ox177_1
            have ir180 : IV x177 0 0 := iv_eL c178 (iv_c (by decide) : IV 0 0 0)
            have ir180a := ir180.1; have ir180b := ir180.2
            have hkp : kp q q176 (q 35) := kp_bg bgq176
            have hRU : RU q176 (1 : Int) := RU_no (by omega)
            refine lv_iconst (v := 1) hx hb dX11_unit_154 (by decide) ?_
            exact th_zretM S hK hH hS hr hlocks (iv_w (iv_c (by decide) : IV 1 1 1) (by decide)) ⟨_, rfl, (iv_w (iv_c (by decide) : IV 1 1 1) (by decide)), hqq176, h0q176, (show TS q176 by exact (TS_mv hp0 txq176 (by omega) (by omega) (by omega) (by omega) (by omega) (fun z => by omega))), (show q 27 ≤ q176 27 by omega), (show DM q q176 by exact DM_no (by omega)), (show kp q q176 (q 35) by exact hkp), (show RU q176 (1 : Int) by exact hRU), (show GD q q176 by exact gdq176)⟩ dX11_unit_155
        · skip
          have rlc175 : (1 : Int) = (0 : Int) := congrArg Int32.toInt c175
          exfalso
          have z1 := congrArg Int32.toInt c175
          have z2 := ((iv_c (by decide) : IV 1 1 1)).1
          have z3 := ((iv_c (by decide) : IV 1 1 1)).2
          have z4 := ((iv_c (by decide) : IV 0 0 0)).1
          have z5 := ((iv_c (by decide) : IV 0 0 0)).2
          omega
      · skip
        have rlc173 : v98_4.toInt = (0 : Int) := congrArg Int32.toInt c173
        have ir181 : IV v98_4 0 0 := iv_eL c173 (iv_c (by decide) : IV 0 0 0)
        have ir181a := ir181.1; have ir181b := ir181.2
        refine lv_aload_n hx hb dX11_unit_109 rfl (lv_at hl 1 rfl) ?_
        refine th_get S hK hH inG11 t0 km_0 rfl 8 (by decide) gm_1238 rfl rfl dX11_unit_110 (fun v182 hv182 fv182 => ?_)
        obtain ⟨x183, rfl, ix183⟩ := th_V.int hv182
        have kx183 : x183.toInt = q 29 := Int.le_antisymm ix183.2 ix183.1
        have bx183 := qkm_29 hq
        have ix183 : IV x183 0 5 := iv_w ix183 (qkm_29 hq)
        refine lv_iconst (v := 4) hx hb dX11_unit_113 (by decide) ?_
        refine lv_icmp_eq (tgt := 121) hx hb dX11_unit_114 (by decide) (fun c184 => ?_) (fun c184 => ?_)
        · skip
          have rlc184 : x183.toInt = (4 : Int) := congrArg Int32.toInt c184
          have ir185 : IV x183 4 4 := iv_eL c184 (iv_c (by decide) : IV 4 4 4)
          have ir185a := ir185.1; have ir185b := ir185.2
          refine lv_iload hx hb dX11_unit_121 (lv_at hl 0 rfl) ?_
          refine lv_if_ne (tgt := 143) hx hb dX11_unit_123 (by decide) (fun c186 => ?_) (fun c186 => ?_)
          · skip
            have rlc186 : (1 : Int) ≠ (0 : Int) := iv_ne c186
            clear rlc186
            refine lv_aload_n hx hb dX11_unit_143 rfl (lv_at hl 1 rfl) ?_
            refine th_callVM (n := 0) (As := []) S hK hH hS (th_A.sub (by decide)) (m_X11_misplaced l D cT T q hT hq a0 t0) gm_1503 gm_1500 gm_1502 gm_53 gm_124 (by decide +kernel) ⟨rfl, rfl, Nat.le_of_ble_eq_true rfl, Nat.le_of_ble_eq_true rfl⟩ t0 km_0 rfl rfl hl.1 rfl (Nat.le_of_ble_eq_true rfl) dX11_unit_144 ⟨Nat.zero_le _, Nat.zero_le _⟩ (fun wq187 q187 H locs hEq187 hH hS hF1 => ?_)
            obtain ⟨rfl, hqq187, g0q187, pq187_0⟩ := hEq187
            show W p l e (rmk 2 44) s m [.ref a0].toArray below meth c H locs 0 0 (MQ below (th_QM D cT T (fun v q2 => ∃ r : Int32, v = some (.int r) ∧ IV r 0 1 ∧ qkm q2 ∧ fr [20, 21, 22, 23, 24, 27, 28, 29, 30, 31, 1000] q q2 ∧ (TS q2) ∧ (q 27 ≤ q2 27) ∧ (DM q q2) ∧ (kp q q2 (q 35)) ∧ (RU q2 r.toInt) ∧ (GD q q2)) [0, 8, 28, 29, 30, 31]) [.ref a0].toArray s 0 0 (th_A T [0, 8, 28, 29, 30, 31])) (F0 m 147 ls [])
            have pq187_0 : 1 ≤ q187 30 := pq187_0
            have wq187_10 : q187 10 = q 10 := g0q187 10 (by decide) (Or.inl (by decide))
            have wq187_13 : q187 13 = q 13 := g0q187 13 (by decide) (Or.inl (by decide))
            have wq187_20 : q187 20 = q 20 := g0q187 20 (by decide) (Or.inl (by decide))
            have wq187_21 : q187 21 = q 21 := g0q187 21 (by decide) (Or.inl (by decide))
            have wq187_22 : q187 22 = q 22 := g0q187 22 (by decide) (Or.inl (by decide))
            have wq187_23 : q187 23 = q 23 := g0q187 23 (by decide) (Or.inl (by decide))
            have wq187_24 : q187 24 = q 24 := g0q187 24 (by decide) (Or.inl (by decide))
            have wq187_26 : q187 26 = q 26 := g0q187 26 (by decide) (Or.inl (by decide))
            have wq187_27 : q187 27 = q 27 := g0q187 27 (by decide) (Or.inl (by decide))
            have wq187_28 : q187 28 = q 28 := g0q187 28 (by decide) (Or.inl (by decide))
            have wq187_29 : q187 29 = q 29 := g0q187 29 (by decide) (Or.inl (by decide))
            have wq187_31 : q187 31 = q 31 := g0q187 31 (by decide) (Or.inl (by decide))
            have wq187_35 : q187 35 = q 35 := g0q187 35 (by decide) (Or.inl (by decide))
            have h0q187 : fr [20, 21, 22, 23, 24, 27, 28, 29, 30, 31, 1000] q q187 := fr_tr fr_rf g0q187 (by decide)
            have bgq187 : bg q q187 := bg_fr bg_rf g0q187 (by decide)
            have gdq187 : GD q q187 := GD_tr (GD_eq rfl) (GD_no pq187_0)
            have gbq187 : GD q q187 := GD_tr (GD_eq rfl) (GD_no pq187_0)
            have txq187 : tx q q187 := tx_tr tx_rf (tx_bg (bg_fr bg_rf g0q187 (by decide)))
            refine lv_aload_n hx hb dX11_unit_147 rfl (lv_at hl 1 rfl) ?_
            refine th_callVp (n := 0) (As := []) S hK hH hS (th_A.sub (by decide)) (m_X11_isGood l D cT T q187 hT hqq187 a0 t0) gm_1487 gm_1484 gm_1486 gm_49 gm_124 (by decide +kernel) ⟨rfl, rfl, Nat.le_of_ble_eq_true rfl, Nat.le_of_ble_eq_true rfl⟩ t0 km_0 rfl rfl hl.1 rfl (Nat.le_of_ble_eq_true rfl) dX11_unit_148 ⟨Nat.zero_le _, Nat.zero_le _⟩ (fun x188 H locs ix188 ox188 hH hS hF1 => ?_)
            obtain ⟨ox188_0, ox188_1⟩ := ox188
            have ox188_0 : x188.toInt ≠ 0 → q187 30 = 0 := ox188_0
            have ox188_1 : x188.toInt = 0 → 1 ≤ q187 30 := ox188_1
            have l1x188 := ix188.1; have l2x188 := ix188.2
            refine lv_if_ne (tgt := 156) hx hb dX11_unit_151 (by decide) (fun c189 => ?_) (fun c189 => ?_)
            · skip
              have rlc189 : x188.toInt ≠ (0 : Int) := iv_ne c189
              have ox188_0r := ox188_0 rlc189
              clear ox188_0
              clear ox188_1
              have ir190 : IV x188 1 1 := iv_cutL ix188 (iv_c (by decide) : IV 0 0 0) c189 (by decide)
              have ir190a := ir190.1; have ir190b := ir190.2
              clear rlc189
              exfalso; omega
            · skip
              have rlc189 : x188.toInt = (0 : Int) := congrArg Int32.toInt c189
              clear ox188_0
              have ox188_1r := ox188_1 rlc189
              clear ox188_1
              have ir191 : IV x188 0 0 := iv_eL c189 (iv_c (by decide) : IV 0 0 0)
              have ir191a := ir191.1; have ir191b := ir191.2
              have hkp : kp q q187 (q 35) := kp_bg bgq187
              have hRU : RU q187 (1 : Int) := RU_no (by omega)
              refine lv_iconst (v := 1) hx hb dX11_unit_154 (by decide) ?_
              exact th_zretM S hK hH hS hr hlocks (iv_w (iv_c (by decide) : IV 1 1 1) (by decide)) ⟨_, rfl, (iv_w (iv_c (by decide) : IV 1 1 1) (by decide)), hqq187, h0q187, (show TS q187 by exact (TS_mv hp0 txq187 (by omega) (by omega) (by omega) (by omega) (by omega) (fun z => by omega))), (show q 27 ≤ q187 27 by omega), (show DM q q187 by exact DM_no (by omega)), (show kp q q187 (q 35) by exact hkp), (show RU q187 (1 : Int) by exact hRU), (show GD q q187 by exact gdq187)⟩ dX11_unit_155
          · skip
            have rlc186 : (1 : Int) = (0 : Int) := congrArg Int32.toInt c186
            exfalso
            have z1 := congrArg Int32.toInt c186
            have z2 := ((iv_c (by decide) : IV 1 1 1)).1
            have z3 := ((iv_c (by decide) : IV 1 1 1)).2
            have z4 := ((iv_c (by decide) : IV 0 0 0)).1
            have z5 := ((iv_c (by decide) : IV 0 0 0)).2
            omega
        · skip
          have rlc184 : x183.toInt ≠ (4 : Int) := iv_ne c184
          clear rlc184
          refine lv_iload_n hx hb dX11_unit_117 rfl (lv_at hl 3 rfl) ?_
          refine lv_if_eq (tgt := 143) hx hb dX11_unit_118 (by decide) (fun c192 => ?_) (fun c192 => ?_)
          · skip
            have rlc192 : v98_3.toInt = (0 : Int) := congrArg Int32.toInt c192
            have ir193 : IV v98_3 0 0 := iv_eL c192 (iv_c (by decide) : IV 0 0 0)
            have ir193a := ir193.1; have ir193b := ir193.2
            refine lv_aload_n hx hb dX11_unit_143 rfl (lv_at hl 1 rfl) ?_
            refine th_callVM (n := 0) (As := []) S hK hH hS (th_A.sub (by decide)) (m_X11_misplaced l D cT T q hT hq a0 t0) gm_1503 gm_1500 gm_1502 gm_53 gm_124 (by decide +kernel) ⟨rfl, rfl, Nat.le_of_ble_eq_true rfl, Nat.le_of_ble_eq_true rfl⟩ t0 km_0 rfl rfl hl.1 rfl (Nat.le_of_ble_eq_true rfl) dX11_unit_144 ⟨Nat.zero_le _, Nat.zero_le _⟩ (fun wq194 q194 H locs hEq194 hH hS hF1 => ?_)
            obtain ⟨rfl, hqq194, g0q194, pq194_0⟩ := hEq194
            show W p l e (rmk 2 44) s m [.ref a0].toArray below meth c H locs 0 0 (MQ below (th_QM D cT T (fun v q2 => ∃ r : Int32, v = some (.int r) ∧ IV r 0 1 ∧ qkm q2 ∧ fr [20, 21, 22, 23, 24, 27, 28, 29, 30, 31, 1000] q q2 ∧ (TS q2) ∧ (q 27 ≤ q2 27) ∧ (DM q q2) ∧ (kp q q2 (q 35)) ∧ (RU q2 r.toInt) ∧ (GD q q2)) [0, 8, 28, 29, 30, 31]) [.ref a0].toArray s 0 0 (th_A T [0, 8, 28, 29, 30, 31])) (F0 m 147 ls [])
            have pq194_0 : 1 ≤ q194 30 := pq194_0
            have wq194_10 : q194 10 = q 10 := g0q194 10 (by decide) (Or.inl (by decide))
            have wq194_13 : q194 13 = q 13 := g0q194 13 (by decide) (Or.inl (by decide))
            have wq194_20 : q194 20 = q 20 := g0q194 20 (by decide) (Or.inl (by decide))
            have wq194_21 : q194 21 = q 21 := g0q194 21 (by decide) (Or.inl (by decide))
            have wq194_22 : q194 22 = q 22 := g0q194 22 (by decide) (Or.inl (by decide))
            have wq194_23 : q194 23 = q 23 := g0q194 23 (by decide) (Or.inl (by decide))
            have wq194_24 : q194 24 = q 24 := g0q194 24 (by decide) (Or.inl (by decide))
            have wq194_26 : q194 26 = q 26 := g0q194 26 (by decide) (Or.inl (by decide))
            have wq194_27 : q194 27 = q 27 := g0q194 27 (by decide) (Or.inl (by decide))
            have wq194_28 : q194 28 = q 28 := g0q194 28 (by decide) (Or.inl (by decide))
            have wq194_29 : q194 29 = q 29 := g0q194 29 (by decide) (Or.inl (by decide))
            have wq194_31 : q194 31 = q 31 := g0q194 31 (by decide) (Or.inl (by decide))
            have wq194_35 : q194 35 = q 35 := g0q194 35 (by decide) (Or.inl (by decide))
            have h0q194 : fr [20, 21, 22, 23, 24, 27, 28, 29, 30, 31, 1000] q q194 := fr_tr fr_rf g0q194 (by decide)
            have bgq194 : bg q q194 := bg_fr bg_rf g0q194 (by decide)
            have gdq194 : GD q q194 := GD_tr (GD_eq rfl) (GD_no pq194_0)
            have gbq194 : GD q q194 := GD_tr (GD_eq rfl) (GD_no pq194_0)
            have txq194 : tx q q194 := tx_tr tx_rf (tx_bg (bg_fr bg_rf g0q194 (by decide)))
            refine lv_aload_n hx hb dX11_unit_147 rfl (lv_at hl 1 rfl) ?_
            refine th_callVp (n := 0) (As := []) S hK hH hS (th_A.sub (by decide)) (m_X11_isGood l D cT T q194 hT hqq194 a0 t0) gm_1487 gm_1484 gm_1486 gm_49 gm_124 (by decide +kernel) ⟨rfl, rfl, Nat.le_of_ble_eq_true rfl, Nat.le_of_ble_eq_true rfl⟩ t0 km_0 rfl rfl hl.1 rfl (Nat.le_of_ble_eq_true rfl) dX11_unit_148 ⟨Nat.zero_le _, Nat.zero_le _⟩ (fun x195 H locs ix195 ox195 hH hS hF1 => ?_)
            obtain ⟨ox195_0, ox195_1⟩ := ox195
            have ox195_0 : x195.toInt ≠ 0 → q194 30 = 0 := ox195_0
            have ox195_1 : x195.toInt = 0 → 1 ≤ q194 30 := ox195_1
            have l1x195 := ix195.1; have l2x195 := ix195.2
            refine lv_if_ne (tgt := 156) hx hb dX11_unit_151 (by decide) (fun c196 => ?_) (fun c196 => ?_)
            · skip
              have rlc196 : x195.toInt ≠ (0 : Int) := iv_ne c196
              have ox195_0r := ox195_0 rlc196
              clear ox195_0
              clear ox195_1
              have ir197 : IV x195 1 1 := iv_cutL ix195 (iv_c (by decide) : IV 0 0 0) c196 (by decide)
              have ir197a := ir197.1; have ir197b := ir197.2
              clear rlc196
              exfalso; omega
            · skip
              have rlc196 : x195.toInt = (0 : Int) := congrArg Int32.toInt c196
              clear ox195_0
              have ox195_1r := ox195_1 rlc196
              clear ox195_1
              have ir198 : IV x195 0 0 := iv_eL c196 (iv_c (by decide) : IV 0 0 0)
              have ir198a := ir198.1; have ir198b := ir198.2
              have hkp : kp q q194 (q 35) := kp_bg bgq194
              have hRU : RU q194 (1 : Int) := RU_no (by omega)
              refine lv_iconst (v := 1) hx hb dX11_unit_154 (by decide) ?_
              exact th_zretM S hK hH hS hr hlocks (iv_w (iv_c (by decide) : IV 1 1 1) (by decide)) ⟨_, rfl, (iv_w (iv_c (by decide) : IV 1 1 1) (by decide)), hqq194, h0q194, (show TS q194 by exact (TS_mv hp0 txq194 (by omega) (by omega) (by omega) (by omega) (by omega) (fun z => by omega))), (show q 27 ≤ q194 27 by omega), (show DM q q194 by exact DM_no (by omega)), (show kp q q194 (q 35) by exact hkp), (show RU q194 (1 : Int) by exact hRU), (show GD q q194 by exact gdq194)⟩ dX11_unit_155
          · skip
            have rlc192 : v98_3.toInt ≠ (0 : Int) := iv_ne c192
            have ir199 : IV v98_3 1 1 := iv_cutL iv98_3 (iv_c (by decide) : IV 0 0 0) c192 (by decide)
            have ir199a := ir199.1; have ir199b := ir199.2
            refine lv_iload hx hb dX11_unit_121 (lv_at hl 0 rfl) ?_
            refine lv_if_ne (tgt := 143) hx hb dX11_unit_123 (by decide) (fun c200 => ?_) (fun c200 => ?_)
            · skip
              have rlc200 : (1 : Int) ≠ (0 : Int) := iv_ne c200
              clear rlc200
              refine lv_aload_n hx hb dX11_unit_143 rfl (lv_at hl 1 rfl) ?_
              refine th_callVM (n := 0) (As := []) S hK hH hS (th_A.sub (by decide)) (m_X11_misplaced l D cT T q hT hq a0 t0) gm_1503 gm_1500 gm_1502 gm_53 gm_124 (by decide +kernel) ⟨rfl, rfl, Nat.le_of_ble_eq_true rfl, Nat.le_of_ble_eq_true rfl⟩ t0 km_0 rfl rfl hl.1 rfl (Nat.le_of_ble_eq_true rfl) dX11_unit_144 ⟨Nat.zero_le _, Nat.zero_le _⟩ (fun wq201 q201 H locs hEq201 hH hS hF1 => ?_)
              obtain ⟨rfl, hqq201, g0q201, pq201_0⟩ := hEq201
              show W p l e (rmk 2 44) s m [.ref a0].toArray below meth c H locs 0 0 (MQ below (th_QM D cT T (fun v q2 => ∃ r : Int32, v = some (.int r) ∧ IV r 0 1 ∧ qkm q2 ∧ fr [20, 21, 22, 23, 24, 27, 28, 29, 30, 31, 1000] q q2 ∧ (TS q2) ∧ (q 27 ≤ q2 27) ∧ (DM q q2) ∧ (kp q q2 (q 35)) ∧ (RU q2 r.toInt) ∧ (GD q q2)) [0, 8, 28, 29, 30, 31]) [.ref a0].toArray s 0 0 (th_A T [0, 8, 28, 29, 30, 31])) (F0 m 147 ls [])
              have pq201_0 : 1 ≤ q201 30 := pq201_0
              have wq201_10 : q201 10 = q 10 := g0q201 10 (by decide) (Or.inl (by decide))
              have wq201_13 : q201 13 = q 13 := g0q201 13 (by decide) (Or.inl (by decide))
              have wq201_20 : q201 20 = q 20 := g0q201 20 (by decide) (Or.inl (by decide))
              have wq201_21 : q201 21 = q 21 := g0q201 21 (by decide) (Or.inl (by decide))
              have wq201_22 : q201 22 = q 22 := g0q201 22 (by decide) (Or.inl (by decide))
              have wq201_23 : q201 23 = q 23 := g0q201 23 (by decide) (Or.inl (by decide))
              have wq201_24 : q201 24 = q 24 := g0q201 24 (by decide) (Or.inl (by decide))
              have wq201_26 : q201 26 = q 26 := g0q201 26 (by decide) (Or.inl (by decide))
              have wq201_27 : q201 27 = q 27 := g0q201 27 (by decide) (Or.inl (by decide))
              have wq201_28 : q201 28 = q 28 := g0q201 28 (by decide) (Or.inl (by decide))
              have wq201_29 : q201 29 = q 29 := g0q201 29 (by decide) (Or.inl (by decide))
              have wq201_31 : q201 31 = q 31 := g0q201 31 (by decide) (Or.inl (by decide))
              have wq201_35 : q201 35 = q 35 := g0q201 35 (by decide) (Or.inl (by decide))
              have h0q201 : fr [20, 21, 22, 23, 24, 27, 28, 29, 30, 31, 1000] q q201 := fr_tr fr_rf g0q201 (by decide)
              have bgq201 : bg q q201 := bg_fr bg_rf g0q201 (by decide)
              have gdq201 : GD q q201 := GD_tr (GD_eq rfl) (GD_no pq201_0)
              have gbq201 : GD q q201 := GD_tr (GD_eq rfl) (GD_no pq201_0)
              have txq201 : tx q q201 := tx_tr tx_rf (tx_bg (bg_fr bg_rf g0q201 (by decide)))
              refine lv_aload_n hx hb dX11_unit_147 rfl (lv_at hl 1 rfl) ?_
              refine th_callVp (n := 0) (As := []) S hK hH hS (th_A.sub (by decide)) (m_X11_isGood l D cT T q201 hT hqq201 a0 t0) gm_1487 gm_1484 gm_1486 gm_49 gm_124 (by decide +kernel) ⟨rfl, rfl, Nat.le_of_ble_eq_true rfl, Nat.le_of_ble_eq_true rfl⟩ t0 km_0 rfl rfl hl.1 rfl (Nat.le_of_ble_eq_true rfl) dX11_unit_148 ⟨Nat.zero_le _, Nat.zero_le _⟩ (fun x202 H locs ix202 ox202 hH hS hF1 => ?_)
              obtain ⟨ox202_0, ox202_1⟩ := ox202
              have ox202_0 : x202.toInt ≠ 0 → q201 30 = 0 := ox202_0
              have ox202_1 : x202.toInt = 0 → 1 ≤ q201 30 := ox202_1
              have l1x202 := ix202.1; have l2x202 := ix202.2
              refine lv_if_ne (tgt := 156) hx hb dX11_unit_151 (by decide) (fun c203 => ?_) (fun c203 => ?_)
              · skip
                have rlc203 : x202.toInt ≠ (0 : Int) := iv_ne c203
                have ox202_0r := ox202_0 rlc203
                clear ox202_0
                clear ox202_1
                have ir204 : IV x202 1 1 := iv_cutL ix202 (iv_c (by decide) : IV 0 0 0) c203 (by decide)
                have ir204a := ir204.1; have ir204b := ir204.2
                clear rlc203
                exfalso; omega
              · skip
                have rlc203 : x202.toInt = (0 : Int) := congrArg Int32.toInt c203
                clear ox202_0
                have ox202_1r := ox202_1 rlc203
                clear ox202_1
                have ir205 : IV x202 0 0 := iv_eL c203 (iv_c (by decide) : IV 0 0 0)
                have ir205a := ir205.1; have ir205b := ir205.2
                have hkp : kp q q201 (q 35) := kp_bg bgq201
                have hRU : RU q201 (1 : Int) := RU_no (by omega)
                refine lv_iconst (v := 1) hx hb dX11_unit_154 (by decide) ?_
                exact th_zretM S hK hH hS hr hlocks (iv_w (iv_c (by decide) : IV 1 1 1) (by decide)) ⟨_, rfl, (iv_w (iv_c (by decide) : IV 1 1 1) (by decide)), hqq201, h0q201, (show TS q201 by exact (TS_mv hp0 txq201 (by omega) (by omega) (by omega) (by omega) (by omega) (fun z => by omega))), (show q 27 ≤ q201 27 by omega), (show DM q q201 by exact DM_no (by omega)), (show kp q q201 (q 35) by exact hkp), (show RU q201 (1 : Int) by exact hRU), (show GD q q201 by exact gdq201)⟩ dX11_unit_155
            · skip
              have rlc200 : (1 : Int) = (0 : Int) := congrArg Int32.toInt c200
              exfalso
              have z1 := congrArg Int32.toInt c200
              have z2 := ((iv_c (by decide) : IV 1 1 1)).1
              have z3 := ((iv_c (by decide) : IV 1 1 1)).2
              have z4 := ((iv_c (by decide) : IV 0 0 0)).1
              have z5 := ((iv_c (by decide) : IV 0 0 0)).2
              omega

