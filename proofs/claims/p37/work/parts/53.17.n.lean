
set_option maxHeartbeats 20000000 in
set_option maxRecDepth 100000 in
theorem J98_s0_0_l2_0_X11_unit (l : Launch) (D : va_G) (cT : Nat → ClassId) (T : Nat → Option Nat) (q : Nat → Int) (hT : tokm T) (hq : qkm q) (a0 : Nat) (t0 : T a0 = some 0) (hp0 : TS q) (hp1 : q 13 = 1 - q 10) (hp2 : q 30 = 0) (hp3 : 0 ≤ q 35) (hp4 : RS q 1) (hp5 : 1 ≤ q 21) (p : Program) (e : Env) (s : State) (m : MethodId) (below : List Frame) (meth : Method) (c : Code) (S : CallFix p m c cX11_unit 7 s [.ref a0].toArray gw yX11_unit.cls) (hK : va_K D classes (th_tys cT) s) (hr : meth.sig.returnType = (some .boolean)) (hlocks : meth.locks = false) : ∀ (H : Heap) (locs : List Loc) (ls : Array Slot) (v98_3 : Int32) (v98_4 : Int32), IV v98_3 0 1 → IV v98_4 0 122 → (v98_3.toInt ≠ 0 → q 29 = 5) → (v98_4.toInt ≠ 0 → q 29 = 3 ∧ 97 ≤ v98_4.toInt) → (q 24 ≤ 89 ∧ q 23 ≤ 29) → th_H D cT T (km q) H → va_S (th_A T [0, 8, 28, 29, 30, 31]) s.heap H locs → lv_has ls 7 [(0, .ref a0), (2, .int 0), (3, .int v98_3), (4, .int v98_4)] → W p l e (rmk 2 44) s m [.ref a0].toArray below meth c H locs 0 0 (MQ below (th_QM D cT T (fun v q2 => ∃ r : Int32, v = some (.int r) ∧ IV r 0 1 ∧ qkm q2 ∧ fr [20, 21, 22, 23, 24, 27, 28, 29, 30, 31, 1000] q q2 ∧ (TS q2) ∧ (q 27 ≤ q2 27) ∧ (DM q q2) ∧ (kp q q2 (q 35)) ∧ (RU q2 r.toInt) ∧ (GD q q2)) [0, 8, 28, 29, 30, 31]) [.ref a0].toArray s 0 0 (th_A T [0, 8, 28, 29, 30, 31])) (F0 m 98 ls [.int 0]) := by
    have hx := S.1
    have hb := S.2.1
    have b13 := qkm_13 hq; have b10 := qkm_10 hq; have b20 := qkm_20 hq; have b22 := qkm_22 hq; have b23 := qkm_23 hq; have b24 := qkm_24 hq; have b26 := qkm_26 hq; have b27 := qkm_27 hq; have le0 := TS_le hp0
    obtain ⟨hlo1, hlo2, hlo3⟩ := RS_lo hp4; have hpil := RS_piled hp4 (by decide)
    have J126_l2_0 := J126_l2_0_X11_unit l D cT T q hT hq a0 t0 hp0 hp1 hp2 hp3 hp4 hp5 p e s m below meth c S hK hr hlocks
    intro H locs ls v98_3 v98_4 iv98_3 iv98_4 v98_inv0 v98_inv1 v98_inv2 hH hS hl
    have l1v98_3 := iv98_3.1; have l2v98_3 := iv98_3.2
    have l1v98_4 := iv98_4.1; have l2v98_4 := iv98_4.2
    refine lv_istore (lv' := [(5, .int 0), (0, .ref a0), (2, .int 0), (3, .int v98_3), (4, .int v98_4)]) hx hb dX11_unit_98 hl (by decide) rfl (fun ls hl => ?_)
    refine lv_iload_n hx hb dX11_unit_100 rfl (lv_at hl 2 rfl) ?_
    refine lv_if_ne (tgt := 126) hx hb dX11_unit_101 (by decide) (fun c153 => ?_) (fun c153 => ?_)
    · skip
      have rlc153 : (0 : Int) ≠ (0 : Int) := iv_ne c153
      exact absurd (iv_eqc (iv_c (by decide) : IV 0 0 0) (iv_c (by decide) : IV 0 0 0)) c153
    · skip
      have rlc153 : (0 : Int) = (0 : Int) := congrArg Int32.toInt c153
      refine lv_iload hx hb dX11_unit_104 (lv_at hl 4 rfl) ?_
      refine lv_if_ne (tgt := 121) hx hb dX11_unit_106 (by decide) (fun c154 => ?_) (fun c154 => ?_)
      · skip
        have rlc154 : v98_4.toInt ≠ (0 : Int) := iv_ne c154
        have ir155 : IV v98_4 1 122 := iv_cutL iv98_4 (iv_c (by decide) : IV 0 0 0) c154 (by decide)
        have ir155a := ir155.1; have ir155b := ir155.2
        refine lv_iload hx hb dX11_unit_121 (lv_at hl 0 rfl) ?_
        refine lv_if_ne (tgt := 143) hx hb dX11_unit_123 (by decide) (fun c156 => ?_) (fun c156 => ?_)
        · skip
          have rlc156 : (0 : Int) ≠ (0 : Int) := iv_ne c156
          exact absurd (iv_eqc (iv_c (by decide) : IV 0 0 0) (iv_c (by decide) : IV 0 0 0)) c156
        · skip
          have rlc156 : (0 : Int) = (0 : Int) := congrArg Int32.toInt c156
          exact J126_l2_0 H locs ls v98_3 v98_4 iv98_3 (iv_w ir155 (by decide)) (show v98_3.toInt ≠ 0 → q 29 = 5 by first | assumption | omega) (show v98_4.toInt ≠ 0 → q 29 = 3 ∧ 97 ≤ v98_4.toInt by first | assumption | omega) (show q 24 ≤ 89 ∧ q 23 ≤ 29 by exact ⟨by omega, by omega⟩) (show v98_4.toInt ≠ 0 ∨ q 29 = 4 ∨ v98_3.toInt ≠ 0 by omega) hH hS (lv_sub hl [1, 2, 3, 4] rfl)
      · skip
        have rlc154 : v98_4.toInt = (0 : Int) := congrArg Int32.toInt c154
        have ir157 : IV v98_4 0 0 := iv_eL c154 (iv_c (by decide) : IV 0 0 0)
        have ir157a := ir157.1; have ir157b := ir157.2
        refine lv_aload_n hx hb dX11_unit_109 rfl (lv_at hl 1 rfl) ?_
        refine th_get S hK hH inG11 t0 km_0 rfl 8 (by decide) gm_1238 rfl rfl dX11_unit_110 (fun v158 hv158 fv158 => ?_)
        obtain ⟨x159, rfl, ix159⟩ := th_V.int hv158
        have kx159 : x159.toInt = q 29 := Int.le_antisymm ix159.2 ix159.1
        have bx159 := qkm_29 hq
        have ix159 : IV x159 0 5 := iv_w ix159 (qkm_29 hq)
        refine lv_iconst (v := 4) hx hb dX11_unit_113 (by decide) ?_
        refine lv_icmp_eq (tgt := 121) hx hb dX11_unit_114 (by decide) (fun c160 => ?_) (fun c160 => ?_)
        · skip
          have rlc160 : x159.toInt = (4 : Int) := congrArg Int32.toInt c160
          have ir161 : IV x159 4 4 := iv_eL c160 (iv_c (by decide) : IV 4 4 4)
          have ir161a := ir161.1; have ir161b := ir161.2
          refine lv_iload hx hb dX11_unit_121 (lv_at hl 0 rfl) ?_
          refine lv_if_ne (tgt := 143) hx hb dX11_unit_123 (by decide) (fun c162 => ?_) (fun c162 => ?_)
          · skip
            have rlc162 : (0 : Int) ≠ (0 : Int) := iv_ne c162
            exact absurd (iv_eqc (iv_c (by decide) : IV 0 0 0) (iv_c (by decide) : IV 0 0 0)) c162
          · skip
            have rlc162 : (0 : Int) = (0 : Int) := congrArg Int32.toInt c162
            exact J126_l2_0 H locs ls v98_3 v98_4 iv98_3 (iv_w ir157 (by decide)) (show v98_3.toInt ≠ 0 → q 29 = 5 by first | assumption | omega) (show v98_4.toInt ≠ 0 → q 29 = 3 ∧ 97 ≤ v98_4.toInt by first | assumption | omega) (show q 24 ≤ 89 ∧ q 23 ≤ 29 by exact ⟨by omega, by omega⟩) (show v98_4.toInt ≠ 0 ∨ q 29 = 4 ∨ v98_3.toInt ≠ 0 by omega) hH hS (lv_sub hl [1, 2, 3, 4] rfl)
        · skip
          have rlc160 : x159.toInt ≠ (4 : Int) := iv_ne c160
          clear rlc160
          refine lv_iload_n hx hb dX11_unit_117 rfl (lv_at hl 3 rfl) ?_
          refine lv_if_eq (tgt := 143) hx hb dX11_unit_118 (by decide) (fun c163 => ?_) (fun c163 => ?_)
          · skip
            have rlc163 : v98_3.toInt = (0 : Int) := congrArg Int32.toInt c163
            have ir164 : IV v98_3 0 0 := iv_eL c163 (iv_c (by decide) : IV 0 0 0)
            have ir164a := ir164.1; have ir164b := ir164.2
            refine lv_aload_n hx hb dX11_unit_143 rfl (lv_at hl 1 rfl) ?_
            refine th_callVM (n := 0) (As := []) S hK hH hS (th_A.sub (by decide)) (m_X11_misplaced l D cT T q hT hq a0 t0) gm_1503 gm_1500 gm_1502 gm_53 gm_124 (by decide +kernel) ⟨rfl, rfl, Nat.le_of_ble_eq_true rfl, Nat.le_of_ble_eq_true rfl⟩ t0 km_0 rfl rfl hl.1 rfl (Nat.le_of_ble_eq_true rfl) dX11_unit_144 ⟨Nat.zero_le _, Nat.zero_le _⟩ (fun wq165 q165 H locs hEq165 hH hS hF1 => ?_)
            obtain ⟨rfl, hqq165, g0q165, pq165_0⟩ := hEq165
            show W p l e (rmk 2 44) s m [.ref a0].toArray below meth c H locs 0 0 (MQ below (th_QM D cT T (fun v q2 => ∃ r : Int32, v = some (.int r) ∧ IV r 0 1 ∧ qkm q2 ∧ fr [20, 21, 22, 23, 24, 27, 28, 29, 30, 31, 1000] q q2 ∧ (TS q2) ∧ (q 27 ≤ q2 27) ∧ (DM q q2) ∧ (kp q q2 (q 35)) ∧ (RU q2 r.toInt) ∧ (GD q q2)) [0, 8, 28, 29, 30, 31]) [.ref a0].toArray s 0 0 (th_A T [0, 8, 28, 29, 30, 31])) (F0 m 147 ls [])
            have pq165_0 : 1 ≤ q165 30 := pq165_0
            have wq165_10 : q165 10 = q 10 := g0q165 10 (by decide) (Or.inl (by decide))
            have wq165_13 : q165 13 = q 13 := g0q165 13 (by decide) (Or.inl (by decide))
            have wq165_20 : q165 20 = q 20 := g0q165 20 (by decide) (Or.inl (by decide))
            have wq165_21 : q165 21 = q 21 := g0q165 21 (by decide) (Or.inl (by decide))
            have wq165_22 : q165 22 = q 22 := g0q165 22 (by decide) (Or.inl (by decide))
            have wq165_23 : q165 23 = q 23 := g0q165 23 (by decide) (Or.inl (by decide))
            have wq165_24 : q165 24 = q 24 := g0q165 24 (by decide) (Or.inl (by decide))
            have wq165_26 : q165 26 = q 26 := g0q165 26 (by decide) (Or.inl (by decide))
            have wq165_27 : q165 27 = q 27 := g0q165 27 (by decide) (Or.inl (by decide))
            have wq165_28 : q165 28 = q 28 := g0q165 28 (by decide) (Or.inl (by decide))
            have wq165_29 : q165 29 = q 29 := g0q165 29 (by decide) (Or.inl (by decide))
            have wq165_31 : q165 31 = q 31 := g0q165 31 (by decide) (Or.inl (by decide))
            have wq165_35 : q165 35 = q 35 := g0q165 35 (by decide) (Or.inl (by decide))
            have h0q165 : fr [20, 21, 22, 23, 24, 27, 28, 29, 30, 31, 1000] q q165 := fr_tr fr_rf g0q165 (by decide)
            have bgq165 : bg q q165 := bg_fr bg_rf g0q165 (by decide)
            have gdq165 : GD q q165 := GD_tr (GD_eq rfl) (GD_no pq165_0)
            have gbq165 : GD q q165 := GD_tr (GD_eq rfl) (GD_no pq165_0)
            have txq165 : tx q q165 := tx_tr tx_rf (tx_bg (bg_fr bg_rf g0q165 (by decide)))
            refine lv_aload_n hx hb dX11_unit_147 rfl (lv_at hl 1 rfl) ?_
            refine th_callVp (n := 0) (As := []) S hK hH hS (th_A.sub (by decide)) (m_X11_isGood l D cT T q165 hT hqq165 a0 t0) gm_1487 gm_1484 gm_1486 gm_49 gm_124 (by decide +kernel) ⟨rfl, rfl, Nat.le_of_ble_eq_true rfl, Nat.le_of_ble_eq_true rfl⟩ t0 km_0 rfl rfl hl.1 rfl (Nat.le_of_ble_eq_true rfl) dX11_unit_148 ⟨Nat.zero_le _, Nat.zero_le _⟩ (fun x166 H locs ix166 ox166 hH hS hF1 => ?_)
            obtain ⟨ox166_0, ox166_1⟩ := ox166
            have ox166_0 : x166.toInt ≠ 0 → q165 30 = 0 := ox166_0
            have ox166_1 : x166.toInt = 0 → 1 ≤ q165 30 := ox166_1
            have l1x166 := ix166.1; have l2x166 := ix166.2
            refine lv_if_ne (tgt := 156) hx hb dX11_unit_151 (by decide) (fun c167 => ?_) (fun c167 => ?_)
            · skip
              have rlc167 : x166.toInt ≠ (0 : Int) := iv_ne c167
              have ox166_0r := ox166_0 rlc167
              clear ox166_0
              clear ox166_1
              have ir168 : IV x166 1 1 := iv_cutL ix166 (iv_c (by decide) : IV 0 0 0) c167 (by decide)
              have ir168a := ir168.1; have ir168b := ir168.2
              clear rlc167
              exfalso; omega
            · skip
              have rlc167 : x166.toInt = (0 : Int) := congrArg Int32.toInt c167
              clear ox166_0
              have ox166_1r := ox166_1 rlc167
              clear ox166_1
              have ir169 : IV x166 0 0 := iv_eL c167 (iv_c (by decide) : IV 0 0 0)
              have ir169a := ir169.1; have ir169b := ir169.2
              have hkp : kp q q165 (q 35) := kp_bg bgq165
              have hRU : RU q165 (1 : Int) := RU_no (by omega)
              refine lv_iconst (v := 1) hx hb dX11_unit_154 (by decide) ?_
              exact th_zretM S hK hH hS hr hlocks (iv_w (iv_c (by decide) : IV 1 1 1) (by decide)) ⟨_, rfl, (iv_w (iv_c (by decide) : IV 1 1 1) (by decide)), hqq165, h0q165, (show TS q165 by exact (TS_mv hp0 txq165 (by omega) (by omega) (by omega) (by omega) (by omega) (fun z => by omega))), (show q 27 ≤ q165 27 by omega), (show DM q q165 by exact DM_no (by omega)), (show kp q q165 (q 35) by exact hkp), (show RU q165 (1 : Int) by exact hRU), (show GD q q165 by exact gdq165)⟩ dX11_unit_155
          · skip
            have rlc163 : v98_3.toInt ≠ (0 : Int) := iv_ne c163
            have ir170 : IV v98_3 1 1 := iv_cutL iv98_3 (iv_c (by decide) : IV 0 0 0) c163 (by decide)
            have ir170a := ir170.1; have ir170b := ir170.2
            refine lv_iload hx hb dX11_unit_121 (lv_at hl 0 rfl) ?_
            refine lv_if_ne (tgt := 143) hx hb dX11_unit_123 (by decide) (fun c171 => ?_) (fun c171 => ?_)
            · skip
              have rlc171 : (0 : Int) ≠ (0 : Int) := iv_ne c171
              exact absurd (iv_eqc (iv_c (by decide) : IV 0 0 0) (iv_c (by decide) : IV 0 0 0)) c171
            · skip
              have rlc171 : (0 : Int) = (0 : Int) := congrArg Int32.toInt c171
              exact J126_l2_0 H locs ls v98_3 v98_4 (iv_w ir170 (by decide)) (iv_w ir157 (by decide)) (show v98_3.toInt ≠ 0 → q 29 = 5 by first | assumption | omega) (show v98_4.toInt ≠ 0 → q 29 = 3 ∧ 97 ≤ v98_4.toInt by first | assumption | omega) (show q 24 ≤ 89 ∧ q 23 ≤ 29 by exact ⟨by omega, by omega⟩) (show v98_4.toInt ≠ 0 ∨ q 29 = 4 ∨ v98_3.toInt ≠ 0 by omega) hH hS (lv_sub hl [1, 2, 3, 4] rfl)


set_option maxHeartbeats 20000000 in
set_option maxRecDepth 100000 in
theorem J98_s0_0_l2_1_X11_unit (l : Launch) (D : va_G) (cT : Nat → ClassId) (T : Nat → Option Nat) (q : Nat → Int) (hT : tokm T) (hq : qkm q) (a0 : Nat) (t0 : T a0 = some 0) (hp0 : TS q) (hp1 : q 13 = 1 - q 10) (hp2 : q 30 = 0) (hp3 : 0 ≤ q 35) (hp4 : RS q 1) (hp5 : 1 ≤ q 21) (p : Program) (e : Env) (s : State) (m : MethodId) (below : List Frame) (meth : Method) (c : Code) (S : CallFix p m c cX11_unit 7 s [.ref a0].toArray gw yX11_unit.cls) (hK : va_K D classes (th_tys cT) s) (hr : meth.sig.returnType = (some .boolean)) (hlocks : meth.locks = false) : ∀ (H : Heap) (locs : List Loc) (ls : Array Slot) (v98_3 : Int32) (v98_4 : Int32), IV v98_3 0 1 → IV v98_4 0 122 → (v98_3.toInt ≠ 0 → q 29 = 5) → (v98_4.toInt ≠ 0 → q 29 = 3 ∧ 97 ≤ v98_4.toInt) → (q 29 = 3 ∧ q 31 = 7237492) → (q 24 ≤ 89 ∧ q 23 ≤ 29) → th_H D cT T (km q) H → va_S (th_A T [0, 8, 28, 29, 30, 31]) s.heap H locs → lv_has ls 7 [(0, .ref a0), (2, .int 1), (3, .int v98_3), (4, .int v98_4)] → W p l e (rmk 2 44) s m [.ref a0].toArray below meth c H locs 0 0 (MQ below (th_QM D cT T (fun v q2 => ∃ r : Int32, v = some (.int r) ∧ IV r 0 1 ∧ qkm q2 ∧ fr [20, 21, 22, 23, 24, 27, 28, 29, 30, 31, 1000] q q2 ∧ (TS q2) ∧ (q 27 ≤ q2 27) ∧ (DM q q2) ∧ (kp q q2 (q 35)) ∧ (RU q2 r.toInt) ∧ (GD q q2)) [0, 8, 28, 29, 30, 31]) [.ref a0].toArray s 0 0 (th_A T [0, 8, 28, 29, 30, 31])) (F0 m 98 ls [.int 0]) := by
    have hx := S.1
    have hb := S.2.1
    have b13 := qkm_13 hq; have b10 := qkm_10 hq; have b20 := qkm_20 hq; have b22 := qkm_22 hq; have b23 := qkm_23 hq; have b24 := qkm_24 hq; have b26 := qkm_26 hq; have b27 := qkm_27 hq; have le0 := TS_le hp0
    obtain ⟨hlo1, hlo2, hlo3⟩ := RS_lo hp4; have hpil := RS_piled hp4 (by decide)
    have J126_l2_1 := J126_l2_1_X11_unit l D cT T q hT hq a0 t0 hp0 hp1 hp2 hp3 hp4 hp5 p e s m below meth c S hK hr hlocks
    intro H locs ls v98_3 v98_4 iv98_3 iv98_4 v98_inv0 v98_inv1 v98_inv2 v98_inv3 hH hS hl
    have l1v98_3 := iv98_3.1; have l2v98_3 := iv98_3.2
    have l1v98_4 := iv98_4.1; have l2v98_4 := iv98_4.2
    refine lv_istore (lv' := [(5, .int 0), (0, .ref a0), (2, .int 1), (3, .int v98_3), (4, .int v98_4)]) hx hb dX11_unit_98 hl (by decide) rfl (fun ls hl => ?_)
    refine lv_iload_n hx hb dX11_unit_100 rfl (lv_at hl 2 rfl) ?_
    refine lv_if_ne (tgt := 126) hx hb dX11_unit_101 (by decide) (fun c172 => ?_) (fun c172 => ?_)
    · skip
      have rlc172 : (1 : Int) ≠ (0 : Int) := iv_ne c172
      clear rlc172
      exact J126_l2_1 H locs ls v98_3 v98_4 iv98_3 iv98_4 (show v98_3.toInt ≠ 0 → q 29 = 5 by first | assumption | omega) (show v98_4.toInt ≠ 0 → q 29 = 3 ∧ 97 ≤ v98_4.toInt by first | assumption | omega) (show q 29 = 3 ∧ q 31 = 7237492 by omega) hH hS (lv_sub hl [1, 2, 3, 4] rfl)
    · skip
      have rlc172 : (1 : Int) = (0 : Int) := congrArg Int32.toInt c172
      exfalso
      have z1 := congrArg Int32.toInt c172
      have z2 := ((iv_c (by decide) : IV 1 1 1)).1
      have z3 := ((iv_c (by decide) : IV 1 1 1)).2
      have z4 := ((iv_c (by decide) : IV 0 0 0)).1
      have z5 := ((iv_c (by decide) : IV 0 0 0)).2
      omega


set_option maxHeartbeats 20000000 in
set_option maxRecDepth 100000 in
theorem J98_s0_1_l2_0_X11_unit (l : Launch) (D : va_G) (cT : Nat → ClassId) (T : Nat → Option Nat) (q : Nat → Int) (hT : tokm T) (hq : qkm q) (a0 : Nat) (t0 : T a0 = some 0) (hp0 : TS q) (hp1 : q 13 = 1 - q 10) (hp2 : q 30 = 0) (hp3 : 0 ≤ q 35) (hp4 : RS q 1) (hp5 : 1 ≤ q 21) (p : Program) (e : Env) (s : State) (m : MethodId) (below : List Frame) (meth : Method) (c : Code) (S : CallFix p m c cX11_unit 7 s [.ref a0].toArray gw yX11_unit.cls) (hK : va_K D classes (th_tys cT) s) (hr : meth.sig.returnType = (some .boolean)) (hlocks : meth.locks = false) : ∀ (H : Heap) (locs : List Loc) (ls : Array Slot) (v98_3 : Int32) (v98_4 : Int32), IV v98_3 0 1 → IV v98_4 0 122 → (v98_3.toInt ≠ 0 → q 29 = 5) → (v98_4.toInt ≠ 0 → q 29 = 3 ∧ 97 ≤ v98_4.toInt) → th_H D cT T (km q) H → va_S (th_A T [0, 8, 28, 29, 30, 31]) s.heap H locs → lv_has ls 7 [(0, .ref a0), (2, .int 0), (3, .int v98_3), (4, .int v98_4)] → W p l e (rmk 2 44) s m [.ref a0].toArray below meth c H locs 0 0 (MQ below (th_QM D cT T (fun v q2 => ∃ r : Int32, v = some (.int r) ∧ IV r 0 1 ∧ qkm q2 ∧ fr [20, 21, 22, 23, 24, 27, 28, 29, 30, 31, 1000] q q2 ∧ (TS q2) ∧ (q 27 ≤ q2 27) ∧ (DM q q2) ∧ (kp q q2 (q 35)) ∧ (RU q2 r.toInt) ∧ (GD q q2)) [0, 8, 28, 29, 30, 31]) [.ref a0].toArray s 0 0 (th_A T [0, 8, 28, 29, 30, 31])) (F0 m 98 ls [.int 1]) := by
    have hx := S.1
    have hb := S.2.1
    have b13 := qkm_13 hq; have b10 := qkm_10 hq; have b20 := qkm_20 hq; have b22 := qkm_22 hq; have b23 := qkm_23 hq; have b24 := qkm_24 hq; have b26 := qkm_26 hq; have b27 := qkm_27 hq; have le0 := TS_le hp0
    obtain ⟨hlo1, hlo2, hlo3⟩ := RS_lo hp4; have hpil := RS_piled hp4 (by decide)
    intro H locs ls v98_3 v98_4 iv98_3 iv98_4 v98_inv0 v98_inv1 hH hS hl
    have l1v98_3 := iv98_3.1; have l2v98_3 := iv98_3.2
    have l1v98_4 := iv98_4.1; have l2v98_4 := iv98_4.2
    refine lv_istore (lv' := [(5, .int 1), (0, .ref a0), (2, .int 0), (3, .int v98_3), (4, .int v98_4)]) hx hb dX11_unit_98 hl (by decide) rfl (fun ls hl => ?_)
    refine lv_iload_n hx hb dX11_unit_100 rfl (lv_at hl 2 rfl) ?_
    refine lv_if_ne (tgt := 126) hx hb dX11_unit_101 (by decide) (fun c173 => ?_) (fun c173 => ?_)
    · skip
      have rlc173 : (0 : Int) ≠ (0 : Int) := iv_ne c173
      exact absurd (iv_eqc (iv_c (by decide) : IV 0 0 0) (iv_c (by decide) : IV 0 0 0)) c173
    · skip
      have rlc173 : (0 : Int) = (0 : Int) := congrArg Int32.toInt c173
      refine lv_iload hx hb dX11_unit_104 (lv_at hl 4 rfl) ?_
      refine lv_if_ne (tgt := 121) hx hb dX11_unit_106 (by decide) (fun c174 => ?_) (fun c174 => ?_)
      · skip
        have rlc174 : v98_4.toInt ≠ (0 : Int) := iv_ne c174
        have ir175 : IV v98_4 1 122 := iv_cutL iv98_4 (iv_c (by decide) : IV 0 0 0) c174 (by decide)
        have ir175a := ir175.1; have ir175b := ir175.2
        refine lv_iload hx hb dX11_unit_121 (lv_at hl 0 rfl) ?_
        refine lv_if_ne (tgt := 143) hx hb dX11_unit_123 (by decide) (fun c176 => ?_) (fun c176 => ?_)
        · skip
          have rlc176 : (1 : Int) ≠ (0 : Int) := iv_ne c176
          clear rlc176
          refine lv_aload_n hx hb dX11_unit_143 rfl (lv_at hl 1 rfl) ?_
          refine th_callVM (n := 0) (As := []) S hK hH hS (th_A.sub (by decide)) (m_X11_misplaced l D cT T q hT hq a0 t0) gm_1503 gm_1500 gm_1502 gm_53 gm_124 (by decide +kernel) ⟨rfl, rfl, Nat.le_of_ble_eq_true rfl, Nat.le_of_ble_eq_true rfl⟩ t0 km_0 rfl rfl hl.1 rfl (Nat.le_of_ble_eq_true rfl) dX11_unit_144 ⟨Nat.zero_le _, Nat.zero_le _⟩ (fun wq177 q177 H locs hEq177 hH hS hF1 => ?_)
          obtain ⟨rfl, hqq177, g0q177, pq177_0⟩ := hEq177
          show W p l e (rmk 2 44) s m [.ref a0].toArray below meth c H locs 0 0 (MQ below (th_QM D cT T (fun v q2 => ∃ r : Int32, v = some (.int r) ∧ IV r 0 1 ∧ qkm q2 ∧ fr [20, 21, 22, 23, 24, 27, 28, 29, 30, 31, 1000] q q2 ∧ (TS q2) ∧ (q 27 ≤ q2 27) ∧ (DM q q2) ∧ (kp q q2 (q 35)) ∧ (RU q2 r.toInt) ∧ (GD q q2)) [0, 8, 28, 29, 30, 31]) [.ref a0].toArray s 0 0 (th_A T [0, 8, 28, 29, 30, 31])) (F0 m 147 ls [])
          have pq177_0 : 1 ≤ q177 30 := pq177_0
          have wq177_10 : q177 10 = q 10 := g0q177 10 (by decide) (Or.inl (by decide))
          have wq177_13 : q177 13 = q 13 := g0q177 13 (by decide) (Or.inl (by decide))
          have wq177_20 : q177 20 = q 20 := g0q177 20 (by decide) (Or.inl (by decide))
          have wq177_21 : q177 21 = q 21 := g0q177 21 (by decide) (Or.inl (by decide))
          have wq177_22 : q177 22 = q 22 := g0q177 22 (by decide) (Or.inl (by decide))
          have wq177_23 : q177 23 = q 23 := g0q177 23 (by decide) (Or.inl (by decide))
          have wq177_24 : q177 24 = q 24 := g0q177 24 (by decide) (Or.inl (by decide))
          have wq177_26 : q177 26 = q 26 := g0q177 26 (by decide) (Or.inl (by decide))
          have wq177_27 : q177 27 = q 27 := g0q177 27 (by decide) (Or.inl (by decide))
          have wq177_28 : q177 28 = q 28 := g0q177 28 (by decide) (Or.inl (by decide))
          have wq177_29 : q177 29 = q 29 := g0q177 29 (by decide) (Or.inl (by decide))
          have wq177_31 : q177 31 = q 31 := g0q177 31 (by decide) (Or.inl (by decide))
          have wq177_35 : q177 35 = q 35 := g0q177 35 (by decide) (Or.inl (by decide))
          have h0q177 : fr [20, 21, 22, 23, 24, 27, 28, 29, 30, 31, 1000] q q177 := fr_tr fr_rf g0q177 (by decide)
          have bgq177 : bg q q177 := bg_fr bg_rf g0q177 (by decide)
          have gdq177 : GD q q177 := GD_tr (GD_eq rfl) (GD_no pq177_0)
          have gbq177 : GD q q177 := GD_tr (GD_eq rfl) (GD_no pq177_0)
          have txq177 : tx q q177 := tx_tr tx_rf (tx_bg (bg_fr bg_rf g0q177 (by decide)))
          refine lv_aload_n hx hb dX11_unit_147 rfl (lv_at hl 1 rfl) ?_
          refine th_callVp (n := 0) (As := []) S hK hH hS (th_A.sub (by decide)) (m_X11_isGood l D cT T q177 hT hqq177 a0 t0) gm_1487 gm_1484 gm_1486 gm_49 gm_124 (by decide +kernel) ⟨rfl, rfl, Nat.le_of_ble_eq_true rfl, Nat.le_of_ble_eq_true rfl⟩ t0 km_0 rfl rfl hl.1 rfl (Nat.le_of_ble_eq_true rfl) dX11_unit_148 ⟨Nat.zero_le _, Nat.zero_le _⟩ (fun x178 H locs ix178 ox178 hH hS hF1 => ?_)
          obtain ⟨ox178_0, ox178_1⟩ := ox178
          have ox178_0 : x178.toInt ≠ 0 → q177 30 = 0 := ox178_0
          have ox178_1 : x178.toInt = 0 → 1 ≤ q177 30 := ox178_1
          have l1x178 := ix178.1; have l2x178 := ix178.2
          refine lv_if_ne (tgt := 156) hx hb dX11_unit_151 (by decide) (fun c179 => ?_) (fun c179 => ?_)
          · skip
            have rlc179 : x178.toInt ≠ (0 : Int) := iv_ne c179
            have ox178_0r := ox178_0 rlc179
            clear ox178_0
            clear ox178_1
            have ir180 : IV x178 1 1 := iv_cutL ix178 (iv_c (by decide) : IV 0 0 0) c179 (by decide)
            have ir180a := ir180.1; have ir180b := ir180.2
            clear rlc179
            exfalso; omega
          · skip
            have rlc179 : x178.toInt = (0 : Int) := congrArg Int32.toInt c179
            clear ox178_0
            have ox178_1r := ox178_1 rlc179
            clear ox178_1
            have ir181 : IV x178 0 0 := iv_eL c179 (iv_c (by decide) : IV 0 0 0)
            have ir181a := ir181.1; have ir181b := ir181.2
            have hkp : kp q q177 (q 35) := kp_bg bgq177
            have hRU : RU q177 (1 : Int) := RU_no (by omega)
            refine lv_iconst (v := 1) hx hb dX11_unit_154 (by decide) ?_
            exact th_zretM S hK hH hS hr hlocks (iv_w (iv_c (by decide) : IV 1 1 1) (by decide)) ⟨_, rfl, (iv_w (iv_c (by decide) : IV 1 1 1) (by decide)), hqq177, h0q177, (show TS q177 by exact (TS_mv hp0 txq177 (by omega) (by omega) (by omega) (by omega) (by omega) (fun z => by omega))), (show q 27 ≤ q177 27 by omega), (show DM q q177 by exact DM_no (by omega)), (show kp q q177 (q 35) by exact hkp), (show RU q177 (1 : Int) by exact hRU), (show GD q q177 by exact gdq177)⟩ dX11_unit_155
        · skip
          have rlc176 : (1 : Int) = (0 : Int) := congrArg Int32.toInt c176
          exfalso
          have z1 := congrArg Int32.toInt c176
          have z2 := ((iv_c (by decide) : IV 1 1 1)).1
          have z3 := ((iv_c (by decide) : IV 1 1 1)).2
          have z4 := ((iv_c (by decide) : IV 0 0 0)).1
          have z5 := ((iv_c (by decide) : IV 0 0 0)).2
          omega
      · skip
        have rlc174 : v98_4.toInt = (0 : Int) := congrArg Int32.toInt c174
        have ir182 : IV v98_4 0 0 := iv_eL c174 (iv_c (by decide) : IV 0 0 0)
        have ir182a := ir182.1; have ir182b := ir182.2
        refine lv_aload_n hx hb dX11_unit_109 rfl (lv_at hl 1 rfl) ?_
        refine th_get S hK hH inG11 t0 km_0 rfl 8 (by decide) gm_1238 rfl rfl dX11_unit_110 (fun v183 hv183 fv183 => ?_)
        obtain ⟨x184, rfl, ix184⟩ := th_V.int hv183
        have kx184 : x184.toInt = q 29 := Int.le_antisymm ix184.2 ix184.1
        have bx184 := qkm_29 hq
        have ix184 : IV x184 0 5 := iv_w ix184 (qkm_29 hq)
        refine lv_iconst (v := 4) hx hb dX11_unit_113 (by decide) ?_
        refine lv_icmp_eq (tgt := 121) hx hb dX11_unit_114 (by decide) (fun c185 => ?_) (fun c185 => ?_)
        · skip
          have rlc185 : x184.toInt = (4 : Int) := congrArg Int32.toInt c185
          have ir186 : IV x184 4 4 := iv_eL c185 (iv_c (by decide) : IV 4 4 4)
          have ir186a := ir186.1; have ir186b := ir186.2
          refine lv_iload hx hb dX11_unit_121 (lv_at hl 0 rfl) ?_
          refine lv_if_ne (tgt := 143) hx hb dX11_unit_123 (by decide) (fun c187 => ?_) (fun c187 => ?_)
          · skip
            have rlc187 : (1 : Int) ≠ (0 : Int) := iv_ne c187
            clear rlc187
            refine lv_aload_n hx hb dX11_unit_143 rfl (lv_at hl 1 rfl) ?_
            refine th_callVM (n := 0) (As := []) S hK hH hS (th_A.sub (by decide)) (m_X11_misplaced l D cT T q hT hq a0 t0) gm_1503 gm_1500 gm_1502 gm_53 gm_124 (by decide +kernel) ⟨rfl, rfl, Nat.le_of_ble_eq_true rfl, Nat.le_of_ble_eq_true rfl⟩ t0 km_0 rfl rfl hl.1 rfl (Nat.le_of_ble_eq_true rfl) dX11_unit_144 ⟨Nat.zero_le _, Nat.zero_le _⟩ (fun wq188 q188 H locs hEq188 hH hS hF1 => ?_)
            obtain ⟨rfl, hqq188, g0q188, pq188_0⟩ := hEq188
            show W p l e (rmk 2 44) s m [.ref a0].toArray below meth c H locs 0 0 (MQ below (th_QM D cT T (fun v q2 => ∃ r : Int32, v = some (.int r) ∧ IV r 0 1 ∧ qkm q2 ∧ fr [20, 21, 22, 23, 24, 27, 28, 29, 30, 31, 1000] q q2 ∧ (TS q2) ∧ (q 27 ≤ q2 27) ∧ (DM q q2) ∧ (kp q q2 (q 35)) ∧ (RU q2 r.toInt) ∧ (GD q q2)) [0, 8, 28, 29, 30, 31]) [.ref a0].toArray s 0 0 (th_A T [0, 8, 28, 29, 30, 31])) (F0 m 147 ls [])
            have pq188_0 : 1 ≤ q188 30 := pq188_0
            have wq188_10 : q188 10 = q 10 := g0q188 10 (by decide) (Or.inl (by decide))
            have wq188_13 : q188 13 = q 13 := g0q188 13 (by decide) (Or.inl (by decide))
            have wq188_20 : q188 20 = q 20 := g0q188 20 (by decide) (Or.inl (by decide))
            have wq188_21 : q188 21 = q 21 := g0q188 21 (by decide) (Or.inl (by decide))
            have wq188_22 : q188 22 = q 22 := g0q188 22 (by decide) (Or.inl (by decide))
            have wq188_23 : q188 23 = q 23 := g0q188 23 (by decide) (Or.inl (by decide))
            have wq188_24 : q188 24 = q 24 := g0q188 24 (by decide) (Or.inl (by decide))
            have wq188_26 : q188 26 = q 26 := g0q188 26 (by decide) (Or.inl (by decide))
            have wq188_27 : q188 27 = q 27 := g0q188 27 (by decide) (Or.inl (by decide))
            have wq188_28 : q188 28 = q 28 := g0q188 28 (by decide) (Or.inl (by decide))
            have wq188_29 : q188 29 = q 29 := g0q188 29 (by decide) (Or.inl (by decide))
            have wq188_31 : q188 31 = q 31 := g0q188 31 (by decide) (Or.inl (by decide))
            have wq188_35 : q188 35 = q 35 := g0q188 35 (by decide) (Or.inl (by decide))
            have h0q188 : fr [20, 21, 22, 23, 24, 27, 28, 29, 30, 31, 1000] q q188 := fr_tr fr_rf g0q188 (by decide)
            have bgq188 : bg q q188 := bg_fr bg_rf g0q188 (by decide)
            have gdq188 : GD q q188 := GD_tr (GD_eq rfl) (GD_no pq188_0)
            have gbq188 : GD q q188 := GD_tr (GD_eq rfl) (GD_no pq188_0)
            have txq188 : tx q q188 := tx_tr tx_rf (tx_bg (bg_fr bg_rf g0q188 (by decide)))
            refine lv_aload_n hx hb dX11_unit_147 rfl (lv_at hl 1 rfl) ?_
            refine th_callVp (n := 0) (As := []) S hK hH hS (th_A.sub (by decide)) (m_X11_isGood l D cT T q188 hT hqq188 a0 t0) gm_1487 gm_1484 gm_1486 gm_49 gm_124 (by decide +kernel) ⟨rfl, rfl, Nat.le_of_ble_eq_true rfl, Nat.le_of_ble_eq_true rfl⟩ t0 km_0 rfl rfl hl.1 rfl (Nat.le_of_ble_eq_true rfl) dX11_unit_148 ⟨Nat.zero_le _, Nat.zero_le _⟩ (fun x189 H locs ix189 ox189 hH hS hF1 => ?_)
            obtain ⟨ox189_0, ox189_1⟩ := ox189
            have ox189_0 : x189.toInt ≠ 0 → q188 30 = 0 := ox189_0
            have ox189_1 : x189.toInt = 0 → 1 ≤ q188 30 := ox189_1
            have l1x189 := ix189.1; have l2x189 := ix189.2
            refine lv_if_ne (tgt := 156) hx hb dX11_unit_151 (by decide) (fun c190 => ?_) (fun c190 => ?_)
            · skip
              have rlc190 : x189.toInt ≠ (0 : Int) := iv_ne c190
              have ox189_0r := ox189_0 rlc190
              clear ox189_0
              clear ox189_1
              have ir191 : IV x189 1 1 := iv_cutL ix189 (iv_c (by decide) : IV 0 0 0) c190 (by decide)
              have ir191a := ir191.1; have ir191b := ir191.2
              clear rlc190
              exfalso; omega
            · skip
              have rlc190 : x189.toInt = (0 : Int) := congrArg Int32.toInt c190
              clear ox189_0
              have ox189_1r := ox189_1 rlc190
              clear ox189_1
              have ir192 : IV x189 0 0 := iv_eL c190 (iv_c (by decide) : IV 0 0 0)
              have ir192a := ir192.1; have ir192b := ir192.2
              have hkp : kp q q188 (q 35) := kp_bg bgq188
              have hRU : RU q188 (1 : Int) := RU_no (by omega)
              refine lv_iconst (v := 1) hx hb dX11_unit_154 (by decide) ?_
              exact th_zretM S hK hH hS hr hlocks (iv_w (iv_c (by decide) : IV 1 1 1) (by decide)) ⟨_, rfl, (iv_w (iv_c (by decide) : IV 1 1 1) (by decide)), hqq188, h0q188, (show TS q188 by exact (TS_mv hp0 txq188 (by omega) (by omega) (by omega) (by omega) (by omega) (fun z => by omega))), (show q 27 ≤ q188 27 by omega), (show DM q q188 by exact DM_no (by omega)), (show kp q q188 (q 35) by exact hkp), (show RU q188 (1 : Int) by exact hRU), (show GD q q188 by exact gdq188)⟩ dX11_unit_155
          · skip
            have rlc187 : (1 : Int) = (0 : Int) := congrArg Int32.toInt c187
            exfalso
            have z1 := congrArg Int32.toInt c187
            have z2 := ((iv_c (by decide) : IV 1 1 1)).1
            have z3 := ((iv_c (by decide) : IV 1 1 1)).2
            have z4 := ((iv_c (by decide) : IV 0 0 0)).1
            have z5 := ((iv_c (by decide) : IV 0 0 0)).2
            omega
        · skip
          have rlc185 : x184.toInt ≠ (4 : Int) := iv_ne c185
          clear rlc185
          refine lv_iload_n hx hb dX11_unit_117 rfl (lv_at hl 3 rfl) ?_
          refine lv_if_eq (tgt := 143) hx hb dX11_unit_118 (by decide) (fun c193 => ?_) (fun c193 => ?_)
          · skip
            have rlc193 : v98_3.toInt = (0 : Int) := congrArg Int32.toInt c193
            have ir194 : IV v98_3 0 0 := iv_eL c193 (iv_c (by decide) : IV 0 0 0)
            have ir194a := ir194.1; have ir194b := ir194.2
            refine lv_aload_n hx hb dX11_unit_143 rfl (lv_at hl 1 rfl) ?_
            refine th_callVM (n := 0) (As := []) S hK hH hS (th_A.sub (by decide)) (m_X11_misplaced l D cT T q hT hq a0 t0) gm_1503 gm_1500 gm_1502 gm_53 gm_124 (by decide +kernel) ⟨rfl, rfl, Nat.le_of_ble_eq_true rfl, Nat.le_of_ble_eq_true rfl⟩ t0 km_0 rfl rfl hl.1 rfl (Nat.le_of_ble_eq_true rfl) dX11_unit_144 ⟨Nat.zero_le _, Nat.zero_le _⟩ (fun wq195 q195 H locs hEq195 hH hS hF1 => ?_)
            obtain ⟨rfl, hqq195, g0q195, pq195_0⟩ := hEq195
            show W p l e (rmk 2 44) s m [.ref a0].toArray below meth c H locs 0 0 (MQ below (th_QM D cT T (fun v q2 => ∃ r : Int32, v = some (.int r) ∧ IV r 0 1 ∧ qkm q2 ∧ fr [20, 21, 22, 23, 24, 27, 28, 29, 30, 31, 1000] q q2 ∧ (TS q2) ∧ (q 27 ≤ q2 27) ∧ (DM q q2) ∧ (kp q q2 (q 35)) ∧ (RU q2 r.toInt) ∧ (GD q q2)) [0, 8, 28, 29, 30, 31]) [.ref a0].toArray s 0 0 (th_A T [0, 8, 28, 29, 30, 31])) (F0 m 147 ls [])
            have pq195_0 : 1 ≤ q195 30 := pq195_0
            have wq195_10 : q195 10 = q 10 := g0q195 10 (by decide) (Or.inl (by decide))
            have wq195_13 : q195 13 = q 13 := g0q195 13 (by decide) (Or.inl (by decide))
            have wq195_20 : q195 20 = q 20 := g0q195 20 (by decide) (Or.inl (by decide))
            have wq195_21 : q195 21 = q 21 := g0q195 21 (by decide) (Or.inl (by decide))
            have wq195_22 : q195 22 = q 22 := g0q195 22 (by decide) (Or.inl (by decide))
            have wq195_23 : q195 23 = q 23 := g0q195 23 (by decide) (Or.inl (by decide))
            have wq195_24 : q195 24 = q 24 := g0q195 24 (by decide) (Or.inl (by decide))
            have wq195_26 : q195 26 = q 26 := g0q195 26 (by decide) (Or.inl (by decide))
            have wq195_27 : q195 27 = q 27 := g0q195 27 (by decide) (Or.inl (by decide))
            have wq195_28 : q195 28 = q 28 := g0q195 28 (by decide) (Or.inl (by decide))
            have wq195_29 : q195 29 = q 29 := g0q195 29 (by decide) (Or.inl (by decide))
            have wq195_31 : q195 31 = q 31 := g0q195 31 (by decide) (Or.inl (by decide))
            have wq195_35 : q195 35 = q 35 := g0q195 35 (by decide) (Or.inl (by decide))
            have h0q195 : fr [20, 21, 22, 23, 24, 27, 28, 29, 30, 31, 1000] q q195 := fr_tr fr_rf g0q195 (by decide)
            have bgq195 : bg q q195 := bg_fr bg_rf g0q195 (by decide)
            have gdq195 : GD q q195 := GD_tr (GD_eq rfl) (GD_no pq195_0)
            have gbq195 : GD q q195 := GD_tr (GD_eq rfl) (GD_no pq195_0)
            have txq195 : tx q q195 := tx_tr tx_rf (tx_bg (bg_fr bg_rf g0q195 (by decide)))
            refine lv_aload_n hx hb dX11_unit_147 rfl (lv_at hl 1 rfl) ?_
            refine th_callVp (n := 0) (As := []) S hK hH hS (th_A.sub (by decide)) (m_X11_isGood l D cT T q195 hT hqq195 a0 t0) gm_1487 gm_1484 gm_1486 gm_49 gm_124 (by decide +kernel) ⟨rfl, rfl, Nat.le_of_ble_eq_true rfl, Nat.le_of_ble_eq_true rfl⟩ t0 km_0 rfl rfl hl.1 rfl (Nat.le_of_ble_eq_true rfl) dX11_unit_148 ⟨Nat.zero_le _, Nat.zero_le _⟩ (fun x196 H locs ix196 ox196 hH hS hF1 => ?_)
            obtain ⟨ox196_0, ox196_1⟩ := ox196
            have ox196_0 : x196.toInt ≠ 0 → q195 30 = 0 := ox196_0
            have ox196_1 : x196.toInt = 0 → 1 ≤ q195 30 := ox196_1
            have l1x196 := ix196.1; have l2x196 := ix196.2
            refine lv_if_ne (tgt := 156) hx hb dX11_unit_151 (by decide) (fun c197 => ?_) (fun c197 => ?_)
            · skip
              have rlc197 : x196.toInt ≠ (0 : Int) := iv_ne c197
              have ox196_0r := ox196_0 rlc197
              clear ox196_0
              clear ox196_1
              have ir198 : IV x196 1 1 := iv_cutL ix196 (iv_c (by decide) : IV 0 0 0) c197 (by decide)
              have ir198a := ir198.1; have ir198b := ir198.2
              clear rlc197
              exfalso; omega
            · skip
              have rlc197 : x196.toInt = (0 : Int) := congrArg Int32.toInt c197
              clear ox196_0
              have ox196_1r := ox196_1 rlc197
              clear ox196_1
              have ir199 : IV x196 0 0 := iv_eL c197 (iv_c (by decide) : IV 0 0 0)
              have ir199a := ir199.1; have ir199b := ir199.2
              have hkp : kp q q195 (q 35) := kp_bg bgq195
              have hRU : RU q195 (1 : Int) := RU_no (by omega)
              refine lv_iconst (v := 1) hx hb dX11_unit_154 (by decide) ?_
              exact th_zretM S hK hH hS hr hlocks (iv_w (iv_c (by decide) : IV 1 1 1) (by decide)) ⟨_, rfl, (iv_w (iv_c (by decide) : IV 1 1 1) (by decide)), hqq195, h0q195, (show TS q195 by exact (TS_mv hp0 txq195 (by omega) (by omega) (by omega) (by omega) (by omega) (fun z => by omega))), (show q 27 ≤ q195 27 by omega), (show DM q q195 by exact DM_no (by omega)), (show kp q q195 (q 35) by exact hkp), (show RU q195 (1 : Int) by exact hRU), (show GD q q195 by exact gdq195)⟩ dX11_unit_155
          · skip
            have rlc193 : v98_3.toInt ≠ (0 : Int) := iv_ne c193
            have ir200 : IV v98_3 1 1 := iv_cutL iv98_3 (iv_c (by decide) : IV 0 0 0) c193 (by decide)
            have ir200a := ir200.1; have ir200b := ir200.2
            refine lv_iload hx hb dX11_unit_121 (lv_at hl 0 rfl) ?_
            refine lv_if_ne (tgt := 143) hx hb dX11_unit_123 (by decide) (fun c201 => ?_) (fun c201 => ?_)
            · skip
              have rlc201 : (1 : Int) ≠ (0 : Int) := iv_ne c201
              clear rlc201
              refine lv_aload_n hx hb dX11_unit_143 rfl (lv_at hl 1 rfl) ?_
              refine th_callVM (n := 0) (As := []) S hK hH hS (th_A.sub (by decide)) (m_X11_misplaced l D cT T q hT hq a0 t0) gm_1503 gm_1500 gm_1502 gm_53 gm_124 (by decide +kernel) ⟨rfl, rfl, Nat.le_of_ble_eq_true rfl, Nat.le_of_ble_eq_true rfl⟩ t0 km_0 rfl rfl hl.1 rfl (Nat.le_of_ble_eq_true rfl) dX11_unit_144 ⟨Nat.zero_le _, Nat.zero_le _⟩ (fun wq202 q202 H locs hEq202 hH hS hF1 => ?_)
              obtain ⟨rfl, hqq202, g0q202, pq202_0⟩ := hEq202
              show W p l e (rmk 2 44) s m [.ref a0].toArray below meth c H locs 0 0 (MQ below (th_QM D cT T (fun v q2 => ∃ r : Int32, v = some (.int r) ∧ IV r 0 1 ∧ qkm q2 ∧ fr [20, 21, 22, 23, 24, 27, 28, 29, 30, 31, 1000] q q2 ∧ (TS q2) ∧ (q 27 ≤ q2 27) ∧ (DM q q2) ∧ (kp q q2 (q 35)) ∧ (RU q2 r.toInt) ∧ (GD q q2)) [0, 8, 28, 29, 30, 31]) [.ref a0].toArray s 0 0 (th_A T [0, 8, 28, 29, 30, 31])) (F0 m 147 ls [])
              have pq202_0 : 1 ≤ q202 30 := pq202_0
              have wq202_10 : q202 10 = q 10 := g0q202 10 (by decide) (Or.inl (by decide))
              have wq202_13 : q202 13 = q 13 := g0q202 13 (by decide) (Or.inl (by decide))
              have wq202_20 : q202 20 = q 20 := g0q202 20 (by decide) (Or.inl (by decide))
              have wq202_21 : q202 21 = q 21 := g0q202 21 (by decide) (Or.inl (by decide))
              have wq202_22 : q202 22 = q 22 := g0q202 22 (by decide) (Or.inl (by decide))
              have wq202_23 : q202 23 = q 23 := g0q202 23 (by decide) (Or.inl (by decide))
              have wq202_24 : q202 24 = q 24 := g0q202 24 (by decide) (Or.inl (by decide))
              have wq202_26 : q202 26 = q 26 := g0q202 26 (by decide) (Or.inl (by decide))
              have wq202_27 : q202 27 = q 27 := g0q202 27 (by decide) (Or.inl (by decide))
              have wq202_28 : q202 28 = q 28 := g0q202 28 (by decide) (Or.inl (by decide))
              have wq202_29 : q202 29 = q 29 := g0q202 29 (by decide) (Or.inl (by decide))
              have wq202_31 : q202 31 = q 31 := g0q202 31 (by decide) (Or.inl (by decide))
              have wq202_35 : q202 35 = q 35 := g0q202 35 (by decide) (Or.inl (by decide))
              have h0q202 : fr [20, 21, 22, 23, 24, 27, 28, 29, 30, 31, 1000] q q202 := fr_tr fr_rf g0q202 (by decide)
              have bgq202 : bg q q202 := bg_fr bg_rf g0q202 (by decide)
              have gdq202 : GD q q202 := GD_tr (GD_eq rfl) (GD_no pq202_0)
              have gbq202 : GD q q202 := GD_tr (GD_eq rfl) (GD_no pq202_0)
              have txq202 : tx q q202 := tx_tr tx_rf (tx_bg (bg_fr bg_rf g0q202 (by decide)))
              refine lv_aload_n hx hb dX11_unit_147 rfl (lv_at hl 1 rfl) ?_
              refine th_callVp (n := 0) (As := []) S hK hH hS (th_A.sub (by decide)) (m_X11_isGood l D cT T q202 hT hqq202 a0 t0) gm_1487 gm_1484 gm_1486 gm_49 gm_124 (by decide +kernel) ⟨rfl, rfl, Nat.le_of_ble_eq_true rfl, Nat.le_of_ble_eq_true rfl⟩ t0 km_0 rfl rfl hl.1 rfl (Nat.le_of_ble_eq_true rfl) dX11_unit_148 ⟨Nat.zero_le _, Nat.zero_le _⟩ (fun x203 H locs ix203 ox203 hH hS hF1 => ?_)
              obtain ⟨ox203_0, ox203_1⟩ := ox203
              have ox203_0 : x203.toInt ≠ 0 → q202 30 = 0 := ox203_0
              have ox203_1 : x203.toInt = 0 → 1 ≤ q202 30 := ox203_1
              have l1x203 := ix203.1; have l2x203 := ix203.2
              refine lv_if_ne (tgt := 156) hx hb dX11_unit_151 (by decide) (fun c204 => ?_) (fun c204 => ?_)
              · skip
                have rlc204 : x203.toInt ≠ (0 : Int) := iv_ne c204
                have ox203_0r := ox203_0 rlc204
                clear ox203_0
                clear ox203_1
                have ir205 : IV x203 1 1 := iv_cutL ix203 (iv_c (by decide) : IV 0 0 0) c204 (by decide)
                have ir205a := ir205.1; have ir205b := ir205.2
                clear rlc204
                exfalso; omega
              · skip
                have rlc204 : x203.toInt = (0 : Int) := congrArg Int32.toInt c204
                clear ox203_0
                have ox203_1r := ox203_1 rlc204
                clear ox203_1
                have ir206 : IV x203 0 0 := iv_eL c204 (iv_c (by decide) : IV 0 0 0)
                have ir206a := ir206.1; have ir206b := ir206.2
                have hkp : kp q q202 (q 35) := kp_bg bgq202
                have hRU : RU q202 (1 : Int) := RU_no (by omega)
                refine lv_iconst (v := 1) hx hb dX11_unit_154 (by decide) ?_
                exact th_zretM S hK hH hS hr hlocks (iv_w (iv_c (by decide) : IV 1 1 1) (by decide)) ⟨_, rfl, (iv_w (iv_c (by decide) : IV 1 1 1) (by decide)), hqq202, h0q202, (show TS q202 by exact (TS_mv hp0 txq202 (by omega) (by omega) (by omega) (by omega) (by omega) (fun z => by omega))), (show q 27 ≤ q202 27 by omega), (show DM q q202 by exact DM_no (by omega)), (show kp q q202 (q 35) by exact hkp), (show RU q202 (1 : Int) by exact hRU), (show GD q q202 by exact gdq202)⟩ dX11_unit_155
            · skip
              have rlc201 : (1 : Int) = (0 : Int) := congrArg Int32.toInt c201
              exfalso
              have z1 := congrArg Int32.toInt c201
              have z2 := ((iv_c (by decide) : IV 1 1 1)).1
              have z3 := ((iv_c (by decide) : IV 1 1 1)).2
              have z4 := ((iv_c (by decide) : IV 0 0 0)).1
              have z5 := ((iv_c (by decide) : IV 0 0 0)).2
              omega

