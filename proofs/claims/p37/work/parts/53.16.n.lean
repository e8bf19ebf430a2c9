
set_option maxHeartbeats 20000000 in
set_option maxRecDepth 100000 in
theorem J126_l2_1_X11_unit (l : Launch) (D : va_G) (cT : Nat → ClassId) (T : Nat → Option Nat) (q : Nat → Int) (hT : tokm T) (hq : qkm q) (a0 : Nat) (t0 : T a0 = some 0) (hp0 : TS q) (hp1 : q 13 = 1 - q 10) (hp2 : q 30 = 0) (hp3 : 0 ≤ q 35) (hp4 : RS q 1) (hp5 : 1 ≤ q 21) (p : Program) (e : Env) (s : State) (m : MethodId) (below : List Frame) (meth : Method) (c : Code) (S : CallFix p m c cX11_unit 7 s [.ref a0].toArray gw yX11_unit.cls) (hK : va_K D classes (th_tys cT) s) (hr : meth.sig.returnType = (some .boolean)) (hlocks : meth.locks = false) : ∀ (H : Heap) (locs : List Loc) (ls : Array Slot) (v126_3 : Int32) (v126_4 : Int32), IV v126_3 0 1 → IV v126_4 0 122 → (v126_3.toInt ≠ 0 → q 29 = 5) → (v126_4.toInt ≠ 0 → q 29 = 3 ∧ 97 ≤ v126_4.toInt) → (q 29 = 3 ∧ q 31 = 7237492) → th_H D cT T (km q) H → va_S (th_A T [0, 8, 28, 29, 30, 31]) s.heap H locs → lv_has ls 7 [(0, .ref a0), (2, .int 1), (3, .int v126_3), (4, .int v126_4)] → W p l e (rmk 2 44) s m [.ref a0].toArray below meth c H locs 0 0 (MQ below (th_QM D cT T (fun v q2 => ∃ r : Int32, v = some (.int r) ∧ IV r 0 1 ∧ qkm q2 ∧ fr [20, 21, 22, 23, 24, 27, 28, 29, 30, 31, 1000] q q2 ∧ (TS q2) ∧ (q 27 ≤ q2 27) ∧ (DM q q2) ∧ (kp q q2 (q 35)) ∧ (RU q2 r.toInt) ∧ (GD q q2)) [0, 8, 28, 29, 30, 31]) [.ref a0].toArray s 0 0 (th_A T [0, 8, 28, 29, 30, 31])) (F0 m 126 ls []) := by
    have hx := S.1
    have hb := S.2.1
    have b13 := qkm_13 hq; have b10 := qkm_10 hq; have b20 := qkm_20 hq; have b22 := qkm_22 hq; have b23 := qkm_23 hq; have b24 := qkm_24 hq; have b26 := qkm_26 hq; have b27 := qkm_27 hq; have le0 := TS_le hp0
    obtain ⟨hlo1, hlo2, hlo3⟩ := RS_lo hp4; have hpil := RS_piled hp4 (by decide)
    intro H locs ls v126_3 v126_4 iv126_3 iv126_4 v126_inv0 v126_inv1 v126_inv2 hH hS hl
    have l1v126_3 := iv126_3.1; have l2v126_3 := iv126_3.2
    have l1v126_4 := iv126_4.1; have l2v126_4 := iv126_4.2
    refine lv_iload_n hx hb dX11_unit_126 rfl (lv_at hl 1 rfl) ?_
    refine lv_if_ne (tgt := 134) hx hb dX11_unit_127 (by decide) (fun c97 => ?_) (fun c97 => ?_)
    · skip
      have rlc97 : (1 : Int) ≠ (0 : Int) := iv_ne c97
      clear rlc97
      refine lv_aload_n hx hb dX11_unit_134 rfl (lv_at hl 0 rfl) ?_
      refine th_get S hK hH inG11 t0 km_0 rfl 44 (by decide) gm_1274 rfl rfl dX11_unit_135 (fun v98 hv98 fv98 => ?_)
      obtain ⟨x99, rfl, ix99⟩ := th_V.int hv98
      have kx99 : x99.toInt = q 22 := Int.le_antisymm ix99.2 ix99.1
      have bx99 := qkm_22 hq
      have ix99 : IV x99 0 7 := iv_w ix99 (qkm_22 hq)
      refine lv_bipush (v := 7) hx hb dX11_unit_138 (by decide) ?_
      refine lv_icmp_ne (tgt := 147) hx hb dX11_unit_140 (by decide) (fun c100 => ?_) (fun c100 => ?_)
      · skip
        have rlc100 : x99.toInt ≠ (7 : Int) := iv_ne c100
        have ir101 : IV x99 0 6 := iv_cutH ix99 (iv_c (by decide) : IV 7 7 7) c100 (by decide)
        have ir101a := ir101.1; have ir101b := ir101.2
        clear rlc100
        refine lv_aload_n hx hb dX11_unit_147 rfl (lv_at hl 0 rfl) ?_
        refine th_callVp (n := 0) (As := []) S hK hH hS (th_A.sub (by decide)) (m_X11_isGood l D cT T q hT hq a0 t0) gm_1487 gm_1484 gm_1486 gm_49 gm_124 (by decide +kernel) ⟨rfl, rfl, Nat.le_of_ble_eq_true rfl, Nat.le_of_ble_eq_true rfl⟩ t0 km_0 rfl rfl hl.1 rfl (Nat.le_of_ble_eq_true rfl) dX11_unit_148 ⟨Nat.zero_le _, Nat.zero_le _⟩ (fun x102 H locs ix102 ox102 hH hS hF1 => ?_)
        obtain ⟨ox102_0, ox102_1⟩ := ox102
        have ox102_0 : x102.toInt ≠ 0 → q 30 = 0 := ox102_0
        have ox102_1 : x102.toInt = 0 → 1 ≤ q 30 := ox102_1
        have l1x102 := ix102.1; have l2x102 := ix102.2
        refine lv_if_ne (tgt := 156) hx hb dX11_unit_151 (by decide) (fun c103 => ?_) (fun c103 => ?_)
        · skip
          have rlc103 : x102.toInt ≠ (0 : Int) := iv_ne c103
          have ox102_0r := ox102_0 rlc103
          clear ox102_0
          clear ox102_1
          have ir104 : IV x102 1 1 := iv_cutL ix102 (iv_c (by decide) : IV 0 0 0) c103 (by decide)
          have ir104a := ir104.1; have ir104b := ir104.2
          clear rlc103
          clear v126_inv0 v126_inv1
          have hadv := TS_in hp0 (by omega)
          refine lv_aload_n hx hb dX11_unit_156 rfl (lv_at hl 0 rfl) ?_
          refine th_get S hK hH inG11 t0 km_0 rfl 16 (by decide) gm_1246 rfl rfl dX11_unit_157 (fun v105 hv105 fv105 => ?_)
          obtain ⟨rf106, rfl, trf106⟩ := th_V.ref hv105
          refine lv_aload_n hx hb dX11_unit_160 rfl (lv_at hl 0 rfl) ?_
          refine th_get S hK hH inG11 t0 km_0 rfl 42 (by decide) gm_1272 rfl rfl dX11_unit_161 (fun v107 hv107 fv107 => ?_)
          obtain ⟨x108, rfl, ix108⟩ := th_V.int hv107
          have kx108 : x108.toInt = q 13 := Int.le_antisymm ix108.2 ix108.1
          have bx108 := qkm_13 hq
          have ix108 : IV x108 0 1 := iv_w ix108 (qkm_13 hq)
          refine lv_dup2_11 hx hb dX11_unit_164 rfl rfl ?_
          refine th_iald S hK hH trf106 km_8 (th_in (hi := 1) ix108 (by decide)) dX11_unit_165 (fun v109 hv109 => ?_)
          obtain ⟨x110, rfl, ix110⟩ := th_bkB hv109 ix108 (by omega)
          have kx110 : x110.toInt = q 24 := Int.le_antisymm ix110.2 ix110.1
          have bx110 := qkm_24 hq
          have ix110 : IV x110 0 90 := iv_w ix110 (qkm_24 hq)
          refine lv_iload_n hx hb dX11_unit_166 rfl (lv_at hl 1 rfl) ?_
          refine lv_if_eq (tgt := 174) hx hb dX11_unit_167 (by decide) (fun c111 => ?_) (fun c111 => ?_)
          · skip
            have rlc111 : (1 : Int) = (0 : Int) := congrArg Int32.toInt c111
            exfalso
            have z1 := congrArg Int32.toInt c111
            have z2 := ((iv_c (by decide) : IV 1 1 1)).1
            have z3 := ((iv_c (by decide) : IV 1 1 1)).2
            have z4 := ((iv_c (by decide) : IV 0 0 0)).1
            have z5 := ((iv_c (by decide) : IV 0 0 0)).2
            omega
          · skip
            have rlc111 : (1 : Int) ≠ (0 : Int) := iv_ne c111
            clear rlc111
            refine lv_iconst (v := 0) hx hb dX11_unit_170 (by decide) ?_
            refine lv_goto (tgt := 175) hx hb dX11_unit_171 (by decide) ?_
            refine lv_iadd hx hb dX11_unit_175 ?_
            refine lv_topi (fun x112 ex112 => ?_)
            have ix112 : IV x112 0 90 := by rw [ex112]; exact iv_add ix110 (iv_c (by decide) : IV 0 0 0) (by decide)
            have ux112 : x112.toInt = x110.toInt + (0 : Int) := by rw [ex112]; exact iv_addE (by have z1 := (ix110).1; have z2 := (ix110).2; have z3 := ((iv_c (by decide) : IV 0 0 0)).1; have z4 := ((iv_c (by decide) : IV 0 0 0)).2; omega)
            obtain ⟨n113, en113⟩ : ∃ z : Int, z = Int32.toInt x112 := ⟨_, rfl⟩
            refine mst_8 S hK hH hS ⟨8, by decide, trf106⟩ hT trf106 en113 (qkm_10 hq) ix108 (by omega) dX11_unit_176 (fun q114 H locs eq114 hH hS hq1 => ?_)
            have hqq114 : qkm q114 := by rw [eq114]; exact qum_ok24 hq (iv_z en113 ix112)
            have h0q114 : fr [20, 21, 22, 23, 24, 27, 28, 29, 30, 31, 1000] q q114 := by rw [eq114]; exact fr_up fr_rf (by decide)
            have wq114_10 : q114 10 = q 10 := by rw [eq114]; rfl
            have wq114_13 : q114 13 = q 13 := by rw [eq114]; rfl
            have wq114_20 : q114 20 = q 20 := by rw [eq114]; rfl
            have wq114_21 : q114 21 = q 21 := by rw [eq114]; rfl
            have wq114_22 : q114 22 = q 22 := by rw [eq114]; rfl
            have wq114_23 : q114 23 = q 23 := by rw [eq114]; rfl
            have wq114_24 : q114 24 = q 24 + (0 : Int) := by rw [show q114 24 = n113 by rw [eq114]; rfl, en113, ux112, kx110]
            have wq114_26 : q114 26 = q 26 := by rw [eq114]; rfl
            have wq114_27 : q114 27 = q 27 := by rw [eq114]; rfl
            have wq114_28 : q114 28 = q 28 := by rw [eq114]; rfl
            have wq114_29 : q114 29 = q 29 := by rw [eq114]; rfl
            have wq114_30 : q114 30 = q 30 := by rw [eq114]; rfl
            have wq114_31 : q114 31 = q 31 := by rw [eq114]; rfl
            have wq114_35 : q114 35 = q 35 := by rw [eq114]; rfl
            have bgq114 : bg q q114 := bg_up bg_rf eq114 (by decide)
            have gdq114 : GD q q114 := GD_tr (GD_eq rfl) (GD_eq wq114_30)
            have gbq114 : GD q q114 := GD_tr (GD_eq rfl) (GD_eq wq114_30)
            have txq114 : tx q q114 := tx_tr tx_rf (tx_up eq114 (by omega))
            clear en113
            clear ux112
            have f115 := fv105.kept (hq1 _ (th_ne t0 trf106 (by decide)))
            refine lv_aload_n hx hb dX11_unit_177 rfl (lv_at hl 0 rfl) ?_
            refine lv_dup hx hb dX11_unit_178 rfl ?_
            refine th_get S hK hH inG11 t0 km_0 rfl 46 (by decide) gm_1276 rfl rfl dX11_unit_179 (fun v116 hv116 fv116 => ?_)
            obtain ⟨x117, rfl, ix117⟩ := th_V.int hv116
            have kx117 : x117.toInt = q114 23 := Int.le_antisymm ix117.2 ix117.1
            have bx117 := qkm_23 hqq114
            have ix117 : IV x117 0 30 := iv_w ix117 (qkm_23 hqq114)
            refine lv_iload_n hx hb dX11_unit_182 rfl (lv_at hl 1 rfl) ?_
            refine lv_if_eq (tgt := 190) hx hb dX11_unit_183 (by decide) (fun c118 => ?_) (fun c118 => ?_)
            · skip
              have rlc118 : (1 : Int) = (0 : Int) := congrArg Int32.toInt c118
              exfalso
              have z1 := congrArg Int32.toInt c118
              have z2 := ((iv_c (by decide) : IV 1 1 1)).1
              have z3 := ((iv_c (by decide) : IV 1 1 1)).2
              have z4 := ((iv_c (by decide) : IV 0 0 0)).1
              have z5 := ((iv_c (by decide) : IV 0 0 0)).2
              omega
            · skip
              have rlc118 : (1 : Int) ≠ (0 : Int) := iv_ne c118
              clear rlc118
              refine lv_iconst (v := 0) hx hb dX11_unit_186 (by decide) ?_
              refine lv_goto (tgt := 191) hx hb dX11_unit_187 (by decide) ?_
              refine lv_iadd hx hb dX11_unit_191 ?_
              refine lv_topi (fun x119 ex119 => ?_)
              have ix119 : IV x119 0 30 := by rw [ex119]; exact iv_add ix117 (iv_c (by decide) : IV 0 0 0) (by decide)
              have ux119 : x119.toInt = x117.toInt + (0 : Int) := by rw [ex119]; exact iv_addE (by have z1 := (ix117).1; have z2 := (ix117).2; have z3 := ((iv_c (by decide) : IV 0 0 0)).1; have z4 := ((iv_c (by decide) : IV 0 0 0)).2; omega)
              obtain ⟨n121, en121⟩ : ∃ z : Int, z = Int32.toInt x119 := ⟨_, rfl⟩
              refine mput_23 S hK hH hS ⟨0, by decide, t0⟩ hT t0 en121 gm_1276 dX11_unit_192 (fun q120 H locs eq120 hH hS hq1 => ?_)
              have hqq120 : qkm q120 := by rw [eq120]; exact qum_ok23 hqq114 (iv_z en121 ix119)
              have h0q120 : fr [20, 21, 22, 23, 24, 27, 28, 29, 30, 31, 1000] q q120 := by rw [eq120]; exact fr_up h0q114 (by decide)
              have wq120_10 : q120 10 = q114 10 := by rw [eq120]; rfl
              have wq120_13 : q120 13 = q114 13 := by rw [eq120]; rfl
              have wq120_20 : q120 20 = q114 20 := by rw [eq120]; rfl
              have wq120_21 : q120 21 = q114 21 := by rw [eq120]; rfl
              have wq120_22 : q120 22 = q114 22 := by rw [eq120]; rfl
              have wq120_23 : q120 23 = q114 23 + (0 : Int) := by rw [show q120 23 = n121 by rw [eq120]; rfl, en121, ux119, kx117]
              have wq120_24 : q120 24 = q114 24 := by rw [eq120]; rfl
              have wq120_26 : q120 26 = q114 26 := by rw [eq120]; rfl
              have wq120_27 : q120 27 = q114 27 := by rw [eq120]; rfl
              have wq120_28 : q120 28 = q114 28 := by rw [eq120]; rfl
              have wq120_29 : q120 29 = q114 29 := by rw [eq120]; rfl
              have wq120_30 : q120 30 = q114 30 := by rw [eq120]; rfl
              have wq120_31 : q120 31 = q114 31 := by rw [eq120]; rfl
              have wq120_35 : q120 35 = q114 35 := by rw [eq120]; rfl
              have bgq120 : bg q q120 := bg_up bgq114 eq120 (by decide)
              have gdq120 : GD q q120 := GD_tr gdq114 (GD_eq wq120_30)
              have gbq120 : GD q q120 := GD_tr gbq114 (GD_eq wq120_30)
              have txq120 : tx q q120 := tx_tr txq114 (tx_up eq120 (by omega))
              clear en121
              clear ux119
              refine lv_iload hx hb dX11_unit_195 (lv_at hl 3 rfl) ?_
              refine lv_if_ne (tgt := 207) hx hb dX11_unit_197 (by decide) (fun c122 => ?_) (fun c122 => ?_)
              · skip
                have rlc122 : v126_4.toInt ≠ (0 : Int) := iv_ne c122
                have ir123 : IV v126_4 1 122 := iv_cutL iv126_4 (iv_c (by decide) : IV 0 0 0) c122 (by decide)
                have ir123a := ir123.1; have ir123b := ir123.2
                clear rlc122
                refine lv_iconst (v := 0) hx hb dX11_unit_207 (by decide) ?_
                refine lv_istore (lv' := [(6, .int 0), (0, .ref a0), (2, .int 1), (3, .int v126_3), (4, .int v126_4)]) hx hb dX11_unit_208 hl (by decide) rfl (fun ls hl => ?_)
                refine lv_aload_n hx hb dX11_unit_210 rfl (lv_at hl 1 rfl) ?_
                have le123 := TS_le (TS_mv hp0 txq120 (by omega) (by omega) (by omega) (by omega) (by omega) (fun z => by omega))
                refine th_callVM (n := 0) (As := []) S hK hH hS (th_A.sub (by decide)) (m_X11_goOn l D cT T q120 hT hqq120 a0 t0 (show q120 28 ≤ q120 26 by exact (TS_le (TS_mv hp0 txq120 (by omega) (by omega) (by omega) (by omega) (by omega) (fun z => by omega))).2)) gm_1445 gm_1442 gm_1444 gm_47 gm_124 (by decide +kernel) ⟨rfl, rfl, Nat.le_of_ble_eq_true rfl, Nat.le_of_ble_eq_true rfl⟩ t0 km_0 rfl rfl hl.1 rfl (Nat.le_of_ble_eq_true rfl) dX11_unit_211 ⟨Nat.zero_le _, Nat.zero_le _⟩ (fun wq124 q124 H locs hEq124 hH hS hF1 => ?_)
                obtain ⟨rfl, hqq124, g0q124, pq124_0, pq124_1, pq124_2⟩ := hEq124
                show W p l e (rmk 2 44) s m [.ref a0].toArray below meth c H locs 0 0 (MQ below (th_QM D cT T (fun v q2 => ∃ r : Int32, v = some (.int r) ∧ IV r 0 1 ∧ qkm q2 ∧ fr [20, 21, 22, 23, 24, 27, 28, 29, 30, 31, 1000] q q2 ∧ (TS q2) ∧ (q 27 ≤ q2 27) ∧ (DM q q2) ∧ (kp q q2 (q 35)) ∧ (RU q2 r.toInt) ∧ (GD q q2)) [0, 8, 28, 29, 30, 31]) [.ref a0].toArray s 0 0 (th_A T [0, 8, 28, 29, 30, 31])) (F0 m 214 ls [])
                have pq124_0 : TS q124 := pq124_0
                have pq124_1 : q120 28 ≤ q124 27 := pq124_1
                have pq124_2 : LX q120 q124 := pq124_2
                have wq124_10 : q124 10 = q120 10 := g0q124 10 (by decide) (Or.inl (by decide))
                have wq124_13 : q124 13 = q120 13 := g0q124 13 (by decide) (Or.inl (by decide))
                have wq124_20 : q124 20 = q120 20 := g0q124 20 (by decide) (Or.inl (by decide))
                have wq124_21 : q124 21 = q120 21 := g0q124 21 (by decide) (Or.inl (by decide))
                have wq124_22 : q124 22 = q120 22 := g0q124 22 (by decide) (Or.inl (by decide))
                have wq124_23 : q124 23 = q120 23 := g0q124 23 (by decide) (Or.inl (by decide))
                have wq124_24 : q124 24 = q120 24 := g0q124 24 (by decide) (Or.inl (by decide))
                have wq124_26 : q124 26 = q120 26 := g0q124 26 (by decide) (Or.inl (by decide))
                have wq124_30 : q124 30 = q120 30 := g0q124 30 (by decide) (Or.inl (by decide))
                have wq124_35 : q124 35 = q120 35 := g0q124 35 (by decide) (Or.inl (by decide))
                have h0q124 : fr [20, 21, 22, 23, 24, 27, 28, 29, 30, 31, 1000] q q124 := fr_tr h0q120 g0q124 (by decide)
                have bgq124 : bg q q124 := bg_fr bgq120 g0q124 (by decide)
                have gdq124 : GD q q124 := GD_tr gdq120 (GD_eq wq124_30)
                have gbq124 : GD q q124 := GD_tr gbq120 (GD_eq wq124_30)
                have hbig : bg q q124 := bgq124
                refine lv_iload_n hx hb dX11_unit_214 rfl (lv_at hl 2 rfl) ?_
                refine lv_if_ne (tgt := 222) hx hb dX11_unit_215 (by decide) (fun c125 => ?_) (fun c125 => ?_)
                · skip
                  have rlc125 : (1 : Int) ≠ (0 : Int) := iv_ne c125
                  clear rlc125
                  refine lv_aload_n hx hb dX11_unit_222 rfl (lv_at hl 1 rfl) ?_
                  refine lv_iload_n hx hb dX11_unit_223 rfl (lv_at hl 2 rfl) ?_
                  refine lv_if_eq (tgt := 231) hx hb dX11_unit_224 (by decide) (fun c126 => ?_) (fun c126 => ?_)
                  · skip
                    have rlc126 : (1 : Int) = (0 : Int) := congrArg Int32.toInt c126
                    exfalso
                    have z1 := congrArg Int32.toInt c126
                    have z2 := ((iv_c (by decide) : IV 1 1 1)).1
                    have z3 := ((iv_c (by decide) : IV 1 1 1)).2
                    have z4 := ((iv_c (by decide) : IV 0 0 0)).1
                    have z5 := ((iv_c (by decide) : IV 0 0 0)).2
                    omega
                  · skip
                    have rlc126 : (1 : Int) ≠ (0 : Int) := iv_ne c126
                    clear rlc126
                    refine lv_iconst (v := 3) hx hb dX11_unit_227 (by decide) ?_
                    refine lv_goto (tgt := 233) hx hb dX11_unit_228 (by decide) ?_
                    refine lv_bipush (v := 126) hx hb dX11_unit_233 (by decide) ?_
                    refine th_callVM (n := 2) (As := [.int 3, .int 126]) S hK hH hS (th_A.sub (by decide)) (m_X11_pushE l D cT T q124 hT hqq124 a0 t0 (3) (iv_w (iv_c (by decide) : IV 3 3 3) (by decide)) (126) (iv_top _) (show q124 21 ≤ 60 by omega)) gm_1555 gm_1552 gm_1554 gm_66 gm_124 (by decide +kernel) ⟨rfl, rfl, Nat.le_of_ble_eq_true rfl, Nat.le_of_ble_eq_true rfl⟩ t0 km_0 rfl rfl hl.1 rfl (Nat.le_of_ble_eq_true rfl) dX11_unit_235 ⟨Nat.zero_le _, Nat.zero_le _⟩ (fun wq127 q127 H locs hEq127 hH hS hF1 => ?_)
                    obtain ⟨rfl, hqq127, g0q127, pq127_0, pq127_1, pq127_2⟩ := hEq127
                    show W p l e (rmk 2 44) s m [.ref a0].toArray below meth c H locs 0 0 (MQ below (th_QM D cT T (fun v q2 => ∃ r : Int32, v = some (.int r) ∧ IV r 0 1 ∧ qkm q2 ∧ fr [20, 21, 22, 23, 24, 27, 28, 29, 30, 31, 1000] q q2 ∧ (TS q2) ∧ (q 27 ≤ q2 27) ∧ (DM q q2) ∧ (kp q q2 (q 35)) ∧ (RU q2 r.toInt) ∧ (GD q q2)) [0, 8, 28, 29, 30, 31]) [.ref a0].toArray s 0 0 (th_A T [0, 8, 28, 29, 30, 31])) (F0 m 238 ls [])
                    have pq127_0 : q127 = pushq q124 (3 : Int) (126 : Int) := pq127_0
                    have pq127_1 : q127 21 = q124 21 + 1 := pq127_1
                    have pq127_2 : tx q124 q127 := pq127_2
                    have wq127_10 : q127 10 = q124 10 := g0q127 10 (by decide) (Or.inl (by decide))
                    have wq127_13 : q127 13 = q124 13 := g0q127 13 (by decide) (Or.inl (by decide))
                    have wq127_20 : q127 20 = q124 20 := g0q127 20 (by decide) (Or.inl (by decide))
                    have wq127_22 : q127 22 = q124 22 := g0q127 22 (by decide) (Or.inl (by decide))
                    have wq127_23 : q127 23 = q124 23 := g0q127 23 (by decide) (Or.inl (by decide))
                    have wq127_24 : q127 24 = q124 24 := g0q127 24 (by decide) (Or.inl (by decide))
                    have wq127_26 : q127 26 = q124 26 := g0q127 26 (by decide) (Or.inl (by decide))
                    have wq127_27 : q127 27 = q124 27 := g0q127 27 (by decide) (Or.inl (by decide))
                    have wq127_28 : q127 28 = q124 28 := g0q127 28 (by decide) (Or.inl (by decide))
                    have wq127_29 : q127 29 = q124 29 := g0q127 29 (by decide) (Or.inl (by decide))
                    have wq127_30 : q127 30 = q124 30 := g0q127 30 (by decide) (Or.inl (by decide))
                    have wq127_31 : q127 31 = q124 31 := g0q127 31 (by decide) (Or.inl (by decide))
                    have wq127_35 : q127 35 = q124 35 := g0q127 35 (by decide) (Or.inl (by decide))
                    have h0q127 : fr [20, 21, 22, 23, 24, 27, 28, 29, 30, 31, 1000] q q127 := fr_tr h0q124 g0q127 (by decide)
                    have gdq127 : GD q q127 := GD_tr gdq124 (GD_eq wq127_30)
                    have txq127 : tx q124 q127 := tx_tr tx_rf pq127_2
                    refine lv_aload_n hx hb dX11_unit_238 rfl (lv_at hl 1 rfl) ?_
                    refine lv_dup hx hb dX11_unit_239 rfl ?_
                    refine th_get S hK hH inG11 t0 km_0 rfl 44 (by decide) gm_1274 rfl rfl dX11_unit_240 (fun v128 hv128 fv128 => ?_)
                    obtain ⟨x129, rfl, ix129⟩ := th_V.int hv128
                    have kx129 : x129.toInt = q127 22 := Int.le_antisymm ix129.2 ix129.1
                    have bx129 := qkm_22 hqq127
                    have ix129 : IV x129 0 7 := iv_w ix129 (qkm_22 hqq127)
                    refine lv_iconst (v := 1) hx hb dX11_unit_243 (by decide) ?_
                    refine lv_iadd hx hb dX11_unit_244 ?_
                    refine lv_topi (fun x130 ex130 => ?_)
                    have ix130 : IV x130 1 8 := by rw [ex130]; exact iv_add ix129 (iv_c (by decide) : IV 1 1 1) (by decide)
                    have ux130 : x130.toInt = x129.toInt + (1 : Int) := by rw [ex130]; exact iv_addE (by have z1 := (ix129).1; have z2 := (ix129).2; have z3 := ((iv_c (by decide) : IV 1 1 1)).1; have z4 := ((iv_c (by decide) : IV 1 1 1)).2; omega)
                    obtain ⟨n132, en132⟩ : ∃ z : Int, z = Int32.toInt x130 := ⟨_, rfl⟩
                    refine mput_22 S hK hH hS ⟨0, by decide, t0⟩ hT t0 en132 gm_1274 dX11_unit_245 (fun q131 H locs eq131 hH hS hq1 => ?_)
                    have hqq131 : qkm q131 := by rw [eq131]; exact qum_ok22 hqq127 (by have z1 := (ix130).1; have z2 := (ix130).2; exact ⟨by omega, by omega⟩)
                    have h0q131 : fr [20, 21, 22, 23, 24, 27, 28, 29, 30, 31, 1000] q q131 := by rw [eq131]; exact fr_up h0q127 (by decide)
                    have wq131_10 : q131 10 = q127 10 := by rw [eq131]; rfl
                    have wq131_13 : q131 13 = q127 13 := by rw [eq131]; rfl
                    have wq131_20 : q131 20 = q127 20 := by rw [eq131]; rfl
                    have wq131_21 : q131 21 = q127 21 := by rw [eq131]; rfl
                    have wq131_22 : q131 22 = q127 22 + (1 : Int) := by rw [show q131 22 = n132 by rw [eq131]; rfl, en132, ux130, kx129]
                    have wq131_23 : q131 23 = q127 23 := by rw [eq131]; rfl
                    have wq131_24 : q131 24 = q127 24 := by rw [eq131]; rfl
                    have wq131_26 : q131 26 = q127 26 := by rw [eq131]; rfl
                    have wq131_27 : q131 27 = q127 27 := by rw [eq131]; rfl
                    have wq131_28 : q131 28 = q127 28 := by rw [eq131]; rfl
                    have wq131_29 : q131 29 = q127 29 := by rw [eq131]; rfl
                    have wq131_30 : q131 30 = q127 30 := by rw [eq131]; rfl
                    have wq131_31 : q131 31 = q127 31 := by rw [eq131]; rfl
                    have wq131_35 : q131 35 = q127 35 := by rw [eq131]; rfl
                    have bgq131 : bg q127 q131 := bg_up bg_rf eq131 (by decide)
                    have gdq131 : GD q q131 := GD_tr gdq127 (GD_eq wq131_30)
                    have gbq131 : GD q127 q131 := GD_tr (GD_eq rfl) (GD_eq wq131_30)
                    have txq131 : tx q124 q131 := tx_tr txq127 (tx_up eq131 (by omega))
                    have hRS : RS q131 1 := RS_push (u := 0) (by omega) hp4 (by omega) hbig (by omega) (by omega) (by omega) (by omega) (by omega) (by omega) (by omega) (by omega) (by decide) (by omega) (by omega) (by omega) hadv (Or.inl ⟨rfl, by omega, TS_3 hp0 (by omega) (by omega) (by omega), not_adv (hp0.2 hp2).1 (by omega) (tx_bg bgq120) (by omega) pq124_2 (by omega)⟩) (by rw [eq131, pq127_0]; congr 1; omega)
                    have hkp : kp q q131 (q 35) := kp_tr (kp_bg hbig) (kp_tr (kp_push pq127_0 (by omega) (by omega)) (kp_bg (bg_up bg_rf eq131 (by decide))))
                    have hRU : RU q131 (1 : Int) := RU_1 hRS (by omega) (by decide)
                    refine lv_iconst (v := 1) hx hb dX11_unit_248 (by decide) ?_
                    exact th_zretM S hK hH hS hr hlocks (iv_w (iv_c (by decide) : IV 1 1 1) (by decide)) ⟨_, rfl, (iv_w (iv_c (by decide) : IV 1 1 1) (by decide)), hqq131, h0q131, (show TS q131 by exact (TS_mv pq124_0 txq131 (by omega) (by omega) (by omega) (by omega) (by omega) (fun z => by omega))), (show q 27 ≤ q131 27 by omega), (show DM q q131 by exact fun _ => by omega), (show kp q q131 (q 35) by exact hkp), (show RU q131 (1 : Int) by exact hRU), (show GD q q131 by exact gdq131)⟩ dX11_unit_249
                · skip
                  have rlc125 : (1 : Int) = (0 : Int) := congrArg Int32.toInt c125
                  exfalso
                  have z1 := congrArg Int32.toInt c125
                  have z2 := ((iv_c (by decide) : IV 1 1 1)).1
                  have z3 := ((iv_c (by decide) : IV 1 1 1)).2
                  have z4 := ((iv_c (by decide) : IV 0 0 0)).1
                  have z5 := ((iv_c (by decide) : IV 0 0 0)).2
                  omega
              · skip
                have rlc122 : v126_4.toInt = (0 : Int) := congrArg Int32.toInt c122
                have ir133 : IV v126_4 0 0 := iv_eL c122 (iv_c (by decide) : IV 0 0 0)
                have ir133a := ir133.1; have ir133b := ir133.2
                refine lv_aload_n hx hb dX11_unit_200 rfl (lv_at hl 0 rfl) ?_
                refine th_get S hK hH inG11 t0 km_0 rfl 9 (by decide) gm_1239 rfl rfl dX11_unit_201 (fun v134 hv134 fv134 => ?_)
                obtain ⟨x135, rfl, ix135⟩ := th_V.int hv134
                refine lv_goto (tgt := 208) hx hb dX11_unit_204 (by decide) ?_
                refine lv_istore (lv' := [(6, .int x135), (0, .ref a0), (2, .int 1), (3, .int v126_3), (4, .int v126_4)]) hx hb dX11_unit_208 hl (by decide) rfl (fun ls hl => ?_)
                refine lv_aload_n hx hb dX11_unit_210 rfl (lv_at hl 1 rfl) ?_
                have le135 := TS_le (TS_mv hp0 txq120 (by omega) (by omega) (by omega) (by omega) (by omega) (fun z => by omega))
                refine th_callVM (n := 0) (As := []) S hK hH hS (th_A.sub (by decide)) (m_X11_goOn l D cT T q120 hT hqq120 a0 t0 (show q120 28 ≤ q120 26 by exact (TS_le (TS_mv hp0 txq120 (by omega) (by omega) (by omega) (by omega) (by omega) (fun z => by omega))).2)) gm_1445 gm_1442 gm_1444 gm_47 gm_124 (by decide +kernel) ⟨rfl, rfl, Nat.le_of_ble_eq_true rfl, Nat.le_of_ble_eq_true rfl⟩ t0 km_0 rfl rfl hl.1 rfl (Nat.le_of_ble_eq_true rfl) dX11_unit_211 ⟨Nat.zero_le _, Nat.zero_le _⟩ (fun wq136 q136 H locs hEq136 hH hS hF1 => ?_)
                obtain ⟨rfl, hqq136, g0q136, pq136_0, pq136_1, pq136_2⟩ := hEq136
                show W p l e (rmk 2 44) s m [.ref a0].toArray below meth c H locs 0 0 (MQ below (th_QM D cT T (fun v q2 => ∃ r : Int32, v = some (.int r) ∧ IV r 0 1 ∧ qkm q2 ∧ fr [20, 21, 22, 23, 24, 27, 28, 29, 30, 31, 1000] q q2 ∧ (TS q2) ∧ (q 27 ≤ q2 27) ∧ (DM q q2) ∧ (kp q q2 (q 35)) ∧ (RU q2 r.toInt) ∧ (GD q q2)) [0, 8, 28, 29, 30, 31]) [.ref a0].toArray s 0 0 (th_A T [0, 8, 28, 29, 30, 31])) (F0 m 214 ls [])
                have pq136_0 : TS q136 := pq136_0
                have pq136_1 : q120 28 ≤ q136 27 := pq136_1
                have pq136_2 : LX q120 q136 := pq136_2
                have wq136_10 : q136 10 = q120 10 := g0q136 10 (by decide) (Or.inl (by decide))
                have wq136_13 : q136 13 = q120 13 := g0q136 13 (by decide) (Or.inl (by decide))
                have wq136_20 : q136 20 = q120 20 := g0q136 20 (by decide) (Or.inl (by decide))
                have wq136_21 : q136 21 = q120 21 := g0q136 21 (by decide) (Or.inl (by decide))
                have wq136_22 : q136 22 = q120 22 := g0q136 22 (by decide) (Or.inl (by decide))
                have wq136_23 : q136 23 = q120 23 := g0q136 23 (by decide) (Or.inl (by decide))
                have wq136_24 : q136 24 = q120 24 := g0q136 24 (by decide) (Or.inl (by decide))
                have wq136_26 : q136 26 = q120 26 := g0q136 26 (by decide) (Or.inl (by decide))
                have wq136_30 : q136 30 = q120 30 := g0q136 30 (by decide) (Or.inl (by decide))
                have wq136_35 : q136 35 = q120 35 := g0q136 35 (by decide) (Or.inl (by decide))
                have h0q136 : fr [20, 21, 22, 23, 24, 27, 28, 29, 30, 31, 1000] q q136 := fr_tr h0q120 g0q136 (by decide)
                have bgq136 : bg q q136 := bg_fr bgq120 g0q136 (by decide)
                have gdq136 : GD q q136 := GD_tr gdq120 (GD_eq wq136_30)
                have gbq136 : GD q q136 := GD_tr gbq120 (GD_eq wq136_30)
                have hbig : bg q q136 := bgq136
                refine lv_iload_n hx hb dX11_unit_214 rfl (lv_at hl 2 rfl) ?_
                refine lv_if_ne (tgt := 222) hx hb dX11_unit_215 (by decide) (fun c137 => ?_) (fun c137 => ?_)
                · skip
                  have rlc137 : (1 : Int) ≠ (0 : Int) := iv_ne c137
                  clear rlc137
                  refine lv_aload_n hx hb dX11_unit_222 rfl (lv_at hl 1 rfl) ?_
                  refine lv_iload_n hx hb dX11_unit_223 rfl (lv_at hl 2 rfl) ?_
                  refine lv_if_eq (tgt := 231) hx hb dX11_unit_224 (by decide) (fun c138 => ?_) (fun c138 => ?_)
                  · skip
                    have rlc138 : (1 : Int) = (0 : Int) := congrArg Int32.toInt c138
                    exfalso
                    have z1 := congrArg Int32.toInt c138
                    have z2 := ((iv_c (by decide) : IV 1 1 1)).1
                    have z3 := ((iv_c (by decide) : IV 1 1 1)).2
                    have z4 := ((iv_c (by decide) : IV 0 0 0)).1
                    have z5 := ((iv_c (by decide) : IV 0 0 0)).2
                    omega
                  · skip
                    have rlc138 : (1 : Int) ≠ (0 : Int) := iv_ne c138
                    clear rlc138
                    refine lv_iconst (v := 3) hx hb dX11_unit_227 (by decide) ?_
                    refine lv_goto (tgt := 233) hx hb dX11_unit_228 (by decide) ?_
                    refine lv_bipush (v := 126) hx hb dX11_unit_233 (by decide) ?_
                    refine th_callVM (n := 2) (As := [.int 3, .int 126]) S hK hH hS (th_A.sub (by decide)) (m_X11_pushE l D cT T q136 hT hqq136 a0 t0 (3) (iv_w (iv_c (by decide) : IV 3 3 3) (by decide)) (126) (iv_top _) (show q136 21 ≤ 60 by omega)) gm_1555 gm_1552 gm_1554 gm_66 gm_124 (by decide +kernel) ⟨rfl, rfl, Nat.le_of_ble_eq_true rfl, Nat.le_of_ble_eq_true rfl⟩ t0 km_0 rfl rfl hl.1 rfl (Nat.le_of_ble_eq_true rfl) dX11_unit_235 ⟨Nat.zero_le _, Nat.zero_le _⟩ (fun wq139 q139 H locs hEq139 hH hS hF1 => ?_)
                    obtain ⟨rfl, hqq139, g0q139, pq139_0, pq139_1, pq139_2⟩ := hEq139
                    show W p l e (rmk 2 44) s m [.ref a0].toArray below meth c H locs 0 0 (MQ below (th_QM D cT T (fun v q2 => ∃ r : Int32, v = some (.int r) ∧ IV r 0 1 ∧ qkm q2 ∧ fr [20, 21, 22, 23, 24, 27, 28, 29, 30, 31, 1000] q q2 ∧ (TS q2) ∧ (q 27 ≤ q2 27) ∧ (DM q q2) ∧ (kp q q2 (q 35)) ∧ (RU q2 r.toInt) ∧ (GD q q2)) [0, 8, 28, 29, 30, 31]) [.ref a0].toArray s 0 0 (th_A T [0, 8, 28, 29, 30, 31])) (F0 m 238 ls [])
                    have pq139_0 : q139 = pushq q136 (3 : Int) (126 : Int) := pq139_0
                    have pq139_1 : q139 21 = q136 21 + 1 := pq139_1
                    have pq139_2 : tx q136 q139 := pq139_2
                    have wq139_10 : q139 10 = q136 10 := g0q139 10 (by decide) (Or.inl (by decide))
                    have wq139_13 : q139 13 = q136 13 := g0q139 13 (by decide) (Or.inl (by decide))
                    have wq139_20 : q139 20 = q136 20 := g0q139 20 (by decide) (Or.inl (by decide))
                    have wq139_22 : q139 22 = q136 22 := g0q139 22 (by decide) (Or.inl (by decide))
                    have wq139_23 : q139 23 = q136 23 := g0q139 23 (by decide) (Or.inl (by decide))
                    have wq139_24 : q139 24 = q136 24 := g0q139 24 (by decide) (Or.inl (by decide))
                    have wq139_26 : q139 26 = q136 26 := g0q139 26 (by decide) (Or.inl (by decide))
                    have wq139_27 : q139 27 = q136 27 := g0q139 27 (by decide) (Or.inl (by decide))
                    have wq139_28 : q139 28 = q136 28 := g0q139 28 (by decide) (Or.inl (by decide))
                    have wq139_29 : q139 29 = q136 29 := g0q139 29 (by decide) (Or.inl (by decide))
                    have wq139_30 : q139 30 = q136 30 := g0q139 30 (by decide) (Or.inl (by decide))
                    have wq139_31 : q139 31 = q136 31 := g0q139 31 (by decide) (Or.inl (by decide))
                    have wq139_35 : q139 35 = q136 35 := g0q139 35 (by decide) (Or.inl (by decide))
                    have h0q139 : fr [20, 21, 22, 23, 24, 27, 28, 29, 30, 31, 1000] q q139 := fr_tr h0q136 g0q139 (by decide)
                    have gdq139 : GD q q139 := GD_tr gdq136 (GD_eq wq139_30)
                    have txq139 : tx q136 q139 := tx_tr tx_rf pq139_2
                    refine lv_aload_n hx hb dX11_unit_238 rfl (lv_at hl 1 rfl) ?_
                    refine lv_dup hx hb dX11_unit_239 rfl ?_
                    refine th_get S hK hH inG11 t0 km_0 rfl 44 (by decide) gm_1274 rfl rfl dX11_unit_240 (fun v140 hv140 fv140 => ?_)
                    obtain ⟨x141, rfl, ix141⟩ := th_V.int hv140
                    have kx141 : x141.toInt = q139 22 := Int.le_antisymm ix141.2 ix141.1
                    have bx141 := qkm_22 hqq139
                    have ix141 : IV x141 0 7 := iv_w ix141 (qkm_22 hqq139)
                    refine lv_iconst (v := 1) hx hb dX11_unit_243 (by decide) ?_
                    refine lv_iadd hx hb dX11_unit_244 ?_
                    refine lv_topi (fun x142 ex142 => ?_)
                    have ix142 : IV x142 1 8 := by rw [ex142]; exact iv_add ix141 (iv_c (by decide) : IV 1 1 1) (by decide)
                    have ux142 : x142.toInt = x141.toInt + (1 : Int) := by rw [ex142]; exact iv_addE (by have z1 := (ix141).1; have z2 := (ix141).2; have z3 := ((iv_c (by decide) : IV 1 1 1)).1; have z4 := ((iv_c (by decide) : IV 1 1 1)).2; omega)
                    obtain ⟨n145, en145⟩ : ∃ z : Int, z = Int32.toInt x142 := ⟨_, rfl⟩
                    refine mput_22 S hK hH hS ⟨0, by decide, t0⟩ hT t0 en145 gm_1274 dX11_unit_245 (fun q144 H locs eq144 hH hS hq1 => ?_)
                    have hqq144 : qkm q144 := by rw [eq144]; exact qum_ok22 hqq139 (by have z1 := (ix142).1; have z2 := (ix142).2; exact ⟨by omega, by omega⟩)
                    have h0q144 : fr [20, 21, 22, 23, 24, 27, 28, 29, 30, 31, 1000] q q144 := by rw [eq144]; exact fr_up h0q139 (by decide)
                    have wq144_10 : q144 10 = q139 10 := by rw [eq144]; rfl
                    have wq144_13 : q144 13 = q139 13 := by rw [eq144]; rfl
                    have wq144_20 : q144 20 = q139 20 := by rw [eq144]; rfl
                    have wq144_21 : q144 21 = q139 21 := by rw [eq144]; rfl
                    have wq144_22 : q144 22 = q139 22 + (1 : Int) := by rw [show q144 22 = n145 by rw [eq144]; rfl, en145, ux142, kx141]
                    have wq144_23 : q144 23 = q139 23 := by rw [eq144]; rfl
                    have wq144_24 : q144 24 = q139 24 := by rw [eq144]; rfl
                    have wq144_26 : q144 26 = q139 26 := by rw [eq144]; rfl
                    have wq144_27 : q144 27 = q139 27 := by rw [eq144]; rfl
                    have wq144_28 : q144 28 = q139 28 := by rw [eq144]; rfl
                    have wq144_29 : q144 29 = q139 29 := by rw [eq144]; rfl
                    have wq144_30 : q144 30 = q139 30 := by rw [eq144]; rfl
                    have wq144_31 : q144 31 = q139 31 := by rw [eq144]; rfl
                    have wq144_35 : q144 35 = q139 35 := by rw [eq144]; rfl
                    have bgq144 : bg q139 q144 := bg_up bg_rf eq144 (by decide)
                    have gdq144 : GD q q144 := GD_tr gdq139 (GD_eq wq144_30)
                    have gbq144 : GD q139 q144 := GD_tr (GD_eq rfl) (GD_eq wq144_30)
                    have txq144 : tx q136 q144 := tx_tr txq139 (tx_up eq144 (by omega))
                    have hRS : RS q144 1 := RS_push (u := 0) (by omega) hp4 (by omega) hbig (by omega) (by omega) (by omega) (by omega) (by omega) (by omega) (by omega) (by omega) (by decide) (by omega) (by omega) (by omega) hadv (Or.inl ⟨rfl, by omega, TS_3 hp0 (by omega) (by omega) (by omega), not_adv (hp0.2 hp2).1 (by omega) (tx_bg bgq120) (by omega) pq136_2 (by omega)⟩) (by rw [eq144, pq139_0]; congr 1; omega)
                    have hkp : kp q q144 (q 35) := kp_tr (kp_bg hbig) (kp_tr (kp_push pq139_0 (by omega) (by omega)) (kp_bg (bg_up bg_rf eq144 (by decide))))
                    have hRU : RU q144 (1 : Int) := RU_1 hRS (by omega) (by decide)
                    refine lv_iconst (v := 1) hx hb dX11_unit_248 (by decide) ?_
                    exact th_zretM S hK hH hS hr hlocks (iv_w (iv_c (by decide) : IV 1 1 1) (by decide)) ⟨_, rfl, (iv_w (iv_c (by decide) : IV 1 1 1) (by decide)), hqq144, h0q144, (show TS q144 by exact (TS_mv pq136_0 txq144 (by omega) (by omega) (by omega) (by omega) (by omega) (fun z => by omega))), (show q 27 ≤ q144 27 by omega), (show DM q q144 by exact fun _ => by omega), (show kp q q144 (q 35) by exact hkp), (show RU q144 (1 : Int) by exact hRU), (show GD q q144 by exact gdq144)⟩ dX11_unit_249
                · skip
                  have rlc137 : (1 : Int) = (0 : Int) := congrArg Int32.toInt c137
                  exfalso
                  have z1 := congrArg Int32.toInt c137
                  have z2 := ((iv_c (by decide) : IV 1 1 1)).1
                  have z3 := ((iv_c (by decide) : IV 1 1 1)).2
                  have z4 := ((iv_c (by decide) : IV 0 0 0)).1
                  have z5 := ((iv_c (by decide) : IV 0 0 0)).2
                  omega
        · skip
          have rlc103 : x102.toInt = (0 : Int) := congrArg Int32.toInt c103
          clear ox102_0
          have ox102_1r := ox102_1 rlc103
          clear ox102_1
          have ir146 : IV x102 0 0 := iv_eL c103 (iv_c (by decide) : IV 0 0 0)
          have ir146a := ir146.1; have ir146b := ir146.2
          have hkp : kp q q (q 35) := kp_bg bg_rf
          have hRU : RU q (1 : Int) := RU_no (by omega)
          refine lv_iconst (v := 1) hx hb dX11_unit_154 (by decide) ?_
          exact th_zretM S hK hH hS hr hlocks (iv_w (iv_c (by decide) : IV 1 1 1) (by decide)) ⟨_, rfl, (iv_w (iv_c (by decide) : IV 1 1 1) (by decide)), hq, fr_rf, (show TS q by exact hp0), (show q 27 ≤ q 27 by omega), (show DM q q by exact DM_no (by omega)), (show kp q q (q 35) by exact hkp), (show RU q (1 : Int) by exact hRU), (show GD q q by exact (GD_eq rfl))⟩ dX11_unit_155
      · skip
        have rlc100 : x99.toInt = (7 : Int) := congrArg Int32.toInt c100
        have ir147 : IV x99 7 7 := ⟨(iv_eL c100 (iv_c (by decide) : IV 7 7 7)).1, ix99.2⟩
        have ir147a := ir147.1; have ir147b := ir147.2
        refine lv_aload_n hx hb dX11_unit_143 rfl (lv_at hl 0 rfl) ?_
        refine th_callVM (n := 0) (As := []) S hK hH hS (th_A.sub (by decide)) (m_X11_misplaced l D cT T q hT hq a0 t0) gm_1503 gm_1500 gm_1502 gm_53 gm_124 (by decide +kernel) ⟨rfl, rfl, Nat.le_of_ble_eq_true rfl, Nat.le_of_ble_eq_true rfl⟩ t0 km_0 rfl rfl hl.1 rfl (Nat.le_of_ble_eq_true rfl) dX11_unit_144 ⟨Nat.zero_le _, Nat.zero_le _⟩ (fun wq148 q148 H locs hEq148 hH hS hF1 => ?_)
        obtain ⟨rfl, hqq148, g0q148, pq148_0⟩ := hEq148
        show W p l e (rmk 2 44) s m [.ref a0].toArray below meth c H locs 0 0 (MQ below (th_QM D cT T (fun v q2 => ∃ r : Int32, v = some (.int r) ∧ IV r 0 1 ∧ qkm q2 ∧ fr [20, 21, 22, 23, 24, 27, 28, 29, 30, 31, 1000] q q2 ∧ (TS q2) ∧ (q 27 ≤ q2 27) ∧ (DM q q2) ∧ (kp q q2 (q 35)) ∧ (RU q2 r.toInt) ∧ (GD q q2)) [0, 8, 28, 29, 30, 31]) [.ref a0].toArray s 0 0 (th_A T [0, 8, 28, 29, 30, 31])) (F0 m 147 ls [])
        have pq148_0 : 1 ≤ q148 30 := pq148_0
        have wq148_10 : q148 10 = q 10 := g0q148 10 (by decide) (Or.inl (by decide))
        have wq148_13 : q148 13 = q 13 := g0q148 13 (by decide) (Or.inl (by decide))
        have wq148_20 : q148 20 = q 20 := g0q148 20 (by decide) (Or.inl (by decide))
        have wq148_21 : q148 21 = q 21 := g0q148 21 (by decide) (Or.inl (by decide))
        have wq148_22 : q148 22 = q 22 := g0q148 22 (by decide) (Or.inl (by decide))
        have wq148_23 : q148 23 = q 23 := g0q148 23 (by decide) (Or.inl (by decide))
        have wq148_24 : q148 24 = q 24 := g0q148 24 (by decide) (Or.inl (by decide))
        have wq148_26 : q148 26 = q 26 := g0q148 26 (by decide) (Or.inl (by decide))
        have wq148_27 : q148 27 = q 27 := g0q148 27 (by decide) (Or.inl (by decide))
        have wq148_28 : q148 28 = q 28 := g0q148 28 (by decide) (Or.inl (by decide))
        have wq148_29 : q148 29 = q 29 := g0q148 29 (by decide) (Or.inl (by decide))
        have wq148_31 : q148 31 = q 31 := g0q148 31 (by decide) (Or.inl (by decide))
        have wq148_35 : q148 35 = q 35 := g0q148 35 (by decide) (Or.inl (by decide))
        have h0q148 : fr [20, 21, 22, 23, 24, 27, 28, 29, 30, 31, 1000] q q148 := fr_tr fr_rf g0q148 (by decide)
        have bgq148 : bg q q148 := bg_fr bg_rf g0q148 (by decide)
        have gdq148 : GD q q148 := GD_tr (GD_eq rfl) (GD_no pq148_0)
        have gbq148 : GD q q148 := GD_tr (GD_eq rfl) (GD_no pq148_0)
        have txq148 : tx q q148 := tx_tr tx_rf (tx_bg (bg_fr bg_rf g0q148 (by decide)))
        refine lv_aload_n hx hb dX11_unit_147 rfl (lv_at hl 0 rfl) ?_
        refine th_callVp (n := 0) (As := []) S hK hH hS (th_A.sub (by decide)) (m_X11_isGood l D cT T q148 hT hqq148 a0 t0) gm_1487 gm_1484 gm_1486 gm_49 gm_124 (by decide +kernel) ⟨rfl, rfl, Nat.le_of_ble_eq_true rfl, Nat.le_of_ble_eq_true rfl⟩ t0 km_0 rfl rfl hl.1 rfl (Nat.le_of_ble_eq_true rfl) dX11_unit_148 ⟨Nat.zero_le _, Nat.zero_le _⟩ (fun x149 H locs ix149 ox149 hH hS hF1 => ?_)
        obtain ⟨ox149_0, ox149_1⟩ := ox149
        have ox149_0 : x149.toInt ≠ 0 → q148 30 = 0 := ox149_0
        have ox149_1 : x149.toInt = 0 → 1 ≤ q148 30 := ox149_1
        have l1x149 := ix149.1; have l2x149 := ix149.2
        refine lv_if_ne (tgt := 156) hx hb dX11_unit_151 (by decide) (fun c150 => ?_) (fun c150 => ?_)
        · skip
          have rlc150 : x149.toInt ≠ (0 : Int) := iv_ne c150
          have ox149_0r := ox149_0 rlc150
          clear ox149_0
          clear ox149_1
          have ir151 : IV x149 1 1 := iv_cutL ix149 (iv_c (by decide) : IV 0 0 0) c150 (by decide)
          have ir151a := ir151.1; have ir151b := ir151.2
          clear rlc150
          exfalso; omega
        · skip
          have rlc150 : x149.toInt = (0 : Int) := congrArg Int32.toInt c150
          clear ox149_0
          have ox149_1r := ox149_1 rlc150
          clear ox149_1
          have ir152 : IV x149 0 0 := iv_eL c150 (iv_c (by decide) : IV 0 0 0)
          have ir152a := ir152.1; have ir152b := ir152.2
          have hkp : kp q q148 (q 35) := kp_bg bgq148
          have hRU : RU q148 (1 : Int) := RU_no (by omega)
          refine lv_iconst (v := 1) hx hb dX11_unit_154 (by decide) ?_
          exact th_zretM S hK hH hS hr hlocks (iv_w (iv_c (by decide) : IV 1 1 1) (by decide)) ⟨_, rfl, (iv_w (iv_c (by decide) : IV 1 1 1) (by decide)), hqq148, h0q148, (show TS q148 by exact (TS_mv hp0 txq148 (by omega) (by omega) (by omega) (by omega) (by omega) (fun z => by omega))), (show q 27 ≤ q148 27 by omega), (show DM q q148 by exact DM_no (by omega)), (show kp q q148 (q 35) by exact hkp), (show RU q148 (1 : Int) by exact hRU), (show GD q q148 by exact gdq148)⟩ dX11_unit_155
    · skip
      have rlc97 : (1 : Int) = (0 : Int) := congrArg Int32.toInt c97
      exfalso
      have z1 := congrArg Int32.toInt c97
      have z2 := ((iv_c (by decide) : IV 1 1 1)).1
      have z3 := ((iv_c (by decide) : IV 1 1 1)).2
      have z4 := ((iv_c (by decide) : IV 0 0 0)).1
      have z5 := ((iv_c (by decide) : IV 0 0 0)).2
      omega

