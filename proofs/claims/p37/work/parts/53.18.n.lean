
set_option maxHeartbeats 20000000 in
set_option maxRecDepth 100000 in
theorem J98_s0_1_l2_1_X11_unit (l : Launch) (D : va_G) (cT : Nat → ClassId) (T : Nat → Option Nat) (q : Nat → Int) (hT : tokm T) (hq : qkm q) (a0 : Nat) (t0 : T a0 = some 0) (hp0 : TS q) (hp1 : q 13 = 1 - q 10) (hp2 : q 30 = 0) (hp3 : 0 ≤ q 35) (hp4 : RS q 1) (hp5 : 1 ≤ q 21) (p : Program) (e : Env) (s : State) (m : MethodId) (below : List Frame) (meth : Method) (c : Code) (S : CallFix p m c cX11_unit 7 s [.ref a0].toArray gw yX11_unit.cls) (hK : va_K D classes (th_tys cT) s) (hr : meth.sig.returnType = (some .boolean)) (hlocks : meth.locks = false) : ∀ (H : Heap) (locs : List Loc) (ls : Array Slot) (v98_3 : Int32) (v98_4 : Int32), IV v98_3 0 1 → IV v98_4 0 122 → (v98_3.toInt ≠ 0 → q 29 = 5) → (v98_4.toInt ≠ 0 → q 29 = 3 ∧ 97 ≤ v98_4.toInt) → (q 29 = 3 ∧ q 31 = 7237492) → th_H D cT T (km q) H → va_S (th_A T [0, 8, 28, 29, 30, 31]) s.heap H locs → lv_has ls 7 [(0, .ref a0), (2, .int 1), (3, .int v98_3), (4, .int v98_4)] → W p l e (rmk 2 44) s m [.ref a0].toArray below meth c H locs 0 0 (MQ below (th_QM D cT T (fun v q2 => ∃ r : Int32, v = some (.int r) ∧ IV r 0 1 ∧ qkm q2 ∧ fr [20, 21, 22, 23, 24, 27, 28, 29, 30, 31, 1000] q q2 ∧ (TS q2) ∧ (q 27 ≤ q2 27) ∧ (DM q q2) ∧ (kp q q2 (q 35)) ∧ (RU q2 r.toInt) ∧ (GD q q2)) [0, 8, 28, 29, 30, 31]) [.ref a0].toArray s 0 0 (th_A T [0, 8, 28, 29, 30, 31])) (F0 m 98 ls [.int 1]) := by
    have hx := S.1
    have hb := S.2.1
    have b13 := qkm_13 hq; have b10 := qkm_10 hq; have b20 := qkm_20 hq; have b22 := qkm_22 hq; have b23 := qkm_23 hq; have b24 := qkm_24 hq; have b26 := qkm_26 hq; have b27 := qkm_27 hq; have le0 := TS_le hp0
    obtain ⟨hlo1, hlo2, hlo3⟩ := RS_lo hp4; have hpil := RS_piled hp4 (by decide)
    have J126_l2_1 := J126_l2_1_X11_unit l D cT T q hT hq a0 t0 hp0 hp1 hp2 hp3 hp4 hp5 p e s m below meth c S hK hr hlocks
    intro H locs ls v98_3 v98_4 iv98_3 iv98_4 v98_inv0 v98_inv1 v98_inv2 hH hS hl
    have l1v98_3 := iv98_3.1; have l2v98_3 := iv98_3.2
    have l1v98_4 := iv98_4.1; have l2v98_4 := iv98_4.2
    refine lv_istore (lv' := [(5, .int 1), (0, .ref a0), (2, .int 1), (3, .int v98_3), (4, .int v98_4)]) hx hb dX11_unit_98 hl (by decide) rfl (fun ls hl => ?_)
    refine lv_iload_n hx hb dX11_unit_100 rfl (lv_at hl 2 rfl) ?_
    refine lv_if_ne (tgt := 126) hx hb dX11_unit_101 (by decide) (fun c207 => ?_) (fun c207 => ?_)
    · skip
      have rlc207 : (1 : Int) ≠ (0 : Int) := iv_ne c207
      clear rlc207
      exact J126_l2_1 H locs ls v98_3 v98_4 iv98_3 iv98_4 (show v98_3.toInt ≠ 0 → q 29 = 5 by first | assumption | omega) (show v98_4.toInt ≠ 0 → q 29 = 3 ∧ 97 ≤ v98_4.toInt by first | assumption | omega) (show q 29 = 3 ∧ q 31 = 7237492 by omega) hH hS (lv_sub hl [1, 2, 3, 4] rfl)
    · skip
      have rlc207 : (1 : Int) = (0 : Int) := congrArg Int32.toInt c207
      exfalso
      have z1 := congrArg Int32.toInt c207
      have z2 := ((iv_c (by decide) : IV 1 1 1)).1
      have z3 := ((iv_c (by decide) : IV 1 1 1)).2
      have z4 := ((iv_c (by decide) : IV 0 0 0)).1
      have z5 := ((iv_c (by decide) : IV 0 0 0)).2
      omega


set_option maxHeartbeats 20000000 in
set_option maxRecDepth 100000 in
theorem J56_s0_0_X11_unit (l : Launch) (D : va_G) (cT : Nat → ClassId) (T : Nat → Option Nat) (q : Nat → Int) (hT : tokm T) (hq : qkm q) (a0 : Nat) (t0 : T a0 = some 0) (hp0 : TS q) (hp1 : q 13 = 1 - q 10) (hp2 : q 30 = 0) (hp3 : 0 ≤ q 35) (hp4 : RS q 1) (hp5 : 1 ≤ q 21) (p : Program) (e : Env) (s : State) (m : MethodId) (below : List Frame) (meth : Method) (c : Code) (S : CallFix p m c cX11_unit 7 s [.ref a0].toArray gw yX11_unit.cls) (hK : va_K D classes (th_tys cT) s) (hr : meth.sig.returnType = (some .boolean)) (hlocks : meth.locks = false) : ∀ (H : Heap) (locs : List Loc) (ls : Array Slot), th_H D cT T (km q) H → va_S (th_A T [0, 8, 28, 29, 30, 31]) s.heap H locs → lv_has ls 7 [(0, .ref a0)] → W p l e (rmk 2 44) s m [.ref a0].toArray below meth c H locs 0 0 (MQ below (th_QM D cT T (fun v q2 => ∃ r : Int32, v = some (.int r) ∧ IV r 0 1 ∧ qkm q2 ∧ fr [20, 21, 22, 23, 24, 27, 28, 29, 30, 31, 1000] q q2 ∧ (TS q2) ∧ (q 27 ≤ q2 27) ∧ (DM q q2) ∧ (kp q q2 (q 35)) ∧ (RU q2 r.toInt) ∧ (GD q q2)) [0, 8, 28, 29, 30, 31]) [.ref a0].toArray s 0 0 (th_A T [0, 8, 28, 29, 30, 31])) (F0 m 56 ls [.int 0]) := by
    have hx := S.1
    have hb := S.2.1
    have b13 := qkm_13 hq; have b10 := qkm_10 hq; have b20 := qkm_20 hq; have b22 := qkm_22 hq; have b23 := qkm_23 hq; have b24 := qkm_24 hq; have b26 := qkm_26 hq; have b27 := qkm_27 hq; have le0 := TS_le hp0
    obtain ⟨hlo1, hlo2, hlo3⟩ := RS_lo hp4; have hpil := RS_piled hp4 (by decide)
    have J98_s0_0_l2_0 := J98_s0_0_l2_0_X11_unit l D cT T q hT hq a0 t0 hp0 hp1 hp2 hp3 hp4 hp5 p e s m below meth c S hK hr hlocks
    have J98_s0_1_l2_0 := J98_s0_1_l2_0_X11_unit l D cT T q hT hq a0 t0 hp0 hp1 hp2 hp3 hp4 hp5 p e s m below meth c S hK hr hlocks
    intro H locs ls hH hS hl
    refine lv_istore_n (lv' := [(2, .int 0), (0, .ref a0)]) hx hb dX11_unit_56 rfl hl (by decide) rfl (fun ls hl => ?_)
    refine lv_aload_n hx hb dX11_unit_57 rfl (lv_at hl 1 rfl) ?_
    refine lv_bipush (v := 40) hx hb dX11_unit_58 (by decide) ?_
    refine th_callVp (n := 1) (As := [.int 40]) S hK hH hS (th_A.sub (by decide)) (m_X11_isSignHere l D cT T q hT hq a0 t0 (40) (iv_top _)) gm_1563 gm_1560 gm_1562 gm_68 gm_124 (by decide +kernel) ⟨rfl, rfl, Nat.le_of_ble_eq_true rfl, Nat.le_of_ble_eq_true rfl⟩ t0 km_0 rfl rfl hl.1 rfl (Nat.le_of_ble_eq_true rfl) dX11_unit_60 ⟨Nat.zero_le _, Nat.zero_le _⟩ (fun x208 H locs ix208 ox208 hH hS hF1 => ?_)
    have ox208 : x208.toInt ≠ 0 → q 29 = 5 ∧ sg q (q 27) = (40 : Int) := ox208
    have l1x208 := ix208.1; have l2x208 := ix208.2
    refine lv_istore_n (lv' := [(3, .int x208), (2, .int 0), (0, .ref a0)]) hx hb dX11_unit_63 rfl hl (by decide) rfl (fun ls hl => ?_)
    refine lv_aload_n hx hb dX11_unit_64 rfl (lv_at hl 2 rfl) ?_
    refine th_callVp (n := 0) (As := []) S hK hH hS (th_A.sub (by decide)) (m_X11_wordHere l D cT T q hT hq a0 t0) gm_1567 gm_1564 gm_1566 gm_69 gm_124 (by decide +kernel) ⟨rfl, rfl, Nat.le_of_ble_eq_true rfl, Nat.le_of_ble_eq_true rfl⟩ t0 km_0 rfl rfl hl.1 rfl (Nat.le_of_ble_eq_true rfl) dX11_unit_65 ⟨Nat.zero_le _, Nat.zero_le _⟩ (fun x209 H locs ix209 ox209 hH hS hF1 => ?_)
    have ox209 : x209.toInt ≠ 0 → q 29 = 3 ∧ 97 ≤ x209.toInt := ox209
    have l1x209 := ix209.1; have l2x209 := ix209.2
    refine lv_istore (lv' := [(4, .int x209), (3, .int x208), (2, .int 0), (0, .ref a0)]) hx hb dX11_unit_68 hl (by decide) rfl (fun ls hl => ?_)
    have hb5 : x208.toInt ≠ 0 → q 29 = 5 := fun z => (ox208 z).1
    clear ox208
    refine lv_aload_n hx hb dX11_unit_70 rfl (lv_at hl 3 rfl) ?_
    refine th_get S hK hH inG11 t0 km_0 rfl 16 (by decide) gm_1246 rfl rfl dX11_unit_71 (fun v210 hv210 fv210 => ?_)
    obtain ⟨rf211, rfl, trf211⟩ := th_V.ref hv210
    refine lv_aload_n hx hb dX11_unit_74 rfl (lv_at hl 3 rfl) ?_
    refine th_get S hK hH inG11 t0 km_0 rfl 42 (by decide) gm_1272 rfl rfl dX11_unit_75 (fun v212 hv212 fv212 => ?_)
    obtain ⟨x213, rfl, ix213⟩ := th_V.int hv212
    have kx213 : x213.toInt = q 13 := Int.le_antisymm ix213.2 ix213.1
    have bx213 := qkm_13 hq
    have ix213 : IV x213 0 1 := iv_w ix213 (qkm_13 hq)
    refine th_iald S hK hH trf211 km_8 (th_in (hi := 1) ix213 (by decide)) dX11_unit_78 (fun v214 hv214 => ?_)
    obtain ⟨x215, rfl, ix215⟩ := th_bkB hv214 ix213 (by omega)
    have kx215 : x215.toInt = q 24 := Int.le_antisymm ix215.2 ix215.1
    have bx215 := qkm_24 hq
    have ix215 : IV x215 0 90 := iv_w ix215 (qkm_24 hq)
    refine lv_bipush (v := 90) hx hb dX11_unit_79 (by decide) ?_
    refine lv_icmp_eq (tgt := 93) hx hb dX11_unit_81 (by decide) (fun c216 => ?_) (fun c216 => ?_)
    · skip
      have rlc216 : x215.toInt = (90 : Int) := congrArg Int32.toInt c216
      have ir217 : IV x215 90 90 := ⟨(iv_eL c216 (iv_c (by decide) : IV 90 90 90)).1, ix215.2⟩
      have ir217a := ir217.1; have ir217b := ir217.2
      refine lv_iconst (v := 1) hx hb dX11_unit_93 (by decide) ?_
      refine lv_goto (tgt := 98) hx hb dX11_unit_94 (by decide) ?_
      exact J98_s0_1_l2_0 H locs ls x208 x209 ix208 ix209 (show x208.toInt ≠ 0 → q 29 = 5 by first | assumption | omega) (show x209.toInt ≠ 0 → q 29 = 3 ∧ 97 ≤ x209.toInt by first | assumption | omega) hH hS (lv_sub hl [3, 2, 1, 0] rfl)
    · skip
      have rlc216 : x215.toInt ≠ (90 : Int) := iv_ne c216
      have ir218 : IV x215 0 89 := iv_cutH ix215 (iv_c (by decide) : IV 90 90 90) c216 (by decide)
      have ir218a := ir218.1; have ir218b := ir218.2
      clear rlc216
      refine lv_aload_n hx hb dX11_unit_84 rfl (lv_at hl 3 rfl) ?_
      refine th_get S hK hH inG11 t0 km_0 rfl 46 (by decide) gm_1276 rfl rfl dX11_unit_85 (fun v219 hv219 fv219 => ?_)
      obtain ⟨x220, rfl, ix220⟩ := th_V.int hv219
      have kx220 : x220.toInt = q 23 := Int.le_antisymm ix220.2 ix220.1
      have bx220 := qkm_23 hq
      have ix220 : IV x220 0 30 := iv_w ix220 (qkm_23 hq)
      refine lv_bipush (v := 30) hx hb dX11_unit_88 (by decide) ?_
      refine lv_icmp_ne (tgt := 97) hx hb dX11_unit_90 (by decide) (fun c221 => ?_) (fun c221 => ?_)
      · skip
        have rlc221 : x220.toInt ≠ (30 : Int) := iv_ne c221
        have ir222 : IV x220 0 29 := iv_cutH ix220 (iv_c (by decide) : IV 30 30 30) c221 (by decide)
        have ir222a := ir222.1; have ir222b := ir222.2
        clear rlc221
        refine lv_iconst (v := 0) hx hb dX11_unit_97 (by decide) ?_
        exact J98_s0_0_l2_0 H locs ls x208 x209 ix208 ix209 (show x208.toInt ≠ 0 → q 29 = 5 by first | assumption | omega) (show x209.toInt ≠ 0 → q 29 = 3 ∧ 97 ≤ x209.toInt by first | assumption | omega) (show q 24 ≤ 89 ∧ q 23 ≤ 29 by exact ⟨by omega, by omega⟩) hH hS (lv_sub hl [3, 2, 1, 0] rfl)
      · skip
        have rlc221 : x220.toInt = (30 : Int) := congrArg Int32.toInt c221
        have ir223 : IV x220 30 30 := ⟨(iv_eL c221 (iv_c (by decide) : IV 30 30 30)).1, ix220.2⟩
        have ir223a := ir223.1; have ir223b := ir223.2
        refine lv_iconst (v := 1) hx hb dX11_unit_93 (by decide) ?_
        refine lv_goto (tgt := 98) hx hb dX11_unit_94 (by decide) ?_
        exact J98_s0_1_l2_0 H locs ls x208 x209 ix208 ix209 (show x208.toInt ≠ 0 → q 29 = 5 by first | assumption | omega) (show x209.toInt ≠ 0 → q 29 = 3 ∧ 97 ≤ x209.toInt by first | assumption | omega) hH hS (lv_sub hl [3, 2, 1, 0] rfl)


set_option maxHeartbeats 20000000 in
set_option maxRecDepth 100000 in
theorem J56_s0_1_X11_unit (l : Launch) (D : va_G) (cT : Nat → ClassId) (T : Nat → Option Nat) (q : Nat → Int) (hT : tokm T) (hq : qkm q) (a0 : Nat) (t0 : T a0 = some 0) (hp0 : TS q) (hp1 : q 13 = 1 - q 10) (hp2 : q 30 = 0) (hp3 : 0 ≤ q 35) (hp4 : RS q 1) (hp5 : 1 ≤ q 21) (p : Program) (e : Env) (s : State) (m : MethodId) (below : List Frame) (meth : Method) (c : Code) (S : CallFix p m c cX11_unit 7 s [.ref a0].toArray gw yX11_unit.cls) (hK : va_K D classes (th_tys cT) s) (hr : meth.sig.returnType = (some .boolean)) (hlocks : meth.locks = false) : ∀ (H : Heap) (locs : List Loc) (ls : Array Slot), (q 29 = 3 ∧ q 31 = 7237492) → th_H D cT T (km q) H → va_S (th_A T [0, 8, 28, 29, 30, 31]) s.heap H locs → lv_has ls 7 [(0, .ref a0)] → W p l e (rmk 2 44) s m [.ref a0].toArray below meth c H locs 0 0 (MQ below (th_QM D cT T (fun v q2 => ∃ r : Int32, v = some (.int r) ∧ IV r 0 1 ∧ qkm q2 ∧ fr [20, 21, 22, 23, 24, 27, 28, 29, 30, 31, 1000] q q2 ∧ (TS q2) ∧ (q 27 ≤ q2 27) ∧ (DM q q2) ∧ (kp q q2 (q 35)) ∧ (RU q2 r.toInt) ∧ (GD q q2)) [0, 8, 28, 29, 30, 31]) [.ref a0].toArray s 0 0 (th_A T [0, 8, 28, 29, 30, 31])) (F0 m 56 ls [.int 1]) := by
    have hx := S.1
    have hb := S.2.1
    have b13 := qkm_13 hq; have b10 := qkm_10 hq; have b20 := qkm_20 hq; have b22 := qkm_22 hq; have b23 := qkm_23 hq; have b24 := qkm_24 hq; have b26 := qkm_26 hq; have b27 := qkm_27 hq; have le0 := TS_le hp0
    obtain ⟨hlo1, hlo2, hlo3⟩ := RS_lo hp4; have hpil := RS_piled hp4 (by decide)
    have J98_s0_0_l2_1 := J98_s0_0_l2_1_X11_unit l D cT T q hT hq a0 t0 hp0 hp1 hp2 hp3 hp4 hp5 p e s m below meth c S hK hr hlocks
    have J98_s0_1_l2_1 := J98_s0_1_l2_1_X11_unit l D cT T q hT hq a0 t0 hp0 hp1 hp2 hp3 hp4 hp5 p e s m below meth c S hK hr hlocks
    intro H locs ls v56_inv0 hH hS hl
    refine lv_istore_n (lv' := [(2, .int 1), (0, .ref a0)]) hx hb dX11_unit_56 rfl hl (by decide) rfl (fun ls hl => ?_)
    refine lv_aload_n hx hb dX11_unit_57 rfl (lv_at hl 1 rfl) ?_
    refine lv_bipush (v := 40) hx hb dX11_unit_58 (by decide) ?_
    refine th_callVp (n := 1) (As := [.int 40]) S hK hH hS (th_A.sub (by decide)) (m_X11_isSignHere l D cT T q hT hq a0 t0 (40) (iv_top _)) gm_1563 gm_1560 gm_1562 gm_68 gm_124 (by decide +kernel) ⟨rfl, rfl, Nat.le_of_ble_eq_true rfl, Nat.le_of_ble_eq_true rfl⟩ t0 km_0 rfl rfl hl.1 rfl (Nat.le_of_ble_eq_true rfl) dX11_unit_60 ⟨Nat.zero_le _, Nat.zero_le _⟩ (fun x224 H locs ix224 ox224 hH hS hF1 => ?_)
    have ox224 : x224.toInt ≠ 0 → q 29 = 5 ∧ sg q (q 27) = (40 : Int) := ox224
    have l1x224 := ix224.1; have l2x224 := ix224.2
    refine lv_istore_n (lv' := [(3, .int x224), (2, .int 1), (0, .ref a0)]) hx hb dX11_unit_63 rfl hl (by decide) rfl (fun ls hl => ?_)
    refine lv_aload_n hx hb dX11_unit_64 rfl (lv_at hl 2 rfl) ?_
    refine th_callVp (n := 0) (As := []) S hK hH hS (th_A.sub (by decide)) (m_X11_wordHere l D cT T q hT hq a0 t0) gm_1567 gm_1564 gm_1566 gm_69 gm_124 (by decide +kernel) ⟨rfl, rfl, Nat.le_of_ble_eq_true rfl, Nat.le_of_ble_eq_true rfl⟩ t0 km_0 rfl rfl hl.1 rfl (Nat.le_of_ble_eq_true rfl) dX11_unit_65 ⟨Nat.zero_le _, Nat.zero_le _⟩ (fun x225 H locs ix225 ox225 hH hS hF1 => ?_)
    have ox225 : x225.toInt ≠ 0 → q 29 = 3 ∧ 97 ≤ x225.toInt := ox225
    have l1x225 := ix225.1; have l2x225 := ix225.2
    refine lv_istore (lv' := [(4, .int x225), (3, .int x224), (2, .int 1), (0, .ref a0)]) hx hb dX11_unit_68 hl (by decide) rfl (fun ls hl => ?_)
    have hb5 : x224.toInt ≠ 0 → q 29 = 5 := fun z => (ox224 z).1
    clear ox224
    refine lv_aload_n hx hb dX11_unit_70 rfl (lv_at hl 3 rfl) ?_
    refine th_get S hK hH inG11 t0 km_0 rfl 16 (by decide) gm_1246 rfl rfl dX11_unit_71 (fun v226 hv226 fv226 => ?_)
    obtain ⟨rf227, rfl, trf227⟩ := th_V.ref hv226
    refine lv_aload_n hx hb dX11_unit_74 rfl (lv_at hl 3 rfl) ?_
    refine th_get S hK hH inG11 t0 km_0 rfl 42 (by decide) gm_1272 rfl rfl dX11_unit_75 (fun v228 hv228 fv228 => ?_)
    obtain ⟨x229, rfl, ix229⟩ := th_V.int hv228
    have kx229 : x229.toInt = q 13 := Int.le_antisymm ix229.2 ix229.1
    have bx229 := qkm_13 hq
    have ix229 : IV x229 0 1 := iv_w ix229 (qkm_13 hq)
    refine th_iald S hK hH trf227 km_8 (th_in (hi := 1) ix229 (by decide)) dX11_unit_78 (fun v230 hv230 => ?_)
    obtain ⟨x231, rfl, ix231⟩ := th_bkB hv230 ix229 (by omega)
    have kx231 : x231.toInt = q 24 := Int.le_antisymm ix231.2 ix231.1
    have bx231 := qkm_24 hq
    have ix231 : IV x231 0 90 := iv_w ix231 (qkm_24 hq)
    refine lv_bipush (v := 90) hx hb dX11_unit_79 (by decide) ?_
    refine lv_icmp_eq (tgt := 93) hx hb dX11_unit_81 (by decide) (fun c232 => ?_) (fun c232 => ?_)
    · skip
      have rlc232 : x231.toInt = (90 : Int) := congrArg Int32.toInt c232
      have ir233 : IV x231 90 90 := ⟨(iv_eL c232 (iv_c (by decide) : IV 90 90 90)).1, ix231.2⟩
      have ir233a := ir233.1; have ir233b := ir233.2
      refine lv_iconst (v := 1) hx hb dX11_unit_93 (by decide) ?_
      refine lv_goto (tgt := 98) hx hb dX11_unit_94 (by decide) ?_
      exact J98_s0_1_l2_1 H locs ls x224 x225 ix224 ix225 (show x224.toInt ≠ 0 → q 29 = 5 by first | assumption | omega) (show x225.toInt ≠ 0 → q 29 = 3 ∧ 97 ≤ x225.toInt by first | assumption | omega) (show q 29 = 3 ∧ q 31 = 7237492 by omega) hH hS (lv_sub hl [3, 2, 1, 0] rfl)
    · skip
      have rlc232 : x231.toInt ≠ (90 : Int) := iv_ne c232
      have ir234 : IV x231 0 89 := iv_cutH ix231 (iv_c (by decide) : IV 90 90 90) c232 (by decide)
      have ir234a := ir234.1; have ir234b := ir234.2
      clear rlc232
      refine lv_aload_n hx hb dX11_unit_84 rfl (lv_at hl 3 rfl) ?_
      refine th_get S hK hH inG11 t0 km_0 rfl 46 (by decide) gm_1276 rfl rfl dX11_unit_85 (fun v235 hv235 fv235 => ?_)
      obtain ⟨x236, rfl, ix236⟩ := th_V.int hv235
      have kx236 : x236.toInt = q 23 := Int.le_antisymm ix236.2 ix236.1
      have bx236 := qkm_23 hq
      have ix236 : IV x236 0 30 := iv_w ix236 (qkm_23 hq)
      refine lv_bipush (v := 30) hx hb dX11_unit_88 (by decide) ?_
      refine lv_icmp_ne (tgt := 97) hx hb dX11_unit_90 (by decide) (fun c237 => ?_) (fun c237 => ?_)
      · skip
        have rlc237 : x236.toInt ≠ (30 : Int) := iv_ne c237
        have ir238 : IV x236 0 29 := iv_cutH ix236 (iv_c (by decide) : IV 30 30 30) c237 (by decide)
        have ir238a := ir238.1; have ir238b := ir238.2
        clear rlc237
        refine lv_iconst (v := 0) hx hb dX11_unit_97 (by decide) ?_
        exact J98_s0_0_l2_1 H locs ls x224 x225 ix224 ix225 (show x224.toInt ≠ 0 → q 29 = 5 by first | assumption | omega) (show x225.toInt ≠ 0 → q 29 = 3 ∧ 97 ≤ x225.toInt by first | assumption | omega) (show q 29 = 3 ∧ q 31 = 7237492 by omega) (show q 24 ≤ 89 ∧ q 23 ≤ 29 by exact ⟨by omega, by omega⟩) hH hS (lv_sub hl [3, 2, 1, 0] rfl)
      · skip
        have rlc237 : x236.toInt = (30 : Int) := congrArg Int32.toInt c237
        have ir239 : IV x236 30 30 := ⟨(iv_eL c237 (iv_c (by decide) : IV 30 30 30)).1, ix236.2⟩
        have ir239a := ir239.1; have ir239b := ir239.2
        refine lv_iconst (v := 1) hx hb dX11_unit_93 (by decide) ?_
        refine lv_goto (tgt := 98) hx hb dX11_unit_94 (by decide) ?_
        exact J98_s0_1_l2_1 H locs ls x224 x225 ix224 ix225 (show x224.toInt ≠ 0 → q 29 = 5 by first | assumption | omega) (show x225.toInt ≠ 0 → q 29 = 3 ∧ 97 ≤ x225.toInt by first | assumption | omega) (show q 29 = 3 ∧ q 31 = 7237492 by omega) hH hS (lv_sub hl [3, 2, 1, 0] rfl)


set_option maxHeartbeats 20000000 in
set_option maxRecDepth 100000 in
theorem J36_s0_0_X11_unit (l : Launch) (D : va_G) (cT : Nat → ClassId) (T : Nat → Option Nat) (q : Nat → Int) (hT : tokm T) (hq : qkm q) (a0 : Nat) (t0 : T a0 = some 0) (hp0 : TS q) (hp1 : q 13 = 1 - q 10) (hp2 : q 30 = 0) (hp3 : 0 ≤ q 35) (hp4 : RS q 1) (hp5 : 1 ≤ q 21) (p : Program) (e : Env) (s : State) (m : MethodId) (below : List Frame) (meth : Method) (c : Code) (S : CallFix p m c cX11_unit 7 s [.ref a0].toArray gw yX11_unit.cls) (hK : va_K D classes (th_tys cT) s) (hr : meth.sig.returnType = (some .boolean)) (hlocks : meth.locks = false) : ∀ (H : Heap) (locs : List Loc) (ls : Array Slot), th_H D cT T (km q) H → va_S (th_A T [0, 8, 28, 29, 30, 31]) s.heap H locs → lv_has ls 7 [(0, .ref a0)] → W p l e (rmk 2 44) s m [.ref a0].toArray below meth c H locs 0 0 (MQ below (th_QM D cT T (fun v q2 => ∃ r : Int32, v = some (.int r) ∧ IV r 0 1 ∧ qkm q2 ∧ fr [20, 21, 22, 23, 24, 27, 28, 29, 30, 31, 1000] q q2 ∧ (TS q2) ∧ (q 27 ≤ q2 27) ∧ (DM q q2) ∧ (kp q q2 (q 35)) ∧ (RU q2 r.toInt) ∧ (GD q q2)) [0, 8, 28, 29, 30, 31]) [.ref a0].toArray s 0 0 (th_A T [0, 8, 28, 29, 30, 31])) (F0 m 36 ls [.int 0]) := by
    have hx := S.1
    have hb := S.2.1
    have b13 := qkm_13 hq; have b10 := qkm_10 hq; have b20 := qkm_20 hq; have b22 := qkm_22 hq; have b23 := qkm_23 hq; have b24 := qkm_24 hq; have b26 := qkm_26 hq; have b27 := qkm_27 hq; have le0 := TS_le hp0
    obtain ⟨hlo1, hlo2, hlo3⟩ := RS_lo hp4; have hpil := RS_piled hp4 (by decide)
    have J56_s0_0 := J56_s0_0_X11_unit l D cT T q hT hq a0 t0 hp0 hp1 hp2 hp3 hp4 hp5 p e s m below meth c S hK hr hlocks
    intro H locs ls hH hS hl
    refine lv_istore_n (lv' := [(1, .int 0), (0, .ref a0)]) hx hb dX11_unit_36 rfl hl (by decide) rfl (fun ls hl => ?_)
    refine lv_iload_n hx hb dX11_unit_37 rfl (lv_at hl 0 rfl) ?_
    refine lv_if_eq (tgt := 55) hx hb dX11_unit_38 (by decide) (fun c240 => ?_) (fun c240 => ?_)
    · skip
      have rlc240 : (0 : Int) = (0 : Int) := congrArg Int32.toInt c240
      refine lv_iconst (v := 0) hx hb dX11_unit_55 (by decide) ?_
      exact J56_s0_0 H locs ls  hH hS (lv_sub hl [1] rfl)
    · skip
      have rlc240 : (0 : Int) ≠ (0 : Int) := iv_ne c240
      exact absurd (iv_eqc (iv_c (by decide) : IV 0 0 0) (iv_c (by decide) : IV 0 0 0)) c240


set_option maxHeartbeats 20000000 in
set_option maxRecDepth 100000 in
theorem J36_s0_1_X11_unit (l : Launch) (D : va_G) (cT : Nat → ClassId) (T : Nat → Option Nat) (q : Nat → Int) (hT : tokm T) (hq : qkm q) (a0 : Nat) (t0 : T a0 = some 0) (hp0 : TS q) (hp1 : q 13 = 1 - q 10) (hp2 : q 30 = 0) (hp3 : 0 ≤ q 35) (hp4 : RS q 1) (hp5 : 1 ≤ q 21) (p : Program) (e : Env) (s : State) (m : MethodId) (below : List Frame) (meth : Method) (c : Code) (S : CallFix p m c cX11_unit 7 s [.ref a0].toArray gw yX11_unit.cls) (hK : va_K D classes (th_tys cT) s) (hr : meth.sig.returnType = (some .boolean)) (hlocks : meth.locks = false) : ∀ (H : Heap) (locs : List Loc) (ls : Array Slot), th_H D cT T (km q) H → va_S (th_A T [0, 8, 28, 29, 30, 31]) s.heap H locs → lv_has ls 7 [(0, .ref a0)] → W p l e (rmk 2 44) s m [.ref a0].toArray below meth c H locs 0 0 (MQ below (th_QM D cT T (fun v q2 => ∃ r : Int32, v = some (.int r) ∧ IV r 0 1 ∧ qkm q2 ∧ fr [20, 21, 22, 23, 24, 27, 28, 29, 30, 31, 1000] q q2 ∧ (TS q2) ∧ (q 27 ≤ q2 27) ∧ (DM q q2) ∧ (kp q q2 (q 35)) ∧ (RU q2 r.toInt) ∧ (GD q q2)) [0, 8, 28, 29, 30, 31]) [.ref a0].toArray s 0 0 (th_A T [0, 8, 28, 29, 30, 31])) (F0 m 36 ls [.int 1]) := by
    have hx := S.1
    have hb := S.2.1
    have b13 := qkm_13 hq; have b10 := qkm_10 hq; have b20 := qkm_20 hq; have b22 := qkm_22 hq; have b23 := qkm_23 hq; have b24 := qkm_24 hq; have b26 := qkm_26 hq; have b27 := qkm_27 hq; have le0 := TS_le hp0
    obtain ⟨hlo1, hlo2, hlo3⟩ := RS_lo hp4; have hpil := RS_piled hp4 (by decide)
    have J56_s0_0 := J56_s0_0_X11_unit l D cT T q hT hq a0 t0 hp0 hp1 hp2 hp3 hp4 hp5 p e s m below meth c S hK hr hlocks
    have J56_s0_1 := J56_s0_1_X11_unit l D cT T q hT hq a0 t0 hp0 hp1 hp2 hp3 hp4 hp5 p e s m below meth c S hK hr hlocks
    intro H locs ls hH hS hl
    refine lv_istore_n (lv' := [(1, .int 1), (0, .ref a0)]) hx hb dX11_unit_36 rfl hl (by decide) rfl (fun ls hl => ?_)
    refine lv_iload_n hx hb dX11_unit_37 rfl (lv_at hl 0 rfl) ?_
    refine lv_if_eq (tgt := 55) hx hb dX11_unit_38 (by decide) (fun c241 => ?_) (fun c241 => ?_)
    · skip
      have rlc241 : (1 : Int) = (0 : Int) := congrArg Int32.toInt c241
      exfalso
      have z1 := congrArg Int32.toInt c241
      have z2 := ((iv_c (by decide) : IV 1 1 1)).1
      have z3 := ((iv_c (by decide) : IV 1 1 1)).2
      have z4 := ((iv_c (by decide) : IV 0 0 0)).1
      have z5 := ((iv_c (by decide) : IV 0 0 0)).2
      omega
    · skip
      have rlc241 : (1 : Int) ≠ (0 : Int) := iv_ne c241
      clear rlc241
      refine lv_aload_n hx hb dX11_unit_41 rfl (lv_at hl 1 rfl) ?_
      refine lv_ldc2 (v := 7237492) hx hb S.2.2.2.1 (S.2.2.2.2 _ gm_1477) dX11_unit_42 ?_
      refine th_callVp (n := 1) (As := [.long 7237492]) S hK hH hS (th_A.sub (by decide)) (m_X11_isWord l D cT T q hT hq a0 t0 (7237492)) gm_1499 gm_1496 gm_1498 gm_52 gm_124 (by decide +kernel) ⟨rfl, rfl, Nat.le_of_ble_eq_true rfl, Nat.le_of_ble_eq_true rfl⟩ t0 km_0 rfl rfl hl.1 rfl (Nat.le_of_ble_eq_true rfl) dX11_unit_45 ⟨Nat.zero_le _, Nat.zero_le _⟩ (fun x242 H locs ix242 ox242 hH hS hF1 => ?_)
      obtain ⟨ox242_0, ox242_1⟩ := ox242
      have ox242_0 : x242.toInt ≠ 0 → q 29 = 3 ∧ q 31 = (7237492 : Int) := ox242_0
      have ox242_1 : x242.toInt = 0 → q 29 ≠ 3 ∨ q 31 ≠ (7237492 : Int) := ox242_1
      have l1x242 := ix242.1; have l2x242 := ix242.2
      refine lv_if_eq (tgt := 55) hx hb dX11_unit_48 (by decide) (fun c243 => ?_) (fun c243 => ?_)
      · skip
        have rlc243 : x242.toInt = (0 : Int) := congrArg Int32.toInt c243
        clear ox242_0
        clear ox242_1
        have ir244 : IV x242 0 0 := iv_eL c243 (iv_c (by decide) : IV 0 0 0)
        have ir244a := ir244.1; have ir244b := ir244.2
        refine lv_iconst (v := 0) hx hb dX11_unit_55 (by decide) ?_
        exact J56_s0_0 H locs ls  hH hS (lv_sub hl [1] rfl)
      · skip
        have rlc243 : x242.toInt ≠ (0 : Int) := iv_ne c243
        have ox242_0r := ox242_0 rlc243
        clear ox242_0
        clear ox242_1
        have ir245 : IV x242 1 1 := iv_cutL ix242 (iv_c (by decide) : IV 0 0 0) c243 (by decide)
        have ir245a := ir245.1; have ir245b := ir245.2
        clear rlc243
        refine lv_iconst (v := 1) hx hb dX11_unit_51 (by decide) ?_
        refine lv_goto (tgt := 56) hx hb dX11_unit_52 (by decide) ?_
        exact J56_s0_1 H locs ls (show q 29 = 3 ∧ q 31 = 7237492 by omega) hH hS (lv_sub hl [1] rfl)
