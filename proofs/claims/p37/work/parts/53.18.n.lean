
set_option maxHeartbeats 20000000 in
set_option maxRecDepth 100000 in
theorem J98_s0_1_l2_1_X11_unit (l : Launch) (D : va_G) (cT : Nat → ClassId) (T : Nat → Option Nat) (q : Nat → Int) (hT : tokm T) (hq : qkm q) (a0 : Nat) (t0 : T a0 = some 0) (hp0 : TS q) (hp1 : q 13 = 1 - q 10) (hp2 : q 30 = 0) (hp3 : 0 ≤ q 35) (hp4 : RS q 1) (hp5 : 1 ≤ q 21) (p : Program) (e : Env) (s : State) (m : MethodId) (below : List Frame) (meth : Method) (c : Code) (S : CallFix p m c cX11_unit 7 s [.ref a0].toArray gw yX11_unit.cls) (hK : va_K D classes (th_tys cT) s) (hr : meth.sig.returnType = (some .boolean)) (hlocks : meth.locks = false) : ∀ (H : Heap) (locs : List Loc) (ls : Array Slot) (v98_3 : Int32) (v98_4 : Int32), IV v98_3 0 1 → IV v98_4 0 122 → (v98_3.toInt ≠ 0 → q 29 = 5) → (v98_4.toInt ≠ 0 → q 29 = 3 ∧ 97 ≤ v98_4.toInt) → (q 29 = 3 ∧ q 31 = 7237492) → th_H D cT T (km q) H → va_S (th_A T [0, 8, 28, 29, 30, 31]) s.heap H locs → lv_has ls 7 [(0, .ref a0), (2, .int 1), (3, .int v98_3), (4, .int v98_4)] → W p l e (rmk 2 44) s m [.ref a0].toArray below meth c H locs 0 0 (MQ below (th_QM D cT T (fun v q2 => ∃ r : Int32, v = some (.int r) ∧ IV r 0 1 ∧ qkm q2 ∧ fr [20, 21, 22, 23, 24, 27, 28, 29, 30, 31, 1000] q q2 ∧ (TS q2) ∧ (q 27 ≤ q2 27) ∧ (DM q q2) ∧ (kp q q2 (q 35)) ∧ (RU q2 r.toInt) ∧ (GD q q2)) [0, 8, 28, 29, 30, 31]) [.ref a0].toArray s 0 0 (th_A T [0, 8, 28, 29, 30, 31])) (F0 m 98 ls [.int 1]) := by
    have hx := S.1
    have hb := S.2.1
    have b13 := qkm_13 hq; have b10 := qkm_10 hq; have b20 := qkm_20 hq; have b22 := qkm_22 hq; have b23 := qkm_23 hq; have b24 := qkm_24 hq; have b26 := qkm_26 hq; have b27 := qkm_27 hq; have le0 := TS_le hp0
    obtain ⟨hlo1, hlo2, hlo3⟩ := RS_lo hp4; have hpil := RS_piled hp4 (by decide)
    have J126_l2_1 := J126_l2_1_X11_unit l D cT T q hT hq a0 t0 hp0 hp1 hp2 hp3 hp4 hp5 p e s m below meth c S hK hr hlocks
    intro H locs ls v98_3 v98_4 iv98_3 iv98_4 v98_inv0 v98_inv1 v98_inv2 hH hS hl
    have l1v98_3 := iv98_3.1; have l2v98_3 := iv98_3.2
    have l1v98_4 := iv98_4.1; have l2v98_4 := iv98_4.2
    refine lv_istore (lv' := [(5, .int 1), (0, .ref a0), (2, .int 1), (3, .int v98_3), (4, .int v98_4)]) hx hb dX11_unit_98 hl (by decide) rfl (fun ls hl => ?_)
    refine lv_iload_n hx hb dX11_unit_100 rfl (lv_at hl 2 rfl) ?_
    refine lv_if_ne (tgt := 126) hx hb dX11_unit_101 (by decide) (fun c206 => ?_) (fun c206 => ?_)
    · skip
      have rlc206 : (1 : Int) ≠ (0 : Int) := iv_ne c206
      clear rlc206
      exact J126_l2_1 H locs ls v98_3 v98_4 iv98_3 iv98_4 (show v98_3.toInt ≠ 0 → q 29 = 5 by first | assumption | omega) (show v98_4.toInt ≠ 0 → q 29 = 3 ∧ 97 ≤ v98_4.toInt by first | assumption | omega) (show q 29 = 3 ∧ q 31 = 7237492 by omega) hH hS (lv_sub hl [1, 2, 3, 4] rfl)
    · skip
      have rlc206 : (1 : Int) = (0 : Int) := congrArg Int32.toInt c206
      exfalso
      have z1 := congrArg Int32.toInt c206
      have z2 := ((iv_c (by decide) : IV 1 1 1)).1
      have z3 := ((iv_c (by decide) : IV 1 1 1)).2
      have z4 := ((iv_c (by decide) : IV 0 0 0)).1
      have z5 := ((iv_c (by decide) : IV 0 0 0)).2
      omega


set_option maxHeartbeats 20000000 in
set_option maxRecDepth 100000 in
theorem J56_s0_0_X11_unit (l : Launch) (D : va_G) (cT : Nat → ClassId) (T : Nat → Option Nat) (q : Nat → Int) (hT : tokm T) (hq : qkm q) (a0 : Nat) (t0 : T a0 = some 0) (hp0 : TS q) (hp1 : q 13 = 1 - q 10) (hp2 : q 30 = 0) (hp3 : 0 ≤ q 35) (hp4 : RS q 1) (hp5 : 1 ≤ q 21) (p : Program) (e : Env) (s : State) (m : MethodId) (below : List Frame) (meth : Method) (c : Code) (S : CallFix p m c cX11_unit 7 s [.ref a0].toArray gw yX11_unit.cls) (hK : va_K D classes (th_tys cT) s) (hr : meth.sig.returnType = (some .boolean)) (hlocks : meth.locks = false) : ∀ (H : Heap) (locs : List Loc) (ls : Array Slot), th_H D cT T (km q) H → va_S (th_A T [0, 8, 28, 29, 30, 31]) s.heap H locs → lv_has ls 7 [(0, .ref a0)] → W p l e (rmk 2 44) s m [.ref a0].toArray below meth c H locs 0 0 (MQ below (th_QM D cT T (fun v q2 => ∃ r : Int32, v = some (.int r) ∧ IV r 0 1 ∧ qkm q2 ∧ fr [20, 21, 22, 23, 24, 27, 28, 29, 30, 31, 1000] q q2 ∧ (TS q2) ∧ (q 27 ≤ q2 27) ∧ (DM q q2) ∧ (kp q q2 (q 35)) ∧ (RU q2 r.toInt) ∧ (GD q q2)) [0, 8, 28, 29, 30, 31]) [.ref a0].toArray s 0 0 (th_A T [0, 8, 28, 29, 30, 31])) (F0 m 56 ls [.int 0]) := by
    have hx := S.1
    have hb := S.2.1
    have b13 := qkm_13 hq; have b10 := qkm_10 hq; have b20 := qkm_20 hq; have b22 := qkm_22 hq; have b23 := qkm_23 hq; have b24 := qkm_24 hq; have b26 := qkm_26 hq; have b27 := qkm_27 hq; have le0 := TS_le hp0
    obtain ⟨hlo1, hlo2, hlo3⟩ := RS_lo hp4; have hpil := RS_piled hp4 (by decide)
    have J98_s0_0_l2_0 := J98_s0_0_l2_0_X11_unit l D cT T q hT hq a0 t0 hp0 hp1 hp2 hp3 hp4 hp5 p e s m below meth c S hK hr hlocks
    have J98_s0_1_l2_0 := J98_s0_1_l2_0_X11_unit l D cT T q hT hq a0 t0 hp0 hp1 hp2 hp3 hp4 hp5 p e s m below meth c S hK hr hlocks
    intro H locs ls hH hS hl
    refine lv_istore_n (lv' := [(2, .int 0), (0, .ref a0)]) hx hb dX11_unit_56 rfl hl (by decide) rfl (fun ls hl => ?_)
    refine lv_aload_n hx hb dX11_unit_57 rfl (lv_at hl 1 rfl) ?_
    refine lv_bipush (v := 40) hx hb dX11_unit_58 (by decide) ?_
    refine th_callVp (n := 1) (As := [.int 40]) S hK hH hS (th_A.sub (by decide)) (m_X11_isSignHere l D cT T q hT hq a0 t0 (40) (iv_top _)) gm_1563 gm_1560 gm_1562 gm_68 gm_124 (by decide +kernel) ⟨rfl, rfl, Nat.le_of_ble_eq_true rfl, Nat.le_of_ble_eq_true rfl⟩ t0 km_0 rfl rfl hl.1 rfl (Nat.le_of_ble_eq_true rfl) dX11_unit_60 ⟨Nat.zero_le _, Nat.zero_le _⟩ (fun x207 H locs ix207 ox207 hH hS hF1 => ?_)
    have ox207 : x207.toInt ≠ 0 → q 29 = 5 ∧ sg q (q 27) = (40 : Int) := ox207
    have l1x207 := ix207.1; have l2x207 := ix207.2
    refine lv_istore_n (lv' := [(3, .int x207), (2, .int 0), (0, .ref a0)]) hx hb dX11_unit_63 rfl hl (by decide) rfl (fun ls hl => ?_)
    refine lv_aload_n hx hb dX11_unit_64 rfl (lv_at hl 2 rfl) ?_
    refine th_callVp (n := 0) (As := []) S hK hH hS (th_A.sub (by decide)) (m_X11_wordHere l D cT T q hT hq a0 t0) gm_1567 gm_1564 gm_1566 gm_69 gm_124 (by decide +kernel) ⟨rfl, rfl, Nat.le_of_ble_eq_true rfl, Nat.le_of_ble_eq_true rfl⟩ t0 km_0 rfl rfl hl.1 rfl (Nat.le_of_ble_eq_true rfl) dX11_unit_65 ⟨Nat.zero_le _, Nat.zero_le _⟩ (fun x208 H locs ix208 ox208 hH hS hF1 => ?_)
    have ox208 : x208.toInt ≠ 0 → q 29 = 3 ∧ 97 ≤ x208.toInt := ox208
    have l1x208 := ix208.1; have l2x208 := ix208.2
    refine lv_istore (lv' := [(4, .int x208), (3, .int x207), (2, .int 0), (0, .ref a0)]) hx hb dX11_unit_68 hl (by decide) rfl (fun ls hl => ?_)
    have hb5 : x207.toInt ≠ 0 → q 29 = 5 := fun z => (ox207 z).1
    clear ox207
    refine lv_aload_n hx hb dX11_unit_70 rfl (lv_at hl 3 rfl) ?_
    refine th_get S hK hH inG11 t0 km_0 rfl 16 (by decide) gm_1246 rfl rfl dX11_unit_71 (fun v209 hv209 fv209 => ?_)
    obtain ⟨rf210, rfl, trf210⟩ := th_V.ref hv209
    refine lv_aload_n hx hb dX11_unit_74 rfl (lv_at hl 3 rfl) ?_
    refine th_get S hK hH inG11 t0 km_0 rfl 42 (by decide) gm_1272 rfl rfl dX11_unit_75 (fun v211 hv211 fv211 => ?_)
    obtain ⟨x212, rfl, ix212⟩ := th_V.int hv211
    have kx212 : x212.toInt = q 13 := Int.le_antisymm ix212.2 ix212.1
    have bx212 := qkm_13 hq
    have ix212 : IV x212 0 1 := iv_w ix212 (qkm_13 hq)
    refine th_iald S hK hH trf210 km_8 (th_in (hi := 1) ix212 (by decide)) dX11_unit_78 (fun v213 hv213 => ?_)
    obtain ⟨x214, rfl, ix214⟩ := th_bkB hv213 ix212 (by omega)
    have kx214 : x214.toInt = q 24 := Int.le_antisymm ix214.2 ix214.1
    have bx214 := qkm_24 hq
    have ix214 : IV x214 0 90 := iv_w ix214 (qkm_24 hq)
    refine lv_bipush (v := 90) hx hb dX11_unit_79 (by decide) ?_
    refine lv_icmp_eq (tgt := 93) hx hb dX11_unit_81 (by decide) (fun c215 => ?_) (fun c215 => ?_)
    · skip
      have rlc215 : x214.toInt = (90 : Int) := congrArg Int32.toInt c215
      have ir216 : IV x214 90 90 := ⟨(iv_eL c215 (iv_c (by decide) : IV 90 90 90)).1, ix214.2⟩
      have ir216a := ir216.1; have ir216b := ir216.2
      refine lv_iconst (v := 1) hx hb dX11_unit_93 (by decide) ?_
      refine lv_goto (tgt := 98) hx hb dX11_unit_94 (by decide) ?_
      exact J98_s0_1_l2_0 H locs ls x207 x208 ix207 ix208 (show x207.toInt ≠ 0 → q 29 = 5 by first | assumption | omega) (show x208.toInt ≠ 0 → q 29 = 3 ∧ 97 ≤ x208.toInt by first | assumption | omega) hH hS (lv_sub hl [3, 2, 1, 0] rfl)
    · skip
      have rlc215 : x214.toInt ≠ (90 : Int) := iv_ne c215
      have ir217 : IV x214 0 89 := iv_cutH ix214 (iv_c (by decide) : IV 90 90 90) c215 (by decide)
      have ir217a := ir217.1; have ir217b := ir217.2
      clear rlc215
      refine lv_aload_n hx hb dX11_unit_84 rfl (lv_at hl 3 rfl) ?_
      refine th_get S hK hH inG11 t0 km_0 rfl 46 (by decide) gm_1276 rfl rfl dX11_unit_85 (fun v218 hv218 fv218 => ?_)
      obtain ⟨x219, rfl, ix219⟩ := th_V.int hv218
      have kx219 : x219.toInt = q 23 := Int.le_antisymm ix219.2 ix219.1
      have bx219 := qkm_23 hq
      have ix219 : IV x219 0 30 := iv_w ix219 (qkm_23 hq)
      refine lv_bipush (v := 30) hx hb dX11_unit_88 (by decide) ?_
      refine lv_icmp_ne (tgt := 97) hx hb dX11_unit_90 (by decide) (fun c220 => ?_) (fun c220 => ?_)
      · skip
        have rlc220 : x219.toInt ≠ (30 : Int) := iv_ne c220
        have ir221 : IV x219 0 29 := iv_cutH ix219 (iv_c (by decide) : IV 30 30 30) c220 (by decide)
        have ir221a := ir221.1; have ir221b := ir221.2
        clear rlc220
        refine lv_iconst (v := 0) hx hb dX11_unit_97 (by decide) ?_
        exact J98_s0_0_l2_0 H locs ls x207 x208 ix207 ix208 (show x207.toInt ≠ 0 → q 29 = 5 by first | assumption | omega) (show x208.toInt ≠ 0 → q 29 = 3 ∧ 97 ≤ x208.toInt by first | assumption | omega) (show q 24 ≤ 89 ∧ q 23 ≤ 29 by exact ⟨by omega, by omega⟩) hH hS (lv_sub hl [3, 2, 1, 0] rfl)
      · skip
        have rlc220 : x219.toInt = (30 : Int) := congrArg Int32.toInt c220
        have ir222 : IV x219 30 30 := ⟨(iv_eL c220 (iv_c (by decide) : IV 30 30 30)).1, ix219.2⟩
        have ir222a := ir222.1; have ir222b := ir222.2
        refine lv_iconst (v := 1) hx hb dX11_unit_93 (by decide) ?_
        refine lv_goto (tgt := 98) hx hb dX11_unit_94 (by decide) ?_
        exact J98_s0_1_l2_0 H locs ls x207 x208 ix207 ix208 (show x207.toInt ≠ 0 → q 29 = 5 by first | assumption | omega) (show x208.toInt ≠ 0 → q 29 = 3 ∧ 97 ≤ x208.toInt by first | assumption | omega) hH hS (lv_sub hl [3, 2, 1, 0] rfl)


set_option maxHeartbeats 20000000 in
set_option maxRecDepth 100000 in
theorem J56_s0_1_X11_unit (l : Launch) (D : va_G) (cT : Nat → ClassId) (T : Nat → Option Nat) (q : Nat → Int) (hT : tokm T) (hq : qkm q) (a0 : Nat) (t0 : T a0 = some 0) (hp0 : TS q) (hp1 : q 13 = 1 - q 10) (hp2 : q 30 = 0) (hp3 : 0 ≤ q 35) (hp4 : RS q 1) (hp5 : 1 ≤ q 21) (p : Program) (e : Env) (s : State) (m : MethodId) (below : List Frame) (meth : Method) (c : Code) (S : CallFix p m c cX11_unit 7 s [.ref a0].toArray gw yX11_unit.cls) (hK : va_K D classes (th_tys cT) s) (hr : meth.sig.returnType = (some .boolean)) (hlocks : meth.locks = false) : ∀ (H : Heap) (locs : List Loc) (ls : Array Slot), (q 29 = 3 ∧ q 31 = 7237492) → th_H D cT T (km q) H → va_S (th_A T [0, 8, 28, 29, 30, 31]) s.heap H locs → lv_has ls 7 [(0, .ref a0)] → W p l e (rmk 2 44) s m [.ref a0].toArray below meth c H locs 0 0 (MQ below (th_QM D cT T (fun v q2 => ∃ r : Int32, v = some (.int r) ∧ IV r 0 1 ∧ qkm q2 ∧ fr [20, 21, 22, 23, 24, 27, 28, 29, 30, 31, 1000] q q2 ∧ (TS q2) ∧ (q 27 ≤ q2 27) ∧ (DM q q2) ∧ (kp q q2 (q 35)) ∧ (RU q2 r.toInt) ∧ (GD q q2)) [0, 8, 28, 29, 30, 31]) [.ref a0].toArray s 0 0 (th_A T [0, 8, 28, 29, 30, 31])) (F0 m 56 ls [.int 1]) := by
    have hx := S.1
    have hb := S.2.1
    have b13 := qkm_13 hq; have b10 := qkm_10 hq; have b20 := qkm_20 hq; have b22 := qkm_22 hq; have b23 := qkm_23 hq; have b24 := qkm_24 hq; have b26 := qkm_26 hq; have b27 := qkm_27 hq; have le0 := TS_le hp0
    obtain ⟨hlo1, hlo2, hlo3⟩ := RS_lo hp4; have hpil := RS_piled hp4 (by decide)
    have J98_s0_0_l2_1 := J98_s0_0_l2_1_X11_unit l D cT T q hT hq a0 t0 hp0 hp1 hp2 hp3 hp4 hp5 p e s m below meth c S hK hr hlocks
    have J98_s0_1_l2_1 := J98_s0_1_l2_1_X11_unit l D cT T q hT hq a0 t0 hp0 hp1 hp2 hp3 hp4 hp5 p e s m below meth c S hK hr hlocks
    intro H locs ls v56_inv0 hH hS hl
    refine lv_istore_n (lv' := [(2, .int 1), (0, .ref a0)]) hx hb dX11_unit_56 rfl hl (by decide) rfl (fun ls hl => ?_)
    refine lv_aload_n hx hb dX11_unit_57 rfl (lv_at hl 1 rfl) ?_
    refine lv_bipush (v := 40) hx hb dX11_unit_58 (by decide) ?_
    refine th_callVp (n := 1) (As := [.int 40]) S hK hH hS (th_A.sub (by decide)) (m_X11_isSignHere l D cT T q hT hq a0 t0 (40) (iv_top _)) gm_1563 gm_1560 gm_1562 gm_68 gm_124 (by decide +kernel) ⟨rfl, rfl, Nat.le_of_ble_eq_true rfl, Nat.le_of_ble_eq_true rfl⟩ t0 km_0 rfl rfl hl.1 rfl (Nat.le_of_ble_eq_true rfl) dX11_unit_60 ⟨Nat.zero_le _, Nat.zero_le _⟩ (fun x223 H locs ix223 ox223 hH hS hF1 => ?_)
    have ox223 : x223.toInt ≠ 0 → q 29 = 5 ∧ sg q (q 27) = (40 : Int) := ox223
    have l1x223 := ix223.1; have l2x223 := ix223.2
    refine lv_istore_n (lv' := [(3, .int x223), (2, .int 1), (0, .ref a0)]) hx hb dX11_unit_63 rfl hl (by decide) rfl (fun ls hl => ?_)
    refine lv_aload_n hx hb dX11_unit_64 rfl (lv_at hl 2 rfl) ?_
    refine th_callVp (n := 0) (As := []) S hK hH hS (th_A.sub (by decide)) (m_X11_wordHere l D cT T q hT hq a0 t0) gm_1567 gm_1564 gm_1566 gm_69 gm_124 (by decide +kernel) ⟨rfl, rfl, Nat.le_of_ble_eq_true rfl, Nat.le_of_ble_eq_true rfl⟩ t0 km_0 rfl rfl hl.1 rfl (Nat.le_of_ble_eq_true rfl) dX11_unit_65 ⟨Nat.zero_le _, Nat.zero_le _⟩ (fun x224 H locs ix224 ox224 hH hS hF1 => ?_)
    have ox224 : x224.toInt ≠ 0 → q 29 = 3 ∧ 97 ≤ x224.toInt := ox224
    have l1x224 := ix224.1; have l2x224 := ix224.2
    refine lv_istore (lv' := [(4, .int x224), (3, .int x223), (2, .int 1), (0, .ref a0)]) hx hb dX11_unit_68 hl (by decide) rfl (fun ls hl => ?_)
    have hb5 : x223.toInt ≠ 0 → q 29 = 5 := fun z => (ox223 z).1
    clear ox223
    refine lv_aload_n hx hb dX11_unit_70 rfl (lv_at hl 3 rfl) ?_
    refine th_get S hK hH inG11 t0 km_0 rfl 16 (by decide) gm_1246 rfl rfl dX11_unit_71 (fun v225 hv225 fv225 => ?_)
    obtain ⟨rf226, rfl, trf226⟩ := th_V.ref hv225
    refine lv_aload_n hx hb dX11_unit_74 rfl (lv_at hl 3 rfl) ?_
    refine th_get S hK hH inG11 t0 km_0 rfl 42 (by decide) gm_1272 rfl rfl dX11_unit_75 (fun v227 hv227 fv227 => ?_)
    obtain ⟨x228, rfl, ix228⟩ := th_V.int hv227
    have kx228 : x228.toInt = q 13 := Int.le_antisymm ix228.2 ix228.1
    have bx228 := qkm_13 hq
    have ix228 : IV x228 0 1 := iv_w ix228 (qkm_13 hq)
    refine th_iald S hK hH trf226 km_8 (th_in (hi := 1) ix228 (by decide)) dX11_unit_78 (fun v229 hv229 => ?_)
    obtain ⟨x230, rfl, ix230⟩ := th_bkB hv229 ix228 (by omega)
    have kx230 : x230.toInt = q 24 := Int.le_antisymm ix230.2 ix230.1
    have bx230 := qkm_24 hq
    have ix230 : IV x230 0 90 := iv_w ix230 (qkm_24 hq)
    refine lv_bipush (v := 90) hx hb dX11_unit_79 (by decide) ?_
    refine lv_icmp_eq (tgt := 93) hx hb dX11_unit_81 (by decide) (fun c231 => ?_) (fun c231 => ?_)
    · skip
      have rlc231 : x230.toInt = (90 : Int) := congrArg Int32.toInt c231
      have ir232 : IV x230 90 90 := ⟨(iv_eL c231 (iv_c (by decide) : IV 90 90 90)).1, ix230.2⟩
      have ir232a := ir232.1; have ir232b := ir232.2
      refine lv_iconst (v := 1) hx hb dX11_unit_93 (by decide) ?_
      refine lv_goto (tgt := 98) hx hb dX11_unit_94 (by decide) ?_
      exact J98_s0_1_l2_1 H locs ls x223 x224 ix223 ix224 (show x223.toInt ≠ 0 → q 29 = 5 by first | assumption | omega) (show x224.toInt ≠ 0 → q 29 = 3 ∧ 97 ≤ x224.toInt by first | assumption | omega) (show q 29 = 3 ∧ q 31 = 7237492 by omega) hH hS (lv_sub hl [3, 2, 1, 0] rfl)
    · skip
      have rlc231 : x230.toInt ≠ (90 : Int) := iv_ne c231
      have ir233 : IV x230 0 89 := iv_cutH ix230 (iv_c (by decide) : IV 90 90 90) c231 (by decide)
      have ir233a := ir233.1; have ir233b := ir233.2
      clear rlc231
      refine lv_aload_n hx hb dX11_unit_84 rfl (lv_at hl 3 rfl) ?_
      refine th_get S hK hH inG11 t0 km_0 rfl 46 (by decide) gm_1276 rfl rfl dX11_unit_85 (fun v234 hv234 fv234 => ?_)
      obtain ⟨x235, rfl, ix235⟩ := th_V.int hv234
      have kx235 : x235.toInt = q 23 := Int.le_antisymm ix235.2 ix235.1
      have bx235 := qkm_23 hq
      have ix235 : IV x235 0 30 := iv_w ix235 (qkm_23 hq)
      refine lv_bipush (v := 30) hx hb dX11_unit_88 (by decide) ?_
      refine lv_icmp_ne (tgt := 97) hx hb dX11_unit_90 (by decide) (fun c236 => ?_) (fun c236 => ?_)
      · skip
        have rlc236 : x235.toInt ≠ (30 : Int) := iv_ne c236
        have ir237 : IV x235 0 29 := iv_cutH ix235 (iv_c (by decide) : IV 30 30 30) c236 (by decide)
        have ir237a := ir237.1; have ir237b := ir237.2
        clear rlc236
        refine lv_iconst (v := 0) hx hb dX11_unit_97 (by decide) ?_
        exact J98_s0_0_l2_1 H locs ls x223 x224 ix223 ix224 (show x223.toInt ≠ 0 → q 29 = 5 by first | assumption | omega) (show x224.toInt ≠ 0 → q 29 = 3 ∧ 97 ≤ x224.toInt by first | assumption | omega) (show q 29 = 3 ∧ q 31 = 7237492 by omega) (show q 24 ≤ 89 ∧ q 23 ≤ 29 by exact ⟨by omega, by omega⟩) hH hS (lv_sub hl [3, 2, 1, 0] rfl)
      · skip
        have rlc236 : x235.toInt = (30 : Int) := congrArg Int32.toInt c236
        have ir238 : IV x235 30 30 := ⟨(iv_eL c236 (iv_c (by decide) : IV 30 30 30)).1, ix235.2⟩
        have ir238a := ir238.1; have ir238b := ir238.2
        refine lv_iconst (v := 1) hx hb dX11_unit_93 (by decide) ?_
        refine lv_goto (tgt := 98) hx hb dX11_unit_94 (by decide) ?_
        exact J98_s0_1_l2_1 H locs ls x223 x224 ix223 ix224 (show x223.toInt ≠ 0 → q 29 = 5 by first | assumption | omega) (show x224.toInt ≠ 0 → q 29 = 3 ∧ 97 ≤ x224.toInt by first | assumption | omega) (show q 29 = 3 ∧ q 31 = 7237492 by omega) hH hS (lv_sub hl [3, 2, 1, 0] rfl)


set_option maxHeartbeats 20000000 in
set_option maxRecDepth 100000 in
theorem J36_s0_0_X11_unit (l : Launch) (D : va_G) (cT : Nat → ClassId) (T : Nat → Option Nat) (q : Nat → Int) (hT : tokm T) (hq : qkm q) (a0 : Nat) (t0 : T a0 = some 0) (hp0 : TS q) (hp1 : q 13 = 1 - q 10) (hp2 : q 30 = 0) (hp3 : 0 ≤ q 35) (hp4 : RS q 1) (hp5 : 1 ≤ q 21) (p : Program) (e : Env) (s : State) (m : MethodId) (below : List Frame) (meth : Method) (c : Code) (S : CallFix p m c cX11_unit 7 s [.ref a0].toArray gw yX11_unit.cls) (hK : va_K D classes (th_tys cT) s) (hr : meth.sig.returnType = (some .boolean)) (hlocks : meth.locks = false) : ∀ (H : Heap) (locs : List Loc) (ls : Array Slot), th_H D cT T (km q) H → va_S (th_A T [0, 8, 28, 29, 30, 31]) s.heap H locs → lv_has ls 7 [(0, .ref a0)] → W p l e (rmk 2 44) s m [.ref a0].toArray below meth c H locs 0 0 (MQ below (th_QM D cT T (fun v q2 => ∃ r : Int32, v = some (.int r) ∧ IV r 0 1 ∧ qkm q2 ∧ fr [20, 21, 22, 23, 24, 27, 28, 29, 30, 31, 1000] q q2 ∧ (TS q2) ∧ (q 27 ≤ q2 27) ∧ (DM q q2) ∧ (kp q q2 (q 35)) ∧ (RU q2 r.toInt) ∧ (GD q q2)) [0, 8, 28, 29, 30, 31]) [.ref a0].toArray s 0 0 (th_A T [0, 8, 28, 29, 30, 31])) (F0 m 36 ls [.int 0]) := by
    have hx := S.1
    have hb := S.2.1
    have b13 := qkm_13 hq; have b10 := qkm_10 hq; have b20 := qkm_20 hq; have b22 := qkm_22 hq; have b23 := qkm_23 hq; have b24 := qkm_24 hq; have b26 := qkm_26 hq; have b27 := qkm_27 hq; have le0 := TS_le hp0
    obtain ⟨hlo1, hlo2, hlo3⟩ := RS_lo hp4; have hpil := RS_piled hp4 (by decide)
    have J56_s0_0 := J56_s0_0_X11_unit l D cT T q hT hq a0 t0 hp0 hp1 hp2 hp3 hp4 hp5 p e s m below meth c S hK hr hlocks
    intro H locs ls hH hS hl
    refine lv_istore_n (lv' := [(1, .int 0), (0, .ref a0)]) hx hb dX11_unit_36 rfl hl (by decide) rfl (fun ls hl => ?_)
    refine lv_iload_n hx hb dX11_unit_37 rfl (lv_at hl 0 rfl) ?_
    refine lv_if_eq (tgt := 55) hx hb dX11_unit_38 (by decide) (fun c239 => ?_) (fun c239 => ?_)
    · skip
      have rlc239 : (0 : Int) = (0 : Int) := congrArg Int32.toInt c239
      refine lv_iconst (v := 0) hx hb dX11_unit_55 (by decide) ?_
      exact J56_s0_0 H locs ls  hH hS (lv_sub hl [1] rfl)
    · skip
      have rlc239 : (0 : Int) ≠ (0 : Int) := iv_ne c239
      exact absurd (iv_eqc (iv_c (by decide) : IV 0 0 0) (iv_c (by decide) : IV 0 0 0)) c239


set_option maxHeartbeats 20000000 in
set_option maxRecDepth 100000 in
theorem J36_s0_1_X11_unit (l : Launch) (D : va_G) (cT : Nat → ClassId) (T : Nat → Option Nat) (q : Nat → Int) (hT : tokm T) (hq : qkm q) (a0 : Nat) (t0 : T a0 = some 0) (hp0 : TS q) (hp1 : q 13 = 1 - q 10) (hp2 : q 30 = 0) (hp3 : 0 ≤ q 35) (hp4 : RS q 1) (hp5 : 1 ≤ q 21) (p : Program) (e : Env) (s : State) (m : MethodId) (below : List Frame) (meth : Method) (c : Code) (S : CallFix p m c cX11_unit 7 s [.ref a0].toArray gw yX11_unit.cls) (hK : va_K D classes (th_tys cT) s) (hr : meth.sig.returnType = (some .boolean)) (hlocks : meth.locks = false) : ∀ (H : Heap) (locs : List Loc) (ls : Array Slot), th_H D cT T (km q) H → va_S (th_A T [0, 8, 28, 29, 30, 31]) s.heap H locs → lv_has ls 7 [(0, .ref a0)] → W p l e (rmk 2 44) s m [.ref a0].toArray below meth c H locs 0 0 (MQ below (th_QM D cT T (fun v q2 => ∃ r : Int32, v = some (.int r) ∧ IV r 0 1 ∧ qkm q2 ∧ fr [20, 21, 22, 23, 24, 27, 28, 29, 30, 31, 1000] q q2 ∧ (TS q2) ∧ (q 27 ≤ q2 27) ∧ (DM q q2) ∧ (kp q q2 (q 35)) ∧ (RU q2 r.toInt) ∧ (GD q q2)) [0, 8, 28, 29, 30, 31]) [.ref a0].toArray s 0 0 (th_A T [0, 8, 28, 29, 30, 31])) (F0 m 36 ls [.int 1]) := by
    have hx := S.1
    have hb := S.2.1
    have b13 := qkm_13 hq; have b10 := qkm_10 hq; have b20 := qkm_20 hq; have b22 := qkm_22 hq; have b23 := qkm_23 hq; have b24 := qkm_24 hq; have b26 := qkm_26 hq; have b27 := qkm_27 hq; have le0 := TS_le hp0
    obtain ⟨hlo1, hlo2, hlo3⟩ := RS_lo hp4; have hpil := RS_piled hp4 (by decide)
    have J56_s0_0 := J56_s0_0_X11_unit l D cT T q hT hq a0 t0 hp0 hp1 hp2 hp3 hp4 hp5 p e s m below meth c S hK hr hlocks
    have J56_s0_1 := J56_s0_1_X11_unit l D cT T q hT hq a0 t0 hp0 hp1 hp2 hp3 hp4 hp5 p e s m below meth c S hK hr hlocks
    intro H locs ls hH hS hl
    refine lv_istore_n (lv' := [(1, .int 1), (0, .ref a0)]) hx hb dX11_unit_36 rfl hl (by decide) rfl (fun ls hl => ?_)
    refine lv_iload_n hx hb dX11_unit_37 rfl (lv_at hl 0 rfl) ?_
    refine lv_if_eq (tgt := 55) hx hb dX11_unit_38 (by decide) (fun c240 => ?_) (fun c240 => ?_)
    · skip
      have rlc240 : (1 : Int) = (0 : Int) := congrArg Int32.toInt c240
      exfalso
      have z1 := congrArg Int32.toInt c240
      have z2 := ((iv_c (by decide) : IV 1 1 1)).1
      have z3 := ((iv_c (by decide) : IV 1 1 1)).2
      have z4 := ((iv_c (by decide) : IV 0 0 0)).1
      have z5 := ((iv_c (by decide) : IV 0 0 0)).2
      omega
    · skip
      have rlc240 : (1 : Int) ≠ (0 : Int) := iv_ne c240
      clear rlc240
      refine lv_aload_n hx hb dX11_unit_41 rfl (lv_at hl 1 rfl) ?_
      refine lv_ldc2 (v := 7237492) hx hb S.2.2.2.1 (S.2.2.2.2 _ gm_1477) dX11_unit_42 ?_
      refine th_callVp (n := 1) (As := [.long 7237492]) S hK hH hS (th_A.sub (by decide)) (m_X11_isWord l D cT T q hT hq a0 t0 (7237492)) gm_1499 gm_1496 gm_1498 gm_52 gm_124 (by decide +kernel) ⟨rfl, rfl, Nat.le_of_ble_eq_true rfl, Nat.le_of_ble_eq_true rfl⟩ t0 km_0 rfl rfl hl.1 rfl (Nat.le_of_ble_eq_true rfl) dX11_unit_45 ⟨Nat.zero_le _, Nat.zero_le _⟩ (fun x241 H locs ix241 ox241 hH hS hF1 => ?_)
      obtain ⟨ox241_0, ox241_1⟩ := ox241
      have ox241_0 : x241.toInt ≠ 0 → q 29 = 3 ∧ q 31 = (7237492 : Int) := ox241_0
      have ox241_1 : x241.toInt = 0 → q 29 ≠ 3 ∨ q 31 ≠ (7237492 : Int) := ox241_1
      have l1x241 := ix241.1; have l2x241 := ix241.2
      refine lv_if_eq (tgt := 55) hx hb dX11_unit_48 (by decide) (fun c242 => ?_) (fun c242 => ?_)
      · skip
        have rlc242 : x241.toInt = (0 : Int) := congrArg Int32.toInt c242
        clear ox241_0
        clear ox241_1
        have ir243 : IV x241 0 0 := iv_eL c242 (iv_c (by decide) : IV 0 0 0)
        have ir243a := ir243.1; have ir243b := ir243.2
        refine lv_iconst (v := 0) hx hb dX11_unit_55 (by decide) ?_
        exact J56_s0_0 H locs ls  hH hS (lv_sub hl [1] rfl)
      · skip
        have rlc242 : x241.toInt ≠ (0 : Int) := iv_ne c242
        have ox241_0r := ox241_0 rlc242
        clear ox241_0
        clear ox241_1
        have ir244 : IV x241 1 1 := iv_cutL ix241 (iv_c (by decide) : IV 0 0 0) c242 (by decide)
        have ir244a := ir244.1; have ir244b := ir244.2
        clear rlc242
        refine lv_iconst (v := 1) hx hb dX11_unit_51 (by decide) ?_
        refine lv_goto (tgt := 56) hx hb dX11_unit_52 (by decide) ?_
        exact J56_s0_1 H locs ls (show q 29 = 3 ∧ q 31 = 7237492 by omega) hH hS (lv_sub hl [1] rfl)
