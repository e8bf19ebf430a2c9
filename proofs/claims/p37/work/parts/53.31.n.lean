
set_option maxHeartbeats 20000000 in
set_option maxRecDepth 100000 in
theorem J84_X11_readLine (l : Launch) (D : va_G) (cT : Nat → ClassId) (T : Nat → Option Nat) (q : Nat → Int) (hT : tokm T) (hq : qkm q) (a0 : Nat) (t0 : T a0 = some 0) (hp0 : TS q) (hp1 : q 13 = 1 - q 10) (hp2 : q 30 = 0) (hp3 : MB1 q (q 14) (q 15)) (p : Program) (e : Env) (s : State) (m : MethodId) (below : List Frame) (meth : Method) (c : Code) (S : CallFix p m c cX11_readLine 3 s [.ref a0].toArray gw yX11_readLine.cls) (hK : va_K D classes (th_tys cT) s) (hr : meth.sig.returnType = none) (hlocks : meth.locks = false) : ∀ (q84 : Nat → Int) (H : Heap) (locs : List Loc) (ls : Array Slot) (v84_1 : Int64), qkm q84 → fr [14, 15, 17, 19, 20, 21, 22, 23, 24, 27, 28, 29, 30, 31, 1000, 35] q q84 → (TS q84) → (GD q q84) → (MB q84 (q84 14) (q84 15)) → (q 27 < q84 27 ∧ q84 14 ≤ 4) → (v84_1.toInt = 499851162725 → q84 30 = 0) → th_H D cT T (km q84) H → va_S (th_A T [0, 3, 4, 5, 6, 7, 8, 9, 10, 11, 12, 13, 14, 15, 16, 17, 18, 19, 20, 21, 22, 23, 24, 25, 26, 27, 28, 29, 30, 31]) s.heap H locs → lv_has ls 3 [(0, .ref a0), (1, .long v84_1)] → W p l e (rmk 7 151) s m [.ref a0].toArray below meth c H locs 0 0 (MQ below (th_QM D cT T (fun v q2 => v = none ∧ qkm q2 ∧ fr [14, 15, 17, 19, 20, 21, 22, 23, 24, 27, 28, 29, 30, 31, 1000, 35] q q2 ∧ (TS q2) ∧ (q 27 ≤ q2 27) ∧ (MB q2 (q2 14) (q2 15)) ∧ (LM q q2) ∧ (GD q q2)) [0, 3, 4, 5, 6, 7, 8, 9, 10, 11, 12, 13, 14, 15, 16, 17, 18, 19, 20, 21, 22, 23, 24, 25, 26, 27, 28, 29, 30, 31]) [.ref a0].toArray s 0 0 (th_A T [0, 3, 4, 5, 6, 7, 8, 9, 10, 11, 12, 13, 14, 15, 16, 17, 18, 19, 20, 21, 22, 23, 24, 25, 26, 27, 28, 29, 30, 31])) (F0 m 84 ls []) := by
    have hx := S.1
    have hb := S.2.1
    have c10 := qkm_10 hq; have c13 := qkm_13 hq; have c14 := qkm_14 hq; have c15 := qkm_15 hq; have c20 := qkm_20 hq; have c27 := qkm_27 hq
    have mb0 : MB q (q 14) (q 15) := fun _ => hp3
    have J96 := J96_X11_readLine l D cT T q hT hq a0 t0 hp0 hp1 hp2 hp3 p e s m below meth c S hK hr hlocks
    intro q84 H locs ls v84_1 hq84 h084 v84_inv0 v84_inv1 v84_inv2 v84_inv3 v84_inv4 hH hS hl
    have w84_10 : q84 10 = q 10 := h084 10 (by decide) (Or.inl (by decide))
    have w84_13 : q84 13 = q 13 := h084 13 (by decide) (Or.inl (by decide))
    have w84_26 : q84 26 = q 26 := h084 26 (by decide) (Or.inl (by decide))
    have d13 := qkm_13 hq84; have d14 := qkm_14 hq84; have d15 := qkm_15 hq84
    refine lv_lload_n hx hb dX11_readLine_84 rfl (lv_at hl 1 rfl) ?_
    refine lv_ldc2 (v := 108230800074098) hx hb S.2.2.2.1 (S.2.2.2.2 _ gm_1467) dX11_readLine_85 ?_
    refine W.lcmp hx hb dX11_readLine_88 ?_
    refine lv_topi (fun x33 ex33 => ?_)
    have ix33 := iv_top x33
    have ax33 : x33.toInt = 0 → v84_1.toInt = (108230800074098 : Int) := lc_eq ex33
    have bx33 : x33.toInt ≠ 0 → v84_1.toInt ≠ (108230800074098 : Int) := lc_ne ex33
    refine lv_if_ne (tgt := 96) hx hb dX11_readLine_89 (by decide) (fun c34 => ?_) (fun c34 => ?_)
    · skip
      have rlc34 : x33.toInt ≠ (0 : Int) := iv_ne c34
      clear ax33
      have bx33r := bx33 rlc34
      clear bx33
      clear rlc34
      exact J96 q84 H locs ls v84_1 hq84 h084 (show TS q84 by exact v84_inv0) (show GD q q84 by exact v84_inv1) (show MB q84 (q84 14) (q84 15) by exact v84_inv2) (show q 27 < q84 27 ∧ q84 14 ≤ 4 by exact ⟨by omega, by omega⟩) (show v84_1.toInt = 499851162725 → q84 30 = 0 by exact fun z => by omega) hH hS (lv_sub hl [0, 1] rfl)
    · skip
      have rlc34 : x33.toInt = (0 : Int) := congrArg Int32.toInt c34
      have ax33r := ax33 rlc34
      clear ax33
      clear bx33
      have ir35 : IV x33 0 0 := iv_eL c34 (iv_c (by decide) : IV 0 0 0)
      have ir35a := ir35.1; have ir35b := ir35.2
      refine lv_aload_n hx hb dX11_readLine_92 rfl (lv_at hl 0 rfl) ?_
      refine th_callVM (n := 0) (As := []) S hK hH hS (th_A.sub (by decide)) (m_X11_readBorder l D cT T q84 hT hq84 a0 t0 (show TS q84 by exact v84_inv0) (show q84 13 = 1 - q84 10 by omega)) gm_1603 gm_1600 gm_1602 gm_78 gm_124 (by decide +kernel) ⟨rfl, rfl, Nat.le_of_ble_eq_true rfl, Nat.le_of_ble_eq_true rfl⟩ t0 km_0 rfl rfl hl.1 rfl (Nat.le_of_ble_eq_true rfl) dX11_readLine_93 ⟨Nat.zero_le _, Nat.zero_le _⟩ (fun wq36 q36 H locs hEq36 hH hS hF1 => ?_)
      obtain ⟨rfl, hqq36, g0q36, pq36_0, pq36_1, pq36_2⟩ := hEq36
      show W p l e (rmk 7 151) s m [.ref a0].toArray below meth c H locs 0 0 (MQ below (th_QM D cT T (fun v q2 => v = none ∧ qkm q2 ∧ fr [14, 15, 17, 19, 20, 21, 22, 23, 24, 27, 28, 29, 30, 31, 1000, 35] q q2 ∧ (TS q2) ∧ (q 27 ≤ q2 27) ∧ (MB q2 (q2 14) (q2 15)) ∧ (LM q q2) ∧ (GD q q2)) [0, 3, 4, 5, 6, 7, 8, 9, 10, 11, 12, 13, 14, 15, 16, 17, 18, 19, 20, 21, 22, 23, 24, 25, 26, 27, 28, 29, 30, 31]) [.ref a0].toArray s 0 0 (th_A T [0, 3, 4, 5, 6, 7, 8, 9, 10, 11, 12, 13, 14, 15, 16, 17, 18, 19, 20, 21, 22, 23, 24, 25, 26, 27, 28, 29, 30, 31])) (F0 m 96 ls [])
      have pq36_0 : TS q36 := pq36_0
      have pq36_1 : q84 27 ≤ q36 27 := pq36_1
      have pq36_2 : GD q84 q36 := pq36_2
      have wq36_10 : q36 10 = q84 10 := g0q36 10 (by decide) (Or.inl (by decide))
      have wq36_13 : q36 13 = q84 13 := g0q36 13 (by decide) (Or.inl (by decide))
      have wq36_14 : q36 14 = q84 14 := g0q36 14 (by decide) (Or.inl (by decide))
      have wq36_15 : q36 15 = q84 15 := g0q36 15 (by decide) (Or.inl (by decide))
      have wq36_17 : q36 17 = q84 17 := g0q36 17 (by decide) (Or.inl (by decide))
      have wq36_19 : q36 19 = q84 19 := g0q36 19 (by decide) (Or.inl (by decide))
      have wq36_20 : q36 20 = q84 20 := g0q36 20 (by decide) (Or.inl (by decide))
      have wq36_21 : q36 21 = q84 21 := g0q36 21 (by decide) (Or.inl (by decide))
      have wq36_22 : q36 22 = q84 22 := g0q36 22 (by decide) (Or.inl (by decide))
      have wq36_23 : q36 23 = q84 23 := g0q36 23 (by decide) (Or.inl (by decide))
      have wq36_24 : q36 24 = q84 24 := g0q36 24 (by decide) (Or.inl (by decide))
      have wq36_26 : q36 26 = q84 26 := g0q36 26 (by decide) (Or.inl (by decide))
      have wq36_35 : q36 35 = q84 35 := g0q36 35 (by decide) (Or.inl (by decide))
      have h0q36 : fr [14, 15, 17, 19, 20, 21, 22, 23, 24, 27, 28, 29, 30, 31, 1000, 35] q q36 := fr_tr h084 g0q36 (by decide)
      have bgq36 : bg q84 q36 := bg_fr bg_rf g0q36 (by decide)
      have gdq36 : GD q q36 := GD_tr v84_inv1 pq36_2
      have gbq36 : GD q84 q36 := GD_tr (GD_eq rfl) pq36_2
      have f14 := qkm_14 hqq36
      exact J96 q36 H locs ls v84_1 hqq36 h0q36 (show TS q36 by exact pq36_0) (show GD q q36 by exact gdq36) (show MB q36 (q36 14) (q36 15) by exact (MB_mv v84_inv2 bgq36 gbq36 (by omega) (by omega) (by omega) (by omega) (by omega) (by omega) (by omega))) (show q 27 < q36 27 ∧ q36 14 ≤ 4 by exact ⟨by omega, by omega⟩) (show v84_1.toInt = 499851162725 → q36 30 = 0 by exact fun z => by omega) hH hS (lv_sub hl [0, 1] rfl)


set_option maxHeartbeats 20000000 in
set_option maxRecDepth 100000 in
theorem J72_X11_readLine (l : Launch) (D : va_G) (cT : Nat → ClassId) (T : Nat → Option Nat) (q : Nat → Int) (hT : tokm T) (hq : qkm q) (a0 : Nat) (t0 : T a0 = some 0) (hp0 : TS q) (hp1 : q 13 = 1 - q 10) (hp2 : q 30 = 0) (hp3 : MB1 q (q 14) (q 15)) (p : Program) (e : Env) (s : State) (m : MethodId) (below : List Frame) (meth : Method) (c : Code) (S : CallFix p m c cX11_readLine 3 s [.ref a0].toArray gw yX11_readLine.cls) (hK : va_K D classes (th_tys cT) s) (hr : meth.sig.returnType = none) (hlocks : meth.locks = false) : ∀ (q72 : Nat → Int) (H : Heap) (locs : List Loc) (ls : Array Slot) (v72_1 : Int64), qkm q72 → fr [14, 15, 17, 19, 20, 21, 22, 23, 24, 27, 28, 29, 30, 31, 1000, 35] q q72 → (TS q72) → (GD q q72) → (MB q72 (q72 14) (q72 15)) → (q 27 < q72 27 ∧ q72 14 ≤ 4) → (v72_1.toInt = 499851162725 → q72 30 = 0) → th_H D cT T (km q72) H → va_S (th_A T [0, 3, 4, 5, 6, 7, 8, 9, 10, 11, 12, 13, 14, 15, 16, 17, 18, 19, 20, 21, 22, 23, 24, 25, 26, 27, 28, 29, 30, 31]) s.heap H locs → lv_has ls 3 [(0, .ref a0), (1, .long v72_1)] → W p l e (rmk 7 151) s m [.ref a0].toArray below meth c H locs 0 0 (MQ below (th_QM D cT T (fun v q2 => v = none ∧ qkm q2 ∧ fr [14, 15, 17, 19, 20, 21, 22, 23, 24, 27, 28, 29, 30, 31, 1000, 35] q q2 ∧ (TS q2) ∧ (q 27 ≤ q2 27) ∧ (MB q2 (q2 14) (q2 15)) ∧ (LM q q2) ∧ (GD q q2)) [0, 3, 4, 5, 6, 7, 8, 9, 10, 11, 12, 13, 14, 15, 16, 17, 18, 19, 20, 21, 22, 23, 24, 25, 26, 27, 28, 29, 30, 31]) [.ref a0].toArray s 0 0 (th_A T [0, 3, 4, 5, 6, 7, 8, 9, 10, 11, 12, 13, 14, 15, 16, 17, 18, 19, 20, 21, 22, 23, 24, 25, 26, 27, 28, 29, 30, 31])) (F0 m 72 ls []) := by
    have hx := S.1
    have hb := S.2.1
    have c10 := qkm_10 hq; have c13 := qkm_13 hq; have c14 := qkm_14 hq; have c15 := qkm_15 hq; have c20 := qkm_20 hq; have c27 := qkm_27 hq
    have mb0 : MB q (q 14) (q 15) := fun _ => hp3
    have J84 := J84_X11_readLine l D cT T q hT hq a0 t0 hp0 hp1 hp2 hp3 p e s m below meth c S hK hr hlocks
    intro q72 H locs ls v72_1 hq72 h072 v72_inv0 v72_inv1 v72_inv2 v72_inv3 v72_inv4 hH hS hl
    have w72_10 : q72 10 = q 10 := h072 10 (by decide) (Or.inl (by decide))
    have w72_13 : q72 13 = q 13 := h072 13 (by decide) (Or.inl (by decide))
    have w72_26 : q72 26 = q 26 := h072 26 (by decide) (Or.inl (by decide))
    have d13 := qkm_13 hq72; have d14 := qkm_14 hq72; have d15 := qkm_15 hq72
    refine lv_lload_n hx hb dX11_readLine_72 rfl (lv_at hl 1 rfl) ?_
    refine lv_ldc2 (v := 465625113971) hx hb S.2.2.2.1 (S.2.2.2.2 _ gm_1466) dX11_readLine_73 ?_
    refine W.lcmp hx hb dX11_readLine_76 ?_
    refine lv_topi (fun x37 ex37 => ?_)
    have ix37 := iv_top x37
    have ax37 : x37.toInt = 0 → v72_1.toInt = (465625113971 : Int) := lc_eq ex37
    have bx37 : x37.toInt ≠ 0 → v72_1.toInt ≠ (465625113971 : Int) := lc_ne ex37
    refine lv_if_ne (tgt := 84) hx hb dX11_readLine_77 (by decide) (fun c38 => ?_) (fun c38 => ?_)
    · skip
      have rlc38 : x37.toInt ≠ (0 : Int) := iv_ne c38
      clear ax37
      have bx37r := bx37 rlc38
      clear bx37
      clear rlc38
      exact J84 q72 H locs ls v72_1 hq72 h072 (show TS q72 by exact v72_inv0) (show GD q q72 by exact v72_inv1) (show MB q72 (q72 14) (q72 15) by exact v72_inv2) (show q 27 < q72 27 ∧ q72 14 ≤ 4 by exact ⟨by omega, by omega⟩) (show v72_1.toInt = 499851162725 → q72 30 = 0 by exact fun z => by omega) hH hS (lv_sub hl [0, 1] rfl)
    · skip
      have rlc38 : x37.toInt = (0 : Int) := congrArg Int32.toInt c38
      have ax37r := ax37 rlc38
      clear ax37
      clear bx37
      have ir39 : IV x37 0 0 := iv_eL c38 (iv_c (by decide) : IV 0 0 0)
      have ir39a := ir39.1; have ir39b := ir39.2
      refine lv_aload_n hx hb dX11_readLine_80 rfl (lv_at hl 0 rfl) ?_
      refine th_callVM (n := 0) (As := []) S hK hH hS (th_A.sub (by decide)) (m_X11_readLikes l D cT T q72 hT hq72 a0 t0 (show TS q72 by exact v72_inv0) (show q72 13 = 1 - q72 10 by omega)) gm_1599 gm_1596 gm_1598 gm_77 gm_124 (by decide +kernel) ⟨rfl, rfl, Nat.le_of_ble_eq_true rfl, Nat.le_of_ble_eq_true rfl⟩ t0 km_0 rfl rfl hl.1 rfl (Nat.le_of_ble_eq_true rfl) dX11_readLine_81 ⟨Nat.zero_le _, Nat.zero_le _⟩ (fun wq40 q40 H locs hEq40 hH hS hF1 => ?_)
      obtain ⟨rfl, hqq40, g0q40, pq40_0, pq40_1, pq40_2⟩ := hEq40
      show W p l e (rmk 7 151) s m [.ref a0].toArray below meth c H locs 0 0 (MQ below (th_QM D cT T (fun v q2 => v = none ∧ qkm q2 ∧ fr [14, 15, 17, 19, 20, 21, 22, 23, 24, 27, 28, 29, 30, 31, 1000, 35] q q2 ∧ (TS q2) ∧ (q 27 ≤ q2 27) ∧ (MB q2 (q2 14) (q2 15)) ∧ (LM q q2) ∧ (GD q q2)) [0, 3, 4, 5, 6, 7, 8, 9, 10, 11, 12, 13, 14, 15, 16, 17, 18, 19, 20, 21, 22, 23, 24, 25, 26, 27, 28, 29, 30, 31]) [.ref a0].toArray s 0 0 (th_A T [0, 3, 4, 5, 6, 7, 8, 9, 10, 11, 12, 13, 14, 15, 16, 17, 18, 19, 20, 21, 22, 23, 24, 25, 26, 27, 28, 29, 30, 31])) (F0 m 84 ls [])
      have pq40_0 : TS q40 := pq40_0
      have pq40_1 : q72 27 ≤ q40 27 := pq40_1
      have pq40_2 : GD q72 q40 := pq40_2
      have wq40_10 : q40 10 = q72 10 := g0q40 10 (by decide) (Or.inl (by decide))
      have wq40_13 : q40 13 = q72 13 := g0q40 13 (by decide) (Or.inl (by decide))
      have wq40_14 : q40 14 = q72 14 := g0q40 14 (by decide) (Or.inl (by decide))
      have wq40_15 : q40 15 = q72 15 := g0q40 15 (by decide) (Or.inl (by decide))
      have wq40_17 : q40 17 = q72 17 := g0q40 17 (by decide) (Or.inl (by decide))
      have wq40_19 : q40 19 = q72 19 := g0q40 19 (by decide) (Or.inl (by decide))
      have wq40_20 : q40 20 = q72 20 := g0q40 20 (by decide) (Or.inl (by decide))
      have wq40_21 : q40 21 = q72 21 := g0q40 21 (by decide) (Or.inl (by decide))
      have wq40_22 : q40 22 = q72 22 := g0q40 22 (by decide) (Or.inl (by decide))
      have wq40_23 : q40 23 = q72 23 := g0q40 23 (by decide) (Or.inl (by decide))
      have wq40_24 : q40 24 = q72 24 := g0q40 24 (by decide) (Or.inl (by decide))
      have wq40_26 : q40 26 = q72 26 := g0q40 26 (by decide) (Or.inl (by decide))
      have wq40_35 : q40 35 = q72 35 := g0q40 35 (by decide) (Or.inl (by decide))
      have h0q40 : fr [14, 15, 17, 19, 20, 21, 22, 23, 24, 27, 28, 29, 30, 31, 1000, 35] q q40 := fr_tr h072 g0q40 (by decide)
      have bgq40 : bg q72 q40 := bg_fr bg_rf g0q40 (by decide)
      have gdq40 : GD q q40 := GD_tr v72_inv1 pq40_2
      have gbq40 : GD q72 q40 := GD_tr (GD_eq rfl) pq40_2
      have f14 := qkm_14 hqq40
      exact J84 q40 H locs ls v72_1 hqq40 h0q40 (show TS q40 by exact pq40_0) (show GD q q40 by exact gdq40) (show MB q40 (q40 14) (q40 15) by exact (MB_mv v72_inv2 bgq40 gbq40 (by omega) (by omega) (by omega) (by omega) (by omega) (by omega) (by omega))) (show q 27 < q40 27 ∧ q40 14 ≤ 4 by exact ⟨by omega, by omega⟩) (show v72_1.toInt = 499851162725 → q40 30 = 0 by exact fun z => by omega) hH hS (lv_sub hl [0, 1] rfl)


set_option maxHeartbeats 20000000 in
set_option maxRecDepth 100000 in
theorem J60_X11_readLine (l : Launch) (D : va_G) (cT : Nat → ClassId) (T : Nat → Option Nat) (q : Nat → Int) (hT : tokm T) (hq : qkm q) (a0 : Nat) (t0 : T a0 = some 0) (hp0 : TS q) (hp1 : q 13 = 1 - q 10) (hp2 : q 30 = 0) (hp3 : MB1 q (q 14) (q 15)) (p : Program) (e : Env) (s : State) (m : MethodId) (below : List Frame) (meth : Method) (c : Code) (S : CallFix p m c cX11_readLine 3 s [.ref a0].toArray gw yX11_readLine.cls) (hK : va_K D classes (th_tys cT) s) (hr : meth.sig.returnType = none) (hlocks : meth.locks = false) : ∀ (q60 : Nat → Int) (H : Heap) (locs : List Loc) (ls : Array Slot) (v60_1 : Int64), qkm q60 → fr [14, 15, 17, 19, 20, 21, 22, 23, 24, 27, 28, 29, 30, 31, 1000, 35] q q60 → (TS q60) → (GD q q60) → (MB q60 (q60 14) (q60 15)) → (q 27 < q60 27 ∧ q60 14 ≤ 4) → (v60_1.toInt = 482854658917 → q60 19 ≤ 7) → (v60_1.toInt = 499851162725 → q60 30 = 0) → th_H D cT T (km q60) H → va_S (th_A T [0, 3, 4, 5, 6, 7, 8, 9, 10, 11, 12, 13, 14, 15, 16, 17, 18, 19, 20, 21, 22, 23, 24, 25, 26, 27, 28, 29, 30, 31]) s.heap H locs → lv_has ls 3 [(0, .ref a0), (1, .long v60_1)] → W p l e (rmk 7 151) s m [.ref a0].toArray below meth c H locs 0 0 (MQ below (th_QM D cT T (fun v q2 => v = none ∧ qkm q2 ∧ fr [14, 15, 17, 19, 20, 21, 22, 23, 24, 27, 28, 29, 30, 31, 1000, 35] q q2 ∧ (TS q2) ∧ (q 27 ≤ q2 27) ∧ (MB q2 (q2 14) (q2 15)) ∧ (LM q q2) ∧ (GD q q2)) [0, 3, 4, 5, 6, 7, 8, 9, 10, 11, 12, 13, 14, 15, 16, 17, 18, 19, 20, 21, 22, 23, 24, 25, 26, 27, 28, 29, 30, 31]) [.ref a0].toArray s 0 0 (th_A T [0, 3, 4, 5, 6, 7, 8, 9, 10, 11, 12, 13, 14, 15, 16, 17, 18, 19, 20, 21, 22, 23, 24, 25, 26, 27, 28, 29, 30, 31])) (F0 m 60 ls []) := by
    have hx := S.1
    have hb := S.2.1
    have c10 := qkm_10 hq; have c13 := qkm_13 hq; have c14 := qkm_14 hq; have c15 := qkm_15 hq; have c20 := qkm_20 hq; have c27 := qkm_27 hq
    have mb0 : MB q (q 14) (q 15) := fun _ => hp3
    have J72 := J72_X11_readLine l D cT T q hT hq a0 t0 hp0 hp1 hp2 hp3 p e s m below meth c S hK hr hlocks
    intro q60 H locs ls v60_1 hq60 h060 v60_inv0 v60_inv1 v60_inv2 v60_inv3 v60_inv4 v60_inv5 hH hS hl
    have w60_10 : q60 10 = q 10 := h060 10 (by decide) (Or.inl (by decide))
    have w60_13 : q60 13 = q 13 := h060 13 (by decide) (Or.inl (by decide))
    have w60_26 : q60 26 = q 26 := h060 26 (by decide) (Or.inl (by decide))
    have d13 := qkm_13 hq60; have d14 := qkm_14 hq60; have d15 := qkm_15 hq60
    refine lv_lload_n hx hb dX11_readLine_60 rfl (lv_at hl 1 rfl) ?_
    refine lv_ldc2 (v := 482854658917) hx hb S.2.2.2.1 (S.2.2.2.2 _ gm_1462) dX11_readLine_61 ?_
    refine W.lcmp hx hb dX11_readLine_64 ?_
    refine lv_topi (fun x41 ex41 => ?_)
    have ix41 := iv_top x41
    have ax41 : x41.toInt = 0 → v60_1.toInt = (482854658917 : Int) := lc_eq ex41
    have bx41 : x41.toInt ≠ 0 → v60_1.toInt ≠ (482854658917 : Int) := lc_ne ex41
    refine lv_if_ne (tgt := 72) hx hb dX11_readLine_65 (by decide) (fun c42 => ?_) (fun c42 => ?_)
    · skip
      have rlc42 : x41.toInt ≠ (0 : Int) := iv_ne c42
      clear ax41
      have bx41r := bx41 rlc42
      clear bx41
      clear rlc42
      exact J72 q60 H locs ls v60_1 hq60 h060 (show TS q60 by exact v60_inv0) (show GD q q60 by exact v60_inv1) (show MB q60 (q60 14) (q60 15) by exact v60_inv2) (show q 27 < q60 27 ∧ q60 14 ≤ 4 by exact ⟨by omega, by omega⟩) (show v60_1.toInt = 499851162725 → q60 30 = 0 by exact fun z => by omega) hH hS (lv_sub hl [0, 1] rfl)
    · skip
      have rlc42 : x41.toInt = (0 : Int) := congrArg Int32.toInt c42
      have ax41r := ax41 rlc42
      clear ax41
      clear bx41
      have ir43 : IV x41 0 0 := iv_eL c42 (iv_c (by decide) : IV 0 0 0)
      have ir43a := ir43.1; have ir43b := ir43.2
      have hm0 := v60_inv4 (by omega)
      refine lv_aload_n hx hb dX11_readLine_68 rfl (lv_at hl 0 rfl) ?_
      refine th_callVM (n := 0) (As := []) S hK hH hS (th_A.sub (by decide)) (m_X11_readPlace l D cT T q60 hT hq60 a0 t0 (show TS q60 by exact v60_inv0) (show q60 13 = 1 - q60 10 by omega) (show q60 19 ≤ 7 by omega)) gm_1587 gm_1584 gm_1586 gm_74 gm_124 (by decide +kernel) ⟨rfl, rfl, Nat.le_of_ble_eq_true rfl, Nat.le_of_ble_eq_true rfl⟩ t0 km_0 rfl rfl hl.1 rfl (Nat.le_of_ble_eq_true rfl) dX11_readLine_69 ⟨Nat.zero_le _, Nat.zero_le _⟩ (fun wq44 q44 H locs hEq44 hH hS hF1 => ?_)
      obtain ⟨rfl, hqq44, g0q44, pq44_0, pq44_1, pq44_2⟩ := hEq44
      show W p l e (rmk 7 151) s m [.ref a0].toArray below meth c H locs 0 0 (MQ below (th_QM D cT T (fun v q2 => v = none ∧ qkm q2 ∧ fr [14, 15, 17, 19, 20, 21, 22, 23, 24, 27, 28, 29, 30, 31, 1000, 35] q q2 ∧ (TS q2) ∧ (q 27 ≤ q2 27) ∧ (MB q2 (q2 14) (q2 15)) ∧ (LM q q2) ∧ (GD q q2)) [0, 3, 4, 5, 6, 7, 8, 9, 10, 11, 12, 13, 14, 15, 16, 17, 18, 19, 20, 21, 22, 23, 24, 25, 26, 27, 28, 29, 30, 31]) [.ref a0].toArray s 0 0 (th_A T [0, 3, 4, 5, 6, 7, 8, 9, 10, 11, 12, 13, 14, 15, 16, 17, 18, 19, 20, 21, 22, 23, 24, 25, 26, 27, 28, 29, 30, 31])) (F0 m 72 ls [])
      have pq44_0 : TS q44 := pq44_0
      have pq44_1 : q60 27 ≤ q44 27 := pq44_1
      have pq44_2 : GD q60 q44 := pq44_2
      have wq44_10 : q44 10 = q60 10 := g0q44 10 (by decide) (Or.inl (by decide))
      have wq44_13 : q44 13 = q60 13 := g0q44 13 (by decide) (Or.inl (by decide))
      have wq44_14 : q44 14 = q60 14 := g0q44 14 (by decide) (Or.inl (by decide))
      have wq44_15 : q44 15 = q60 15 := g0q44 15 (by decide) (Or.inl (by decide))
      have wq44_17 : q44 17 = q60 17 := g0q44 17 (by decide) (Or.inl (by decide))
      have wq44_20 : q44 20 = q60 20 := g0q44 20 (by decide) (Or.inl (by decide))
      have wq44_21 : q44 21 = q60 21 := g0q44 21 (by decide) (Or.inl (by decide))
      have wq44_22 : q44 22 = q60 22 := g0q44 22 (by decide) (Or.inl (by decide))
      have wq44_23 : q44 23 = q60 23 := g0q44 23 (by decide) (Or.inl (by decide))
      have wq44_24 : q44 24 = q60 24 := g0q44 24 (by decide) (Or.inl (by decide))
      have wq44_26 : q44 26 = q60 26 := g0q44 26 (by decide) (Or.inl (by decide))
      have wq44_35 : q44 35 = q60 35 := g0q44 35 (by decide) (Or.inl (by decide))
      have h0q44 : fr [14, 15, 17, 19, 20, 21, 22, 23, 24, 27, 28, 29, 30, 31, 1000, 35] q q44 := fr_tr h060 g0q44 (by decide)
      have bgq44 : bg q60 q44 := bg_fr bg_rf g0q44 (by decide)
      have gdq44 : GD q q44 := GD_tr v60_inv1 pq44_2
      have gbq44 : GD q60 q44 := GD_tr (GD_eq rfl) pq44_2
      have f14 := qkm_14 hqq44
      exact J72 q44 H locs ls v60_1 hqq44 h0q44 (show TS q44 by exact pq44_0) (show GD q q44 by exact gdq44) (show MB q44 (q44 14) (q44 15) by exact (MB_mv v60_inv2 bgq44 gbq44 (by omega) (by omega) (by omega) (by omega) (by omega) (by omega) (by omega))) (show q 27 < q44 27 ∧ q44 14 ≤ 4 by exact ⟨by omega, by omega⟩) (show v60_1.toInt = 499851162725 → q44 30 = 0 by exact fun z => by omega) hH hS (lv_sub hl [0, 1] rfl)


set_option maxHeartbeats 20000000 in
set_option maxRecDepth 100000 in
theorem J48_X11_readLine (l : Launch) (D : va_G) (cT : Nat → ClassId) (T : Nat → Option Nat) (q : Nat → Int) (hT : tokm T) (hq : qkm q) (a0 : Nat) (t0 : T a0 = some 0) (hp0 : TS q) (hp1 : q 13 = 1 - q 10) (hp2 : q 30 = 0) (hp3 : MB1 q (q 14) (q 15)) (p : Program) (e : Env) (s : State) (m : MethodId) (below : List Frame) (meth : Method) (c : Code) (S : CallFix p m c cX11_readLine 3 s [.ref a0].toArray gw yX11_readLine.cls) (hK : va_K D classes (th_tys cT) s) (hr : meth.sig.returnType = none) (hlocks : meth.locks = false) : ∀ (q48 : Nat → Int) (H : Heap) (locs : List Loc) (ls : Array Slot) (v48_1 : Int64), qkm q48 → fr [14, 15, 17, 19, 20, 21, 22, 23, 24, 27, 28, 29, 30, 31, 1000, 35] q q48 → (TS q48) → (GD q q48) → (MB q48 (q48 14) (q48 15)) → (q 27 < q48 27 ∧ q48 14 ≤ 4) → (v48_1.toInt = 7168368 → q48 14 ≤ 3 ∧ q48 30 = 0) → (v48_1.toInt = 482854658917 → q48 19 ≤ 7) → (v48_1.toInt = 499851162725 → q48 30 = 0) → th_H D cT T (km q48) H → va_S (th_A T [0, 3, 4, 5, 6, 7, 8, 9, 10, 11, 12, 13, 14, 15, 16, 17, 18, 19, 20, 21, 22, 23, 24, 25, 26, 27, 28, 29, 30, 31]) s.heap H locs → lv_has ls 3 [(0, .ref a0), (1, .long v48_1)] → W p l e (rmk 7 151) s m [.ref a0].toArray below meth c H locs 0 0 (MQ below (th_QM D cT T (fun v q2 => v = none ∧ qkm q2 ∧ fr [14, 15, 17, 19, 20, 21, 22, 23, 24, 27, 28, 29, 30, 31, 1000, 35] q q2 ∧ (TS q2) ∧ (q 27 ≤ q2 27) ∧ (MB q2 (q2 14) (q2 15)) ∧ (LM q q2) ∧ (GD q q2)) [0, 3, 4, 5, 6, 7, 8, 9, 10, 11, 12, 13, 14, 15, 16, 17, 18, 19, 20, 21, 22, 23, 24, 25, 26, 27, 28, 29, 30, 31]) [.ref a0].toArray s 0 0 (th_A T [0, 3, 4, 5, 6, 7, 8, 9, 10, 11, 12, 13, 14, 15, 16, 17, 18, 19, 20, 21, 22, 23, 24, 25, 26, 27, 28, 29, 30, 31])) (F0 m 48 ls []) := by
    have hx := S.1
    have hb := S.2.1
    have c10 := qkm_10 hq; have c13 := qkm_13 hq; have c14 := qkm_14 hq; have c15 := qkm_15 hq; have c20 := qkm_20 hq; have c27 := qkm_27 hq
    have mb0 : MB q (q 14) (q 15) := fun _ => hp3
    have J60 := J60_X11_readLine l D cT T q hT hq a0 t0 hp0 hp1 hp2 hp3 p e s m below meth c S hK hr hlocks
    intro q48 H locs ls v48_1 hq48 h048 v48_inv0 v48_inv1 v48_inv2 v48_inv3 v48_inv4 v48_inv5 v48_inv6 hH hS hl
    have w48_10 : q48 10 = q 10 := h048 10 (by decide) (Or.inl (by decide))
    have w48_13 : q48 13 = q 13 := h048 13 (by decide) (Or.inl (by decide))
    have w48_26 : q48 26 = q 26 := h048 26 (by decide) (Or.inl (by decide))
    have d13 := qkm_13 hq48; have d14 := qkm_14 hq48; have d15 := qkm_15 hq48
    refine lv_lload_n hx hb dX11_readLine_48 rfl (lv_at hl 1 rfl) ?_
    refine lv_ldc2 (v := 7168368) hx hb S.2.2.2.1 (S.2.2.2.2 _ gm_1457) dX11_readLine_49 ?_
    refine W.lcmp hx hb dX11_readLine_52 ?_
    refine lv_topi (fun x45 ex45 => ?_)
    have ix45 := iv_top x45
    have ax45 : x45.toInt = 0 → v48_1.toInt = (7168368 : Int) := lc_eq ex45
    have bx45 : x45.toInt ≠ 0 → v48_1.toInt ≠ (7168368 : Int) := lc_ne ex45
    refine lv_if_ne (tgt := 60) hx hb dX11_readLine_53 (by decide) (fun c46 => ?_) (fun c46 => ?_)
    · skip
      have rlc46 : x45.toInt ≠ (0 : Int) := iv_ne c46
      clear ax45
      have bx45r := bx45 rlc46
      clear bx45
      clear rlc46
      exact J60 q48 H locs ls v48_1 hq48 h048 (show TS q48 by exact v48_inv0) (show GD q q48 by exact v48_inv1) (show MB q48 (q48 14) (q48 15) by exact v48_inv2) (show q 27 < q48 27 ∧ q48 14 ≤ 4 by exact ⟨by omega, by omega⟩) (show v48_1.toInt = 482854658917 → q48 19 ≤ 7 by exact fun z => by omega) (show v48_1.toInt = 499851162725 → q48 30 = 0 by exact fun z => by omega) hH hS (lv_sub hl [0, 1] rfl)
    · skip
      have rlc46 : x45.toInt = (0 : Int) := congrArg Int32.toInt c46
      have ax45r := ax45 rlc46
      clear ax45
      clear bx45
      have ir47 : IV x45 0 0 := iv_eL c46 (iv_c (by decide) : IV 0 0 0)
      have ir47a := ir47.1; have ir47b := ir47.2
      have hm0 := v48_inv4 (by omega); have hmb := v48_inv2 (by omega)
      refine lv_aload_n hx hb dX11_readLine_56 rfl (lv_at hl 0 rfl) ?_
      refine th_callVM (n := 0) (As := []) S hK hH hS (th_A.sub (by decide)) (m_X11_readMap l D cT T q48 hT hq48 a0 t0 (show TS q48 by exact v48_inv0) (show q48 13 = 1 - q48 10 by omega) (show q48 30 = 0 by omega) (show MB1 q48 (q48 14) (q48 15) by assumption) (show q48 14 ≤ 3 by omega)) gm_1531 gm_1528 gm_1530 gm_60 gm_124 (by decide +kernel) ⟨rfl, rfl, Nat.le_of_ble_eq_true rfl, Nat.le_of_ble_eq_true rfl⟩ t0 km_0 rfl rfl hl.1 rfl (Nat.le_of_ble_eq_true rfl) dX11_readLine_57 ⟨Nat.zero_le _, Nat.zero_le _⟩ (fun wq49 q49 H locs hEq49 hH hS hF1 => ?_)
      obtain ⟨rfl, hqq49, g0q49, pq49_0, pq49_1, pq49_2, pq49_3⟩ := hEq49
      show W p l e (rmk 7 151) s m [.ref a0].toArray below meth c H locs 0 0 (MQ below (th_QM D cT T (fun v q2 => v = none ∧ qkm q2 ∧ fr [14, 15, 17, 19, 20, 21, 22, 23, 24, 27, 28, 29, 30, 31, 1000, 35] q q2 ∧ (TS q2) ∧ (q 27 ≤ q2 27) ∧ (MB q2 (q2 14) (q2 15)) ∧ (LM q q2) ∧ (GD q q2)) [0, 3, 4, 5, 6, 7, 8, 9, 10, 11, 12, 13, 14, 15, 16, 17, 18, 19, 20, 21, 22, 23, 24, 25, 26, 27, 28, 29, 30, 31]) [.ref a0].toArray s 0 0 (th_A T [0, 3, 4, 5, 6, 7, 8, 9, 10, 11, 12, 13, 14, 15, 16, 17, 18, 19, 20, 21, 22, 23, 24, 25, 26, 27, 28, 29, 30, 31])) (F0 m 60 ls [])
      have pq49_0 : TS q49 := pq49_0
      have pq49_1 : q48 27 ≤ q49 27 := pq49_1
      have pq49_2 : MB q49 (q49 14) (q49 15) := pq49_2
      have pq49_3 : GD q48 q49 := pq49_3
      have wq49_10 : q49 10 = q48 10 := g0q49 10 (by decide) (Or.inl (by decide))
      have wq49_13 : q49 13 = q48 13 := g0q49 13 (by decide) (Or.inl (by decide))
      have wq49_15 : q49 15 = q48 15 := g0q49 15 (by decide) (Or.inl (by decide))
      have wq49_17 : q49 17 = q48 17 := g0q49 17 (by decide) (Or.inl (by decide))
      have wq49_19 : q49 19 = q48 19 := g0q49 19 (by decide) (Or.inl (by decide))
      have wq49_26 : q49 26 = q48 26 := g0q49 26 (by decide) (Or.inl (by decide))
      have h0q49 : fr [14, 15, 17, 19, 20, 21, 22, 23, 24, 27, 28, 29, 30, 31, 1000, 35] q q49 := fr_tr h048 g0q49 (by decide)
      have gdq49 : GD q q49 := GD_tr v48_inv1 pq49_3
      have f14 := qkm_14 hqq49
      exact J60 q49 H locs ls v48_1 hqq49 h0q49 (show TS q49 by exact pq49_0) (show GD q q49 by exact gdq49) (show MB q49 (q49 14) (q49 15) by exact pq49_2) (show q 27 < q49 27 ∧ q49 14 ≤ 4 by exact ⟨by omega, by omega⟩) (show v48_1.toInt = 482854658917 → q49 19 ≤ 7 by exact fun z => by omega) (show v48_1.toInt = 499851162725 → q49 30 = 0 by exact fun z => by omega) hH hS (lv_sub hl [0, 1] rfl)
