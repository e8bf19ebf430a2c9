theorem dX11_e_0 : decode cX11_e 0 = .ok (.aload_n 0, 1) := by decide +kernel
theorem dX11_e_1 : decode cX11_e 1 = .ok (.iconst 0, 1) := by decide +kernel
theorem dX11_e_2 : decode cX11_e 2 = .ok (.putfield 335, 3) := by decide +kernel
theorem dX11_e_5 : decode cX11_e 5 = .ok (.aload_n 0, 1) := by decide +kernel
theorem dX11_e_6 : decode cX11_e 6 = .ok (.iconst 0, 1) := by decide +kernel
theorem dX11_e_7 : decode cX11_e 7 = .ok (.putfield 338, 3) := by decide +kernel
theorem dX11_e_10 : decode cX11_e 10 = .ok (.aload_n 0, 1) := by decide +kernel
theorem dX11_e_11 : decode cX11_e 11 = .ok (.bipush 8, 2) := by decide +kernel
theorem dX11_e_13 : decode cX11_e 13 = .ok (.iconst 0, 1) := by decide +kernel
theorem dX11_e_14 : decode cX11_e 14 = .ok (.invokevirtual 341, 3) := by decide +kernel
theorem dX11_e_17 : decode cX11_e 17 = .ok (.iconst 1, 1) := by decide +kernel
theorem dX11_e_18 : decode cX11_e 18 = .ok (.istore_n 1, 1) := by decide +kernel
theorem dX11_e_19 : decode cX11_e 19 = .ok (.aload_n 0, 1) := by decide +kernel
theorem dX11_e_20 : decode cX11_e 20 = .ok (.invokevirtual 243, 3) := by decide +kernel
theorem dX11_e_23 : decode cX11_e 23 = .ok (.ifCond .eq 29, 3) := by decide +kernel
theorem dX11_e_26 : decode cX11_e 26 = .ok (.aload_n 0, 1) := by decide +kernel
theorem dX11_e_27 : decode cX11_e 27 = .ok (.getfield 335, 3) := by decide +kernel
theorem dX11_e_30 : decode cX11_e 30 = .ok (.ifCond .le 22, 3) := by decide +kernel
theorem dX11_e_33 : decode cX11_e 33 = .ok (.iload_n 1, 1) := by decide +kernel
theorem dX11_e_34 : decode cX11_e 34 = .ok (.ifCond .eq 10, 3) := by decide +kernel
theorem dX11_e_37 : decode cX11_e 37 = .ok (.aload_n 0, 1) := by decide +kernel
theorem dX11_e_38 : decode cX11_e 38 = .ok (.invokevirtual 344, 3) := by decide +kernel
theorem dX11_e_41 : decode cX11_e 41 = .ok (.goto 7, 3) := by decide +kernel
theorem dX11_e_44 : decode cX11_e 44 = .ok (.aload_n 0, 1) := by decide +kernel
theorem dX11_e_45 : decode cX11_e 45 = .ok (.invokevirtual 347, 3) := by decide +kernel
theorem dX11_e_48 : decode cX11_e 48 = .ok (.istore_n 1, 1) := by decide +kernel
theorem dX11_e_49 : decode cX11_e 49 = .ok (.goto (-30), 3) := by decide +kernel
theorem dX11_e_52 : decode cX11_e 52 = .ok (.return_, 1) := by decide +kernel
set_option maxHeartbeats 20000000 in
set_option maxRecDepth 100000 in
theorem m_X11_behindUnit (l : Launch) (D : va_G) (cT : Nat → ClassId) (T : Nat → Option Nat) (q : Nat → Int) (hT : tokm T) (hq : qkm q) (a0 : Nat) (t0 : T a0 = some 0) (hp0 : TS q) (hp1 : q 13 = 1 - q 10) (hp2 : q 30 = 0) (hp3 : 0 ≤ q 35) (hp4 : RS q 0) (hp5 : 1 ≤ q 21) : th_MetM l D cT T q yX11_behindUnit cX11_behindUnit 2 (some .boolean) (rmk 3 65) [.ref a0] (fun v q2 => ∃ r : Int32, v = some (.int r) ∧ IV r 0 1 ∧ qkm q2 ∧ fr [20, 21, 22, 23, 24, 27, 28, 29, 30, 31, 1000] q q2 ∧ (TS q2) ∧ (q 27 ≤ q2 27) ∧ (DM q q2) ∧ (kp q q2 (q 35)) ∧ (RU q2 r.toInt) ∧ (GD q q2)) [0, 28, 29, 30, 31] := by
  refine th_startM (by decide) (Nat.le_of_ble_eq_true rfl) ?_
  intro p e s m below meth c ls S hK hH hr hlocks hnm hl
  have hx := S.1
  have hb := S.2.1
  have c10 := qkm_10 hq; have c13 := qkm_13 hq; have c20 := qkm_20 hq; have c21 := qkm_21 hq; have c22 := qkm_22 hq; have c26 := qkm_26 hq; have c27 := qkm_27 hq; have le0 := TS_le hp0
  have hl : lv_has ls 2 [(0, .ref a0)] := hl
  have J104 := J104_X11_behindUnit l D cT T q hT hq a0 t0 hp0 hp1 hp2 hp3 hp4 hp5 p e s m below meth c S hK hr hlocks
  have J23 := J23_X11_behindUnit l D cT T q hT hq a0 t0 hp0 hp1 hp2 hp3 hp4 hp5 p e s m below meth c S hK hr hlocks
  have J0 : ∀ (H : Heap) (locs : List Loc) (ls : Array Slot), th_H D cT T (km q) H → va_S (th_A T [0, 28, 29, 30, 31]) s.heap H locs → lv_has ls 2 [(0, .ref a0)] → W p l e (rmk 3 65) s m [.ref a0].toArray below meth c H locs 0 0 (MQ below (th_QM D cT T (fun v q2 => ∃ r : Int32, v = some (.int r) ∧ IV r 0 1 ∧ qkm q2 ∧ fr [20, 21, 22, 23, 24, 27, 28, 29, 30, 31, 1000] q q2 ∧ (TS q2) ∧ (q 27 ≤ q2 27) ∧ (DM q q2) ∧ (kp q q2 (q 35)) ∧ (RU q2 r.toInt) ∧ (GD q q2)) [0, 28, 29, 30, 31]) [.ref a0].toArray s 0 0 (th_A T [0, 28, 29, 30, 31])) (F0 m 0 ls []) := by
    intro H locs ls hH hS hl
    refine lv_aload_n hx hb dX11_behindUnit_0 rfl (lv_at hl 0 rfl) ?_
    refine th_callVp (n := 0) (As := []) S hK hH hS (th_A.sub (by decide)) (m_X11_rankHere l D cT T q hT hq a0 t0) gm_1579 gm_1576 gm_1578 gm_72 gm_124 (by decide +kernel) ⟨rfl, rfl, Nat.le_of_ble_eq_true rfl, Nat.le_of_ble_eq_true rfl⟩ t0 km_0 rfl rfl hl.1 rfl (Nat.le_of_ble_eq_true rfl) dX11_behindUnit_1 ⟨Nat.zero_le _, Nat.zero_le _⟩ (fun x99 H locs ix99 ox99 hH hS hF1 => ?_)
    obtain ⟨ox99_0, ox99_1, ox99_2⟩ := ox99
    have ox99_0 : x99.toInt ≠ 0 → q 29 = 3 ∨ q 29 = 5 := ox99_0
    have ox99_1 : 3 < x99.toInt → sg q (q 27) < 97 := ox99_1
    have ox99_2 : x99.toInt ≠ 3 := ox99_2
    have l1x99 := ix99.1; have l2x99 := ix99.2
    refine lv_istore_n (lv' := [(1, .int x99), (0, .ref a0)]) hx hb dX11_behindUnit_4 rfl hl (by decide) rfl (fun ls hl => ?_)
    have hr7 : (x99.toInt ≠ 0 → q 29 = 3 ∨ q 29 = 5) ∧ (3 < x99.toInt → sg q (q 27) < 97) ∧ x99.toInt ≠ 3 := ⟨ox99_0, ox99_1, ox99_2⟩
    clear ox99_0 ox99_1 ox99_2
    refine lv_iload_n hx hb dX11_behindUnit_5 rfl (lv_at hl 0 rfl) ?_
    refine lv_iconst (v := 4) hx hb dX11_behindUnit_6 (by decide) ?_
    refine lv_icmp_ne (tgt := 23) hx hb dX11_behindUnit_7 (by decide) (fun c100 => ?_) (fun c100 => ?_)
    · skip
      have rlc100 : x99.toInt ≠ (4 : Int) := iv_ne c100
      clear rlc100
      exact J23 ((q 21).toNat + 1) q H locs ls x99 hq fr_rf ix99 (show RS q 0 by first | assumption | exact hRS) (show 1 ≤ q 21 ∧ q 21 ≤ q 21 by exact ⟨by omega, by omega⟩) (show q 23 = q 23 ∧ q 24 = q 24 ∧ q 27 = q 27 ∧ q 28 = q 28 ∧ q 29 = q 29 ∧ q 30 = q 30 ∧ q 31 = q 31 by exact ⟨by omega, by omega, by omega, by omega, by omega, by omega, by omega⟩) (show kp q q (q 35) by first | assumption | exact kp_bg bg_rf | exact hkp) (show (x99.toInt ≠ 0 → q 29 = 3 ∨ q 29 = 5) ∧ (3 < x99.toInt → sg q (q 27) < 97) ∧ x99.toInt ≠ 3 by first | assumption | exact hr7) hH hS (lv_sub hl [1, 0] rfl) (Nat.lt_succ_self _)
    · skip
      have rlc100 : x99.toInt = (4 : Int) := congrArg Int32.toInt c100
      have ir101 : IV x99 4 4 := iv_eL c100 (iv_c (by decide) : IV 4 4 4)
      have ir101a := ir101.1; have ir101b := ir101.2
      refine lv_aload_n hx hb dX11_behindUnit_10 rfl (lv_at hl 1 rfl) ?_
      refine th_callVi (n := 0) (As := []) S hK hH hS (th_A.sub (by decide)) (m_X11_isCompared l D cT T q hT hq a0 t0 (show 1 ≤ q 21 by omega) (show PL q (q 21).toNat by exact RS_PL (by assumption))) gm_1583 gm_1580 gm_1582 gm_73 gm_124 (by decide +kernel) ⟨rfl, rfl, Nat.le_of_ble_eq_true rfl, Nat.le_of_ble_eq_true rfl⟩ t0 km_0 rfl rfl hl.1 rfl (Nat.le_of_ble_eq_true rfl) dX11_behindUnit_11 ⟨Nat.zero_le _, Nat.zero_le _⟩ (fun x102 H locs ix102 hH hS hF1 => ?_)
      have l1x102 := ix102.1; have l2x102 := ix102.2
      refine lv_if_eq (tgt := 23) hx hb dX11_behindUnit_14 (by decide) (fun c103 => ?_) (fun c103 => ?_)
      · skip
        have rlc103 : x102.toInt = (0 : Int) := congrArg Int32.toInt c103
        have ir104 : IV x102 0 0 := iv_eL c103 (iv_c (by decide) : IV 0 0 0)
        have ir104a := ir104.1; have ir104b := ir104.2
        exact J23 ((q 21).toNat + 1) q H locs ls x99 hq fr_rf (iv_w ir101 (by decide)) (show RS q 0 by first | assumption | exact hRS) (show 1 ≤ q 21 ∧ q 21 ≤ q 21 by exact ⟨by omega, by omega⟩) (show q 23 = q 23 ∧ q 24 = q 24 ∧ q 27 = q 27 ∧ q 28 = q 28 ∧ q 29 = q 29 ∧ q 30 = q 30 ∧ q 31 = q 31 by exact ⟨by omega, by omega, by omega, by omega, by omega, by omega, by omega⟩) (show kp q q (q 35) by first | assumption | exact kp_bg bg_rf | exact hkp) (show (x99.toInt ≠ 0 → q 29 = 3 ∨ q 29 = 5) ∧ (3 < x99.toInt → sg q (q 27) < 97) ∧ x99.toInt ≠ 3 by first | assumption | exact hr7) hH hS (lv_sub hl [1, 0] rfl) (Nat.lt_succ_self _)
      · skip
        have rlc103 : x102.toInt ≠ (0 : Int) := iv_ne c103
        have ir105 : IV x102 1 1 := iv_cutL ix102 (iv_c (by decide) : IV 0 0 0) c103 (by decide)
        have ir105a := ir105.1; have ir105b := ir105.2
        clear rlc103
        refine lv_aload_n hx hb dX11_behindUnit_17 rfl (lv_at hl 1 rfl) ?_
        refine th_callVM (n := 0) (As := []) S hK hH hS (th_A.sub (by decide)) (m_X11_misplaced l D cT T q hT hq a0 t0) gm_1503 gm_1500 gm_1502 gm_53 gm_124 (by decide +kernel) ⟨rfl, rfl, Nat.le_of_ble_eq_true rfl, Nat.le_of_ble_eq_true rfl⟩ t0 km_0 rfl rfl hl.1 rfl (Nat.le_of_ble_eq_true rfl) dX11_behindUnit_18 ⟨Nat.zero_le _, Nat.zero_le _⟩ (fun wq106 q106 H locs hEq106 hH hS hF1 => ?_)
        obtain ⟨rfl, hqq106, g0q106, pq106_0⟩ := hEq106
        show W p l e (rmk 3 65) s m [.ref a0].toArray below meth c H locs 0 0 (MQ below (th_QM D cT T (fun v q2 => ∃ r : Int32, v = some (.int r) ∧ IV r 0 1 ∧ qkm q2 ∧ fr [20, 21, 22, 23, 24, 27, 28, 29, 30, 31, 1000] q q2 ∧ (TS q2) ∧ (q 27 ≤ q2 27) ∧ (DM q q2) ∧ (kp q q2 (q 35)) ∧ (RU q2 r.toInt) ∧ (GD q q2)) [0, 28, 29, 30, 31]) [.ref a0].toArray s 0 0 (th_A T [0, 28, 29, 30, 31])) (F0 m 21 ls [])
        have pq106_0 : 1 ≤ q106 30 := pq106_0
        have wq106_10 : q106 10 = q 10 := g0q106 10 (by decide) (Or.inl (by decide))
        have wq106_13 : q106 13 = q 13 := g0q106 13 (by decide) (Or.inl (by decide))
        have wq106_20 : q106 20 = q 20 := g0q106 20 (by decide) (Or.inl (by decide))
        have wq106_21 : q106 21 = q 21 := g0q106 21 (by decide) (Or.inl (by decide))
        have wq106_22 : q106 22 = q 22 := g0q106 22 (by decide) (Or.inl (by decide))
        have wq106_23 : q106 23 = q 23 := g0q106 23 (by decide) (Or.inl (by decide))
        have wq106_24 : q106 24 = q 24 := g0q106 24 (by decide) (Or.inl (by decide))
        have wq106_26 : q106 26 = q 26 := g0q106 26 (by decide) (Or.inl (by decide))
        have wq106_27 : q106 27 = q 27 := g0q106 27 (by decide) (Or.inl (by decide))
        have wq106_28 : q106 28 = q 28 := g0q106 28 (by decide) (Or.inl (by decide))
        have wq106_29 : q106 29 = q 29 := g0q106 29 (by decide) (Or.inl (by decide))
        have wq106_31 : q106 31 = q 31 := g0q106 31 (by decide) (Or.inl (by decide))
        have wq106_35 : q106 35 = q 35 := g0q106 35 (by decide) (Or.inl (by decide))
        have h0q106 : fr [20, 21, 22, 23, 24, 27, 28, 29, 30, 31, 1000] q q106 := fr_tr fr_rf g0q106 (by decide)
        have bgq106 : bg q q106 := bg_fr bg_rf g0q106 (by decide)
        have gdq106 : GD q q106 := GD_tr (GD_eq rfl) (GD_no pq106_0)
        have gbq106 : GD q q106 := GD_tr (GD_eq rfl) (GD_no pq106_0)
        have txq106 : tx q q106 := tx_tr tx_rf (tx_bg (bg_fr bg_rf g0q106 (by decide)))
        have hkp : kp q q106 (q 35) := kp_bg bgq106
        have hRU : RU q106 (1 : Int) := RU_no (by omega)
        refine lv_iconst (v := 1) hx hb dX11_behindUnit_21 (by decide) ?_
        exact th_zretM S hK hH hS hr hlocks (iv_w (iv_c (by decide) : IV 1 1 1) (by decide)) ⟨_, rfl, (iv_w (iv_c (by decide) : IV 1 1 1) (by decide)), hqq106, h0q106, (show TS q106 by exact (TS_mv hp0 txq106 (by omega) (by omega) (by omega) (by omega) (by omega) (fun z => by omega))), (show q 27 ≤ q106 27 by omega), (show DM q q106 by exact DM_no (by omega)), (show kp q q106 (q 35) by exact hkp), (show RU q106 (1 : Int) by exact hRU), (show GD q q106 by exact gdq106)⟩ dX11_behindUnit_22
  exact J0 s.heap [] ls hH va_S.rf hl

set_option maxHeartbeats 20000000 in
set_option maxRecDepth 100000 in
theorem J19_X11_e (l : Launch) (D : va_G) (cT : Nat → ClassId) (T : Nat → Option Nat) (q : Nat → Int) (hT : tokm T) (hq : qkm q) (a0 : Nat) (t0 : T a0 = some 0) (hp0 : TS q) (hp1 : q 13 = 1 - q 10) (hp2 : q 30 = 0) (hp3 : AC q) (hp4 : q 35 = q 20) (p : Program) (e : Env) (s : State) (m : MethodId) (below : List Frame) (meth : Method) (c : Code) (S : CallFix p m c cX11_e 2 s [.ref a0].toArray gw yX11_e.cls) (hK : va_K D classes (th_tys cT) s) (hr : meth.sig.returnType = none) (hlocks : meth.locks = false) : ∀ (n : Nat) (q19 : Nat → Int) (H : Heap) (locs : List Loc) (ls : Array Slot) (v19_1 : Int32), qkm q19 → fr [20, 21, 22, 23, 24, 27, 28, 29, 30, 31, 1000] q q19 → IV v19_1 0 1 → (TS q19) → (q 27 ≤ q19 27) → (GD q q19) → (RU q19 v19_1.toInt) → (kp q q19 (q 35)) → th_H D cT T (km q19) H → va_S (th_A T [0, 8, 28, 29, 30, 31]) s.heap H locs → lv_has ls 2 [(0, .ref a0), (1, .int v19_1)] → (5000 * (5 - q19 30) + 2 * (1600 - q19 27) + q19 21).toNat < n → W p l e (rmk 4 86) s m [.ref a0].toArray below meth c H locs 0 0 (MQ below (th_QM D cT T (fun v q2 => v = none ∧ qkm q2 ∧ fr [20, 21, 22, 23, 24, 27, 28, 29, 30, 31, 1000] q q2 ∧ (TS q2) ∧ (q 27 ≤ q2 27) ∧ (kp q q2 (q 35)) ∧ (EE q2) ∧ (GD q q2)) [0, 8, 28, 29, 30, 31]) [.ref a0].toArray s 0 0 (th_A T [0, 8, 28, 29, 30, 31])) (F0 m 19 ls []) := by
    have hx := S.1
    have hb := S.2.1
    have c10 := qkm_10 hq; have c13 := qkm_13 hq; have c20 := qkm_20 hq; have c21 := qkm_21 hq; have c22 := qkm_22 hq; have c23 := qkm_23 hq; have c26 := qkm_26 hq; have c27 := qkm_27 hq; have c30 := qkm_30 hq
    intro n
    induction n with
    | zero => intro q19 H locs ls v19_1 hq19 h019 iv19_1 v19_inv0 v19_inv1 v19_inv2 v19_inv3 v19_inv4 hH hS hl hn; exact absurd hn (Nat.not_lt_zero _)
    | succ n ih19 =>
      intro q19 H locs ls v19_1 hq19 h019 iv19_1 v19_inv0 v19_inv1 v19_inv2 v19_inv3 v19_inv4 hH hS hl hn19
      have w19_10 : q19 10 = q 10 := h019 10 (by decide) (Or.inl (by decide))
      have w19_13 : q19 13 = q 13 := h019 13 (by decide) (Or.inl (by decide))
      have w19_26 : q19 26 = q 26 := h019 26 (by decide) (Or.inl (by decide))
      have w19_35 : q19 35 = q 35 := h019 35 (by decide) (Or.inl (by decide))
      have d10 := qkm_10 hq19; have d13 := qkm_13 hq19; have d20 := qkm_20 hq19; have d21 := qkm_21 hq19; have d22 := qkm_22 hq19; have d23 := qkm_23 hq19; have d26 := qkm_26 hq19; have d27 := qkm_27 hq19; have d30 := qkm_30 hq19
      have hkp := v19_inv4
      have l1v19_1 := iv19_1.1; have l2v19_1 := iv19_1.2
      refine lv_aload_n hx hb dX11_e_19 rfl (lv_at hl 0 rfl) ?_
      refine th_callVp (n := 0) (As := []) S hK hH hS (th_A.sub (by decide)) (m_X11_isGood l D cT T q19 hT hq19 a0 t0) gm_1487 gm_1484 gm_1486 gm_49 gm_124 (by decide +kernel) ⟨rfl, rfl, Nat.le_of_ble_eq_true rfl, Nat.le_of_ble_eq_true rfl⟩ t0 km_0 rfl rfl hl.1 rfl (Nat.le_of_ble_eq_true rfl) dX11_e_20 ⟨Nat.zero_le _, Nat.zero_le _⟩ (fun x1 H locs ix1 ox1 hH hS hF1 => ?_)
      obtain ⟨ox1_0, ox1_1⟩ := ox1
      have ox1_0 : x1.toInt ≠ 0 → q19 30 = 0 := ox1_0
      have ox1_1 : x1.toInt = 0 → 1 ≤ q19 30 := ox1_1
      have l1x1 := ix1.1; have l2x1 := ix1.2
      refine lv_if_eq (tgt := 52) hx hb dX11_e_23 (by decide) (fun c2 => ?_) (fun c2 => ?_)
      · skip
        have rlc2 : x1.toInt = (0 : Int) := congrArg Int32.toInt c2
        clear ox1_0
        have ox1_1r := ox1_1 rlc2
        clear ox1_1
        have ir3 : IV x1 0 0 := iv_eL c2 (iv_c (by decide) : IV 0 0 0)
        have ir3a := ir3.1; have ir3b := ir3.2
        have hE : EE q19 := EE_no (by omega)
        exact th_vretM S hK hH hS hr hlocks ⟨rfl, hq19, h019, (show TS q19 by exact v19_inv0), (show q 27 ≤ q19 27 by omega), (show kp q q19 (q 35) by exact hkp), (show EE q19 by exact hE), (show GD q q19 by exact v19_inv2)⟩ dX11_e_52
      · skip
        have rlc2 : x1.toInt ≠ (0 : Int) := iv_ne c2
        have ox1_0r := ox1_0 rlc2
        clear ox1_0
        clear ox1_1
        have ir4 : IV x1 1 1 := iv_cutL ix1 (iv_c (by decide) : IV 0 0 0) c2 (by decide)
        have ir4a := ir4.1; have ir4b := ir4.2
        clear rlc2
        refine lv_aload_n hx hb dX11_e_26 rfl (lv_at hl 0 rfl) ?_
        refine th_get S hK hH inG11 t0 km_0 rfl 45 (by decide) gm_1275 rfl rfl dX11_e_27 (fun v5 hv5 fv5 => ?_)
        obtain ⟨x6, rfl, ix6⟩ := th_V.int hv5
        have kx6 : x6.toInt = q19 21 := Int.le_antisymm ix6.2 ix6.1
        have bx6 := qkm_21 hq19
        have ix6 : IV x6 0 90 := iv_w ix6 (qkm_21 hq19)
        refine lv_if_le (tgt := 52) hx hb dX11_e_30 (by decide) (fun c7 => ?_) (fun c7 => ?_)
        · skip
          have rlc7 : x6.toInt ≤ (0 : Int) := iv_le c7
          have ir8 : IV x6 0 0 := iv_vL ix6 (iv_c (by decide) : IV 0 0 0) (iv_le c7) (by decide)
          have ir8a := ir8.1; have ir8b := ir8.2
          have hE : EE q19 := EE_of v19_inv3 (by omega) (by omega)
          exact th_vretM S hK hH hS hr hlocks ⟨rfl, hq19, h019, (show TS q19 by exact v19_inv0), (show q 27 ≤ q19 27 by omega), (show kp q q19 (q 35) by exact hkp), (show EE q19 by exact hE), (show GD q q19 by exact v19_inv2)⟩ dX11_e_52
        · skip
          have rlc7 : (0 : Int) < x6.toInt := iv_nle c7
          have ir9 : IV x6 1 90 := iv_uR (iv_c (by decide) : IV 0 0 0) ix6 (iv_nle c7) (by decide)
          have ir9a := ir9.1; have ir9b := ir9.2
          refine lv_iload_n hx hb dX11_e_33 rfl (lv_at hl 1 rfl) ?_
          refine lv_if_eq (tgt := 44) hx hb dX11_e_34 (by decide) (fun c10 => ?_) (fun c10 => ?_)
          · skip
            have rlc10 : v19_1.toInt = (0 : Int) := congrArg Int32.toInt c10
            have ir11 : IV v19_1 0 0 := iv_eL c10 (iv_c (by decide) : IV 0 0 0)
            have ir11a := ir11.1; have ir11b := ir11.2
            have hr0 : RS q19 0 := (v19_inv3 (by omega)).2 (by omega)
            have hlo := RS_lo hr0
            refine lv_aload_n hx hb dX11_e_44 rfl (lv_at hl 0 rfl) ?_
            refine th_callVM (n := 0) (As := []) S hK hH hS (th_A.sub (by decide)) (m_X11_behindUnit l D cT T q19 hT hq19 a0 t0 (show TS q19 by exact v19_inv0) (show q19 13 = 1 - q19 10 by omega) (show q19 30 = 0 by omega) (show 0 ≤ q19 35 by omega) (show RS q19 0 by assumption) (show 1 ≤ q19 21 by omega)) gm_1575 gm_1572 gm_1574 gm_71 gm_124 (by decide +kernel) ⟨rfl, rfl, Nat.le_of_ble_eq_true rfl, Nat.le_of_ble_eq_true rfl⟩ t0 km_0 rfl rfl hl.1 rfl (Nat.le_of_ble_eq_true rfl) dX11_e_45 ⟨Nat.zero_le _, Nat.zero_le _⟩ (fun wq12 q12 H locs hEq12 hH hS hF1 => ?_)
            obtain ⟨x13, rfl, ix13, hqq12, g0q12, pq12_0, pq12_1, pq12_2, pq12_3, pq12_4, pq12_5⟩ := hEq12
            show W p l e (rmk 4 86) s m [.ref a0].toArray below meth c H locs 0 0 (MQ below (th_QM D cT T (fun v q2 => v = none ∧ qkm q2 ∧ fr [20, 21, 22, 23, 24, 27, 28, 29, 30, 31, 1000] q q2 ∧ (TS q2) ∧ (q 27 ≤ q2 27) ∧ (kp q q2 (q 35)) ∧ (EE q2) ∧ (GD q q2)) [0, 8, 28, 29, 30, 31]) [.ref a0].toArray s 0 0 (th_A T [0, 8, 28, 29, 30, 31])) (F0 m 48 ls [.int x13])
            have pq12_0 : TS q12 := pq12_0
            have pq12_1 : q19 27 ≤ q12 27 := pq12_1
            have pq12_2 : DM q19 q12 := pq12_2
            have pq12_3 : kp q19 q12 (q19 35) := pq12_3
            have pq12_4 : RU q12 x13.toInt := pq12_4
            have pq12_5 : GD q19 q12 := pq12_5
            have wq12_10 : q12 10 = q19 10 := g0q12 10 (by decide) (Or.inl (by decide))
            have wq12_13 : q12 13 = q19 13 := g0q12 13 (by decide) (Or.inl (by decide))
            have wq12_26 : q12 26 = q19 26 := g0q12 26 (by decide) (Or.inl (by decide))
            have wq12_35 : q12 35 = q19 35 := g0q12 35 (by decide) (Or.inl (by decide))
            have h0q12 : fr [20, 21, 22, 23, 24, 27, 28, 29, 30, 31, 1000] q q12 := fr_tr h019 g0q12 (by decide)
            have gdq12 : GD q q12 := GD_tr v19_inv2 pq12_5
            have l1x13 := ix13.1; have l2x13 := ix13.2
            have hRU := pq12_4; have hDM := pq12_2
            have hkp : kp q q12 (q 35) := kp_tr v19_inv4 (by have z := pq12_3; rw [w19_35] at z; exact z)
            have f10 := qkm_10 hqq12; have f13 := qkm_13 hqq12; have f20 := qkm_20 hqq12; have f21 := qkm_21 hqq12; have f22 := qkm_22 hqq12; have f23 := qkm_23 hqq12; have f26 := qkm_26 hqq12; have f27 := qkm_27 hqq12; have f30 := qkm_30 hqq12
            refine lv_istore_n (lv' := [(1, .int x13), (0, .ref a0)]) hx hb dX11_e_48 rfl hl (by decide) rfl (fun ls hl => ?_)
            refine lv_goto (tgt := 19) hx hb dX11_e_49 (by decide) ?_
            exact ih19 q12 H locs ls x13 hqq12 h0q12 ix13 (show TS q12 by exact pq12_0) (show q 27 ≤ q12 27 by omega) (show GD q q12 by exact gdq12) (show RU q12 x13.toInt by first | exact hRU | exact RU_1 hRS (by omega) (by decide)) (show kp q q12 (q 35) by exact hkp) hH hS (lv_sub hl [1, 0] rfl) (show (5000 * (5 - q12 30) + 2 * (1600 - q12 27) + q12 21).toNat < n by exact DM_lt hDM (by omega) f30 d27 f27 d21 f21 hn19)
          · skip
            have rlc10 : v19_1.toInt ≠ (0 : Int) := iv_ne c10
            have ir14 : IV v19_1 1 1 := iv_cutL iv19_1 (iv_c (by decide) : IV 0 0 0) c10 (by decide)
            have ir14a := ir14.1; have ir14b := ir14.2
            clear rlc10
            obtain ⟨hr1, hr2⟩ := (v19_inv3 (by omega)).1 (by omega)
            have hlo := RS_lo hr1
            refine lv_aload_n hx hb dX11_e_37 rfl (lv_at hl 0 rfl) ?_
            refine th_callVM (n := 0) (As := []) S hK hH hS (th_A.sub (by decide)) (m_X11_unit l D cT T q19 hT hq19 a0 t0 (show TS q19 by exact v19_inv0) (show q19 13 = 1 - q19 10 by omega) (show q19 30 = 0 by omega) (show 0 ≤ q19 35 by omega) (show RS q19 1 by assumption) (show 1 ≤ q19 21 by omega)) gm_1559 gm_1556 gm_1558 gm_67 gm_124 (by decide +kernel) ⟨rfl, rfl, Nat.le_of_ble_eq_true rfl, Nat.le_of_ble_eq_true rfl⟩ t0 km_0 rfl rfl hl.1 rfl (Nat.le_of_ble_eq_true rfl) dX11_e_38 ⟨Nat.zero_le _, Nat.zero_le _⟩ (fun wq15 q15 H locs hEq15 hH hS hF1 => ?_)
            obtain ⟨x16, rfl, ix16, hqq15, g0q15, pq15_0, pq15_1, pq15_2, pq15_3, pq15_4, pq15_5⟩ := hEq15
            show W p l e (rmk 4 86) s m [.ref a0].toArray below meth c H locs 0 0 (MQ below (th_QM D cT T (fun v q2 => v = none ∧ qkm q2 ∧ fr [20, 21, 22, 23, 24, 27, 28, 29, 30, 31, 1000] q q2 ∧ (TS q2) ∧ (q 27 ≤ q2 27) ∧ (kp q q2 (q 35)) ∧ (EE q2) ∧ (GD q q2)) [0, 8, 28, 29, 30, 31]) [.ref a0].toArray s 0 0 (th_A T [0, 8, 28, 29, 30, 31])) (F0 m 41 ls [.int x16])
            have pq15_0 : TS q15 := pq15_0
            have pq15_1 : q19 27 ≤ q15 27 := pq15_1
            have pq15_2 : DM q19 q15 := pq15_2
            have pq15_3 : kp q19 q15 (q19 35) := pq15_3
            have pq15_4 : RU q15 x16.toInt := pq15_4
            have pq15_5 : GD q19 q15 := pq15_5
            have wq15_10 : q15 10 = q19 10 := g0q15 10 (by decide) (Or.inl (by decide))
            have wq15_13 : q15 13 = q19 13 := g0q15 13 (by decide) (Or.inl (by decide))
            have wq15_26 : q15 26 = q19 26 := g0q15 26 (by decide) (Or.inl (by decide))
            have wq15_35 : q15 35 = q19 35 := g0q15 35 (by decide) (Or.inl (by decide))
            have h0q15 : fr [20, 21, 22, 23, 24, 27, 28, 29, 30, 31, 1000] q q15 := fr_tr h019 g0q15 (by decide)
            have gdq15 : GD q q15 := GD_tr v19_inv2 pq15_5
            have l1x16 := ix16.1; have l2x16 := ix16.2
            refine lv_goto (tgt := 48) hx hb dX11_e_41 (by decide) ?_
            have hRU := pq15_4; have hDM := pq15_2
            have hkp : kp q q15 (q 35) := kp_tr v19_inv4 (by have z := pq15_3; rw [w19_35] at z; exact z)
            have f10 := qkm_10 hqq15; have f13 := qkm_13 hqq15; have f20 := qkm_20 hqq15; have f21 := qkm_21 hqq15; have f22 := qkm_22 hqq15; have f23 := qkm_23 hqq15; have f26 := qkm_26 hqq15; have f27 := qkm_27 hqq15; have f30 := qkm_30 hqq15
            refine lv_istore_n (lv' := [(1, .int x16), (0, .ref a0)]) hx hb dX11_e_48 rfl hl (by decide) rfl (fun ls hl => ?_)
            refine lv_goto (tgt := 19) hx hb dX11_e_49 (by decide) ?_
            exact ih19 q15 H locs ls x16 hqq15 h0q15 ix16 (show TS q15 by exact pq15_0) (show q 27 ≤ q15 27 by omega) (show GD q q15 by exact gdq15) (show RU q15 x16.toInt by first | exact hRU | exact RU_1 hRS (by omega) (by decide)) (show kp q q15 (q 35) by exact hkp) hH hS (lv_sub hl [1, 0] rfl) (show (5000 * (5 - q15 30) + 2 * (1600 - q15 27) + q15 21).toNat < n by exact DM_lt hDM (by omega) f30 d27 f27 d21 f21 hn19)

set_option maxHeartbeats 20000000 in
set_option maxRecDepth 100000 in
theorem m_X11_e (l : Launch) (D : va_G) (cT : Nat → ClassId) (T : Nat → Option Nat) (q : Nat → Int) (hT : tokm T) (hq : qkm q) (a0 : Nat) (t0 : T a0 = some 0) (hp0 : TS q) (hp1 : q 13 = 1 - q 10) (hp2 : q 30 = 0) (hp3 : AC q) (hp4 : q 35 = q 20) : th_MetM l D cT T q yX11_e cX11_e 2 none (rmk 4 86) [.ref a0] (fun v q2 => v = none ∧ qkm q2 ∧ fr [20, 21, 22, 23, 24, 27, 28, 29, 30, 31, 1000] q q2 ∧ (TS q2) ∧ (q 27 ≤ q2 27) ∧ (kp q q2 (q 35)) ∧ (EE q2) ∧ (GD q q2)) [0, 8, 28, 29, 30, 31] := by
  refine th_startM (by decide) (Nat.le_of_ble_eq_true rfl) ?_
  intro p e s m below meth c ls S hK hH hr hlocks hnm hl
  have hx := S.1
  have hb := S.2.1
  have c10 := qkm_10 hq; have c13 := qkm_13 hq; have c20 := qkm_20 hq; have c21 := qkm_21 hq; have c22 := qkm_22 hq; have c23 := qkm_23 hq; have c26 := qkm_26 hq; have c27 := qkm_27 hq; have c30 := qkm_30 hq
  have hl : lv_has ls 2 [(0, .ref a0)] := hl
  have J19 := J19_X11_e l D cT T q hT hq a0 t0 hp0 hp1 hp2 hp3 hp4 p e s m below meth c S hK hr hlocks
  have J0 : ∀ (H : Heap) (locs : List Loc) (ls : Array Slot), th_H D cT T (km q) H → va_S (th_A T [0, 8, 28, 29, 30, 31]) s.heap H locs → lv_has ls 2 [(0, .ref a0)] → W p l e (rmk 4 86) s m [.ref a0].toArray below meth c H locs 0 0 (MQ below (th_QM D cT T (fun v q2 => v = none ∧ qkm q2 ∧ fr [20, 21, 22, 23, 24, 27, 28, 29, 30, 31, 1000] q q2 ∧ (TS q2) ∧ (q 27 ≤ q2 27) ∧ (kp q q2 (q 35)) ∧ (EE q2) ∧ (GD q q2)) [0, 8, 28, 29, 30, 31]) [.ref a0].toArray s 0 0 (th_A T [0, 8, 28, 29, 30, 31])) (F0 m 0 ls []) := by
    intro H locs ls hH hS hl
    refine lv_aload_n hx hb dX11_e_0 rfl (lv_at hl 0 rfl) ?_
    refine lv_iconst (v := 0) hx hb dX11_e_1 (by decide) ?_
    obtain ⟨n18, en18⟩ : ∃ z : Int, z = Int32.toInt 0 := ⟨_, rfl⟩
    have fn18 : n18 = 0 := by rw [en18]; rfl
    refine mput_21 S hK hH hS ⟨0, by decide, t0⟩ hT t0 en18 gm_1275 dX11_e_2 (fun q17 H locs eq17 hH hS hq1 => ?_)
    have hqq17 : qkm q17 := by rw [eq17]; exact qum_ok21 hq (iv_z en18 (iv_w (iv_c (by decide) : IV 0 0 0) (by decide)))
    have h0q17 : fr [20, 21, 22, 23, 24, 27, 28, 29, 30, 31, 1000] q q17 := by rw [eq17]; exact fr_up fr_rf (by decide)
    have wq17_10 : q17 10 = q 10 := by rw [eq17]; rfl
    have wq17_13 : q17 13 = q 13 := by rw [eq17]; rfl
    have wq17_20 : q17 20 = q 20 := by rw [eq17]; rfl
    have wq17_21 : q17 21 = 0 := by rw [show q17 21 = n18 by rw [eq17]; rfl, fn18]
    have wq17_22 : q17 22 = q 22 := by rw [eq17]; rfl
    have wq17_23 : q17 23 = q 23 := by rw [eq17]; rfl
    have wq17_24 : q17 24 = q 24 := by rw [eq17]; rfl
    have wq17_26 : q17 26 = q 26 := by rw [eq17]; rfl
    have wq17_27 : q17 27 = q 27 := by rw [eq17]; rfl
    have wq17_28 : q17 28 = q 28 := by rw [eq17]; rfl
    have wq17_29 : q17 29 = q 29 := by rw [eq17]; rfl
    have wq17_30 : q17 30 = q 30 := by rw [eq17]; rfl
    have wq17_31 : q17 31 = q 31 := by rw [eq17]; rfl
    have wq17_35 : q17 35 = q 35 := by rw [eq17]; rfl
    have bgq17 : bg q q17 := bg_up bg_rf eq17 (by decide)
    have gdq17 : GD q q17 := GD_tr (GD_eq rfl) (GD_eq wq17_30)
    have gbq17 : GD q q17 := GD_tr (GD_eq rfl) (GD_eq wq17_30)
    have txq17 : tx q q17 := tx_tr tx_rf (tx_up eq17 (by omega))
    clear en18 fn18
    refine lv_aload_n hx hb dX11_e_5 rfl (lv_at hl 0 rfl) ?_
    refine lv_iconst (v := 0) hx hb dX11_e_6 (by decide) ?_
    obtain ⟨n21, en21⟩ : ∃ z : Int, z = Int32.toInt 0 := ⟨_, rfl⟩
    have fn21 : n21 = 0 := by rw [en21]; rfl
    refine mput_22 S hK hH hS ⟨0, by decide, t0⟩ hT t0 en21 gm_1274 dX11_e_7 (fun q20 H locs eq20 hH hS hq1 => ?_)
    have hqq20 : qkm q20 := by rw [eq20]; exact qum_ok22 hqq17 (iv_z en21 (iv_w (iv_c (by decide) : IV 0 0 0) (by decide)))
    have h0q20 : fr [20, 21, 22, 23, 24, 27, 28, 29, 30, 31, 1000] q q20 := by rw [eq20]; exact fr_up h0q17 (by decide)
    have wq20_10 : q20 10 = q17 10 := by rw [eq20]; rfl
    have wq20_13 : q20 13 = q17 13 := by rw [eq20]; rfl
    have wq20_20 : q20 20 = q17 20 := by rw [eq20]; rfl
    have wq20_21 : q20 21 = q17 21 := by rw [eq20]; rfl
    have wq20_22 : q20 22 = 0 := by rw [show q20 22 = n21 by rw [eq20]; rfl, fn21]
    have wq20_23 : q20 23 = q17 23 := by rw [eq20]; rfl
    have wq20_24 : q20 24 = q17 24 := by rw [eq20]; rfl
    have wq20_26 : q20 26 = q17 26 := by rw [eq20]; rfl
    have wq20_27 : q20 27 = q17 27 := by rw [eq20]; rfl
    have wq20_28 : q20 28 = q17 28 := by rw [eq20]; rfl
    have wq20_29 : q20 29 = q17 29 := by rw [eq20]; rfl
    have wq20_30 : q20 30 = q17 30 := by rw [eq20]; rfl
    have wq20_31 : q20 31 = q17 31 := by rw [eq20]; rfl
    have wq20_35 : q20 35 = q17 35 := by rw [eq20]; rfl
    have bgq20 : bg q q20 := bg_up bgq17 eq20 (by decide)
    have gdq20 : GD q q20 := GD_tr gdq17 (GD_eq wq20_30)
    have gbq20 : GD q q20 := GD_tr gbq17 (GD_eq wq20_30)
    have txq20 : tx q q20 := tx_tr txq17 (tx_up eq20 (by omega))
    clear en21 fn21
    have hAC : AC q20 := AC_mv hp3 (by omega) (by omega) (by omega) (by omega)
    refine lv_aload_n hx hb dX11_e_10 rfl (lv_at hl 0 rfl) ?_
    refine lv_bipush (v := 8) hx hb dX11_e_11 (by decide) ?_
    refine lv_iconst (v := 0) hx hb dX11_e_13 (by decide) ?_
    refine th_callVM (n := 2) (As := [.int 8, .int 0]) S hK hH hS (th_A.sub (by decide)) (m_X11_pushE l D cT T q20 hT hqq20 a0 t0 (8) (iv_w (iv_c (by decide) : IV 8 8 8) (by decide)) (0) (iv_top _) (show q20 21 ≤ 60 by omega)) gm_1555 gm_1552 gm_1554 gm_66 gm_124 (by decide +kernel) ⟨rfl, rfl, Nat.le_of_ble_eq_true rfl, Nat.le_of_ble_eq_true rfl⟩ t0 km_0 rfl rfl hl.1 rfl (Nat.le_of_ble_eq_true rfl) dX11_e_14 ⟨Nat.zero_le _, Nat.zero_le _⟩ (fun wq22 q22 H locs hEq22 hH hS hF1 => ?_)
    obtain ⟨rfl, hqq22, g0q22, pq22_0, pq22_1, pq22_2⟩ := hEq22
    show W p l e (rmk 4 86) s m [.ref a0].toArray below meth c H locs 0 0 (MQ below (th_QM D cT T (fun v q2 => v = none ∧ qkm q2 ∧ fr [20, 21, 22, 23, 24, 27, 28, 29, 30, 31, 1000] q q2 ∧ (TS q2) ∧ (q 27 ≤ q2 27) ∧ (kp q q2 (q 35)) ∧ (EE q2) ∧ (GD q q2)) [0, 8, 28, 29, 30, 31]) [.ref a0].toArray s 0 0 (th_A T [0, 8, 28, 29, 30, 31])) (F0 m 17 ls [])
    have pq22_0 : q22 = pushq q20 (8 : Int) (0 : Int) := pq22_0
    have pq22_1 : q22 21 = q20 21 + 1 := pq22_1
    have pq22_2 : tx q20 q22 := pq22_2
    have wq22_10 : q22 10 = q20 10 := g0q22 10 (by decide) (Or.inl (by decide))
    have wq22_13 : q22 13 = q20 13 := g0q22 13 (by decide) (Or.inl (by decide))
    have wq22_20 : q22 20 = q20 20 := g0q22 20 (by decide) (Or.inl (by decide))
    have wq22_22 : q22 22 = q20 22 := g0q22 22 (by decide) (Or.inl (by decide))
    have wq22_23 : q22 23 = q20 23 := g0q22 23 (by decide) (Or.inl (by decide))
    have wq22_24 : q22 24 = q20 24 := g0q22 24 (by decide) (Or.inl (by decide))
    have wq22_26 : q22 26 = q20 26 := g0q22 26 (by decide) (Or.inl (by decide))
    have wq22_27 : q22 27 = q20 27 := g0q22 27 (by decide) (Or.inl (by decide))
    have wq22_28 : q22 28 = q20 28 := g0q22 28 (by decide) (Or.inl (by decide))
    have wq22_29 : q22 29 = q20 29 := g0q22 29 (by decide) (Or.inl (by decide))
    have wq22_30 : q22 30 = q20 30 := g0q22 30 (by decide) (Or.inl (by decide))
    have wq22_31 : q22 31 = q20 31 := g0q22 31 (by decide) (Or.inl (by decide))
    have wq22_35 : q22 35 = q20 35 := g0q22 35 (by decide) (Or.inl (by decide))
    have h0q22 : fr [20, 21, 22, 23, 24, 27, 28, 29, 30, 31, 1000] q q22 := fr_tr h0q20 g0q22 (by decide)
    have gdq22 : GD q q22 := GD_tr gdq20 (GD_eq wq22_30)
    have txq22 : tx q q22 := tx_tr txq20 pq22_2
    have hRS : RS q22 1 := RS_start pq22_0 (by omega) (by omega) hAC (by omega) ⟨by omega, by omega⟩ (by omega)
    have hkp : kp q q22 (q 35) := kp_tr (kp_bg bgq20) (kp_push pq22_0 (by omega) (by omega))
    refine lv_iconst (v := 1) hx hb dX11_e_17 (by decide) ?_
    refine lv_istore_n (lv' := [(1, .int 1), (0, .ref a0)]) hx hb dX11_e_18 rfl hl (by decide) rfl (fun ls hl => ?_)
    exact J19 ((5000 * (5 - q22 30) + 2 * (1600 - q22 27) + q22 21).toNat + 1) q22 H locs ls 1 hqq22 h0q22 (iv_w (iv_c (by decide) : IV 1 1 1) (by decide)) (show TS q22 by exact (TS_mv hp0 txq22 (by omega) (by omega) (by omega) (by omega) (by omega) (fun z => by omega))) (show q 27 ≤ q22 27 by omega) (show GD q q22 by exact gdq22) (show RU q22 (1 : Int) by first | exact hRU | exact RU_1 hRS (by omega) (by decide)) (show kp q q22 (q 35) by exact hkp) hH hS (lv_sub hl [1, 0] rfl) (Nat.lt_succ_self _)
  exact J0 s.heap [] ls hH va_S.rf hl
