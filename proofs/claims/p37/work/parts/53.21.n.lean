
set_option maxHeartbeats 20000000 in
set_option maxRecDepth 100000 in
theorem J23_X11_behindUnit (l : Launch) (D : va_G) (cT : Nat → ClassId) (T : Nat → Option Nat) (q : Nat → Int) (hT : tokm T) (hq : qkm q) (a0 : Nat) (t0 : T a0 = some 0) (hp0 : TS q) (hp1 : q 13 = 1 - q 10) (hp2 : q 30 = 0) (hp3 : 0 ≤ q 35) (hp4 : RS q 0) (hp5 : 1 ≤ q 21) (p : Program) (e : Env) (s : State) (m : MethodId) (below : List Frame) (meth : Method) (c : Code) (S : CallFix p m c cX11_behindUnit 2 s [.ref a0].toArray gw yX11_behindUnit.cls) (hK : va_K D classes (th_tys cT) s) (hr : meth.sig.returnType = (some .boolean)) (hlocks : meth.locks = false) : ∀ (n : Nat) (q23 : Nat → Int) (H : Heap) (locs : List Loc) (ls : Array Slot) (v23_1 : Int32), qkm q23 → fr [20, 21, 22, 23, 24, 27, 28, 29, 30, 31, 1000] q q23 → IV v23_1 0 6 → (RS q23 0) → (1 ≤ q23 21 ∧ q23 21 ≤ q 21) → (q23 23 = q 23 ∧ q23 24 = q 24 ∧ q23 27 = q 27 ∧ q23 28 = q 28 ∧ q23 29 = q 29 ∧ q23 30 = q 30 ∧ q23 31 = q 31) → (kp q q23 (q 35)) → ((v23_1.toInt ≠ 0 → q 29 = 3 ∨ q 29 = 5) ∧ (3 < v23_1.toInt → sg q (q 27) < 97) ∧ v23_1.toInt ≠ 3) → th_H D cT T (km q23) H → va_S (th_A T [0, 28, 29, 30, 31]) s.heap H locs → lv_has ls 2 [(0, .ref a0), (1, .int v23_1)] → (q23 21).toNat < n → W p l e (rmk 3 65) s m [.ref a0].toArray below meth c H locs 0 0 (MQ below (th_QM D cT T (fun v q2 => ∃ r : Int32, v = some (.int r) ∧ IV r 0 1 ∧ qkm q2 ∧ fr [20, 21, 22, 23, 24, 27, 28, 29, 30, 31, 1000] q q2 ∧ (TS q2) ∧ (q 27 ≤ q2 27) ∧ (DM q q2) ∧ (kp q q2 (q 35)) ∧ (RU q2 r.toInt) ∧ (GD q q2)) [0, 28, 29, 30, 31]) [.ref a0].toArray s 0 0 (th_A T [0, 28, 29, 30, 31])) (F0 m 23 ls []) := by
    have hx := S.1
    have hb := S.2.1
    have c10 := qkm_10 hq; have c13 := qkm_13 hq; have c20 := qkm_20 hq; have c21 := qkm_21 hq; have c22 := qkm_22 hq; have c26 := qkm_26 hq; have c27 := qkm_27 hq; have le0 := TS_le hp0
    have J104 := J104_X11_behindUnit l D cT T q hT hq a0 t0 hp0 hp1 hp2 hp3 hp4 hp5 p e s m below meth c S hK hr hlocks
    intro n
    induction n with
    | zero => intro q23 H locs ls v23_1 hq23 h023 iv23_1 v23_inv0 v23_inv1 v23_inv2 v23_inv3 v23_inv4 hH hS hl hn; exact absurd hn (Nat.not_lt_zero _)
    | succ n ih23 =>
      intro q23 H locs ls v23_1 hq23 h023 iv23_1 v23_inv0 v23_inv1 v23_inv2 v23_inv3 v23_inv4 hH hS hl hn23
      have w23_10 : q23 10 = q 10 := h023 10 (by decide) (Or.inl (by decide))
      have w23_13 : q23 13 = q 13 := h023 13 (by decide) (Or.inl (by decide))
      have w23_26 : q23 26 = q 26 := h023 26 (by decide) (Or.inl (by decide))
      have w23_35 : q23 35 = q 35 := h023 35 (by decide) (Or.inl (by decide))
      have d10 := qkm_10 hq23; have d13 := qkm_13 hq23; have d20 := qkm_20 hq23; have d21 := qkm_21 hq23; have d22 := qkm_22 hq23; have d26 := qkm_26 hq23; have d27 := qkm_27 hq23
      have hpil := RS_piled v23_inv0 (by decide)
      obtain ⟨hlo1, hlo2, hlo3⟩ := RS_lo v23_inv0
      obtain ⟨n0, hn0⟩ : ∃ n : Nat, (q23 21).toNat = n + 1 := ⟨(q23 21).toNat - 1, by omega⟩
      obtain ⟨ht1, ht2⟩ := RS_top v23_inv0 hn0
      have gd23 : GD q q23 := GD_eq (by omega)
      have hr7 : ((v23_1.toInt ≠ 0 → q 29 = 3 ∨ q 29 = 5) ∧ (3 < v23_1.toInt → sg q (q 27) < 97) ∧ v23_1.toInt ≠ 3) := v23_inv4; clear v23_inv4
      have l1v23_1 := iv23_1.1; have l2v23_1 := iv23_1.2
      refine lv_aload_n hx hb dX11_behindUnit_23 rfl (lv_at hl 0 rfl) ?_
      refine th_get S hK hH inG11 t0 km_0 rfl 38 (by decide) gm_1268 rfl rfl dX11_behindUnit_24 (fun v41 hv41 fv41 => ?_)
      obtain ⟨rf42, rfl, trf42⟩ := th_V.ref hv41
      refine lv_aload_n hx hb dX11_behindUnit_27 rfl (lv_at hl 0 rfl) ?_
      refine th_get S hK hH inG11 t0 km_0 rfl 45 (by decide) gm_1275 rfl rfl dX11_behindUnit_28 (fun v43 hv43 fv43 => ?_)
      obtain ⟨x44, rfl, ix44⟩ := th_V.int hv43
      have kx44 : x44.toInt = q23 21 := Int.le_antisymm ix44.2 ix44.1
      have bx44 := qkm_21 hq23
      have ix44 : IV x44 0 90 := iv_w ix44 (qkm_21 hq23)
      have ir45 : IV x44 1 90 := ⟨by omega, by omega⟩
      have ir45a := ir45.1; have ir45b := ir45.2
      refine lv_iconst (v := 1) hx hb dX11_behindUnit_31 (by decide) ?_
      refine lv_isub hx hb dX11_behindUnit_32 ?_
      refine lv_topi (fun x46 ex46 => ?_)
      have ix46 : IV x46 0 89 := by rw [ex46]; exact iv_sub ir45 (iv_c (by decide) : IV 1 1 1) (by decide)
      have ux46 : x46.toInt = x44.toInt - (1 : Int) := by rw [ex46]; exact iv_subE (by have z1 := (ir45).1; have z2 := (ir45).2; have z3 := ((iv_c (by decide) : IV 1 1 1)).1; have z4 := ((iv_c (by decide) : IV 1 1 1)).2; omega)
      refine th_iald S hK hH trf42 km_30 (th_in (hi := 89) ix46 (by decide)) dX11_behindUnit_33 (fun v47 hv47 => ?_)
      obtain ⟨x48, rfl, kx48⟩ := th_eaR hv47 (th_lt (th_in (hi := 89) ix46 (by decide)))
      have ix48 := iv_top x48
      have jx48 := th_nat (hi := 89) ix46
      have hx48 : x48.toInt = q23 (2200 + n0) := (kx48).trans (congrArg q23 (by omega))
      refine lv_bipush (v := 6) hx hb dX11_behindUnit_34 (by decide) ?_
      refine lv_icmp_gt (tgt := 104) hx hb dX11_behindUnit_36 (by decide) (fun c49 => ?_) (fun c49 => ?_)
      · skip
        have rlc49 : (6 : Int) < x48.toInt := iv_lt c49
        have ir50 : IV x48 7 2147483647 := iv_uR (iv_c (by decide) : IV 6 6 6) ix48 (iv_lt c49) (by decide)
        have ir50a := ir50.1; have ir50b := ir50.2
        exact J104 q23 H locs ls v23_1 hq23 h023 iv23_1 (show RS q23 0 by first | assumption | exact hRS) (show 1 ≤ q23 21 ∧ q23 21 ≤ q 21 by exact ⟨by omega, by omega⟩) (show q23 23 = q 23 ∧ q23 24 = q 24 ∧ q23 27 = q 27 ∧ q23 28 = q 28 ∧ q23 29 = q 29 ∧ q23 30 = q 30 ∧ q23 31 = q 31 by exact ⟨by omega, by omega, by omega, by omega, by omega, by omega, by omega⟩) (show kp q q23 (q 35) by first | assumption | exact kp_bg bg_rf | exact hkp) (show (v23_1.toInt ≠ 0 → q 29 = 3 ∨ q 29 = 5) ∧ (3 < v23_1.toInt → sg q (q 27) < 97) ∧ v23_1.toInt ≠ 3 by first | assumption | exact hr7) (show v23_1.toInt = 0 → 7 ≤ q23 (2200 + ((q23 21).toNat - 1)) by intro z; rw [show (q23 21).toNat - 1 = n0 by omega]; omega) hH hS (lv_sub hl [0, 1] rfl)
      · skip
        have rlc49 : x48.toInt ≤ (6 : Int) := iv_nlt c49
        have ir51 : IV x48 (-2147483648) 6 := iv_vL ix48 (iv_c (by decide) : IV 6 6 6) (iv_nlt c49) (by decide)
        have ir51a := ir51.1; have ir51b := ir51.2
        refine lv_aload_n hx hb dX11_behindUnit_39 rfl (lv_at hl 0 rfl) ?_
        refine th_getK S hK fv41 inG11 rfl (by decide) gm_1268 rfl dX11_behindUnit_40 ?_
        refine lv_aload_n hx hb dX11_behindUnit_43 rfl (lv_at hl 0 rfl) ?_
        refine th_get S hK hH inG11 t0 km_0 rfl 45 (by decide) gm_1275 rfl rfl dX11_behindUnit_44 (fun v53 hv53 fv53 => ?_)
        obtain ⟨x54, rfl, ix54⟩ := th_V.int hv53
        have kx54 : x54.toInt = q23 21 := Int.le_antisymm ix54.2 ix54.1
        have bx54 := qkm_21 hq23
        have ix54 : IV x54 0 90 := iv_w ix54 (qkm_21 hq23)
        have ir55 : IV x54 1 90 := ⟨by omega, by omega⟩
        have ir55a := ir55.1; have ir55b := ir55.2
        refine lv_iconst (v := 1) hx hb dX11_behindUnit_47 (by decide) ?_
        refine lv_isub hx hb dX11_behindUnit_48 ?_
        refine lv_topi (fun x56 ex56 => ?_)
        have ix56 : IV x56 0 89 := by rw [ex56]; exact iv_sub ir55 (iv_c (by decide) : IV 1 1 1) (by decide)
        have ux56 : x56.toInt = x54.toInt - (1 : Int) := by rw [ex56]; exact iv_subE (by have z1 := (ir55).1; have z2 := (ir55).2; have z3 := ((iv_c (by decide) : IV 1 1 1)).1; have z4 := ((iv_c (by decide) : IV 1 1 1)).2; omega)
        refine th_iald S hK hH trf42 km_30 (th_in (hi := 89) ix56 (by decide)) dX11_behindUnit_49 (fun v57 hv57 => ?_)
        obtain ⟨x58, rfl, kx58⟩ := th_eaR hv57 (th_lt (th_in (hi := 89) ix56 (by decide)))
        have ix58 := iv_top x58
        have jx58 := th_nat (hi := 89) ix56
        have hx58 : x58.toInt = q23 (2200 + n0) := (kx58).trans (congrArg q23 (by omega))
        refine lv_iload_n hx hb dX11_behindUnit_50 rfl (lv_at hl 1 rfl) ?_
        refine lv_icmp_lt (tgt := 104) hx hb dX11_behindUnit_51 (by decide) (fun c59 => ?_) (fun c59 => ?_)
        · skip
          have rlc59 : x58.toInt < v23_1.toInt := iv_lt c59
          have ir60 : IV x58 (-2147483648) 5 := iv_uL ix58 iv23_1 (iv_lt c59) (by decide)
          have ir60a := ir60.1; have ir60b := ir60.2
          exact J104 q23 H locs ls v23_1 hq23 h023 iv23_1 (show RS q23 0 by first | assumption | exact hRS) (show 1 ≤ q23 21 ∧ q23 21 ≤ q 21 by exact ⟨by omega, by omega⟩) (show q23 23 = q 23 ∧ q23 24 = q 24 ∧ q23 27 = q 27 ∧ q23 28 = q 28 ∧ q23 29 = q 29 ∧ q23 30 = q 30 ∧ q23 31 = q 31 by exact ⟨by omega, by omega, by omega, by omega, by omega, by omega, by omega⟩) (show kp q q23 (q 35) by first | assumption | exact kp_bg bg_rf | exact hkp) (show (v23_1.toInt ≠ 0 → q 29 = 3 ∨ q 29 = 5) ∧ (3 < v23_1.toInt → sg q (q 27) < 97) ∧ v23_1.toInt ≠ 3 by first | assumption | exact hr7) (show v23_1.toInt = 0 → 7 ≤ q23 (2200 + ((q23 21).toNat - 1)) by intro z; rw [show (q23 21).toNat - 1 = n0 by omega]; omega) hH hS (lv_sub hl [0, 1] rfl)
        · skip
          have rlc59 : v23_1.toInt ≤ x58.toInt := iv_nlt c59
          have ir61 : IV x58 0 2147483647 := iv_vR iv23_1 ix58 (iv_nlt c59) (by decide)
          have ir61a := ir61.1; have ir61b := ir61.2
          obtain ⟨hl1, hl2, hl3⟩ := RS_low v23_inv0 hn0 (by omega) (by omega)
          refine lv_aload_n hx hb dX11_behindUnit_54 rfl (lv_at hl 0 rfl) ?_
          refine lv_dup hx hb dX11_behindUnit_55 rfl ?_
          refine th_get S hK hH inG11 t0 km_0 rfl 45 (by decide) gm_1275 rfl rfl dX11_behindUnit_56 (fun v62 hv62 fv62 => ?_)
          obtain ⟨x63, rfl, ix63⟩ := th_V.int hv62
          have kx63 : x63.toInt = q23 21 := Int.le_antisymm ix63.2 ix63.1
          have bx63 := qkm_21 hq23
          have ix63 : IV x63 0 90 := iv_w ix63 (qkm_21 hq23)
          have ir64 : IV x63 1 90 := ⟨by omega, by omega⟩
          have ir64a := ir64.1; have ir64b := ir64.2
          refine lv_iconst (v := 1) hx hb dX11_behindUnit_59 (by decide) ?_
          refine lv_isub hx hb dX11_behindUnit_60 ?_
          refine lv_topi (fun x65 ex65 => ?_)
          have ix65 : IV x65 0 89 := by rw [ex65]; exact iv_sub ir64 (iv_c (by decide) : IV 1 1 1) (by decide)
          have ux65 : x65.toInt = x63.toInt - (1 : Int) := by rw [ex65]; exact iv_subE (by have z1 := (ir64).1; have z2 := (ir64).2; have z3 := ((iv_c (by decide) : IV 1 1 1)).1; have z4 := ((iv_c (by decide) : IV 1 1 1)).2; omega)
          obtain ⟨n67, en67⟩ : ∃ z : Int, z = Int32.toInt x65 := ⟨_, rfl⟩
          refine mput_21 S hK hH hS ⟨0, by decide, t0⟩ hT t0 en67 gm_1275 dX11_behindUnit_61 (fun q66 H locs eq66 hH hS hq1 => ?_)
          have hqq66 : qkm q66 := by rw [eq66]; exact qum_ok21 hq23 (iv_z en67 (iv_w ix65 (by decide)))
          have h0q66 : fr [20, 21, 22, 23, 24, 27, 28, 29, 30, 31, 1000] q q66 := by rw [eq66]; exact fr_up h023 (by decide)
          have wq66_10 : q66 10 = q23 10 := by rw [eq66]; rfl
          have wq66_13 : q66 13 = q23 13 := by rw [eq66]; rfl
          have wq66_20 : q66 20 = q23 20 := by rw [eq66]; rfl
          have wq66_21 : q66 21 = q23 21 - (1 : Int) := by rw [show q66 21 = n67 by rw [eq66]; rfl, en67, ux65, kx63]
          have wq66_22 : q66 22 = q23 22 := by rw [eq66]; rfl
          have wq66_23 : q66 23 = q23 23 := by rw [eq66]; rfl
          have wq66_24 : q66 24 = q23 24 := by rw [eq66]; rfl
          have wq66_26 : q66 26 = q23 26 := by rw [eq66]; rfl
          have wq66_27 : q66 27 = q23 27 := by rw [eq66]; rfl
          have wq66_28 : q66 28 = q23 28 := by rw [eq66]; rfl
          have wq66_29 : q66 29 = q23 29 := by rw [eq66]; rfl
          have wq66_30 : q66 30 = q23 30 := by rw [eq66]; rfl
          have wq66_31 : q66 31 = q23 31 := by rw [eq66]; rfl
          have wq66_35 : q66 35 = q23 35 := by rw [eq66]; rfl
          have bgq66 : bg q23 q66 := bg_up bg_rf eq66 (by decide)
          have gdq66 : GD q q66 := GD_tr gd23 (GD_eq wq66_30)
          have gbq66 : GD q23 q66 := GD_tr (GD_eq rfl) (GD_eq wq66_30)
          have txq66 : tx q q66 := tx_tr (tx_kp v23_inv3) (tx_up eq66 (by omega))
          clear en67
          clear ux65
          refine lv_aload_n hx hb dX11_behindUnit_64 rfl (lv_at hl 0 rfl) ?_
          refine th_get S hK hH inG11 t0 km_0 rfl 38 (by decide) gm_1268 rfl rfl dX11_behindUnit_65 (fun v68 hv68 fv68 => ?_)
          obtain ⟨rf69, rfl, trf69⟩ := th_V.ref hv68
          refine lv_aload_n hx hb dX11_behindUnit_68 rfl (lv_at hl 0 rfl) ?_
          refine th_get S hK hH inG11 t0 km_0 rfl 45 (by decide) gm_1275 rfl rfl dX11_behindUnit_69 (fun v70 hv70 fv70 => ?_)
          obtain ⟨x71, rfl, ix71⟩ := th_V.int hv70
          have kx71 : x71.toInt = q66 21 := Int.le_antisymm ix71.2 ix71.1
          have bx71 := qkm_21 hqq66
          have ix71 : IV x71 0 90 := iv_w ix71 (qkm_21 hqq66)
          have ir72 : IV x71 0 89 := ⟨by omega, by omega⟩
          have ir72a := ir72.1; have ir72b := ir72.2
          refine th_iald S hK hH trf69 km_30 (th_in (hi := 89) ir72 (by decide)) dX11_behindUnit_72 (fun v73 hv73 => ?_)
          obtain ⟨x74, rfl, kx74⟩ := th_eaR hv73 (th_lt (th_in (hi := 89) ir72 (by decide)))
          have ix74 := iv_top x74
          have jx74 := th_nat (hi := 89) ir72
          have hx74 : x74.toInt = q23 (2200 + n0) := (kx74).trans ((bgq66 _ (by omega)).trans (congrArg q23 (by omega)))
          refine lv_iconst (v := 3) hx hb dX11_behindUnit_73 (by decide) ?_
          refine lv_icmp_ne (tgt := 87) hx hb dX11_behindUnit_74 (by decide) (fun c75 => ?_) (fun c75 => ?_)
          · skip
            have rlc75 : x74.toInt ≠ (3 : Int) := iv_ne c75
            refine lv_aload_n hx hb dX11_behindUnit_87 rfl (lv_at hl 0 rfl) ?_
            refine lv_aload_n hx hb dX11_behindUnit_88 rfl (lv_at hl 0 rfl) ?_
            refine th_get S hK hH inG11 t0 km_0 rfl 39 (by decide) gm_1269 rfl rfl dX11_behindUnit_89 (fun v76 hv76 fv76 => ?_)
            obtain ⟨rf77, rfl, trf77⟩ := th_V.ref hv76
            refine lv_aload_n hx hb dX11_behindUnit_92 rfl (lv_at hl 0 rfl) ?_
            refine th_get S hK hH inG11 t0 km_0 rfl 45 (by decide) gm_1275 rfl rfl dX11_behindUnit_93 (fun v78 hv78 fv78 => ?_)
            obtain ⟨x79, rfl, ix79⟩ := th_V.int hv78
            have kx79 : x79.toInt = q66 21 := Int.le_antisymm ix79.2 ix79.1
            have bx79 := qkm_21 hqq66
            have ix79 : IV x79 0 90 := iv_w ix79 (qkm_21 hqq66)
            have ir80 : IV x79 0 89 := ⟨by omega, by omega⟩
            have ir80a := ir80.1; have ir80b := ir80.2
            refine th_iald S hK hH trf77 km_31 (th_in (hi := 89) ir80 (by decide)) dX11_behindUnit_96 (fun v81 hv81 => ?_)
            obtain ⟨x82, rfl, kx82⟩ := th_eaR hv81 (th_lt (th_in (hi := 89) ir80 (by decide)))
            have ix82 := iv_top x82
            have jx82 := th_nat (hi := 89) ir80
            have hsx82 : x82.toInt = q23 (2300 + n0) := (kx82).trans ((bgq66 _ (by omega)).trans (congrArg q23 (by omega)))
            refine lv_iconst (v := 0) hx hb dX11_behindUnit_97 (by decide) ?_
            refine th_callVM (n := 2) (As := [.int x82, .int 0]) S hK hH hS (th_A.sub (by decide)) (m_X11_emit l D cT T q66 hT hqq66 a0 t0 (x82) ix82 (0) (iv_top _) (show 560 * q66 13 ≤ q66 20 ∧ q66 20 ≤ 560 * q66 13 + 559 by omega) (show q66 13 = 1 - q66 10 by omega)) gm_1571 gm_1568 gm_1570 gm_70 gm_124 (by decide +kernel) ⟨rfl, rfl, Nat.le_of_ble_eq_true rfl, Nat.le_of_ble_eq_true rfl⟩ t0 km_0 rfl rfl hl.1 rfl (Nat.le_of_ble_eq_true rfl) dX11_behindUnit_98 ⟨Nat.zero_le _, Nat.zero_le _⟩ (fun wq83 q83 H locs hEq83 hH hS hF1 => ?_)
            obtain ⟨rfl, hqq83, g0q83, pq83_0, pq83_1, pq83_2⟩ := hEq83
            show W p l e (rmk 3 65) s m [.ref a0].toArray below meth c H locs 0 0 (MQ below (th_QM D cT T (fun v q2 => ∃ r : Int32, v = some (.int r) ∧ IV r 0 1 ∧ qkm q2 ∧ fr [20, 21, 22, 23, 24, 27, 28, 29, 30, 31, 1000] q q2 ∧ (TS q2) ∧ (q 27 ≤ q2 27) ∧ (DM q q2) ∧ (kp q q2 (q 35)) ∧ (RU q2 r.toInt) ∧ (GD q q2)) [0, 28, 29, 30, 31]) [.ref a0].toArray s 0 0 (th_A T [0, 28, 29, 30, 31])) (F0 m 101 ls [])
            have pq83_0 : q83 = emitq q66 x82.toInt := pq83_0
            have pq83_1 : q83 20 = q66 20 + 1 := pq83_1
            have pq83_2 : tx q66 q83 := pq83_2
            have wq83_10 : q83 10 = q66 10 := g0q83 10 (by decide) (Or.inl (by decide))
            have wq83_13 : q83 13 = q66 13 := g0q83 13 (by decide) (Or.inl (by decide))
            have wq83_21 : q83 21 = q66 21 := g0q83 21 (by decide) (Or.inl (by decide))
            have wq83_22 : q83 22 = q66 22 := g0q83 22 (by decide) (Or.inl (by decide))
            have wq83_23 : q83 23 = q66 23 := g0q83 23 (by decide) (Or.inl (by decide))
            have wq83_24 : q83 24 = q66 24 := g0q83 24 (by decide) (Or.inl (by decide))
            have wq83_26 : q83 26 = q66 26 := g0q83 26 (by decide) (Or.inl (by decide))
            have wq83_27 : q83 27 = q66 27 := g0q83 27 (by decide) (Or.inl (by decide))
            have wq83_28 : q83 28 = q66 28 := g0q83 28 (by decide) (Or.inl (by decide))
            have wq83_29 : q83 29 = q66 29 := g0q83 29 (by decide) (Or.inl (by decide))
            have wq83_30 : q83 30 = q66 30 := g0q83 30 (by decide) (Or.inl (by decide))
            have wq83_31 : q83 31 = q66 31 := g0q83 31 (by decide) (Or.inl (by decide))
            have wq83_35 : q83 35 = q66 35 := g0q83 35 (by decide) (Or.inl (by decide))
            have h0q83 : fr [20, 21, 22, 23, 24, 27, 28, 29, 30, 31, 1000] q q83 := fr_tr h0q66 g0q83 (by decide)
            have gdq83 : GD q q83 := GD_tr gdq66 (GD_eq wq83_30)
            have txq83 : tx q q83 := tx_tr txq66 pq83_2
            have hE : q83 = emitq q66 (q23 (2300 + n0)) := (pq83_0).trans (congrArg (emitq q66) hsx82)
            have hRS : RS q83 0 := RS_pop (a := x74.toInt) (z := q66 22) v23_inv0 (by omega) hn0 hx74 (by omega) (Or.inr ⟨by omega, by omega⟩) bgq66 (by omega) (by omega) (by omega) rfl (by omega) (by omega) (by omega) (by omega) ⟨hl2, by omega⟩ hE
            have hkp : kp q q83 (q 35) := kp_tr v23_inv3 (kp_tr (kp_bg bgq66) (kp_emit pq83_0 (by omega) (by omega) (by omega)))
            have c21 := qkm_21 hqq83
            refine lv_goto (tgt := 23) hx hb dX11_behindUnit_101 (by decide) ?_
            exact ih23 q83 H locs ls v23_1 hqq83 h0q83 iv23_1 (show RS q83 0 by first | assumption | exact hRS) (show 1 ≤ q83 21 ∧ q83 21 ≤ q 21 by exact ⟨by omega, by omega⟩) (show q83 23 = q 23 ∧ q83 24 = q 24 ∧ q83 27 = q 27 ∧ q83 28 = q 28 ∧ q83 29 = q 29 ∧ q83 30 = q 30 ∧ q83 31 = q 31 by exact ⟨by omega, by omega, by omega, by omega, by omega, by omega, by omega⟩) (show kp q q83 (q 35) by first | assumption | exact kp_bg bg_rf | exact hkp) (show (v23_1.toInt ≠ 0 → q 29 = 3 ∨ q 29 = 5) ∧ (3 < v23_1.toInt → sg q (q 27) < 97) ∧ v23_1.toInt ≠ 3 by first | assumption | exact hr7) hH hS (lv_sub hl [0, 1] rfl) (show (q83 21).toNat < n by omega)
          · skip
            have rlc75 : x74.toInt = (3 : Int) := congrArg Int32.toInt c75
            have ir84 : IV x74 3 3 := iv_eL c75 (iv_c (by decide) : IV 3 3 3)
            have ir84a := ir84.1; have ir84b := ir84.2
            refine lv_aload_n hx hb dX11_behindUnit_77 rfl (lv_at hl 0 rfl) ?_
            refine lv_dup hx hb dX11_behindUnit_78 rfl ?_
            refine th_get S hK hH inG11 t0 km_0 rfl 44 (by decide) gm_1274 rfl rfl dX11_behindUnit_79 (fun v85 hv85 fv85 => ?_)
            obtain ⟨x86, rfl, ix86⟩ := th_V.int hv85
            have kx86 : x86.toInt = q66 22 := Int.le_antisymm ix86.2 ix86.1
            have bx86 := qkm_22 hqq66
            have ix86 : IV x86 0 7 := iv_w ix86 (qkm_22 hqq66)
            have hin := RS_in v23_inv0 hn0 (Or.inl (by omega))
            have ir87 : IV x86 1 7 := ⟨by omega, by omega⟩
            have ir87a := ir87.1; have ir87b := ir87.2
            refine lv_iconst (v := 1) hx hb dX11_behindUnit_82 (by decide) ?_
            refine lv_isub hx hb dX11_behindUnit_83 ?_
            refine lv_topi (fun x88 ex88 => ?_)
            have ix88 : IV x88 0 6 := by rw [ex88]; exact iv_sub ir87 (iv_c (by decide) : IV 1 1 1) (by decide)
            have ux88 : x88.toInt = x86.toInt - (1 : Int) := by rw [ex88]; exact iv_subE (by have z1 := (ir87).1; have z2 := (ir87).2; have z3 := ((iv_c (by decide) : IV 1 1 1)).1; have z4 := ((iv_c (by decide) : IV 1 1 1)).2; omega)
            obtain ⟨n90, en90⟩ : ∃ z : Int, z = Int32.toInt x88 := ⟨_, rfl⟩
            refine mput_22 S hK hH hS ⟨0, by decide, t0⟩ hT t0 en90 gm_1274 dX11_behindUnit_84 (fun q89 H locs eq89 hH hS hq1 => ?_)
            have hqq89 : qkm q89 := by rw [eq89]; exact qum_ok22 hqq66 (iv_z en90 (iv_w ix88 (by decide)))
            have h0q89 : fr [20, 21, 22, 23, 24, 27, 28, 29, 30, 31, 1000] q q89 := by rw [eq89]; exact fr_up h0q66 (by decide)
            have wq89_10 : q89 10 = q66 10 := by rw [eq89]; rfl
            have wq89_13 : q89 13 = q66 13 := by rw [eq89]; rfl
            have wq89_20 : q89 20 = q66 20 := by rw [eq89]; rfl
            have wq89_21 : q89 21 = q66 21 := by rw [eq89]; rfl
            have wq89_22 : q89 22 = q66 22 - (1 : Int) := by rw [show q89 22 = n90 by rw [eq89]; rfl, en90, ux88, kx86]
            have wq89_23 : q89 23 = q66 23 := by rw [eq89]; rfl
            have wq89_24 : q89 24 = q66 24 := by rw [eq89]; rfl
            have wq89_26 : q89 26 = q66 26 := by rw [eq89]; rfl
            have wq89_27 : q89 27 = q66 27 := by rw [eq89]; rfl
            have wq89_28 : q89 28 = q66 28 := by rw [eq89]; rfl
            have wq89_29 : q89 29 = q66 29 := by rw [eq89]; rfl
            have wq89_30 : q89 30 = q66 30 := by rw [eq89]; rfl
            have wq89_31 : q89 31 = q66 31 := by rw [eq89]; rfl
            have wq89_35 : q89 35 = q66 35 := by rw [eq89]; rfl
            have bgq89 : bg q23 q89 := bg_up bgq66 eq89 (by decide)
            have gdq89 : GD q q89 := GD_tr gdq66 (GD_eq wq89_30)
            have gbq89 : GD q23 q89 := GD_tr gbq66 (GD_eq wq89_30)
            have txq89 : tx q q89 := tx_tr txq66 (tx_up eq89 (by omega))
            clear en90
            clear ux88
            refine lv_aload_n hx hb dX11_behindUnit_87 rfl (lv_at hl 0 rfl) ?_
            refine lv_aload_n hx hb dX11_behindUnit_88 rfl (lv_at hl 0 rfl) ?_
            refine th_get S hK hH inG11 t0 km_0 rfl 39 (by decide) gm_1269 rfl rfl dX11_behindUnit_89 (fun v91 hv91 fv91 => ?_)
            obtain ⟨rf92, rfl, trf92⟩ := th_V.ref hv91
            refine lv_aload_n hx hb dX11_behindUnit_92 rfl (lv_at hl 0 rfl) ?_
            refine th_get S hK hH inG11 t0 km_0 rfl 45 (by decide) gm_1275 rfl rfl dX11_behindUnit_93 (fun v93 hv93 fv93 => ?_)
            obtain ⟨x94, rfl, ix94⟩ := th_V.int hv93
            have kx94 : x94.toInt = q89 21 := Int.le_antisymm ix94.2 ix94.1
            have bx94 := qkm_21 hqq89
            have ix94 : IV x94 0 90 := iv_w ix94 (qkm_21 hqq89)
            have ir95 : IV x94 0 89 := ⟨by omega, by omega⟩
            have ir95a := ir95.1; have ir95b := ir95.2
            refine th_iald S hK hH trf92 km_31 (th_in (hi := 89) ir95 (by decide)) dX11_behindUnit_96 (fun v96 hv96 => ?_)
            obtain ⟨x97, rfl, kx97⟩ := th_eaR hv96 (th_lt (th_in (hi := 89) ir95 (by decide)))
            have ix97 := iv_top x97
            have jx97 := th_nat (hi := 89) ir95
            have hsx97 : x97.toInt = q23 (2300 + n0) := (kx97).trans ((bgq89 _ (by omega)).trans (congrArg q23 (by omega)))
            refine lv_iconst (v := 0) hx hb dX11_behindUnit_97 (by decide) ?_
            refine th_callVM (n := 2) (As := [.int x97, .int 0]) S hK hH hS (th_A.sub (by decide)) (m_X11_emit l D cT T q89 hT hqq89 a0 t0 (x97) ix97 (0) (iv_top _) (show 560 * q89 13 ≤ q89 20 ∧ q89 20 ≤ 560 * q89 13 + 559 by omega) (show q89 13 = 1 - q89 10 by omega)) gm_1571 gm_1568 gm_1570 gm_70 gm_124 (by decide +kernel) ⟨rfl, rfl, Nat.le_of_ble_eq_true rfl, Nat.le_of_ble_eq_true rfl⟩ t0 km_0 rfl rfl hl.1 rfl (Nat.le_of_ble_eq_true rfl) dX11_behindUnit_98 ⟨Nat.zero_le _, Nat.zero_le _⟩ (fun wq98 q98 H locs hEq98 hH hS hF1 => ?_)
            obtain ⟨rfl, hqq98, g0q98, pq98_0, pq98_1, pq98_2⟩ := hEq98
            show W p l e (rmk 3 65) s m [.ref a0].toArray below meth c H locs 0 0 (MQ below (th_QM D cT T (fun v q2 => ∃ r : Int32, v = some (.int r) ∧ IV r 0 1 ∧ qkm q2 ∧ fr [20, 21, 22, 23, 24, 27, 28, 29, 30, 31, 1000] q q2 ∧ (TS q2) ∧ (q 27 ≤ q2 27) ∧ (DM q q2) ∧ (kp q q2 (q 35)) ∧ (RU q2 r.toInt) ∧ (GD q q2)) [0, 28, 29, 30, 31]) [.ref a0].toArray s 0 0 (th_A T [0, 28, 29, 30, 31])) (F0 m 101 ls [])
            have pq98_0 : q98 = emitq q89 x97.toInt := pq98_0
            have pq98_1 : q98 20 = q89 20 + 1 := pq98_1
            have pq98_2 : tx q89 q98 := pq98_2
            have wq98_10 : q98 10 = q89 10 := g0q98 10 (by decide) (Or.inl (by decide))
            have wq98_13 : q98 13 = q89 13 := g0q98 13 (by decide) (Or.inl (by decide))
            have wq98_21 : q98 21 = q89 21 := g0q98 21 (by decide) (Or.inl (by decide))
            have wq98_22 : q98 22 = q89 22 := g0q98 22 (by decide) (Or.inl (by decide))
            have wq98_23 : q98 23 = q89 23 := g0q98 23 (by decide) (Or.inl (by decide))
            have wq98_24 : q98 24 = q89 24 := g0q98 24 (by decide) (Or.inl (by decide))
            have wq98_26 : q98 26 = q89 26 := g0q98 26 (by decide) (Or.inl (by decide))
            have wq98_27 : q98 27 = q89 27 := g0q98 27 (by decide) (Or.inl (by decide))
            have wq98_28 : q98 28 = q89 28 := g0q98 28 (by decide) (Or.inl (by decide))
            have wq98_29 : q98 29 = q89 29 := g0q98 29 (by decide) (Or.inl (by decide))
            have wq98_30 : q98 30 = q89 30 := g0q98 30 (by decide) (Or.inl (by decide))
            have wq98_31 : q98 31 = q89 31 := g0q98 31 (by decide) (Or.inl (by decide))
            have wq98_35 : q98 35 = q89 35 := g0q98 35 (by decide) (Or.inl (by decide))
            have h0q98 : fr [20, 21, 22, 23, 24, 27, 28, 29, 30, 31, 1000] q q98 := fr_tr h0q89 g0q98 (by decide)
            have gdq98 : GD q q98 := GD_tr gdq89 (GD_eq wq98_30)
            have txq98 : tx q q98 := tx_tr txq89 pq98_2
            have hE : q98 = emitq q89 (q23 (2300 + n0)) := (pq98_0).trans (congrArg (emitq q89) hsx97)
            have hRS : RS q98 0 := RS_pop (a := x74.toInt) (z := q89 22) v23_inv0 (by omega) hn0 hx74 (by omega) (Or.inl ⟨by omega, by omega⟩) bgq89 (by omega) (by omega) (by omega) rfl (by omega) (by omega) (by omega) (by omega) ⟨hl2, by omega⟩ hE
            have hkp : kp q q98 (q 35) := kp_tr v23_inv3 (kp_tr (kp_bg bgq89) (kp_emit pq98_0 (by omega) (by omega) (by omega)))
            have c21 := qkm_21 hqq98
            refine lv_goto (tgt := 23) hx hb dX11_behindUnit_101 (by decide) ?_
            exact ih23 q98 H locs ls v23_1 hqq98 h0q98 iv23_1 (show RS q98 0 by first | assumption | exact hRS) (show 1 ≤ q98 21 ∧ q98 21 ≤ q 21 by exact ⟨by omega, by omega⟩) (show q98 23 = q 23 ∧ q98 24 = q 24 ∧ q98 27 = q 27 ∧ q98 28 = q 28 ∧ q98 29 = q 29 ∧ q98 30 = q 30 ∧ q98 31 = q 31 by exact ⟨by omega, by omega, by omega, by omega, by omega, by omega, by omega⟩) (show kp q q98 (q 35) by first | assumption | exact kp_bg bg_rf | exact hkp) (show (v23_1.toInt ≠ 0 → q 29 = 3 ∨ q 29 = 5) ∧ (3 < v23_1.toInt → sg q (q 27) < 97) ∧ v23_1.toInt ≠ 3 by first | assumption | exact hr7) hH hS (lv_sub hl [0, 1] rfl) (show (q98 21).toNat < n by omega)
