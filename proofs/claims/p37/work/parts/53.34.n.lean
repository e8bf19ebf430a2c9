
set_option maxHeartbeats 20000000 in
set_option maxRecDepth 100000 in
theorem J20_X11_house (l : Launch) (D : va_G) (cT : Nat → ClassId) (T : Nat → Option Nat) (q : Nat → Int) (hT : tokm T) (hq : qkm q) (a0 : Nat) (t0 : T a0 = some 0) (hp0 : q 7 + q 8 ≤ 40) (p : Program) (e : Env) (s : State) (m : MethodId) (below : List Frame) (meth : Method) (c : Code) (S : CallFix p m c cX11_house 2 s [.ref a0].toArray gw yX11_house.cls) (hK : va_K D classes (th_tys cT) s) (hr : meth.sig.returnType = (some .int)) (hlocks : meth.locks = false) : ∀ (n : Nat) (q20 : Nat → Int) (H : Heap) (locs : List Loc) (ls : Array Slot) (v20_1 : Int32), qkm q20 → fr [7, 8, 10, 11, 12, 13, 14, 15, 16, 17, 18, 19, 20, 21, 22, 23, 24, 25, 26, 27, 28, 29, 30, 31, 35, 1000] q q20 → IV v20_1 0 1600 → (q20 7 = q 7 ∧ q20 8 = q 8) → (q20 30 = 0) → th_H D cT T (km q20) H → va_S (th_A T [0, 2, 3, 4, 5, 6, 7, 8, 9, 10, 11, 12, 13, 14, 15, 16, 17, 18, 19, 20, 21, 22, 23, 24, 25, 26, 27, 28, 29, 30, 31, 33, 44]) s.heap H locs → lv_has ls 2 [(0, .ref a0), (1, .int v20_1)] → (1600 + 1 - Int32.toInt v20_1).toNat < n → W p l e (rmk 8 173) s m [.ref a0].toArray below meth c H locs 0 0 (MQ below (th_QM D cT T (fun v q2 => ∃ r : Int32, v = some (.int r) ∧ IV r (-1) 4 ∧ qkm q2 ∧ fr [7, 8, 10, 11, 12, 13, 14, 15, 16, 17, 18, 19, 20, 21, 22, 23, 24, 25, 26, 27, 28, 29, 30, 31, 35, 1000] q q2 ∧ (q2 7 + q2 8 ≤ 40)) [0, 2, 3, 4, 5, 6, 7, 8, 9, 10, 11, 12, 13, 14, 15, 16, 17, 18, 19, 20, 21, 22, 23, 24, 25, 26, 27, 28, 29, 30, 31, 33, 44]) [.ref a0].toArray s 0 0 (th_A T [0, 2, 3, 4, 5, 6, 7, 8, 9, 10, 11, 12, 13, 14, 15, 16, 17, 18, 19, 20, 21, 22, 23, 24, 25, 26, 27, 28, 29, 30, 31, 33, 44])) (F0 m 20 ls []) := by
    have hx := S.1
    have hb := S.2.1
    have c10 := qkm_10 hq; have c13 := qkm_13 hq; have c26 := qkm_26 hq; have c27 := qkm_27 hq
    have J74 := J74_X11_house l D cT T q hT hq a0 t0 hp0 p e s m below meth c S hK hr hlocks
    intro n
    induction n with
    | zero => intro q20 H locs ls v20_1 hq20 h020 iv20_1 v20_inv0 v20_inv1 hH hS hl hn; exact absurd hn (Nat.not_lt_zero _)
    | succ n ih20 =>
      intro q20 H locs ls v20_1 hq20 h020 iv20_1 v20_inv0 v20_inv1 hH hS hl hn20
      have b26 := qkm_26 hq20; have b10 := qkm_10 hq20
      have l1v20_1 := iv20_1.1; have l2v20_1 := iv20_1.2
      refine lv_iload_n hx hb dX11_house_20 rfl (lv_at hl 1 rfl) ?_
      refine lv_aload_n hx hb dX11_house_21 rfl (lv_at hl 0 rfl) ?_
      refine th_get S hK hH inG11 t0 km_0 rfl 3 (by decide) gm_1233 rfl rfl dX11_house_22 (fun v39 hv39 fv39 => ?_)
      obtain ⟨x40, rfl, ix40⟩ := th_V.int hv39
      have kx40 : x40.toInt = q20 26 := Int.le_antisymm ix40.2 ix40.1
      have bx40 := qkm_26 hq20
      have ix40 : IV x40 0 1600 := iv_w ix40 (qkm_26 hq20)
      refine lv_icmp_ge (tgt := 46) hx hb dX11_house_25 (by decide) (fun c41 => ?_) (fun c41 => ?_)
      · skip
        have rlc41 : x40.toInt ≤ v20_1.toInt := iv_le c41
        refine lv_aload_n hx hb dX11_house_46 rfl (lv_at hl 0 rfl) ?_
        refine lv_iconst (v := 0) hx hb dX11_house_47 (by decide) ?_
        refine th_put S hK hH hS ⟨0, by decide, t0⟩ inG11 tyX11 tyX11_ok nmX11 t0 km_0 rfl 2 (by decide) gm_1232 rfl rfl rfl rfl (th_iv (iv_w (iv_c (by decide) : IV 0 0 0) (by decide))) (fun vs h => nmR_set h.2.2 (by decide) rfl) (ty := .int) (by decide +kernel) rfl rfl dX11_house_48 (fun H locs hH hS hq1 hp1 => ?_)
        have f42 := hp1.1
        refine lv_aload_n hx hb dX11_house_51 rfl (lv_at hl 0 rfl) ?_
        refine lv_iconst (v := 0) hx hb dX11_house_52 (by decide) ?_
        obtain ⟨n44, en44⟩ : ∃ z : Int, z = Int32.toInt 0 := ⟨_, rfl⟩
        have fn44 : n44 = 0 := by rw [en44]; rfl
        refine mput_28 S hK hH hS ⟨0, by decide, t0⟩ hT t0 en44 gm_1237 dX11_house_53 (fun q43 H locs eq43 hH hS hq1 => ?_)
        have hqq43 : qkm q43 := by rw [eq43]; exact qum_ok28 hq20 (iv_z en44 (iv_w (iv_c (by decide) : IV 0 0 0) (by decide)))
        have h0q43 : fr [7, 8, 10, 11, 12, 13, 14, 15, 16, 17, 18, 19, 20, 21, 22, 23, 24, 25, 26, 27, 28, 29, 30, 31, 35, 1000] q q43 := by rw [eq43]; exact fr_up h020 (by decide)
        have wq43_7 : q43 7 = q20 7 := by rw [eq43]; rfl
        have wq43_8 : q43 8 = q20 8 := by rw [eq43]; rfl
        have wq43_10 : q43 10 = q20 10 := by rw [eq43]; rfl
        have wq43_13 : q43 13 = q20 13 := by rw [eq43]; rfl
        have wq43_14 : q43 14 = q20 14 := by rw [eq43]; rfl
        have wq43_15 : q43 15 = q20 15 := by rw [eq43]; rfl
        have wq43_20 : q43 20 = q20 20 := by rw [eq43]; rfl
        have wq43_21 : q43 21 = q20 21 := by rw [eq43]; rfl
        have wq43_22 : q43 22 = q20 22 := by rw [eq43]; rfl
        have wq43_23 : q43 23 = q20 23 := by rw [eq43]; rfl
        have wq43_24 : q43 24 = q20 24 := by rw [eq43]; rfl
        have wq43_26 : q43 26 = q20 26 := by rw [eq43]; rfl
        have wq43_27 : q43 27 = q20 27 := by rw [eq43]; rfl
        have wq43_28 : q43 28 = 0 := by rw [show q43 28 = n44 by rw [eq43]; rfl, fn44]
        have wq43_29 : q43 29 = q20 29 := by rw [eq43]; rfl
        have wq43_30 : q43 30 = q20 30 := by rw [eq43]; rfl
        have wq43_31 : q43 31 = q20 31 := by rw [eq43]; rfl
        have wq43_35 : q43 35 = q20 35 := by rw [eq43]; rfl
        have bgq43 : bg q20 q43 := bg_up bg_rf eq43 (by decide)
        have gbq43 : GD q20 q43 := GD_tr (GD_eq rfl) (GD_eq wq43_30)
        clear en44 fn44
        refine lv_aload_n hx hb dX11_house_56 rfl (lv_at hl 0 rfl) ?_
        refine lv_iconst (v := 1) hx hb dX11_house_57 (by decide) ?_
        refine lv_aload_n hx hb dX11_house_58 rfl (lv_at hl 0 rfl) ?_
        refine th_get S hK hH inG11 t0 km_0 rfl 41 (by decide) gm_1271 rfl rfl dX11_house_59 (fun v45 hv45 fv45 => ?_)
        obtain ⟨x46, rfl, ix46⟩ := th_V.int hv45
        have kx46 : x46.toInt = q43 10 := Int.le_antisymm ix46.2 ix46.1
        have bx46 := qkm_10 hqq43
        have ix46 : IV x46 0 1 := iv_w ix46 (qkm_10 hqq43)
        refine lv_isub hx hb dX11_house_62 ?_
        refine lv_topi (fun x47 ex47 => ?_)
        have ix47 : IV x47 0 1 := by rw [ex47]; exact iv_sub (iv_c (by decide) : IV 1 1 1) ix46 (by decide)
        have ux47 : x47.toInt = (1 : Int) - x46.toInt := by rw [ex47]; exact iv_subE (by have z1 := ((iv_c (by decide) : IV 1 1 1)).1; have z2 := ((iv_c (by decide) : IV 1 1 1)).2; have z3 := (ix46).1; have z4 := (ix46).2; omega)
        obtain ⟨n49, en49⟩ : ∃ z : Int, z = Int32.toInt x47 := ⟨_, rfl⟩
        refine mput_13 S hK hH hS ⟨0, by decide, t0⟩ hT t0 en49 gm_1272 dX11_house_63 (fun q48 H locs eq48 hH hS hq1 => ?_)
        have hqq48 : qkm q48 := by rw [eq48]; exact qum_ok13 hqq43 (iv_z en49 ix47)
        have h0q48 : fr [7, 8, 10, 11, 12, 13, 14, 15, 16, 17, 18, 19, 20, 21, 22, 23, 24, 25, 26, 27, 28, 29, 30, 31, 35, 1000] q q48 := by rw [eq48]; exact fr_up h0q43 (by decide)
        have wq48_7 : q48 7 = q43 7 := by rw [eq48]; rfl
        have wq48_8 : q48 8 = q43 8 := by rw [eq48]; rfl
        have wq48_10 : q48 10 = q43 10 := by rw [eq48]; rfl
        have wq48_13 : q48 13 = n49 := by rw [eq48]; rfl
        have wq48_14 : q48 14 = q43 14 := by rw [eq48]; rfl
        have wq48_15 : q48 15 = q43 15 := by rw [eq48]; rfl
        have wq48_20 : q48 20 = q43 20 := by rw [eq48]; rfl
        have wq48_21 : q48 21 = q43 21 := by rw [eq48]; rfl
        have wq48_22 : q48 22 = q43 22 := by rw [eq48]; rfl
        have wq48_23 : q48 23 = q43 23 := by rw [eq48]; rfl
        have wq48_24 : q48 24 = q43 24 := by rw [eq48]; rfl
        have wq48_26 : q48 26 = q43 26 := by rw [eq48]; rfl
        have wq48_27 : q48 27 = q43 27 := by rw [eq48]; rfl
        have wq48_28 : q48 28 = q43 28 := by rw [eq48]; rfl
        have wq48_29 : q48 29 = q43 29 := by rw [eq48]; rfl
        have wq48_30 : q48 30 = q43 30 := by rw [eq48]; rfl
        have wq48_31 : q48 31 = q43 31 := by rw [eq48]; rfl
        have wq48_35 : q48 35 = q43 35 := by rw [eq48]; rfl
        have bgq48 : bg q20 q48 := bg_up bgq43 eq48 (by decide)
        have gbq48 : GD q20 q48 := GD_tr gbq43 (GD_eq wq48_30)
        refine lv_aload_n hx hb dX11_house_66 rfl (lv_at hl 0 rfl) ?_
        refine th_callVM (n := 0) (As := []) S hK hH hS (th_A.sub (by decide)) (m_X11_clearBank l D cT T q48 hT hqq48 a0 t0 (show q48 13 = 1 - q48 10 by omega)) gm_1221 gm_1218 gm_1220 gm_44 gm_124 (by decide +kernel) ⟨rfl, rfl, Nat.le_of_ble_eq_true rfl, Nat.le_of_ble_eq_true rfl⟩ t0 km_0 rfl rfl hl.1 rfl (Nat.le_of_ble_eq_true rfl) dX11_house_67 ⟨Nat.zero_le _, Nat.zero_le _⟩ (fun wq50 q50 H locs hEq50 hH hS hF1 => ?_)
        obtain ⟨rfl, hqq50, g0q50, pq50_0⟩ := hEq50
        show W p l e (rmk 8 173) s m [.ref a0].toArray below meth c H locs 0 0 (MQ below (th_QM D cT T (fun v q2 => ∃ r : Int32, v = some (.int r) ∧ IV r (-1) 4 ∧ qkm q2 ∧ fr [7, 8, 10, 11, 12, 13, 14, 15, 16, 17, 18, 19, 20, 21, 22, 23, 24, 25, 26, 27, 28, 29, 30, 31, 35, 1000] q q2 ∧ (q2 7 + q2 8 ≤ 40)) [0, 2, 3, 4, 5, 6, 7, 8, 9, 10, 11, 12, 13, 14, 15, 16, 17, 18, 19, 20, 21, 22, 23, 24, 25, 26, 27, 28, 29, 30, 31, 33, 44]) [.ref a0].toArray s 0 0 (th_A T [0, 2, 3, 4, 5, 6, 7, 8, 9, 10, 11, 12, 13, 14, 15, 16, 17, 18, 19, 20, 21, 22, 23, 24, 25, 26, 27, 28, 29, 30, 31, 33, 44])) (F0 m 70 ls [])
        have pq50_0 : q50 14 = 0 ∧ q50 15 = 0 ∧ q50 17 = 0 ∧ q50 19 = 0 ∧ q50 24 = 0 ∧ q50 20 = 560 * q48 13 := pq50_0
        have wq50_7 : q50 7 = q48 7 := g0q50 7 (by decide) (Or.inl (by decide))
        have wq50_8 : q50 8 = q48 8 := g0q50 8 (by decide) (Or.inl (by decide))
        have wq50_10 : q50 10 = q48 10 := g0q50 10 (by decide) (Or.inl (by decide))
        have wq50_13 : q50 13 = q48 13 := g0q50 13 (by decide) (Or.inl (by decide))
        have wq50_21 : q50 21 = q48 21 := g0q50 21 (by decide) (Or.inl (by decide))
        have wq50_22 : q50 22 = q48 22 := g0q50 22 (by decide) (Or.inl (by decide))
        have wq50_23 : q50 23 = q48 23 := g0q50 23 (by decide) (Or.inl (by decide))
        have wq50_26 : q50 26 = q48 26 := g0q50 26 (by decide) (Or.inl (by decide))
        have wq50_27 : q50 27 = q48 27 := g0q50 27 (by decide) (Or.inl (by decide))
        have wq50_28 : q50 28 = q48 28 := g0q50 28 (by decide) (Or.inl (by decide))
        have wq50_29 : q50 29 = q48 29 := g0q50 29 (by decide) (Or.inl (by decide))
        have wq50_30 : q50 30 = q48 30 := g0q50 30 (by decide) (Or.inl (by decide))
        have wq50_31 : q50 31 = q48 31 := g0q50 31 (by decide) (Or.inl (by decide))
        have wq50_35 : q50 35 = q48 35 := g0q50 35 (by decide) (Or.inl (by decide))
        have h0q50 : fr [7, 8, 10, 11, 12, 13, 14, 15, 16, 17, 18, 19, 20, 21, 22, 23, 24, 25, 26, 27, 28, 29, 30, 31, 35, 1000] q q50 := fr_tr h0q48 g0q50 (by decide)
        have bgq50 : bg q20 q50 := bg_fr bgq48 g0q50 (by decide)
        have gbq50 : GD q20 q50 := GD_tr gbq48 (GD_eq wq50_30)
        have e26 := qkm_26 hqq50
        refine lv_aload_n hx hb dX11_house_70 rfl (lv_at hl 0 rfl) ?_
        refine th_callVM (n := 0) (As := []) S hK hH hS (th_A.sub (by decide)) (m_X11_goOn l D cT T q50 hT hqq50 a0 t0 (show q50 28 ≤ q50 26 by omega)) gm_1445 gm_1442 gm_1444 gm_47 gm_124 (by decide +kernel) ⟨rfl, rfl, Nat.le_of_ble_eq_true rfl, Nat.le_of_ble_eq_true rfl⟩ t0 km_0 rfl rfl hl.1 rfl (Nat.le_of_ble_eq_true rfl) dX11_house_71 ⟨Nat.zero_le _, Nat.zero_le _⟩ (fun wq51 q51 H locs hEq51 hH hS hF1 => ?_)
        obtain ⟨rfl, hqq51, g0q51, pq51_0, pq51_1, pq51_2⟩ := hEq51
        show W p l e (rmk 8 173) s m [.ref a0].toArray below meth c H locs 0 0 (MQ below (th_QM D cT T (fun v q2 => ∃ r : Int32, v = some (.int r) ∧ IV r (-1) 4 ∧ qkm q2 ∧ fr [7, 8, 10, 11, 12, 13, 14, 15, 16, 17, 18, 19, 20, 21, 22, 23, 24, 25, 26, 27, 28, 29, 30, 31, 35, 1000] q q2 ∧ (q2 7 + q2 8 ≤ 40)) [0, 2, 3, 4, 5, 6, 7, 8, 9, 10, 11, 12, 13, 14, 15, 16, 17, 18, 19, 20, 21, 22, 23, 24, 25, 26, 27, 28, 29, 30, 31, 33, 44]) [.ref a0].toArray s 0 0 (th_A T [0, 2, 3, 4, 5, 6, 7, 8, 9, 10, 11, 12, 13, 14, 15, 16, 17, 18, 19, 20, 21, 22, 23, 24, 25, 26, 27, 28, 29, 30, 31, 33, 44])) (F0 m 74 ls [])
        have pq51_0 : TS q51 := pq51_0
        have pq51_1 : q50 28 ≤ q51 27 := pq51_1
        have pq51_2 : LX q50 q51 := pq51_2
        have wq51_7 : q51 7 = q50 7 := g0q51 7 (by decide) (Or.inl (by decide))
        have wq51_8 : q51 8 = q50 8 := g0q51 8 (by decide) (Or.inl (by decide))
        have wq51_10 : q51 10 = q50 10 := g0q51 10 (by decide) (Or.inl (by decide))
        have wq51_13 : q51 13 = q50 13 := g0q51 13 (by decide) (Or.inl (by decide))
        have wq51_14 : q51 14 = q50 14 := g0q51 14 (by decide) (Or.inl (by decide))
        have wq51_15 : q51 15 = q50 15 := g0q51 15 (by decide) (Or.inl (by decide))
        have wq51_20 : q51 20 = q50 20 := g0q51 20 (by decide) (Or.inl (by decide))
        have wq51_21 : q51 21 = q50 21 := g0q51 21 (by decide) (Or.inl (by decide))
        have wq51_22 : q51 22 = q50 22 := g0q51 22 (by decide) (Or.inl (by decide))
        have wq51_23 : q51 23 = q50 23 := g0q51 23 (by decide) (Or.inl (by decide))
        have wq51_24 : q51 24 = q50 24 := g0q51 24 (by decide) (Or.inl (by decide))
        have wq51_26 : q51 26 = q50 26 := g0q51 26 (by decide) (Or.inl (by decide))
        have wq51_30 : q51 30 = q50 30 := g0q51 30 (by decide) (Or.inl (by decide))
        have wq51_35 : q51 35 = q50 35 := g0q51 35 (by decide) (Or.inl (by decide))
        have h0q51 : fr [7, 8, 10, 11, 12, 13, 14, 15, 16, 17, 18, 19, 20, 21, 22, 23, 24, 25, 26, 27, 28, 29, 30, 31, 35, 1000] q q51 := fr_tr h0q50 g0q51 (by decide)
        have bgq51 : bg q20 q51 := bg_fr bgq50 g0q51 (by decide)
        have gbq51 : GD q20 q51 := GD_tr gbq50 (GD_eq wq51_30)
        have d10 := qkm_10 hqq51; have d13 := qkm_13 hqq51; have d14 := qkm_14 hqq51; have d20 := qkm_20 hqq51; have d26 := qkm_26 hqq51; have d27 := qkm_27 hqq51; have d28 := qkm_28 hqq51; have d30 := qkm_30 hqq51
        have mb0 : MB q51 (q51 14) (q51 15) := fun _ => MB_0 (by omega) (by omega) (by omega) (by omega) (by omega)
        exact J74 ((5000 * (5 - q51 30) + (1600 - q51 27)).toNat + 1) q51 H locs ls hqq51 h0q51 (show TS q51 by exact pq51_0) (show q51 13 = 1 - q51 10 by omega) (show MB q51 (q51 14) (q51 15) by exact mb0) (show q51 7 = q 7 ∧ q51 8 = q 8 by exact ⟨by omega, by omega⟩) (show q51 14 ≤ 4 by omega) hH hS (lv_sub hl [0] rfl) (Nat.lt_succ_self _)
      · skip
        have rlc41 : v20_1.toInt < x40.toInt := iv_nle c41
        have ir52 : IV v20_1 0 1599 := iv_uL iv20_1 ix40 (iv_nle c41) (by decide)
        have ir52a := ir52.1; have ir52b := ir52.2
        have ir53 : IV x40 1 1600 := iv_uR iv20_1 ix40 (iv_nle c41) (by decide)
        have ir53a := ir53.1; have ir53b := ir53.2
        refine lv_aload_n hx hb dX11_house_28 rfl (lv_at hl 0 rfl) ?_
        refine th_get S hK hH inG11 t0 km_0 rfl 1 (by decide) gm_1231 rfl rfl dX11_house_29 (fun v54 hv54 fv54 => ?_)
        obtain ⟨rf55, rfl, trf55⟩ := th_V.ref hv54
        refine lv_iload_n hx hb dX11_house_32 rfl (lv_at hl 1 rfl) ?_
        refine lv_aload_n hx hb dX11_house_33 rfl (lv_at hl 0 rfl) ?_
        refine th_get S hK hH inG11 t0 km_0 rfl 0 (by decide) gm_1230 rfl rfl dX11_house_34 (fun v56 hv56 fv56 => ?_)
        obtain ⟨rf57, rfl, trf57⟩ := th_V.ref hv56
        refine lv_iload_n hx hb dX11_house_37 rfl (lv_at hl 1 rfl) ?_
        refine th_bald S hK hH trf57 km_1 (th_in (hi := 1599) ir52 (by decide)) dX11_house_38 (fun v58 hv58 => ?_)
        obtain ⟨x59, rfl, ix59⟩ := th_V.int hv58
        obtain ⟨n60, en60⟩ : ∃ z : Int, z = (vp_nar .byte x59).toInt := ⟨_, rfl⟩
        have jq61 := th_nat (hi := 1599) ir52
        refine mst_2 S hK hH hS ⟨2, by decide, trf55⟩ hT trf55 en60 (th_in (hi := 1599) ir52 (by decide)) dX11_house_39 (fun q61 H locs eq61 hH hS hq1 => ?_)
        have hqq61 : qkm q61 := by rw [eq61]; exact qkm_big2 hq20 (th_lt (th_in (hi := 1599) ir52 (by decide)))
        have h0q61 : fr [7, 8, 10, 11, 12, 13, 14, 15, 16, 17, 18, 19, 20, 21, 22, 23, 24, 25, 26, 27, 28, 29, 30, 31, 35, 1000] q q61 := by rw [eq61]; exact fr_upB h020 (by omega) (by decide)
        have wq61_7 : q61 7 = q20 7 := by rw [eq61]; exact if_neg (by omega)
        have wq61_8 : q61 8 = q20 8 := by rw [eq61]; exact if_neg (by omega)
        have wq61_10 : q61 10 = q20 10 := by rw [eq61]; exact if_neg (by omega)
        have wq61_13 : q61 13 = q20 13 := by rw [eq61]; exact if_neg (by omega)
        have wq61_14 : q61 14 = q20 14 := by rw [eq61]; exact if_neg (by omega)
        have wq61_15 : q61 15 = q20 15 := by rw [eq61]; exact if_neg (by omega)
        have wq61_20 : q61 20 = q20 20 := by rw [eq61]; exact if_neg (by omega)
        have wq61_21 : q61 21 = q20 21 := by rw [eq61]; exact if_neg (by omega)
        have wq61_22 : q61 22 = q20 22 := by rw [eq61]; exact if_neg (by omega)
        have wq61_23 : q61 23 = q20 23 := by rw [eq61]; exact if_neg (by omega)
        have wq61_24 : q61 24 = q20 24 := by rw [eq61]; exact if_neg (by omega)
        have wq61_26 : q61 26 = q20 26 := by rw [eq61]; exact if_neg (by omega)
        have wq61_27 : q61 27 = q20 27 := by rw [eq61]; exact if_neg (by omega)
        have wq61_28 : q61 28 = q20 28 := by rw [eq61]; exact if_neg (by omega)
        have wq61_29 : q61 29 = q20 29 := by rw [eq61]; exact if_neg (by omega)
        have wq61_30 : q61 30 = q20 30 := by rw [eq61]; exact if_neg (by omega)
        have wq61_31 : q61 31 = q20 31 := by rw [eq61]; exact if_neg (by omega)
        have wq61_35 : q61 35 = q20 35 := by rw [eq61]; exact if_neg (by omega)
        refine th_iinc S dX11_house_40 hl (k := 1) rfl (by decide) ir52 (by decide) (fun x62 ls ex62 ix62 hl => ?_)
        have hl : lv_has ls 2 [(1, .int x62), (0, .ref a0)] := hl
        have ix62 : IV x62 1 1600 := ix62
        refine lv_goto (tgt := 20) hx hb dX11_house_43 (by decide) ?_
        exact ih20 q61 H locs ls x62 hqq61 h0q61 (iv_w ix62 (by decide)) (show q61 7 = q 7 ∧ q61 8 = q 8 by exact ⟨by omega, by omega⟩) (show q61 30 = 0 by omega) hH hS (lv_sub hl [1, 0] rfl) (th_up iv20_1 ex62 (by decide) hn20)

set_option maxHeartbeats 20000000 in
set_option maxRecDepth 100000 in
theorem m_X11_house (l : Launch) (D : va_G) (cT : Nat → ClassId) (T : Nat → Option Nat) (q : Nat → Int) (hT : tokm T) (hq : qkm q) (a0 : Nat) (t0 : T a0 = some 0) (hp0 : q 7 + q 8 ≤ 40) : th_MetM l D cT T q yX11_house cX11_house 2 (some .int) (rmk 8 173) [.ref a0] (fun v q2 => ∃ r : Int32, v = some (.int r) ∧ IV r (-1) 4 ∧ qkm q2 ∧ fr [7, 8, 10, 11, 12, 13, 14, 15, 16, 17, 18, 19, 20, 21, 22, 23, 24, 25, 26, 27, 28, 29, 30, 31, 35, 1000] q q2 ∧ (q2 7 + q2 8 ≤ 40)) [0, 2, 3, 4, 5, 6, 7, 8, 9, 10, 11, 12, 13, 14, 15, 16, 17, 18, 19, 20, 21, 22, 23, 24, 25, 26, 27, 28, 29, 30, 31, 33, 44] := by
  refine th_startM (by decide) (Nat.le_of_ble_eq_true rfl) ?_
  intro p e s m below meth c ls S hK hH hr hlocks hnm hl
  have hx := S.1
  have hb := S.2.1
  have c10 := qkm_10 hq; have c13 := qkm_13 hq; have c26 := qkm_26 hq; have c27 := qkm_27 hq
  have hl : lv_has ls 2 [(0, .ref a0)] := hl
  have J74 := J74_X11_house l D cT T q hT hq a0 t0 hp0 p e s m below meth c S hK hr hlocks
  have J20 := J20_X11_house l D cT T q hT hq a0 t0 hp0 p e s m below meth c S hK hr hlocks
  have J0 : ∀ (H : Heap) (locs : List Loc) (ls : Array Slot), th_H D cT T (km q) H → va_S (th_A T [0, 2, 3, 4, 5, 6, 7, 8, 9, 10, 11, 12, 13, 14, 15, 16, 17, 18, 19, 20, 21, 22, 23, 24, 25, 26, 27, 28, 29, 30, 31, 33, 44]) s.heap H locs → lv_has ls 2 [(0, .ref a0)] → W p l e (rmk 8 173) s m [.ref a0].toArray below meth c H locs 0 0 (MQ below (th_QM D cT T (fun v q2 => ∃ r : Int32, v = some (.int r) ∧ IV r (-1) 4 ∧ qkm q2 ∧ fr [7, 8, 10, 11, 12, 13, 14, 15, 16, 17, 18, 19, 20, 21, 22, 23, 24, 25, 26, 27, 28, 29, 30, 31, 35, 1000] q q2 ∧ (q2 7 + q2 8 ≤ 40)) [0, 2, 3, 4, 5, 6, 7, 8, 9, 10, 11, 12, 13, 14, 15, 16, 17, 18, 19, 20, 21, 22, 23, 24, 25, 26, 27, 28, 29, 30, 31, 33, 44]) [.ref a0].toArray s 0 0 (th_A T [0, 2, 3, 4, 5, 6, 7, 8, 9, 10, 11, 12, 13, 14, 15, 16, 17, 18, 19, 20, 21, 22, 23, 24, 25, 26, 27, 28, 29, 30, 31, 33, 44])) (F0 m 0 ls []) := by
    intro H locs ls hH hS hl
    refine lv_aload_n hx hb dX11_house_0 rfl (lv_at hl 0 rfl) ?_
    refine lv_iconst (v := 0) hx hb dX11_house_1 (by decide) ?_
    obtain ⟨n64, en64⟩ : ∃ z : Int, z = Int32.toInt 0 := ⟨_, rfl⟩
    have fn64 : n64 = 0 := by rw [en64]; rfl
    refine mput_30 S hK hH hS ⟨0, by decide, t0⟩ hT t0 en64 gm_1234 dX11_house_2 (fun q63 H locs eq63 hH hS hq1 => ?_)
    have hqq63 : qkm q63 := by rw [eq63]; exact qum_ok30 hq (iv_z en64 (iv_w (iv_c (by decide) : IV 0 0 0) (by decide)))
    have h0q63 : fr [7, 8, 10, 11, 12, 13, 14, 15, 16, 17, 18, 19, 20, 21, 22, 23, 24, 25, 26, 27, 28, 29, 30, 31, 35, 1000] q q63 := by rw [eq63]; exact fr_up fr_rf (by decide)
    have wq63_7 : q63 7 = q 7 := by rw [eq63]; rfl
    have wq63_8 : q63 8 = q 8 := by rw [eq63]; rfl
    have wq63_10 : q63 10 = q 10 := by rw [eq63]; rfl
    have wq63_13 : q63 13 = q 13 := by rw [eq63]; rfl
    have wq63_14 : q63 14 = q 14 := by rw [eq63]; rfl
    have wq63_15 : q63 15 = q 15 := by rw [eq63]; rfl
    have wq63_20 : q63 20 = q 20 := by rw [eq63]; rfl
    have wq63_21 : q63 21 = q 21 := by rw [eq63]; rfl
    have wq63_22 : q63 22 = q 22 := by rw [eq63]; rfl
    have wq63_23 : q63 23 = q 23 := by rw [eq63]; rfl
    have wq63_24 : q63 24 = q 24 := by rw [eq63]; rfl
    have wq63_26 : q63 26 = q 26 := by rw [eq63]; rfl
    have wq63_27 : q63 27 = q 27 := by rw [eq63]; rfl
    have wq63_28 : q63 28 = q 28 := by rw [eq63]; rfl
    have wq63_29 : q63 29 = q 29 := by rw [eq63]; rfl
    have wq63_30 : q63 30 = 0 := by rw [show q63 30 = n64 by rw [eq63]; rfl, fn64]
    have wq63_31 : q63 31 = q 31 := by rw [eq63]; rfl
    have wq63_35 : q63 35 = q 35 := by rw [eq63]; rfl
    have bgq63 : bg q q63 := bg_up bg_rf eq63 (by decide)
    clear en64 fn64
    refine lv_aload_n hx hb dX11_house_5 rfl (lv_at hl 0 rfl) ?_
    refine lv_iconst (v := (-1)) hx hb dX11_house_6 (by decide) ?_
    refine th_put S hK hH hS ⟨0, by decide, t0⟩ inG11 tyX11 tyX11_ok nmX11 t0 km_0 rfl 5 (by decide) gm_1235 rfl rfl rfl rfl (th_iv (iv_top _)) (fun vs h => nmR_set h.2.2 (by decide) rfl) (ty := .int) (by decide +kernel) rfl rfl dX11_house_7 (fun H locs hH hS hq1 hp1 => ?_)
    refine lv_aload_n hx hb dX11_house_10 rfl (lv_at hl 0 rfl) ?_
    refine lv_aload_n hx hb dX11_house_11 rfl (lv_at hl 0 rfl) ?_
    refine th_get S hK hH inG11 t0 km_0 rfl 2 (by decide) gm_1232 rfl rfl dX11_house_12 (fun v65 hv65 fv65 => ?_)
    obtain ⟨x66, rfl, ix66⟩ := th_V.int hv65
    obtain ⟨n68, en68⟩ : ∃ z : Int, z = Int32.toInt x66 := ⟨_, rfl⟩
    refine mput_26 S hK hH hS ⟨0, by decide, t0⟩ hT t0 en68 gm_1233 dX11_house_15 (fun q67 H locs eq67 hH hS hq1 => ?_)
    have hqq67 : qkm q67 := by rw [eq67]; exact qum_ok26 hqq63 (iv_z en68 ix66)
    have h0q67 : fr [7, 8, 10, 11, 12, 13, 14, 15, 16, 17, 18, 19, 20, 21, 22, 23, 24, 25, 26, 27, 28, 29, 30, 31, 35, 1000] q q67 := by rw [eq67]; exact fr_up h0q63 (by decide)
    have wq67_7 : q67 7 = q63 7 := by rw [eq67]; rfl
    have wq67_8 : q67 8 = q63 8 := by rw [eq67]; rfl
    have wq67_10 : q67 10 = q63 10 := by rw [eq67]; rfl
    have wq67_13 : q67 13 = q63 13 := by rw [eq67]; rfl
    have wq67_14 : q67 14 = q63 14 := by rw [eq67]; rfl
    have wq67_15 : q67 15 = q63 15 := by rw [eq67]; rfl
    have wq67_20 : q67 20 = q63 20 := by rw [eq67]; rfl
    have wq67_21 : q67 21 = q63 21 := by rw [eq67]; rfl
    have wq67_22 : q67 22 = q63 22 := by rw [eq67]; rfl
    have wq67_23 : q67 23 = q63 23 := by rw [eq67]; rfl
    have wq67_24 : q67 24 = q63 24 := by rw [eq67]; rfl
    have wq67_26 : q67 26 = n68 := by rw [eq67]; rfl
    have wq67_27 : q67 27 = q63 27 := by rw [eq67]; rfl
    have wq67_28 : q67 28 = q63 28 := by rw [eq67]; rfl
    have wq67_29 : q67 29 = q63 29 := by rw [eq67]; rfl
    have wq67_30 : q67 30 = q63 30 := by rw [eq67]; rfl
    have wq67_31 : q67 31 = q63 31 := by rw [eq67]; rfl
    have wq67_35 : q67 35 = q63 35 := by rw [eq67]; rfl
    have bgq67 : bg q q67 := bg_up bgq63 eq67 (by decide)
    refine lv_iconst (v := 0) hx hb dX11_house_18 (by decide) ?_
    refine lv_istore_n (lv' := [(1, .int 0), (0, .ref a0)]) hx hb dX11_house_19 rfl hl (by decide) rfl (fun ls hl => ?_)
    exact J20 ((1600 + 1 - Int32.toInt 0).toNat + 1) q67 H locs ls 0 hqq67 h0q67 (iv_w (iv_c (by decide) : IV 0 0 0) (by decide)) (show q67 7 = q 7 ∧ q67 8 = q 8 by exact ⟨by omega, by omega⟩) (show q67 30 = 0 by omega) hH hS (lv_sub hl [1, 0] rfl) (Nat.lt_succ_self _)
  exact J0 s.heap [] ls hH va_S.rf hl
