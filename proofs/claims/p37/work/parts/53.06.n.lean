theorem dX11_isSignHere_0 : decode cX11_isSignHere 0 = .ok (.aload_n 0, 1) := by decide +kernel
theorem dX11_isSignHere_1 : decode cX11_isSignHere 1 = .ok (.getfield 215, 3) := by decide +kernel
theorem dX11_isSignHere_4 : decode cX11_isSignHere 4 = .ok (.iconst 5, 1) := by decide +kernel
theorem dX11_isSignHere_5 : decode cX11_isSignHere 5 = .ok (.if_icmp .ne 19, 3) := by decide +kernel
theorem dX11_isSignHere_8 : decode cX11_isSignHere 8 = .ok (.aload_n 0, 1) := by decide +kernel
theorem dX11_isSignHere_9 : decode cX11_isSignHere 9 = .ok (.aload_n 0, 1) := by decide +kernel
theorem dX11_isSignHere_10 : decode cX11_isSignHere 10 = .ok (.getfield 208, 3) := by decide +kernel
theorem dX11_isSignHere_13 : decode cX11_isSignHere 13 = .ok (.invokevirtual 211, 3) := by decide +kernel
theorem dX11_isSignHere_16 : decode cX11_isSignHere 16 = .ok (.iload_n 1, 1) := by decide +kernel
theorem dX11_isSignHere_17 : decode cX11_isSignHere 17 = .ok (.if_icmp .ne 7, 3) := by decide +kernel
theorem dX11_isSignHere_20 : decode cX11_isSignHere 20 = .ok (.iconst 1, 1) := by decide +kernel
theorem dX11_isSignHere_21 : decode cX11_isSignHere 21 = .ok (.goto 4, 3) := by decide +kernel
theorem dX11_isSignHere_24 : decode cX11_isSignHere 24 = .ok (.iconst 0, 1) := by decide +kernel
theorem dX11_isSignHere_25 : decode cX11_isSignHere 25 = .ok (.ireturn, 1) := by decide +kernel
set_option maxHeartbeats 20000000 in
set_option maxRecDepth 100000 in
theorem J8_X11_goOn (l : Launch) (D : va_G) (cT : Nat → ClassId) (T : Nat → Option Nat) (q : Nat → Int) (hT : tokm T) (hq : qkm q) (a0 : Nat) (t0 : T a0 = some 0) (hp0 : q 28 ≤ q 26) (p : Program) (e : Env) (s : State) (m : MethodId) (below : List Frame) (meth : Method) (c : Code) (S : CallFix p m c cX11_goOn 3 s [.ref a0].toArray gw yX11_goOn.cls) (hK : va_K D classes (th_tys cT) s) (hr : meth.sig.returnType = none) (hlocks : meth.locks = false) : ∀ (n : Nat) (q8 : Nat → Int) (H : Heap) (locs : List Loc) (ls : Array Slot), qkm q8 → fr [27, 28, 29, 31] q q8 → (q8 28 = q 28 ∧ q 28 ≤ q8 27 ∧ q8 27 ≤ q8 26) → th_H D cT T (km q8) H → va_S (th_A T [0]) s.heap H locs → lv_has ls 3 [(0, .ref a0)] → (q8 26 - q8 27).toNat < n → W p l e (rmk 1 22) s m [.ref a0].toArray below meth c H locs 0 0 (MQ below (th_QM D cT T (fun v q2 => v = none ∧ qkm q2 ∧ fr [27, 28, 29, 31] q q2 ∧ (TS q2) ∧ (q 28 ≤ q2 27) ∧ (LX q q2)) [0]) [.ref a0].toArray s 0 0 (th_A T [0])) (F0 m 8 ls []) := by
    have hx := S.1
    have hb := S.2.1
    have b26 := qkm_26 hq; have b28 := qkm_28 hq
    have J58 := J58_X11_goOn l D cT T q hT hq a0 t0 hp0 p e s m below meth c S hK hr hlocks
    intro n
    induction n with
    | zero => intro q8 H locs ls hq8 h08 v8_inv0 hH hS hl hn; exact absurd hn (Nat.not_lt_zero _)
    | succ n ih8 =>
      intro q8 H locs ls hq8 h08 v8_inv0 hH hS hl hn8
      have w8_26 : q8 26 = q 26 := h08 26 (by decide) (Or.inl (by decide))
      have J45 : ∀ (H : Heap) (locs : List Loc) (ls : Array Slot), (q8 28 = q 28 ∧ q 28 ≤ q8 27 ∧ q8 27 ≤ q8 26) → (q8 27 < q8 26) → th_H D cT T (km q8) H → va_S (th_A T [0]) s.heap H locs → lv_has ls 3 [(0, .ref a0)] → W p l e (rmk 1 22) s m [.ref a0].toArray below meth c H locs 0 0 (MQ below (th_QM D cT T (fun v q2 => v = none ∧ qkm q2 ∧ fr [27, 28, 29, 31] q q2 ∧ (TS q2) ∧ (q 28 ≤ q2 27) ∧ (LX q q2)) [0]) [.ref a0].toArray s 0 0 (th_A T [0])) (F0 m 45 ls []) := by
        intro H locs ls v45_inv0 v45_inv1 hH hS hl
        refine lv_aload_n hx hb dX11_goOn_45 rfl (lv_at hl 0 rfl) ?_
        refine lv_dup hx hb dX11_goOn_46 rfl ?_
        refine th_get S hK hH inG11 t0 km_0 rfl 6 (by decide) gm_1236 rfl rfl dX11_goOn_47 (fun v152 hv152 fv152 => ?_)
        obtain ⟨x153, rfl, ix153⟩ := th_V.int hv152
        have kx153 : x153.toInt = q8 27 := Int.le_antisymm ix153.2 ix153.1
        have bx153 := qkm_27 hq8
        have ix153 : IV x153 0 1600 := iv_w ix153 (qkm_27 hq8)
        refine lv_iconst (v := 1) hx hb dX11_goOn_50 (by decide) ?_
        refine lv_iadd hx hb dX11_goOn_51 ?_
        refine lv_topi (fun x154 ex154 => ?_)
        have ix154 : IV x154 1 1601 := by rw [ex154]; exact iv_add ix153 (iv_c (by decide) : IV 1 1 1) (by decide)
        have ux154 : x154.toInt = x153.toInt + (1 : Int) := by rw [ex154]; exact iv_addE (by have z1 := (ix153).1; have z2 := (ix153).2; have z3 := ((iv_c (by decide) : IV 1 1 1)).1; have z4 := ((iv_c (by decide) : IV 1 1 1)).2; omega)
        obtain ⟨n156, en156⟩ : ∃ z : Int, z = Int32.toInt x154 := ⟨_, rfl⟩
        refine mput_27 S hK hH hS ⟨0, by decide, t0⟩ hT t0 en156 gm_1236 dX11_goOn_52 (fun q155 H locs eq155 hH hS hq1 => ?_)
        have hqq155 : qkm q155 := by rw [eq155]; exact qum_ok27 hq8 (by have z1 := (ix154).1; have z2 := (ix154).2; exact ⟨by omega, by omega⟩)
        have h0q155 : fr [27, 28, 29, 31] q q155 := by rw [eq155]; exact fr_up h08 (by decide)
        have wq155_26 : q155 26 = q8 26 := by rw [eq155]; rfl
        have wq155_27 : q155 27 = q8 27 + (1 : Int) := by rw [show q155 27 = n156 by rw [eq155]; rfl, en156, ux154, kx153]
        have wq155_28 : q155 28 = q8 28 := by rw [eq155]; rfl
        have wq155_29 : q155 29 = q8 29 := by rw [eq155]; rfl
        have wq155_31 : q155 31 = q8 31 := by rw [eq155]; rfl
        clear en156
        clear ux154
        refine lv_goto (tgt := 8) hx hb dX11_goOn_55 (by decide) ?_
        exact ih8 q155 H locs ls hqq155 h0q155 (show q155 28 = q 28 ∧ q 28 ≤ q155 27 ∧ q155 27 ≤ q155 26 by exact ⟨by omega, by omega, by omega⟩) hH hS (lv_sub hl [0] rfl) (show (q155 26 - q155 27).toNat < n by omega)
      refine lv_aload_n hx hb dX11_goOn_8 rfl (lv_at hl 0 rfl) ?_
      refine th_get S hK hH inG11 t0 km_0 rfl 6 (by decide) gm_1236 rfl rfl dX11_goOn_9 (fun v157 hv157 fv157 => ?_)
      obtain ⟨x158, rfl, ix158⟩ := th_V.int hv157
      have kx158 : x158.toInt = q8 27 := Int.le_antisymm ix158.2 ix158.1
      have bx158 := qkm_27 hq8
      have ix158 : IV x158 0 1600 := iv_w ix158 (qkm_27 hq8)
      refine lv_aload_n hx hb dX11_goOn_12 rfl (lv_at hl 0 rfl) ?_
      refine th_get S hK hH inG11 t0 km_0 rfl 3 (by decide) gm_1233 rfl rfl dX11_goOn_13 (fun v159 hv159 fv159 => ?_)
      obtain ⟨x160, rfl, ix160⟩ := th_V.int hv159
      have kx160 : x160.toInt = q8 26 := Int.le_antisymm ix160.2 ix160.1
      have bx160 := qkm_26 hq8
      have ix160 : IV x160 0 1600 := iv_w ix160 (qkm_26 hq8)
      refine lv_icmp_ge (tgt := 58) hx hb dX11_goOn_16 (by decide) (fun c161 => ?_) (fun c161 => ?_)
      · skip
        have rlc161 : x160.toInt ≤ x158.toInt := iv_le c161
        exact J58 q8 H locs ls hq8 h08 (show q8 28 = q 28 ∧ q 28 ≤ q8 27 ∧ q8 27 ≤ q8 26 by exact ⟨by omega, by omega, by omega⟩) hH hS (lv_sub hl [0] rfl)
      · skip
        have rlc161 : x158.toInt < x160.toInt := iv_nle c161
        have ir162 : IV x158 0 1599 := iv_uL ix158 ix160 (iv_nle c161) (by decide)
        have ir162a := ir162.1; have ir162b := ir162.2
        have ir163 : IV x160 1 1600 := iv_uR ix158 ix160 (iv_nle c161) (by decide)
        have ir163a := ir163.1; have ir163b := ir163.2
        refine lv_aload_n hx hb dX11_goOn_19 rfl (lv_at hl 0 rfl) ?_
        refine lv_aload_n hx hb dX11_goOn_20 rfl (lv_at hl 0 rfl) ?_
        refine th_get S hK hH inG11 t0 km_0 rfl 6 (by decide) gm_1236 rfl rfl dX11_goOn_21 (fun v164 hv164 fv164 => ?_)
        obtain ⟨x165, rfl, ix165⟩ := th_V.int hv164
        have kx165 : x165.toInt = q8 27 := Int.le_antisymm ix165.2 ix165.1
        have bx165 := qkm_27 hq8
        have ix165 : IV x165 0 1600 := iv_w ix165 (qkm_27 hq8)
        refine th_callVp (n := 1) (As := [.int x165]) S hK hH hS (th_A.sub (by decide)) (m_X11_sign l D cT T q8 hT hq8 a0 t0 (x165) (iv_w ix165 (by decide))) gm_1449 gm_1446 gm_1448 gm_48 gm_124 (by decide +kernel) ⟨rfl, rfl, Nat.le_of_ble_eq_true rfl, Nat.le_of_ble_eq_true rfl⟩ t0 km_0 rfl rfl hl.1 rfl (Nat.le_of_ble_eq_true rfl) dX11_goOn_24 ⟨Nat.zero_le _, Nat.zero_le _⟩ (fun x166 H locs ix166 ox166 hH hS hF1 => ?_)
        have ox166 : x166.toInt = sg q8 x165.toInt := ox166
        have l1x166 := ix166.1; have l2x166 := ix166.2
        refine lv_bipush (v := 32) hx hb dX11_goOn_27 (by decide) ?_
        refine lv_icmp_eq (tgt := 45) hx hb dX11_goOn_29 (by decide) (fun c167 => ?_) (fun c167 => ?_)
        · skip
          have rlc167 : x166.toInt = (32 : Int) := congrArg Int32.toInt c167
          have ir168 : IV x166 32 32 := iv_eL c167 (iv_c (by decide) : IV 32 32 32)
          have ir168a := ir168.1; have ir168b := ir168.2
          exact J45 H locs ls (show q8 28 = q 28 ∧ q 28 ≤ q8 27 ∧ q8 27 ≤ q8 26 by exact ⟨by omega, by omega, by omega⟩) (show q8 27 < q8 26 by omega) hH hS (lv_sub hl [0] rfl)
        · skip
          have rlc167 : x166.toInt ≠ (32 : Int) := iv_ne c167
          refine lv_aload_n hx hb dX11_goOn_32 rfl (lv_at hl 0 rfl) ?_
          refine lv_aload_n hx hb dX11_goOn_33 rfl (lv_at hl 0 rfl) ?_
          refine th_get S hK hH inG11 t0 km_0 rfl 6 (by decide) gm_1236 rfl rfl dX11_goOn_34 (fun v169 hv169 fv169 => ?_)
          obtain ⟨x170, rfl, ix170⟩ := th_V.int hv169
          have kx170 : x170.toInt = q8 27 := Int.le_antisymm ix170.2 ix170.1
          have bx170 := qkm_27 hq8
          have ix170 : IV x170 0 1600 := iv_w ix170 (qkm_27 hq8)
          refine th_callVp (n := 1) (As := [.int x170]) S hK hH hS (th_A.sub (by decide)) (m_X11_sign l D cT T q8 hT hq8 a0 t0 (x170) (iv_w ix170 (by decide))) gm_1449 gm_1446 gm_1448 gm_48 gm_124 (by decide +kernel) ⟨rfl, rfl, Nat.le_of_ble_eq_true rfl, Nat.le_of_ble_eq_true rfl⟩ t0 km_0 rfl rfl hl.1 rfl (Nat.le_of_ble_eq_true rfl) dX11_goOn_37 ⟨Nat.zero_le _, Nat.zero_le _⟩ (fun x171 H locs ix171 ox171 hH hS hF1 => ?_)
          have ox171 : x171.toInt = sg q8 x170.toInt := ox171
          have l1x171 := ix171.1; have l2x171 := ix171.2
          refine lv_bipush (v := 10) hx hb dX11_goOn_40 (by decide) ?_
          refine lv_icmp_ne (tgt := 58) hx hb dX11_goOn_42 (by decide) (fun c172 => ?_) (fun c172 => ?_)
          · skip
            have rlc172 : x171.toInt ≠ (10 : Int) := iv_ne c172
            exact J58 q8 H locs ls hq8 h08 (show q8 28 = q 28 ∧ q 28 ≤ q8 27 ∧ q8 27 ≤ q8 26 by exact ⟨by omega, by omega, by omega⟩) hH hS (lv_sub hl [0] rfl)
          · skip
            have rlc172 : x171.toInt = (10 : Int) := congrArg Int32.toInt c172
            have ir173 : IV x171 10 10 := iv_eL c172 (iv_c (by decide) : IV 10 10 10)
            have ir173a := ir173.1; have ir173b := ir173.2
            exact J45 H locs ls (show q8 28 = q 28 ∧ q 28 ≤ q8 27 ∧ q8 27 ≤ q8 26 by exact ⟨by omega, by omega, by omega⟩) (show q8 27 < q8 26 by omega) hH hS (lv_sub hl [0] rfl)

set_option maxHeartbeats 20000000 in
set_option maxRecDepth 100000 in
theorem m_X11_goOn (l : Launch) (D : va_G) (cT : Nat → ClassId) (T : Nat → Option Nat) (q : Nat → Int) (hT : tokm T) (hq : qkm q) (a0 : Nat) (t0 : T a0 = some 0) (hp0 : q 28 ≤ q 26) : th_MetM l D cT T q yX11_goOn cX11_goOn 3 none (rmk 1 22) [.ref a0] (fun v q2 => v = none ∧ qkm q2 ∧ fr [27, 28, 29, 31] q q2 ∧ (TS q2) ∧ (q 28 ≤ q2 27) ∧ (LX q q2)) [0] := by
  refine th_startM (by decide) (Nat.le_of_ble_eq_true rfl) ?_
  intro p e s m below meth c ls S hK hH hr hlocks hnm hl
  have hx := S.1
  have hb := S.2.1
  have b26 := qkm_26 hq; have b28 := qkm_28 hq
  have hl : lv_has ls 3 [(0, .ref a0)] := hl
  have J377 := J377_X11_goOn l D cT T q hT hq a0 t0 hp0 p e s m below meth c S hK hr hlocks
  have J374_s1_1 := J374_s1_1_X11_goOn l D cT T q hT hq a0 t0 hp0 p e s m below meth c S hK hr hlocks
  have J374_s1_5 := J374_s1_5_X11_goOn l D cT T q hT hq a0 t0 hp0 p e s m below meth c S hK hr hlocks
  have J355_s1_1 := J355_s1_1_X11_goOn l D cT T q hT hq a0 t0 hp0 p e s m below meth c S hK hr hlocks
  have J355_s1_4 := J355_s1_4_X11_goOn l D cT T q hT hq a0 t0 hp0 p e s m below meth c S hK hr hlocks
  have J350 := J350_X11_goOn l D cT T q hT hq a0 t0 hp0 p e s m below meth c S hK hr hlocks
  have J259 := J259_X11_goOn l D cT T q hT hq a0 t0 hp0 p e s m below meth c S hK hr hlocks
  have J233_s1_1 := J233_s1_1_X11_goOn l D cT T q hT hq a0 t0 hp0 p e s m below meth c S hK hr hlocks
  have J233_s1_2 := J233_s1_2_X11_goOn l D cT T q hT hq a0 t0 hp0 p e s m below meth c S hK hr hlocks
  have J233_s1_3 := J233_s1_3_X11_goOn l D cT T q hT hq a0 t0 hp0 p e s m below meth c S hK hr hlocks
  have J199 := J199_X11_goOn l D cT T q hT hq a0 t0 hp0 p e s m below meth c S hK hr hlocks
  have J156 := J156_X11_goOn l D cT T q hT hq a0 t0 hp0 p e s m below meth c S hK hr hlocks
  have J119 := J119_X11_goOn l D cT T q hT hq a0 t0 hp0 p e s m below meth c S hK hr hlocks
  have J58 := J58_X11_goOn l D cT T q hT hq a0 t0 hp0 p e s m below meth c S hK hr hlocks
  have J8 := J8_X11_goOn l D cT T q hT hq a0 t0 hp0 p e s m below meth c S hK hr hlocks
  have J0 : ∀ (H : Heap) (locs : List Loc) (ls : Array Slot), th_H D cT T (km q) H → va_S (th_A T [0]) s.heap H locs → lv_has ls 3 [(0, .ref a0)] → W p l e (rmk 1 22) s m [.ref a0].toArray below meth c H locs 0 0 (MQ below (th_QM D cT T (fun v q2 => v = none ∧ qkm q2 ∧ fr [27, 28, 29, 31] q q2 ∧ (TS q2) ∧ (q 28 ≤ q2 27) ∧ (LX q q2)) [0]) [.ref a0].toArray s 0 0 (th_A T [0])) (F0 m 0 ls []) := by
    intro H locs ls hH hS hl
    refine lv_aload_n hx hb dX11_goOn_0 rfl (lv_at hl 0 rfl) ?_
    refine lv_aload_n hx hb dX11_goOn_1 rfl (lv_at hl 0 rfl) ?_
    refine th_get S hK hH inG11 t0 km_0 rfl 7 (by decide) gm_1237 rfl rfl dX11_goOn_2 (fun v174 hv174 fv174 => ?_)
    obtain ⟨x175, rfl, ix175⟩ := th_V.int hv174
    have kx175 : x175.toInt = q 28 := Int.le_antisymm ix175.2 ix175.1
    have bx175 := qkm_28 hq
    have ix175 : IV x175 0 1601 := iv_w ix175 (qkm_28 hq)
    obtain ⟨n177, en177⟩ : ∃ z : Int, z = Int32.toInt x175 := ⟨_, rfl⟩
    refine mput_27 S hK hH hS ⟨0, by decide, t0⟩ hT t0 en177 gm_1236 dX11_goOn_5 (fun q176 H locs eq176 hH hS hq1 => ?_)
    have hqq176 : qkm q176 := by rw [eq176]; exact qum_ok27 hq (by have z1 := (ix175).1; have z2 := (ix175).2; exact ⟨by omega, by omega⟩)
    have h0q176 : fr [27, 28, 29, 31] q q176 := by rw [eq176]; exact fr_up fr_rf (by decide)
    have wq176_26 : q176 26 = q 26 := by rw [eq176]; rfl
    have wq176_27 : q176 27 = q 28 := by rw [show q176 27 = n177 by rw [eq176]; rfl, en177, kx175]
    have wq176_28 : q176 28 = q 28 := by rw [eq176]; rfl
    have wq176_29 : q176 29 = q 29 := by rw [eq176]; rfl
    have wq176_31 : q176 31 = q 31 := by rw [eq176]; rfl
    clear en177
    exact J8 ((q176 26 - q176 27).toNat + 1) q176 H locs ls hqq176 h0q176 (show q176 28 = q 28 ∧ q 28 ≤ q176 27 ∧ q176 27 ≤ q176 26 by exact ⟨by omega, by omega, by omega⟩) hH hS (lv_sub hl [0] rfl) (Nat.lt_succ_self _)
  exact J0 s.heap [] ls hH va_S.rf hl

set_option maxHeartbeats 20000000 in
set_option maxRecDepth 100000 in
theorem J25_s0_0_X11_isSignHere (l : Launch) (D : va_G) (cT : Nat → ClassId) (T : Nat → Option Nat) (q : Nat → Int) (hT : tokm T) (hq : qkm q) (a0 : Nat) (t0 : T a0 = some 0) (y1 : Int32) (j1 : IV y1 (-2147483648) 2147483647) (p : Program) (e : Env) (s : State) (m : MethodId) (below : List Frame) (meth : Method) (c : Code) (S : CallFix p m c cX11_isSignHere 2 s [.ref a0, .int y1].toArray gw yX11_isSignHere.cls) (hK : va_K D classes (th_tys cT) s) (hr : meth.sig.returnType = (some .boolean)) (hlocks : meth.locks = false) : ∀ (H : Heap) (locs : List Loc) (ls : Array Slot), ((0 : Int) ≠ 0 → q 29 = 5 ∧ sg q (q 27) = y1.toInt) → th_H D cT T (km q) H → va_S (th_A T []) s.heap H locs → lv_has ls 2 [] → W p l e (rmk 1 21) s m [.ref a0, .int y1].toArray below meth c H locs 0 0 (MQ below (th_Q D cT T (km q) (th_RP 0 1 (fun r => (r.toInt ≠ 0 → q 29 = 5 ∧ sg q (q 27) = y1.toInt))) []) [.ref a0, .int y1].toArray s 0 0 (th_A T [])) (F0 m 25 ls [.int 0]) := by
    have hx := S.1
    have hb := S.2.1
    intro H locs ls v25_inv0 hH hS hl
    exact th_zret S hK hH hS hr hlocks (iv_w (iv_c (by decide) : IV 0 0 0) (by decide)) (th_RP.i (iv_w (iv_c (by decide) : IV 0 0 0) (by decide)) (show (0 : Int) ≠ 0 → q 29 = 5 ∧ sg q (q 27) = y1.toInt by first | assumption | (first | omega | (intro z; omega)))) dX11_isSignHere_25


set_option maxHeartbeats 20000000 in
set_option maxRecDepth 100000 in
theorem J25_s0_1_X11_isSignHere (l : Launch) (D : va_G) (cT : Nat → ClassId) (T : Nat → Option Nat) (q : Nat → Int) (hT : tokm T) (hq : qkm q) (a0 : Nat) (t0 : T a0 = some 0) (y1 : Int32) (j1 : IV y1 (-2147483648) 2147483647) (p : Program) (e : Env) (s : State) (m : MethodId) (below : List Frame) (meth : Method) (c : Code) (S : CallFix p m c cX11_isSignHere 2 s [.ref a0, .int y1].toArray gw yX11_isSignHere.cls) (hK : va_K D classes (th_tys cT) s) (hr : meth.sig.returnType = (some .boolean)) (hlocks : meth.locks = false) : ∀ (H : Heap) (locs : List Loc) (ls : Array Slot), ((1 : Int) ≠ 0 → q 29 = 5 ∧ sg q (q 27) = y1.toInt) → th_H D cT T (km q) H → va_S (th_A T []) s.heap H locs → lv_has ls 2 [] → W p l e (rmk 1 21) s m [.ref a0, .int y1].toArray below meth c H locs 0 0 (MQ below (th_Q D cT T (km q) (th_RP 0 1 (fun r => (r.toInt ≠ 0 → q 29 = 5 ∧ sg q (q 27) = y1.toInt))) []) [.ref a0, .int y1].toArray s 0 0 (th_A T [])) (F0 m 25 ls [.int 1]) := by
    have hx := S.1
    have hb := S.2.1
    intro H locs ls v25_inv0 hH hS hl
    exact th_zret S hK hH hS hr hlocks (iv_w (iv_c (by decide) : IV 1 1 1) (by decide)) (th_RP.i (iv_w (iv_c (by decide) : IV 1 1 1) (by decide)) (show (1 : Int) ≠ 0 → q 29 = 5 ∧ sg q (q 27) = y1.toInt by first | assumption | (first | omega | (intro z; omega)))) dX11_isSignHere_25


set_option maxHeartbeats 20000000 in
set_option maxRecDepth 100000 in
theorem J24_X11_isSignHere (l : Launch) (D : va_G) (cT : Nat → ClassId) (T : Nat → Option Nat) (q : Nat → Int) (hT : tokm T) (hq : qkm q) (a0 : Nat) (t0 : T a0 = some 0) (y1 : Int32) (j1 : IV y1 (-2147483648) 2147483647) (p : Program) (e : Env) (s : State) (m : MethodId) (below : List Frame) (meth : Method) (c : Code) (S : CallFix p m c cX11_isSignHere 2 s [.ref a0, .int y1].toArray gw yX11_isSignHere.cls) (hK : va_K D classes (th_tys cT) s) (hr : meth.sig.returnType = (some .boolean)) (hlocks : meth.locks = false) : ∀ (H : Heap) (locs : List Loc) (ls : Array Slot), th_H D cT T (km q) H → va_S (th_A T []) s.heap H locs → lv_has ls 2 [] → W p l e (rmk 1 21) s m [.ref a0, .int y1].toArray below meth c H locs 0 0 (MQ below (th_Q D cT T (km q) (th_RP 0 1 (fun r => (r.toInt ≠ 0 → q 29 = 5 ∧ sg q (q 27) = y1.toInt))) []) [.ref a0, .int y1].toArray s 0 0 (th_A T [])) (F0 m 24 ls []) := by
    have hx := S.1
    have hb := S.2.1
    have J25_s0_0 := J25_s0_0_X11_isSignHere l D cT T q hT hq a0 t0 y1 j1 p e s m below meth c S hK hr hlocks
    intro H locs ls hH hS hl
    refine lv_iconst (v := 0) hx hb dX11_isSignHere_24 (by decide) ?_
    exact J25_s0_0 H locs ls (show (0 : Int) ≠ 0 → q 29 = 5 ∧ sg q (q 27) = y1.toInt by first | omega | (intro z; omega)) hH hS (lv_sub hl [] rfl)

set_option maxHeartbeats 20000000 in
set_option maxRecDepth 100000 in
theorem m_X11_isSignHere (l : Launch) (D : va_G) (cT : Nat → ClassId) (T : Nat → Option Nat) (q : Nat → Int) (hT : tokm T) (hq : qkm q) (a0 : Nat) (t0 : T a0 = some 0) (y1 : Int32) (j1 : IV y1 (-2147483648) 2147483647) : th_Met l D cT T (km q) yX11_isSignHere cX11_isSignHere 2 (some .boolean) (rmk 1 21) [.ref a0, .int y1] (th_RP 0 1 (fun r => (r.toInt ≠ 0 → q 29 = 5 ∧ sg q (q 27) = y1.toInt))) [] := by
  refine th_start (by decide) (Nat.le_of_ble_eq_true rfl) ?_
  intro p e s m below meth c ls S hK hH hr hlocks hnm hl
  have hx := S.1
  have hb := S.2.1
  have hl : lv_has ls 2 [(0, .ref a0), (1, .int y1)] := hl
  have J25_s0_0 := J25_s0_0_X11_isSignHere l D cT T q hT hq a0 t0 y1 j1 p e s m below meth c S hK hr hlocks
  have J25_s0_1 := J25_s0_1_X11_isSignHere l D cT T q hT hq a0 t0 y1 j1 p e s m below meth c S hK hr hlocks
  have J24 := J24_X11_isSignHere l D cT T q hT hq a0 t0 y1 j1 p e s m below meth c S hK hr hlocks
  have J0 : ∀ (H : Heap) (locs : List Loc) (ls : Array Slot), th_H D cT T (km q) H → va_S (th_A T []) s.heap H locs → lv_has ls 2 [(0, .ref a0), (1, .int y1)] → W p l e (rmk 1 21) s m [.ref a0, .int y1].toArray below meth c H locs 0 0 (MQ below (th_Q D cT T (km q) (th_RP 0 1 (fun r => (r.toInt ≠ 0 → q 29 = 5 ∧ sg q (q 27) = y1.toInt))) []) [.ref a0, .int y1].toArray s 0 0 (th_A T [])) (F0 m 0 ls []) := by
    intro H locs ls hH hS hl
    refine lv_aload_n hx hb dX11_isSignHere_0 rfl (lv_at hl 0 rfl) ?_
    refine th_get S hK hH inG11 t0 km_0 rfl 8 (by decide) gm_1238 rfl rfl dX11_isSignHere_1 (fun v1 hv1 fv1 => ?_)
    obtain ⟨x2, rfl, ix2⟩ := th_V.int hv1
    have kx2 : x2.toInt = q 29 := Int.le_antisymm ix2.2 ix2.1
    have ix2 : IV x2 0 5 := iv_w ix2 (qkm_29 hq)
    refine lv_iconst (v := 5) hx hb dX11_isSignHere_4 (by decide) ?_
    refine lv_icmp_ne (tgt := 24) hx hb dX11_isSignHere_5 (by decide) (fun c3 => ?_) (fun c3 => ?_)
    · skip
      have rlc3 : x2.toInt ≠ (5 : Int) := iv_ne c3
      have ir4 : IV x2 0 4 := iv_cutH ix2 (iv_c (by decide) : IV 5 5 5) c3 (by decide)
      have ir4a := ir4.1; have ir4b := ir4.2
      clear rlc3
      exact J24 H locs ls  hH hS (lv_sub hl [] rfl)
    · skip
      have rlc3 : x2.toInt = (5 : Int) := congrArg Int32.toInt c3
      have ir5 : IV x2 5 5 := ⟨(iv_eL c3 (iv_c (by decide) : IV 5 5 5)).1, ix2.2⟩
      have ir5a := ir5.1; have ir5b := ir5.2
      refine lv_aload_n hx hb dX11_isSignHere_8 rfl (lv_at hl 0 rfl) ?_
      refine lv_aload_n hx hb dX11_isSignHere_9 rfl (lv_at hl 0 rfl) ?_
      refine th_get S hK hH inG11 t0 km_0 rfl 6 (by decide) gm_1236 rfl rfl dX11_isSignHere_10 (fun v6 hv6 fv6 => ?_)
      obtain ⟨x7, rfl, ix7⟩ := th_V.int hv6
      have kx7 : x7.toInt = q 27 := Int.le_antisymm ix7.2 ix7.1
      have ix7 : IV x7 0 1600 := iv_w ix7 (qkm_27 hq)
      refine th_callVp (n := 1) (As := [.int x7]) S hK hH hS (th_A.sub (by decide)) (m_X11_sign l D cT T q hT hq a0 t0 (x7) (iv_w ix7 (by decide))) gm_1449 gm_1446 gm_1448 gm_48 gm_124 (by decide +kernel) ⟨rfl, rfl, Nat.le_of_ble_eq_true rfl, Nat.le_of_ble_eq_true rfl⟩ t0 km_0 rfl rfl hl.1 rfl (Nat.le_of_ble_eq_true rfl) dX11_isSignHere_13 ⟨Nat.zero_le _, Nat.zero_le _⟩ (fun x8 H locs ix8 ox8 hH hS hF1 => ?_)
      have ox8 : x8.toInt = sg q x7.toInt := ox8
      have hc : x8.toInt = sg q (q 27) := sg_eq ox8 (by omega)
      refine lv_iload_n hx hb dX11_isSignHere_16 rfl (lv_at hl 1 rfl) ?_
      refine lv_icmp_ne (tgt := 24) hx hb dX11_isSignHere_17 (by decide) (fun c9 => ?_) (fun c9 => ?_)
      · skip
        have rlc9 : x8.toInt ≠ y1.toInt := iv_ne c9
        clear rlc9
        exact J24 H locs ls  hH hS (lv_sub hl [] rfl)
      · skip
        have rlc9 : x8.toInt = y1.toInt := congrArg Int32.toInt c9
        have ir10 : IV y1 0 255 := iv_eR c9 ix8
        have ir10a := ir10.1; have ir10b := ir10.2
        refine lv_iconst (v := 1) hx hb dX11_isSignHere_20 (by decide) ?_
        refine lv_goto (tgt := 25) hx hb dX11_isSignHere_21 (by decide) ?_
        exact J25_s0_1 H locs ls (show (1 : Int) ≠ 0 → q 29 = 5 ∧ sg q (q 27) = y1.toInt by first | omega | (intro z; omega)) hH hS (lv_sub hl [] rfl)
  exact J0 s.heap [] ls hH va_S.rf hl
