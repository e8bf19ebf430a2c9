
set_option maxHeartbeats 20000000 in
set_option maxRecDepth 100000 in
theorem J355_s1_1_X11_goOn (l : Launch) (D : va_G) (cT : Nat → ClassId) (T : Nat → Option Nat) (q : Nat → Int) (hT : tokm T) (hq : qkm q) (a0 : Nat) (t0 : T a0 = some 0) (hp0 : q 28 ≤ q 26) (p : Program) (e : Env) (s : State) (m : MethodId) (below : List Frame) (meth : Method) (c : Code) (S : CallFix p m c cX11_goOn 3 s [.ref a0].toArray gw yX11_goOn.cls) (hK : va_K D classes (th_tys cT) s) (hr : meth.sig.returnType = none) (hlocks : meth.locks = false) : ∀ (q355 : Nat → Int) (H : Heap) (locs : List Loc) (ls : Array Slot), qkm q355 → fr [27, 28, 29, 31] q q355 → (q355 27 < q355 28 ∧ q355 28 ≤ q355 26 ∧ q 28 ≤ q355 27) → th_H D cT T (km q355) H → va_S (th_A T [0]) s.heap H locs → lv_has ls 3 [] → W p l e (rmk 1 22) s m [.ref a0].toArray below meth c H locs 0 0 (MQ below (th_QM D cT T (fun v q2 => v = none ∧ qkm q2 ∧ fr [27, 28, 29, 31] q q2 ∧ (TS q2) ∧ (q 28 ≤ q2 27) ∧ (LX q q2)) [0]) [.ref a0].toArray s 0 0 (th_A T [0])) (F0 m 355 ls [.int 1, .ref a0]) := by
    have hx := S.1
    have hb := S.2.1
    have b26 := qkm_26 hq; have b28 := qkm_28 hq
    have J377 := J377_X11_goOn l D cT T q hT hq a0 t0 hp0 p e s m below meth c S hK hr hlocks
    intro q355 H locs ls hq355 h0355 v355_inv0 hH hS hl
    have w355_26 : q355 26 = q 26 := h0355 26 (by decide) (Or.inl (by decide))
    obtain ⟨n6, en6⟩ : ∃ z : Int, z = Int32.toInt 1 := ⟨_, rfl⟩
    have fn6 : n6 = 1 := by rw [en6]; rfl
    refine mput_29 S hK hH hS ⟨0, by decide, t0⟩ hT t0 en6 gm_1238 dX11_goOn_355 (fun q5 H locs eq5 hH hS hq1 => ?_)
    have hqq5 : qkm q5 := by rw [eq5]; exact qum_ok29 hq355 (iv_z en6 (iv_w (iv_c (by decide) : IV 1 1 1) (by decide)))
    have h0q5 : fr [27, 28, 29, 31] q q5 := by rw [eq5]; exact fr_up h0355 (by decide)
    have wq5_26 : q5 26 = q355 26 := by rw [eq5]; rfl
    have wq5_27 : q5 27 = q355 27 := by rw [eq5]; rfl
    have wq5_28 : q5 28 = q355 28 := by rw [eq5]; rfl
    have wq5_29 : q5 29 = 1 := by rw [show q5 29 = n6 by rw [eq5]; rfl, fn6]
    have wq5_31 : q5 31 = q355 31 := by rw [eq5]; rfl
    clear en6 fn6
    refine lv_goto (tgt := 377) hx hb dX11_goOn_358 (by decide) ?_
    exact J377 q5 H locs ls hqq5 h0q5 (show TI q5 by first | exact TI_in (by omega) (by omega) (by omega) | exact TI_end (by omega) (by omega) (by omega)) (show NX q q5 by first | (exact fun _ => by rw [wq5_28]; assumption) | (exact fun z => absurd z (by omega))) (show T3 q5 by first | (exact fun z => absurd z (by omega)) | (exact fun _ z => by omega)) (show q 28 ≤ q5 27 by omega) (show LX q q5 by first | (exact fun _ => by rw [wq5_27]; assumption) | (exact fun z => absurd z (by omega))) hH hS (lv_sub hl [] rfl)


set_option maxHeartbeats 20000000 in
set_option maxRecDepth 100000 in
theorem J355_s1_4_X11_goOn (l : Launch) (D : va_G) (cT : Nat → ClassId) (T : Nat → Option Nat) (q : Nat → Int) (hT : tokm T) (hq : qkm q) (a0 : Nat) (t0 : T a0 = some 0) (hp0 : q 28 ≤ q 26) (p : Program) (e : Env) (s : State) (m : MethodId) (below : List Frame) (meth : Method) (c : Code) (S : CallFix p m c cX11_goOn 3 s [.ref a0].toArray gw yX11_goOn.cls) (hK : va_K D classes (th_tys cT) s) (hr : meth.sig.returnType = none) (hlocks : meth.locks = false) : ∀ (q355 : Nat → Int) (H : Heap) (locs : List Loc) (ls : Array Slot), qkm q355 → fr [27, 28, 29, 31] q q355 → (q355 27 < q355 28 ∧ q355 28 ≤ q355 26 ∧ q 28 ≤ q355 27) → th_H D cT T (km q355) H → va_S (th_A T [0]) s.heap H locs → lv_has ls 3 [] → W p l e (rmk 1 22) s m [.ref a0].toArray below meth c H locs 0 0 (MQ below (th_QM D cT T (fun v q2 => v = none ∧ qkm q2 ∧ fr [27, 28, 29, 31] q q2 ∧ (TS q2) ∧ (q 28 ≤ q2 27) ∧ (LX q q2)) [0]) [.ref a0].toArray s 0 0 (th_A T [0])) (F0 m 355 ls [.int 4, .ref a0]) := by
    have hx := S.1
    have hb := S.2.1
    have b26 := qkm_26 hq; have b28 := qkm_28 hq
    have J377 := J377_X11_goOn l D cT T q hT hq a0 t0 hp0 p e s m below meth c S hK hr hlocks
    intro q355 H locs ls hq355 h0355 v355_inv0 hH hS hl
    have w355_26 : q355 26 = q 26 := h0355 26 (by decide) (Or.inl (by decide))
    obtain ⟨n8, en8⟩ : ∃ z : Int, z = Int32.toInt 4 := ⟨_, rfl⟩
    have fn8 : n8 = 4 := by rw [en8]; rfl
    refine mput_29 S hK hH hS ⟨0, by decide, t0⟩ hT t0 en8 gm_1238 dX11_goOn_355 (fun q7 H locs eq7 hH hS hq1 => ?_)
    have hqq7 : qkm q7 := by rw [eq7]; exact qum_ok29 hq355 (iv_z en8 (iv_w (iv_c (by decide) : IV 4 4 4) (by decide)))
    have h0q7 : fr [27, 28, 29, 31] q q7 := by rw [eq7]; exact fr_up h0355 (by decide)
    have wq7_26 : q7 26 = q355 26 := by rw [eq7]; rfl
    have wq7_27 : q7 27 = q355 27 := by rw [eq7]; rfl
    have wq7_28 : q7 28 = q355 28 := by rw [eq7]; rfl
    have wq7_29 : q7 29 = 4 := by rw [show q7 29 = n8 by rw [eq7]; rfl, fn8]
    have wq7_31 : q7 31 = q355 31 := by rw [eq7]; rfl
    clear en8 fn8
    refine lv_goto (tgt := 377) hx hb dX11_goOn_358 (by decide) ?_
    exact J377 q7 H locs ls hqq7 h0q7 (show TI q7 by first | exact TI_in (by omega) (by omega) (by omega) | exact TI_end (by omega) (by omega) (by omega)) (show NX q q7 by first | (exact fun _ => by rw [wq7_28]; assumption) | (exact fun z => absurd z (by omega))) (show T3 q7 by first | (exact fun z => absurd z (by omega)) | (exact fun _ z => by omega)) (show q 28 ≤ q7 27 by omega) (show LX q q7 by first | (exact fun _ => by rw [wq7_27]; assumption) | (exact fun z => absurd z (by omega))) hH hS (lv_sub hl [] rfl)


set_option maxHeartbeats 20000000 in
set_option maxRecDepth 100000 in
theorem J350_X11_goOn (l : Launch) (D : va_G) (cT : Nat → ClassId) (T : Nat → Option Nat) (q : Nat → Int) (hT : tokm T) (hq : qkm q) (a0 : Nat) (t0 : T a0 = some 0) (hp0 : q 28 ≤ q 26) (p : Program) (e : Env) (s : State) (m : MethodId) (below : List Frame) (meth : Method) (c : Code) (S : CallFix p m c cX11_goOn 3 s [.ref a0].toArray gw yX11_goOn.cls) (hK : va_K D classes (th_tys cT) s) (hr : meth.sig.returnType = none) (hlocks : meth.locks = false) : ∀ (q350 : Nat → Int) (H : Heap) (locs : List Loc) (ls : Array Slot), qkm q350 → fr [27, 28, 29, 31] q q350 → (q350 27 < q350 28 ∧ q350 28 ≤ q350 26 ∧ q 28 ≤ q350 27) → th_H D cT T (km q350) H → va_S (th_A T [0]) s.heap H locs → lv_has ls 3 [] → W p l e (rmk 1 22) s m [.ref a0].toArray below meth c H locs 0 0 (MQ below (th_QM D cT T (fun v q2 => v = none ∧ qkm q2 ∧ fr [27, 28, 29, 31] q q2 ∧ (TS q2) ∧ (q 28 ≤ q2 27) ∧ (LX q q2)) [0]) [.ref a0].toArray s 0 0 (th_A T [0])) (F0 m 350 ls [.ref a0]) := by
    have hx := S.1
    have hb := S.2.1
    have b26 := qkm_26 hq; have b28 := qkm_28 hq
    have J355_s1_1 := J355_s1_1_X11_goOn l D cT T q hT hq a0 t0 hp0 p e s m below meth c S hK hr hlocks
    intro q350 H locs ls hq350 h0350 v350_inv0 hH hS hl
    have w350_26 : q350 26 = q 26 := h0350 26 (by decide) (Or.inl (by decide))
    refine lv_iconst (v := 1) hx hb dX11_goOn_350 (by decide) ?_
    refine lv_goto (tgt := 355) hx hb dX11_goOn_351 (by decide) ?_
    exact J355_s1_1 q350 H locs ls hq350 h0350 (show q350 27 < q350 28 ∧ q350 28 ≤ q350 26 ∧ q 28 ≤ q350 27 by exact ⟨by omega, by omega, by omega⟩) hH hS (lv_sub hl [] rfl)


set_option maxHeartbeats 20000000 in
set_option maxRecDepth 100000 in
theorem J259_X11_goOn (l : Launch) (D : va_G) (cT : Nat → ClassId) (T : Nat → Option Nat) (q : Nat → Int) (hT : tokm T) (hq : qkm q) (a0 : Nat) (t0 : T a0 = some 0) (hp0 : q 28 ≤ q 26) (p : Program) (e : Env) (s : State) (m : MethodId) (below : List Frame) (meth : Method) (c : Code) (S : CallFix p m c cX11_goOn 3 s [.ref a0].toArray gw yX11_goOn.cls) (hK : va_K D classes (th_tys cT) s) (hr : meth.sig.returnType = none) (hlocks : meth.locks = false) : ∀ (n : Nat) (q259 : Nat → Int) (H : Heap) (locs : List Loc) (ls : Array Slot), qkm q259 → fr [27, 28, 29, 31] q q259 → (q 28 ≤ q259 27 ∧ q259 27 ≤ q259 28 ∧ q259 28 ≤ q259 26 ∧ q259 27 < q259 26) → (q259 28 = q259 27 → 48 ≤ sg q (q259 27) ∧ sg q (q259 27) ≤ 57) → th_H D cT T (km q259) H → va_S (th_A T [0]) s.heap H locs → lv_has ls 3 [(0, .ref a0)] → (q259 26 - q259 28).toNat < n → W p l e (rmk 1 22) s m [.ref a0].toArray below meth c H locs 0 0 (MQ below (th_QM D cT T (fun v q2 => v = none ∧ qkm q2 ∧ fr [27, 28, 29, 31] q q2 ∧ (TS q2) ∧ (q 28 ≤ q2 27) ∧ (LX q q2)) [0]) [.ref a0].toArray s 0 0 (th_A T [0])) (F0 m 259 ls []) := by
    have hx := S.1
    have hb := S.2.1
    have b26 := qkm_26 hq; have b28 := qkm_28 hq
    have J355_s1_4 := J355_s1_4_X11_goOn l D cT T q hT hq a0 t0 hp0 p e s m below meth c S hK hr hlocks
    have J350 := J350_X11_goOn l D cT T q hT hq a0 t0 hp0 p e s m below meth c S hK hr hlocks
    intro n
    induction n with
    | zero => intro q259 H locs ls hq259 h0259 v259_inv0 v259_inv1 hH hS hl hn; exact absurd hn (Nat.not_lt_zero _)
    | succ n ih259 =>
      intro q259 H locs ls hq259 h0259 v259_inv0 v259_inv1 hH hS hl hn259
      have w259_26 : q259 26 = q 26 := h0259 26 (by decide) (Or.inl (by decide))
      have J309 : ∀ (H : Heap) (locs : List Loc) (ls : Array Slot), (q259 28 < q259 26) → th_H D cT T (km q259) H → va_S (th_A T [0]) s.heap H locs → lv_has ls 3 [(0, .ref a0)] → W p l e (rmk 1 22) s m [.ref a0].toArray below meth c H locs 0 0 (MQ below (th_QM D cT T (fun v q2 => v = none ∧ qkm q2 ∧ fr [27, 28, 29, 31] q q2 ∧ (TS q2) ∧ (q 28 ≤ q2 27) ∧ (LX q q2)) [0]) [.ref a0].toArray s 0 0 (th_A T [0])) (F0 m 309 ls []) := by
        intro H locs ls v309_inv0 hH hS hl
        refine lv_aload_n hx hb dX11_goOn_309 rfl (lv_at hl 0 rfl) ?_
        refine lv_dup hx hb dX11_goOn_310 rfl ?_
        refine th_get S hK hH inG11 t0 km_0 rfl 7 (by decide) gm_1237 rfl rfl dX11_goOn_311 (fun v9 hv9 fv9 => ?_)
        obtain ⟨x10, rfl, ix10⟩ := th_V.int hv9
        have kx10 : x10.toInt = q259 28 := Int.le_antisymm ix10.2 ix10.1
        have bx10 := qkm_28 hq259
        have ix10 : IV x10 0 1601 := iv_w ix10 (qkm_28 hq259)
        refine lv_iconst (v := 1) hx hb dX11_goOn_314 (by decide) ?_
        refine lv_iadd hx hb dX11_goOn_315 ?_
        refine lv_topi (fun x11 ex11 => ?_)
        have ix11 : IV x11 1 1602 := by rw [ex11]; exact iv_add ix10 (iv_c (by decide) : IV 1 1 1) (by decide)
        have ux11 : x11.toInt = x10.toInt + (1 : Int) := by rw [ex11]; exact iv_addE (by have z1 := (ix10).1; have z2 := (ix10).2; have z3 := ((iv_c (by decide) : IV 1 1 1)).1; have z4 := ((iv_c (by decide) : IV 1 1 1)).2; omega)
        obtain ⟨n13, en13⟩ : ∃ z : Int, z = Int32.toInt x11 := ⟨_, rfl⟩
        refine mput_28 S hK hH hS ⟨0, by decide, t0⟩ hT t0 en13 gm_1237 dX11_goOn_316 (fun q12 H locs eq12 hH hS hq1 => ?_)
        have hqq12 : qkm q12 := by rw [eq12]; exact qum_ok28 hq259 (by have z1 := (ix11).1; have z2 := (ix11).2; exact ⟨by omega, by omega⟩)
        have h0q12 : fr [27, 28, 29, 31] q q12 := by rw [eq12]; exact fr_up h0259 (by decide)
        have wq12_26 : q12 26 = q259 26 := by rw [eq12]; rfl
        have wq12_27 : q12 27 = q259 27 := by rw [eq12]; rfl
        have wq12_28 : q12 28 = q259 28 + (1 : Int) := by rw [show q12 28 = n13 by rw [eq12]; rfl, en13, ux11, kx10]
        have wq12_29 : q12 29 = q259 29 := by rw [eq12]; rfl
        have wq12_31 : q12 31 = q259 31 := by rw [eq12]; rfl
        clear en13
        clear ux11
        refine lv_goto (tgt := 259) hx hb dX11_goOn_319 (by decide) ?_
        exact ih259 q12 H locs ls hqq12 h0q12 (show q 28 ≤ q12 27 ∧ q12 27 ≤ q12 28 ∧ q12 28 ≤ q12 26 ∧ q12 27 < q12 26 by exact ⟨by omega, by omega, by omega, by omega⟩) (show q12 28 = q12 27 → 48 ≤ sg q (q12 27) ∧ sg q (q12 27) ≤ 57 by first | (intro z; exact absurd z (by omega)) | (intro _; rw [wq12_27, ← hc2]; exact ⟨by omega, by omega⟩)) hH hS (lv_sub hl [0] rfl) (show (q12 26 - q12 28).toNat < n by omega)
      refine lv_aload_n hx hb dX11_goOn_259 rfl (lv_at hl 0 rfl) ?_
      refine lv_aload_n hx hb dX11_goOn_260 rfl (lv_at hl 0 rfl) ?_
      refine th_get S hK hH inG11 t0 km_0 rfl 7 (by decide) gm_1237 rfl rfl dX11_goOn_261 (fun v14 hv14 fv14 => ?_)
      obtain ⟨x15, rfl, ix15⟩ := th_V.int hv14
      have kx15 : x15.toInt = q259 28 := Int.le_antisymm ix15.2 ix15.1
      have bx15 := qkm_28 hq259
      have ix15 : IV x15 0 1601 := iv_w ix15 (qkm_28 hq259)
      refine th_callVp (n := 1) (As := [.int x15]) S hK hH hS (th_A.sub (by decide)) (m_X11_sign l D cT T q259 hT hq259 a0 t0 (x15) ix15) gm_1449 gm_1446 gm_1448 gm_48 gm_124 (by decide +kernel) ⟨rfl, rfl, Nat.le_of_ble_eq_true rfl, Nat.le_of_ble_eq_true rfl⟩ t0 km_0 rfl rfl hl.1 rfl (Nat.le_of_ble_eq_true rfl) dX11_goOn_264 ⟨Nat.zero_le _, Nat.zero_le _⟩ (fun x16 H locs ix16 ox16 hH hS hF1 => ?_)
      have ox16 : x16.toInt = sg q259 x15.toInt := ox16
      have l1x16 := ix16.1; have l2x16 := ix16.2
      refine th_callSp (n := 1) (As := [.int x16]) S hK hH hS (th_A.sub (by decide)) (m_X11_isDigit l D cT T q259 hT hq259 (x16) (iv_top _)) gm_1480 gm_1478 gm_1479 gm_124 (by decide +kernel) ⟨rfl, rfl, Nat.le_of_ble_eq_true rfl, Nat.le_of_ble_eq_true rfl⟩ rfl hl.1 rfl (Nat.le_of_ble_eq_true rfl) dX11_goOn_267 ⟨Nat.zero_le _, Nat.zero_le _⟩ (fun x17 H locs ix17 ox17 hH hS hF1 => ?_)
      obtain ⟨ox17_0, ox17_1⟩ := ox17
      have ox17_0 : x17.toInt ≠ 0 → 48 ≤ x16.toInt ∧ x16.toInt ≤ 57 := ox17_0
      have ox17_1 : x17.toInt = 0 → x16.toInt < 48 ∨ 57 < x16.toInt := ox17_1
      have l1x17 := ix17.1; have l2x17 := ix17.2
      refine lv_if_eq (tgt := 322) hx hb dX11_goOn_270 (by decide) (fun c18 => ?_) (fun c18 => ?_)
      · skip
        have rlc18 : x17.toInt = (0 : Int) := congrArg Int32.toInt c18
        clear ox17_0
        have ox17_1r := ox17_1 rlc18
        clear ox17_1
        have ir19 : IV x17 0 0 := iv_eL c18 (iv_c (by decide) : IV 0 0 0)
        have ir19a := ir19.1; have ir19b := ir19.2
        have hz : x16.toInt = sg q (q259 28) := sg_at ox16 h0259 (by decide) (by decide) (by decide) (by omega)
        have hgt : q259 27 < q259 28 := by
          by_cases z : q259 28 = q259 27
          · have z1 := v259_inv1 z; rw [z] at hz; omega
          · omega
        refine lv_aload_n hx hb dX11_goOn_322 rfl (lv_at hl 0 rfl) ?_
        refine lv_aload_n hx hb dX11_goOn_323 rfl (lv_at hl 0 rfl) ?_
        refine th_get S hK hH inG11 t0 km_0 rfl 7 (by decide) gm_1237 rfl rfl dX11_goOn_324 (fun v20 hv20 fv20 => ?_)
        obtain ⟨x21, rfl, ix21⟩ := th_V.int hv20
        have kx21 : x21.toInt = q259 28 := Int.le_antisymm ix21.2 ix21.1
        have bx21 := qkm_28 hq259
        have ix21 : IV x21 0 1601 := iv_w ix21 (qkm_28 hq259)
        refine lv_aload_n hx hb dX11_goOn_327 rfl (lv_at hl 0 rfl) ?_
        refine th_get S hK hH inG11 t0 km_0 rfl 6 (by decide) gm_1236 rfl rfl dX11_goOn_328 (fun v22 hv22 fv22 => ?_)
        obtain ⟨x23, rfl, ix23⟩ := th_V.int hv22
        have kx23 : x23.toInt = q259 27 := Int.le_antisymm ix23.2 ix23.1
        have bx23 := qkm_27 hq259
        have ix23 : IV x23 0 1600 := iv_w ix23 (qkm_27 hq259)
        refine lv_isub hx hb dX11_goOn_331 ?_
        refine lv_topi (fun x24 ex24 => ?_)
        have ix24 : IV x24 (-1600) 1601 := by rw [ex24]; exact iv_sub ix21 ix23 (by decide)
        have ux24 : x24.toInt = x21.toInt - x23.toInt := by rw [ex24]; exact iv_subE (by have z1 := (ix21).1; have z2 := (ix21).2; have z3 := (ix23).1; have z4 := (ix23).2; omega)
        refine lv_iconst (v := 4) hx hb dX11_goOn_332 (by decide) ?_
        refine lv_icmp_gt (tgt := 350) hx hb dX11_goOn_333 (by decide) (fun c25 => ?_) (fun c25 => ?_)
        · skip
          have rlc25 : (4 : Int) < x24.toInt := iv_lt c25
          have ir26 : IV x24 5 1601 := iv_uR (iv_c (by decide) : IV 4 4 4) ix24 (iv_lt c25) (by decide)
          have ir26a := ir26.1; have ir26b := ir26.2
          exact J350 q259 H locs ls hq259 h0259 (show q259 27 < q259 28 ∧ q259 28 ≤ q259 26 ∧ q 28 ≤ q259 27 by exact ⟨by omega, by omega, by omega⟩) hH hS (lv_sub hl [] rfl)
        · skip
          have rlc25 : x24.toInt ≤ (4 : Int) := iv_nlt c25
          have ir27 : IV x24 (-1600) 4 := iv_vL ix24 (iv_c (by decide) : IV 4 4 4) (iv_nlt c25) (by decide)
          have ir27a := ir27.1; have ir27b := ir27.2
          refine lv_aload_n hx hb dX11_goOn_336 rfl (lv_at hl 0 rfl) ?_
          refine lv_aload_n hx hb dX11_goOn_337 rfl (lv_at hl 0 rfl) ?_
          refine th_get S hK hH inG11 t0 km_0 rfl 7 (by decide) gm_1237 rfl rfl dX11_goOn_338 (fun v28 hv28 fv28 => ?_)
          obtain ⟨x29, rfl, ix29⟩ := th_V.int hv28
          have kx29 : x29.toInt = q259 28 := Int.le_antisymm ix29.2 ix29.1
          have bx29 := qkm_28 hq259
          have ix29 : IV x29 0 1601 := iv_w ix29 (qkm_28 hq259)
          refine th_callVp (n := 1) (As := [.int x29]) S hK hH hS (th_A.sub (by decide)) (m_X11_sign l D cT T q259 hT hq259 a0 t0 (x29) ix29) gm_1449 gm_1446 gm_1448 gm_48 gm_124 (by decide +kernel) ⟨rfl, rfl, Nat.le_of_ble_eq_true rfl, Nat.le_of_ble_eq_true rfl⟩ t0 km_0 rfl rfl hl.1 rfl (Nat.le_of_ble_eq_true rfl) dX11_goOn_341 ⟨Nat.zero_le _, Nat.zero_le _⟩ (fun x30 H locs ix30 ox30 hH hS hF1 => ?_)
          have ox30 : x30.toInt = sg q259 x29.toInt := ox30
          have l1x30 := ix30.1; have l2x30 := ix30.2
          refine th_callSp (n := 1) (As := [.int x30]) S hK hH hS (th_A.sub (by decide)) (m_X11_isLetter l D cT T q259 hT hq259 (x30) (iv_top _)) gm_1452 gm_1450 gm_1451 gm_124 (by decide +kernel) ⟨rfl, rfl, Nat.le_of_ble_eq_true rfl, Nat.le_of_ble_eq_true rfl⟩ rfl hl.1 rfl (Nat.le_of_ble_eq_true rfl) dX11_goOn_344 ⟨Nat.zero_le _, Nat.zero_le _⟩ (fun x31 H locs ix31 ox31 hH hS hF1 => ?_)
          obtain ⟨ox31_0, ox31_1⟩ := ox31
          have ox31_0 : x31.toInt ≠ 0 → 97 ≤ x30.toInt ∧ x30.toInt ≤ 122 := ox31_0
          have ox31_1 : x31.toInt = 0 → x30.toInt < 97 ∨ 122 < x30.toInt := ox31_1
          have l1x31 := ix31.1; have l2x31 := ix31.2
          refine lv_if_eq (tgt := 354) hx hb dX11_goOn_347 (by decide) (fun c32 => ?_) (fun c32 => ?_)
          · skip
            have rlc32 : x31.toInt = (0 : Int) := congrArg Int32.toInt c32
            clear ox31_0
            have ox31_1r := ox31_1 rlc32
            clear ox31_1
            have ir33 : IV x31 0 0 := iv_eL c32 (iv_c (by decide) : IV 0 0 0)
            have ir33a := ir33.1; have ir33b := ir33.2
            refine lv_iconst (v := 4) hx hb dX11_goOn_354 (by decide) ?_
            exact J355_s1_4 q259 H locs ls hq259 h0259 (show q259 27 < q259 28 ∧ q259 28 ≤ q259 26 ∧ q 28 ≤ q259 27 by exact ⟨by omega, by omega, by omega⟩) hH hS (lv_sub hl [] rfl)
          · skip
            have rlc32 : x31.toInt ≠ (0 : Int) := iv_ne c32
            have ox31_0r := ox31_0 rlc32
            clear ox31_0
            clear ox31_1
            have ir34 : IV x31 1 1 := iv_cutL ix31 (iv_c (by decide) : IV 0 0 0) c32 (by decide)
            have ir34a := ir34.1; have ir34b := ir34.2
            exact J350 q259 H locs ls hq259 h0259 (show q259 27 < q259 28 ∧ q259 28 ≤ q259 26 ∧ q 28 ≤ q259 27 by exact ⟨by omega, by omega, by omega⟩) hH hS (lv_sub hl [] rfl)
      · skip
        have rlc18 : x17.toInt ≠ (0 : Int) := iv_ne c18
        have ox17_0r := ox17_0 rlc18
        clear ox17_0
        clear ox17_1
        have ir35 : IV x17 1 1 := iv_cutL ix17 (iv_c (by decide) : IV 0 0 0) c18 (by decide)
        have ir35a := ir35.1; have ir35b := ir35.2
        have hlt := sg_lt ox16 (by omega)
        refine lv_aload_n hx hb dX11_goOn_273 rfl (lv_at hl 0 rfl) ?_
        refine th_get S hK hH inG11 t0 km_0 rfl 7 (by decide) gm_1237 rfl rfl dX11_goOn_274 (fun v36 hv36 fv36 => ?_)
        obtain ⟨x37, rfl, ix37⟩ := th_V.int hv36
        have kx37 : x37.toInt = q259 28 := Int.le_antisymm ix37.2 ix37.1
        have bx37 := qkm_28 hq259
        have ix37 : IV x37 0 1601 := iv_w ix37 (qkm_28 hq259)
        refine lv_aload_n hx hb dX11_goOn_277 rfl (lv_at hl 0 rfl) ?_
        refine th_get S hK hH inG11 t0 km_0 rfl 6 (by decide) gm_1236 rfl rfl dX11_goOn_278 (fun v38 hv38 fv38 => ?_)
        obtain ⟨x39, rfl, ix39⟩ := th_V.int hv38
        have kx39 : x39.toInt = q259 27 := Int.le_antisymm ix39.2 ix39.1
        have bx39 := qkm_27 hq259
        have ix39 : IV x39 0 1600 := iv_w ix39 (qkm_27 hq259)
        refine lv_isub hx hb dX11_goOn_281 ?_
        refine lv_topi (fun x40 ex40 => ?_)
        have ix40 : IV x40 (-1600) 1601 := by rw [ex40]; exact iv_sub ix37 ix39 (by decide)
        have ux40 : x40.toInt = x37.toInt - x39.toInt := by rw [ex40]; exact iv_subE (by have z1 := (ix37).1; have z2 := (ix37).2; have z3 := (ix39).1; have z4 := (ix39).2; omega)
        refine lv_iconst (v := 4) hx hb dX11_goOn_282 (by decide) ?_
        refine lv_icmp_ge (tgt := 309) hx hb dX11_goOn_283 (by decide) (fun c41 => ?_) (fun c41 => ?_)
        · skip
          have rlc41 : (4 : Int) ≤ x40.toInt := iv_le c41
          have ir42 : IV x40 4 1601 := iv_vR (iv_c (by decide) : IV 4 4 4) ix40 (iv_le c41) (by decide)
          have ir42a := ir42.1; have ir42b := ir42.2
          exact J309 H locs ls (show q259 28 < q259 26 by omega) hH hS (lv_sub hl [0] rfl)
        · skip
          have rlc41 : x40.toInt < (4 : Int) := iv_nle c41
          have ir43 : IV x40 (-1600) 3 := iv_uL ix40 (iv_c (by decide) : IV 4 4 4) (iv_nle c41) (by decide)
          have ir43a := ir43.1; have ir43b := ir43.2
          refine lv_aload_n hx hb dX11_goOn_286 rfl (lv_at hl 0 rfl) ?_
          refine lv_bipush (v := 10) hx hb dX11_goOn_287 (by decide) ?_
          refine lv_aload_n hx hb dX11_goOn_289 rfl (lv_at hl 0 rfl) ?_
          refine th_get S hK hH inG11 t0 km_0 rfl 9 (by decide) gm_1239 rfl rfl dX11_goOn_290 (fun v44 hv44 fv44 => ?_)
          obtain ⟨x45, rfl, ix45⟩ := th_V.int hv44
          refine lv_imul hx hb dX11_goOn_293 ?_
          refine lv_topi (fun x46 ex46 => ?_)
          have ix46 := iv_top x46
          refine lv_aload_n hx hb dX11_goOn_294 rfl (lv_at hl 0 rfl) ?_
          refine lv_aload_n hx hb dX11_goOn_295 rfl (lv_at hl 0 rfl) ?_
          refine th_get S hK hH inG11 t0 km_0 rfl 7 (by decide) gm_1237 rfl rfl dX11_goOn_296 (fun v47 hv47 fv47 => ?_)
          obtain ⟨x48, rfl, ix48⟩ := th_V.int hv47
          have kx48 : x48.toInt = q259 28 := Int.le_antisymm ix48.2 ix48.1
          have bx48 := qkm_28 hq259
          have ix48 : IV x48 0 1601 := iv_w ix48 (qkm_28 hq259)
          refine th_callVp (n := 1) (As := [.int x48]) S hK hH hS (th_A.sub (by decide)) (m_X11_sign l D cT T q259 hT hq259 a0 t0 (x48) ix48) gm_1449 gm_1446 gm_1448 gm_48 gm_124 (by decide +kernel) ⟨rfl, rfl, Nat.le_of_ble_eq_true rfl, Nat.le_of_ble_eq_true rfl⟩ t0 km_0 rfl rfl hl.1 rfl (Nat.le_of_ble_eq_true rfl) dX11_goOn_299 ⟨Nat.zero_le _, Nat.zero_le _⟩ (fun x49 H locs ix49 ox49 hH hS hF1 => ?_)
          have ox49 : x49.toInt = sg q259 x48.toInt := ox49
          have l1x49 := ix49.1; have l2x49 := ix49.2
          refine lv_iadd hx hb dX11_goOn_302 ?_
          refine lv_topi (fun x50 ex50 => ?_)
          have ix50 := iv_top x50
          refine lv_bipush (v := 48) hx hb dX11_goOn_303 (by decide) ?_
          refine lv_isub hx hb dX11_goOn_305 ?_
          refine lv_topi (fun x51 ex51 => ?_)
          have ix51 := iv_top x51
          refine th_put S hK hH hS ⟨0, by decide, t0⟩ inG11 tyX11 tyX11_ok nmX11 t0 km_0 rfl 9 (by decide) gm_1239 rfl rfl rfl rfl (th_iv ix51) (fun vs h => nmR_set h.2.2 (by decide) rfl) (ty := .int) (by decide +kernel) rfl rfl dX11_goOn_306 (fun H locs hH hS hq1 hp1 => ?_)
          have f52 := hp1.1
          exact J309 H locs ls (show q259 28 < q259 26 by omega) hH hS (lv_sub hl [0] rfl)

