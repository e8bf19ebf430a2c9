
set_option maxHeartbeats 20000000 in
set_option maxRecDepth 100000 in
theorem J233_s1_1_X11_goOn (l : Launch) (D : va_G) (cT : Nat → ClassId) (T : Nat → Option Nat) (q : Nat → Int) (hT : tokm T) (hq : qkm q) (a0 : Nat) (t0 : T a0 = some 0) (hp0 : q 28 ≤ q 26) (p : Program) (e : Env) (s : State) (m : MethodId) (below : List Frame) (meth : Method) (c : Code) (S : CallFix p m c cX11_goOn 3 s [.ref a0].toArray gw yX11_goOn.cls) (hK : va_K D classes (th_tys cT) s) (hr : meth.sig.returnType = none) (hlocks : meth.locks = false) : ∀ (q233 : Nat → Int) (H : Heap) (locs : List Loc) (ls : Array Slot), qkm q233 → fr [27, 28, 29, 31] q q233 → (q233 27 < q233 28 ∧ q233 28 ≤ q233 26 ∧ q 28 ≤ q233 27) → (97 ≤ sg q (q233 27) ∧ sg q (q233 27) ≤ 122) → (sg q (q233 28) < 97 ∨ 122 < sg q (q233 28)) → (q233 31 = 7237492 → q233 27 + 3 ≤ q233 28) → th_H D cT T (km q233) H → va_S (th_A T [0]) s.heap H locs → lv_has ls 3 [] → W p l e (rmk 1 22) s m [.ref a0].toArray below meth c H locs 0 0 (MQ below (th_QM D cT T (fun v q2 => v = none ∧ qkm q2 ∧ fr [27, 28, 29, 31] q q2 ∧ (TS q2) ∧ (q 28 ≤ q2 27) ∧ (LX q q2)) [0]) [.ref a0].toArray s 0 0 (th_A T [0])) (F0 m 233 ls [.int 1, .ref a0]) := by
    have hx := S.1
    have hb := S.2.1
    have b26 := qkm_26 hq; have b28 := qkm_28 hq
    have J377 := J377_X11_goOn l D cT T q hT hq a0 t0 hp0 p e s m below meth c S hK hr hlocks
    intro q233 H locs ls hq233 h0233 v233_inv0 v233_inv1 v233_inv2 v233_inv3 hH hS hl
    have w233_26 : q233 26 = q 26 := h0233 26 (by decide) (Or.inl (by decide))
    obtain ⟨n54, en54⟩ : ∃ z : Int, z = Int32.toInt 1 := ⟨_, rfl⟩
    have fn54 : n54 = 1 := by rw [en54]; rfl
    refine mput_29 S hK hH hS ⟨0, by decide, t0⟩ hT t0 en54 gm_1238 dX11_goOn_233 (fun q53 H locs eq53 hH hS hq1 => ?_)
    have hqq53 : qkm q53 := by rw [eq53]; exact qum_ok29 hq233 (iv_z en54 (iv_w (iv_c (by decide) : IV 1 1 1) (by decide)))
    have h0q53 : fr [27, 28, 29, 31] q q53 := by rw [eq53]; exact fr_up h0233 (by decide)
    have wq53_26 : q53 26 = q233 26 := by rw [eq53]; rfl
    have wq53_27 : q53 27 = q233 27 := by rw [eq53]; rfl
    have wq53_28 : q53 28 = q233 28 := by rw [eq53]; rfl
    have wq53_29 : q53 29 = 1 := by rw [show q53 29 = n54 by rw [eq53]; rfl, fn54]
    have wq53_31 : q53 31 = q233 31 := by rw [eq53]; rfl
    clear en54 fn54
    refine lv_goto (tgt := 377) hx hb dX11_goOn_236 (by decide) ?_
    exact J377 q53 H locs ls hqq53 h0q53 (show TI q53 by first | exact TI_in (by omega) (by omega) (by omega) | exact TI_end (by omega) (by omega) (by omega)) (show NX q q53 by first | (exact fun _ => by rw [wq53_28]; assumption) | (exact fun z => absurd z (by omega))) (show T3 q53 by first | (exact fun z => absurd z (by omega)) | (exact fun _ z => by omega)) (show q 28 ≤ q53 27 by omega) (show LX q q53 by first | (exact fun _ => by rw [wq53_27]; assumption) | (exact fun z => absurd z (by omega))) hH hS (lv_sub hl [] rfl)


set_option maxHeartbeats 20000000 in
set_option maxRecDepth 100000 in
theorem J233_s1_2_X11_goOn (l : Launch) (D : va_G) (cT : Nat → ClassId) (T : Nat → Option Nat) (q : Nat → Int) (hT : tokm T) (hq : qkm q) (a0 : Nat) (t0 : T a0 = some 0) (hp0 : q 28 ≤ q 26) (p : Program) (e : Env) (s : State) (m : MethodId) (below : List Frame) (meth : Method) (c : Code) (S : CallFix p m c cX11_goOn 3 s [.ref a0].toArray gw yX11_goOn.cls) (hK : va_K D classes (th_tys cT) s) (hr : meth.sig.returnType = none) (hlocks : meth.locks = false) : ∀ (q233 : Nat → Int) (H : Heap) (locs : List Loc) (ls : Array Slot), qkm q233 → fr [27, 28, 29, 31] q q233 → (q233 27 < q233 28 ∧ q233 28 ≤ q233 26 ∧ q 28 ≤ q233 27) → (97 ≤ sg q (q233 27) ∧ sg q (q233 27) ≤ 122) → (sg q (q233 28) < 97 ∨ 122 < sg q (q233 28)) → (q233 31 = 7237492 → q233 27 + 3 ≤ q233 28) → th_H D cT T (km q233) H → va_S (th_A T [0]) s.heap H locs → lv_has ls 3 [] → W p l e (rmk 1 22) s m [.ref a0].toArray below meth c H locs 0 0 (MQ below (th_QM D cT T (fun v q2 => v = none ∧ qkm q2 ∧ fr [27, 28, 29, 31] q q2 ∧ (TS q2) ∧ (q 28 ≤ q2 27) ∧ (LX q q2)) [0]) [.ref a0].toArray s 0 0 (th_A T [0])) (F0 m 233 ls [.int 2, .ref a0]) := by
    have hx := S.1
    have hb := S.2.1
    have b26 := qkm_26 hq; have b28 := qkm_28 hq
    have J377 := J377_X11_goOn l D cT T q hT hq a0 t0 hp0 p e s m below meth c S hK hr hlocks
    intro q233 H locs ls hq233 h0233 v233_inv0 v233_inv1 v233_inv2 v233_inv3 hH hS hl
    have w233_26 : q233 26 = q 26 := h0233 26 (by decide) (Or.inl (by decide))
    obtain ⟨n56, en56⟩ : ∃ z : Int, z = Int32.toInt 2 := ⟨_, rfl⟩
    have fn56 : n56 = 2 := by rw [en56]; rfl
    refine mput_29 S hK hH hS ⟨0, by decide, t0⟩ hT t0 en56 gm_1238 dX11_goOn_233 (fun q55 H locs eq55 hH hS hq1 => ?_)
    have hqq55 : qkm q55 := by rw [eq55]; exact qum_ok29 hq233 (iv_z en56 (iv_w (iv_c (by decide) : IV 2 2 2) (by decide)))
    have h0q55 : fr [27, 28, 29, 31] q q55 := by rw [eq55]; exact fr_up h0233 (by decide)
    have wq55_26 : q55 26 = q233 26 := by rw [eq55]; rfl
    have wq55_27 : q55 27 = q233 27 := by rw [eq55]; rfl
    have wq55_28 : q55 28 = q233 28 := by rw [eq55]; rfl
    have wq55_29 : q55 29 = 2 := by rw [show q55 29 = n56 by rw [eq55]; rfl, fn56]
    have wq55_31 : q55 31 = q233 31 := by rw [eq55]; rfl
    clear en56 fn56
    refine lv_goto (tgt := 377) hx hb dX11_goOn_236 (by decide) ?_
    exact J377 q55 H locs ls hqq55 h0q55 (show TI q55 by first | exact TI_in (by omega) (by omega) (by omega) | exact TI_end (by omega) (by omega) (by omega)) (show NX q q55 by first | (exact fun _ => by rw [wq55_28]; assumption) | (exact fun z => absurd z (by omega))) (show T3 q55 by first | (exact fun z => absurd z (by omega)) | (exact fun _ z => by omega)) (show q 28 ≤ q55 27 by omega) (show LX q q55 by first | (exact fun _ => by rw [wq55_27]; assumption) | (exact fun z => absurd z (by omega))) hH hS (lv_sub hl [] rfl)


set_option maxHeartbeats 20000000 in
set_option maxRecDepth 100000 in
theorem J233_s1_3_X11_goOn (l : Launch) (D : va_G) (cT : Nat → ClassId) (T : Nat → Option Nat) (q : Nat → Int) (hT : tokm T) (hq : qkm q) (a0 : Nat) (t0 : T a0 = some 0) (hp0 : q 28 ≤ q 26) (p : Program) (e : Env) (s : State) (m : MethodId) (below : List Frame) (meth : Method) (c : Code) (S : CallFix p m c cX11_goOn 3 s [.ref a0].toArray gw yX11_goOn.cls) (hK : va_K D classes (th_tys cT) s) (hr : meth.sig.returnType = none) (hlocks : meth.locks = false) : ∀ (q233 : Nat → Int) (H : Heap) (locs : List Loc) (ls : Array Slot), qkm q233 → fr [27, 28, 29, 31] q q233 → (q233 27 < q233 28 ∧ q233 28 ≤ q233 26 ∧ q 28 ≤ q233 27) → (97 ≤ sg q (q233 27) ∧ sg q (q233 27) ≤ 122) → (sg q (q233 28) < 97 ∨ 122 < sg q (q233 28)) → (q233 31 = 7237492 → q233 27 + 3 ≤ q233 28) → th_H D cT T (km q233) H → va_S (th_A T [0]) s.heap H locs → lv_has ls 3 [] → W p l e (rmk 1 22) s m [.ref a0].toArray below meth c H locs 0 0 (MQ below (th_QM D cT T (fun v q2 => v = none ∧ qkm q2 ∧ fr [27, 28, 29, 31] q q2 ∧ (TS q2) ∧ (q 28 ≤ q2 27) ∧ (LX q q2)) [0]) [.ref a0].toArray s 0 0 (th_A T [0])) (F0 m 233 ls [.int 3, .ref a0]) := by
    have hx := S.1
    have hb := S.2.1
    have b26 := qkm_26 hq; have b28 := qkm_28 hq
    have J377 := J377_X11_goOn l D cT T q hT hq a0 t0 hp0 p e s m below meth c S hK hr hlocks
    intro q233 H locs ls hq233 h0233 v233_inv0 v233_inv1 v233_inv2 v233_inv3 hH hS hl
    have w233_26 : q233 26 = q 26 := h0233 26 (by decide) (Or.inl (by decide))
    obtain ⟨n58, en58⟩ : ∃ z : Int, z = Int32.toInt 3 := ⟨_, rfl⟩
    have fn58 : n58 = 3 := by rw [en58]; rfl
    refine mput_29 S hK hH hS ⟨0, by decide, t0⟩ hT t0 en58 gm_1238 dX11_goOn_233 (fun q57 H locs eq57 hH hS hq1 => ?_)
    have hqq57 : qkm q57 := by rw [eq57]; exact qum_ok29 hq233 (iv_z en58 (iv_w (iv_c (by decide) : IV 3 3 3) (by decide)))
    have h0q57 : fr [27, 28, 29, 31] q q57 := by rw [eq57]; exact fr_up h0233 (by decide)
    have wq57_26 : q57 26 = q233 26 := by rw [eq57]; rfl
    have wq57_27 : q57 27 = q233 27 := by rw [eq57]; rfl
    have wq57_28 : q57 28 = q233 28 := by rw [eq57]; rfl
    have wq57_29 : q57 29 = 3 := by rw [show q57 29 = n58 by rw [eq57]; rfl, fn58]
    have wq57_31 : q57 31 = q233 31 := by rw [eq57]; rfl
    clear en58 fn58
    refine lv_goto (tgt := 377) hx hb dX11_goOn_236 (by decide) ?_
    exact J377 q57 H locs ls hqq57 h0q57 (show TI q57 by first | exact TI_in (by omega) (by omega) (by omega) | exact TI_end (by omega) (by omega) (by omega)) (show NX q q57 by first | (exact fun _ => by rw [wq57_28]; assumption) | (exact fun z => absurd z (by omega))) (show T3 q57 by first | (exact fun z => absurd z (by omega)) | (exact fun _ z => by omega)) (show q 28 ≤ q57 27 by omega) (show LX q q57 by first | (exact fun _ => by rw [wq57_27]; assumption) | (exact fun z => absurd z (by omega))) hH hS (lv_sub hl [] rfl)


set_option maxHeartbeats 20000000 in
set_option maxRecDepth 100000 in
theorem J199_X11_goOn (l : Launch) (D : va_G) (cT : Nat → ClassId) (T : Nat → Option Nat) (q : Nat → Int) (hT : tokm T) (hq : qkm q) (a0 : Nat) (t0 : T a0 = some 0) (hp0 : q 28 ≤ q 26) (p : Program) (e : Env) (s : State) (m : MethodId) (below : List Frame) (meth : Method) (c : Code) (S : CallFix p m c cX11_goOn 3 s [.ref a0].toArray gw yX11_goOn.cls) (hK : va_K D classes (th_tys cT) s) (hr : meth.sig.returnType = none) (hlocks : meth.locks = false) : ∀ (q199 : Nat → Int) (H : Heap) (locs : List Loc) (ls : Array Slot), qkm q199 → fr [27, 28, 29, 31] q q199 → (q199 27 < q199 28 ∧ q199 28 ≤ q199 26 ∧ q 28 ≤ q199 27) → (97 ≤ sg q (q199 27) ∧ sg q (q199 27) ≤ 122) → (sg q (q199 28) < 97 ∨ 122 < sg q (q199 28)) → (q199 31 = 7237492 → q199 27 + 3 ≤ q199 28) → th_H D cT T (km q199) H → va_S (th_A T [0]) s.heap H locs → lv_has ls 3 [(0, .ref a0)] → W p l e (rmk 1 22) s m [.ref a0].toArray below meth c H locs 0 0 (MQ below (th_QM D cT T (fun v q2 => v = none ∧ qkm q2 ∧ fr [27, 28, 29, 31] q q2 ∧ (TS q2) ∧ (q 28 ≤ q2 27) ∧ (LX q q2)) [0]) [.ref a0].toArray s 0 0 (th_A T [0])) (F0 m 199 ls []) := by
    have hx := S.1
    have hb := S.2.1
    have b26 := qkm_26 hq; have b28 := qkm_28 hq
    have J233_s1_1 := J233_s1_1_X11_goOn l D cT T q hT hq a0 t0 hp0 p e s m below meth c S hK hr hlocks
    have J233_s1_2 := J233_s1_2_X11_goOn l D cT T q hT hq a0 t0 hp0 p e s m below meth c S hK hr hlocks
    have J233_s1_3 := J233_s1_3_X11_goOn l D cT T q hT hq a0 t0 hp0 p e s m below meth c S hK hr hlocks
    intro q199 H locs ls hq199 h0199 v199_inv0 v199_inv1 v199_inv2 v199_inv3 hH hS hl
    have w199_26 : q199 26 = q 26 := h0199 26 (by decide) (Or.inl (by decide))
    refine lv_aload_n hx hb dX11_goOn_199 rfl (lv_at hl 0 rfl) ?_
    refine lv_aload_n hx hb dX11_goOn_200 rfl (lv_at hl 0 rfl) ?_
    refine th_get S hK hH inG11 t0 km_0 rfl 7 (by decide) gm_1237 rfl rfl dX11_goOn_201 (fun v59 hv59 fv59 => ?_)
    obtain ⟨x60, rfl, ix60⟩ := th_V.int hv59
    have kx60 : x60.toInt = q199 28 := Int.le_antisymm ix60.2 ix60.1
    have bx60 := qkm_28 hq199
    have ix60 : IV x60 0 1601 := iv_w ix60 (qkm_28 hq199)
    refine lv_aload_n hx hb dX11_goOn_204 rfl (lv_at hl 0 rfl) ?_
    refine th_get S hK hH inG11 t0 km_0 rfl 6 (by decide) gm_1236 rfl rfl dX11_goOn_205 (fun v61 hv61 fv61 => ?_)
    obtain ⟨x62, rfl, ix62⟩ := th_V.int hv61
    have kx62 : x62.toInt = q199 27 := Int.le_antisymm ix62.2 ix62.1
    have bx62 := qkm_27 hq199
    have ix62 : IV x62 0 1600 := iv_w ix62 (qkm_27 hq199)
    refine lv_isub hx hb dX11_goOn_208 ?_
    refine lv_topi (fun x63 ex63 => ?_)
    have ix63 : IV x63 (-1600) 1601 := by rw [ex63]; exact iv_sub ix60 ix62 (by decide)
    have ux63 : x63.toInt = x60.toInt - x62.toInt := by rw [ex63]; exact iv_subE (by have z1 := (ix60).1; have z2 := (ix60).2; have z3 := (ix62).1; have z4 := (ix62).2; omega)
    refine lv_bipush (v := 8) hx hb dX11_goOn_209 (by decide) ?_
    refine lv_icmp_le (tgt := 218) hx hb dX11_goOn_211 (by decide) (fun c64 => ?_) (fun c64 => ?_)
    · skip
      have rlc64 : x63.toInt ≤ (8 : Int) := iv_le c64
      have ir65 : IV x63 (-1600) 8 := iv_vL ix63 (iv_c (by decide) : IV 8 8 8) (iv_le c64) (by decide)
      have ir65a := ir65.1; have ir65b := ir65.2
      refine lv_aload_n hx hb dX11_goOn_218 rfl (lv_at hl 0 rfl) ?_
      refine th_getM S hK hH inG11 t0 km_0 rfl 10 (by decide) gm_1240 rfl rfl dX11_goOn_219 (fun v66 hv66 wv66 => ?_)
      obtain ⟨lg67, rfl⟩ := th_V.long hv66
      have klg67 : lg67.toInt = q199 31 := by obtain ⟨vs, z1, z2⟩ := wv66; exact z2 _ z1
      refine th_callSi (n := 1) (As := [.long lg67]) S hK hH hS (th_A.sub (by decide)) (m_X11_isKept l D cT T q199 hT hq199 (lg67)) gm_1455 gm_1453 gm_1454 gm_124 (by decide +kernel) ⟨rfl, rfl, Nat.le_of_ble_eq_true rfl, Nat.le_of_ble_eq_true rfl⟩ rfl hl.1 rfl (Nat.le_of_ble_eq_true rfl) dX11_goOn_222 ⟨Nat.zero_le _, Nat.zero_le _⟩ (fun x68 H locs ix68 hH hS hF1 => ?_)
      have l1x68 := ix68.1; have l2x68 := ix68.2
      refine lv_if_eq (tgt := 232) hx hb dX11_goOn_225 (by decide) (fun c69 => ?_) (fun c69 => ?_)
      · skip
        have rlc69 : x68.toInt = (0 : Int) := congrArg Int32.toInt c69
        have ir70 : IV x68 0 0 := iv_eL c69 (iv_c (by decide) : IV 0 0 0)
        have ir70a := ir70.1; have ir70b := ir70.2
        refine lv_iconst (v := 2) hx hb dX11_goOn_232 (by decide) ?_
        exact J233_s1_2 q199 H locs ls hq199 h0199 (show q199 27 < q199 28 ∧ q199 28 ≤ q199 26 ∧ q 28 ≤ q199 27 by exact ⟨by omega, by omega, by omega⟩) (show 97 ≤ sg q (q199 27) ∧ sg q (q199 27) ≤ 122 by first | (rw [wq199_27, ← hc]; exact ⟨by omega, by omega⟩) | (rw [wq199_27]; assumption) | assumption) (show sg q (q199 28) < 97 ∨ 122 < sg q (q199 28) by first | assumption | (rw [wq199_28]; assumption)) (show q199 31 = 7237492 → q199 27 + 3 ≤ q199 28 by omega) hH hS (lv_sub hl [] rfl)
      · skip
        have rlc69 : x68.toInt ≠ (0 : Int) := iv_ne c69
        have ir71 : IV x68 1 1 := iv_cutL ix68 (iv_c (by decide) : IV 0 0 0) c69 (by decide)
        have ir71a := ir71.1; have ir71b := ir71.2
        refine lv_iconst (v := 3) hx hb dX11_goOn_228 (by decide) ?_
        refine lv_goto (tgt := 233) hx hb dX11_goOn_229 (by decide) ?_
        exact J233_s1_3 q199 H locs ls hq199 h0199 (show q199 27 < q199 28 ∧ q199 28 ≤ q199 26 ∧ q 28 ≤ q199 27 by exact ⟨by omega, by omega, by omega⟩) (show 97 ≤ sg q (q199 27) ∧ sg q (q199 27) ≤ 122 by first | (rw [wq199_27, ← hc]; exact ⟨by omega, by omega⟩) | (rw [wq199_27]; assumption) | assumption) (show sg q (q199 28) < 97 ∨ 122 < sg q (q199 28) by first | assumption | (rw [wq199_28]; assumption)) (show q199 31 = 7237492 → q199 27 + 3 ≤ q199 28 by omega) hH hS (lv_sub hl [] rfl)
    · skip
      have rlc64 : (8 : Int) < x63.toInt := iv_nle c64
      have ir72 : IV x63 9 1601 := iv_uR (iv_c (by decide) : IV 8 8 8) ix63 (iv_nle c64) (by decide)
      have ir72a := ir72.1; have ir72b := ir72.2
      refine lv_iconst (v := 1) hx hb dX11_goOn_214 (by decide) ?_
      refine lv_goto (tgt := 233) hx hb dX11_goOn_215 (by decide) ?_
      exact J233_s1_1 q199 H locs ls hq199 h0199 (show q199 27 < q199 28 ∧ q199 28 ≤ q199 26 ∧ q 28 ≤ q199 27 by exact ⟨by omega, by omega, by omega⟩) (show 97 ≤ sg q (q199 27) ∧ sg q (q199 27) ≤ 122 by first | (rw [wq199_27, ← hc]; exact ⟨by omega, by omega⟩) | (rw [wq199_27]; assumption) | assumption) (show sg q (q199 28) < 97 ∨ 122 < sg q (q199 28) by first | assumption | (rw [wq199_28]; assumption)) (show q199 31 = 7237492 → q199 27 + 3 ≤ q199 28 by omega) hH hS (lv_sub hl [] rfl)


set_option maxHeartbeats 20000000 in
set_option maxRecDepth 100000 in
theorem J156_X11_goOn (l : Launch) (D : va_G) (cT : Nat → ClassId) (T : Nat → Option Nat) (q : Nat → Int) (hT : tokm T) (hq : qkm q) (a0 : Nat) (t0 : T a0 = some 0) (hp0 : q 28 ≤ q 26) (p : Program) (e : Env) (s : State) (m : MethodId) (below : List Frame) (meth : Method) (c : Code) (S : CallFix p m c cX11_goOn 3 s [.ref a0].toArray gw yX11_goOn.cls) (hK : va_K D classes (th_tys cT) s) (hr : meth.sig.returnType = none) (hlocks : meth.locks = false) : ∀ (n : Nat) (q156 : Nat → Int) (H : Heap) (locs : List Loc) (ls : Array Slot) (v156_2 : Int32), qkm q156 → fr [27, 28, 29, 31] q q156 → IV v156_2 0 1601 → (q156 27 < q156 28 ∧ q156 28 ≤ q156 26 ∧ q 28 ≤ q156 27) → (97 ≤ sg q (q156 27) ∧ sg q (q156 27) ≤ 122) → (sg q (q156 28) < 97 ∨ 122 < sg q (q156 28)) → (q156 27 ≤ v156_2.toInt ∧ v156_2.toInt ≤ q156 28) → ((v156_2.toInt = q156 27 → q156 31 = 0) ∧ (v156_2.toInt = q156 27 + 1 → 0 ≤ q156 31 ∧ q156 31 < 256) ∧ (v156_2.toInt = q156 27 + 2 → 0 ≤ q156 31 ∧ q156 31 < 65536)) → th_H D cT T (km q156) H → va_S (th_A T [0]) s.heap H locs → lv_has ls 3 [(0, .ref a0), (2, .int v156_2)] → (1601 + 1 - Int32.toInt v156_2).toNat < n → W p l e (rmk 1 22) s m [.ref a0].toArray below meth c H locs 0 0 (MQ below (th_QM D cT T (fun v q2 => v = none ∧ qkm q2 ∧ fr [27, 28, 29, 31] q q2 ∧ (TS q2) ∧ (q 28 ≤ q2 27) ∧ (LX q q2)) [0]) [.ref a0].toArray s 0 0 (th_A T [0])) (F0 m 156 ls []) := by
    have hx := S.1
    have hb := S.2.1
    have b26 := qkm_26 hq; have b28 := qkm_28 hq
    have J199 := J199_X11_goOn l D cT T q hT hq a0 t0 hp0 p e s m below meth c S hK hr hlocks
    intro n
    induction n with
    | zero => intro q156 H locs ls v156_2 hq156 h0156 iv156_2 v156_inv0 v156_inv1 v156_inv2 v156_inv3 v156_inv4 hH hS hl hn; exact absurd hn (Nat.not_lt_zero _)
    | succ n ih156 =>
      intro q156 H locs ls v156_2 hq156 h0156 iv156_2 v156_inv0 v156_inv1 v156_inv2 v156_inv3 v156_inv4 hH hS hl hn156
      have w156_26 : q156 26 = q 26 := h0156 26 (by decide) (Or.inl (by decide))
      have l1v156_2 := iv156_2.1; have l2v156_2 := iv156_2.2
      refine lv_iload_n hx hb dX11_goOn_156 rfl (lv_at hl 1 rfl) ?_
      refine lv_aload_n hx hb dX11_goOn_157 rfl (lv_at hl 0 rfl) ?_
      refine th_get S hK hH inG11 t0 km_0 rfl 7 (by decide) gm_1237 rfl rfl dX11_goOn_158 (fun v73 hv73 fv73 => ?_)
      obtain ⟨x74, rfl, ix74⟩ := th_V.int hv73
      have kx74 : x74.toInt = q156 28 := Int.le_antisymm ix74.2 ix74.1
      have bx74 := qkm_28 hq156
      have ix74 : IV x74 0 1601 := iv_w ix74 (qkm_28 hq156)
      refine lv_icmp_ge (tgt := 199) hx hb dX11_goOn_161 (by decide) (fun c75 => ?_) (fun c75 => ?_)
      · skip
        have rlc75 : x74.toInt ≤ v156_2.toInt := iv_le c75
        exact J199 q156 H locs ls hq156 h0156 (show q156 27 < q156 28 ∧ q156 28 ≤ q156 26 ∧ q 28 ≤ q156 27 by exact ⟨by omega, by omega, by omega⟩) (show 97 ≤ sg q (q156 27) ∧ sg q (q156 27) ≤ 122 by first | (rw [wq156_27, ← hc]; exact ⟨by omega, by omega⟩) | (rw [wq156_27]; assumption) | assumption) (show sg q (q156 28) < 97 ∨ 122 < sg q (q156 28) by first | assumption | (rw [wq156_28]; assumption)) (show q156 31 = 7237492 → q156 27 + 3 ≤ q156 28 by omega) hH hS (lv_sub hl [0] rfl)
      · skip
        have rlc75 : v156_2.toInt < x74.toInt := iv_nle c75
        have ir76 : IV v156_2 0 1600 := iv_uL iv156_2 ix74 (iv_nle c75) (by decide)
        have ir76a := ir76.1; have ir76b := ir76.2
        have ir77 : IV x74 1 1601 := iv_uR iv156_2 ix74 (iv_nle c75) (by decide)
        have ir77a := ir77.1; have ir77b := ir77.2
        refine lv_iload_n hx hb dX11_goOn_164 rfl (lv_at hl 1 rfl) ?_
        refine lv_aload_n hx hb dX11_goOn_165 rfl (lv_at hl 0 rfl) ?_
        refine th_get S hK hH inG11 t0 km_0 rfl 6 (by decide) gm_1236 rfl rfl dX11_goOn_166 (fun v78 hv78 fv78 => ?_)
        obtain ⟨x79, rfl, ix79⟩ := th_V.int hv78
        have kx79 : x79.toInt = q156 27 := Int.le_antisymm ix79.2 ix79.1
        have bx79 := qkm_27 hq156
        have ix79 : IV x79 0 1600 := iv_w ix79 (qkm_27 hq156)
        refine lv_bipush (v := 8) hx hb dX11_goOn_169 (by decide) ?_
        refine lv_iadd hx hb dX11_goOn_171 ?_
        refine lv_topi (fun x80 ex80 => ?_)
        have ix80 : IV x80 8 1608 := by rw [ex80]; exact iv_add ix79 (iv_c (by decide) : IV 8 8 8) (by decide)
        have ux80 : x80.toInt = x79.toInt + (8 : Int) := by rw [ex80]; exact iv_addE (by have z1 := (ix79).1; have z2 := (ix79).2; have z3 := ((iv_c (by decide) : IV 8 8 8)).1; have z4 := ((iv_c (by decide) : IV 8 8 8)).2; omega)
        refine lv_icmp_ge (tgt := 199) hx hb dX11_goOn_172 (by decide) (fun c81 => ?_) (fun c81 => ?_)
        · skip
          have rlc81 : x80.toInt ≤ v156_2.toInt := iv_le c81
          have ir82 : IV v156_2 8 1600 := iv_vR ix80 ir76 (iv_le c81) (by decide)
          have ir82a := ir82.1; have ir82b := ir82.2
          have ir83 : IV x80 8 1600 := iv_vL ix80 ir76 (iv_le c81) (by decide)
          have ir83a := ir83.1; have ir83b := ir83.2
          have z1 := ir83.1; have z2 := ir83.2; have z3 := (ix79).1; have z4 := (ix79).2
          have ir84 : IV x79 0 1592 := ⟨by omega, by omega⟩
          exact J199 q156 H locs ls hq156 h0156 (show q156 27 < q156 28 ∧ q156 28 ≤ q156 26 ∧ q 28 ≤ q156 27 by exact ⟨by omega, by omega, by omega⟩) (show 97 ≤ sg q (q156 27) ∧ sg q (q156 27) ≤ 122 by first | (rw [wq156_27, ← hc]; exact ⟨by omega, by omega⟩) | (rw [wq156_27]; assumption) | assumption) (show sg q (q156 28) < 97 ∨ 122 < sg q (q156 28) by first | assumption | (rw [wq156_28]; assumption)) (show q156 31 = 7237492 → q156 27 + 3 ≤ q156 28 by omega) hH hS (lv_sub hl [0] rfl)
        · skip
          have rlc81 : v156_2.toInt < x80.toInt := iv_nle c81
          refine lv_aload_n hx hb dX11_goOn_175 rfl (lv_at hl 0 rfl) ?_
          refine lv_aload_n hx hb dX11_goOn_176 rfl (lv_at hl 0 rfl) ?_
          refine th_getM S hK hH inG11 t0 km_0 rfl 10 (by decide) gm_1240 rfl rfl dX11_goOn_177 (fun v85 hv85 wv85 => ?_)
          obtain ⟨lg86, rfl⟩ := th_V.long hv85
          have klg86 : lg86.toInt = q156 31 := by obtain ⟨vs, z1, z2⟩ := wv85; exact z2 _ z1
          refine lv_bipush (v := 8) hx hb dX11_goOn_180 (by decide) ?_
          refine lv_lshl (v := _) hx hb dX11_goOn_182 rfl ?_
          refine lv_topl (fun lg87 elg87 => ?_)
          refine lv_aload_n hx hb dX11_goOn_183 rfl (lv_at hl 0 rfl) ?_
          refine lv_iload_n hx hb dX11_goOn_184 rfl (lv_at hl 1 rfl) ?_
          refine th_callVp (n := 1) (As := [.int v156_2]) S hK hH hS (th_A.sub (by decide)) (m_X11_sign l D cT T q156 hT hq156 a0 t0 (v156_2) (iv_w ir76 (by decide))) gm_1449 gm_1446 gm_1448 gm_48 gm_124 (by decide +kernel) ⟨rfl, rfl, Nat.le_of_ble_eq_true rfl, Nat.le_of_ble_eq_true rfl⟩ t0 km_0 rfl rfl hl.1 rfl (Nat.le_of_ble_eq_true rfl) dX11_goOn_185 ⟨Nat.zero_le _, Nat.zero_le _⟩ (fun x88 H locs ix88 ox88 hH hS hF1 => ?_)
          have ox88 : x88.toInt = sg q156 v156_2.toInt := ox88
          have l1x88 := ix88.1; have l2x88 := ix88.2
          refine lv_i2l (v := _) hx hb dX11_goOn_188 rfl ?_
          refine lv_topl (fun lg89 elg89 => ?_)
          refine lv_lor hx hb dX11_goOn_189 ?_
          refine lv_topl (fun lg90 elg90 => ?_)
          have hns := name_step elg90 (by assumption) (by assumption) ix88
          have hns1 := hns.1; have hns2 := hns.2
          obtain ⟨n92, en92⟩ : ∃ z : Int, z = Int64.toInt lg90 := ⟨_, rfl⟩
          refine mput_name S hK hH hS ⟨0, by decide, t0⟩ hT t0 en92 gm_1240 dX11_goOn_190 (fun q91 H locs eq91 hH hS hq1 => ?_)
          have hqq91 : qkm q91 := by rw [eq91]; exact qum_ok31 hq156 (by rw [en92]; exact l64 _)
          have h0q91 : fr [27, 28, 29, 31] q q91 := by rw [eq91]; exact fr_up h0156 (by decide)
          have wq91_26 : q91 26 = q156 26 := by rw [eq91]; rfl
          have wq91_27 : q91 27 = q156 27 := by rw [eq91]; rfl
          have wq91_28 : q91 28 = q156 28 := by rw [eq91]; rfl
          have wq91_29 : q91 29 = q156 29 := by rw [eq91]; rfl
          have wq91_31 : q91 31 = n92 := by rw [eq91]; rfl
          refine th_iinc S dX11_goOn_193 hl (k := 1) rfl (by decide) ir76 (by decide) (fun x93 ls ex93 ix93 hl => ?_)
          have hl : lv_has ls 3 [(2, .int x93), (0, .ref a0)] := hl
          have ix93 : IV x93 1 1601 := ix93
          refine lv_goto (tgt := 156) hx hb dX11_goOn_196 (by decide) ?_
          exact ih156 q91 H locs ls x93 hqq91 h0q91 (iv_w ix93 (by decide)) (show q91 27 < q91 28 ∧ q91 28 ≤ q91 26 ∧ q 28 ≤ q91 27 by exact ⟨by omega, by omega, by omega⟩) (show 97 ≤ sg q (q91 27) ∧ sg q (q91 27) ≤ 122 by first | (rw [wq91_27, ← hc]; exact ⟨by omega, by omega⟩) | (rw [wq91_27]; assumption) | assumption) (show sg q (q91 28) < 97 ∨ 122 < sg q (q91 28) by first | assumption | (rw [wq91_28]; assumption)) (show q91 27 ≤ x93.toInt ∧ x93.toInt ≤ q91 28 by omega) (show (x93.toInt = q91 27 → q91 31 = 0) ∧ (x93.toInt = q91 27 + 1 → 0 ≤ q91 31 ∧ q91 31 < 256) ∧ (x93.toInt = q91 27 + 2 → 0 ≤ q91 31 ∧ q91 31 < 65536) by omega) hH hS (lv_sub hl [1, 0] rfl) (th_up iv156_2 ex93 (by decide) hn156)

