
set_option maxHeartbeats 20000000 in
set_option maxRecDepth 100000 in
theorem J119_X11_goOn (l : Launch) (D : va_G) (cT : Nat → ClassId) (T : Nat → Option Nat) (q : Nat → Int) (hT : tokm T) (hq : qkm q) (a0 : Nat) (t0 : T a0 = some 0) (hp0 : q 28 ≤ q 26) (p : Program) (e : Env) (s : State) (m : MethodId) (below : List Frame) (meth : Method) (c : Code) (S : CallFix p m c cX11_goOn 3 s [.ref a0].toArray gw yX11_goOn.cls) (hK : va_K D classes (th_tys cT) s) (hr : meth.sig.returnType = none) (hlocks : meth.locks = false) : ∀ (n : Nat) (q119 : Nat → Int) (H : Heap) (locs : List Loc) (ls : Array Slot), qkm q119 → fr [27, 28, 29, 31] q q119 → (q119 27 < q119 28 ∧ q119 28 ≤ q119 26 ∧ q 28 ≤ q119 27) → (97 ≤ sg q (q119 27) ∧ sg q (q119 27) ≤ 122) → th_H D cT T (km q119) H → va_S (th_A T [0]) s.heap H locs → lv_has ls 3 [(0, .ref a0)] → (q119 26 - q119 28).toNat < n → W p l e (rmk 1 22) s m [.ref a0].toArray below meth c H locs 0 0 (MQ below (th_QM D cT T (fun v q2 => v = none ∧ qkm q2 ∧ fr [27, 28, 29, 31] q q2 ∧ (TS q2) ∧ (q 28 ≤ q2 27) ∧ (LX q q2)) [0]) [.ref a0].toArray s 0 0 (th_A T [0])) (F0 m 119 ls []) := by
    have hx := S.1
    have hb := S.2.1
    have b26 := qkm_26 hq; have b28 := qkm_28 hq
    have J156 := J156_X11_goOn l D cT T q hT hq a0 t0 hp0 p e s m below meth c S hK hr hlocks
    intro n
    induction n with
    | zero => intro q119 H locs ls hq119 h0119 v119_inv0 v119_inv1 hH hS hl hn; exact absurd hn (Nat.not_lt_zero _)
    | succ n ih119 =>
      intro q119 H locs ls hq119 h0119 v119_inv0 v119_inv1 hH hS hl hn119
      have w119_26 : q119 26 = q 26 := h0119 26 (by decide) (Or.inl (by decide))
      refine lv_aload_n hx hb dX11_goOn_119 rfl (lv_at hl 0 rfl) ?_
      refine lv_aload_n hx hb dX11_goOn_120 rfl (lv_at hl 0 rfl) ?_
      refine th_get S hK hH inG11 t0 km_0 rfl 7 (by decide) gm_1237 rfl rfl dX11_goOn_121 (fun v94 hv94 fv94 => ?_)
      obtain ⟨x95, rfl, ix95⟩ := th_V.int hv94
      have kx95 : x95.toInt = q119 28 := Int.le_antisymm ix95.2 ix95.1
      have bx95 := qkm_28 hq119
      have ix95 : IV x95 0 1601 := iv_w ix95 (qkm_28 hq119)
      refine th_callVp (n := 1) (As := [.int x95]) S hK hH hS (th_A.sub (by decide)) (m_X11_sign l D cT T q119 hT hq119 a0 t0 (x95) ix95) gm_1449 gm_1446 gm_1448 gm_48 gm_124 (by decide +kernel) ⟨rfl, rfl, Nat.le_of_ble_eq_true rfl, Nat.le_of_ble_eq_true rfl⟩ t0 km_0 rfl rfl hl.1 rfl (Nat.le_of_ble_eq_true rfl) dX11_goOn_124 ⟨Nat.zero_le _, Nat.zero_le _⟩ (fun x96 H locs ix96 ox96 hH hS hF1 => ?_)
      have ox96 : x96.toInt = sg q119 x95.toInt := ox96
      have l1x96 := ix96.1; have l2x96 := ix96.2
      refine th_callSp (n := 1) (As := [.int x96]) S hK hH hS (th_A.sub (by decide)) (m_X11_isLetter l D cT T q119 hT hq119 (x96) (iv_top _)) gm_1452 gm_1450 gm_1451 gm_124 (by decide +kernel) ⟨rfl, rfl, Nat.le_of_ble_eq_true rfl, Nat.le_of_ble_eq_true rfl⟩ rfl hl.1 rfl (Nat.le_of_ble_eq_true rfl) dX11_goOn_127 ⟨Nat.zero_le _, Nat.zero_le _⟩ (fun x97 H locs ix97 ox97 hH hS hF1 => ?_)
      obtain ⟨ox97_0, ox97_1⟩ := ox97
      have ox97_0 : x97.toInt ≠ 0 → 97 ≤ x96.toInt ∧ x96.toInt ≤ 122 := ox97_0
      have ox97_1 : x97.toInt = 0 → x96.toInt < 97 ∨ 122 < x96.toInt := ox97_1
      have l1x97 := ix97.1; have l2x97 := ix97.2
      refine lv_if_eq (tgt := 146) hx hb dX11_goOn_130 (by decide) (fun c98 => ?_) (fun c98 => ?_)
      · skip
        have rlc98 : x97.toInt = (0 : Int) := congrArg Int32.toInt c98
        clear ox97_0
        have ox97_1r := ox97_1 rlc98
        clear ox97_1
        have ir99 : IV x97 0 0 := iv_eL c98 (iv_c (by decide) : IV 0 0 0)
        have ir99a := ir99.1; have ir99b := ir99.2
        have hz : x96.toInt = sg q (q119 28) := sg_at ox96 h0119 (by decide) (by decide) (by decide) (by omega)
        have hnl : sg q (q119 28) < 97 ∨ 122 < sg q (q119 28) := by omega
        refine lv_aload_n hx hb dX11_goOn_146 rfl (lv_at hl 0 rfl) ?_
        refine lv_lconst (v := 0) hx hb dX11_goOn_147 (by decide) ?_
        obtain ⟨n101, en101⟩ : ∃ z : Int, z = Int64.toInt 0 := ⟨_, rfl⟩
        have fn101 : n101 = 0 := by rw [en101]; rfl
        refine mput_name S hK hH hS ⟨0, by decide, t0⟩ hT t0 en101 gm_1240 dX11_goOn_148 (fun q100 H locs eq100 hH hS hq1 => ?_)
        have hqq100 : qkm q100 := by rw [eq100]; exact qum_ok31 hq119 (by rw [en101]; exact l64 _)
        have h0q100 : fr [27, 28, 29, 31] q q100 := by rw [eq100]; exact fr_up h0119 (by decide)
        have wq100_26 : q100 26 = q119 26 := by rw [eq100]; rfl
        have wq100_27 : q100 27 = q119 27 := by rw [eq100]; rfl
        have wq100_28 : q100 28 = q119 28 := by rw [eq100]; rfl
        have wq100_29 : q100 29 = q119 29 := by rw [eq100]; rfl
        have wq100_31 : q100 31 = n101 := by rw [eq100]; rfl
        refine lv_aload_n hx hb dX11_goOn_151 rfl (lv_at hl 0 rfl) ?_
        refine th_get S hK hH inG11 t0 km_0 rfl 6 (by decide) gm_1236 rfl rfl dX11_goOn_152 (fun v102 hv102 fv102 => ?_)
        obtain ⟨x103, rfl, ix103⟩ := th_V.int hv102
        have kx103 : x103.toInt = q100 27 := Int.le_antisymm ix103.2 ix103.1
        have bx103 := qkm_27 hqq100
        have ix103 : IV x103 0 1600 := iv_w ix103 (qkm_27 hqq100)
        refine lv_istore_n (lv' := [(2, .int x103), (0, .ref a0)]) hx hb dX11_goOn_155 rfl hl (by decide) rfl (fun ls hl => ?_)
        exact J156 ((1601 + 1 - Int32.toInt x103).toNat + 1) q100 H locs ls x103 hqq100 h0q100 (iv_w ix103 (by decide)) (show q100 27 < q100 28 ∧ q100 28 ≤ q100 26 ∧ q 28 ≤ q100 27 by exact ⟨by omega, by omega, by omega⟩) (show 97 ≤ sg q (q100 27) ∧ sg q (q100 27) ≤ 122 by first | (rw [wq100_27, ← hc]; exact ⟨by omega, by omega⟩) | (rw [wq100_27]; assumption) | assumption) (show sg q (q100 28) < 97 ∨ 122 < sg q (q100 28) by first | assumption | (rw [wq100_28]; assumption)) (show q100 27 ≤ x103.toInt ∧ x103.toInt ≤ q100 28 by omega) (show (x103.toInt = q100 27 → q100 31 = 0) ∧ (x103.toInt = q100 27 + 1 → 0 ≤ q100 31 ∧ q100 31 < 256) ∧ (x103.toInt = q100 27 + 2 → 0 ≤ q100 31 ∧ q100 31 < 65536) by omega) hH hS (lv_sub hl [1, 0] rfl) (Nat.lt_succ_self _)
      · skip
        have rlc98 : x97.toInt ≠ (0 : Int) := iv_ne c98
        have ox97_0r := ox97_0 rlc98
        clear ox97_0
        clear ox97_1
        have ir104 : IV x97 1 1 := iv_cutL ix97 (iv_c (by decide) : IV 0 0 0) c98 (by decide)
        have ir104a := ir104.1; have ir104b := ir104.2
        have hlt := sg_lt ox96 (by omega)
        refine lv_aload_n hx hb dX11_goOn_133 rfl (lv_at hl 0 rfl) ?_
        refine lv_dup hx hb dX11_goOn_134 rfl ?_
        refine th_get S hK hH inG11 t0 km_0 rfl 7 (by decide) gm_1237 rfl rfl dX11_goOn_135 (fun v105 hv105 fv105 => ?_)
        obtain ⟨x106, rfl, ix106⟩ := th_V.int hv105
        have kx106 : x106.toInt = q119 28 := Int.le_antisymm ix106.2 ix106.1
        have bx106 := qkm_28 hq119
        have ix106 : IV x106 0 1601 := iv_w ix106 (qkm_28 hq119)
        refine lv_iconst (v := 1) hx hb dX11_goOn_138 (by decide) ?_
        refine lv_iadd hx hb dX11_goOn_139 ?_
        refine lv_topi (fun x107 ex107 => ?_)
        have ix107 : IV x107 1 1602 := by rw [ex107]; exact iv_add ix106 (iv_c (by decide) : IV 1 1 1) (by decide)
        have ux107 : x107.toInt = x106.toInt + (1 : Int) := by rw [ex107]; exact iv_addE (by have z1 := (ix106).1; have z2 := (ix106).2; have z3 := ((iv_c (by decide) : IV 1 1 1)).1; have z4 := ((iv_c (by decide) : IV 1 1 1)).2; omega)
        obtain ⟨n109, en109⟩ : ∃ z : Int, z = Int32.toInt x107 := ⟨_, rfl⟩
        refine mput_28 S hK hH hS ⟨0, by decide, t0⟩ hT t0 en109 gm_1237 dX11_goOn_140 (fun q108 H locs eq108 hH hS hq1 => ?_)
        have hqq108 : qkm q108 := by rw [eq108]; exact qum_ok28 hq119 (by have z1 := (ix107).1; have z2 := (ix107).2; exact ⟨by omega, by omega⟩)
        have h0q108 : fr [27, 28, 29, 31] q q108 := by rw [eq108]; exact fr_up h0119 (by decide)
        have wq108_26 : q108 26 = q119 26 := by rw [eq108]; rfl
        have wq108_27 : q108 27 = q119 27 := by rw [eq108]; rfl
        have wq108_28 : q108 28 = q119 28 + (1 : Int) := by rw [show q108 28 = n109 by rw [eq108]; rfl, en109, ux107, kx106]
        have wq108_29 : q108 29 = q119 29 := by rw [eq108]; rfl
        have wq108_31 : q108 31 = q119 31 := by rw [eq108]; rfl
        clear en109
        clear ux107
        refine lv_goto (tgt := 119) hx hb dX11_goOn_143 (by decide) ?_
        exact ih119 q108 H locs ls hqq108 h0q108 (show q108 27 < q108 28 ∧ q108 28 ≤ q108 26 ∧ q 28 ≤ q108 27 by exact ⟨by omega, by omega, by omega⟩) (show 97 ≤ sg q (q108 27) ∧ sg q (q108 27) ≤ 122 by first | (rw [wq108_27, ← hc]; exact ⟨by omega, by omega⟩) | (rw [wq108_27]; assumption) | assumption) hH hS (lv_sub hl [0] rfl) (show (q108 26 - q108 28).toNat < n by omega)


set_option maxHeartbeats 20000000 in
set_option maxRecDepth 100000 in
theorem J58_X11_goOn (l : Launch) (D : va_G) (cT : Nat → ClassId) (T : Nat → Option Nat) (q : Nat → Int) (hT : tokm T) (hq : qkm q) (a0 : Nat) (t0 : T a0 = some 0) (hp0 : q 28 ≤ q 26) (p : Program) (e : Env) (s : State) (m : MethodId) (below : List Frame) (meth : Method) (c : Code) (S : CallFix p m c cX11_goOn 3 s [.ref a0].toArray gw yX11_goOn.cls) (hK : va_K D classes (th_tys cT) s) (hr : meth.sig.returnType = none) (hlocks : meth.locks = false) : ∀ (q58 : Nat → Int) (H : Heap) (locs : List Loc) (ls : Array Slot), qkm q58 → fr [27, 28, 29, 31] q q58 → (q58 28 = q 28 ∧ q 28 ≤ q58 27 ∧ q58 27 ≤ q58 26) → th_H D cT T (km q58) H → va_S (th_A T [0]) s.heap H locs → lv_has ls 3 [(0, .ref a0)] → W p l e (rmk 1 22) s m [.ref a0].toArray below meth c H locs 0 0 (MQ below (th_QM D cT T (fun v q2 => v = none ∧ qkm q2 ∧ fr [27, 28, 29, 31] q q2 ∧ (TS q2) ∧ (q 28 ≤ q2 27) ∧ (LX q q2)) [0]) [.ref a0].toArray s 0 0 (th_A T [0])) (F0 m 58 ls []) := by
    have hx := S.1
    have hb := S.2.1
    have b26 := qkm_26 hq; have b28 := qkm_28 hq
    have J377 := J377_X11_goOn l D cT T q hT hq a0 t0 hp0 p e s m below meth c S hK hr hlocks
    have J374_s1_1 := J374_s1_1_X11_goOn l D cT T q hT hq a0 t0 hp0 p e s m below meth c S hK hr hlocks
    have J374_s1_5 := J374_s1_5_X11_goOn l D cT T q hT hq a0 t0 hp0 p e s m below meth c S hK hr hlocks
    have J259 := J259_X11_goOn l D cT T q hT hq a0 t0 hp0 p e s m below meth c S hK hr hlocks
    have J119 := J119_X11_goOn l D cT T q hT hq a0 t0 hp0 p e s m below meth c S hK hr hlocks
    intro q58 H locs ls hq58 h058 v58_inv0 hH hS hl
    have w58_26 : q58 26 = q 26 := h058 26 (by decide) (Or.inl (by decide))
    refine lv_aload_n hx hb dX11_goOn_58 rfl (lv_at hl 0 rfl) ?_
    refine lv_aload_n hx hb dX11_goOn_59 rfl (lv_at hl 0 rfl) ?_
    refine th_get S hK hH inG11 t0 km_0 rfl 6 (by decide) gm_1236 rfl rfl dX11_goOn_60 (fun v110 hv110 fv110 => ?_)
    obtain ⟨x111, rfl, ix111⟩ := th_V.int hv110
    have kx111 : x111.toInt = q58 27 := Int.le_antisymm ix111.2 ix111.1
    have bx111 := qkm_27 hq58
    have ix111 : IV x111 0 1600 := iv_w ix111 (qkm_27 hq58)
    refine th_callVp (n := 1) (As := [.int x111]) S hK hH hS (th_A.sub (by decide)) (m_X11_sign l D cT T q58 hT hq58 a0 t0 (x111) (iv_w ix111 (by decide))) gm_1449 gm_1446 gm_1448 gm_48 gm_124 (by decide +kernel) ⟨rfl, rfl, Nat.le_of_ble_eq_true rfl, Nat.le_of_ble_eq_true rfl⟩ t0 km_0 rfl rfl hl.1 rfl (Nat.le_of_ble_eq_true rfl) dX11_goOn_63 ⟨Nat.zero_le _, Nat.zero_le _⟩ (fun x112 H locs ix112 ox112 hH hS hF1 => ?_)
    have ox112 : x112.toInt = sg q58 x111.toInt := ox112
    have l1x112 := ix112.1; have l2x112 := ix112.2
    have hc : x112.toInt = sg q (q58 27) := sg_at ox112 h058 (by decide) (by decide) (by decide) (by omega)
    refine lv_istore_n (lv' := [(1, .int x112), (0, .ref a0)]) hx hb dX11_goOn_66 rfl hl (by decide) rfl (fun ls hl => ?_)
    refine lv_aload_n hx hb dX11_goOn_67 rfl (lv_at hl 1 rfl) ?_
    refine lv_aload_n hx hb dX11_goOn_68 rfl (lv_at hl 1 rfl) ?_
    refine th_get S hK hH inG11 t0 km_0 rfl 6 (by decide) gm_1236 rfl rfl dX11_goOn_69 (fun v113 hv113 fv113 => ?_)
    obtain ⟨x114, rfl, ix114⟩ := th_V.int hv113
    have kx114 : x114.toInt = q58 27 := Int.le_antisymm ix114.2 ix114.1
    have bx114 := qkm_27 hq58
    have ix114 : IV x114 0 1600 := iv_w ix114 (qkm_27 hq58)
    refine lv_iconst (v := 1) hx hb dX11_goOn_72 (by decide) ?_
    refine lv_iadd hx hb dX11_goOn_73 ?_
    refine lv_topi (fun x115 ex115 => ?_)
    have ix115 : IV x115 1 1601 := by rw [ex115]; exact iv_add ix114 (iv_c (by decide) : IV 1 1 1) (by decide)
    have ux115 : x115.toInt = x114.toInt + (1 : Int) := by rw [ex115]; exact iv_addE (by have z1 := (ix114).1; have z2 := (ix114).2; have z3 := ((iv_c (by decide) : IV 1 1 1)).1; have z4 := ((iv_c (by decide) : IV 1 1 1)).2; omega)
    obtain ⟨n117, en117⟩ : ∃ z : Int, z = Int32.toInt x115 := ⟨_, rfl⟩
    refine mput_28 S hK hH hS ⟨0, by decide, t0⟩ hT t0 en117 gm_1237 dX11_goOn_74 (fun q116 H locs eq116 hH hS hq1 => ?_)
    have hqq116 : qkm q116 := by rw [eq116]; exact qum_ok28 hq58 (iv_z en117 (iv_w ix115 (by decide)))
    have h0q116 : fr [27, 28, 29, 31] q q116 := by rw [eq116]; exact fr_up h058 (by decide)
    have wq116_26 : q116 26 = q58 26 := by rw [eq116]; rfl
    have wq116_27 : q116 27 = q58 27 := by rw [eq116]; rfl
    have wq116_28 : q116 28 = q58 27 + (1 : Int) := by rw [show q116 28 = n117 by rw [eq116]; rfl, en117, ux115, kx114]
    have wq116_29 : q116 29 = q58 29 := by rw [eq116]; rfl
    have wq116_31 : q116 31 = q58 31 := by rw [eq116]; rfl
    clear en117
    clear ux115
    refine lv_aload_n hx hb dX11_goOn_77 rfl (lv_at hl 1 rfl) ?_
    refine th_get S hK hH inG11 t0 km_0 rfl 6 (by decide) gm_1236 rfl rfl dX11_goOn_78 (fun v118 hv118 fv118 => ?_)
    obtain ⟨x119, rfl, ix119⟩ := th_V.int hv118
    have kx119 : x119.toInt = q116 27 := Int.le_antisymm ix119.2 ix119.1
    have bx119 := qkm_27 hqq116
    have ix119 : IV x119 0 1600 := iv_w ix119 (qkm_27 hqq116)
    refine lv_aload_n hx hb dX11_goOn_81 rfl (lv_at hl 1 rfl) ?_
    refine th_get S hK hH inG11 t0 km_0 rfl 3 (by decide) gm_1233 rfl rfl dX11_goOn_82 (fun v120 hv120 fv120 => ?_)
    obtain ⟨x121, rfl, ix121⟩ := th_V.int hv120
    have kx121 : x121.toInt = q116 26 := Int.le_antisymm ix121.2 ix121.1
    have bx121 := qkm_26 hqq116
    have ix121 : IV x121 0 1600 := iv_w ix121 (qkm_26 hqq116)
    refine lv_icmp_lt (tgt := 112) hx hb dX11_goOn_85 (by decide) (fun c122 => ?_) (fun c122 => ?_)
    · skip
      have rlc122 : x119.toInt < x121.toInt := iv_lt c122
      have ir123 : IV x119 0 1599 := iv_uL ix119 ix121 (iv_lt c122) (by decide)
      have ir123a := ir123.1; have ir123b := ir123.2
      have ir124 : IV x121 1 1600 := iv_uR ix119 ix121 (iv_lt c122) (by decide)
      have ir124a := ir124.1; have ir124b := ir124.2
      refine lv_iload_n hx hb dX11_goOn_112 rfl (lv_at hl 0 rfl) ?_
      refine th_callSp (n := 1) (As := [.int x112]) S hK hH hS (th_A.sub (by decide)) (m_X11_isLetter l D cT T q116 hT hqq116 (x112) (iv_top _)) gm_1452 gm_1450 gm_1451 gm_124 (by decide +kernel) ⟨rfl, rfl, Nat.le_of_ble_eq_true rfl, Nat.le_of_ble_eq_true rfl⟩ rfl hl.1 rfl (Nat.le_of_ble_eq_true rfl) dX11_goOn_113 ⟨Nat.zero_le _, Nat.zero_le _⟩ (fun x125 H locs ix125 ox125 hH hS hF1 => ?_)
      obtain ⟨ox125_0, ox125_1⟩ := ox125
      have ox125_0 : x125.toInt ≠ 0 → 97 ≤ x112.toInt ∧ x112.toInt ≤ 122 := ox125_0
      have ox125_1 : x125.toInt = 0 → x112.toInt < 97 ∨ 122 < x112.toInt := ox125_1
      have l1x125 := ix125.1; have l2x125 := ix125.2
      refine lv_if_eq (tgt := 239) hx hb dX11_goOn_116 (by decide) (fun c126 => ?_) (fun c126 => ?_)
      · skip
        have rlc126 : x125.toInt = (0 : Int) := congrArg Int32.toInt c126
        clear ox125_0
        have ox125_1r := ox125_1 rlc126
        clear ox125_1
        have ir127 : IV x125 0 0 := iv_eL c126 (iv_c (by decide) : IV 0 0 0)
        have ir127a := ir127.1; have ir127b := ir127.2
        refine lv_iload_n hx hb dX11_goOn_239 rfl (lv_at hl 0 rfl) ?_
        refine th_callSp (n := 1) (As := [.int x112]) S hK hH hS (th_A.sub (by decide)) (m_X11_isDigit l D cT T q116 hT hqq116 (x112) (iv_top _)) gm_1480 gm_1478 gm_1479 gm_124 (by decide +kernel) ⟨rfl, rfl, Nat.le_of_ble_eq_true rfl, Nat.le_of_ble_eq_true rfl⟩ rfl hl.1 rfl (Nat.le_of_ble_eq_true rfl) dX11_goOn_240 ⟨Nat.zero_le _, Nat.zero_le _⟩ (fun x128 H locs ix128 ox128 hH hS hF1 => ?_)
        obtain ⟨ox128_0, ox128_1⟩ := ox128
        have ox128_0 : x128.toInt ≠ 0 → 48 ≤ x112.toInt ∧ x112.toInt ≤ 57 := ox128_0
        have ox128_1 : x128.toInt = 0 → x112.toInt < 48 ∨ 57 < x112.toInt := ox128_1
        have l1x128 := ix128.1; have l2x128 := ix128.2
        refine lv_if_eq (tgt := 361) hx hb dX11_goOn_243 (by decide) (fun c129 => ?_) (fun c129 => ?_)
        · skip
          have rlc129 : x128.toInt = (0 : Int) := congrArg Int32.toInt c129
          clear ox128_0
          have ox128_1r := ox128_1 rlc129
          clear ox128_1
          have ir130 : IV x128 0 0 := iv_eL c129 (iv_c (by decide) : IV 0 0 0)
          have ir130a := ir130.1; have ir130b := ir130.2
          refine lv_aload_n hx hb dX11_goOn_361 rfl (lv_at hl 1 rfl) ?_
          refine lv_iload_n hx hb dX11_goOn_362 rfl (lv_at hl 0 rfl) ?_
          refine th_callSi (n := 1) (As := [.int x112]) S hK hH hS (th_A.sub (by decide)) (m_X11_isSign l D cT T q116 hT hqq116 (x112) (iv_top _)) gm_1483 gm_1481 gm_1482 gm_124 (by decide +kernel) ⟨rfl, rfl, Nat.le_of_ble_eq_true rfl, Nat.le_of_ble_eq_true rfl⟩ rfl hl.1 rfl (Nat.le_of_ble_eq_true rfl) dX11_goOn_363 ⟨Nat.zero_le _, Nat.zero_le _⟩ (fun x131 H locs ix131 hH hS hF1 => ?_)
          have l1x131 := ix131.1; have l2x131 := ix131.2
          refine lv_if_eq (tgt := 373) hx hb dX11_goOn_366 (by decide) (fun c132 => ?_) (fun c132 => ?_)
          · skip
            have rlc132 : x131.toInt = (0 : Int) := congrArg Int32.toInt c132
            have ir133 : IV x131 0 0 := iv_eL c132 (iv_c (by decide) : IV 0 0 0)
            have ir133a := ir133.1; have ir133b := ir133.2
            refine lv_iconst (v := 1) hx hb dX11_goOn_373 (by decide) ?_
            exact J374_s1_1 q116 H locs ls hqq116 h0q116 (show q116 27 < q116 28 ∧ q116 28 ≤ q116 26 ∧ q 28 ≤ q116 27 by exact ⟨by omega, by omega, by omega⟩) hH hS (lv_sub hl [] rfl)
          · skip
            have rlc132 : x131.toInt ≠ (0 : Int) := iv_ne c132
            have ir134 : IV x131 1 1 := iv_cutL ix131 (iv_c (by decide) : IV 0 0 0) c132 (by decide)
            have ir134a := ir134.1; have ir134b := ir134.2
            refine lv_iconst (v := 5) hx hb dX11_goOn_369 (by decide) ?_
            refine lv_goto (tgt := 374) hx hb dX11_goOn_370 (by decide) ?_
            exact J374_s1_5 q116 H locs ls hqq116 h0q116 (show q116 27 < q116 28 ∧ q116 28 ≤ q116 26 ∧ q 28 ≤ q116 27 by exact ⟨by omega, by omega, by omega⟩) hH hS (lv_sub hl [] rfl)
        · skip
          have rlc129 : x128.toInt ≠ (0 : Int) := iv_ne c129
          have ox128_0r := ox128_0 rlc129
          clear ox128_0
          clear ox128_1
          have ir135 : IV x128 1 1 := iv_cutL ix128 (iv_c (by decide) : IV 0 0 0) c129 (by decide)
          have ir135a := ir135.1; have ir135b := ir135.2
          have hc2 : x112.toInt = sg q (q116 27) := by rw [wq116_27]; exact hc
          refine lv_aload_n hx hb dX11_goOn_246 rfl (lv_at hl 1 rfl) ?_
          refine lv_iconst (v := 0) hx hb dX11_goOn_247 (by decide) ?_
          refine th_put S hK hH hS ⟨0, by decide, t0⟩ inG11 tyX11 tyX11_ok nmX11 t0 km_0 rfl 9 (by decide) gm_1239 rfl rfl rfl rfl (th_iv (iv_top _)) (fun vs h => nmR_set h.2.2 (by decide) rfl) (ty := .int) (by decide +kernel) rfl rfl dX11_goOn_248 (fun H locs hH hS hq1 hp1 => ?_)
          have f136 := hp1.1
          refine lv_aload_n hx hb dX11_goOn_251 rfl (lv_at hl 1 rfl) ?_
          refine lv_aload_n hx hb dX11_goOn_252 rfl (lv_at hl 1 rfl) ?_
          refine th_get S hK hH inG11 t0 km_0 rfl 6 (by decide) gm_1236 rfl rfl dX11_goOn_253 (fun v137 hv137 fv137 => ?_)
          obtain ⟨x138, rfl, ix138⟩ := th_V.int hv137
          have kx138 : x138.toInt = q116 27 := Int.le_antisymm ix138.2 ix138.1
          have bx138 := qkm_27 hqq116
          have ix138 : IV x138 0 1600 := iv_w ix138 (qkm_27 hqq116)
          obtain ⟨n140, en140⟩ : ∃ z : Int, z = Int32.toInt x138 := ⟨_, rfl⟩
          refine mput_28 S hK hH hS ⟨0, by decide, t0⟩ hT t0 en140 gm_1237 dX11_goOn_256 (fun q139 H locs eq139 hH hS hq1 => ?_)
          have hqq139 : qkm q139 := by rw [eq139]; exact qum_ok28 hqq116 (iv_z en140 (iv_w ix138 (by decide)))
          have h0q139 : fr [27, 28, 29, 31] q q139 := by rw [eq139]; exact fr_up h0q116 (by decide)
          have wq139_26 : q139 26 = q116 26 := by rw [eq139]; rfl
          have wq139_27 : q139 27 = q116 27 := by rw [eq139]; rfl
          have wq139_28 : q139 28 = q116 27 := by rw [show q139 28 = n140 by rw [eq139]; rfl, en140, kx138]
          have wq139_29 : q139 29 = q116 29 := by rw [eq139]; rfl
          have wq139_31 : q139 31 = q116 31 := by rw [eq139]; rfl
          clear en140
          exact J259 ((q139 26 - q139 28).toNat + 1) q139 H locs ls hqq139 h0q139 (show q 28 ≤ q139 27 ∧ q139 27 ≤ q139 28 ∧ q139 28 ≤ q139 26 ∧ q139 27 < q139 26 by exact ⟨by omega, by omega, by omega, by omega⟩) (show q139 28 = q139 27 → 48 ≤ sg q (q139 27) ∧ sg q (q139 27) ≤ 57 by first | (intro z; exact absurd z (by omega)) | (intro _; rw [wq139_27, ← hc2]; exact ⟨by omega, by omega⟩)) hH hS (lv_sub hl [1] rfl) (Nat.lt_succ_self _)
      · skip
        have rlc126 : x125.toInt ≠ (0 : Int) := iv_ne c126
        have ox125_0r := ox125_0 rlc126
        clear ox125_0
        clear ox125_1
        have ir141 : IV x125 1 1 := iv_cutL ix125 (iv_c (by decide) : IV 0 0 0) c126 (by decide)
        have ir141a := ir141.1; have ir141b := ir141.2
        exact J119 ((q116 26 - q116 28).toNat + 1) q116 H locs ls hqq116 h0q116 (show q116 27 < q116 28 ∧ q116 28 ≤ q116 26 ∧ q 28 ≤ q116 27 by exact ⟨by omega, by omega, by omega⟩) (show 97 ≤ sg q (q116 27) ∧ sg q (q116 27) ≤ 122 by first | (rw [wq116_27, ← hc]; exact ⟨by omega, by omega⟩) | (rw [wq116_27]; assumption) | assumption) hH hS (lv_sub hl [1] rfl) (Nat.lt_succ_self _)
    · skip
      have rlc122 : x121.toInt ≤ x119.toInt := iv_nlt c122
      refine lv_aload_n hx hb dX11_goOn_88 rfl (lv_at hl 1 rfl) ?_
      refine lv_iconst (v := 0) hx hb dX11_goOn_89 (by decide) ?_
      obtain ⟨n143, en143⟩ : ∃ z : Int, z = Int32.toInt 0 := ⟨_, rfl⟩
      have fn143 : n143 = 0 := by rw [en143]; rfl
      refine mput_29 S hK hH hS ⟨0, by decide, t0⟩ hT t0 en143 gm_1238 dX11_goOn_90 (fun q142 H locs eq142 hH hS hq1 => ?_)
      have hqq142 : qkm q142 := by rw [eq142]; exact qum_ok29 hqq116 (iv_z en143 (iv_w (iv_c (by decide) : IV 0 0 0) (by decide)))
      have h0q142 : fr [27, 28, 29, 31] q q142 := by rw [eq142]; exact fr_up h0q116 (by decide)
      have wq142_26 : q142 26 = q116 26 := by rw [eq142]; rfl
      have wq142_27 : q142 27 = q116 27 := by rw [eq142]; rfl
      have wq142_28 : q142 28 = q116 28 := by rw [eq142]; rfl
      have wq142_29 : q142 29 = 0 := by rw [show q142 29 = n143 by rw [eq142]; rfl, fn143]
      have wq142_31 : q142 31 = q116 31 := by rw [eq142]; rfl
      clear en143 fn143
      refine lv_aload_n hx hb dX11_goOn_93 rfl (lv_at hl 1 rfl) ?_
      refine lv_aload_n hx hb dX11_goOn_94 rfl (lv_at hl 1 rfl) ?_
      refine th_get S hK hH inG11 t0 km_0 rfl 3 (by decide) gm_1233 rfl rfl dX11_goOn_95 (fun v144 hv144 fv144 => ?_)
      obtain ⟨x145, rfl, ix145⟩ := th_V.int hv144
      have kx145 : x145.toInt = q142 26 := Int.le_antisymm ix145.2 ix145.1
      have bx145 := qkm_26 hqq142
      have ix145 : IV x145 0 1600 := iv_w ix145 (qkm_26 hqq142)
      obtain ⟨n147, en147⟩ : ∃ z : Int, z = Int32.toInt x145 := ⟨_, rfl⟩
      refine mput_27 S hK hH hS ⟨0, by decide, t0⟩ hT t0 en147 gm_1236 dX11_goOn_98 (fun q146 H locs eq146 hH hS hq1 => ?_)
      have hqq146 : qkm q146 := by rw [eq146]; exact qum_ok27 hqq142 (iv_z en147 ix145)
      have h0q146 : fr [27, 28, 29, 31] q q146 := by rw [eq146]; exact fr_up h0q142 (by decide)
      have wq146_26 : q146 26 = q142 26 := by rw [eq146]; rfl
      have wq146_27 : q146 27 = q142 26 := by rw [show q146 27 = n147 by rw [eq146]; rfl, en147, kx145]
      have wq146_28 : q146 28 = q142 28 := by rw [eq146]; rfl
      have wq146_29 : q146 29 = q142 29 := by rw [eq146]; rfl
      have wq146_31 : q146 31 = q142 31 := by rw [eq146]; rfl
      clear en147
      refine lv_aload_n hx hb dX11_goOn_101 rfl (lv_at hl 1 rfl) ?_
      refine lv_aload_n hx hb dX11_goOn_102 rfl (lv_at hl 1 rfl) ?_
      refine th_get S hK hH inG11 t0 km_0 rfl 3 (by decide) gm_1233 rfl rfl dX11_goOn_103 (fun v148 hv148 fv148 => ?_)
      obtain ⟨x149, rfl, ix149⟩ := th_V.int hv148
      have kx149 : x149.toInt = q146 26 := Int.le_antisymm ix149.2 ix149.1
      have bx149 := qkm_26 hqq146
      have ix149 : IV x149 0 1600 := iv_w ix149 (qkm_26 hqq146)
      obtain ⟨n151, en151⟩ : ∃ z : Int, z = Int32.toInt x149 := ⟨_, rfl⟩
      refine mput_28 S hK hH hS ⟨0, by decide, t0⟩ hT t0 en151 gm_1237 dX11_goOn_106 (fun q150 H locs eq150 hH hS hq1 => ?_)
      have hqq150 : qkm q150 := by rw [eq150]; exact qum_ok28 hqq146 (iv_z en151 (iv_w ix149 (by decide)))
      have h0q150 : fr [27, 28, 29, 31] q q150 := by rw [eq150]; exact fr_up h0q146 (by decide)
      have wq150_26 : q150 26 = q146 26 := by rw [eq150]; rfl
      have wq150_27 : q150 27 = q146 27 := by rw [eq150]; rfl
      have wq150_28 : q150 28 = q146 26 := by rw [show q150 28 = n151 by rw [eq150]; rfl, en151, kx149]
      have wq150_29 : q150 29 = q146 29 := by rw [eq150]; rfl
      have wq150_31 : q150 31 = q146 31 := by rw [eq150]; rfl
      clear en151
      refine lv_goto (tgt := 377) hx hb dX11_goOn_109 (by decide) ?_
      exact J377 q150 H locs ls hqq150 h0q150 (show TI q150 by first | exact TI_in (by omega) (by omega) (by omega) | exact TI_end (by omega) (by omega) (by omega)) (show NX q q150 by first | (exact fun _ => by rw [wq150_28]; assumption) | (exact fun z => absurd z (by omega))) (show T3 q150 by first | (exact fun z => absurd z (by omega)) | (exact fun _ z => by omega)) (show q 28 ≤ q150 27 by omega) (show LX q q150 by first | (exact fun _ => by rw [wq150_27]; assumption) | (exact fun z => absurd z (by omega))) hH hS (lv_sub hl [] rfl)

