
set_option maxRecDepth 100000 in
theorem m_X6_climb_d5l3 (l : Launch) (D : va_G) (cT : Nat → ClassId) (T : Nat → Option Nat) (q : Nat → Int) (hq : qok q) (a0 : Nat) (t0 : T a0 = some 2) (y1 : Int32) (j1 : IV y1 3 5) (y2 : Int32) (j2 : IV y2 5 5) : th_Met l D cT T (kd q) yX6_climb cX6_climb 7 (some .boolean) (rmk 18 455) [.ref a0, .int y1, .int y2] (th_R T (some (.inl (0, 1)))) [2, 56, 57] := by
  refine th_start (by decide) (Nat.le_of_ble_eq_true rfl) ?_
  intro p e s m below meth c ls S hK hH hr hlocks hnm hl
  have hx := S.1
  have hb := S.2.1
  have hl : lv_has ls 7 [(0, .ref a0), (1, .int y1), (2, .int y2)] := hl
  have J83 : ∀ (n : Nat) (H : Heap) (locs : List Loc) (ls : Array Slot) (v83_3 : Int32) (v83_4 : Int32), IV v83_3 3 4 → IV v83_4 0 1601 → th_H D cT T (kd q) H → va_S (th_A T [2, 56, 57]) s.heap H locs → lv_has ls 7 [(0, .ref a0), (1, .int y1), (2, .int y2), (3, .int v83_3), (4, .int v83_4)] → (1601 + 1 - v83_4.toInt).toNat < n → W p l e (rmk 18 455) s m [.ref a0, .int y1, .int y2].toArray below meth c H locs 0 0 (MQ below (th_Q D cT T (kd q) (th_R T (some (.inl (0, 1)))) [2, 56, 57]) [.ref a0, .int y1, .int y2].toArray s 0 0 (th_A T [2, 56, 57])) (F0 m 83 ls []) := by
    intro n
    induction n with
    | zero => intro H locs ls v83_3 v83_4 iv83_3 iv83_4 hH hS hl hn; exact absurd hn (Nat.not_lt_zero _)
    | succ n ih83 =>
      intro H locs ls v83_3 v83_4 iv83_3 iv83_4 hH hS hl hn83
      have J171 : ∀ (H : Heap) (locs : List Loc) (ls : Array Slot) (w171_0 : Int32), IV w171_0 3 4 → IV v83_4 0 1600 → IV y1 3 4 → th_H D cT T (kd q) H → va_S (th_A T [2, 56, 57]) s.heap H locs → lv_has ls 7 [(0, .ref a0), (1, .int y1), (2, .int y2), (4, .int v83_4)] → W p l e (rmk 18 455) s m [.ref a0, .int y1, .int y2].toArray below meth c H locs 0 0 (MQ below (th_Q D cT T (kd q) (th_R T (some (.inl (0, 1)))) [2, 56, 57]) [.ref a0, .int y1, .int y2].toArray s 0 0 (th_A T [2, 56, 57])) (F0 m 171 ls [.int w171_0]) := by
        intro H locs ls w171_0 iw171_0 f171_v83_4 f171_y1 hH hS hl
        refine lv_istore_n (lv' := [(3, .int w171_0), (0, .ref a0), (1, .int y1), (2, .int y2), (4, .int v83_4)]) hx hb dX6_climb_171 rfl hl (by decide) rfl (fun ls hl => ?_)
        refine th_iinc S dX6_climb_172 hl (k := 4) rfl (by decide) f171_v83_4 (by decide) (fun x1 ls ex1 ix1 hl => ?_)
        have hl : lv_has ls 7 [(4, .int x1), (3, .int w171_0), (0, .ref a0), (1, .int y1), (2, .int y2)] := hl
        have ix1 : IV x1 1 1601 := ix1
        refine lv_goto (tgt := 83) hx hb dX6_climb_175 (by decide) ?_
        exact ih83 H locs ls w171_0 x1 iw171_0 (iv_w ix1 (by decide)) hH hS (lv_sub hl [2, 3, 4, 1, 0] rfl) (th_up iv83_4 ex1 (by decide) hn83)
      have J120 : ∀ (H : Heap) (locs : List Loc) (ls : Array Slot), th_H D cT T (kd q) H → va_S (th_A T [2, 56, 57]) s.heap H locs → lv_has ls 7 [] → W p l e (rmk 18 455) s m [.ref a0, .int y1, .int y2].toArray below meth c H locs 0 0 (MQ below (th_Q D cT T (kd q) (th_R T (some (.inl (0, 1)))) [2, 56, 57]) [.ref a0, .int y1, .int y2].toArray s 0 0 (th_A T [2, 56, 57])) (F0 m 120 ls []) := by
        intro H locs ls hH hS hl
        refine lv_iconst (v := 1) hx hb dX6_climb_120 (by decide) ?_
        exact th_zret S hK hH hS hr hlocks (iv_w (iv_c (by decide) : IV 1 1 1) (by decide)) (th_R.i (iv_w (iv_c (by decide) : IV 1 1 1) (by decide))) dX6_climb_121
      refine lv_iload hx hb dX6_climb_83 (lv_at hl 4 rfl) ?_
      refine lv_aload_n hx hb dX6_climb_85 rfl (lv_at hl 0 rfl) ?_
      refine th_get S hK hH inG6 t0 kd_2 rfl 0 (by decide) gm_339 rfl rfl dX6_climb_86 (fun v2 hv2 fv2 => ?_)
      obtain ⟨rf3, rfl, trf3⟩ := th_V.ref hv2
      refine th_get S hK hH inG8 trf3 kd_1 rfl 5 (by decide) gm_159 rfl rfl dX6_climb_89 (fun v4 hv4 fv4 => ?_)
      obtain ⟨x5, rfl, ix5⟩ := th_V.int hv4
      refine lv_icmp_ge (tgt := 178) hx hb dX6_climb_92 (by decide) (fun c6 => ?_) (fun c6 => ?_)
      · skip
        refine lv_iconst (v := 1) hx hb dX6_climb_178 (by decide) ?_
        exact th_zret S hK hH hS hr hlocks (iv_w (iv_c (by decide) : IV 1 1 1) (by decide)) (th_R.i (iv_w (iv_c (by decide) : IV 1 1 1) (by decide))) dX6_climb_179
      · skip
        have ir7 : IV v83_4 0 1600 := iv_uL iv83_4 ix5 (iv_nle c6) (by decide)
        have ir8 : IV x5 1 1601 := iv_uR iv83_4 ix5 (iv_nle c6) (by decide)
        refine lv_aload_n hx hb dX6_climb_95 rfl (lv_at hl 0 rfl) ?_
        refine th_callVi (n := 0) (As := []) S hK hH hS (th_A.sub (by decide)) (m_X6_kind l D cT T q hq a0 t0) gm_708 gm_705 gm_707 gm_5 gm_115 (by decide +kernel) ⟨rfl, rfl, Nat.le_of_ble_eq_true rfl, Nat.le_of_ble_eq_true rfl⟩ t0 kd_2 rfl rfl hl.1 rfl (Nat.le_of_ble_eq_true rfl) dX6_climb_96 ⟨Nat.zero_le _, Nat.zero_le _⟩ (fun x9 H locs ix9 hH hS hF1 => ?_)
        refine lv_istore (lv' := [(5, .int x9), (0, .ref a0), (1, .int y1), (2, .int y2), (3, .int v83_3), (4, .int v83_4)]) hx hb dX6_climb_99 hl (by decide) rfl (fun ls hl => ?_)
        refine lv_iload hx hb dX6_climb_101 (lv_at hl 0 rfl) ?_
        refine th_callSi (n := 1) (As := [.int x9]) S hK hH hS (th_A.sub (by decide)) (m_X6_levelOf l D cT T q hq (x9) ix9) gm_773 gm_771 gm_772 gm_115 (by decide +kernel) ⟨rfl, rfl, Nat.le_of_ble_eq_true rfl, Nat.le_of_ble_eq_true rfl⟩ rfl hl.1 rfl (Nat.le_of_ble_eq_true rfl) dX6_climb_103 ⟨Nat.zero_le _, Nat.zero_le _⟩ (fun x10 H locs ix10 hH hS hF1 => ?_)
        refine lv_istore (lv' := [(6, .int x10), (5, .int x9), (0, .ref a0), (1, .int y1), (2, .int y2), (3, .int v83_3), (4, .int v83_4)]) hx hb dX6_climb_106 hl (by decide) rfl (fun ls hl => ?_)
        refine lv_iload hx hb dX6_climb_108 (lv_at hl 0 rfl) ?_
        refine lv_iload_n hx hb dX6_climb_110 rfl (lv_at hl 3 rfl) ?_
        refine lv_icmp_lt (tgt := 120) hx hb dX6_climb_111 (by decide) (fun c11 => ?_) (fun c11 => ?_)
        · skip
          exact J120 H locs ls  hH hS (lv_sub hl [] rfl)
        · skip
          have ir12 : IV x10 3 4 := iv_vR j1 ix10 (iv_nlt c11) (by decide)
          have ir13 : IV y1 3 4 := iv_vL j1 ix10 (iv_nlt c11) (by decide)
          refine lv_iload hx hb dX6_climb_114 (lv_at hl 0 rfl) ?_
          refine lv_iload_n hx hb dX6_climb_116 rfl (lv_at hl 5 rfl) ?_
          refine lv_icmp_le (tgt := 122) hx hb dX6_climb_117 (by decide) (fun c14 => ?_) (fun c14 => ?_)
          · skip
            refine lv_aload_n hx hb dX6_climb_122 rfl (lv_at hl 2 rfl) ?_
            refine lv_dup hx hb dX6_climb_123 rfl ?_
            refine th_get S hK hH inG6 t0 kd_2 rfl 2 (by decide) gm_342 rfl rfl dX6_climb_124 (fun v15 hv15 fv15 => ?_)
            obtain ⟨x16, rfl, ix16⟩ := th_V.int hv15
            refine lv_iconst (v := 1) hx hb dX6_climb_127 (by decide) ?_
            refine lv_iadd hx hb dX6_climb_128 ?_
            refine lv_topi (fun x17 ex17 => ?_)
            have ix17 := iv_top x17
            refine th_put S hK hH hS ⟨2, by decide, t0⟩ inG6 tyX6 tyX6_ok nmX6 t0 kd_2 rfl 2 (by decide) gm_342 rfl rfl rfl rfl (th_iv ix17) (fun _ _ => trivial) (ty := .int) (by decide +kernel) rfl rfl dX6_climb_129 (fun H locs hH hS hq1 hp1 => ?_)
            have f18 := hp1.1
            refine lv_aload_n hx hb dX6_climb_132 rfl (lv_at hl 2 rfl) ?_
            refine lv_iload hx hb dX6_climb_133 (lv_at hl 0 rfl) ?_
            refine lv_iconst (v := 1) hx hb dX6_climb_135 (by decide) ?_
            refine lv_iadd hx hb dX6_climb_136 ?_
            refine lv_topi (fun x19 ex19 => ?_)
            have ix19 : IV x19 4 5 := by rw [ex19]; exact iv_add ir12 (iv_c (by decide) : IV 1 1 1) (by decide)
            refine lv_iload_n hx hb dX6_climb_137 rfl (lv_at hl 4 rfl) ?_
            refine th_callVi (n := 2) (As := [.int x19, .int y2]) S hK hH hS (th_A.sub (by decide)) (m_X6_climb_d5l4 l D cT T q hq a0 t0 (x19) ix19 (y2) j2) gm_762 gm_759 gm_761 gm_15 gm_115 (by decide +kernel) ⟨rfl, rfl, Nat.le_of_ble_eq_true rfl, Nat.le_of_ble_eq_true rfl⟩ t0 kd_2 rfl rfl hl.1 rfl (Nat.le_of_ble_eq_true rfl) dX6_climb_138 ⟨Nat.zero_le _, Nat.zero_le _⟩ (fun x20 H locs ix20 hH hS hF1 => ?_)
            refine lv_if_ne (tgt := 146) hx hb dX6_climb_141 (by decide) (fun c21 => ?_) (fun c21 => ?_)
            · skip
              have ir22 : IV x20 1 1 := iv_cutL ix20 (iv_c (by decide) : IV 0 0 0) c21 (by decide)
              refine lv_aload_n hx hb dX6_climb_146 rfl (lv_at hl 2 rfl) ?_
              refine th_get S hK hH inG6 t0 kd_2 rfl 1 (by decide) gm_340 rfl rfl dX6_climb_147 (fun v23 hv23 fv23 => ?_)
              obtain ⟨rf24, rfl, trf24⟩ := th_V.ref hv23
              refine th_get S hK hH inG4 trf24 kd_46 rfl 9 (by decide) gm_269 rfl rfl dX6_climb_150 (fun v25 hv25 fv25 => ?_)
              obtain ⟨rf26, rfl, trf26⟩ := th_V.ref hv25
              refine lv_iload hx hb dX6_climb_153 (lv_at hl 1 rfl) ?_
              refine lv_ineg hx hb dX6_climb_155 ?_
              refine lv_topi (fun x27 ex27 => ?_)
              have ix27 := iv_top x27
              refine th_callVv (n := 1) (As := [.int x27]) S hK hH hS (th_A.sub (by decide)) (m_X2_add l D cT T q hq rf26 trf26 (x27) ix27) gm_766 gm_763 gm_764 gm_765 gm_117 (by decide +kernel) ⟨rfl, rfl, Nat.le_of_ble_eq_true rfl, Nat.le_of_ble_eq_true rfl⟩ trf26 kd_56 rfl rfl hl.1 rfl (Nat.le_of_ble_eq_true rfl) dX6_climb_156 ⟨Nat.zero_le _, Nat.zero_le _⟩ (fun H locs hH hS hF1 => ?_)
              have f28 := fv23.kept (hF1 _ fv23.lt (th_off t0 (by decide)))
              have f29 := fv25.kept (hF1 _ fv25.lt (th_off trf24 (by decide)))
              refine lv_iload hx hb dX6_climb_159 (lv_at hl 0 rfl) ?_
              refine lv_iconst (v := 2) hx hb dX6_climb_161 (by decide) ?_
              refine lv_icmp_ne (tgt := 169) hx hb dX6_climb_162 (by decide) (fun c30 => ?_) (fun c30 => ?_)
              · skip
                refine lv_iload hx hb dX6_climb_169 (lv_at hl 0 rfl) ?_
                exact J171 H locs ls x10 ir12 ir7 ir13 hH hS (lv_sub hl [2, 3, 4, 6] rfl)
              · skip
                exfalso
                have z1 := congrArg Int32.toInt c30
                have z2 := (ir12).1
                have z3 := (ir12).2
                have z4 := ((iv_c (by decide) : IV 2 2 2)).1
                have z5 := ((iv_c (by decide) : IV 2 2 2)).2
                omega
            · skip
              have ir31 : IV x20 0 0 := iv_eL c21 (iv_c (by decide) : IV 0 0 0)
              refine lv_iconst (v := 0) hx hb dX6_climb_144 (by decide) ?_
              exact th_zret S hK hH hS hr hlocks (iv_w (iv_c (by decide) : IV 0 0 0) (by decide)) (th_R.i (iv_w (iv_c (by decide) : IV 0 0 0) (by decide))) dX6_climb_145
          · skip
            have ir32 : IV v83_3 3 3 := iv_uL iv83_3 ir12 (iv_nle c14) (by decide)
            have ir33 : IV x10 4 4 := iv_uR iv83_3 ir12 (iv_nle c14) (by decide)
            exact J120 H locs ls  hH hS (lv_sub hl [] rfl)
  have J80 : ∀ (H : Heap) (locs : List Loc) (ls : Array Slot) (v80_3 : Int32), IV v80_3 4 4 → th_H D cT T (kd q) H → va_S (th_A T [2, 56, 57]) s.heap H locs → lv_has ls 7 [(0, .ref a0), (1, .int y1), (2, .int y2), (3, .int v80_3)] → W p l e (rmk 18 455) s m [.ref a0, .int y1, .int y2].toArray below meth c H locs 0 0 (MQ below (th_Q D cT T (kd q) (th_R T (some (.inl (0, 1)))) [2, 56, 57]) [.ref a0, .int y1, .int y2].toArray s 0 0 (th_A T [2, 56, 57])) (F0 m 80 ls []) := by
    intro H locs ls v80_3 iv80_3 hH hS hl
    refine lv_iconst (v := 0) hx hb dX6_climb_80 (by decide) ?_
    refine lv_istore (lv' := [(4, .int 0), (0, .ref a0), (1, .int y1), (2, .int y2), (3, .int v80_3)]) hx hb dX6_climb_81 hl (by decide) rfl (fun ls hl => ?_)
    exact J83 ((1601 + 1 - Int32.toInt 0).toNat + 1) H locs ls v80_3 0 (iv_w iv80_3 (by decide)) (iv_w (iv_c (by decide) : IV 0 0 0) (by decide)) hH hS (lv_sub hl [1, 2, 3, 4, 0] rfl) (Nat.lt_succ_self _)
  have J70 : ∀ (H : Heap) (locs : List Loc) (ls : Array Slot) (v70_3 : Int32), IV v70_3 4 4 → th_H D cT T (kd q) H → va_S (th_A T [2, 56, 57]) s.heap H locs → lv_has ls 7 [(0, .ref a0), (1, .int y1), (2, .int y2), (3, .int v70_3)] → W p l e (rmk 18 455) s m [.ref a0, .int y1, .int y2].toArray below meth c H locs 0 0 (MQ below (th_Q D cT T (kd q) (th_R T (some (.inl (0, 1)))) [2, 56, 57]) [.ref a0, .int y1, .int y2].toArray s 0 0 (th_A T [2, 56, 57])) (F0 m 70 ls []) := by
    intro H locs ls v70_3 iv70_3 hH hS hl
    refine lv_aload_n hx hb dX6_climb_70 rfl (lv_at hl 0 rfl) ?_
    refine lv_iload_n hx hb dX6_climb_71 rfl (lv_at hl 2 rfl) ?_
    refine th_callVi (n := 1) (As := [.int y2]) S hK hH hS (th_A.sub (by decide)) (m_X6_unit_d5 l D cT T q hq a0 t0 (y2) j2) gm_770 gm_767 gm_769 gm_16 gm_115 (by decide +kernel) ⟨rfl, rfl, Nat.le_of_ble_eq_true rfl, Nat.le_of_ble_eq_true rfl⟩ t0 kd_2 rfl rfl hl.1 rfl (Nat.le_of_ble_eq_true rfl) dX6_climb_72 ⟨Nat.zero_le _, Nat.zero_le _⟩ (fun x34 H locs ix34 hH hS hF1 => ?_)
    refine lv_if_ne (tgt := 80) hx hb dX6_climb_75 (by decide) (fun c35 => ?_) (fun c35 => ?_)
    · skip
      have ir36 : IV x34 1 1 := iv_cutL ix34 (iv_c (by decide) : IV 0 0 0) c35 (by decide)
      exact J80 H locs ls v70_3 iv70_3 hH hS (lv_sub hl [0, 1, 2, 3] rfl)
    · skip
      have ir37 : IV x34 0 0 := iv_eL c35 (iv_c (by decide) : IV 0 0 0)
      refine lv_iconst (v := 0) hx hb dX6_climb_78 (by decide) ?_
      exact th_zret S hK hH hS hr hlocks (iv_w (iv_c (by decide) : IV 0 0 0) (by decide)) (th_R.i (iv_w (iv_c (by decide) : IV 0 0 0) (by decide))) dX6_climb_79
  have J0 : ∀ (H : Heap) (locs : List Loc) (ls : Array Slot), th_H D cT T (kd q) H → va_S (th_A T [2, 56, 57]) s.heap H locs → lv_has ls 7 [(0, .ref a0), (1, .int y1), (2, .int y2)] → W p l e (rmk 18 455) s m [.ref a0, .int y1, .int y2].toArray below meth c H locs 0 0 (MQ below (th_Q D cT T (kd q) (th_R T (some (.inl (0, 1)))) [2, 56, 57]) [.ref a0, .int y1, .int y2].toArray s 0 0 (th_A T [2, 56, 57])) (F0 m 0 ls []) := by
    intro H locs ls hH hS hl
    refine lv_iconst (v := 4) hx hb dX6_climb_0 (by decide) ?_
    refine lv_istore_n (lv' := [(3, .int 4), (0, .ref a0), (1, .int y1), (2, .int y2)]) hx hb dX6_climb_1 rfl hl (by decide) rfl (fun ls hl => ?_)
    refine lv_aload_n hx hb dX6_climb_2 rfl (lv_at hl 1 rfl) ?_
    refine th_callVi (n := 0) (As := []) S hK hH hS (th_A.sub (by decide)) (m_X6_kind l D cT T q hq a0 t0) gm_708 gm_705 gm_707 gm_5 gm_115 (by decide +kernel) ⟨rfl, rfl, Nat.le_of_ble_eq_true rfl, Nat.le_of_ble_eq_true rfl⟩ t0 kd_2 rfl rfl hl.1 rfl (Nat.le_of_ble_eq_true rfl) dX6_climb_3 ⟨Nat.zero_le _, Nat.zero_le _⟩ (fun x38 H locs ix38 hH hS hF1 => ?_)
    refine lv_sipush (v := 149) hx hb dX6_climb_6 (by decide) ?_
    refine lv_icmp_ne (tgt := 70) hx hb dX6_climb_9 (by decide) (fun c39 => ?_) (fun c39 => ?_)
    · skip
      exact J70 H locs ls 4 (iv_c (by decide) : IV 4 4 4) hH hS (lv_sub hl [1, 2, 3, 0] rfl)
    · skip
      have ir40 : IV x38 149 149 := iv_eL c39 (iv_c (by decide) : IV 149 149 149)
      refine lv_iload_n hx hb dX6_climb_12 rfl (lv_at hl 2 rfl) ?_
      refine lv_iconst (v := 2) hx hb dX6_climb_13 (by decide) ?_
      refine lv_icmp_gt (tgt := 70) hx hb dX6_climb_14 (by decide) (fun c41 => ?_) (fun c41 => ?_)
      · skip
        exact J70 H locs ls 4 (iv_c (by decide) : IV 4 4 4) hH hS (lv_sub hl [1, 2, 3, 0] rfl)
      · skip
        exfalso
        have z1 := iv_nlt c41
        have z2 := ((iv_c (by decide) : IV 2 2 2)).1
        have z3 := ((iv_c (by decide) : IV 2 2 2)).2
        have z4 := (j1).1
        have z5 := (j1).2
        omega
  exact J0 s.heap [] ls hH va_S.rf hl

set_option maxRecDepth 100000 in
theorem m_X6_climb_d5l2 (l : Launch) (D : va_G) (cT : Nat → ClassId) (T : Nat → Option Nat) (q : Nat → Int) (hq : qok q) (a0 : Nat) (t0 : T a0 = some 2) (y1 : Int32) (j1 : IV y1 2 5) (y2 : Int32) (j2 : IV y2 5 5) : th_Met l D cT T (kd q) yX6_climb cX6_climb 7 (some .boolean) (rmk 19 481) [.ref a0, .int y1, .int y2] (th_R T (some (.inl (0, 1)))) [2, 56, 57] := by
  refine th_start (by decide) (Nat.le_of_ble_eq_true rfl) ?_
  intro p e s m below meth c ls S hK hH hr hlocks hnm hl
  have hx := S.1
  have hb := S.2.1
  have hl : lv_has ls 7 [(0, .ref a0), (1, .int y1), (2, .int y2)] := hl
  have J83 : ∀ (n : Nat) (H : Heap) (locs : List Loc) (ls : Array Slot) (v83_3 : Int32) (v83_4 : Int32), IV v83_3 1 4 → IV v83_4 0 1601 → th_H D cT T (kd q) H → va_S (th_A T [2, 56, 57]) s.heap H locs → lv_has ls 7 [(0, .ref a0), (1, .int y1), (2, .int y2), (3, .int v83_3), (4, .int v83_4)] → (1601 + 1 - v83_4.toInt).toNat < n → W p l e (rmk 19 481) s m [.ref a0, .int y1, .int y2].toArray below meth c H locs 0 0 (MQ below (th_Q D cT T (kd q) (th_R T (some (.inl (0, 1)))) [2, 56, 57]) [.ref a0, .int y1, .int y2].toArray s 0 0 (th_A T [2, 56, 57])) (F0 m 83 ls []) := by
    intro n
    induction n with
    | zero => intro H locs ls v83_3 v83_4 iv83_3 iv83_4 hH hS hl hn; exact absurd hn (Nat.not_lt_zero _)
    | succ n ih83 =>
      intro H locs ls v83_3 v83_4 iv83_3 iv83_4 hH hS hl hn83
      have J171 : ∀ (H : Heap) (locs : List Loc) (ls : Array Slot) (w171_0 : Int32), IV w171_0 3 4 → IV v83_4 0 1600 → IV y1 2 4 → th_H D cT T (kd q) H → va_S (th_A T [2, 56, 57]) s.heap H locs → lv_has ls 7 [(0, .ref a0), (1, .int y1), (2, .int y2), (4, .int v83_4)] → W p l e (rmk 19 481) s m [.ref a0, .int y1, .int y2].toArray below meth c H locs 0 0 (MQ below (th_Q D cT T (kd q) (th_R T (some (.inl (0, 1)))) [2, 56, 57]) [.ref a0, .int y1, .int y2].toArray s 0 0 (th_A T [2, 56, 57])) (F0 m 171 ls [.int w171_0]) := by
        intro H locs ls w171_0 iw171_0 f171_v83_4 f171_y1 hH hS hl
        refine lv_istore_n (lv' := [(3, .int w171_0), (0, .ref a0), (1, .int y1), (2, .int y2), (4, .int v83_4)]) hx hb dX6_climb_171 rfl hl (by decide) rfl (fun ls hl => ?_)
        refine th_iinc S dX6_climb_172 hl (k := 4) rfl (by decide) f171_v83_4 (by decide) (fun x1 ls ex1 ix1 hl => ?_)
        have hl : lv_has ls 7 [(4, .int x1), (3, .int w171_0), (0, .ref a0), (1, .int y1), (2, .int y2)] := hl
        have ix1 : IV x1 1 1601 := ix1
        refine lv_goto (tgt := 83) hx hb dX6_climb_175 (by decide) ?_
        exact ih83 H locs ls w171_0 x1 (iv_w iw171_0 (by decide)) (iv_w ix1 (by decide)) hH hS (lv_sub hl [2, 3, 4, 1, 0] rfl) (th_up iv83_4 ex1 (by decide) hn83)
      have J171_s0_1 : ∀ (H : Heap) (locs : List Loc) (ls : Array Slot), IV v83_4 0 1600 → IV y1 2 4 → th_H D cT T (kd q) H → va_S (th_A T [2, 56, 57]) s.heap H locs → lv_has ls 7 [(0, .ref a0), (1, .int y1), (2, .int y2), (4, .int v83_4)] → W p l e (rmk 19 481) s m [.ref a0, .int y1, .int y2].toArray below meth c H locs 0 0 (MQ below (th_Q D cT T (kd q) (th_R T (some (.inl (0, 1)))) [2, 56, 57]) [.ref a0, .int y1, .int y2].toArray s 0 0 (th_A T [2, 56, 57])) (F0 m 171 ls [.int 1]) := by
        intro H locs ls f171_v83_4 f171_y1 hH hS hl
        refine lv_istore_n (lv' := [(3, .int 1), (0, .ref a0), (1, .int y1), (2, .int y2), (4, .int v83_4)]) hx hb dX6_climb_171 rfl hl (by decide) rfl (fun ls hl => ?_)
        refine th_iinc S dX6_climb_172 hl (k := 4) rfl (by decide) f171_v83_4 (by decide) (fun x2 ls ex2 ix2 hl => ?_)
        have hl : lv_has ls 7 [(4, .int x2), (3, .int 1), (0, .ref a0), (1, .int y1), (2, .int y2)] := hl
        have ix2 : IV x2 1 1601 := ix2
        refine lv_goto (tgt := 83) hx hb dX6_climb_175 (by decide) ?_
        exact ih83 H locs ls 1 x2 (iv_w (iv_c (by decide) : IV 1 1 1) (by decide)) (iv_w ix2 (by decide)) hH hS (lv_sub hl [2, 3, 4, 1, 0] rfl) (th_up iv83_4 ex2 (by decide) hn83)
      have J120 : ∀ (H : Heap) (locs : List Loc) (ls : Array Slot), th_H D cT T (kd q) H → va_S (th_A T [2, 56, 57]) s.heap H locs → lv_has ls 7 [] → W p l e (rmk 19 481) s m [.ref a0, .int y1, .int y2].toArray below meth c H locs 0 0 (MQ below (th_Q D cT T (kd q) (th_R T (some (.inl (0, 1)))) [2, 56, 57]) [.ref a0, .int y1, .int y2].toArray s 0 0 (th_A T [2, 56, 57])) (F0 m 120 ls []) := by
        intro H locs ls hH hS hl
        refine lv_iconst (v := 1) hx hb dX6_climb_120 (by decide) ?_
        exact th_zret S hK hH hS hr hlocks (iv_w (iv_c (by decide) : IV 1 1 1) (by decide)) (th_R.i (iv_w (iv_c (by decide) : IV 1 1 1) (by decide))) dX6_climb_121
      refine lv_iload hx hb dX6_climb_83 (lv_at hl 4 rfl) ?_
      refine lv_aload_n hx hb dX6_climb_85 rfl (lv_at hl 0 rfl) ?_
      refine th_get S hK hH inG6 t0 kd_2 rfl 0 (by decide) gm_339 rfl rfl dX6_climb_86 (fun v3 hv3 fv3 => ?_)
      obtain ⟨rf4, rfl, trf4⟩ := th_V.ref hv3
      refine th_get S hK hH inG8 trf4 kd_1 rfl 5 (by decide) gm_159 rfl rfl dX6_climb_89 (fun v5 hv5 fv5 => ?_)
      obtain ⟨x6, rfl, ix6⟩ := th_V.int hv5
      refine lv_icmp_ge (tgt := 178) hx hb dX6_climb_92 (by decide) (fun c7 => ?_) (fun c7 => ?_)
      · skip
        refine lv_iconst (v := 1) hx hb dX6_climb_178 (by decide) ?_
        exact th_zret S hK hH hS hr hlocks (iv_w (iv_c (by decide) : IV 1 1 1) (by decide)) (th_R.i (iv_w (iv_c (by decide) : IV 1 1 1) (by decide))) dX6_climb_179
      · skip
        have ir8 : IV v83_4 0 1600 := iv_uL iv83_4 ix6 (iv_nle c7) (by decide)
        have ir9 : IV x6 1 1601 := iv_uR iv83_4 ix6 (iv_nle c7) (by decide)
        refine lv_aload_n hx hb dX6_climb_95 rfl (lv_at hl 0 rfl) ?_
        refine th_callVi (n := 0) (As := []) S hK hH hS (th_A.sub (by decide)) (m_X6_kind l D cT T q hq a0 t0) gm_708 gm_705 gm_707 gm_5 gm_115 (by decide +kernel) ⟨rfl, rfl, Nat.le_of_ble_eq_true rfl, Nat.le_of_ble_eq_true rfl⟩ t0 kd_2 rfl rfl hl.1 rfl (Nat.le_of_ble_eq_true rfl) dX6_climb_96 ⟨Nat.zero_le _, Nat.zero_le _⟩ (fun x10 H locs ix10 hH hS hF1 => ?_)
        refine lv_istore (lv' := [(5, .int x10), (0, .ref a0), (1, .int y1), (2, .int y2), (3, .int v83_3), (4, .int v83_4)]) hx hb dX6_climb_99 hl (by decide) rfl (fun ls hl => ?_)
        refine lv_iload hx hb dX6_climb_101 (lv_at hl 0 rfl) ?_
        refine th_callSi (n := 1) (As := [.int x10]) S hK hH hS (th_A.sub (by decide)) (m_X6_levelOf l D cT T q hq (x10) ix10) gm_773 gm_771 gm_772 gm_115 (by decide +kernel) ⟨rfl, rfl, Nat.le_of_ble_eq_true rfl, Nat.le_of_ble_eq_true rfl⟩ rfl hl.1 rfl (Nat.le_of_ble_eq_true rfl) dX6_climb_103 ⟨Nat.zero_le _, Nat.zero_le _⟩ (fun x11 H locs ix11 hH hS hF1 => ?_)
        refine lv_istore (lv' := [(6, .int x11), (5, .int x10), (0, .ref a0), (1, .int y1), (2, .int y2), (3, .int v83_3), (4, .int v83_4)]) hx hb dX6_climb_106 hl (by decide) rfl (fun ls hl => ?_)
        refine lv_iload hx hb dX6_climb_108 (lv_at hl 0 rfl) ?_
        refine lv_iload_n hx hb dX6_climb_110 rfl (lv_at hl 3 rfl) ?_
        refine lv_icmp_lt (tgt := 120) hx hb dX6_climb_111 (by decide) (fun c12 => ?_) (fun c12 => ?_)
        · skip
          exact J120 H locs ls  hH hS (lv_sub hl [] rfl)
        · skip
          have ir13 : IV x11 2 4 := iv_vR j1 ix11 (iv_nlt c12) (by decide)
          have ir14 : IV y1 2 4 := iv_vL j1 ix11 (iv_nlt c12) (by decide)
          refine lv_iload hx hb dX6_climb_114 (lv_at hl 0 rfl) ?_
          refine lv_iload_n hx hb dX6_climb_116 rfl (lv_at hl 5 rfl) ?_
          refine lv_icmp_le (tgt := 122) hx hb dX6_climb_117 (by decide) (fun c15 => ?_) (fun c15 => ?_)
          · skip
            have ir16 : IV v83_3 2 4 := iv_vR ir13 iv83_3 (iv_le c15) (by decide)
            refine lv_aload_n hx hb dX6_climb_122 rfl (lv_at hl 2 rfl) ?_
            refine lv_dup hx hb dX6_climb_123 rfl ?_
            refine th_get S hK hH inG6 t0 kd_2 rfl 2 (by decide) gm_342 rfl rfl dX6_climb_124 (fun v17 hv17 fv17 => ?_)
            obtain ⟨x18, rfl, ix18⟩ := th_V.int hv17
            refine lv_iconst (v := 1) hx hb dX6_climb_127 (by decide) ?_
            refine lv_iadd hx hb dX6_climb_128 ?_
            refine lv_topi (fun x19 ex19 => ?_)
            have ix19 := iv_top x19
            refine th_put S hK hH hS ⟨2, by decide, t0⟩ inG6 tyX6 tyX6_ok nmX6 t0 kd_2 rfl 2 (by decide) gm_342 rfl rfl rfl rfl (th_iv ix19) (fun _ _ => trivial) (ty := .int) (by decide +kernel) rfl rfl dX6_climb_129 (fun H locs hH hS hq1 hp1 => ?_)
            have f20 := hp1.1
            refine lv_aload_n hx hb dX6_climb_132 rfl (lv_at hl 2 rfl) ?_
            refine lv_iload hx hb dX6_climb_133 (lv_at hl 0 rfl) ?_
            refine lv_iconst (v := 1) hx hb dX6_climb_135 (by decide) ?_
            refine lv_iadd hx hb dX6_climb_136 ?_
            refine lv_topi (fun x21 ex21 => ?_)
            have ix21 : IV x21 3 5 := by rw [ex21]; exact iv_add ir13 (iv_c (by decide) : IV 1 1 1) (by decide)
            refine lv_iload_n hx hb dX6_climb_137 rfl (lv_at hl 4 rfl) ?_
            refine th_callVi (n := 2) (As := [.int x21, .int y2]) S hK hH hS (th_A.sub (by decide)) (m_X6_climb_d5l3 l D cT T q hq a0 t0 (x21) ix21 (y2) j2) gm_762 gm_759 gm_761 gm_15 gm_115 (by decide +kernel) ⟨rfl, rfl, Nat.le_of_ble_eq_true rfl, Nat.le_of_ble_eq_true rfl⟩ t0 kd_2 rfl rfl hl.1 rfl (Nat.le_of_ble_eq_true rfl) dX6_climb_138 ⟨Nat.zero_le _, Nat.zero_le _⟩ (fun x22 H locs ix22 hH hS hF1 => ?_)
            refine lv_if_ne (tgt := 146) hx hb dX6_climb_141 (by decide) (fun c23 => ?_) (fun c23 => ?_)
            · skip
              have ir24 : IV x22 1 1 := iv_cutL ix22 (iv_c (by decide) : IV 0 0 0) c23 (by decide)
              refine lv_aload_n hx hb dX6_climb_146 rfl (lv_at hl 2 rfl) ?_
              refine th_get S hK hH inG6 t0 kd_2 rfl 1 (by decide) gm_340 rfl rfl dX6_climb_147 (fun v25 hv25 fv25 => ?_)
              obtain ⟨rf26, rfl, trf26⟩ := th_V.ref hv25
              refine th_get S hK hH inG4 trf26 kd_46 rfl 9 (by decide) gm_269 rfl rfl dX6_climb_150 (fun v27 hv27 fv27 => ?_)
              obtain ⟨rf28, rfl, trf28⟩ := th_V.ref hv27
              refine lv_iload hx hb dX6_climb_153 (lv_at hl 1 rfl) ?_
              refine lv_ineg hx hb dX6_climb_155 ?_
              refine lv_topi (fun x29 ex29 => ?_)
              have ix29 := iv_top x29
              refine th_callVv (n := 1) (As := [.int x29]) S hK hH hS (th_A.sub (by decide)) (m_X2_add l D cT T q hq rf28 trf28 (x29) ix29) gm_766 gm_763 gm_764 gm_765 gm_117 (by decide +kernel) ⟨rfl, rfl, Nat.le_of_ble_eq_true rfl, Nat.le_of_ble_eq_true rfl⟩ trf28 kd_56 rfl rfl hl.1 rfl (Nat.le_of_ble_eq_true rfl) dX6_climb_156 ⟨Nat.zero_le _, Nat.zero_le _⟩ (fun H locs hH hS hF1 => ?_)
              have f30 := fv25.kept (hF1 _ fv25.lt (th_off t0 (by decide)))
              have f31 := fv27.kept (hF1 _ fv27.lt (th_off trf26 (by decide)))
              refine lv_iload hx hb dX6_climb_159 (lv_at hl 0 rfl) ?_
              refine lv_iconst (v := 2) hx hb dX6_climb_161 (by decide) ?_
              refine lv_icmp_ne (tgt := 169) hx hb dX6_climb_162 (by decide) (fun c32 => ?_) (fun c32 => ?_)
              · skip
                have ir33 : IV x11 3 4 := iv_cutL ir13 (iv_c (by decide) : IV 2 2 2) c32 (by decide)
                refine lv_iload hx hb dX6_climb_169 (lv_at hl 0 rfl) ?_
                exact J171 H locs ls x11 ir33 ir8 ir14 hH hS (lv_sub hl [2, 3, 4, 6] rfl)
              · skip
                have ir34 : IV x11 2 2 := iv_eL c32 (iv_c (by decide) : IV 2 2 2)
                refine lv_iconst (v := 1) hx hb dX6_climb_165 (by decide) ?_
                refine lv_goto (tgt := 171) hx hb dX6_climb_166 (by decide) ?_
                exact J171_s0_1 H locs ls ir8 ir14 hH hS (lv_sub hl [2, 3, 4, 6] rfl)
            · skip
              have ir35 : IV x22 0 0 := iv_eL c23 (iv_c (by decide) : IV 0 0 0)
              refine lv_iconst (v := 0) hx hb dX6_climb_144 (by decide) ?_
              exact th_zret S hK hH hS hr hlocks (iv_w (iv_c (by decide) : IV 0 0 0) (by decide)) (th_R.i (iv_w (iv_c (by decide) : IV 0 0 0) (by decide))) dX6_climb_145
          · skip
            have ir36 : IV v83_3 1 3 := iv_uL iv83_3 ir13 (iv_nle c15) (by decide)
            exact J120 H locs ls  hH hS (lv_sub hl [] rfl)
  have J80 : ∀ (H : Heap) (locs : List Loc) (ls : Array Slot) (v80_3 : Int32), IV v80_3 1 4 → th_H D cT T (kd q) H → va_S (th_A T [2, 56, 57]) s.heap H locs → lv_has ls 7 [(0, .ref a0), (1, .int y1), (2, .int y2), (3, .int v80_3)] → W p l e (rmk 19 481) s m [.ref a0, .int y1, .int y2].toArray below meth c H locs 0 0 (MQ below (th_Q D cT T (kd q) (th_R T (some (.inl (0, 1)))) [2, 56, 57]) [.ref a0, .int y1, .int y2].toArray s 0 0 (th_A T [2, 56, 57])) (F0 m 80 ls []) := by
    intro H locs ls v80_3 iv80_3 hH hS hl
    refine lv_iconst (v := 0) hx hb dX6_climb_80 (by decide) ?_
    refine lv_istore (lv' := [(4, .int 0), (0, .ref a0), (1, .int y1), (2, .int y2), (3, .int v80_3)]) hx hb dX6_climb_81 hl (by decide) rfl (fun ls hl => ?_)
    exact J83 ((1601 + 1 - Int32.toInt 0).toNat + 1) H locs ls v80_3 0 iv80_3 (iv_w (iv_c (by decide) : IV 0 0 0) (by decide)) hH hS (lv_sub hl [1, 2, 3, 4, 0] rfl) (Nat.lt_succ_self _)
  have J70 : ∀ (H : Heap) (locs : List Loc) (ls : Array Slot) (v70_3 : Int32), IV v70_3 4 4 → th_H D cT T (kd q) H → va_S (th_A T [2, 56, 57]) s.heap H locs → lv_has ls 7 [(0, .ref a0), (1, .int y1), (2, .int y2), (3, .int v70_3)] → W p l e (rmk 19 481) s m [.ref a0, .int y1, .int y2].toArray below meth c H locs 0 0 (MQ below (th_Q D cT T (kd q) (th_R T (some (.inl (0, 1)))) [2, 56, 57]) [.ref a0, .int y1, .int y2].toArray s 0 0 (th_A T [2, 56, 57])) (F0 m 70 ls []) := by
    intro H locs ls v70_3 iv70_3 hH hS hl
    refine lv_aload_n hx hb dX6_climb_70 rfl (lv_at hl 0 rfl) ?_
    refine lv_iload_n hx hb dX6_climb_71 rfl (lv_at hl 2 rfl) ?_
    refine th_callVi (n := 1) (As := [.int y2]) S hK hH hS (th_A.sub (by decide)) (m_X6_unit_d5 l D cT T q hq a0 t0 (y2) j2) gm_770 gm_767 gm_769 gm_16 gm_115 (by decide +kernel) ⟨rfl, rfl, Nat.le_of_ble_eq_true rfl, Nat.le_of_ble_eq_true rfl⟩ t0 kd_2 rfl rfl hl.1 rfl (Nat.le_of_ble_eq_true rfl) dX6_climb_72 ⟨Nat.zero_le _, Nat.zero_le _⟩ (fun x37 H locs ix37 hH hS hF1 => ?_)
    refine lv_if_ne (tgt := 80) hx hb dX6_climb_75 (by decide) (fun c38 => ?_) (fun c38 => ?_)
    · skip
      have ir39 : IV x37 1 1 := iv_cutL ix37 (iv_c (by decide) : IV 0 0 0) c38 (by decide)
      exact J80 H locs ls v70_3 (iv_w iv70_3 (by decide)) hH hS (lv_sub hl [0, 1, 2, 3] rfl)
    · skip
      have ir40 : IV x37 0 0 := iv_eL c38 (iv_c (by decide) : IV 0 0 0)
      refine lv_iconst (v := 0) hx hb dX6_climb_78 (by decide) ?_
      exact th_zret S hK hH hS hr hlocks (iv_w (iv_c (by decide) : IV 0 0 0) (by decide)) (th_R.i (iv_w (iv_c (by decide) : IV 0 0 0) (by decide))) dX6_climb_79
  have J0 : ∀ (H : Heap) (locs : List Loc) (ls : Array Slot), th_H D cT T (kd q) H → va_S (th_A T [2, 56, 57]) s.heap H locs → lv_has ls 7 [(0, .ref a0), (1, .int y1), (2, .int y2)] → W p l e (rmk 19 481) s m [.ref a0, .int y1, .int y2].toArray below meth c H locs 0 0 (MQ below (th_Q D cT T (kd q) (th_R T (some (.inl (0, 1)))) [2, 56, 57]) [.ref a0, .int y1, .int y2].toArray s 0 0 (th_A T [2, 56, 57])) (F0 m 0 ls []) := by
    intro H locs ls hH hS hl
    refine lv_iconst (v := 4) hx hb dX6_climb_0 (by decide) ?_
    refine lv_istore_n (lv' := [(3, .int 4), (0, .ref a0), (1, .int y1), (2, .int y2)]) hx hb dX6_climb_1 rfl hl (by decide) rfl (fun ls hl => ?_)
    refine lv_aload_n hx hb dX6_climb_2 rfl (lv_at hl 1 rfl) ?_
    refine th_callVi (n := 0) (As := []) S hK hH hS (th_A.sub (by decide)) (m_X6_kind l D cT T q hq a0 t0) gm_708 gm_705 gm_707 gm_5 gm_115 (by decide +kernel) ⟨rfl, rfl, Nat.le_of_ble_eq_true rfl, Nat.le_of_ble_eq_true rfl⟩ t0 kd_2 rfl rfl hl.1 rfl (Nat.le_of_ble_eq_true rfl) dX6_climb_3 ⟨Nat.zero_le _, Nat.zero_le _⟩ (fun x41 H locs ix41 hH hS hF1 => ?_)
    refine lv_sipush (v := 149) hx hb dX6_climb_6 (by decide) ?_
    refine lv_icmp_ne (tgt := 70) hx hb dX6_climb_9 (by decide) (fun c42 => ?_) (fun c42 => ?_)
    · skip
      exact J70 H locs ls 4 (iv_c (by decide) : IV 4 4 4) hH hS (lv_sub hl [1, 2, 3, 0] rfl)
    · skip
      have ir43 : IV x41 149 149 := iv_eL c42 (iv_c (by decide) : IV 149 149 149)
      refine lv_iload_n hx hb dX6_climb_12 rfl (lv_at hl 2 rfl) ?_
      refine lv_iconst (v := 2) hx hb dX6_climb_13 (by decide) ?_
      refine lv_icmp_gt (tgt := 70) hx hb dX6_climb_14 (by decide) (fun c44 => ?_) (fun c44 => ?_)
      · skip
        have ir45 : IV y1 3 5 := iv_uR (iv_c (by decide) : IV 2 2 2) j1 (iv_lt c44) (by decide)
        exact J70 H locs ls 4 (iv_c (by decide) : IV 4 4 4) hH hS (lv_sub hl [1, 2, 3, 0] rfl)
      · skip
        have ir46 : IV y1 2 2 := iv_vL j1 (iv_c (by decide) : IV 2 2 2) (iv_nlt c44) (by decide)
        refine lv_iload_n hx hb dX6_climb_17 rfl (lv_at hl 3 rfl) ?_
        refine lv_bipush (v := 7) hx hb dX6_climb_18 (by decide) ?_
        refine lv_icmp_lt (tgt := 29) hx hb dX6_climb_20 (by decide) (fun c47 => ?_) (fun c47 => ?_)
        · skip
          refine lv_aload_n hx hb dX6_climb_29 rfl (lv_at hl 1 rfl) ?_
          refine lv_dup hx hb dX6_climb_30 rfl ?_
          refine th_get S hK hH inG6 t0 kd_2 rfl 2 (by decide) gm_342 rfl rfl dX6_climb_31 (fun v48 hv48 fv48 => ?_)
          obtain ⟨x49, rfl, ix49⟩ := th_V.int hv48
          refine lv_iconst (v := 1) hx hb dX6_climb_34 (by decide) ?_
          refine lv_iadd hx hb dX6_climb_35 ?_
          refine lv_topi (fun x50 ex50 => ?_)
          have ix50 := iv_top x50
          refine th_put S hK hH hS ⟨2, by decide, t0⟩ inG6 tyX6 tyX6_ok nmX6 t0 kd_2 rfl 2 (by decide) gm_342 rfl rfl rfl rfl (th_iv ix50) (fun _ _ => trivial) (ty := .int) (by decide +kernel) rfl rfl dX6_climb_36 (fun H locs hH hS hq1 hp1 => ?_)
          have f51 := hp1.1
          refine lv_aload_n hx hb dX6_climb_39 rfl (lv_at hl 1 rfl) ?_
          refine lv_iconst (v := 2) hx hb dX6_climb_40 (by decide) ?_
          refine lv_iload_n hx hb dX6_climb_41 rfl (lv_at hl 3 rfl) ?_
          refine lv_iconst (v := 1) hx hb dX6_climb_42 (by decide) ?_
          refine lv_iadd hx hb dX6_climb_43 ?_
          refine lv_topi (fun x52 ex52 => ?_)
          have ix52 : IV x52 6 6 := by rw [ex52]; exact iv_add j2 (iv_c (by decide) : IV 1 1 1) (by decide)
          refine th_callVi (n := 2) (As := [.int 2, .int x52]) S hK hH hS (th_A.sub (by decide)) (m_X6_climb_d6l2 l D cT T q hq a0 t0 (2) (iv_w (iv_c (by decide) : IV 2 2 2) (by decide)) (x52) ix52) gm_762 gm_759 gm_761 gm_15 gm_115 (by decide +kernel) ⟨rfl, rfl, Nat.le_of_ble_eq_true rfl, Nat.le_of_ble_eq_true rfl⟩ t0 kd_2 rfl rfl hl.1 rfl (Nat.le_of_ble_eq_true rfl) dX6_climb_44 ⟨Nat.zero_le _, Nat.zero_le _⟩ (fun x53 H locs ix53 hH hS hF1 => ?_)
          refine lv_if_ne (tgt := 52) hx hb dX6_climb_47 (by decide) (fun c54 => ?_) (fun c54 => ?_)
          · skip
            have ir55 : IV x53 1 1 := iv_cutL ix53 (iv_c (by decide) : IV 0 0 0) c54 (by decide)
            refine lv_aload_n hx hb dX6_climb_52 rfl (lv_at hl 1 rfl) ?_
            refine th_get S hK hH inG6 t0 kd_2 rfl 1 (by decide) gm_340 rfl rfl dX6_climb_53 (fun v56 hv56 fv56 => ?_)
            obtain ⟨rf57, rfl, trf57⟩ := th_V.ref hv56
            refine th_get S hK hH inG4 trf57 kd_46 rfl 9 (by decide) gm_269 rfl rfl dX6_climb_56 (fun v58 hv58 fv58 => ?_)
            obtain ⟨rf59, rfl, trf59⟩ := th_V.ref hv58
            refine lv_sipush (v := (-149)) hx hb dX6_climb_59 (by decide) ?_
            refine th_callVv (n := 1) (As := [.int (-149)]) S hK hH hS (th_A.sub (by decide)) (m_X2_add l D cT T q hq rf59 trf59 ((-149)) (iv_top _)) gm_766 gm_763 gm_764 gm_765 gm_117 (by decide +kernel) ⟨rfl, rfl, Nat.le_of_ble_eq_true rfl, Nat.le_of_ble_eq_true rfl⟩ trf59 kd_56 rfl rfl hl.1 rfl (Nat.le_of_ble_eq_true rfl) dX6_climb_62 ⟨Nat.zero_le _, Nat.zero_le _⟩ (fun H locs hH hS hF1 => ?_)
            have f60 := fv56.kept (hF1 _ fv56.lt (th_off t0 (by decide)))
            have f61 := fv58.kept (hF1 _ fv58.lt (th_off trf57 (by decide)))
            refine lv_iconst (v := 1) hx hb dX6_climb_65 (by decide) ?_
            refine lv_istore_n (lv' := [(3, .int 1), (0, .ref a0), (1, .int y1), (2, .int y2)]) hx hb dX6_climb_66 rfl hl (by decide) rfl (fun ls hl => ?_)
            refine lv_goto (tgt := 80) hx hb dX6_climb_67 (by decide) ?_
            exact J80 H locs ls 1 (iv_w (iv_c (by decide) : IV 1 1 1) (by decide)) hH hS (lv_sub hl [1, 2, 3, 0] rfl)
          · skip
            have ir62 : IV x53 0 0 := iv_eL c54 (iv_c (by decide) : IV 0 0 0)
            refine lv_iconst (v := 0) hx hb dX6_climb_50 (by decide) ?_
            exact th_zret S hK hH hS hr hlocks (iv_w (iv_c (by decide) : IV 0 0 0) (by decide)) (th_R.i (iv_w (iv_c (by decide) : IV 0 0 0) (by decide))) dX6_climb_51
        · skip
          exfalso
          have z1 := iv_nlt c47
          have z2 := (j2).1
          have z3 := (j2).2
          have z4 := ((iv_c (by decide) : IV 7 7 7)).1
          have z5 := ((iv_c (by decide) : IV 7 7 7)).2
          omega
  exact J0 s.heap [] ls hH va_S.rf hl

set_option maxRecDepth 100000 in
theorem m_X6_climb_d5l1 (l : Launch) (D : va_G) (cT : Nat → ClassId) (T : Nat → Option Nat) (q : Nat → Int) (hq : qok q) (a0 : Nat) (t0 : T a0 = some 2) (y1 : Int32) (j1 : IV y1 1 5) (y2 : Int32) (j2 : IV y2 5 5) : th_Met l D cT T (kd q) yX6_climb cX6_climb 7 (some .boolean) (rmk 20 507) [.ref a0, .int y1, .int y2] (th_R T (some (.inl (0, 1)))) [2, 56, 57] := by
  refine th_start (by decide) (Nat.le_of_ble_eq_true rfl) ?_
  intro p e s m below meth c ls S hK hH hr hlocks hnm hl
  have hx := S.1
  have hb := S.2.1
  have hl : lv_has ls 7 [(0, .ref a0), (1, .int y1), (2, .int y2)] := hl
  have J83 : ∀ (n : Nat) (H : Heap) (locs : List Loc) (ls : Array Slot) (v83_3 : Int32) (v83_4 : Int32), IV v83_3 1 4 → IV v83_4 0 1601 → th_H D cT T (kd q) H → va_S (th_A T [2, 56, 57]) s.heap H locs → lv_has ls 7 [(0, .ref a0), (1, .int y1), (2, .int y2), (3, .int v83_3), (4, .int v83_4)] → (1601 + 1 - v83_4.toInt).toNat < n → W p l e (rmk 20 507) s m [.ref a0, .int y1, .int y2].toArray below meth c H locs 0 0 (MQ below (th_Q D cT T (kd q) (th_R T (some (.inl (0, 1)))) [2, 56, 57]) [.ref a0, .int y1, .int y2].toArray s 0 0 (th_A T [2, 56, 57])) (F0 m 83 ls []) := by
    intro n
    induction n with
    | zero => intro H locs ls v83_3 v83_4 iv83_3 iv83_4 hH hS hl hn; exact absurd hn (Nat.not_lt_zero _)
    | succ n ih83 =>
      intro H locs ls v83_3 v83_4 iv83_3 iv83_4 hH hS hl hn83
      have J171 : ∀ (H : Heap) (locs : List Loc) (ls : Array Slot) (w171_0 : Int32), IV w171_0 1 4 → IV v83_4 0 1600 → IV y1 1 4 → th_H D cT T (kd q) H → va_S (th_A T [2, 56, 57]) s.heap H locs → lv_has ls 7 [(0, .ref a0), (1, .int y1), (2, .int y2), (4, .int v83_4)] → W p l e (rmk 20 507) s m [.ref a0, .int y1, .int y2].toArray below meth c H locs 0 0 (MQ below (th_Q D cT T (kd q) (th_R T (some (.inl (0, 1)))) [2, 56, 57]) [.ref a0, .int y1, .int y2].toArray s 0 0 (th_A T [2, 56, 57])) (F0 m 171 ls [.int w171_0]) := by
        intro H locs ls w171_0 iw171_0 f171_v83_4 f171_y1 hH hS hl
        refine lv_istore_n (lv' := [(3, .int w171_0), (0, .ref a0), (1, .int y1), (2, .int y2), (4, .int v83_4)]) hx hb dX6_climb_171 rfl hl (by decide) rfl (fun ls hl => ?_)
        refine th_iinc S dX6_climb_172 hl (k := 4) rfl (by decide) f171_v83_4 (by decide) (fun x1 ls ex1 ix1 hl => ?_)
        have hl : lv_has ls 7 [(4, .int x1), (3, .int w171_0), (0, .ref a0), (1, .int y1), (2, .int y2)] := hl
        have ix1 : IV x1 1 1601 := ix1
        refine lv_goto (tgt := 83) hx hb dX6_climb_175 (by decide) ?_
        exact ih83 H locs ls w171_0 x1 iw171_0 (iv_w ix1 (by decide)) hH hS (lv_sub hl [2, 3, 4, 1, 0] rfl) (th_up iv83_4 ex1 (by decide) hn83)
      have J171_s0_1 : ∀ (H : Heap) (locs : List Loc) (ls : Array Slot), IV v83_4 0 1600 → IV y1 1 4 → th_H D cT T (kd q) H → va_S (th_A T [2, 56, 57]) s.heap H locs → lv_has ls 7 [(0, .ref a0), (1, .int y1), (2, .int y2), (4, .int v83_4)] → W p l e (rmk 20 507) s m [.ref a0, .int y1, .int y2].toArray below meth c H locs 0 0 (MQ below (th_Q D cT T (kd q) (th_R T (some (.inl (0, 1)))) [2, 56, 57]) [.ref a0, .int y1, .int y2].toArray s 0 0 (th_A T [2, 56, 57])) (F0 m 171 ls [.int 1]) := by
        intro H locs ls f171_v83_4 f171_y1 hH hS hl
        refine lv_istore_n (lv' := [(3, .int 1), (0, .ref a0), (1, .int y1), (2, .int y2), (4, .int v83_4)]) hx hb dX6_climb_171 rfl hl (by decide) rfl (fun ls hl => ?_)
        refine th_iinc S dX6_climb_172 hl (k := 4) rfl (by decide) f171_v83_4 (by decide) (fun x2 ls ex2 ix2 hl => ?_)
        have hl : lv_has ls 7 [(4, .int x2), (3, .int 1), (0, .ref a0), (1, .int y1), (2, .int y2)] := hl
        have ix2 : IV x2 1 1601 := ix2
        refine lv_goto (tgt := 83) hx hb dX6_climb_175 (by decide) ?_
        exact ih83 H locs ls 1 x2 (iv_w (iv_c (by decide) : IV 1 1 1) (by decide)) (iv_w ix2 (by decide)) hH hS (lv_sub hl [2, 3, 4, 1, 0] rfl) (th_up iv83_4 ex2 (by decide) hn83)
      have J120 : ∀ (H : Heap) (locs : List Loc) (ls : Array Slot), th_H D cT T (kd q) H → va_S (th_A T [2, 56, 57]) s.heap H locs → lv_has ls 7 [] → W p l e (rmk 20 507) s m [.ref a0, .int y1, .int y2].toArray below meth c H locs 0 0 (MQ below (th_Q D cT T (kd q) (th_R T (some (.inl (0, 1)))) [2, 56, 57]) [.ref a0, .int y1, .int y2].toArray s 0 0 (th_A T [2, 56, 57])) (F0 m 120 ls []) := by
        intro H locs ls hH hS hl
        refine lv_iconst (v := 1) hx hb dX6_climb_120 (by decide) ?_
        exact th_zret S hK hH hS hr hlocks (iv_w (iv_c (by decide) : IV 1 1 1) (by decide)) (th_R.i (iv_w (iv_c (by decide) : IV 1 1 1) (by decide))) dX6_climb_121
      refine lv_iload hx hb dX6_climb_83 (lv_at hl 4 rfl) ?_
      refine lv_aload_n hx hb dX6_climb_85 rfl (lv_at hl 0 rfl) ?_
      refine th_get S hK hH inG6 t0 kd_2 rfl 0 (by decide) gm_339 rfl rfl dX6_climb_86 (fun v3 hv3 fv3 => ?_)
      obtain ⟨rf4, rfl, trf4⟩ := th_V.ref hv3
      refine th_get S hK hH inG8 trf4 kd_1 rfl 5 (by decide) gm_159 rfl rfl dX6_climb_89 (fun v5 hv5 fv5 => ?_)
      obtain ⟨x6, rfl, ix6⟩ := th_V.int hv5
      refine lv_icmp_ge (tgt := 178) hx hb dX6_climb_92 (by decide) (fun c7 => ?_) (fun c7 => ?_)
      · skip
        refine lv_iconst (v := 1) hx hb dX6_climb_178 (by decide) ?_
        exact th_zret S hK hH hS hr hlocks (iv_w (iv_c (by decide) : IV 1 1 1) (by decide)) (th_R.i (iv_w (iv_c (by decide) : IV 1 1 1) (by decide))) dX6_climb_179
      · skip
        have ir8 : IV v83_4 0 1600 := iv_uL iv83_4 ix6 (iv_nle c7) (by decide)
        have ir9 : IV x6 1 1601 := iv_uR iv83_4 ix6 (iv_nle c7) (by decide)
        refine lv_aload_n hx hb dX6_climb_95 rfl (lv_at hl 0 rfl) ?_
        refine th_callVi (n := 0) (As := []) S hK hH hS (th_A.sub (by decide)) (m_X6_kind l D cT T q hq a0 t0) gm_708 gm_705 gm_707 gm_5 gm_115 (by decide +kernel) ⟨rfl, rfl, Nat.le_of_ble_eq_true rfl, Nat.le_of_ble_eq_true rfl⟩ t0 kd_2 rfl rfl hl.1 rfl (Nat.le_of_ble_eq_true rfl) dX6_climb_96 ⟨Nat.zero_le _, Nat.zero_le _⟩ (fun x10 H locs ix10 hH hS hF1 => ?_)
        refine lv_istore (lv' := [(5, .int x10), (0, .ref a0), (1, .int y1), (2, .int y2), (3, .int v83_3), (4, .int v83_4)]) hx hb dX6_climb_99 hl (by decide) rfl (fun ls hl => ?_)
        refine lv_iload hx hb dX6_climb_101 (lv_at hl 0 rfl) ?_
        refine th_callSi (n := 1) (As := [.int x10]) S hK hH hS (th_A.sub (by decide)) (m_X6_levelOf l D cT T q hq (x10) ix10) gm_773 gm_771 gm_772 gm_115 (by decide +kernel) ⟨rfl, rfl, Nat.le_of_ble_eq_true rfl, Nat.le_of_ble_eq_true rfl⟩ rfl hl.1 rfl (Nat.le_of_ble_eq_true rfl) dX6_climb_103 ⟨Nat.zero_le _, Nat.zero_le _⟩ (fun x11 H locs ix11 hH hS hF1 => ?_)
        refine lv_istore (lv' := [(6, .int x11), (5, .int x10), (0, .ref a0), (1, .int y1), (2, .int y2), (3, .int v83_3), (4, .int v83_4)]) hx hb dX6_climb_106 hl (by decide) rfl (fun ls hl => ?_)
        refine lv_iload hx hb dX6_climb_108 (lv_at hl 0 rfl) ?_
        refine lv_iload_n hx hb dX6_climb_110 rfl (lv_at hl 3 rfl) ?_
        refine lv_icmp_lt (tgt := 120) hx hb dX6_climb_111 (by decide) (fun c12 => ?_) (fun c12 => ?_)
        · skip
          exact J120 H locs ls  hH hS (lv_sub hl [] rfl)
        · skip
          have ir13 : IV x11 1 4 := iv_vR j1 ix11 (iv_nlt c12) (by decide)
          have ir14 : IV y1 1 4 := iv_vL j1 ix11 (iv_nlt c12) (by decide)
          refine lv_iload hx hb dX6_climb_114 (lv_at hl 0 rfl) ?_
          refine lv_iload_n hx hb dX6_climb_116 rfl (lv_at hl 5 rfl) ?_
          refine lv_icmp_le (tgt := 122) hx hb dX6_climb_117 (by decide) (fun c15 => ?_) (fun c15 => ?_)
          · skip
            refine lv_aload_n hx hb dX6_climb_122 rfl (lv_at hl 2 rfl) ?_
            refine lv_dup hx hb dX6_climb_123 rfl ?_
            refine th_get S hK hH inG6 t0 kd_2 rfl 2 (by decide) gm_342 rfl rfl dX6_climb_124 (fun v16 hv16 fv16 => ?_)
            obtain ⟨x17, rfl, ix17⟩ := th_V.int hv16
            refine lv_iconst (v := 1) hx hb dX6_climb_127 (by decide) ?_
            refine lv_iadd hx hb dX6_climb_128 ?_
            refine lv_topi (fun x18 ex18 => ?_)
            have ix18 := iv_top x18
            refine th_put S hK hH hS ⟨2, by decide, t0⟩ inG6 tyX6 tyX6_ok nmX6 t0 kd_2 rfl 2 (by decide) gm_342 rfl rfl rfl rfl (th_iv ix18) (fun _ _ => trivial) (ty := .int) (by decide +kernel) rfl rfl dX6_climb_129 (fun H locs hH hS hq1 hp1 => ?_)
            have f19 := hp1.1
            refine lv_aload_n hx hb dX6_climb_132 rfl (lv_at hl 2 rfl) ?_
            refine lv_iload hx hb dX6_climb_133 (lv_at hl 0 rfl) ?_
            refine lv_iconst (v := 1) hx hb dX6_climb_135 (by decide) ?_
            refine lv_iadd hx hb dX6_climb_136 ?_
            refine lv_topi (fun x20 ex20 => ?_)
            have ix20 : IV x20 2 5 := by rw [ex20]; exact iv_add ir13 (iv_c (by decide) : IV 1 1 1) (by decide)
            refine lv_iload_n hx hb dX6_climb_137 rfl (lv_at hl 4 rfl) ?_
            refine th_callVi (n := 2) (As := [.int x20, .int y2]) S hK hH hS (th_A.sub (by decide)) (m_X6_climb_d5l2 l D cT T q hq a0 t0 (x20) ix20 (y2) j2) gm_762 gm_759 gm_761 gm_15 gm_115 (by decide +kernel) ⟨rfl, rfl, Nat.le_of_ble_eq_true rfl, Nat.le_of_ble_eq_true rfl⟩ t0 kd_2 rfl rfl hl.1 rfl (Nat.le_of_ble_eq_true rfl) dX6_climb_138 ⟨Nat.zero_le _, Nat.zero_le _⟩ (fun x21 H locs ix21 hH hS hF1 => ?_)
            refine lv_if_ne (tgt := 146) hx hb dX6_climb_141 (by decide) (fun c22 => ?_) (fun c22 => ?_)
            · skip
              have ir23 : IV x21 1 1 := iv_cutL ix21 (iv_c (by decide) : IV 0 0 0) c22 (by decide)
              refine lv_aload_n hx hb dX6_climb_146 rfl (lv_at hl 2 rfl) ?_
              refine th_get S hK hH inG6 t0 kd_2 rfl 1 (by decide) gm_340 rfl rfl dX6_climb_147 (fun v24 hv24 fv24 => ?_)
              obtain ⟨rf25, rfl, trf25⟩ := th_V.ref hv24
              refine th_get S hK hH inG4 trf25 kd_46 rfl 9 (by decide) gm_269 rfl rfl dX6_climb_150 (fun v26 hv26 fv26 => ?_)
              obtain ⟨rf27, rfl, trf27⟩ := th_V.ref hv26
              refine lv_iload hx hb dX6_climb_153 (lv_at hl 1 rfl) ?_
              refine lv_ineg hx hb dX6_climb_155 ?_
              refine lv_topi (fun x28 ex28 => ?_)
              have ix28 := iv_top x28
              refine th_callVv (n := 1) (As := [.int x28]) S hK hH hS (th_A.sub (by decide)) (m_X2_add l D cT T q hq rf27 trf27 (x28) ix28) gm_766 gm_763 gm_764 gm_765 gm_117 (by decide +kernel) ⟨rfl, rfl, Nat.le_of_ble_eq_true rfl, Nat.le_of_ble_eq_true rfl⟩ trf27 kd_56 rfl rfl hl.1 rfl (Nat.le_of_ble_eq_true rfl) dX6_climb_156 ⟨Nat.zero_le _, Nat.zero_le _⟩ (fun H locs hH hS hF1 => ?_)
              have f29 := fv24.kept (hF1 _ fv24.lt (th_off t0 (by decide)))
              have f30 := fv26.kept (hF1 _ fv26.lt (th_off trf25 (by decide)))
              refine lv_iload hx hb dX6_climb_159 (lv_at hl 0 rfl) ?_
              refine lv_iconst (v := 2) hx hb dX6_climb_161 (by decide) ?_
              refine lv_icmp_ne (tgt := 169) hx hb dX6_climb_162 (by decide) (fun c31 => ?_) (fun c31 => ?_)
              · skip
                refine lv_iload hx hb dX6_climb_169 (lv_at hl 0 rfl) ?_
                exact J171 H locs ls x11 ir13 ir8 ir14 hH hS (lv_sub hl [2, 3, 4, 6] rfl)
              · skip
                have ir32 : IV x11 2 2 := iv_eL c31 (iv_c (by decide) : IV 2 2 2)
                refine lv_iconst (v := 1) hx hb dX6_climb_165 (by decide) ?_
                refine lv_goto (tgt := 171) hx hb dX6_climb_166 (by decide) ?_
                exact J171_s0_1 H locs ls ir8 ir14 hH hS (lv_sub hl [2, 3, 4, 6] rfl)
            · skip
              have ir33 : IV x21 0 0 := iv_eL c22 (iv_c (by decide) : IV 0 0 0)
              refine lv_iconst (v := 0) hx hb dX6_climb_144 (by decide) ?_
              exact th_zret S hK hH hS hr hlocks (iv_w (iv_c (by decide) : IV 0 0 0) (by decide)) (th_R.i (iv_w (iv_c (by decide) : IV 0 0 0) (by decide))) dX6_climb_145
          · skip
            have ir34 : IV v83_3 1 3 := iv_uL iv83_3 ir13 (iv_nle c15) (by decide)
            have ir35 : IV x11 2 4 := iv_uR iv83_3 ir13 (iv_nle c15) (by decide)
            exact J120 H locs ls  hH hS (lv_sub hl [] rfl)
  have J80 : ∀ (H : Heap) (locs : List Loc) (ls : Array Slot) (v80_3 : Int32), IV v80_3 1 4 → th_H D cT T (kd q) H → va_S (th_A T [2, 56, 57]) s.heap H locs → lv_has ls 7 [(0, .ref a0), (1, .int y1), (2, .int y2), (3, .int v80_3)] → W p l e (rmk 20 507) s m [.ref a0, .int y1, .int y2].toArray below meth c H locs 0 0 (MQ below (th_Q D cT T (kd q) (th_R T (some (.inl (0, 1)))) [2, 56, 57]) [.ref a0, .int y1, .int y2].toArray s 0 0 (th_A T [2, 56, 57])) (F0 m 80 ls []) := by
    intro H locs ls v80_3 iv80_3 hH hS hl
    refine lv_iconst (v := 0) hx hb dX6_climb_80 (by decide) ?_
    refine lv_istore (lv' := [(4, .int 0), (0, .ref a0), (1, .int y1), (2, .int y2), (3, .int v80_3)]) hx hb dX6_climb_81 hl (by decide) rfl (fun ls hl => ?_)
    exact J83 ((1601 + 1 - Int32.toInt 0).toNat + 1) H locs ls v80_3 0 iv80_3 (iv_w (iv_c (by decide) : IV 0 0 0) (by decide)) hH hS (lv_sub hl [1, 2, 3, 4, 0] rfl) (Nat.lt_succ_self _)
  have J70 : ∀ (H : Heap) (locs : List Loc) (ls : Array Slot) (v70_3 : Int32), IV v70_3 4 4 → th_H D cT T (kd q) H → va_S (th_A T [2, 56, 57]) s.heap H locs → lv_has ls 7 [(0, .ref a0), (1, .int y1), (2, .int y2), (3, .int v70_3)] → W p l e (rmk 20 507) s m [.ref a0, .int y1, .int y2].toArray below meth c H locs 0 0 (MQ below (th_Q D cT T (kd q) (th_R T (some (.inl (0, 1)))) [2, 56, 57]) [.ref a0, .int y1, .int y2].toArray s 0 0 (th_A T [2, 56, 57])) (F0 m 70 ls []) := by
    intro H locs ls v70_3 iv70_3 hH hS hl
    refine lv_aload_n hx hb dX6_climb_70 rfl (lv_at hl 0 rfl) ?_
    refine lv_iload_n hx hb dX6_climb_71 rfl (lv_at hl 2 rfl) ?_
    refine th_callVi (n := 1) (As := [.int y2]) S hK hH hS (th_A.sub (by decide)) (m_X6_unit_d5 l D cT T q hq a0 t0 (y2) j2) gm_770 gm_767 gm_769 gm_16 gm_115 (by decide +kernel) ⟨rfl, rfl, Nat.le_of_ble_eq_true rfl, Nat.le_of_ble_eq_true rfl⟩ t0 kd_2 rfl rfl hl.1 rfl (Nat.le_of_ble_eq_true rfl) dX6_climb_72 ⟨Nat.zero_le _, Nat.zero_le _⟩ (fun x36 H locs ix36 hH hS hF1 => ?_)
    refine lv_if_ne (tgt := 80) hx hb dX6_climb_75 (by decide) (fun c37 => ?_) (fun c37 => ?_)
    · skip
      have ir38 : IV x36 1 1 := iv_cutL ix36 (iv_c (by decide) : IV 0 0 0) c37 (by decide)
      exact J80 H locs ls v70_3 (iv_w iv70_3 (by decide)) hH hS (lv_sub hl [0, 1, 2, 3] rfl)
    · skip
      have ir39 : IV x36 0 0 := iv_eL c37 (iv_c (by decide) : IV 0 0 0)
      refine lv_iconst (v := 0) hx hb dX6_climb_78 (by decide) ?_
      exact th_zret S hK hH hS hr hlocks (iv_w (iv_c (by decide) : IV 0 0 0) (by decide)) (th_R.i (iv_w (iv_c (by decide) : IV 0 0 0) (by decide))) dX6_climb_79
  have J0 : ∀ (H : Heap) (locs : List Loc) (ls : Array Slot), th_H D cT T (kd q) H → va_S (th_A T [2, 56, 57]) s.heap H locs → lv_has ls 7 [(0, .ref a0), (1, .int y1), (2, .int y2)] → W p l e (rmk 20 507) s m [.ref a0, .int y1, .int y2].toArray below meth c H locs 0 0 (MQ below (th_Q D cT T (kd q) (th_R T (some (.inl (0, 1)))) [2, 56, 57]) [.ref a0, .int y1, .int y2].toArray s 0 0 (th_A T [2, 56, 57])) (F0 m 0 ls []) := by
    intro H locs ls hH hS hl
    refine lv_iconst (v := 4) hx hb dX6_climb_0 (by decide) ?_
    refine lv_istore_n (lv' := [(3, .int 4), (0, .ref a0), (1, .int y1), (2, .int y2)]) hx hb dX6_climb_1 rfl hl (by decide) rfl (fun ls hl => ?_)
    refine lv_aload_n hx hb dX6_climb_2 rfl (lv_at hl 1 rfl) ?_
    refine th_callVi (n := 0) (As := []) S hK hH hS (th_A.sub (by decide)) (m_X6_kind l D cT T q hq a0 t0) gm_708 gm_705 gm_707 gm_5 gm_115 (by decide +kernel) ⟨rfl, rfl, Nat.le_of_ble_eq_true rfl, Nat.le_of_ble_eq_true rfl⟩ t0 kd_2 rfl rfl hl.1 rfl (Nat.le_of_ble_eq_true rfl) dX6_climb_3 ⟨Nat.zero_le _, Nat.zero_le _⟩ (fun x40 H locs ix40 hH hS hF1 => ?_)
    refine lv_sipush (v := 149) hx hb dX6_climb_6 (by decide) ?_
    refine lv_icmp_ne (tgt := 70) hx hb dX6_climb_9 (by decide) (fun c41 => ?_) (fun c41 => ?_)
    · skip
      exact J70 H locs ls 4 (iv_c (by decide) : IV 4 4 4) hH hS (lv_sub hl [1, 2, 3, 0] rfl)
    · skip
      have ir42 : IV x40 149 149 := iv_eL c41 (iv_c (by decide) : IV 149 149 149)
      refine lv_iload_n hx hb dX6_climb_12 rfl (lv_at hl 2 rfl) ?_
      refine lv_iconst (v := 2) hx hb dX6_climb_13 (by decide) ?_
      refine lv_icmp_gt (tgt := 70) hx hb dX6_climb_14 (by decide) (fun c43 => ?_) (fun c43 => ?_)
      · skip
        have ir44 : IV y1 3 5 := iv_uR (iv_c (by decide) : IV 2 2 2) j1 (iv_lt c43) (by decide)
        exact J70 H locs ls 4 (iv_c (by decide) : IV 4 4 4) hH hS (lv_sub hl [1, 2, 3, 0] rfl)
      · skip
        have ir45 : IV y1 1 2 := iv_vL j1 (iv_c (by decide) : IV 2 2 2) (iv_nlt c43) (by decide)
        refine lv_iload_n hx hb dX6_climb_17 rfl (lv_at hl 3 rfl) ?_
        refine lv_bipush (v := 7) hx hb dX6_climb_18 (by decide) ?_
        refine lv_icmp_lt (tgt := 29) hx hb dX6_climb_20 (by decide) (fun c46 => ?_) (fun c46 => ?_)
        · skip
          refine lv_aload_n hx hb dX6_climb_29 rfl (lv_at hl 1 rfl) ?_
          refine lv_dup hx hb dX6_climb_30 rfl ?_
          refine th_get S hK hH inG6 t0 kd_2 rfl 2 (by decide) gm_342 rfl rfl dX6_climb_31 (fun v47 hv47 fv47 => ?_)
          obtain ⟨x48, rfl, ix48⟩ := th_V.int hv47
          refine lv_iconst (v := 1) hx hb dX6_climb_34 (by decide) ?_
          refine lv_iadd hx hb dX6_climb_35 ?_
          refine lv_topi (fun x49 ex49 => ?_)
          have ix49 := iv_top x49
          refine th_put S hK hH hS ⟨2, by decide, t0⟩ inG6 tyX6 tyX6_ok nmX6 t0 kd_2 rfl 2 (by decide) gm_342 rfl rfl rfl rfl (th_iv ix49) (fun _ _ => trivial) (ty := .int) (by decide +kernel) rfl rfl dX6_climb_36 (fun H locs hH hS hq1 hp1 => ?_)
          have f50 := hp1.1
          refine lv_aload_n hx hb dX6_climb_39 rfl (lv_at hl 1 rfl) ?_
          refine lv_iconst (v := 2) hx hb dX6_climb_40 (by decide) ?_
          refine lv_iload_n hx hb dX6_climb_41 rfl (lv_at hl 3 rfl) ?_
          refine lv_iconst (v := 1) hx hb dX6_climb_42 (by decide) ?_
          refine lv_iadd hx hb dX6_climb_43 ?_
          refine lv_topi (fun x51 ex51 => ?_)
          have ix51 : IV x51 6 6 := by rw [ex51]; exact iv_add j2 (iv_c (by decide) : IV 1 1 1) (by decide)
          refine th_callVi (n := 2) (As := [.int 2, .int x51]) S hK hH hS (th_A.sub (by decide)) (m_X6_climb_d6l2 l D cT T q hq a0 t0 (2) (iv_w (iv_c (by decide) : IV 2 2 2) (by decide)) (x51) ix51) gm_762 gm_759 gm_761 gm_15 gm_115 (by decide +kernel) ⟨rfl, rfl, Nat.le_of_ble_eq_true rfl, Nat.le_of_ble_eq_true rfl⟩ t0 kd_2 rfl rfl hl.1 rfl (Nat.le_of_ble_eq_true rfl) dX6_climb_44 ⟨Nat.zero_le _, Nat.zero_le _⟩ (fun x52 H locs ix52 hH hS hF1 => ?_)
          refine lv_if_ne (tgt := 52) hx hb dX6_climb_47 (by decide) (fun c53 => ?_) (fun c53 => ?_)
          · skip
            have ir54 : IV x52 1 1 := iv_cutL ix52 (iv_c (by decide) : IV 0 0 0) c53 (by decide)
            refine lv_aload_n hx hb dX6_climb_52 rfl (lv_at hl 1 rfl) ?_
            refine th_get S hK hH inG6 t0 kd_2 rfl 1 (by decide) gm_340 rfl rfl dX6_climb_53 (fun v55 hv55 fv55 => ?_)
            obtain ⟨rf56, rfl, trf56⟩ := th_V.ref hv55
            refine th_get S hK hH inG4 trf56 kd_46 rfl 9 (by decide) gm_269 rfl rfl dX6_climb_56 (fun v57 hv57 fv57 => ?_)
            obtain ⟨rf58, rfl, trf58⟩ := th_V.ref hv57
            refine lv_sipush (v := (-149)) hx hb dX6_climb_59 (by decide) ?_
            refine th_callVv (n := 1) (As := [.int (-149)]) S hK hH hS (th_A.sub (by decide)) (m_X2_add l D cT T q hq rf58 trf58 ((-149)) (iv_top _)) gm_766 gm_763 gm_764 gm_765 gm_117 (by decide +kernel) ⟨rfl, rfl, Nat.le_of_ble_eq_true rfl, Nat.le_of_ble_eq_true rfl⟩ trf58 kd_56 rfl rfl hl.1 rfl (Nat.le_of_ble_eq_true rfl) dX6_climb_62 ⟨Nat.zero_le _, Nat.zero_le _⟩ (fun H locs hH hS hF1 => ?_)
            have f59 := fv55.kept (hF1 _ fv55.lt (th_off t0 (by decide)))
            have f60 := fv57.kept (hF1 _ fv57.lt (th_off trf56 (by decide)))
            refine lv_iconst (v := 1) hx hb dX6_climb_65 (by decide) ?_
            refine lv_istore_n (lv' := [(3, .int 1), (0, .ref a0), (1, .int y1), (2, .int y2)]) hx hb dX6_climb_66 rfl hl (by decide) rfl (fun ls hl => ?_)
            refine lv_goto (tgt := 80) hx hb dX6_climb_67 (by decide) ?_
            exact J80 H locs ls 1 (iv_w (iv_c (by decide) : IV 1 1 1) (by decide)) hH hS (lv_sub hl [1, 2, 3, 0] rfl)
          · skip
            have ir61 : IV x52 0 0 := iv_eL c53 (iv_c (by decide) : IV 0 0 0)
            refine lv_iconst (v := 0) hx hb dX6_climb_50 (by decide) ?_
            exact th_zret S hK hH hS hr hlocks (iv_w (iv_c (by decide) : IV 0 0 0) (by decide)) (th_R.i (iv_w (iv_c (by decide) : IV 0 0 0) (by decide))) dX6_climb_51
        · skip
          exfalso
          have z1 := iv_nlt c46
          have z2 := (j2).1
          have z3 := (j2).2
          have z4 := ((iv_c (by decide) : IV 7 7 7)).1
          have z5 := ((iv_c (by decide) : IV 7 7 7)).2
          omega
  exact J0 s.heap [] ls hH va_S.rf hl

set_option maxRecDepth 100000 in
theorem m_X6_climb_d5l0 (l : Launch) (D : va_G) (cT : Nat → ClassId) (T : Nat → Option Nat) (q : Nat → Int) (hq : qok q) (a0 : Nat) (t0 : T a0 = some 2) (y1 : Int32) (j1 : IV y1 0 5) (y2 : Int32) (j2 : IV y2 5 5) : th_Met l D cT T (kd q) yX6_climb cX6_climb 7 (some .boolean) (rmk 21 533) [.ref a0, .int y1, .int y2] (th_R T (some (.inl (0, 1)))) [2, 56, 57] := by
  refine th_start (by decide) (Nat.le_of_ble_eq_true rfl) ?_
  intro p e s m below meth c ls S hK hH hr hlocks hnm hl
  have hx := S.1
  have hb := S.2.1
  have hl : lv_has ls 7 [(0, .ref a0), (1, .int y1), (2, .int y2)] := hl
  have J83 : ∀ (n : Nat) (H : Heap) (locs : List Loc) (ls : Array Slot) (v83_3 : Int32) (v83_4 : Int32), IV v83_3 0 4 → IV v83_4 0 1601 → th_H D cT T (kd q) H → va_S (th_A T [2, 56, 57]) s.heap H locs → lv_has ls 7 [(0, .ref a0), (1, .int y1), (2, .int y2), (3, .int v83_3), (4, .int v83_4)] → (1601 + 1 - v83_4.toInt).toNat < n → W p l e (rmk 21 533) s m [.ref a0, .int y1, .int y2].toArray below meth c H locs 0 0 (MQ below (th_Q D cT T (kd q) (th_R T (some (.inl (0, 1)))) [2, 56, 57]) [.ref a0, .int y1, .int y2].toArray s 0 0 (th_A T [2, 56, 57])) (F0 m 83 ls []) := by
    intro n
    induction n with
    | zero => intro H locs ls v83_3 v83_4 iv83_3 iv83_4 hH hS hl hn; exact absurd hn (Nat.not_lt_zero _)
    | succ n ih83 =>
      intro H locs ls v83_3 v83_4 iv83_3 iv83_4 hH hS hl hn83
      have J171 : ∀ (H : Heap) (locs : List Loc) (ls : Array Slot) (w171_0 : Int32), IV w171_0 0 4 → IV v83_4 0 1600 → IV y1 0 4 → th_H D cT T (kd q) H → va_S (th_A T [2, 56, 57]) s.heap H locs → lv_has ls 7 [(0, .ref a0), (1, .int y1), (2, .int y2), (4, .int v83_4)] → W p l e (rmk 21 533) s m [.ref a0, .int y1, .int y2].toArray below meth c H locs 0 0 (MQ below (th_Q D cT T (kd q) (th_R T (some (.inl (0, 1)))) [2, 56, 57]) [.ref a0, .int y1, .int y2].toArray s 0 0 (th_A T [2, 56, 57])) (F0 m 171 ls [.int w171_0]) := by
        intro H locs ls w171_0 iw171_0 f171_v83_4 f171_y1 hH hS hl
        refine lv_istore_n (lv' := [(3, .int w171_0), (0, .ref a0), (1, .int y1), (2, .int y2), (4, .int v83_4)]) hx hb dX6_climb_171 rfl hl (by decide) rfl (fun ls hl => ?_)
        refine th_iinc S dX6_climb_172 hl (k := 4) rfl (by decide) f171_v83_4 (by decide) (fun x1 ls ex1 ix1 hl => ?_)
        have hl : lv_has ls 7 [(4, .int x1), (3, .int w171_0), (0, .ref a0), (1, .int y1), (2, .int y2)] := hl
        have ix1 : IV x1 1 1601 := ix1
        refine lv_goto (tgt := 83) hx hb dX6_climb_175 (by decide) ?_
        exact ih83 H locs ls w171_0 x1 iw171_0 (iv_w ix1 (by decide)) hH hS (lv_sub hl [2, 3, 4, 1, 0] rfl) (th_up iv83_4 ex1 (by decide) hn83)
      have J171_s0_1 : ∀ (H : Heap) (locs : List Loc) (ls : Array Slot), IV v83_4 0 1600 → IV y1 0 4 → th_H D cT T (kd q) H → va_S (th_A T [2, 56, 57]) s.heap H locs → lv_has ls 7 [(0, .ref a0), (1, .int y1), (2, .int y2), (4, .int v83_4)] → W p l e (rmk 21 533) s m [.ref a0, .int y1, .int y2].toArray below meth c H locs 0 0 (MQ below (th_Q D cT T (kd q) (th_R T (some (.inl (0, 1)))) [2, 56, 57]) [.ref a0, .int y1, .int y2].toArray s 0 0 (th_A T [2, 56, 57])) (F0 m 171 ls [.int 1]) := by
        intro H locs ls f171_v83_4 f171_y1 hH hS hl
        refine lv_istore_n (lv' := [(3, .int 1), (0, .ref a0), (1, .int y1), (2, .int y2), (4, .int v83_4)]) hx hb dX6_climb_171 rfl hl (by decide) rfl (fun ls hl => ?_)
        refine th_iinc S dX6_climb_172 hl (k := 4) rfl (by decide) f171_v83_4 (by decide) (fun x2 ls ex2 ix2 hl => ?_)
        have hl : lv_has ls 7 [(4, .int x2), (3, .int 1), (0, .ref a0), (1, .int y1), (2, .int y2)] := hl
        have ix2 : IV x2 1 1601 := ix2
        refine lv_goto (tgt := 83) hx hb dX6_climb_175 (by decide) ?_
        exact ih83 H locs ls 1 x2 (iv_w (iv_c (by decide) : IV 1 1 1) (by decide)) (iv_w ix2 (by decide)) hH hS (lv_sub hl [2, 3, 4, 1, 0] rfl) (th_up iv83_4 ex2 (by decide) hn83)
      have J120 : ∀ (H : Heap) (locs : List Loc) (ls : Array Slot), th_H D cT T (kd q) H → va_S (th_A T [2, 56, 57]) s.heap H locs → lv_has ls 7 [] → W p l e (rmk 21 533) s m [.ref a0, .int y1, .int y2].toArray below meth c H locs 0 0 (MQ below (th_Q D cT T (kd q) (th_R T (some (.inl (0, 1)))) [2, 56, 57]) [.ref a0, .int y1, .int y2].toArray s 0 0 (th_A T [2, 56, 57])) (F0 m 120 ls []) := by
        intro H locs ls hH hS hl
        refine lv_iconst (v := 1) hx hb dX6_climb_120 (by decide) ?_
        exact th_zret S hK hH hS hr hlocks (iv_w (iv_c (by decide) : IV 1 1 1) (by decide)) (th_R.i (iv_w (iv_c (by decide) : IV 1 1 1) (by decide))) dX6_climb_121
      refine lv_iload hx hb dX6_climb_83 (lv_at hl 4 rfl) ?_
      refine lv_aload_n hx hb dX6_climb_85 rfl (lv_at hl 0 rfl) ?_
      refine th_get S hK hH inG6 t0 kd_2 rfl 0 (by decide) gm_339 rfl rfl dX6_climb_86 (fun v3 hv3 fv3 => ?_)
      obtain ⟨rf4, rfl, trf4⟩ := th_V.ref hv3
      refine th_get S hK hH inG8 trf4 kd_1 rfl 5 (by decide) gm_159 rfl rfl dX6_climb_89 (fun v5 hv5 fv5 => ?_)
      obtain ⟨x6, rfl, ix6⟩ := th_V.int hv5
      refine lv_icmp_ge (tgt := 178) hx hb dX6_climb_92 (by decide) (fun c7 => ?_) (fun c7 => ?_)
      · skip
        refine lv_iconst (v := 1) hx hb dX6_climb_178 (by decide) ?_
        exact th_zret S hK hH hS hr hlocks (iv_w (iv_c (by decide) : IV 1 1 1) (by decide)) (th_R.i (iv_w (iv_c (by decide) : IV 1 1 1) (by decide))) dX6_climb_179
      · skip
        have ir8 : IV v83_4 0 1600 := iv_uL iv83_4 ix6 (iv_nle c7) (by decide)
        have ir9 : IV x6 1 1601 := iv_uR iv83_4 ix6 (iv_nle c7) (by decide)
        refine lv_aload_n hx hb dX6_climb_95 rfl (lv_at hl 0 rfl) ?_
        refine th_callVi (n := 0) (As := []) S hK hH hS (th_A.sub (by decide)) (m_X6_kind l D cT T q hq a0 t0) gm_708 gm_705 gm_707 gm_5 gm_115 (by decide +kernel) ⟨rfl, rfl, Nat.le_of_ble_eq_true rfl, Nat.le_of_ble_eq_true rfl⟩ t0 kd_2 rfl rfl hl.1 rfl (Nat.le_of_ble_eq_true rfl) dX6_climb_96 ⟨Nat.zero_le _, Nat.zero_le _⟩ (fun x10 H locs ix10 hH hS hF1 => ?_)
        refine lv_istore (lv' := [(5, .int x10), (0, .ref a0), (1, .int y1), (2, .int y2), (3, .int v83_3), (4, .int v83_4)]) hx hb dX6_climb_99 hl (by decide) rfl (fun ls hl => ?_)
        refine lv_iload hx hb dX6_climb_101 (lv_at hl 0 rfl) ?_
        refine th_callSi (n := 1) (As := [.int x10]) S hK hH hS (th_A.sub (by decide)) (m_X6_levelOf l D cT T q hq (x10) ix10) gm_773 gm_771 gm_772 gm_115 (by decide +kernel) ⟨rfl, rfl, Nat.le_of_ble_eq_true rfl, Nat.le_of_ble_eq_true rfl⟩ rfl hl.1 rfl (Nat.le_of_ble_eq_true rfl) dX6_climb_103 ⟨Nat.zero_le _, Nat.zero_le _⟩ (fun x11 H locs ix11 hH hS hF1 => ?_)
        refine lv_istore (lv' := [(6, .int x11), (5, .int x10), (0, .ref a0), (1, .int y1), (2, .int y2), (3, .int v83_3), (4, .int v83_4)]) hx hb dX6_climb_106 hl (by decide) rfl (fun ls hl => ?_)
        refine lv_iload hx hb dX6_climb_108 (lv_at hl 0 rfl) ?_
        refine lv_iload_n hx hb dX6_climb_110 rfl (lv_at hl 3 rfl) ?_
        refine lv_icmp_lt (tgt := 120) hx hb dX6_climb_111 (by decide) (fun c12 => ?_) (fun c12 => ?_)
        · skip
          exact J120 H locs ls  hH hS (lv_sub hl [] rfl)
        · skip
          have ir13 : IV x11 0 4 := iv_vR j1 ix11 (iv_nlt c12) (by decide)
          have ir14 : IV y1 0 4 := iv_vL j1 ix11 (iv_nlt c12) (by decide)
          refine lv_iload hx hb dX6_climb_114 (lv_at hl 0 rfl) ?_
          refine lv_iload_n hx hb dX6_climb_116 rfl (lv_at hl 5 rfl) ?_
          refine lv_icmp_le (tgt := 122) hx hb dX6_climb_117 (by decide) (fun c15 => ?_) (fun c15 => ?_)
          · skip
            refine lv_aload_n hx hb dX6_climb_122 rfl (lv_at hl 2 rfl) ?_
            refine lv_dup hx hb dX6_climb_123 rfl ?_
            refine th_get S hK hH inG6 t0 kd_2 rfl 2 (by decide) gm_342 rfl rfl dX6_climb_124 (fun v16 hv16 fv16 => ?_)
            obtain ⟨x17, rfl, ix17⟩ := th_V.int hv16
            refine lv_iconst (v := 1) hx hb dX6_climb_127 (by decide) ?_
            refine lv_iadd hx hb dX6_climb_128 ?_
            refine lv_topi (fun x18 ex18 => ?_)
            have ix18 := iv_top x18
            refine th_put S hK hH hS ⟨2, by decide, t0⟩ inG6 tyX6 tyX6_ok nmX6 t0 kd_2 rfl 2 (by decide) gm_342 rfl rfl rfl rfl (th_iv ix18) (fun _ _ => trivial) (ty := .int) (by decide +kernel) rfl rfl dX6_climb_129 (fun H locs hH hS hq1 hp1 => ?_)
            have f19 := hp1.1
            refine lv_aload_n hx hb dX6_climb_132 rfl (lv_at hl 2 rfl) ?_
            refine lv_iload hx hb dX6_climb_133 (lv_at hl 0 rfl) ?_
            refine lv_iconst (v := 1) hx hb dX6_climb_135 (by decide) ?_
            refine lv_iadd hx hb dX6_climb_136 ?_
            refine lv_topi (fun x20 ex20 => ?_)
            have ix20 : IV x20 1 5 := by rw [ex20]; exact iv_add ir13 (iv_c (by decide) : IV 1 1 1) (by decide)
            refine lv_iload_n hx hb dX6_climb_137 rfl (lv_at hl 4 rfl) ?_
            refine th_callVi (n := 2) (As := [.int x20, .int y2]) S hK hH hS (th_A.sub (by decide)) (m_X6_climb_d5l1 l D cT T q hq a0 t0 (x20) ix20 (y2) j2) gm_762 gm_759 gm_761 gm_15 gm_115 (by decide +kernel) ⟨rfl, rfl, Nat.le_of_ble_eq_true rfl, Nat.le_of_ble_eq_true rfl⟩ t0 kd_2 rfl rfl hl.1 rfl (Nat.le_of_ble_eq_true rfl) dX6_climb_138 ⟨Nat.zero_le _, Nat.zero_le _⟩ (fun x21 H locs ix21 hH hS hF1 => ?_)
            refine lv_if_ne (tgt := 146) hx hb dX6_climb_141 (by decide) (fun c22 => ?_) (fun c22 => ?_)
            · skip
              have ir23 : IV x21 1 1 := iv_cutL ix21 (iv_c (by decide) : IV 0 0 0) c22 (by decide)
              refine lv_aload_n hx hb dX6_climb_146 rfl (lv_at hl 2 rfl) ?_
              refine th_get S hK hH inG6 t0 kd_2 rfl 1 (by decide) gm_340 rfl rfl dX6_climb_147 (fun v24 hv24 fv24 => ?_)
              obtain ⟨rf25, rfl, trf25⟩ := th_V.ref hv24
              refine th_get S hK hH inG4 trf25 kd_46 rfl 9 (by decide) gm_269 rfl rfl dX6_climb_150 (fun v26 hv26 fv26 => ?_)
              obtain ⟨rf27, rfl, trf27⟩ := th_V.ref hv26
              refine lv_iload hx hb dX6_climb_153 (lv_at hl 1 rfl) ?_
              refine lv_ineg hx hb dX6_climb_155 ?_
              refine lv_topi (fun x28 ex28 => ?_)
              have ix28 := iv_top x28
              refine th_callVv (n := 1) (As := [.int x28]) S hK hH hS (th_A.sub (by decide)) (m_X2_add l D cT T q hq rf27 trf27 (x28) ix28) gm_766 gm_763 gm_764 gm_765 gm_117 (by decide +kernel) ⟨rfl, rfl, Nat.le_of_ble_eq_true rfl, Nat.le_of_ble_eq_true rfl⟩ trf27 kd_56 rfl rfl hl.1 rfl (Nat.le_of_ble_eq_true rfl) dX6_climb_156 ⟨Nat.zero_le _, Nat.zero_le _⟩ (fun H locs hH hS hF1 => ?_)
              have f29 := fv24.kept (hF1 _ fv24.lt (th_off t0 (by decide)))
              have f30 := fv26.kept (hF1 _ fv26.lt (th_off trf25 (by decide)))
              refine lv_iload hx hb dX6_climb_159 (lv_at hl 0 rfl) ?_
              refine lv_iconst (v := 2) hx hb dX6_climb_161 (by decide) ?_
              refine lv_icmp_ne (tgt := 169) hx hb dX6_climb_162 (by decide) (fun c31 => ?_) (fun c31 => ?_)
              · skip
                refine lv_iload hx hb dX6_climb_169 (lv_at hl 0 rfl) ?_
                exact J171 H locs ls x11 ir13 ir8 ir14 hH hS (lv_sub hl [2, 3, 4, 6] rfl)
              · skip
                have ir32 : IV x11 2 2 := iv_eL c31 (iv_c (by decide) : IV 2 2 2)
                refine lv_iconst (v := 1) hx hb dX6_climb_165 (by decide) ?_
                refine lv_goto (tgt := 171) hx hb dX6_climb_166 (by decide) ?_
                exact J171_s0_1 H locs ls ir8 ir14 hH hS (lv_sub hl [2, 3, 4, 6] rfl)
            · skip
              have ir33 : IV x21 0 0 := iv_eL c22 (iv_c (by decide) : IV 0 0 0)
              refine lv_iconst (v := 0) hx hb dX6_climb_144 (by decide) ?_
              exact th_zret S hK hH hS hr hlocks (iv_w (iv_c (by decide) : IV 0 0 0) (by decide)) (th_R.i (iv_w (iv_c (by decide) : IV 0 0 0) (by decide))) dX6_climb_145
          · skip
            have ir34 : IV v83_3 0 3 := iv_uL iv83_3 ir13 (iv_nle c15) (by decide)
            have ir35 : IV x11 1 4 := iv_uR iv83_3 ir13 (iv_nle c15) (by decide)
            exact J120 H locs ls  hH hS (lv_sub hl [] rfl)
  have J80 : ∀ (H : Heap) (locs : List Loc) (ls : Array Slot) (v80_3 : Int32), IV v80_3 1 4 → th_H D cT T (kd q) H → va_S (th_A T [2, 56, 57]) s.heap H locs → lv_has ls 7 [(0, .ref a0), (1, .int y1), (2, .int y2), (3, .int v80_3)] → W p l e (rmk 21 533) s m [.ref a0, .int y1, .int y2].toArray below meth c H locs 0 0 (MQ below (th_Q D cT T (kd q) (th_R T (some (.inl (0, 1)))) [2, 56, 57]) [.ref a0, .int y1, .int y2].toArray s 0 0 (th_A T [2, 56, 57])) (F0 m 80 ls []) := by
    intro H locs ls v80_3 iv80_3 hH hS hl
    refine lv_iconst (v := 0) hx hb dX6_climb_80 (by decide) ?_
    refine lv_istore (lv' := [(4, .int 0), (0, .ref a0), (1, .int y1), (2, .int y2), (3, .int v80_3)]) hx hb dX6_climb_81 hl (by decide) rfl (fun ls hl => ?_)
    exact J83 ((1601 + 1 - Int32.toInt 0).toNat + 1) H locs ls v80_3 0 (iv_w iv80_3 (by decide)) (iv_w (iv_c (by decide) : IV 0 0 0) (by decide)) hH hS (lv_sub hl [1, 2, 3, 4, 0] rfl) (Nat.lt_succ_self _)
  have J70 : ∀ (H : Heap) (locs : List Loc) (ls : Array Slot) (v70_3 : Int32), IV v70_3 4 4 → th_H D cT T (kd q) H → va_S (th_A T [2, 56, 57]) s.heap H locs → lv_has ls 7 [(0, .ref a0), (1, .int y1), (2, .int y2), (3, .int v70_3)] → W p l e (rmk 21 533) s m [.ref a0, .int y1, .int y2].toArray below meth c H locs 0 0 (MQ below (th_Q D cT T (kd q) (th_R T (some (.inl (0, 1)))) [2, 56, 57]) [.ref a0, .int y1, .int y2].toArray s 0 0 (th_A T [2, 56, 57])) (F0 m 70 ls []) := by
    intro H locs ls v70_3 iv70_3 hH hS hl
    refine lv_aload_n hx hb dX6_climb_70 rfl (lv_at hl 0 rfl) ?_
    refine lv_iload_n hx hb dX6_climb_71 rfl (lv_at hl 2 rfl) ?_
    refine th_callVi (n := 1) (As := [.int y2]) S hK hH hS (th_A.sub (by decide)) (m_X6_unit_d5 l D cT T q hq a0 t0 (y2) j2) gm_770 gm_767 gm_769 gm_16 gm_115 (by decide +kernel) ⟨rfl, rfl, Nat.le_of_ble_eq_true rfl, Nat.le_of_ble_eq_true rfl⟩ t0 kd_2 rfl rfl hl.1 rfl (Nat.le_of_ble_eq_true rfl) dX6_climb_72 ⟨Nat.zero_le _, Nat.zero_le _⟩ (fun x36 H locs ix36 hH hS hF1 => ?_)
    refine lv_if_ne (tgt := 80) hx hb dX6_climb_75 (by decide) (fun c37 => ?_) (fun c37 => ?_)
    · skip
      have ir38 : IV x36 1 1 := iv_cutL ix36 (iv_c (by decide) : IV 0 0 0) c37 (by decide)
      exact J80 H locs ls v70_3 (iv_w iv70_3 (by decide)) hH hS (lv_sub hl [0, 1, 2, 3] rfl)
    · skip
      have ir39 : IV x36 0 0 := iv_eL c37 (iv_c (by decide) : IV 0 0 0)
      refine lv_iconst (v := 0) hx hb dX6_climb_78 (by decide) ?_
      exact th_zret S hK hH hS hr hlocks (iv_w (iv_c (by decide) : IV 0 0 0) (by decide)) (th_R.i (iv_w (iv_c (by decide) : IV 0 0 0) (by decide))) dX6_climb_79
  have J0 : ∀ (H : Heap) (locs : List Loc) (ls : Array Slot), th_H D cT T (kd q) H → va_S (th_A T [2, 56, 57]) s.heap H locs → lv_has ls 7 [(0, .ref a0), (1, .int y1), (2, .int y2)] → W p l e (rmk 21 533) s m [.ref a0, .int y1, .int y2].toArray below meth c H locs 0 0 (MQ below (th_Q D cT T (kd q) (th_R T (some (.inl (0, 1)))) [2, 56, 57]) [.ref a0, .int y1, .int y2].toArray s 0 0 (th_A T [2, 56, 57])) (F0 m 0 ls []) := by
    intro H locs ls hH hS hl
    refine lv_iconst (v := 4) hx hb dX6_climb_0 (by decide) ?_
    refine lv_istore_n (lv' := [(3, .int 4), (0, .ref a0), (1, .int y1), (2, .int y2)]) hx hb dX6_climb_1 rfl hl (by decide) rfl (fun ls hl => ?_)
    refine lv_aload_n hx hb dX6_climb_2 rfl (lv_at hl 1 rfl) ?_
    refine th_callVi (n := 0) (As := []) S hK hH hS (th_A.sub (by decide)) (m_X6_kind l D cT T q hq a0 t0) gm_708 gm_705 gm_707 gm_5 gm_115 (by decide +kernel) ⟨rfl, rfl, Nat.le_of_ble_eq_true rfl, Nat.le_of_ble_eq_true rfl⟩ t0 kd_2 rfl rfl hl.1 rfl (Nat.le_of_ble_eq_true rfl) dX6_climb_3 ⟨Nat.zero_le _, Nat.zero_le _⟩ (fun x40 H locs ix40 hH hS hF1 => ?_)
    refine lv_sipush (v := 149) hx hb dX6_climb_6 (by decide) ?_
    refine lv_icmp_ne (tgt := 70) hx hb dX6_climb_9 (by decide) (fun c41 => ?_) (fun c41 => ?_)
    · skip
      exact J70 H locs ls 4 (iv_c (by decide) : IV 4 4 4) hH hS (lv_sub hl [1, 2, 3, 0] rfl)
    · skip
      have ir42 : IV x40 149 149 := iv_eL c41 (iv_c (by decide) : IV 149 149 149)
      refine lv_iload_n hx hb dX6_climb_12 rfl (lv_at hl 2 rfl) ?_
      refine lv_iconst (v := 2) hx hb dX6_climb_13 (by decide) ?_
      refine lv_icmp_gt (tgt := 70) hx hb dX6_climb_14 (by decide) (fun c43 => ?_) (fun c43 => ?_)
      · skip
        have ir44 : IV y1 3 5 := iv_uR (iv_c (by decide) : IV 2 2 2) j1 (iv_lt c43) (by decide)
        exact J70 H locs ls 4 (iv_c (by decide) : IV 4 4 4) hH hS (lv_sub hl [1, 2, 3, 0] rfl)
      · skip
        have ir45 : IV y1 0 2 := iv_vL j1 (iv_c (by decide) : IV 2 2 2) (iv_nlt c43) (by decide)
        refine lv_iload_n hx hb dX6_climb_17 rfl (lv_at hl 3 rfl) ?_
        refine lv_bipush (v := 7) hx hb dX6_climb_18 (by decide) ?_
        refine lv_icmp_lt (tgt := 29) hx hb dX6_climb_20 (by decide) (fun c46 => ?_) (fun c46 => ?_)
        · skip
          refine lv_aload_n hx hb dX6_climb_29 rfl (lv_at hl 1 rfl) ?_
          refine lv_dup hx hb dX6_climb_30 rfl ?_
          refine th_get S hK hH inG6 t0 kd_2 rfl 2 (by decide) gm_342 rfl rfl dX6_climb_31 (fun v47 hv47 fv47 => ?_)
          obtain ⟨x48, rfl, ix48⟩ := th_V.int hv47
          refine lv_iconst (v := 1) hx hb dX6_climb_34 (by decide) ?_
          refine lv_iadd hx hb dX6_climb_35 ?_
          refine lv_topi (fun x49 ex49 => ?_)
          have ix49 := iv_top x49
          refine th_put S hK hH hS ⟨2, by decide, t0⟩ inG6 tyX6 tyX6_ok nmX6 t0 kd_2 rfl 2 (by decide) gm_342 rfl rfl rfl rfl (th_iv ix49) (fun _ _ => trivial) (ty := .int) (by decide +kernel) rfl rfl dX6_climb_36 (fun H locs hH hS hq1 hp1 => ?_)
          have f50 := hp1.1
          refine lv_aload_n hx hb dX6_climb_39 rfl (lv_at hl 1 rfl) ?_
          refine lv_iconst (v := 2) hx hb dX6_climb_40 (by decide) ?_
          refine lv_iload_n hx hb dX6_climb_41 rfl (lv_at hl 3 rfl) ?_
          refine lv_iconst (v := 1) hx hb dX6_climb_42 (by decide) ?_
          refine lv_iadd hx hb dX6_climb_43 ?_
          refine lv_topi (fun x51 ex51 => ?_)
          have ix51 : IV x51 6 6 := by rw [ex51]; exact iv_add j2 (iv_c (by decide) : IV 1 1 1) (by decide)
          refine th_callVi (n := 2) (As := [.int 2, .int x51]) S hK hH hS (th_A.sub (by decide)) (m_X6_climb_d6l2 l D cT T q hq a0 t0 (2) (iv_w (iv_c (by decide) : IV 2 2 2) (by decide)) (x51) ix51) gm_762 gm_759 gm_761 gm_15 gm_115 (by decide +kernel) ⟨rfl, rfl, Nat.le_of_ble_eq_true rfl, Nat.le_of_ble_eq_true rfl⟩ t0 kd_2 rfl rfl hl.1 rfl (Nat.le_of_ble_eq_true rfl) dX6_climb_44 ⟨Nat.zero_le _, Nat.zero_le _⟩ (fun x52 H locs ix52 hH hS hF1 => ?_)
          refine lv_if_ne (tgt := 52) hx hb dX6_climb_47 (by decide) (fun c53 => ?_) (fun c53 => ?_)
          · skip
            have ir54 : IV x52 1 1 := iv_cutL ix52 (iv_c (by decide) : IV 0 0 0) c53 (by decide)
            refine lv_aload_n hx hb dX6_climb_52 rfl (lv_at hl 1 rfl) ?_
            refine th_get S hK hH inG6 t0 kd_2 rfl 1 (by decide) gm_340 rfl rfl dX6_climb_53 (fun v55 hv55 fv55 => ?_)
            obtain ⟨rf56, rfl, trf56⟩ := th_V.ref hv55
            refine th_get S hK hH inG4 trf56 kd_46 rfl 9 (by decide) gm_269 rfl rfl dX6_climb_56 (fun v57 hv57 fv57 => ?_)
            obtain ⟨rf58, rfl, trf58⟩ := th_V.ref hv57
            refine lv_sipush (v := (-149)) hx hb dX6_climb_59 (by decide) ?_
            refine th_callVv (n := 1) (As := [.int (-149)]) S hK hH hS (th_A.sub (by decide)) (m_X2_add l D cT T q hq rf58 trf58 ((-149)) (iv_top _)) gm_766 gm_763 gm_764 gm_765 gm_117 (by decide +kernel) ⟨rfl, rfl, Nat.le_of_ble_eq_true rfl, Nat.le_of_ble_eq_true rfl⟩ trf58 kd_56 rfl rfl hl.1 rfl (Nat.le_of_ble_eq_true rfl) dX6_climb_62 ⟨Nat.zero_le _, Nat.zero_le _⟩ (fun H locs hH hS hF1 => ?_)
            have f59 := fv55.kept (hF1 _ fv55.lt (th_off t0 (by decide)))
            have f60 := fv57.kept (hF1 _ fv57.lt (th_off trf56 (by decide)))
            refine lv_iconst (v := 1) hx hb dX6_climb_65 (by decide) ?_
            refine lv_istore_n (lv' := [(3, .int 1), (0, .ref a0), (1, .int y1), (2, .int y2)]) hx hb dX6_climb_66 rfl hl (by decide) rfl (fun ls hl => ?_)
            refine lv_goto (tgt := 80) hx hb dX6_climb_67 (by decide) ?_
            exact J80 H locs ls 1 (iv_w (iv_c (by decide) : IV 1 1 1) (by decide)) hH hS (lv_sub hl [1, 2, 3, 0] rfl)
          · skip
            have ir61 : IV x52 0 0 := iv_eL c53 (iv_c (by decide) : IV 0 0 0)
            refine lv_iconst (v := 0) hx hb dX6_climb_50 (by decide) ?_
            exact th_zret S hK hH hS hr hlocks (iv_w (iv_c (by decide) : IV 0 0 0) (by decide)) (th_R.i (iv_w (iv_c (by decide) : IV 0 0 0) (by decide))) dX6_climb_51
        · skip
          exfalso
          have z1 := iv_nlt c46
          have z2 := (j2).1
          have z3 := (j2).2
          have z4 := ((iv_c (by decide) : IV 7 7 7)).1
          have z5 := ((iv_c (by decide) : IV 7 7 7)).2
          omega
  exact J0 s.heap [] ls hH va_S.rf hl

set_option maxRecDepth 100000 in
theorem m_X6_unit_d4 (l : Launch) (D : va_G) (cT : Nat → ClassId) (T : Nat → Option Nat) (q : Nat → Int) (hq : qok q) (a0 : Nat) (t0 : T a0 = some 2) (y1 : Int32) (j1 : IV y1 4 4) : th_Met l D cT T (kd q) yX6_unit cX6_unit 4 (some .boolean) (rmk 22 559) [.ref a0, .int y1] (th_R T (some (.inl (0, 1)))) [2, 56, 57] := by
  refine th_start (by decide) (Nat.le_of_ble_eq_true rfl) ?_
  intro p e s m below meth c ls S hK hH hr hlocks hnm hl
  have hx := S.1
  have hb := S.2.1
  have hl : lv_has ls 4 [(0, .ref a0), (1, .int y1)] := hl
  have J183 : ∀ (H : Heap) (locs : List Loc) (ls : Array Slot) (w183_0 : Nat) (w183_1 : Int32) (u183_a0_3 : Int32), T w183_0 = some 56 → IV w183_1 (-2147483648) 2147483647 → IV u183_a0_3 (-2147483647) 30 → th_fa D H a0 6 3 (.int u183_a0_3) → th_H D cT T (kd q) H → va_S (th_A T [2, 56, 57]) s.heap H locs → lv_has ls 4 [(0, .ref a0)] → W p l e (rmk 22 559) s m [.ref a0, .int y1].toArray below meth c H locs 0 0 (MQ below (th_Q D cT T (kd q) (th_R T (some (.inl (0, 1)))) [2, 56, 57]) [.ref a0, .int y1].toArray s 0 0 (th_A T [2, 56, 57])) (F0 m 183 ls [.int w183_1, .ref w183_0]) := by
    intro H locs ls w183_0 w183_1 u183_a0_3 tw183_0 iw183_1 iu183_a0_3 gu183_a0_3 hH hS hl
    refine th_callVv (n := 1) (As := [.int w183_1]) S hK hH hS (th_A.sub (by decide)) (m_X2_add l D cT T q hq w183_0 tw183_0 (w183_1) iw183_1) gm_766 gm_763 gm_764 gm_765 gm_117 (by decide +kernel) ⟨rfl, rfl, Nat.le_of_ble_eq_true rfl, Nat.le_of_ble_eq_true rfl⟩ tw183_0 kd_56 rfl rfl hl.1 rfl (Nat.le_of_ble_eq_true rfl) dX6_unit_183 ⟨Nat.zero_le _, Nat.zero_le _⟩ (fun H locs hH hS hF1 => ?_)
    have f1 := gu183_a0_3.kept (hF1 _ gu183_a0_3.lt (th_off t0 (by decide)))
    refine lv_aload_n hx hb dX6_unit_186 rfl (lv_at hl 0 rfl) ?_
    refine lv_dup hx hb dX6_unit_187 rfl ?_
    refine th_get S hK hH inG6 t0 kd_2 rfl 2 (by decide) gm_342 rfl rfl dX6_unit_188 (fun v2 hv2 fv2 => ?_)
    obtain ⟨x3, rfl, ix3⟩ := th_V.int hv2
    refine lv_iconst (v := 1) hx hb dX6_unit_191 (by decide) ?_
    refine lv_iadd hx hb dX6_unit_192 ?_
    refine lv_topi (fun x4 ex4 => ?_)
    have ix4 := iv_top x4
    refine th_put S hK hH hS ⟨2, by decide, t0⟩ inG6 tyX6 tyX6_ok nmX6 t0 kd_2 rfl 2 (by decide) gm_342 rfl rfl rfl rfl (th_iv ix4) (fun _ _ => trivial) (ty := .int) (by decide +kernel) rfl rfl dX6_unit_193 (fun H locs hH hS hq1 hp1 => ?_)
    have f5 := hp1.2 3 _ (by decide) (by decide) f1
    have f6 := hp1.1
    refine lv_iconst (v := 1) hx hb dX6_unit_196 (by decide) ?_
    exact th_zret S hK hH hS hr hlocks (iv_w (iv_c (by decide) : IV 1 1 1) (by decide)) (th_R.i (iv_w (iv_c (by decide) : IV 1 1 1) (by decide))) dX6_unit_197
  have J161_s0_0 : ∀ (H : Heap) (locs : List Loc) (ls : Array Slot), th_H D cT T (kd q) H → va_S (th_A T [2, 56, 57]) s.heap H locs → lv_has ls 4 [] → W p l e (rmk 22 559) s m [.ref a0, .int y1].toArray below meth c H locs 0 0 (MQ below (th_Q D cT T (kd q) (th_R T (some (.inl (0, 1)))) [2, 56, 57]) [.ref a0, .int y1].toArray s 0 0 (th_A T [2, 56, 57])) (F0 m 161 ls [.int 0]) := by
    intro H locs ls hH hS hl
    exact th_zret S hK hH hS hr hlocks (iv_w (iv_c (by decide) : IV 0 0 0) (by decide)) (th_R.i (iv_w (iv_c (by decide) : IV 0 0 0) (by decide))) dX6_unit_161
  have J161_s0_1 : ∀ (H : Heap) (locs : List Loc) (ls : Array Slot), th_H D cT T (kd q) H → va_S (th_A T [2, 56, 57]) s.heap H locs → lv_has ls 4 [] → W p l e (rmk 22 559) s m [.ref a0, .int y1].toArray below meth c H locs 0 0 (MQ below (th_Q D cT T (kd q) (th_R T (some (.inl (0, 1)))) [2, 56, 57]) [.ref a0, .int y1].toArray s 0 0 (th_A T [2, 56, 57])) (F0 m 161 ls [.int 1]) := by
    intro H locs ls hH hS hl
    exact th_zret S hK hH hS hr hlocks (iv_w (iv_c (by decide) : IV 1 1 1) (by decide)) (th_R.i (iv_w (iv_c (by decide) : IV 1 1 1) (by decide))) dX6_unit_161
  have J160 : ∀ (H : Heap) (locs : List Loc) (ls : Array Slot), th_H D cT T (kd q) H → va_S (th_A T [2, 56, 57]) s.heap H locs → lv_has ls 4 [] → W p l e (rmk 22 559) s m [.ref a0, .int y1].toArray below meth c H locs 0 0 (MQ below (th_Q D cT T (kd q) (th_R T (some (.inl (0, 1)))) [2, 56, 57]) [.ref a0, .int y1].toArray s 0 0 (th_A T [2, 56, 57])) (F0 m 160 ls []) := by
    intro H locs ls hH hS hl
    refine lv_iconst (v := 0) hx hb dX6_unit_160 (by decide) ?_
    exact J161_s0_0 H locs ls  hH hS (lv_sub hl [] rfl)
  have J94 : ∀ (H : Heap) (locs : List Loc) (ls : Array Slot) (v94_2 : Int32) (v94_3 : Int32) (u94_a0_3 : Int32), IV v94_2 3 142 → IV v94_3 0 1 → IV u94_a0_3 (-2147483648) 29 → th_fa D H a0 6 3 (.int u94_a0_3) → th_H D cT T (kd q) H → va_S (th_A T [2, 56, 57]) s.heap H locs → lv_has ls 4 [(0, .ref a0), (1, .int y1), (2, .int v94_2), (3, .int v94_3)] → W p l e (rmk 22 559) s m [.ref a0, .int y1].toArray below meth c H locs 0 0 (MQ below (th_Q D cT T (kd q) (th_R T (some (.inl (0, 1)))) [2, 56, 57]) [.ref a0, .int y1].toArray s 0 0 (th_A T [2, 56, 57])) (F0 m 94 ls []) := by
    intro H locs ls v94_2 v94_3 u94_a0_3 iv94_2 iv94_3 iu94_a0_3 gu94_a0_3 hH hS hl
    refine lv_aload_n hx hb dX6_unit_94 rfl (lv_at hl 0 rfl) ?_
    refine lv_dup hx hb dX6_unit_95 rfl ?_
    refine th_getK S hK gu94_a0_3 inG6 rfl (by decide) gm_343 rfl dX6_unit_96 ?_
    refine lv_iconst (v := 1) hx hb dX6_unit_99 (by decide) ?_
    refine lv_iadd hx hb dX6_unit_100 ?_
    refine lv_topi (fun x8 ex8 => ?_)
    have ix8 : IV x8 (-2147483647) 30 := by rw [ex8]; exact iv_add iu94_a0_3 (iv_c (by decide) : IV 1 1 1) (by decide)
    refine th_put S hK hH hS ⟨2, by decide, t0⟩ inG6 tyX6 tyX6_ok nmX6 t0 kd_2 rfl 3 (by decide) gm_343 rfl rfl rfl rfl (th_iv (iv_top _)) (fun _ _ => trivial) (ty := .int) (by decide +kernel) rfl rfl dX6_unit_101 (fun H locs hH hS hq1 hp1 => ?_)
    have f9 := hp1.1
    refine lv_aload_n hx hb dX6_unit_104 rfl (lv_at hl 0 rfl) ?_
    refine th_get S hK hH inG6 t0 kd_2 rfl 1 (by decide) gm_340 rfl rfl dX6_unit_105 (fun v10 hv10 fv10 => ?_)
    obtain ⟨rf11, rfl, trf11⟩ := th_V.ref hv10
    refine th_get S hK hH inG4 trf11 kd_46 rfl 9 (by decide) gm_269 rfl rfl dX6_unit_108 (fun v12 hv12 fv12 => ?_)
    obtain ⟨rf13, rfl, trf13⟩ := th_V.ref hv12
    refine lv_dup hx hb dX6_unit_111 rfl ?_
    refine th_get S hK hH inG2 trf13 kd_56 rfl 6 (by decide) gm_202 rfl rfl dX6_unit_112 (fun v14 hv14 fv14 => ?_)
    obtain ⟨x15, rfl, ix15⟩ := th_V.int hv14
    refine lv_iconst (v := 1) hx hb dX6_unit_115 (by decide) ?_
    refine lv_iadd hx hb dX6_unit_116 ?_
    refine lv_topi (fun x16 ex16 => ?_)
    have ix16 := iv_top x16
    refine th_put S hK hH hS ⟨56, by decide, trf13⟩ inG2 tyX2 tyX2_ok nmX2 trf13 kd_56 rfl 6 (by decide) gm_202 rfl rfl rfl rfl (th_iv ix16) (fun _ _ => trivial) (ty := .int) (by decide +kernel) rfl rfl dX6_unit_117 (fun H locs hH hS hq1 hp1 => ?_)
    have f17 := f9.kept (hq1 _ (th_ne t0 trf13 (by decide)))
    have f18 := fv10.kept (hq1 _ (th_ne t0 trf13 (by decide)))
    have f19 := fv12.kept (hq1 _ (th_ne trf11 trf13 (by decide)))
    have f20 := hp1.1
    refine lv_iload_n hx hb dX6_unit_120 rfl (lv_at hl 2 rfl) ?_
    refine lv_bipush (v := 40) hx hb dX6_unit_121 (by decide) ?_
    refine lv_icmp_ne (tgt := 162) hx hb dX6_unit_123 (by decide) (fun c21 => ?_) (fun c21 => ?_)
    · skip
      refine lv_aload_n hx hb dX6_unit_162 rfl (lv_at hl 0 rfl) ?_
      refine th_getK S hK f18 inG6 rfl (by decide) gm_340 rfl dX6_unit_163 ?_
      refine th_getK S hK f19 inG4 rfl (by decide) gm_269 rfl dX6_unit_166 ?_
      refine lv_iload_n hx hb dX6_unit_169 rfl (lv_at hl 3 rfl) ?_
      refine lv_if_eq (tgt := 178) hx hb dX6_unit_170 (by decide) (fun c24 => ?_) (fun c24 => ?_)
      · skip
        have ir25 : IV v94_3 0 0 := iv_eL c24 (iv_c (by decide) : IV 0 0 0)
        refine lv_aload_n hx hb dX6_unit_178 rfl (lv_at hl 0 rfl) ?_
        refine th_callVl (n := 0) (As := []) S hK hH hS (th_A.sub (by decide)) (m_X6_value l D cT T q hq a0 t0) gm_738 gm_735 gm_737 gm_10 gm_115 (by decide +kernel) ⟨rfl, rfl, Nat.le_of_ble_eq_true rfl, Nat.le_of_ble_eq_true rfl⟩ t0 kd_2 rfl rfl hl.1 rfl (Nat.le_of_ble_eq_true rfl) dX6_unit_179 ⟨Nat.zero_le _, Nat.zero_le _⟩ (fun lg26 H locs hH hS hF1 => ?_)
        have f27 := f17.kept (hF1 _ f17.lt (th_off t0 (by decide)))
        have f28 := f18.kept (hF1 _ f18.lt (th_off t0 (by decide)))
        have f29 := f19.kept (hF1 _ f19.lt (th_off trf11 (by decide)))
        have f30 := f20.kept (hF1 _ f20.lt (th_off trf13 (by decide)))
        refine lv_l2i (v := _) hx hb dX6_unit_182 rfl ?_
        refine lv_topi (fun x31 ex31 => ?_)
        have ix31 := iv_top x31
        exact J183 H locs ls rf13 x31 x8 trf13 ix31 ix8 f27 hH hS (lv_sub hl [0] rfl)
      · skip
        have ir32 : IV v94_3 1 1 := iv_cutL iv94_3 (iv_c (by decide) : IV 0 0 0) c24 (by decide)
        refine lv_iload_n hx hb dX6_unit_173 rfl (lv_at hl 2 rfl) ?_
        refine lv_ineg hx hb dX6_unit_174 ?_
        refine lv_topi (fun x33 ex33 => ?_)
        have ix33 := iv_top x33
        refine lv_goto (tgt := 183) hx hb dX6_unit_175 (by decide) ?_
        exact J183 H locs ls rf13 x33 x8 trf13 ix33 ix8 f17 hH hS (lv_sub hl [0] rfl)
    · skip
      have ir34 : IV v94_2 40 40 := iv_eL c21 (iv_c (by decide) : IV 40 40 40)
      refine lv_aload_n hx hb dX6_unit_126 rfl (lv_at hl 0 rfl) ?_
      refine lv_dup hx hb dX6_unit_127 rfl ?_
      refine th_get S hK hH inG6 t0 kd_2 rfl 2 (by decide) gm_342 rfl rfl dX6_unit_128 (fun v35 hv35 fv35 => ?_)
      obtain ⟨x36, rfl, ix36⟩ := th_V.int hv35
      refine lv_iconst (v := 1) hx hb dX6_unit_131 (by decide) ?_
      refine lv_iadd hx hb dX6_unit_132 ?_
      refine lv_topi (fun x37 ex37 => ?_)
      have ix37 := iv_top x37
      refine th_put S hK hH hS ⟨2, by decide, t0⟩ inG6 tyX6 tyX6_ok nmX6 t0 kd_2 rfl 2 (by decide) gm_342 rfl rfl rfl rfl (th_iv ix37) (fun _ _ => trivial) (ty := .int) (by decide +kernel) rfl rfl dX6_unit_133 (fun H locs hH hS hq1 hp1 => ?_)
      have f38 := hp1.2 3 _ (by decide) (by decide) f17
      have f39 := hp1.2 1 _ (by decide) (by decide) f18
      have f40 := f19.kept (hq1 _ (th_ne trf11 t0 (by decide)))
      have f41 := f20.kept (hq1 _ (th_ne trf13 t0 (by decide)))
      have f42 := hp1.1
      refine lv_aload_n hx hb dX6_unit_136 rfl (lv_at hl 0 rfl) ?_
      refine lv_iconst (v := 0) hx hb dX6_unit_137 (by decide) ?_
      refine lv_iload_n hx hb dX6_unit_138 rfl (lv_at hl 1 rfl) ?_
      refine lv_iconst (v := 1) hx hb dX6_unit_139 (by decide) ?_
      refine lv_iadd hx hb dX6_unit_140 ?_
      refine lv_topi (fun x43 ex43 => ?_)
      have ix43 : IV x43 5 5 := by rw [ex43]; exact iv_add j1 (iv_c (by decide) : IV 1 1 1) (by decide)
      refine th_callVi (n := 2) (As := [.int 0, .int x43]) S hK hH hS (th_A.sub (by decide)) (m_X6_climb_d5l0 l D cT T q hq a0 t0 (0) (iv_w (iv_c (by decide) : IV 0 0 0) (by decide)) (x43) ix43) gm_762 gm_759 gm_761 gm_15 gm_115 (by decide +kernel) ⟨rfl, rfl, Nat.le_of_ble_eq_true rfl, Nat.le_of_ble_eq_true rfl⟩ t0 kd_2 rfl rfl hl.1 rfl (Nat.le_of_ble_eq_true rfl) dX6_unit_141 ⟨Nat.zero_le _, Nat.zero_le _⟩ (fun x44 H locs ix44 hH hS hF1 => ?_)
      have f45 := f40.kept (hF1 _ f40.lt (th_off trf11 (by decide)))
      refine lv_if_eq (tgt := 160) hx hb dX6_unit_144 (by decide) (fun c46 => ?_) (fun c46 => ?_)
      · skip
        have ir47 : IV x44 0 0 := iv_eL c46 (iv_c (by decide) : IV 0 0 0)
        exact J160 H locs ls  hH hS (lv_sub hl [] rfl)
      · skip
        have ir48 : IV x44 1 1 := iv_cutL ix44 (iv_c (by decide) : IV 0 0 0) c46 (by decide)
        refine lv_aload_n hx hb dX6_unit_147 rfl (lv_at hl 0 rfl) ?_
        refine lv_bipush (v := 41) hx hb dX6_unit_148 (by decide) ?_
        refine th_callVi (n := 1) (As := [.int 41]) S hK hH hS (th_A.sub (by decide)) (m_X6_take l D cT T q hq a0 t0 (41) (iv_top _)) gm_750 gm_747 gm_749 gm_13 gm_115 (by decide +kernel) ⟨rfl, rfl, Nat.le_of_ble_eq_true rfl, Nat.le_of_ble_eq_true rfl⟩ t0 kd_2 rfl rfl hl.1 rfl (Nat.le_of_ble_eq_true rfl) dX6_unit_150 ⟨Nat.zero_le _, Nat.zero_le _⟩ (fun x49 H locs ix49 hH hS hF1 => ?_)
        have f50 := f45.kept (hF1 _ f45.lt (th_off trf11 (by decide)))
        refine lv_if_eq (tgt := 160) hx hb dX6_unit_153 (by decide) (fun c51 => ?_) (fun c51 => ?_)
        · skip
          have ir52 : IV x49 0 0 := iv_eL c51 (iv_c (by decide) : IV 0 0 0)
          exact J160 H locs ls  hH hS (lv_sub hl [] rfl)
        · skip
          have ir53 : IV x49 1 1 := iv_cutL ix49 (iv_c (by decide) : IV 0 0 0) c51 (by decide)
          refine lv_iconst (v := 1) hx hb dX6_unit_156 (by decide) ?_
          refine lv_goto (tgt := 161) hx hb dX6_unit_157 (by decide) ?_
          exact J161_s0_1 H locs ls  hH hS (lv_sub hl [] rfl)
  have J70 : ∀ (H : Heap) (locs : List Loc) (ls : Array Slot) (u70_a0_3 : Int32), IV u70_a0_3 (-2147483648) 2147483647 → th_fa D H a0 6 3 (.int u70_a0_3) → th_H D cT T (kd q) H → va_S (th_A T [2, 56, 57]) s.heap H locs → lv_has ls 4 [(0, .ref a0)] → W p l e (rmk 22 559) s m [.ref a0, .int y1].toArray below meth c H locs 0 0 (MQ below (th_Q D cT T (kd q) (th_R T (some (.inl (0, 1)))) [2, 56, 57]) [.ref a0, .int y1].toArray s 0 0 (th_A T [2, 56, 57])) (F0 m 70 ls []) := by
    intro H locs ls u70_a0_3 iu70_a0_3 gu70_a0_3 hH hS hl
    refine lv_aload_n hx hb dX6_unit_70 rfl (lv_at hl 0 rfl) ?_
    refine lv_iconst (v := 2) hx hb dX6_unit_71 (by decide) ?_
    refine th_callVi (n := 1) (As := [.int 2]) S hK hH hS (th_A.sub (by decide)) (m_X6_blame l D cT T q hq a0 t0 (2) (iv_top _)) gm_722 gm_719 gm_721 gm_6 gm_115 (by decide +kernel) ⟨rfl, rfl, Nat.le_of_ble_eq_true rfl, Nat.le_of_ble_eq_true rfl⟩ t0 kd_2 rfl rfl hl.1 rfl (Nat.le_of_ble_eq_true rfl) dX6_unit_72 ⟨Nat.zero_le _, Nat.zero_le _⟩ (fun x54 H locs ix54 hH hS hF1 => ?_)
    exact th_zret S hK hH hS hr hlocks (iv_w ix54 (by decide)) (th_R.i (iv_w ix54 (by decide))) dX6_unit_75
  have J46 : ∀ (H : Heap) (locs : List Loc) (ls : Array Slot) (v46_2 : Int32) (v46_3 : Int32), IV v46_2 3 142 → IV v46_3 0 1 → th_H D cT T (kd q) H → va_S (th_A T [2, 56, 57]) s.heap H locs → lv_has ls 4 [(0, .ref a0), (1, .int y1), (2, .int v46_2), (3, .int v46_3)] → W p l e (rmk 22 559) s m [.ref a0, .int y1].toArray below meth c H locs 0 0 (MQ below (th_Q D cT T (kd q) (th_R T (some (.inl (0, 1)))) [2, 56, 57]) [.ref a0, .int y1].toArray s 0 0 (th_A T [2, 56, 57])) (F0 m 46 ls []) := by
    intro H locs ls v46_2 v46_3 iv46_2 iv46_3 hH hS hl
    refine lv_aload_n hx hb dX6_unit_46 rfl (lv_at hl 0 rfl) ?_
    refine th_get S hK hH inG6 t0 kd_2 rfl 3 (by decide) gm_343 rfl rfl dX6_unit_47 (fun v55 hv55 fv55 => ?_)
    obtain ⟨x56, rfl, ix56⟩ := th_V.int hv55
    refine lv_bipush (v := 30) hx hb dX6_unit_50 (by decide) ?_
    refine lv_icmp_ge (tgt := 70) hx hb dX6_unit_52 (by decide) (fun c57 => ?_) (fun c57 => ?_)
    · skip
      have ir58 : IV x56 30 2147483647 := iv_vR (iv_c (by decide) : IV 30 30 30) ix56 (iv_le c57) (by decide)
      exact J70 H locs ls x56 (iv_top _) fv55 hH hS (lv_sub hl [0] rfl)
    · skip
      have ir59 : IV x56 (-2147483648) 29 := iv_uL ix56 (iv_c (by decide) : IV 30 30 30) (iv_nle c57) (by decide)
      refine lv_aload_n hx hb dX6_unit_55 rfl (lv_at hl 0 rfl) ?_
      refine th_get S hK hH inG6 t0 kd_2 rfl 1 (by decide) gm_340 rfl rfl dX6_unit_56 (fun v60 hv60 fv60 => ?_)
      obtain ⟨rf61, rfl, trf61⟩ := th_V.ref hv60
      refine th_get S hK hH inG4 trf61 kd_46 rfl 9 (by decide) gm_269 rfl rfl dX6_unit_59 (fun v62 hv62 fv62 => ?_)
      obtain ⟨rf63, rfl, trf63⟩ := th_V.ref hv62
      refine th_get S hK hH inG2 trf63 kd_56 rfl 6 (by decide) gm_202 rfl rfl dX6_unit_62 (fun v64 hv64 fv64 => ?_)
      obtain ⟨x65, rfl, ix65⟩ := th_V.int hv64
      refine lv_bipush (v := 90) hx hb dX6_unit_65 (by decide) ?_
      refine lv_icmp_lt (tgt := 76) hx hb dX6_unit_67 (by decide) (fun c66 => ?_) (fun c66 => ?_)
      · skip
        have ir67 : IV x65 (-2147483648) 89 := iv_uL ix65 (iv_c (by decide) : IV 90 90 90) (iv_lt c66) (by decide)
        refine lv_iload_n hx hb dX6_unit_76 rfl (lv_at hl 2 rfl) ?_
        refine lv_bipush (v := 40) hx hb dX6_unit_77 (by decide) ?_
        refine lv_icmp_ne (tgt := 94) hx hb dX6_unit_79 (by decide) (fun c68 => ?_) (fun c68 => ?_)
        · skip
          exact J94 H locs ls v46_2 v46_3 x56 iv46_2 iv46_3 ir59 fv55 hH hS (lv_sub hl [0, 1, 2, 3] rfl)
        · skip
          have ir69 : IV v46_2 40 40 := iv_eL c68 (iv_c (by decide) : IV 40 40 40)
          refine lv_iload_n hx hb dX6_unit_82 rfl (lv_at hl 1 rfl) ?_
          refine lv_bipush (v := 7) hx hb dX6_unit_83 (by decide) ?_
          refine lv_icmp_lt (tgt := 94) hx hb dX6_unit_85 (by decide) (fun c70 => ?_) (fun c70 => ?_)
          · skip
            exact J94 H locs ls v46_2 v46_3 x56 (iv_w ir69 (by decide)) iv46_3 ir59 fv55 hH hS (lv_sub hl [0, 1, 2, 3] rfl)
          · skip
            exfalso
            have z1 := iv_nlt c70
            have z2 := (j1).1
            have z3 := (j1).2
            have z4 := ((iv_c (by decide) : IV 7 7 7)).1
            have z5 := ((iv_c (by decide) : IV 7 7 7)).2
            omega
      · skip
        have ir71 : IV x65 90 2147483647 := iv_vR (iv_c (by decide) : IV 90 90 90) ix65 (iv_nlt c66) (by decide)
        exact J70 H locs ls x56 (iv_top _) fv55 hH hS (lv_sub hl [0] rfl)
  have J24_s0_0 : ∀ (H : Heap) (locs : List Loc) (ls : Array Slot) (v24_2 : Int32), IV v24_2 (-2147483648) 2147483647 → th_H D cT T (kd q) H → va_S (th_A T [2, 56, 57]) s.heap H locs → lv_has ls 4 [(0, .ref a0), (1, .int y1), (2, .int v24_2)] → W p l e (rmk 22 559) s m [.ref a0, .int y1].toArray below meth c H locs 0 0 (MQ below (th_Q D cT T (kd q) (th_R T (some (.inl (0, 1)))) [2, 56, 57]) [.ref a0, .int y1].toArray s 0 0 (th_A T [2, 56, 57])) (F0 m 24 ls [.int 0]) := by
    intro H locs ls v24_2 iv24_2 hH hS hl
    refine lv_istore_n (lv' := [(3, .int 0), (0, .ref a0), (1, .int y1), (2, .int v24_2)]) hx hb dX6_unit_24 rfl hl (by decide) rfl (fun ls hl => ?_)
    refine lv_iload_n hx hb dX6_unit_25 rfl (lv_at hl 3 rfl) ?_
    refine lv_iconst (v := 3) hx hb dX6_unit_26 (by decide) ?_
    refine lv_icmp_eq (tgt := 46) hx hb dX6_unit_27 (by decide) (fun c72 => ?_) (fun c72 => ?_)
    · skip
      have ir73 : IV v24_2 3 3 := iv_eL c72 (iv_c (by decide) : IV 3 3 3)
      exact J46 H locs ls v24_2 0 (iv_w ir73 (by decide)) (iv_w (iv_c (by decide) : IV 0 0 0) (by decide)) hH hS (lv_sub hl [1, 2, 3, 0] rfl)
    · skip
      refine lv_iload_n hx hb dX6_unit_30 rfl (lv_at hl 3 rfl) ?_
      refine lv_bipush (v := 40) hx hb dX6_unit_31 (by decide) ?_
      refine lv_icmp_eq (tgt := 46) hx hb dX6_unit_33 (by decide) (fun c74 => ?_) (fun c74 => ?_)
      · skip
        have ir75 : IV v24_2 40 40 := iv_eL c74 (iv_c (by decide) : IV 40 40 40)
        exact J46 H locs ls v24_2 0 (iv_w ir75 (by decide)) (iv_w (iv_c (by decide) : IV 0 0 0) (by decide)) hH hS (lv_sub hl [1, 2, 3, 0] rfl)
      · skip
        refine lv_iload_n hx hb dX6_unit_36 rfl (lv_at hl 0 rfl) ?_
        refine lv_if_ne (tgt := 46) hx hb dX6_unit_37 (by decide) (fun c76 => ?_) (fun c76 => ?_)
        · skip
          exact absurd (iv_eqc (iv_c (by decide) : IV 0 0 0) (iv_c (by decide) : IV 0 0 0)) c76
        · skip
          refine lv_aload_n hx hb dX6_unit_40 rfl (lv_at hl 1 rfl) ?_
          refine lv_iconst (v := 2) hx hb dX6_unit_41 (by decide) ?_
          refine th_callVi (n := 1) (As := [.int 2]) S hK hH hS (th_A.sub (by decide)) (m_X6_blame l D cT T q hq a0 t0 (2) (iv_top _)) gm_722 gm_719 gm_721 gm_6 gm_115 (by decide +kernel) ⟨rfl, rfl, Nat.le_of_ble_eq_true rfl, Nat.le_of_ble_eq_true rfl⟩ t0 kd_2 rfl rfl hl.1 rfl (Nat.le_of_ble_eq_true rfl) dX6_unit_42 ⟨Nat.zero_le _, Nat.zero_le _⟩ (fun x77 H locs ix77 hH hS hF1 => ?_)
          exact th_zret S hK hH hS hr hlocks (iv_w ix77 (by decide)) (th_R.i (iv_w ix77 (by decide))) dX6_unit_45
  have J24_s0_1 : ∀ (H : Heap) (locs : List Loc) (ls : Array Slot) (v24_2 : Int32), IV v24_2 136 142 → th_H D cT T (kd q) H → va_S (th_A T [2, 56, 57]) s.heap H locs → lv_has ls 4 [(0, .ref a0), (1, .int y1), (2, .int v24_2)] → W p l e (rmk 22 559) s m [.ref a0, .int y1].toArray below meth c H locs 0 0 (MQ below (th_Q D cT T (kd q) (th_R T (some (.inl (0, 1)))) [2, 56, 57]) [.ref a0, .int y1].toArray s 0 0 (th_A T [2, 56, 57])) (F0 m 24 ls [.int 1]) := by
    intro H locs ls v24_2 iv24_2 hH hS hl
    refine lv_istore_n (lv' := [(3, .int 1), (0, .ref a0), (1, .int y1), (2, .int v24_2)]) hx hb dX6_unit_24 rfl hl (by decide) rfl (fun ls hl => ?_)
    refine lv_iload_n hx hb dX6_unit_25 rfl (lv_at hl 3 rfl) ?_
    refine lv_iconst (v := 3) hx hb dX6_unit_26 (by decide) ?_
    refine lv_icmp_eq (tgt := 46) hx hb dX6_unit_27 (by decide) (fun c78 => ?_) (fun c78 => ?_)
    · skip
      exfalso
      have z1 := congrArg Int32.toInt c78
      have z2 := (iv24_2).1
      have z3 := (iv24_2).2
      have z4 := ((iv_c (by decide) : IV 3 3 3)).1
      have z5 := ((iv_c (by decide) : IV 3 3 3)).2
      omega
    · skip
      refine lv_iload_n hx hb dX6_unit_30 rfl (lv_at hl 3 rfl) ?_
      refine lv_bipush (v := 40) hx hb dX6_unit_31 (by decide) ?_
      refine lv_icmp_eq (tgt := 46) hx hb dX6_unit_33 (by decide) (fun c79 => ?_) (fun c79 => ?_)
      · skip
        exfalso
        have z1 := congrArg Int32.toInt c79
        have z2 := (iv24_2).1
        have z3 := (iv24_2).2
        have z4 := ((iv_c (by decide) : IV 40 40 40)).1
        have z5 := ((iv_c (by decide) : IV 40 40 40)).2
        omega
      · skip
        refine lv_iload_n hx hb dX6_unit_36 rfl (lv_at hl 0 rfl) ?_
        refine lv_if_ne (tgt := 46) hx hb dX6_unit_37 (by decide) (fun c80 => ?_) (fun c80 => ?_)
        · skip
          exact J46 H locs ls v24_2 1 (iv_w iv24_2 (by decide)) (iv_w (iv_c (by decide) : IV 1 1 1) (by decide)) hH hS (lv_sub hl [1, 2, 3, 0] rfl)
        · skip
          exfalso
          have z1 := congrArg Int32.toInt c80
          have z2 := ((iv_c (by decide) : IV 1 1 1)).1
          have z3 := ((iv_c (by decide) : IV 1 1 1)).2
          have z4 := ((iv_c (by decide) : IV 0 0 0)).1
          have z5 := ((iv_c (by decide) : IV 0 0 0)).2
          omega
  have J23 : ∀ (H : Heap) (locs : List Loc) (ls : Array Slot) (v23_2 : Int32), IV v23_2 (-2147483648) 2147483647 → th_H D cT T (kd q) H → va_S (th_A T [2, 56, 57]) s.heap H locs → lv_has ls 4 [(0, .ref a0), (1, .int y1), (2, .int v23_2)] → W p l e (rmk 22 559) s m [.ref a0, .int y1].toArray below meth c H locs 0 0 (MQ below (th_Q D cT T (kd q) (th_R T (some (.inl (0, 1)))) [2, 56, 57]) [.ref a0, .int y1].toArray s 0 0 (th_A T [2, 56, 57])) (F0 m 23 ls []) := by
    intro H locs ls v23_2 iv23_2 hH hS hl
    refine lv_iconst (v := 0) hx hb dX6_unit_23 (by decide) ?_
    exact J24_s0_0 H locs ls v23_2 iv23_2 hH hS (lv_sub hl [0, 1, 2] rfl)
  have J0 : ∀ (H : Heap) (locs : List Loc) (ls : Array Slot), th_H D cT T (kd q) H → va_S (th_A T [2, 56, 57]) s.heap H locs → lv_has ls 4 [(0, .ref a0), (1, .int y1)] → W p l e (rmk 22 559) s m [.ref a0, .int y1].toArray below meth c H locs 0 0 (MQ below (th_Q D cT T (kd q) (th_R T (some (.inl (0, 1)))) [2, 56, 57]) [.ref a0, .int y1].toArray s 0 0 (th_A T [2, 56, 57])) (F0 m 0 ls []) := by
    intro H locs ls hH hS hl
    refine lv_aload_n hx hb dX6_unit_0 rfl (lv_at hl 0 rfl) ?_
    refine th_callVi (n := 0) (As := []) S hK hH hS (th_A.sub (by decide)) (m_X6_kind l D cT T q hq a0 t0) gm_708 gm_705 gm_707 gm_5 gm_115 (by decide +kernel) ⟨rfl, rfl, Nat.le_of_ble_eq_true rfl, Nat.le_of_ble_eq_true rfl⟩ t0 kd_2 rfl rfl hl.1 rfl (Nat.le_of_ble_eq_true rfl) dX6_unit_1 ⟨Nat.zero_le _, Nat.zero_le _⟩ (fun x81 H locs ix81 hH hS hF1 => ?_)
    refine lv_istore_n (lv' := [(2, .int x81), (0, .ref a0), (1, .int y1)]) hx hb dX6_unit_4 rfl hl (by decide) rfl (fun ls hl => ?_)
    refine lv_iload_n hx hb dX6_unit_5 rfl (lv_at hl 0 rfl) ?_
    refine lv_sipush (v := 136) hx hb dX6_unit_6 (by decide) ?_
    refine lv_icmp_lt (tgt := 23) hx hb dX6_unit_9 (by decide) (fun c82 => ?_) (fun c82 => ?_)
    · skip
      have ir83 : IV x81 (-2147483648) 135 := iv_uL ix81 (iv_c (by decide) : IV 136 136 136) (iv_lt c82) (by decide)
      exact J23 H locs ls x81 (iv_top _) hH hS (lv_sub hl [1, 2, 0] rfl)
    · skip
      have ir84 : IV x81 136 2147483647 := iv_vR (iv_c (by decide) : IV 136 136 136) ix81 (iv_nlt c82) (by decide)
      refine lv_iload_n hx hb dX6_unit_12 rfl (lv_at hl 0 rfl) ?_
      refine lv_sipush (v := 142) hx hb dX6_unit_13 (by decide) ?_
      refine lv_icmp_gt (tgt := 23) hx hb dX6_unit_16 (by decide) (fun c85 => ?_) (fun c85 => ?_)
      · skip
        have ir86 : IV x81 143 2147483647 := iv_uR (iv_c (by decide) : IV 142 142 142) ir84 (iv_lt c85) (by decide)
        exact J23 H locs ls x81 (iv_top _) hH hS (lv_sub hl [1, 2, 0] rfl)
      · skip
        have ir87 : IV x81 136 142 := iv_vL ir84 (iv_c (by decide) : IV 142 142 142) (iv_nlt c85) (by decide)
        refine lv_iconst (v := 1) hx hb dX6_unit_19 (by decide) ?_
        refine lv_goto (tgt := 24) hx hb dX6_unit_20 (by decide) ?_
        exact J24_s0_1 H locs ls x81 ir87 hH hS (lv_sub hl [1, 2, 0] rfl)
  exact J0 s.heap [] ls hH va_S.rf hl

set_option maxRecDepth 100000 in
theorem m_X6_climb_d4l5 (l : Launch) (D : va_G) (cT : Nat → ClassId) (T : Nat → Option Nat) (q : Nat → Int) (hq : qok q) (a0 : Nat) (t0 : T a0 = some 2) (y1 : Int32) (j1 : IV y1 5 5) (y2 : Int32) (j2 : IV y2 4 4) : th_Met l D cT T (kd q) yX6_climb cX6_climb 7 (some .boolean) (rmk 23 582) [.ref a0, .int y1, .int y2] (th_R T (some (.inl (0, 1)))) [2, 56, 57] := by
  refine th_start (by decide) (Nat.le_of_ble_eq_true rfl) ?_
  intro p e s m below meth c ls S hK hH hr hlocks hnm hl
  have hx := S.1
  have hb := S.2.1
  have hl : lv_has ls 7 [(0, .ref a0), (1, .int y1), (2, .int y2)] := hl
  have J83 : ∀ (n : Nat) (H : Heap) (locs : List Loc) (ls : Array Slot) (v83_3 : Int32) (v83_4 : Int32), IV v83_3 4 4 → IV v83_4 0 0 → th_H D cT T (kd q) H → va_S (th_A T [2, 56, 57]) s.heap H locs → lv_has ls 7 [(0, .ref a0), (1, .int y1), (2, .int y2), (3, .int v83_3), (4, .int v83_4)] → (4 + 1 - v83_3.toInt).toNat < n → W p l e (rmk 23 582) s m [.ref a0, .int y1, .int y2].toArray below meth c H locs 0 0 (MQ below (th_Q D cT T (kd q) (th_R T (some (.inl (0, 1)))) [2, 56, 57]) [.ref a0, .int y1, .int y2].toArray s 0 0 (th_A T [2, 56, 57])) (F0 m 83 ls []) := by
    intro n
    induction n with
    | zero => intro H locs ls v83_3 v83_4 iv83_3 iv83_4 hH hS hl hn; exact absurd hn (Nat.not_lt_zero _)
    | succ n ih83 =>
      intro H locs ls v83_3 v83_4 iv83_3 iv83_4 hH hS hl hn83
      have J120 : ∀ (H : Heap) (locs : List Loc) (ls : Array Slot), th_H D cT T (kd q) H → va_S (th_A T [2, 56, 57]) s.heap H locs → lv_has ls 7 [] → W p l e (rmk 23 582) s m [.ref a0, .int y1, .int y2].toArray below meth c H locs 0 0 (MQ below (th_Q D cT T (kd q) (th_R T (some (.inl (0, 1)))) [2, 56, 57]) [.ref a0, .int y1, .int y2].toArray s 0 0 (th_A T [2, 56, 57])) (F0 m 120 ls []) := by
        intro H locs ls hH hS hl
        refine lv_iconst (v := 1) hx hb dX6_climb_120 (by decide) ?_
        exact th_zret S hK hH hS hr hlocks (iv_w (iv_c (by decide) : IV 1 1 1) (by decide)) (th_R.i (iv_w (iv_c (by decide) : IV 1 1 1) (by decide))) dX6_climb_121
      refine lv_iload hx hb dX6_climb_83 (lv_at hl 4 rfl) ?_
      refine lv_aload_n hx hb dX6_climb_85 rfl (lv_at hl 0 rfl) ?_
      refine th_get S hK hH inG6 t0 kd_2 rfl 0 (by decide) gm_339 rfl rfl dX6_climb_86 (fun v1 hv1 fv1 => ?_)
      obtain ⟨rf2, rfl, trf2⟩ := th_V.ref hv1
      refine th_get S hK hH inG8 trf2 kd_1 rfl 5 (by decide) gm_159 rfl rfl dX6_climb_89 (fun v3 hv3 fv3 => ?_)
      obtain ⟨x4, rfl, ix4⟩ := th_V.int hv3
      refine lv_icmp_ge (tgt := 178) hx hb dX6_climb_92 (by decide) (fun c5 => ?_) (fun c5 => ?_)
      · skip
        have ir6 : IV x4 0 0 := iv_vL ix4 iv83_4 (iv_le c5) (by decide)
        refine lv_iconst (v := 1) hx hb dX6_climb_178 (by decide) ?_
        exact th_zret S hK hH hS hr hlocks (iv_w (iv_c (by decide) : IV 1 1 1) (by decide)) (th_R.i (iv_w (iv_c (by decide) : IV 1 1 1) (by decide))) dX6_climb_179
      · skip
        have ir7 : IV x4 1 1601 := iv_uR iv83_4 ix4 (iv_nle c5) (by decide)
        refine lv_aload_n hx hb dX6_climb_95 rfl (lv_at hl 0 rfl) ?_
        refine th_callVi (n := 0) (As := []) S hK hH hS (th_A.sub (by decide)) (m_X6_kind l D cT T q hq a0 t0) gm_708 gm_705 gm_707 gm_5 gm_115 (by decide +kernel) ⟨rfl, rfl, Nat.le_of_ble_eq_true rfl, Nat.le_of_ble_eq_true rfl⟩ t0 kd_2 rfl rfl hl.1 rfl (Nat.le_of_ble_eq_true rfl) dX6_climb_96 ⟨Nat.zero_le _, Nat.zero_le _⟩ (fun x8 H locs ix8 hH hS hF1 => ?_)
        refine lv_istore (lv' := [(5, .int x8), (0, .ref a0), (1, .int y1), (2, .int y2), (3, .int v83_3), (4, .int v83_4)]) hx hb dX6_climb_99 hl (by decide) rfl (fun ls hl => ?_)
        refine lv_iload hx hb dX6_climb_101 (lv_at hl 0 rfl) ?_
        refine th_callSi (n := 1) (As := [.int x8]) S hK hH hS (th_A.sub (by decide)) (m_X6_levelOf l D cT T q hq (x8) ix8) gm_773 gm_771 gm_772 gm_115 (by decide +kernel) ⟨rfl, rfl, Nat.le_of_ble_eq_true rfl, Nat.le_of_ble_eq_true rfl⟩ rfl hl.1 rfl (Nat.le_of_ble_eq_true rfl) dX6_climb_103 ⟨Nat.zero_le _, Nat.zero_le _⟩ (fun x9 H locs ix9 hH hS hF1 => ?_)
        refine lv_istore (lv' := [(6, .int x9), (5, .int x8), (0, .ref a0), (1, .int y1), (2, .int y2), (3, .int v83_3), (4, .int v83_4)]) hx hb dX6_climb_106 hl (by decide) rfl (fun ls hl => ?_)
        refine lv_iload hx hb dX6_climb_108 (lv_at hl 0 rfl) ?_
        refine lv_iload_n hx hb dX6_climb_110 rfl (lv_at hl 3 rfl) ?_
        refine lv_icmp_lt (tgt := 120) hx hb dX6_climb_111 (by decide) (fun c10 => ?_) (fun c10 => ?_)
        · skip
          exact J120 H locs ls  hH hS (lv_sub hl [] rfl)
        · skip
          exfalso
          have z1 := iv_nlt c10
          have z2 := (ix9).1
          have z3 := (ix9).2
          have z4 := (j1).1
          have z5 := (j1).2
          omega
  have J80 : ∀ (H : Heap) (locs : List Loc) (ls : Array Slot) (v80_3 : Int32), IV v80_3 4 4 → th_H D cT T (kd q) H → va_S (th_A T [2, 56, 57]) s.heap H locs → lv_has ls 7 [(0, .ref a0), (1, .int y1), (2, .int y2), (3, .int v80_3)] → W p l e (rmk 23 582) s m [.ref a0, .int y1, .int y2].toArray below meth c H locs 0 0 (MQ below (th_Q D cT T (kd q) (th_R T (some (.inl (0, 1)))) [2, 56, 57]) [.ref a0, .int y1, .int y2].toArray s 0 0 (th_A T [2, 56, 57])) (F0 m 80 ls []) := by
    intro H locs ls v80_3 iv80_3 hH hS hl
    refine lv_iconst (v := 0) hx hb dX6_climb_80 (by decide) ?_
    refine lv_istore (lv' := [(4, .int 0), (0, .ref a0), (1, .int y1), (2, .int y2), (3, .int v80_3)]) hx hb dX6_climb_81 hl (by decide) rfl (fun ls hl => ?_)
    exact J83 ((4 + 1 - Int32.toInt v80_3).toNat + 1) H locs ls v80_3 0 iv80_3 (iv_c (by decide) : IV 0 0 0) hH hS (lv_sub hl [1, 2, 3, 4, 0] rfl) (Nat.lt_succ_self _)
  have J70 : ∀ (H : Heap) (locs : List Loc) (ls : Array Slot) (v70_3 : Int32), IV v70_3 4 4 → th_H D cT T (kd q) H → va_S (th_A T [2, 56, 57]) s.heap H locs → lv_has ls 7 [(0, .ref a0), (1, .int y1), (2, .int y2), (3, .int v70_3)] → W p l e (rmk 23 582) s m [.ref a0, .int y1, .int y2].toArray below meth c H locs 0 0 (MQ below (th_Q D cT T (kd q) (th_R T (some (.inl (0, 1)))) [2, 56, 57]) [.ref a0, .int y1, .int y2].toArray s 0 0 (th_A T [2, 56, 57])) (F0 m 70 ls []) := by
    intro H locs ls v70_3 iv70_3 hH hS hl
    refine lv_aload_n hx hb dX6_climb_70 rfl (lv_at hl 0 rfl) ?_
    refine lv_iload_n hx hb dX6_climb_71 rfl (lv_at hl 2 rfl) ?_
    refine th_callVi (n := 1) (As := [.int y2]) S hK hH hS (th_A.sub (by decide)) (m_X6_unit_d4 l D cT T q hq a0 t0 (y2) j2) gm_770 gm_767 gm_769 gm_16 gm_115 (by decide +kernel) ⟨rfl, rfl, Nat.le_of_ble_eq_true rfl, Nat.le_of_ble_eq_true rfl⟩ t0 kd_2 rfl rfl hl.1 rfl (Nat.le_of_ble_eq_true rfl) dX6_climb_72 ⟨Nat.zero_le _, Nat.zero_le _⟩ (fun x11 H locs ix11 hH hS hF1 => ?_)
    refine lv_if_ne (tgt := 80) hx hb dX6_climb_75 (by decide) (fun c12 => ?_) (fun c12 => ?_)
    · skip
      have ir13 : IV x11 1 1 := iv_cutL ix11 (iv_c (by decide) : IV 0 0 0) c12 (by decide)
      exact J80 H locs ls v70_3 iv70_3 hH hS (lv_sub hl [0, 1, 2, 3] rfl)
    · skip
      have ir14 : IV x11 0 0 := iv_eL c12 (iv_c (by decide) : IV 0 0 0)
      refine lv_iconst (v := 0) hx hb dX6_climb_78 (by decide) ?_
      exact th_zret S hK hH hS hr hlocks (iv_w (iv_c (by decide) : IV 0 0 0) (by decide)) (th_R.i (iv_w (iv_c (by decide) : IV 0 0 0) (by decide))) dX6_climb_79
  have J0 : ∀ (H : Heap) (locs : List Loc) (ls : Array Slot), th_H D cT T (kd q) H → va_S (th_A T [2, 56, 57]) s.heap H locs → lv_has ls 7 [(0, .ref a0), (1, .int y1), (2, .int y2)] → W p l e (rmk 23 582) s m [.ref a0, .int y1, .int y2].toArray below meth c H locs 0 0 (MQ below (th_Q D cT T (kd q) (th_R T (some (.inl (0, 1)))) [2, 56, 57]) [.ref a0, .int y1, .int y2].toArray s 0 0 (th_A T [2, 56, 57])) (F0 m 0 ls []) := by
    intro H locs ls hH hS hl
    refine lv_iconst (v := 4) hx hb dX6_climb_0 (by decide) ?_
    refine lv_istore_n (lv' := [(3, .int 4), (0, .ref a0), (1, .int y1), (2, .int y2)]) hx hb dX6_climb_1 rfl hl (by decide) rfl (fun ls hl => ?_)
    refine lv_aload_n hx hb dX6_climb_2 rfl (lv_at hl 1 rfl) ?_
    refine th_callVi (n := 0) (As := []) S hK hH hS (th_A.sub (by decide)) (m_X6_kind l D cT T q hq a0 t0) gm_708 gm_705 gm_707 gm_5 gm_115 (by decide +kernel) ⟨rfl, rfl, Nat.le_of_ble_eq_true rfl, Nat.le_of_ble_eq_true rfl⟩ t0 kd_2 rfl rfl hl.1 rfl (Nat.le_of_ble_eq_true rfl) dX6_climb_3 ⟨Nat.zero_le _, Nat.zero_le _⟩ (fun x15 H locs ix15 hH hS hF1 => ?_)
    refine lv_sipush (v := 149) hx hb dX6_climb_6 (by decide) ?_
    refine lv_icmp_ne (tgt := 70) hx hb dX6_climb_9 (by decide) (fun c16 => ?_) (fun c16 => ?_)
    · skip
      exact J70 H locs ls 4 (iv_c (by decide) : IV 4 4 4) hH hS (lv_sub hl [1, 2, 3, 0] rfl)
    · skip
      have ir17 : IV x15 149 149 := iv_eL c16 (iv_c (by decide) : IV 149 149 149)
      refine lv_iload_n hx hb dX6_climb_12 rfl (lv_at hl 2 rfl) ?_
      refine lv_iconst (v := 2) hx hb dX6_climb_13 (by decide) ?_
      refine lv_icmp_gt (tgt := 70) hx hb dX6_climb_14 (by decide) (fun c18 => ?_) (fun c18 => ?_)
      · skip
        exact J70 H locs ls 4 (iv_c (by decide) : IV 4 4 4) hH hS (lv_sub hl [1, 2, 3, 0] rfl)
      · skip
        exfalso
        have z1 := iv_nlt c18
        have z2 := ((iv_c (by decide) : IV 2 2 2)).1
        have z3 := ((iv_c (by decide) : IV 2 2 2)).2
        have z4 := (j1).1
        have z5 := (j1).2
        omega
  exact J0 s.heap [] ls hH va_S.rf hl

set_option maxRecDepth 100000 in
theorem m_X6_climb_d4l4 (l : Launch) (D : va_G) (cT : Nat → ClassId) (T : Nat → Option Nat) (q : Nat → Int) (hq : qok q) (a0 : Nat) (t0 : T a0 = some 2) (y1 : Int32) (j1 : IV y1 4 5) (y2 : Int32) (j2 : IV y2 4 4) : th_Met l D cT T (kd q) yX6_climb cX6_climb 7 (some .boolean) (rmk 24 608) [.ref a0, .int y1, .int y2] (th_R T (some (.inl (0, 1)))) [2, 56, 57] := by
  refine th_start (by decide) (Nat.le_of_ble_eq_true rfl) ?_
  intro p e s m below meth c ls S hK hH hr hlocks hnm hl
  have hx := S.1
  have hb := S.2.1
  have hl : lv_has ls 7 [(0, .ref a0), (1, .int y1), (2, .int y2)] := hl
  have J83 : ∀ (n : Nat) (H : Heap) (locs : List Loc) (ls : Array Slot) (v83_3 : Int32) (v83_4 : Int32), IV v83_3 4 4 → IV v83_4 0 1601 → th_H D cT T (kd q) H → va_S (th_A T [2, 56, 57]) s.heap H locs → lv_has ls 7 [(0, .ref a0), (1, .int y1), (2, .int y2), (3, .int v83_3), (4, .int v83_4)] → (1601 + 1 - v83_4.toInt).toNat < n → W p l e (rmk 24 608) s m [.ref a0, .int y1, .int y2].toArray below meth c H locs 0 0 (MQ below (th_Q D cT T (kd q) (th_R T (some (.inl (0, 1)))) [2, 56, 57]) [.ref a0, .int y1, .int y2].toArray s 0 0 (th_A T [2, 56, 57])) (F0 m 83 ls []) := by
    intro n
    induction n with
    | zero => intro H locs ls v83_3 v83_4 iv83_3 iv83_4 hH hS hl hn; exact absurd hn (Nat.not_lt_zero _)
    | succ n ih83 =>
      intro H locs ls v83_3 v83_4 iv83_3 iv83_4 hH hS hl hn83
      have J171 : ∀ (H : Heap) (locs : List Loc) (ls : Array Slot) (w171_0 : Int32), IV w171_0 4 4 → IV v83_4 0 1600 → IV y1 4 4 → th_H D cT T (kd q) H → va_S (th_A T [2, 56, 57]) s.heap H locs → lv_has ls 7 [(0, .ref a0), (1, .int y1), (2, .int y2), (4, .int v83_4)] → W p l e (rmk 24 608) s m [.ref a0, .int y1, .int y2].toArray below meth c H locs 0 0 (MQ below (th_Q D cT T (kd q) (th_R T (some (.inl (0, 1)))) [2, 56, 57]) [.ref a0, .int y1, .int y2].toArray s 0 0 (th_A T [2, 56, 57])) (F0 m 171 ls [.int w171_0]) := by
        intro H locs ls w171_0 iw171_0 f171_v83_4 f171_y1 hH hS hl
        refine lv_istore_n (lv' := [(3, .int w171_0), (0, .ref a0), (1, .int y1), (2, .int y2), (4, .int v83_4)]) hx hb dX6_climb_171 rfl hl (by decide) rfl (fun ls hl => ?_)
        refine th_iinc S dX6_climb_172 hl (k := 4) rfl (by decide) f171_v83_4 (by decide) (fun x1 ls ex1 ix1 hl => ?_)
        have hl : lv_has ls 7 [(4, .int x1), (3, .int w171_0), (0, .ref a0), (1, .int y1), (2, .int y2)] := hl
        have ix1 : IV x1 1 1601 := ix1
        refine lv_goto (tgt := 83) hx hb dX6_climb_175 (by decide) ?_
        exact ih83 H locs ls w171_0 x1 iw171_0 (iv_w ix1 (by decide)) hH hS (lv_sub hl [2, 3, 4, 1, 0] rfl) (th_up iv83_4 ex1 (by decide) hn83)
      have J120 : ∀ (H : Heap) (locs : List Loc) (ls : Array Slot), th_H D cT T (kd q) H → va_S (th_A T [2, 56, 57]) s.heap H locs → lv_has ls 7 [] → W p l e (rmk 24 608) s m [.ref a0, .int y1, .int y2].toArray below meth c H locs 0 0 (MQ below (th_Q D cT T (kd q) (th_R T (some (.inl (0, 1)))) [2, 56, 57]) [.ref a0, .int y1, .int y2].toArray s 0 0 (th_A T [2, 56, 57])) (F0 m 120 ls []) := by
        intro H locs ls hH hS hl
        refine lv_iconst (v := 1) hx hb dX6_climb_120 (by decide) ?_
        exact th_zret S hK hH hS hr hlocks (iv_w (iv_c (by decide) : IV 1 1 1) (by decide)) (th_R.i (iv_w (iv_c (by decide) : IV 1 1 1) (by decide))) dX6_climb_121
      refine lv_iload hx hb dX6_climb_83 (lv_at hl 4 rfl) ?_
      refine lv_aload_n hx hb dX6_climb_85 rfl (lv_at hl 0 rfl) ?_
      refine th_get S hK hH inG6 t0 kd_2 rfl 0 (by decide) gm_339 rfl rfl dX6_climb_86 (fun v2 hv2 fv2 => ?_)
      obtain ⟨rf3, rfl, trf3⟩ := th_V.ref hv2
      refine th_get S hK hH inG8 trf3 kd_1 rfl 5 (by decide) gm_159 rfl rfl dX6_climb_89 (fun v4 hv4 fv4 => ?_)
      obtain ⟨x5, rfl, ix5⟩ := th_V.int hv4
      refine lv_icmp_ge (tgt := 178) hx hb dX6_climb_92 (by decide) (fun c6 => ?_) (fun c6 => ?_)
      · skip
        refine lv_iconst (v := 1) hx hb dX6_climb_178 (by decide) ?_
        exact th_zret S hK hH hS hr hlocks (iv_w (iv_c (by decide) : IV 1 1 1) (by decide)) (th_R.i (iv_w (iv_c (by decide) : IV 1 1 1) (by decide))) dX6_climb_179
      · skip
        have ir7 : IV v83_4 0 1600 := iv_uL iv83_4 ix5 (iv_nle c6) (by decide)
        have ir8 : IV x5 1 1601 := iv_uR iv83_4 ix5 (iv_nle c6) (by decide)
        refine lv_aload_n hx hb dX6_climb_95 rfl (lv_at hl 0 rfl) ?_
        refine th_callVi (n := 0) (As := []) S hK hH hS (th_A.sub (by decide)) (m_X6_kind l D cT T q hq a0 t0) gm_708 gm_705 gm_707 gm_5 gm_115 (by decide +kernel) ⟨rfl, rfl, Nat.le_of_ble_eq_true rfl, Nat.le_of_ble_eq_true rfl⟩ t0 kd_2 rfl rfl hl.1 rfl (Nat.le_of_ble_eq_true rfl) dX6_climb_96 ⟨Nat.zero_le _, Nat.zero_le _⟩ (fun x9 H locs ix9 hH hS hF1 => ?_)
        refine lv_istore (lv' := [(5, .int x9), (0, .ref a0), (1, .int y1), (2, .int y2), (3, .int v83_3), (4, .int v83_4)]) hx hb dX6_climb_99 hl (by decide) rfl (fun ls hl => ?_)
        refine lv_iload hx hb dX6_climb_101 (lv_at hl 0 rfl) ?_
        refine th_callSi (n := 1) (As := [.int x9]) S hK hH hS (th_A.sub (by decide)) (m_X6_levelOf l D cT T q hq (x9) ix9) gm_773 gm_771 gm_772 gm_115 (by decide +kernel) ⟨rfl, rfl, Nat.le_of_ble_eq_true rfl, Nat.le_of_ble_eq_true rfl⟩ rfl hl.1 rfl (Nat.le_of_ble_eq_true rfl) dX6_climb_103 ⟨Nat.zero_le _, Nat.zero_le _⟩ (fun x10 H locs ix10 hH hS hF1 => ?_)
        refine lv_istore (lv' := [(6, .int x10), (5, .int x9), (0, .ref a0), (1, .int y1), (2, .int y2), (3, .int v83_3), (4, .int v83_4)]) hx hb dX6_climb_106 hl (by decide) rfl (fun ls hl => ?_)
        refine lv_iload hx hb dX6_climb_108 (lv_at hl 0 rfl) ?_
        refine lv_iload_n hx hb dX6_climb_110 rfl (lv_at hl 3 rfl) ?_
        refine lv_icmp_lt (tgt := 120) hx hb dX6_climb_111 (by decide) (fun c11 => ?_) (fun c11 => ?_)
        · skip
          exact J120 H locs ls  hH hS (lv_sub hl [] rfl)
        · skip
          have ir12 : IV x10 4 4 := iv_vR j1 ix10 (iv_nlt c11) (by decide)
          have ir13 : IV y1 4 4 := iv_vL j1 ix10 (iv_nlt c11) (by decide)
          refine lv_iload hx hb dX6_climb_114 (lv_at hl 0 rfl) ?_
          refine lv_iload_n hx hb dX6_climb_116 rfl (lv_at hl 5 rfl) ?_
          refine lv_icmp_le (tgt := 122) hx hb dX6_climb_117 (by decide) (fun c14 => ?_) (fun c14 => ?_)
          · skip
            refine lv_aload_n hx hb dX6_climb_122 rfl (lv_at hl 2 rfl) ?_
            refine lv_dup hx hb dX6_climb_123 rfl ?_
            refine th_get S hK hH inG6 t0 kd_2 rfl 2 (by decide) gm_342 rfl rfl dX6_climb_124 (fun v15 hv15 fv15 => ?_)
            obtain ⟨x16, rfl, ix16⟩ := th_V.int hv15
            refine lv_iconst (v := 1) hx hb dX6_climb_127 (by decide) ?_
            refine lv_iadd hx hb dX6_climb_128 ?_
            refine lv_topi (fun x17 ex17 => ?_)
            have ix17 := iv_top x17
            refine th_put S hK hH hS ⟨2, by decide, t0⟩ inG6 tyX6 tyX6_ok nmX6 t0 kd_2 rfl 2 (by decide) gm_342 rfl rfl rfl rfl (th_iv ix17) (fun _ _ => trivial) (ty := .int) (by decide +kernel) rfl rfl dX6_climb_129 (fun H locs hH hS hq1 hp1 => ?_)
            have f18 := hp1.1
            refine lv_aload_n hx hb dX6_climb_132 rfl (lv_at hl 2 rfl) ?_
            refine lv_iload hx hb dX6_climb_133 (lv_at hl 0 rfl) ?_
            refine lv_iconst (v := 1) hx hb dX6_climb_135 (by decide) ?_
            refine lv_iadd hx hb dX6_climb_136 ?_
            refine lv_topi (fun x19 ex19 => ?_)
            have ix19 : IV x19 5 5 := by rw [ex19]; exact iv_add ir12 (iv_c (by decide) : IV 1 1 1) (by decide)
            refine lv_iload_n hx hb dX6_climb_137 rfl (lv_at hl 4 rfl) ?_
            refine th_callVi (n := 2) (As := [.int x19, .int y2]) S hK hH hS (th_A.sub (by decide)) (m_X6_climb_d4l5 l D cT T q hq a0 t0 (x19) ix19 (y2) j2) gm_762 gm_759 gm_761 gm_15 gm_115 (by decide +kernel) ⟨rfl, rfl, Nat.le_of_ble_eq_true rfl, Nat.le_of_ble_eq_true rfl⟩ t0 kd_2 rfl rfl hl.1 rfl (Nat.le_of_ble_eq_true rfl) dX6_climb_138 ⟨Nat.zero_le _, Nat.zero_le _⟩ (fun x20 H locs ix20 hH hS hF1 => ?_)
            refine lv_if_ne (tgt := 146) hx hb dX6_climb_141 (by decide) (fun c21 => ?_) (fun c21 => ?_)
            · skip
              have ir22 : IV x20 1 1 := iv_cutL ix20 (iv_c (by decide) : IV 0 0 0) c21 (by decide)
              refine lv_aload_n hx hb dX6_climb_146 rfl (lv_at hl 2 rfl) ?_
              refine th_get S hK hH inG6 t0 kd_2 rfl 1 (by decide) gm_340 rfl rfl dX6_climb_147 (fun v23 hv23 fv23 => ?_)
              obtain ⟨rf24, rfl, trf24⟩ := th_V.ref hv23
              refine th_get S hK hH inG4 trf24 kd_46 rfl 9 (by decide) gm_269 rfl rfl dX6_climb_150 (fun v25 hv25 fv25 => ?_)
              obtain ⟨rf26, rfl, trf26⟩ := th_V.ref hv25
              refine lv_iload hx hb dX6_climb_153 (lv_at hl 1 rfl) ?_
              refine lv_ineg hx hb dX6_climb_155 ?_
              refine lv_topi (fun x27 ex27 => ?_)
              have ix27 := iv_top x27
              refine th_callVv (n := 1) (As := [.int x27]) S hK hH hS (th_A.sub (by decide)) (m_X2_add l D cT T q hq rf26 trf26 (x27) ix27) gm_766 gm_763 gm_764 gm_765 gm_117 (by decide +kernel) ⟨rfl, rfl, Nat.le_of_ble_eq_true rfl, Nat.le_of_ble_eq_true rfl⟩ trf26 kd_56 rfl rfl hl.1 rfl (Nat.le_of_ble_eq_true rfl) dX6_climb_156 ⟨Nat.zero_le _, Nat.zero_le _⟩ (fun H locs hH hS hF1 => ?_)
              have f28 := fv23.kept (hF1 _ fv23.lt (th_off t0 (by decide)))
              have f29 := fv25.kept (hF1 _ fv25.lt (th_off trf24 (by decide)))
              refine lv_iload hx hb dX6_climb_159 (lv_at hl 0 rfl) ?_
              refine lv_iconst (v := 2) hx hb dX6_climb_161 (by decide) ?_
              refine lv_icmp_ne (tgt := 169) hx hb dX6_climb_162 (by decide) (fun c30 => ?_) (fun c30 => ?_)
              · skip
                refine lv_iload hx hb dX6_climb_169 (lv_at hl 0 rfl) ?_
                exact J171 H locs ls x10 ir12 ir7 ir13 hH hS (lv_sub hl [2, 3, 4, 6] rfl)
              · skip
                exfalso
                have z1 := congrArg Int32.toInt c30
                have z2 := (ir12).1
                have z3 := (ir12).2
                have z4 := ((iv_c (by decide) : IV 2 2 2)).1
                have z5 := ((iv_c (by decide) : IV 2 2 2)).2
                omega
            · skip
              have ir31 : IV x20 0 0 := iv_eL c21 (iv_c (by decide) : IV 0 0 0)
              refine lv_iconst (v := 0) hx hb dX6_climb_144 (by decide) ?_
              exact th_zret S hK hH hS hr hlocks (iv_w (iv_c (by decide) : IV 0 0 0) (by decide)) (th_R.i (iv_w (iv_c (by decide) : IV 0 0 0) (by decide))) dX6_climb_145
          · skip
            exfalso
            have z1 := iv_nle c14
            have z2 := (iv83_3).1
            have z3 := (iv83_3).2
            have z4 := (ir12).1
            have z5 := (ir12).2
            omega
  have J80 : ∀ (H : Heap) (locs : List Loc) (ls : Array Slot) (v80_3 : Int32), IV v80_3 4 4 → th_H D cT T (kd q) H → va_S (th_A T [2, 56, 57]) s.heap H locs → lv_has ls 7 [(0, .ref a0), (1, .int y1), (2, .int y2), (3, .int v80_3)] → W p l e (rmk 24 608) s m [.ref a0, .int y1, .int y2].toArray below meth c H locs 0 0 (MQ below (th_Q D cT T (kd q) (th_R T (some (.inl (0, 1)))) [2, 56, 57]) [.ref a0, .int y1, .int y2].toArray s 0 0 (th_A T [2, 56, 57])) (F0 m 80 ls []) := by
    intro H locs ls v80_3 iv80_3 hH hS hl
    refine lv_iconst (v := 0) hx hb dX6_climb_80 (by decide) ?_
    refine lv_istore (lv' := [(4, .int 0), (0, .ref a0), (1, .int y1), (2, .int y2), (3, .int v80_3)]) hx hb dX6_climb_81 hl (by decide) rfl (fun ls hl => ?_)
    exact J83 ((1601 + 1 - Int32.toInt 0).toNat + 1) H locs ls v80_3 0 iv80_3 (iv_w (iv_c (by decide) : IV 0 0 0) (by decide)) hH hS (lv_sub hl [1, 2, 3, 4, 0] rfl) (Nat.lt_succ_self _)
  have J70 : ∀ (H : Heap) (locs : List Loc) (ls : Array Slot) (v70_3 : Int32), IV v70_3 4 4 → th_H D cT T (kd q) H → va_S (th_A T [2, 56, 57]) s.heap H locs → lv_has ls 7 [(0, .ref a0), (1, .int y1), (2, .int y2), (3, .int v70_3)] → W p l e (rmk 24 608) s m [.ref a0, .int y1, .int y2].toArray below meth c H locs 0 0 (MQ below (th_Q D cT T (kd q) (th_R T (some (.inl (0, 1)))) [2, 56, 57]) [.ref a0, .int y1, .int y2].toArray s 0 0 (th_A T [2, 56, 57])) (F0 m 70 ls []) := by
    intro H locs ls v70_3 iv70_3 hH hS hl
    refine lv_aload_n hx hb dX6_climb_70 rfl (lv_at hl 0 rfl) ?_
    refine lv_iload_n hx hb dX6_climb_71 rfl (lv_at hl 2 rfl) ?_
    refine th_callVi (n := 1) (As := [.int y2]) S hK hH hS (th_A.sub (by decide)) (m_X6_unit_d4 l D cT T q hq a0 t0 (y2) j2) gm_770 gm_767 gm_769 gm_16 gm_115 (by decide +kernel) ⟨rfl, rfl, Nat.le_of_ble_eq_true rfl, Nat.le_of_ble_eq_true rfl⟩ t0 kd_2 rfl rfl hl.1 rfl (Nat.le_of_ble_eq_true rfl) dX6_climb_72 ⟨Nat.zero_le _, Nat.zero_le _⟩ (fun x32 H locs ix32 hH hS hF1 => ?_)
    refine lv_if_ne (tgt := 80) hx hb dX6_climb_75 (by decide) (fun c33 => ?_) (fun c33 => ?_)
    · skip
      have ir34 : IV x32 1 1 := iv_cutL ix32 (iv_c (by decide) : IV 0 0 0) c33 (by decide)
      exact J80 H locs ls v70_3 iv70_3 hH hS (lv_sub hl [0, 1, 2, 3] rfl)
    · skip
      have ir35 : IV x32 0 0 := iv_eL c33 (iv_c (by decide) : IV 0 0 0)
      refine lv_iconst (v := 0) hx hb dX6_climb_78 (by decide) ?_
      exact th_zret S hK hH hS hr hlocks (iv_w (iv_c (by decide) : IV 0 0 0) (by decide)) (th_R.i (iv_w (iv_c (by decide) : IV 0 0 0) (by decide))) dX6_climb_79
  have J0 : ∀ (H : Heap) (locs : List Loc) (ls : Array Slot), th_H D cT T (kd q) H → va_S (th_A T [2, 56, 57]) s.heap H locs → lv_has ls 7 [(0, .ref a0), (1, .int y1), (2, .int y2)] → W p l e (rmk 24 608) s m [.ref a0, .int y1, .int y2].toArray below meth c H locs 0 0 (MQ below (th_Q D cT T (kd q) (th_R T (some (.inl (0, 1)))) [2, 56, 57]) [.ref a0, .int y1, .int y2].toArray s 0 0 (th_A T [2, 56, 57])) (F0 m 0 ls []) := by
    intro H locs ls hH hS hl
    refine lv_iconst (v := 4) hx hb dX6_climb_0 (by decide) ?_
    refine lv_istore_n (lv' := [(3, .int 4), (0, .ref a0), (1, .int y1), (2, .int y2)]) hx hb dX6_climb_1 rfl hl (by decide) rfl (fun ls hl => ?_)
    refine lv_aload_n hx hb dX6_climb_2 rfl (lv_at hl 1 rfl) ?_
    refine th_callVi (n := 0) (As := []) S hK hH hS (th_A.sub (by decide)) (m_X6_kind l D cT T q hq a0 t0) gm_708 gm_705 gm_707 gm_5 gm_115 (by decide +kernel) ⟨rfl, rfl, Nat.le_of_ble_eq_true rfl, Nat.le_of_ble_eq_true rfl⟩ t0 kd_2 rfl rfl hl.1 rfl (Nat.le_of_ble_eq_true rfl) dX6_climb_3 ⟨Nat.zero_le _, Nat.zero_le _⟩ (fun x36 H locs ix36 hH hS hF1 => ?_)
    refine lv_sipush (v := 149) hx hb dX6_climb_6 (by decide) ?_
    refine lv_icmp_ne (tgt := 70) hx hb dX6_climb_9 (by decide) (fun c37 => ?_) (fun c37 => ?_)
    · skip
      exact J70 H locs ls 4 (iv_c (by decide) : IV 4 4 4) hH hS (lv_sub hl [1, 2, 3, 0] rfl)
    · skip
      have ir38 : IV x36 149 149 := iv_eL c37 (iv_c (by decide) : IV 149 149 149)
      refine lv_iload_n hx hb dX6_climb_12 rfl (lv_at hl 2 rfl) ?_
      refine lv_iconst (v := 2) hx hb dX6_climb_13 (by decide) ?_
      refine lv_icmp_gt (tgt := 70) hx hb dX6_climb_14 (by decide) (fun c39 => ?_) (fun c39 => ?_)
      · skip
        exact J70 H locs ls 4 (iv_c (by decide) : IV 4 4 4) hH hS (lv_sub hl [1, 2, 3, 0] rfl)
      · skip
        exfalso
        have z1 := iv_nlt c39
        have z2 := ((iv_c (by decide) : IV 2 2 2)).1
        have z3 := ((iv_c (by decide) : IV 2 2 2)).2
        have z4 := (j1).1
        have z5 := (j1).2
        omega
  exact J0 s.heap [] ls hH va_S.rf hl

set_option maxRecDepth 100000 in
theorem m_X6_climb_d4l3 (l : Launch) (D : va_G) (cT : Nat → ClassId) (T : Nat → Option Nat) (q : Nat → Int) (hq : qok q) (a0 : Nat) (t0 : T a0 = some 2) (y1 : Int32) (j1 : IV y1 3 5) (y2 : Int32) (j2 : IV y2 4 4) : th_Met l D cT T (kd q) yX6_climb cX6_climb 7 (some .boolean) (rmk 25 634) [.ref a0, .int y1, .int y2] (th_R T (some (.inl (0, 1)))) [2, 56, 57] := by
  refine th_start (by decide) (Nat.le_of_ble_eq_true rfl) ?_
  intro p e s m below meth c ls S hK hH hr hlocks hnm hl
  have hx := S.1
  have hb := S.2.1
  have hl : lv_has ls 7 [(0, .ref a0), (1, .int y1), (2, .int y2)] := hl
  have J83 : ∀ (n : Nat) (H : Heap) (locs : List Loc) (ls : Array Slot) (v83_3 : Int32) (v83_4 : Int32), IV v83_3 3 4 → IV v83_4 0 1601 → th_H D cT T (kd q) H → va_S (th_A T [2, 56, 57]) s.heap H locs → lv_has ls 7 [(0, .ref a0), (1, .int y1), (2, .int y2), (3, .int v83_3), (4, .int v83_4)] → (1601 + 1 - v83_4.toInt).toNat < n → W p l e (rmk 25 634) s m [.ref a0, .int y1, .int y2].toArray below meth c H locs 0 0 (MQ below (th_Q D cT T (kd q) (th_R T (some (.inl (0, 1)))) [2, 56, 57]) [.ref a0, .int y1, .int y2].toArray s 0 0 (th_A T [2, 56, 57])) (F0 m 83 ls []) := by
    intro n
    induction n with
    | zero => intro H locs ls v83_3 v83_4 iv83_3 iv83_4 hH hS hl hn; exact absurd hn (Nat.not_lt_zero _)
    | succ n ih83 =>
      intro H locs ls v83_3 v83_4 iv83_3 iv83_4 hH hS hl hn83
      have J171 : ∀ (H : Heap) (locs : List Loc) (ls : Array Slot) (w171_0 : Int32), IV w171_0 3 4 → IV v83_4 0 1600 → IV y1 3 4 → th_H D cT T (kd q) H → va_S (th_A T [2, 56, 57]) s.heap H locs → lv_has ls 7 [(0, .ref a0), (1, .int y1), (2, .int y2), (4, .int v83_4)] → W p l e (rmk 25 634) s m [.ref a0, .int y1, .int y2].toArray below meth c H locs 0 0 (MQ below (th_Q D cT T (kd q) (th_R T (some (.inl (0, 1)))) [2, 56, 57]) [.ref a0, .int y1, .int y2].toArray s 0 0 (th_A T [2, 56, 57])) (F0 m 171 ls [.int w171_0]) := by
        intro H locs ls w171_0 iw171_0 f171_v83_4 f171_y1 hH hS hl
        refine lv_istore_n (lv' := [(3, .int w171_0), (0, .ref a0), (1, .int y1), (2, .int y2), (4, .int v83_4)]) hx hb dX6_climb_171 rfl hl (by decide) rfl (fun ls hl => ?_)
        refine th_iinc S dX6_climb_172 hl (k := 4) rfl (by decide) f171_v83_4 (by decide) (fun x1 ls ex1 ix1 hl => ?_)
        have hl : lv_has ls 7 [(4, .int x1), (3, .int w171_0), (0, .ref a0), (1, .int y1), (2, .int y2)] := hl
        have ix1 : IV x1 1 1601 := ix1
        refine lv_goto (tgt := 83) hx hb dX6_climb_175 (by decide) ?_
        exact ih83 H locs ls w171_0 x1 iw171_0 (iv_w ix1 (by decide)) hH hS (lv_sub hl [2, 3, 4, 1, 0] rfl) (th_up iv83_4 ex1 (by decide) hn83)
      have J120 : ∀ (H : Heap) (locs : List Loc) (ls : Array Slot), th_H D cT T (kd q) H → va_S (th_A T [2, 56, 57]) s.heap H locs → lv_has ls 7 [] → W p l e (rmk 25 634) s m [.ref a0, .int y1, .int y2].toArray below meth c H locs 0 0 (MQ below (th_Q D cT T (kd q) (th_R T (some (.inl (0, 1)))) [2, 56, 57]) [.ref a0, .int y1, .int y2].toArray s 0 0 (th_A T [2, 56, 57])) (F0 m 120 ls []) := by
        intro H locs ls hH hS hl
        refine lv_iconst (v := 1) hx hb dX6_climb_120 (by decide) ?_
        exact th_zret S hK hH hS hr hlocks (iv_w (iv_c (by decide) : IV 1 1 1) (by decide)) (th_R.i (iv_w (iv_c (by decide) : IV 1 1 1) (by decide))) dX6_climb_121
      refine lv_iload hx hb dX6_climb_83 (lv_at hl 4 rfl) ?_
      refine lv_aload_n hx hb dX6_climb_85 rfl (lv_at hl 0 rfl) ?_
      refine th_get S hK hH inG6 t0 kd_2 rfl 0 (by decide) gm_339 rfl rfl dX6_climb_86 (fun v2 hv2 fv2 => ?_)
      obtain ⟨rf3, rfl, trf3⟩ := th_V.ref hv2
      refine th_get S hK hH inG8 trf3 kd_1 rfl 5 (by decide) gm_159 rfl rfl dX6_climb_89 (fun v4 hv4 fv4 => ?_)
      obtain ⟨x5, rfl, ix5⟩ := th_V.int hv4
      refine lv_icmp_ge (tgt := 178) hx hb dX6_climb_92 (by decide) (fun c6 => ?_) (fun c6 => ?_)
      · skip
        refine lv_iconst (v := 1) hx hb dX6_climb_178 (by decide) ?_
        exact th_zret S hK hH hS hr hlocks (iv_w (iv_c (by decide) : IV 1 1 1) (by decide)) (th_R.i (iv_w (iv_c (by decide) : IV 1 1 1) (by decide))) dX6_climb_179
      · skip
        have ir7 : IV v83_4 0 1600 := iv_uL iv83_4 ix5 (iv_nle c6) (by decide)
        have ir8 : IV x5 1 1601 := iv_uR iv83_4 ix5 (iv_nle c6) (by decide)
        refine lv_aload_n hx hb dX6_climb_95 rfl (lv_at hl 0 rfl) ?_
        refine th_callVi (n := 0) (As := []) S hK hH hS (th_A.sub (by decide)) (m_X6_kind l D cT T q hq a0 t0) gm_708 gm_705 gm_707 gm_5 gm_115 (by decide +kernel) ⟨rfl, rfl, Nat.le_of_ble_eq_true rfl, Nat.le_of_ble_eq_true rfl⟩ t0 kd_2 rfl rfl hl.1 rfl (Nat.le_of_ble_eq_true rfl) dX6_climb_96 ⟨Nat.zero_le _, Nat.zero_le _⟩ (fun x9 H locs ix9 hH hS hF1 => ?_)
        refine lv_istore (lv' := [(5, .int x9), (0, .ref a0), (1, .int y1), (2, .int y2), (3, .int v83_3), (4, .int v83_4)]) hx hb dX6_climb_99 hl (by decide) rfl (fun ls hl => ?_)
        refine lv_iload hx hb dX6_climb_101 (lv_at hl 0 rfl) ?_
        refine th_callSi (n := 1) (As := [.int x9]) S hK hH hS (th_A.sub (by decide)) (m_X6_levelOf l D cT T q hq (x9) ix9) gm_773 gm_771 gm_772 gm_115 (by decide +kernel) ⟨rfl, rfl, Nat.le_of_ble_eq_true rfl, Nat.le_of_ble_eq_true rfl⟩ rfl hl.1 rfl (Nat.le_of_ble_eq_true rfl) dX6_climb_103 ⟨Nat.zero_le _, Nat.zero_le _⟩ (fun x10 H locs ix10 hH hS hF1 => ?_)
        refine lv_istore (lv' := [(6, .int x10), (5, .int x9), (0, .ref a0), (1, .int y1), (2, .int y2), (3, .int v83_3), (4, .int v83_4)]) hx hb dX6_climb_106 hl (by decide) rfl (fun ls hl => ?_)
        refine lv_iload hx hb dX6_climb_108 (lv_at hl 0 rfl) ?_
        refine lv_iload_n hx hb dX6_climb_110 rfl (lv_at hl 3 rfl) ?_
        refine lv_icmp_lt (tgt := 120) hx hb dX6_climb_111 (by decide) (fun c11 => ?_) (fun c11 => ?_)
        · skip
          exact J120 H locs ls  hH hS (lv_sub hl [] rfl)
        · skip
          have ir12 : IV x10 3 4 := iv_vR j1 ix10 (iv_nlt c11) (by decide)
          have ir13 : IV y1 3 4 := iv_vL j1 ix10 (iv_nlt c11) (by decide)
          refine lv_iload hx hb dX6_climb_114 (lv_at hl 0 rfl) ?_
          refine lv_iload_n hx hb dX6_climb_116 rfl (lv_at hl 5 rfl) ?_
          refine lv_icmp_le (tgt := 122) hx hb dX6_climb_117 (by decide) (fun c14 => ?_) (fun c14 => ?_)
          · skip
            refine lv_aload_n hx hb dX6_climb_122 rfl (lv_at hl 2 rfl) ?_
            refine lv_dup hx hb dX6_climb_123 rfl ?_
            refine th_get S hK hH inG6 t0 kd_2 rfl 2 (by decide) gm_342 rfl rfl dX6_climb_124 (fun v15 hv15 fv15 => ?_)
            obtain ⟨x16, rfl, ix16⟩ := th_V.int hv15
            refine lv_iconst (v := 1) hx hb dX6_climb_127 (by decide) ?_
            refine lv_iadd hx hb dX6_climb_128 ?_
            refine lv_topi (fun x17 ex17 => ?_)
            have ix17 := iv_top x17
            refine th_put S hK hH hS ⟨2, by decide, t0⟩ inG6 tyX6 tyX6_ok nmX6 t0 kd_2 rfl 2 (by decide) gm_342 rfl rfl rfl rfl (th_iv ix17) (fun _ _ => trivial) (ty := .int) (by decide +kernel) rfl rfl dX6_climb_129 (fun H locs hH hS hq1 hp1 => ?_)
            have f18 := hp1.1
            refine lv_aload_n hx hb dX6_climb_132 rfl (lv_at hl 2 rfl) ?_
            refine lv_iload hx hb dX6_climb_133 (lv_at hl 0 rfl) ?_
            refine lv_iconst (v := 1) hx hb dX6_climb_135 (by decide) ?_
            refine lv_iadd hx hb dX6_climb_136 ?_
            refine lv_topi (fun x19 ex19 => ?_)
            have ix19 : IV x19 4 5 := by rw [ex19]; exact iv_add ir12 (iv_c (by decide) : IV 1 1 1) (by decide)
            refine lv_iload_n hx hb dX6_climb_137 rfl (lv_at hl 4 rfl) ?_
            refine th_callVi (n := 2) (As := [.int x19, .int y2]) S hK hH hS (th_A.sub (by decide)) (m_X6_climb_d4l4 l D cT T q hq a0 t0 (x19) ix19 (y2) j2) gm_762 gm_759 gm_761 gm_15 gm_115 (by decide +kernel) ⟨rfl, rfl, Nat.le_of_ble_eq_true rfl, Nat.le_of_ble_eq_true rfl⟩ t0 kd_2 rfl rfl hl.1 rfl (Nat.le_of_ble_eq_true rfl) dX6_climb_138 ⟨Nat.zero_le _, Nat.zero_le _⟩ (fun x20 H locs ix20 hH hS hF1 => ?_)
            refine lv_if_ne (tgt := 146) hx hb dX6_climb_141 (by decide) (fun c21 => ?_) (fun c21 => ?_)
            · skip
              have ir22 : IV x20 1 1 := iv_cutL ix20 (iv_c (by decide) : IV 0 0 0) c21 (by decide)
              refine lv_aload_n hx hb dX6_climb_146 rfl (lv_at hl 2 rfl) ?_
              refine th_get S hK hH inG6 t0 kd_2 rfl 1 (by decide) gm_340 rfl rfl dX6_climb_147 (fun v23 hv23 fv23 => ?_)
              obtain ⟨rf24, rfl, trf24⟩ := th_V.ref hv23
              refine th_get S hK hH inG4 trf24 kd_46 rfl 9 (by decide) gm_269 rfl rfl dX6_climb_150 (fun v25 hv25 fv25 => ?_)
              obtain ⟨rf26, rfl, trf26⟩ := th_V.ref hv25
              refine lv_iload hx hb dX6_climb_153 (lv_at hl 1 rfl) ?_
              refine lv_ineg hx hb dX6_climb_155 ?_
              refine lv_topi (fun x27 ex27 => ?_)
              have ix27 := iv_top x27
              refine th_callVv (n := 1) (As := [.int x27]) S hK hH hS (th_A.sub (by decide)) (m_X2_add l D cT T q hq rf26 trf26 (x27) ix27) gm_766 gm_763 gm_764 gm_765 gm_117 (by decide +kernel) ⟨rfl, rfl, Nat.le_of_ble_eq_true rfl, Nat.le_of_ble_eq_true rfl⟩ trf26 kd_56 rfl rfl hl.1 rfl (Nat.le_of_ble_eq_true rfl) dX6_climb_156 ⟨Nat.zero_le _, Nat.zero_le _⟩ (fun H locs hH hS hF1 => ?_)
              have f28 := fv23.kept (hF1 _ fv23.lt (th_off t0 (by decide)))
              have f29 := fv25.kept (hF1 _ fv25.lt (th_off trf24 (by decide)))
              refine lv_iload hx hb dX6_climb_159 (lv_at hl 0 rfl) ?_
              refine lv_iconst (v := 2) hx hb dX6_climb_161 (by decide) ?_
              refine lv_icmp_ne (tgt := 169) hx hb dX6_climb_162 (by decide) (fun c30 => ?_) (fun c30 => ?_)
              · skip
                refine lv_iload hx hb dX6_climb_169 (lv_at hl 0 rfl) ?_
                exact J171 H locs ls x10 ir12 ir7 ir13 hH hS (lv_sub hl [2, 3, 4, 6] rfl)
              · skip
                exfalso
                have z1 := congrArg Int32.toInt c30
                have z2 := (ir12).1
                have z3 := (ir12).2
                have z4 := ((iv_c (by decide) : IV 2 2 2)).1
                have z5 := ((iv_c (by decide) : IV 2 2 2)).2
                omega
            · skip
              have ir31 : IV x20 0 0 := iv_eL c21 (iv_c (by decide) : IV 0 0 0)
              refine lv_iconst (v := 0) hx hb dX6_climb_144 (by decide) ?_
              exact th_zret S hK hH hS hr hlocks (iv_w (iv_c (by decide) : IV 0 0 0) (by decide)) (th_R.i (iv_w (iv_c (by decide) : IV 0 0 0) (by decide))) dX6_climb_145
          · skip
            have ir32 : IV v83_3 3 3 := iv_uL iv83_3 ir12 (iv_nle c14) (by decide)
            have ir33 : IV x10 4 4 := iv_uR iv83_3 ir12 (iv_nle c14) (by decide)
            exact J120 H locs ls  hH hS (lv_sub hl [] rfl)
  have J80 : ∀ (H : Heap) (locs : List Loc) (ls : Array Slot) (v80_3 : Int32), IV v80_3 4 4 → th_H D cT T (kd q) H → va_S (th_A T [2, 56, 57]) s.heap H locs → lv_has ls 7 [(0, .ref a0), (1, .int y1), (2, .int y2), (3, .int v80_3)] → W p l e (rmk 25 634) s m [.ref a0, .int y1, .int y2].toArray below meth c H locs 0 0 (MQ below (th_Q D cT T (kd q) (th_R T (some (.inl (0, 1)))) [2, 56, 57]) [.ref a0, .int y1, .int y2].toArray s 0 0 (th_A T [2, 56, 57])) (F0 m 80 ls []) := by
    intro H locs ls v80_3 iv80_3 hH hS hl
    refine lv_iconst (v := 0) hx hb dX6_climb_80 (by decide) ?_
    refine lv_istore (lv' := [(4, .int 0), (0, .ref a0), (1, .int y1), (2, .int y2), (3, .int v80_3)]) hx hb dX6_climb_81 hl (by decide) rfl (fun ls hl => ?_)
    exact J83 ((1601 + 1 - Int32.toInt 0).toNat + 1) H locs ls v80_3 0 (iv_w iv80_3 (by decide)) (iv_w (iv_c (by decide) : IV 0 0 0) (by decide)) hH hS (lv_sub hl [1, 2, 3, 4, 0] rfl) (Nat.lt_succ_self _)
  have J70 : ∀ (H : Heap) (locs : List Loc) (ls : Array Slot) (v70_3 : Int32), IV v70_3 4 4 → th_H D cT T (kd q) H → va_S (th_A T [2, 56, 57]) s.heap H locs → lv_has ls 7 [(0, .ref a0), (1, .int y1), (2, .int y2), (3, .int v70_3)] → W p l e (rmk 25 634) s m [.ref a0, .int y1, .int y2].toArray below meth c H locs 0 0 (MQ below (th_Q D cT T (kd q) (th_R T (some (.inl (0, 1)))) [2, 56, 57]) [.ref a0, .int y1, .int y2].toArray s 0 0 (th_A T [2, 56, 57])) (F0 m 70 ls []) := by
    intro H locs ls v70_3 iv70_3 hH hS hl
    refine lv_aload_n hx hb dX6_climb_70 rfl (lv_at hl 0 rfl) ?_
    refine lv_iload_n hx hb dX6_climb_71 rfl (lv_at hl 2 rfl) ?_
    refine th_callVi (n := 1) (As := [.int y2]) S hK hH hS (th_A.sub (by decide)) (m_X6_unit_d4 l D cT T q hq a0 t0 (y2) j2) gm_770 gm_767 gm_769 gm_16 gm_115 (by decide +kernel) ⟨rfl, rfl, Nat.le_of_ble_eq_true rfl, Nat.le_of_ble_eq_true rfl⟩ t0 kd_2 rfl rfl hl.1 rfl (Nat.le_of_ble_eq_true rfl) dX6_climb_72 ⟨Nat.zero_le _, Nat.zero_le _⟩ (fun x34 H locs ix34 hH hS hF1 => ?_)
    refine lv_if_ne (tgt := 80) hx hb dX6_climb_75 (by decide) (fun c35 => ?_) (fun c35 => ?_)
    · skip
      have ir36 : IV x34 1 1 := iv_cutL ix34 (iv_c (by decide) : IV 0 0 0) c35 (by decide)
      exact J80 H locs ls v70_3 iv70_3 hH hS (lv_sub hl [0, 1, 2, 3] rfl)
    · skip
      have ir37 : IV x34 0 0 := iv_eL c35 (iv_c (by decide) : IV 0 0 0)
      refine lv_iconst (v := 0) hx hb dX6_climb_78 (by decide) ?_
      exact th_zret S hK hH hS hr hlocks (iv_w (iv_c (by decide) : IV 0 0 0) (by decide)) (th_R.i (iv_w (iv_c (by decide) : IV 0 0 0) (by decide))) dX6_climb_79
  have J0 : ∀ (H : Heap) (locs : List Loc) (ls : Array Slot), th_H D cT T (kd q) H → va_S (th_A T [2, 56, 57]) s.heap H locs → lv_has ls 7 [(0, .ref a0), (1, .int y1), (2, .int y2)] → W p l e (rmk 25 634) s m [.ref a0, .int y1, .int y2].toArray below meth c H locs 0 0 (MQ below (th_Q D cT T (kd q) (th_R T (some (.inl (0, 1)))) [2, 56, 57]) [.ref a0, .int y1, .int y2].toArray s 0 0 (th_A T [2, 56, 57])) (F0 m 0 ls []) := by
    intro H locs ls hH hS hl
    refine lv_iconst (v := 4) hx hb dX6_climb_0 (by decide) ?_
    refine lv_istore_n (lv' := [(3, .int 4), (0, .ref a0), (1, .int y1), (2, .int y2)]) hx hb dX6_climb_1 rfl hl (by decide) rfl (fun ls hl => ?_)
    refine lv_aload_n hx hb dX6_climb_2 rfl (lv_at hl 1 rfl) ?_
    refine th_callVi (n := 0) (As := []) S hK hH hS (th_A.sub (by decide)) (m_X6_kind l D cT T q hq a0 t0) gm_708 gm_705 gm_707 gm_5 gm_115 (by decide +kernel) ⟨rfl, rfl, Nat.le_of_ble_eq_true rfl, Nat.le_of_ble_eq_true rfl⟩ t0 kd_2 rfl rfl hl.1 rfl (Nat.le_of_ble_eq_true rfl) dX6_climb_3 ⟨Nat.zero_le _, Nat.zero_le _⟩ (fun x38 H locs ix38 hH hS hF1 => ?_)
    refine lv_sipush (v := 149) hx hb dX6_climb_6 (by decide) ?_
    refine lv_icmp_ne (tgt := 70) hx hb dX6_climb_9 (by decide) (fun c39 => ?_) (fun c39 => ?_)
    · skip
      exact J70 H locs ls 4 (iv_c (by decide) : IV 4 4 4) hH hS (lv_sub hl [1, 2, 3, 0] rfl)
    · skip
      have ir40 : IV x38 149 149 := iv_eL c39 (iv_c (by decide) : IV 149 149 149)
      refine lv_iload_n hx hb dX6_climb_12 rfl (lv_at hl 2 rfl) ?_
      refine lv_iconst (v := 2) hx hb dX6_climb_13 (by decide) ?_
      refine lv_icmp_gt (tgt := 70) hx hb dX6_climb_14 (by decide) (fun c41 => ?_) (fun c41 => ?_)
      · skip
        exact J70 H locs ls 4 (iv_c (by decide) : IV 4 4 4) hH hS (lv_sub hl [1, 2, 3, 0] rfl)
      · skip
        exfalso
        have z1 := iv_nlt c41
        have z2 := ((iv_c (by decide) : IV 2 2 2)).1
        have z3 := ((iv_c (by decide) : IV 2 2 2)).2
        have z4 := (j1).1
        have z5 := (j1).2
        omega
  exact J0 s.heap [] ls hH va_S.rf hl

set_option maxRecDepth 100000 in
theorem m_X6_climb_d4l2 (l : Launch) (D : va_G) (cT : Nat → ClassId) (T : Nat → Option Nat) (q : Nat → Int) (hq : qok q) (a0 : Nat) (t0 : T a0 = some 2) (y1 : Int32) (j1 : IV y1 2 5) (y2 : Int32) (j2 : IV y2 4 4) : th_Met l D cT T (kd q) yX6_climb cX6_climb 7 (some .boolean) (rmk 26 660) [.ref a0, .int y1, .int y2] (th_R T (some (.inl (0, 1)))) [2, 56, 57] := by
  refine th_start (by decide) (Nat.le_of_ble_eq_true rfl) ?_
  intro p e s m below meth c ls S hK hH hr hlocks hnm hl
  have hx := S.1
  have hb := S.2.1
  have hl : lv_has ls 7 [(0, .ref a0), (1, .int y1), (2, .int y2)] := hl
  have J83 : ∀ (n : Nat) (H : Heap) (locs : List Loc) (ls : Array Slot) (v83_3 : Int32) (v83_4 : Int32), IV v83_3 1 4 → IV v83_4 0 1601 → th_H D cT T (kd q) H → va_S (th_A T [2, 56, 57]) s.heap H locs → lv_has ls 7 [(0, .ref a0), (1, .int y1), (2, .int y2), (3, .int v83_3), (4, .int v83_4)] → (1601 + 1 - v83_4.toInt).toNat < n → W p l e (rmk 26 660) s m [.ref a0, .int y1, .int y2].toArray below meth c H locs 0 0 (MQ below (th_Q D cT T (kd q) (th_R T (some (.inl (0, 1)))) [2, 56, 57]) [.ref a0, .int y1, .int y2].toArray s 0 0 (th_A T [2, 56, 57])) (F0 m 83 ls []) := by
    intro n
    induction n with
    | zero => intro H locs ls v83_3 v83_4 iv83_3 iv83_4 hH hS hl hn; exact absurd hn (Nat.not_lt_zero _)
    | succ n ih83 =>
      intro H locs ls v83_3 v83_4 iv83_3 iv83_4 hH hS hl hn83
      have J171 : ∀ (H : Heap) (locs : List Loc) (ls : Array Slot) (w171_0 : Int32), IV w171_0 3 4 → IV v83_4 0 1600 → IV y1 2 4 → th_H D cT T (kd q) H → va_S (th_A T [2, 56, 57]) s.heap H locs → lv_has ls 7 [(0, .ref a0), (1, .int y1), (2, .int y2), (4, .int v83_4)] → W p l e (rmk 26 660) s m [.ref a0, .int y1, .int y2].toArray below meth c H locs 0 0 (MQ below (th_Q D cT T (kd q) (th_R T (some (.inl (0, 1)))) [2, 56, 57]) [.ref a0, .int y1, .int y2].toArray s 0 0 (th_A T [2, 56, 57])) (F0 m 171 ls [.int w171_0]) := by
        intro H locs ls w171_0 iw171_0 f171_v83_4 f171_y1 hH hS hl
        refine lv_istore_n (lv' := [(3, .int w171_0), (0, .ref a0), (1, .int y1), (2, .int y2), (4, .int v83_4)]) hx hb dX6_climb_171 rfl hl (by decide) rfl (fun ls hl => ?_)
        refine th_iinc S dX6_climb_172 hl (k := 4) rfl (by decide) f171_v83_4 (by decide) (fun x1 ls ex1 ix1 hl => ?_)
        have hl : lv_has ls 7 [(4, .int x1), (3, .int w171_0), (0, .ref a0), (1, .int y1), (2, .int y2)] := hl
        have ix1 : IV x1 1 1601 := ix1
        refine lv_goto (tgt := 83) hx hb dX6_climb_175 (by decide) ?_
        exact ih83 H locs ls w171_0 x1 (iv_w iw171_0 (by decide)) (iv_w ix1 (by decide)) hH hS (lv_sub hl [2, 3, 4, 1, 0] rfl) (th_up iv83_4 ex1 (by decide) hn83)
      have J171_s0_1 : ∀ (H : Heap) (locs : List Loc) (ls : Array Slot), IV v83_4 0 1600 → IV y1 2 4 → th_H D cT T (kd q) H → va_S (th_A T [2, 56, 57]) s.heap H locs → lv_has ls 7 [(0, .ref a0), (1, .int y1), (2, .int y2), (4, .int v83_4)] → W p l e (rmk 26 660) s m [.ref a0, .int y1, .int y2].toArray below meth c H locs 0 0 (MQ below (th_Q D cT T (kd q) (th_R T (some (.inl (0, 1)))) [2, 56, 57]) [.ref a0, .int y1, .int y2].toArray s 0 0 (th_A T [2, 56, 57])) (F0 m 171 ls [.int 1]) := by
        intro H locs ls f171_v83_4 f171_y1 hH hS hl
        refine lv_istore_n (lv' := [(3, .int 1), (0, .ref a0), (1, .int y1), (2, .int y2), (4, .int v83_4)]) hx hb dX6_climb_171 rfl hl (by decide) rfl (fun ls hl => ?_)
        refine th_iinc S dX6_climb_172 hl (k := 4) rfl (by decide) f171_v83_4 (by decide) (fun x2 ls ex2 ix2 hl => ?_)
        have hl : lv_has ls 7 [(4, .int x2), (3, .int 1), (0, .ref a0), (1, .int y1), (2, .int y2)] := hl
        have ix2 : IV x2 1 1601 := ix2
        refine lv_goto (tgt := 83) hx hb dX6_climb_175 (by decide) ?_
        exact ih83 H locs ls 1 x2 (iv_w (iv_c (by decide) : IV 1 1 1) (by decide)) (iv_w ix2 (by decide)) hH hS (lv_sub hl [2, 3, 4, 1, 0] rfl) (th_up iv83_4 ex2 (by decide) hn83)
      have J120 : ∀ (H : Heap) (locs : List Loc) (ls : Array Slot), th_H D cT T (kd q) H → va_S (th_A T [2, 56, 57]) s.heap H locs → lv_has ls 7 [] → W p l e (rmk 26 660) s m [.ref a0, .int y1, .int y2].toArray below meth c H locs 0 0 (MQ below (th_Q D cT T (kd q) (th_R T (some (.inl (0, 1)))) [2, 56, 57]) [.ref a0, .int y1, .int y2].toArray s 0 0 (th_A T [2, 56, 57])) (F0 m 120 ls []) := by
        intro H locs ls hH hS hl
        refine lv_iconst (v := 1) hx hb dX6_climb_120 (by decide) ?_
        exact th_zret S hK hH hS hr hlocks (iv_w (iv_c (by decide) : IV 1 1 1) (by decide)) (th_R.i (iv_w (iv_c (by decide) : IV 1 1 1) (by decide))) dX6_climb_121
      refine lv_iload hx hb dX6_climb_83 (lv_at hl 4 rfl) ?_
      refine lv_aload_n hx hb dX6_climb_85 rfl (lv_at hl 0 rfl) ?_
      refine th_get S hK hH inG6 t0 kd_2 rfl 0 (by decide) gm_339 rfl rfl dX6_climb_86 (fun v3 hv3 fv3 => ?_)
      obtain ⟨rf4, rfl, trf4⟩ := th_V.ref hv3
      refine th_get S hK hH inG8 trf4 kd_1 rfl 5 (by decide) gm_159 rfl rfl dX6_climb_89 (fun v5 hv5 fv5 => ?_)
      obtain ⟨x6, rfl, ix6⟩ := th_V.int hv5
      refine lv_icmp_ge (tgt := 178) hx hb dX6_climb_92 (by decide) (fun c7 => ?_) (fun c7 => ?_)
      · skip
        refine lv_iconst (v := 1) hx hb dX6_climb_178 (by decide) ?_
        exact th_zret S hK hH hS hr hlocks (iv_w (iv_c (by decide) : IV 1 1 1) (by decide)) (th_R.i (iv_w (iv_c (by decide) : IV 1 1 1) (by decide))) dX6_climb_179
      · skip
        have ir8 : IV v83_4 0 1600 := iv_uL iv83_4 ix6 (iv_nle c7) (by decide)
        have ir9 : IV x6 1 1601 := iv_uR iv83_4 ix6 (iv_nle c7) (by decide)
        refine lv_aload_n hx hb dX6_climb_95 rfl (lv_at hl 0 rfl) ?_
        refine th_callVi (n := 0) (As := []) S hK hH hS (th_A.sub (by decide)) (m_X6_kind l D cT T q hq a0 t0) gm_708 gm_705 gm_707 gm_5 gm_115 (by decide +kernel) ⟨rfl, rfl, Nat.le_of_ble_eq_true rfl, Nat.le_of_ble_eq_true rfl⟩ t0 kd_2 rfl rfl hl.1 rfl (Nat.le_of_ble_eq_true rfl) dX6_climb_96 ⟨Nat.zero_le _, Nat.zero_le _⟩ (fun x10 H locs ix10 hH hS hF1 => ?_)
        refine lv_istore (lv' := [(5, .int x10), (0, .ref a0), (1, .int y1), (2, .int y2), (3, .int v83_3), (4, .int v83_4)]) hx hb dX6_climb_99 hl (by decide) rfl (fun ls hl => ?_)
        refine lv_iload hx hb dX6_climb_101 (lv_at hl 0 rfl) ?_
        refine th_callSi (n := 1) (As := [.int x10]) S hK hH hS (th_A.sub (by decide)) (m_X6_levelOf l D cT T q hq (x10) ix10) gm_773 gm_771 gm_772 gm_115 (by decide +kernel) ⟨rfl, rfl, Nat.le_of_ble_eq_true rfl, Nat.le_of_ble_eq_true rfl⟩ rfl hl.1 rfl (Nat.le_of_ble_eq_true rfl) dX6_climb_103 ⟨Nat.zero_le _, Nat.zero_le _⟩ (fun x11 H locs ix11 hH hS hF1 => ?_)
        refine lv_istore (lv' := [(6, .int x11), (5, .int x10), (0, .ref a0), (1, .int y1), (2, .int y2), (3, .int v83_3), (4, .int v83_4)]) hx hb dX6_climb_106 hl (by decide) rfl (fun ls hl => ?_)
        refine lv_iload hx hb dX6_climb_108 (lv_at hl 0 rfl) ?_
        refine lv_iload_n hx hb dX6_climb_110 rfl (lv_at hl 3 rfl) ?_
        refine lv_icmp_lt (tgt := 120) hx hb dX6_climb_111 (by decide) (fun c12 => ?_) (fun c12 => ?_)
        · skip
          exact J120 H locs ls  hH hS (lv_sub hl [] rfl)
        · skip
          have ir13 : IV x11 2 4 := iv_vR j1 ix11 (iv_nlt c12) (by decide)
          have ir14 : IV y1 2 4 := iv_vL j1 ix11 (iv_nlt c12) (by decide)
          refine lv_iload hx hb dX6_climb_114 (lv_at hl 0 rfl) ?_
          refine lv_iload_n hx hb dX6_climb_116 rfl (lv_at hl 5 rfl) ?_
          refine lv_icmp_le (tgt := 122) hx hb dX6_climb_117 (by decide) (fun c15 => ?_) (fun c15 => ?_)
          · skip
            have ir16 : IV v83_3 2 4 := iv_vR ir13 iv83_3 (iv_le c15) (by decide)
            refine lv_aload_n hx hb dX6_climb_122 rfl (lv_at hl 2 rfl) ?_
            refine lv_dup hx hb dX6_climb_123 rfl ?_
            refine th_get S hK hH inG6 t0 kd_2 rfl 2 (by decide) gm_342 rfl rfl dX6_climb_124 (fun v17 hv17 fv17 => ?_)
            obtain ⟨x18, rfl, ix18⟩ := th_V.int hv17
            refine lv_iconst (v := 1) hx hb dX6_climb_127 (by decide) ?_
            refine lv_iadd hx hb dX6_climb_128 ?_
            refine lv_topi (fun x19 ex19 => ?_)
            have ix19 := iv_top x19
            refine th_put S hK hH hS ⟨2, by decide, t0⟩ inG6 tyX6 tyX6_ok nmX6 t0 kd_2 rfl 2 (by decide) gm_342 rfl rfl rfl rfl (th_iv ix19) (fun _ _ => trivial) (ty := .int) (by decide +kernel) rfl rfl dX6_climb_129 (fun H locs hH hS hq1 hp1 => ?_)
            have f20 := hp1.1
            refine lv_aload_n hx hb dX6_climb_132 rfl (lv_at hl 2 rfl) ?_
            refine lv_iload hx hb dX6_climb_133 (lv_at hl 0 rfl) ?_
            refine lv_iconst (v := 1) hx hb dX6_climb_135 (by decide) ?_
            refine lv_iadd hx hb dX6_climb_136 ?_
            refine lv_topi (fun x21 ex21 => ?_)
            have ix21 : IV x21 3 5 := by rw [ex21]; exact iv_add ir13 (iv_c (by decide) : IV 1 1 1) (by decide)
            refine lv_iload_n hx hb dX6_climb_137 rfl (lv_at hl 4 rfl) ?_
            refine th_callVi (n := 2) (As := [.int x21, .int y2]) S hK hH hS (th_A.sub (by decide)) (m_X6_climb_d4l3 l D cT T q hq a0 t0 (x21) ix21 (y2) j2) gm_762 gm_759 gm_761 gm_15 gm_115 (by decide +kernel) ⟨rfl, rfl, Nat.le_of_ble_eq_true rfl, Nat.le_of_ble_eq_true rfl⟩ t0 kd_2 rfl rfl hl.1 rfl (Nat.le_of_ble_eq_true rfl) dX6_climb_138 ⟨Nat.zero_le _, Nat.zero_le _⟩ (fun x22 H locs ix22 hH hS hF1 => ?_)
            refine lv_if_ne (tgt := 146) hx hb dX6_climb_141 (by decide) (fun c23 => ?_) (fun c23 => ?_)
            · skip
              have ir24 : IV x22 1 1 := iv_cutL ix22 (iv_c (by decide) : IV 0 0 0) c23 (by decide)
              refine lv_aload_n hx hb dX6_climb_146 rfl (lv_at hl 2 rfl) ?_
              refine th_get S hK hH inG6 t0 kd_2 rfl 1 (by decide) gm_340 rfl rfl dX6_climb_147 (fun v25 hv25 fv25 => ?_)
              obtain ⟨rf26, rfl, trf26⟩ := th_V.ref hv25
              refine th_get S hK hH inG4 trf26 kd_46 rfl 9 (by decide) gm_269 rfl rfl dX6_climb_150 (fun v27 hv27 fv27 => ?_)
              obtain ⟨rf28, rfl, trf28⟩ := th_V.ref hv27
              refine lv_iload hx hb dX6_climb_153 (lv_at hl 1 rfl) ?_
              refine lv_ineg hx hb dX6_climb_155 ?_
              refine lv_topi (fun x29 ex29 => ?_)
              have ix29 := iv_top x29
              refine th_callVv (n := 1) (As := [.int x29]) S hK hH hS (th_A.sub (by decide)) (m_X2_add l D cT T q hq rf28 trf28 (x29) ix29) gm_766 gm_763 gm_764 gm_765 gm_117 (by decide +kernel) ⟨rfl, rfl, Nat.le_of_ble_eq_true rfl, Nat.le_of_ble_eq_true rfl⟩ trf28 kd_56 rfl rfl hl.1 rfl (Nat.le_of_ble_eq_true rfl) dX6_climb_156 ⟨Nat.zero_le _, Nat.zero_le _⟩ (fun H locs hH hS hF1 => ?_)
              have f30 := fv25.kept (hF1 _ fv25.lt (th_off t0 (by decide)))
              have f31 := fv27.kept (hF1 _ fv27.lt (th_off trf26 (by decide)))
              refine lv_iload hx hb dX6_climb_159 (lv_at hl 0 rfl) ?_
              refine lv_iconst (v := 2) hx hb dX6_climb_161 (by decide) ?_
              refine lv_icmp_ne (tgt := 169) hx hb dX6_climb_162 (by decide) (fun c32 => ?_) (fun c32 => ?_)
              · skip
                have ir33 : IV x11 3 4 := iv_cutL ir13 (iv_c (by decide) : IV 2 2 2) c32 (by decide)
                refine lv_iload hx hb dX6_climb_169 (lv_at hl 0 rfl) ?_
                exact J171 H locs ls x11 ir33 ir8 ir14 hH hS (lv_sub hl [2, 3, 4, 6] rfl)
              · skip
                have ir34 : IV x11 2 2 := iv_eL c32 (iv_c (by decide) : IV 2 2 2)
                refine lv_iconst (v := 1) hx hb dX6_climb_165 (by decide) ?_
                refine lv_goto (tgt := 171) hx hb dX6_climb_166 (by decide) ?_
                exact J171_s0_1 H locs ls ir8 ir14 hH hS (lv_sub hl [2, 3, 4, 6] rfl)
            · skip
              have ir35 : IV x22 0 0 := iv_eL c23 (iv_c (by decide) : IV 0 0 0)
              refine lv_iconst (v := 0) hx hb dX6_climb_144 (by decide) ?_
              exact th_zret S hK hH hS hr hlocks (iv_w (iv_c (by decide) : IV 0 0 0) (by decide)) (th_R.i (iv_w (iv_c (by decide) : IV 0 0 0) (by decide))) dX6_climb_145
          · skip
            have ir36 : IV v83_3 1 3 := iv_uL iv83_3 ir13 (iv_nle c15) (by decide)
            exact J120 H locs ls  hH hS (lv_sub hl [] rfl)
  have J80 : ∀ (H : Heap) (locs : List Loc) (ls : Array Slot) (v80_3 : Int32), IV v80_3 1 4 → th_H D cT T (kd q) H → va_S (th_A T [2, 56, 57]) s.heap H locs → lv_has ls 7 [(0, .ref a0), (1, .int y1), (2, .int y2), (3, .int v80_3)] → W p l e (rmk 26 660) s m [.ref a0, .int y1, .int y2].toArray below meth c H locs 0 0 (MQ below (th_Q D cT T (kd q) (th_R T (some (.inl (0, 1)))) [2, 56, 57]) [.ref a0, .int y1, .int y2].toArray s 0 0 (th_A T [2, 56, 57])) (F0 m 80 ls []) := by
    intro H locs ls v80_3 iv80_3 hH hS hl
    refine lv_iconst (v := 0) hx hb dX6_climb_80 (by decide) ?_
    refine lv_istore (lv' := [(4, .int 0), (0, .ref a0), (1, .int y1), (2, .int y2), (3, .int v80_3)]) hx hb dX6_climb_81 hl (by decide) rfl (fun ls hl => ?_)
    exact J83 ((1601 + 1 - Int32.toInt 0).toNat + 1) H locs ls v80_3 0 iv80_3 (iv_w (iv_c (by decide) : IV 0 0 0) (by decide)) hH hS (lv_sub hl [1, 2, 3, 4, 0] rfl) (Nat.lt_succ_self _)
  have J70 : ∀ (H : Heap) (locs : List Loc) (ls : Array Slot) (v70_3 : Int32), IV v70_3 4 4 → th_H D cT T (kd q) H → va_S (th_A T [2, 56, 57]) s.heap H locs → lv_has ls 7 [(0, .ref a0), (1, .int y1), (2, .int y2), (3, .int v70_3)] → W p l e (rmk 26 660) s m [.ref a0, .int y1, .int y2].toArray below meth c H locs 0 0 (MQ below (th_Q D cT T (kd q) (th_R T (some (.inl (0, 1)))) [2, 56, 57]) [.ref a0, .int y1, .int y2].toArray s 0 0 (th_A T [2, 56, 57])) (F0 m 70 ls []) := by
    intro H locs ls v70_3 iv70_3 hH hS hl
    refine lv_aload_n hx hb dX6_climb_70 rfl (lv_at hl 0 rfl) ?_
    refine lv_iload_n hx hb dX6_climb_71 rfl (lv_at hl 2 rfl) ?_
    refine th_callVi (n := 1) (As := [.int y2]) S hK hH hS (th_A.sub (by decide)) (m_X6_unit_d4 l D cT T q hq a0 t0 (y2) j2) gm_770 gm_767 gm_769 gm_16 gm_115 (by decide +kernel) ⟨rfl, rfl, Nat.le_of_ble_eq_true rfl, Nat.le_of_ble_eq_true rfl⟩ t0 kd_2 rfl rfl hl.1 rfl (Nat.le_of_ble_eq_true rfl) dX6_climb_72 ⟨Nat.zero_le _, Nat.zero_le _⟩ (fun x37 H locs ix37 hH hS hF1 => ?_)
    refine lv_if_ne (tgt := 80) hx hb dX6_climb_75 (by decide) (fun c38 => ?_) (fun c38 => ?_)
    · skip
      have ir39 : IV x37 1 1 := iv_cutL ix37 (iv_c (by decide) : IV 0 0 0) c38 (by decide)
      exact J80 H locs ls v70_3 (iv_w iv70_3 (by decide)) hH hS (lv_sub hl [0, 1, 2, 3] rfl)
    · skip
      have ir40 : IV x37 0 0 := iv_eL c38 (iv_c (by decide) : IV 0 0 0)
      refine lv_iconst (v := 0) hx hb dX6_climb_78 (by decide) ?_
      exact th_zret S hK hH hS hr hlocks (iv_w (iv_c (by decide) : IV 0 0 0) (by decide)) (th_R.i (iv_w (iv_c (by decide) : IV 0 0 0) (by decide))) dX6_climb_79
  have J0 : ∀ (H : Heap) (locs : List Loc) (ls : Array Slot), th_H D cT T (kd q) H → va_S (th_A T [2, 56, 57]) s.heap H locs → lv_has ls 7 [(0, .ref a0), (1, .int y1), (2, .int y2)] → W p l e (rmk 26 660) s m [.ref a0, .int y1, .int y2].toArray below meth c H locs 0 0 (MQ below (th_Q D cT T (kd q) (th_R T (some (.inl (0, 1)))) [2, 56, 57]) [.ref a0, .int y1, .int y2].toArray s 0 0 (th_A T [2, 56, 57])) (F0 m 0 ls []) := by
    intro H locs ls hH hS hl
    refine lv_iconst (v := 4) hx hb dX6_climb_0 (by decide) ?_
    refine lv_istore_n (lv' := [(3, .int 4), (0, .ref a0), (1, .int y1), (2, .int y2)]) hx hb dX6_climb_1 rfl hl (by decide) rfl (fun ls hl => ?_)
    refine lv_aload_n hx hb dX6_climb_2 rfl (lv_at hl 1 rfl) ?_
    refine th_callVi (n := 0) (As := []) S hK hH hS (th_A.sub (by decide)) (m_X6_kind l D cT T q hq a0 t0) gm_708 gm_705 gm_707 gm_5 gm_115 (by decide +kernel) ⟨rfl, rfl, Nat.le_of_ble_eq_true rfl, Nat.le_of_ble_eq_true rfl⟩ t0 kd_2 rfl rfl hl.1 rfl (Nat.le_of_ble_eq_true rfl) dX6_climb_3 ⟨Nat.zero_le _, Nat.zero_le _⟩ (fun x41 H locs ix41 hH hS hF1 => ?_)
    refine lv_sipush (v := 149) hx hb dX6_climb_6 (by decide) ?_
    refine lv_icmp_ne (tgt := 70) hx hb dX6_climb_9 (by decide) (fun c42 => ?_) (fun c42 => ?_)
    · skip
      exact J70 H locs ls 4 (iv_c (by decide) : IV 4 4 4) hH hS (lv_sub hl [1, 2, 3, 0] rfl)
    · skip
      have ir43 : IV x41 149 149 := iv_eL c42 (iv_c (by decide) : IV 149 149 149)
      refine lv_iload_n hx hb dX6_climb_12 rfl (lv_at hl 2 rfl) ?_
      refine lv_iconst (v := 2) hx hb dX6_climb_13 (by decide) ?_
      refine lv_icmp_gt (tgt := 70) hx hb dX6_climb_14 (by decide) (fun c44 => ?_) (fun c44 => ?_)
      · skip
        have ir45 : IV y1 3 5 := iv_uR (iv_c (by decide) : IV 2 2 2) j1 (iv_lt c44) (by decide)
        exact J70 H locs ls 4 (iv_c (by decide) : IV 4 4 4) hH hS (lv_sub hl [1, 2, 3, 0] rfl)
      · skip
        have ir46 : IV y1 2 2 := iv_vL j1 (iv_c (by decide) : IV 2 2 2) (iv_nlt c44) (by decide)
        refine lv_iload_n hx hb dX6_climb_17 rfl (lv_at hl 3 rfl) ?_
        refine lv_bipush (v := 7) hx hb dX6_climb_18 (by decide) ?_
        refine lv_icmp_lt (tgt := 29) hx hb dX6_climb_20 (by decide) (fun c47 => ?_) (fun c47 => ?_)
        · skip
          refine lv_aload_n hx hb dX6_climb_29 rfl (lv_at hl 1 rfl) ?_
          refine lv_dup hx hb dX6_climb_30 rfl ?_
          refine th_get S hK hH inG6 t0 kd_2 rfl 2 (by decide) gm_342 rfl rfl dX6_climb_31 (fun v48 hv48 fv48 => ?_)
          obtain ⟨x49, rfl, ix49⟩ := th_V.int hv48
          refine lv_iconst (v := 1) hx hb dX6_climb_34 (by decide) ?_
          refine lv_iadd hx hb dX6_climb_35 ?_
          refine lv_topi (fun x50 ex50 => ?_)
          have ix50 := iv_top x50
          refine th_put S hK hH hS ⟨2, by decide, t0⟩ inG6 tyX6 tyX6_ok nmX6 t0 kd_2 rfl 2 (by decide) gm_342 rfl rfl rfl rfl (th_iv ix50) (fun _ _ => trivial) (ty := .int) (by decide +kernel) rfl rfl dX6_climb_36 (fun H locs hH hS hq1 hp1 => ?_)
          have f51 := hp1.1
          refine lv_aload_n hx hb dX6_climb_39 rfl (lv_at hl 1 rfl) ?_
          refine lv_iconst (v := 2) hx hb dX6_climb_40 (by decide) ?_
          refine lv_iload_n hx hb dX6_climb_41 rfl (lv_at hl 3 rfl) ?_
          refine lv_iconst (v := 1) hx hb dX6_climb_42 (by decide) ?_
          refine lv_iadd hx hb dX6_climb_43 ?_
          refine lv_topi (fun x52 ex52 => ?_)
          have ix52 : IV x52 5 5 := by rw [ex52]; exact iv_add j2 (iv_c (by decide) : IV 1 1 1) (by decide)
          refine th_callVi (n := 2) (As := [.int 2, .int x52]) S hK hH hS (th_A.sub (by decide)) (m_X6_climb_d5l2 l D cT T q hq a0 t0 (2) (iv_w (iv_c (by decide) : IV 2 2 2) (by decide)) (x52) ix52) gm_762 gm_759 gm_761 gm_15 gm_115 (by decide +kernel) ⟨rfl, rfl, Nat.le_of_ble_eq_true rfl, Nat.le_of_ble_eq_true rfl⟩ t0 kd_2 rfl rfl hl.1 rfl (Nat.le_of_ble_eq_true rfl) dX6_climb_44 ⟨Nat.zero_le _, Nat.zero_le _⟩ (fun x53 H locs ix53 hH hS hF1 => ?_)
          refine lv_if_ne (tgt := 52) hx hb dX6_climb_47 (by decide) (fun c54 => ?_) (fun c54 => ?_)
          · skip
            have ir55 : IV x53 1 1 := iv_cutL ix53 (iv_c (by decide) : IV 0 0 0) c54 (by decide)
            refine lv_aload_n hx hb dX6_climb_52 rfl (lv_at hl 1 rfl) ?_
            refine th_get S hK hH inG6 t0 kd_2 rfl 1 (by decide) gm_340 rfl rfl dX6_climb_53 (fun v56 hv56 fv56 => ?_)
            obtain ⟨rf57, rfl, trf57⟩ := th_V.ref hv56
            refine th_get S hK hH inG4 trf57 kd_46 rfl 9 (by decide) gm_269 rfl rfl dX6_climb_56 (fun v58 hv58 fv58 => ?_)
            obtain ⟨rf59, rfl, trf59⟩ := th_V.ref hv58
            refine lv_sipush (v := (-149)) hx hb dX6_climb_59 (by decide) ?_
            refine th_callVv (n := 1) (As := [.int (-149)]) S hK hH hS (th_A.sub (by decide)) (m_X2_add l D cT T q hq rf59 trf59 ((-149)) (iv_top _)) gm_766 gm_763 gm_764 gm_765 gm_117 (by decide +kernel) ⟨rfl, rfl, Nat.le_of_ble_eq_true rfl, Nat.le_of_ble_eq_true rfl⟩ trf59 kd_56 rfl rfl hl.1 rfl (Nat.le_of_ble_eq_true rfl) dX6_climb_62 ⟨Nat.zero_le _, Nat.zero_le _⟩ (fun H locs hH hS hF1 => ?_)
            have f60 := fv56.kept (hF1 _ fv56.lt (th_off t0 (by decide)))
            have f61 := fv58.kept (hF1 _ fv58.lt (th_off trf57 (by decide)))
            refine lv_iconst (v := 1) hx hb dX6_climb_65 (by decide) ?_
            refine lv_istore_n (lv' := [(3, .int 1), (0, .ref a0), (1, .int y1), (2, .int y2)]) hx hb dX6_climb_66 rfl hl (by decide) rfl (fun ls hl => ?_)
            refine lv_goto (tgt := 80) hx hb dX6_climb_67 (by decide) ?_
            exact J80 H locs ls 1 (iv_w (iv_c (by decide) : IV 1 1 1) (by decide)) hH hS (lv_sub hl [1, 2, 3, 0] rfl)
          · skip
            have ir62 : IV x53 0 0 := iv_eL c54 (iv_c (by decide) : IV 0 0 0)
            refine lv_iconst (v := 0) hx hb dX6_climb_50 (by decide) ?_
            exact th_zret S hK hH hS hr hlocks (iv_w (iv_c (by decide) : IV 0 0 0) (by decide)) (th_R.i (iv_w (iv_c (by decide) : IV 0 0 0) (by decide))) dX6_climb_51
        · skip
          exfalso
          have z1 := iv_nlt c47
          have z2 := (j2).1
          have z3 := (j2).2
          have z4 := ((iv_c (by decide) : IV 7 7 7)).1
          have z5 := ((iv_c (by decide) : IV 7 7 7)).2
          omega
  exact J0 s.heap [] ls hH va_S.rf hl
