set_option maxHeartbeats 4000000 in
set_option maxRecDepth 100000 in
theorem k_X7_init_k10 (l : Launch) (D : va_G) (cT : Nat → ClassId) (T : Nat → Option Nat) (a sz : Nat) : th_MetC l D cT T (kd qz) [0, 2, 3, 4, 5, 7, 8, 46] yX7_init cX7_init 1 (rmc 1 1 43 12) 7 [.null] [] a sz 10 [29] 1 43 := by
  refine th_startC (by decide) (Nat.le_of_ble_eq_true rfl) ⟨rfl, rfl⟩ ?_
  intro p e s m below meth c ls S hK hO hH0 hsz hn hR0 hr hlocks hnm hl
  have hx := S.1; have hb := S.2.1
  have hown := S.2.2.2.1; have hts := S.2.2.2.2
  have hA : ∀ q, s.heap.size ≤ q → th_cA a sz q := fun q h => Or.inr (by omega)
  have gr0 : th_grow [0, 2, 3, 4, 5, 7, 8, 46] T T sz [] := th_grow.rf (fun b hb => hH0.free (by omega))
  have hl : lv_has ls 1 [(0, .ref a)] := hl
  have hla0 : a < sz := by have := hR0.lt; have h2 : a < s.heap.size := this; omega
  suffices main : ∀ (H : Heap) (locs : List Loc), th_H D cT T (kd qz) H → va_at D classes (a, .inr (7, [.null])) H → va_S (th_cA a sz) s.heap H locs → sz ≤ H.size → W p l e (rmc 1 1 43 12) s m [.ref a].toArray below meth c H locs 0 0 (MQ below (th_QC D cT T (kd qz) [0, 2, 3, 4, 5, 7, 8, 46] a 10 sz [29]) [.ref a].toArray s 1 43 (th_cA a sz)) (F0 m 0 ls []) from main s.heap [] hH0 hR0 va_S.rf (by omega)
  intro H locs hH hR hS hsz0
  refine lv_aload_n hx hb dX7_init_0 rfl (lv_at hl 0 rfl) ?_
  refine W.objInit hx hb hown (hts _ gm_224) (hts _ gm_140) (hts _ gm_141) rfl (hl.1.trans S.2.2.1.symm) rfl dX7_init_1 (Nat.le_of_ble_eq_true rfl) (Nat.le_of_ble_eq_true rfl) ?_
  refine W.eq (g2 := F0 m 4 ls []) rfl ?_
  refine lv_aload_n hx hb dX7_init_4 rfl (lv_at hl 0 rfl) ?_
  refine lv_bipush (v := 43) hx hb dX7_init_5 (by decide) ?_
  refine th_newa (atype := .int) (t := 0) (N := 43) S hK hH hS 29 gm_174 rfl kd_29 (fun T2 j hj => ⟨0, rfl, by decide, by decide⟩) (by decide) (by decide) (by decide) (by decide) (by decide) dX7_init_7 (fun h1 H eh1 hH nh1 hS zh1 kh1 => ?_)
  have neh1 : a ≠ h1 := by omega
  have hR : va_at D classes (a, .inr (7, [.null])) H := hR.kept (kh1 a (by omega))
  have hsz0 : sz ≤ H.size := by omega
  obtain ⟨T2, eT2⟩ : ∃ t, t = th_new T h1 29 := ⟨_, rfl⟩
  rw [← eT2] at hH
  have mo3 : ∀ b j, T b = some j → T2 b = some j := by rw [eT2]; exact th_new_sub nh1
  have gr4 : th_grow [0, 2, 3, 4, 5, 7, 8, 46] T T2 sz [29] := by rw [eT2]; exact gr0.new (by omega) (by decide)
  have fh1 : T2 h1 = some 29 := by rw [eT2]; exact th_new_self
  have hn : T2 a = none := by rw [eT2]; exact (th_new_ne neh1).trans hn
  refine th_putRF (ty := .array .int) (v := .ref h1) S hK hH hS (Or.inl rfl) hn hR inG7 tyX7 tyX7_ok nmX7 rfl 0 (by decide) gm_225 rfl rfl hnm rfl (by decide +kernel) rfl rfl (Nat.le_of_ble_eq_true rfl) dX7_init_9 (fun H locs hR hH hS zp kp => ?_)
  have hR : va_at D classes (a, .inr (7, [.ref h1])) H := hR
  have hsz0 : sz ≤ H.size := by omega
  have ho : th_Ol (th_new T2 a 10) [.inr 30] [.ref h1] := (th_Ol.cons (⟨h1, rfl, th_new_sub hn _ _ fh1⟩) th_Ol.nil)
  have hH := th_type (k := 10) (ci := 7) hH hn hR kd_10 ⟨ho.1, ho.2, trivial⟩
  refine W.widen (k := 1) (n := 43) (by decide) (by decide) ?_
  exact th_vretC S hK hH hS hr hlocks ((gr4.sub (by decide)).fin) dX7_init_12

set_option maxHeartbeats 4000000 in
set_option maxRecDepth 100000 in
theorem k_X8_init_k1 (l : Launch) (D : va_G) (cT : Nat → ClassId) (T : Nat → Option Nat) (a sz : Nat) : th_MetC l D cT T (kd qz) [0, 2, 3, 4, 5, 7, 8, 46] yX8_init cX8_init 1 (rmc 1 4 6403 12) 8 [.null, .null, .null, .null, .int 0, .int 0] [] a sz 1 [14, 13, 12, 11] 4 6403 := by
  refine th_startC (by decide) (Nat.le_of_ble_eq_true rfl) ⟨rfl, rfl⟩ ?_
  intro p e s m below meth c ls S hK hO hH0 hsz hn hR0 hr hlocks hnm hl
  have hx := S.1; have hb := S.2.1
  have hown := S.2.2.2.1; have hts := S.2.2.2.2
  have hA : ∀ q, s.heap.size ≤ q → th_cA a sz q := fun q h => Or.inr (by omega)
  have gr0 : th_grow [0, 2, 3, 4, 5, 7, 8, 46] T T sz [] := th_grow.rf (fun b hb => hH0.free (by omega))
  have hl : lv_has ls 1 [(0, .ref a)] := hl
  have hla0 : a < sz := by have := hR0.lt; have h2 : a < s.heap.size := this; omega
  suffices main : ∀ (H : Heap) (locs : List Loc), th_H D cT T (kd qz) H → va_at D classes (a, .inr (8, [.null, .null, .null, .null, .int 0, .int 0])) H → va_S (th_cA a sz) s.heap H locs → sz ≤ H.size → W p l e (rmc 1 4 6403 12) s m [.ref a].toArray below meth c H locs 0 0 (MQ below (th_QC D cT T (kd qz) [0, 2, 3, 4, 5, 7, 8, 46] a 1 sz [14, 13, 12, 11]) [.ref a].toArray s 4 6403 (th_cA a sz)) (F0 m 0 ls []) from main s.heap [] hH0 hR0 va_S.rf (by omega)
  intro H locs hH hR hS hsz0
  refine lv_aload_n hx hb dX8_init_0 rfl (lv_at hl 0 rfl) ?_
  refine W.objInit hx hb hown (hts _ gm_147) (hts _ gm_140) (hts _ gm_141) rfl (hl.1.trans S.2.2.1.symm) rfl dX8_init_1 (Nat.le_of_ble_eq_true rfl) (Nat.le_of_ble_eq_true rfl) ?_
  refine W.eq (g2 := F0 m 4 ls []) rfl ?_
  refine lv_aload_n hx hb dX8_init_4 rfl (lv_at hl 0 rfl) ?_
  refine lv_sipush (v := 1600) hx hb dX8_init_5 (by decide) ?_
  refine th_newa (atype := .byte) (t := 1) (N := 1600) S hK hH hS 11 gm_173 rfl kd_11 (fun T2 j hj => ⟨0, rfl, by decide, by decide⟩) (by decide) (by decide) (by decide) (by decide) (by decide) dX8_init_8 (fun h1 H eh1 hH nh1 hS zh1 kh1 => ?_)
  have neh1 : a ≠ h1 := by omega
  have hR : va_at D classes (a, .inr (8, [.null, .null, .null, .null, .int 0, .int 0])) H := hR.kept (kh1 a (by omega))
  have hsz0 : sz ≤ H.size := by omega
  obtain ⟨T2, eT2⟩ : ∃ t, t = th_new T h1 11 := ⟨_, rfl⟩
  rw [← eT2] at hH
  have mo3 : ∀ b j, T b = some j → T2 b = some j := by rw [eT2]; exact th_new_sub nh1
  have gr4 : th_grow [0, 2, 3, 4, 5, 7, 8, 46] T T2 sz [11] := by rw [eT2]; exact gr0.new (by omega) (by decide)
  have fh1 : T2 h1 = some 11 := by rw [eT2]; exact th_new_self
  have hn : T2 a = none := by rw [eT2]; exact (th_new_ne neh1).trans hn
  refine th_putRF (ty := .array .byte) (v := .ref h1) S hK hH hS (Or.inl rfl) hn hR inG8 tyX8 tyX8_ok nmX8 rfl 0 (by decide) gm_148 rfl rfl hnm rfl (by decide +kernel) rfl rfl (Nat.le_of_ble_eq_true rfl) dX8_init_10 (fun H locs hR hH hS zp kp => ?_)
  have hR : va_at D classes (a, .inr (8, [.ref h1, .null, .null, .null, .int 0, .int 0])) H := hR
  have hsz0 : sz ≤ H.size := by omega
  refine lv_aload_n hx hb dX8_init_13 rfl (lv_at hl 0 rfl) ?_
  refine lv_sipush (v := 1601) hx hb dX8_init_14 (by decide) ?_
  refine th_newa (atype := .int) (t := 0) (N := 1601) S hK hH hS 12 gm_174 rfl kd_12 (fun T2 j hj => ⟨0, rfl, by decide, by decide⟩) (by decide) (by decide) (by decide) (by decide) (by decide) dX8_init_17 (fun h5 H eh5 hH nh5 hS zh5 kh5 => ?_)
  have neh5 : a ≠ h5 := by omega
  have hR : va_at D classes (a, .inr (8, [.ref h1, .null, .null, .null, .int 0, .int 0])) H := hR.kept (kh5 a (by omega))
  have hsz0 : sz ≤ H.size := by omega
  obtain ⟨T6, eT6⟩ : ∃ t, t = th_new T2 h5 12 := ⟨_, rfl⟩
  rw [← eT6] at hH
  have mo7 : ∀ b j, T2 b = some j → T6 b = some j := by rw [eT6]; exact th_new_sub nh5
  have gr8 : th_grow [0, 2, 3, 4, 5, 7, 8, 46] T T6 sz [12, 11] := by rw [eT6]; exact gr4.new (by omega) (by decide)
  have fh5 : T6 h5 = some 12 := by rw [eT6]; exact th_new_self
  have hn : T6 a = none := by rw [eT6]; exact (th_new_ne neh5).trans hn
  refine th_putRF (ty := .array .int) (v := .ref h5) S hK hH hS (Or.inl rfl) hn hR inG8 tyX8 tyX8_ok nmX8 rfl 1 (by decide) gm_149 rfl rfl hnm rfl (by decide +kernel) rfl rfl (Nat.le_of_ble_eq_true rfl) dX8_init_19 (fun H locs hR hH hS zp kp => ?_)
  have hR : va_at D classes (a, .inr (8, [.ref h1, .ref h5, .null, .null, .int 0, .int 0])) H := hR
  have hsz0 : sz ≤ H.size := by omega
  refine lv_aload_n hx hb dX8_init_22 rfl (lv_at hl 0 rfl) ?_
  refine lv_sipush (v := 1601) hx hb dX8_init_23 (by decide) ?_
  refine th_newa (atype := .int) (t := 0) (N := 1601) S hK hH hS 13 gm_174 rfl kd_13 (fun T2 j hj => ⟨0, rfl, by decide, by decide⟩) (by decide) (by decide) (by decide) (by decide) (by decide) dX8_init_26 (fun h9 H eh9 hH nh9 hS zh9 kh9 => ?_)
  have neh9 : a ≠ h9 := by omega
  have hR : va_at D classes (a, .inr (8, [.ref h1, .ref h5, .null, .null, .int 0, .int 0])) H := hR.kept (kh9 a (by omega))
  have hsz0 : sz ≤ H.size := by omega
  obtain ⟨T10, eT10⟩ : ∃ t, t = th_new T6 h9 13 := ⟨_, rfl⟩
  rw [← eT10] at hH
  have mo11 : ∀ b j, T6 b = some j → T10 b = some j := by rw [eT10]; exact th_new_sub nh9
  have gr12 : th_grow [0, 2, 3, 4, 5, 7, 8, 46] T T10 sz [13, 12, 11] := by rw [eT10]; exact gr8.new (by omega) (by decide)
  have fh9 : T10 h9 = some 13 := by rw [eT10]; exact th_new_self
  have hn : T10 a = none := by rw [eT10]; exact (th_new_ne neh9).trans hn
  refine th_putRF (ty := .array .int) (v := .ref h9) S hK hH hS (Or.inl rfl) hn hR inG8 tyX8 tyX8_ok nmX8 rfl 2 (by decide) gm_151 rfl rfl hnm rfl (by decide +kernel) rfl rfl (Nat.le_of_ble_eq_true rfl) dX8_init_28 (fun H locs hR hH hS zp kp => ?_)
  have hR : va_at D classes (a, .inr (8, [.ref h1, .ref h5, .ref h9, .null, .int 0, .int 0])) H := hR
  have hsz0 : sz ≤ H.size := by omega
  refine lv_aload_n hx hb dX8_init_31 rfl (lv_at hl 0 rfl) ?_
  refine lv_sipush (v := 1601) hx hb dX8_init_32 (by decide) ?_
  refine th_newa (atype := .long) (t := 2) (N := 1601) S hK hH hS 14 gm_175 rfl kd_14 (fun T2 j hj => ⟨0, rfl⟩) (by decide) (by decide) (by decide) (by decide) (by decide) dX8_init_35 (fun h13 H eh13 hH nh13 hS zh13 kh13 => ?_)
  have neh13 : a ≠ h13 := by omega
  have hR : va_at D classes (a, .inr (8, [.ref h1, .ref h5, .ref h9, .null, .int 0, .int 0])) H := hR.kept (kh13 a (by omega))
  have hsz0 : sz ≤ H.size := by omega
  obtain ⟨T14, eT14⟩ : ∃ t, t = th_new T10 h13 14 := ⟨_, rfl⟩
  rw [← eT14] at hH
  have mo15 : ∀ b j, T10 b = some j → T14 b = some j := by rw [eT14]; exact th_new_sub nh13
  have gr16 : th_grow [0, 2, 3, 4, 5, 7, 8, 46] T T14 sz [14, 13, 12, 11] := by rw [eT14]; exact gr12.new (by omega) (by decide)
  have fh13 : T14 h13 = some 14 := by rw [eT14]; exact th_new_self
  have hn : T14 a = none := by rw [eT14]; exact (th_new_ne neh13).trans hn
  refine th_putRF (ty := .array .long) (v := .ref h13) S hK hH hS (Or.inl rfl) hn hR inG8 tyX8 tyX8_ok nmX8 rfl 3 (by decide) gm_153 rfl rfl hnm rfl (by decide +kernel) rfl rfl (Nat.le_of_ble_eq_true rfl) dX8_init_37 (fun H locs hR hH hS zp kp => ?_)
  have hR : va_at D classes (a, .inr (8, [.ref h1, .ref h5, .ref h9, .ref h13, .int 0, .int 0])) H := hR
  have hsz0 : sz ≤ H.size := by omega
  refine lv_aload_n hx hb dX8_init_40 rfl (lv_at hl 0 rfl) ?_
  refine lv_iconst (v := 0) hx hb dX8_init_41 (by decide) ?_
  refine th_putR (ty := .int) (v := .int 0) S hK hH hS (Or.inl rfl) hn hR inG8 tyX8 tyX8_ok nmX8 rfl 4 (by decide) gm_155 rfl rfl (by decide +kernel) rfl rfl (Nat.le_of_ble_eq_true rfl) dX8_init_42 (fun H locs hR hH hS zp kp => ?_)
  have hR : va_at D classes (a, .inr (8, [.ref h1, .ref h5, .ref h9, .ref h13, .int 0, .int 0])) H := hR
  have hsz0 : sz ≤ H.size := by omega
  refine lv_aload_n hx hb dX8_init_45 rfl (lv_at hl 0 rfl) ?_
  refine lv_iconst (v := 0) hx hb dX8_init_46 (by decide) ?_
  refine th_putR (ty := .int) (v := .int 0) S hK hH hS (Or.inl rfl) hn hR inG8 tyX8 tyX8_ok nmX8 rfl 5 (by decide) gm_158 rfl rfl (by decide +kernel) rfl rfl (Nat.le_of_ble_eq_true rfl) dX8_init_47 (fun H locs hR hH hS zp kp => ?_)
  have hR : va_at D classes (a, .inr (8, [.ref h1, .ref h5, .ref h9, .ref h13, .int 0, .int 0])) H := hR
  have hsz0 : sz ≤ H.size := by omega
  have ho : th_Ol (th_new T14 a 1) [.inr 12, .inr 13, .inr 14, .inr 15, .inl (0, 1600), .inl (0, 1601)] [.ref h1, .ref h5, .ref h9, .ref h13, .int 0, .int 0] := (th_Ol.cons (⟨h1, rfl, th_new_sub hn _ _ (mo15 _ _ (mo11 _ _ (mo7 _ _ fh1)))⟩) (th_Ol.cons (⟨h5, rfl, th_new_sub hn _ _ (mo15 _ _ (mo11 _ _ fh5))⟩) (th_Ol.cons (⟨h9, rfl, th_new_sub hn _ _ (mo15 _ _ fh9)⟩) (th_Ol.cons (⟨h13, rfl, th_new_sub hn _ _ fh13⟩) (th_Ol.cons (⟨_, rfl, by decide, by decide⟩) (th_Ol.cons (⟨_, rfl, by decide, by decide⟩) th_Ol.nil))))))
  have hH := th_type (k := 1) (ci := 8) hH hn hR kd_1 ⟨ho.1, ho.2, trivial⟩
  refine W.widen (k := 4) (n := 6403) (by decide) (by decide) ?_
  exact th_vretC S hK hH hS hr hlocks ((gr16.sub (by decide)).fin) dX8_init_50

set_option maxHeartbeats 4000000 in
set_option maxRecDepth 100000 in
theorem k_X2_init_k9 (l : Launch) (D : va_G) (cT : Nat → ClassId) (T : Nat → Option Nat) (a sz : Nat) : th_MetC l D cT T (kd qz) [0, 2, 3, 4, 5, 7, 8, 46] yX2_init cX2_init 1 (rmc 1 5 1681 12) 2 [.null, .null, .null, .null, .null, .int 0, .int 0] [] a sz 9 [19, 18, 17, 16, 15] 5 1681 := by
  refine th_startC (by decide) (Nat.le_of_ble_eq_true rfl) ⟨rfl, rfl⟩ ?_
  intro p e s m below meth c ls S hK hO hH0 hsz hn hR0 hr hlocks hnm hl
  have hx := S.1; have hb := S.2.1
  have hown := S.2.2.2.1; have hts := S.2.2.2.2
  have hA : ∀ q, s.heap.size ≤ q → th_cA a sz q := fun q h => Or.inr (by omega)
  have gr0 : th_grow [0, 2, 3, 4, 5, 7, 8, 46] T T sz [] := th_grow.rf (fun b hb => hH0.free (by omega))
  have hl : lv_has ls 1 [(0, .ref a)] := hl
  have hla0 : a < sz := by have := hR0.lt; have h2 : a < s.heap.size := this; omega
  suffices main : ∀ (H : Heap) (locs : List Loc), th_H D cT T (kd qz) H → va_at D classes (a, .inr (2, [.null, .null, .null, .null, .null, .int 0, .int 0])) H → va_S (th_cA a sz) s.heap H locs → sz ≤ H.size → W p l e (rmc 1 5 1681 12) s m [.ref a].toArray below meth c H locs 0 0 (MQ below (th_QC D cT T (kd qz) [0, 2, 3, 4, 5, 7, 8, 46] a 9 sz [19, 18, 17, 16, 15]) [.ref a].toArray s 5 1681 (th_cA a sz)) (F0 m 0 ls []) from main s.heap [] hH0 hR0 va_S.rf (by omega)
  intro H locs hH hR hS hsz0
  refine lv_aload_n hx hb dX2_init_0 rfl (lv_at hl 0 rfl) ?_
  refine W.objInit hx hb hown (hts _ gm_193) (hts _ gm_140) (hts _ gm_141) rfl (hl.1.trans S.2.2.1.symm) rfl dX2_init_1 (Nat.le_of_ble_eq_true rfl) (Nat.le_of_ble_eq_true rfl) ?_
  refine W.eq (g2 := F0 m 4 ls []) rfl ?_
  refine lv_aload_n hx hb dX2_init_4 rfl (lv_at hl 0 rfl) ?_
  refine lv_sipush (v := 1600) hx hb dX2_init_5 (by decide) ?_
  refine th_newa (atype := .int) (t := 0) (N := 1600) S hK hH hS 15 gm_174 rfl kd_15 (fun T2 j hj => ⟨0, rfl, by decide, by decide⟩) (by decide) (by decide) (by decide) (by decide) (by decide) dX2_init_8 (fun h1 H eh1 hH nh1 hS zh1 kh1 => ?_)
  have neh1 : a ≠ h1 := by omega
  have hR : va_at D classes (a, .inr (2, [.null, .null, .null, .null, .null, .int 0, .int 0])) H := hR.kept (kh1 a (by omega))
  have hsz0 : sz ≤ H.size := by omega
  obtain ⟨T2, eT2⟩ : ∃ t, t = th_new T h1 15 := ⟨_, rfl⟩
  rw [← eT2] at hH
  have mo3 : ∀ b j, T b = some j → T2 b = some j := by rw [eT2]; exact th_new_sub nh1
  have gr4 : th_grow [0, 2, 3, 4, 5, 7, 8, 46] T T2 sz [15] := by rw [eT2]; exact gr0.new (by omega) (by decide)
  have fh1 : T2 h1 = some 15 := by rw [eT2]; exact th_new_self
  have hn : T2 a = none := by rw [eT2]; exact (th_new_ne neh1).trans hn
  refine th_putRF (ty := .array .int) (v := .ref h1) S hK hH hS (Or.inl rfl) hn hR inG2 tyX2 tyX2_ok nmX2 rfl 0 (by decide) gm_194 rfl rfl hnm rfl (by decide +kernel) rfl rfl (Nat.le_of_ble_eq_true rfl) dX2_init_10 (fun H locs hR hH hS zp kp => ?_)
  have hR : va_at D classes (a, .inr (2, [.ref h1, .null, .null, .null, .null, .int 0, .int 0])) H := hR
  have hsz0 : sz ≤ H.size := by omega
  refine lv_aload_n hx hb dX2_init_13 rfl (lv_at hl 0 rfl) ?_
  refine lv_iconst (v := 5) hx hb dX2_init_14 (by decide) ?_
  refine th_newa (atype := .int) (t := 0) (N := 5) S hK hH hS 16 gm_174 rfl kd_16 (fun T2 j hj => ⟨0, rfl, by decide, by decide⟩) (by decide) (by decide) (by decide) (by decide) (by decide) dX2_init_15 (fun h5 H eh5 hH nh5 hS zh5 kh5 => ?_)
  have neh5 : a ≠ h5 := by omega
  have hR : va_at D classes (a, .inr (2, [.ref h1, .null, .null, .null, .null, .int 0, .int 0])) H := hR.kept (kh5 a (by omega))
  have hsz0 : sz ≤ H.size := by omega
  obtain ⟨T6, eT6⟩ : ∃ t, t = th_new T2 h5 16 := ⟨_, rfl⟩
  rw [← eT6] at hH
  have mo7 : ∀ b j, T2 b = some j → T6 b = some j := by rw [eT6]; exact th_new_sub nh5
  have gr8 : th_grow [0, 2, 3, 4, 5, 7, 8, 46] T T6 sz [16, 15] := by rw [eT6]; exact gr4.new (by omega) (by decide)
  have fh5 : T6 h5 = some 16 := by rw [eT6]; exact th_new_self
  have hn : T6 a = none := by rw [eT6]; exact (th_new_ne neh5).trans hn
  refine th_putRF (ty := .array .int) (v := .ref h5) S hK hH hS (Or.inl rfl) hn hR inG2 tyX2 tyX2_ok nmX2 rfl 1 (by decide) gm_195 rfl rfl hnm rfl (by decide +kernel) rfl rfl (Nat.le_of_ble_eq_true rfl) dX2_init_17 (fun H locs hR hH hS zp kp => ?_)
  have hR : va_at D classes (a, .inr (2, [.ref h1, .ref h5, .null, .null, .null, .int 0, .int 0])) H := hR
  have hsz0 : sz ≤ H.size := by omega
  refine lv_aload_n hx hb dX2_init_20 rfl (lv_at hl 0 rfl) ?_
  refine lv_iconst (v := 5) hx hb dX2_init_21 (by decide) ?_
  refine th_newa (atype := .int) (t := 0) (N := 5) S hK hH hS 17 gm_174 rfl kd_17 (fun T2 j hj => ⟨0, rfl, by decide, by decide⟩) (by decide) (by decide) (by decide) (by decide) (by decide) dX2_init_22 (fun h9 H eh9 hH nh9 hS zh9 kh9 => ?_)
  have neh9 : a ≠ h9 := by omega
  have hR : va_at D classes (a, .inr (2, [.ref h1, .ref h5, .null, .null, .null, .int 0, .int 0])) H := hR.kept (kh9 a (by omega))
  have hsz0 : sz ≤ H.size := by omega
  obtain ⟨T10, eT10⟩ : ∃ t, t = th_new T6 h9 17 := ⟨_, rfl⟩
  rw [← eT10] at hH
  have mo11 : ∀ b j, T6 b = some j → T10 b = some j := by rw [eT10]; exact th_new_sub nh9
  have gr12 : th_grow [0, 2, 3, 4, 5, 7, 8, 46] T T10 sz [17, 16, 15] := by rw [eT10]; exact gr8.new (by omega) (by decide)
  have fh9 : T10 h9 = some 17 := by rw [eT10]; exact th_new_self
  have hn : T10 a = none := by rw [eT10]; exact (th_new_ne neh9).trans hn
  refine th_putRF (ty := .array .int) (v := .ref h9) S hK hH hS (Or.inl rfl) hn hR inG2 tyX2 tyX2_ok nmX2 rfl 2 (by decide) gm_196 rfl rfl hnm rfl (by decide +kernel) rfl rfl (Nat.le_of_ble_eq_true rfl) dX2_init_24 (fun H locs hR hH hS zp kp => ?_)
  have hR : va_at D classes (a, .inr (2, [.ref h1, .ref h5, .ref h9, .null, .null, .int 0, .int 0])) H := hR
  have hsz0 : sz ≤ H.size := by omega
  refine lv_aload_n hx hb dX2_init_27 rfl (lv_at hl 0 rfl) ?_
  refine lv_bipush (v := 7) hx hb dX2_init_28 (by decide) ?_
  refine th_newa (atype := .int) (t := 0) (N := 7) S hK hH hS 18 gm_174 rfl kd_18 (fun T2 j hj => ⟨0, rfl, by decide, by decide⟩) (by decide) (by decide) (by decide) (by decide) (by decide) dX2_init_30 (fun h13 H eh13 hH nh13 hS zh13 kh13 => ?_)
  have neh13 : a ≠ h13 := by omega
  have hR : va_at D classes (a, .inr (2, [.ref h1, .ref h5, .ref h9, .null, .null, .int 0, .int 0])) H := hR.kept (kh13 a (by omega))
  have hsz0 : sz ≤ H.size := by omega
  obtain ⟨T14, eT14⟩ : ∃ t, t = th_new T10 h13 18 := ⟨_, rfl⟩
  rw [← eT14] at hH
  have mo15 : ∀ b j, T10 b = some j → T14 b = some j := by rw [eT14]; exact th_new_sub nh13
  have gr16 : th_grow [0, 2, 3, 4, 5, 7, 8, 46] T T14 sz [18, 17, 16, 15] := by rw [eT14]; exact gr12.new (by omega) (by decide)
  have fh13 : T14 h13 = some 18 := by rw [eT14]; exact th_new_self
  have hn : T14 a = none := by rw [eT14]; exact (th_new_ne neh13).trans hn
  refine th_putRF (ty := .array .int) (v := .ref h13) S hK hH hS (Or.inl rfl) hn hR inG2 tyX2 tyX2_ok nmX2 rfl 3 (by decide) gm_197 rfl rfl hnm rfl (by decide +kernel) rfl rfl (Nat.le_of_ble_eq_true rfl) dX2_init_32 (fun H locs hR hH hS zp kp => ?_)
  have hR : va_at D classes (a, .inr (2, [.ref h1, .ref h5, .ref h9, .ref h13, .null, .int 0, .int 0])) H := hR
  have hsz0 : sz ≤ H.size := by omega
  refine lv_aload_n hx hb dX2_init_35 rfl (lv_at hl 0 rfl) ?_
  refine lv_bipush (v := 64) hx hb dX2_init_36 (by decide) ?_
  refine th_newa (atype := .int) (t := 0) (N := 64) S hK hH hS 19 gm_174 rfl kd_19 (fun T2 j hj => ⟨0, rfl, by decide, by decide⟩) (by decide) (by decide) (by decide) (by decide) (by decide) dX2_init_38 (fun h17 H eh17 hH nh17 hS zh17 kh17 => ?_)
  have neh17 : a ≠ h17 := by omega
  have hR : va_at D classes (a, .inr (2, [.ref h1, .ref h5, .ref h9, .ref h13, .null, .int 0, .int 0])) H := hR.kept (kh17 a (by omega))
  have hsz0 : sz ≤ H.size := by omega
  obtain ⟨T18, eT18⟩ : ∃ t, t = th_new T14 h17 19 := ⟨_, rfl⟩
  rw [← eT18] at hH
  have mo19 : ∀ b j, T14 b = some j → T18 b = some j := by rw [eT18]; exact th_new_sub nh17
  have gr20 : th_grow [0, 2, 3, 4, 5, 7, 8, 46] T T18 sz [19, 18, 17, 16, 15] := by rw [eT18]; exact gr16.new (by omega) (by decide)
  have fh17 : T18 h17 = some 19 := by rw [eT18]; exact th_new_self
  have hn : T18 a = none := by rw [eT18]; exact (th_new_ne neh17).trans hn
  refine th_putRF (ty := .array .int) (v := .ref h17) S hK hH hS (Or.inl rfl) hn hR inG2 tyX2 tyX2_ok nmX2 rfl 4 (by decide) gm_199 rfl rfl hnm rfl (by decide +kernel) rfl rfl (Nat.le_of_ble_eq_true rfl) dX2_init_40 (fun H locs hR hH hS zp kp => ?_)
  have hR : va_at D classes (a, .inr (2, [.ref h1, .ref h5, .ref h9, .ref h13, .ref h17, .int 0, .int 0])) H := hR
  have hsz0 : sz ≤ H.size := by omega
  refine lv_aload_n hx hb dX2_init_43 rfl (lv_at hl 0 rfl) ?_
  refine lv_iconst (v := 0) hx hb dX2_init_44 (by decide) ?_
  refine th_putR (ty := .int) (v := .int 0) S hK hH hS (Or.inl rfl) hn hR inG2 tyX2 tyX2_ok nmX2 rfl 5 (by decide) gm_200 rfl rfl (by decide +kernel) rfl rfl (Nat.le_of_ble_eq_true rfl) dX2_init_45 (fun H locs hR hH hS zp kp => ?_)
  have hR : va_at D classes (a, .inr (2, [.ref h1, .ref h5, .ref h9, .ref h13, .ref h17, .int 0, .int 0])) H := hR
  have hsz0 : sz ≤ H.size := by omega
  refine lv_aload_n hx hb dX2_init_48 rfl (lv_at hl 0 rfl) ?_
  refine lv_iconst (v := 0) hx hb dX2_init_49 (by decide) ?_
  refine th_putR (ty := .int) (v := .int 0) S hK hH hS (Or.inl rfl) hn hR inG2 tyX2 tyX2_ok nmX2 rfl 6 (by decide) gm_201 rfl rfl (by decide +kernel) rfl rfl (Nat.le_of_ble_eq_true rfl) dX2_init_50 (fun H locs hR hH hS zp kp => ?_)
  have hR : va_at D classes (a, .inr (2, [.ref h1, .ref h5, .ref h9, .ref h13, .ref h17, .int 0, .int 0])) H := hR
  have hsz0 : sz ≤ H.size := by omega
  have ho : th_Ol (th_new T18 a 9) [.inr 16, .inr 17, .inr 18, .inr 19, .inr 20, .inl (0, 1600), .inl (-2147483648, 2147483647)] [.ref h1, .ref h5, .ref h9, .ref h13, .ref h17, .int 0, .int 0] := (th_Ol.cons (⟨h1, rfl, th_new_sub hn _ _ (mo19 _ _ (mo15 _ _ (mo11 _ _ (mo7 _ _ fh1))))⟩) (th_Ol.cons (⟨h5, rfl, th_new_sub hn _ _ (mo19 _ _ (mo15 _ _ (mo11 _ _ fh5)))⟩) (th_Ol.cons (⟨h9, rfl, th_new_sub hn _ _ (mo19 _ _ (mo15 _ _ fh9))⟩) (th_Ol.cons (⟨h13, rfl, th_new_sub hn _ _ (mo19 _ _ fh13)⟩) (th_Ol.cons (⟨h17, rfl, th_new_sub hn _ _ fh17⟩) (th_Ol.cons (⟨_, rfl, by decide, by decide⟩) (th_Ol.cons (⟨_, rfl, by decide, by decide⟩) th_Ol.nil)))))))
  have hH := th_type (k := 9) (ci := 2) hH hn hR kd_9 ⟨ho.1, ho.2, trivial⟩
  refine W.widen (k := 5) (n := 1681) (by decide) (by decide) ?_
  exact th_vretC S hK hH hS hr hlocks ((gr20.sub (by decide)).fin) dX2_init_53

set_option maxHeartbeats 4000000 in
set_option maxRecDepth 100000 in
theorem k_X2_init_k56 (l : Launch) (D : va_G) (cT : Nat → ClassId) (T : Nat → Option Nat) (a sz : Nat) : th_MetC l D cT T (kd qz) [0, 2, 3, 4, 5, 7, 8, 46] yX2_init cX2_init 1 (rmc 1 5 1681 12) 2 [.null, .null, .null, .null, .null, .int 0, .int 0] [] a sz 56 [61, 60, 59, 58, 57] 5 1681 := by
  refine th_startC (by decide) (Nat.le_of_ble_eq_true rfl) ⟨rfl, rfl⟩ ?_
  intro p e s m below meth c ls S hK hO hH0 hsz hn hR0 hr hlocks hnm hl
  have hx := S.1; have hb := S.2.1
  have hown := S.2.2.2.1; have hts := S.2.2.2.2
  have hA : ∀ q, s.heap.size ≤ q → th_cA a sz q := fun q h => Or.inr (by omega)
  have gr0 : th_grow [0, 2, 3, 4, 5, 7, 8, 46] T T sz [] := th_grow.rf (fun b hb => hH0.free (by omega))
  have hl : lv_has ls 1 [(0, .ref a)] := hl
  have hla0 : a < sz := by have := hR0.lt; have h2 : a < s.heap.size := this; omega
  suffices main : ∀ (H : Heap) (locs : List Loc), th_H D cT T (kd qz) H → va_at D classes (a, .inr (2, [.null, .null, .null, .null, .null, .int 0, .int 0])) H → va_S (th_cA a sz) s.heap H locs → sz ≤ H.size → W p l e (rmc 1 5 1681 12) s m [.ref a].toArray below meth c H locs 0 0 (MQ below (th_QC D cT T (kd qz) [0, 2, 3, 4, 5, 7, 8, 46] a 56 sz [61, 60, 59, 58, 57]) [.ref a].toArray s 5 1681 (th_cA a sz)) (F0 m 0 ls []) from main s.heap [] hH0 hR0 va_S.rf (by omega)
  intro H locs hH hR hS hsz0
  refine lv_aload_n hx hb dX2_init_0 rfl (lv_at hl 0 rfl) ?_
  refine W.objInit hx hb hown (hts _ gm_193) (hts _ gm_140) (hts _ gm_141) rfl (hl.1.trans S.2.2.1.symm) rfl dX2_init_1 (Nat.le_of_ble_eq_true rfl) (Nat.le_of_ble_eq_true rfl) ?_
  refine W.eq (g2 := F0 m 4 ls []) rfl ?_
  refine lv_aload_n hx hb dX2_init_4 rfl (lv_at hl 0 rfl) ?_
  refine lv_sipush (v := 1600) hx hb dX2_init_5 (by decide) ?_
  refine th_newa (atype := .int) (t := 0) (N := 1600) S hK hH hS 57 gm_174 rfl kd_57 (fun T2 j hj => ⟨0, rfl, by decide, by decide⟩) (by decide) (by decide) (by decide) (by decide) (by decide) dX2_init_8 (fun h1 H eh1 hH nh1 hS zh1 kh1 => ?_)
  have neh1 : a ≠ h1 := by omega
  have hR : va_at D classes (a, .inr (2, [.null, .null, .null, .null, .null, .int 0, .int 0])) H := hR.kept (kh1 a (by omega))
  have hsz0 : sz ≤ H.size := by omega
  obtain ⟨T2, eT2⟩ : ∃ t, t = th_new T h1 57 := ⟨_, rfl⟩
  rw [← eT2] at hH
  have mo3 : ∀ b j, T b = some j → T2 b = some j := by rw [eT2]; exact th_new_sub nh1
  have gr4 : th_grow [0, 2, 3, 4, 5, 7, 8, 46] T T2 sz [57] := by rw [eT2]; exact gr0.new (by omega) (by decide)
  have fh1 : T2 h1 = some 57 := by rw [eT2]; exact th_new_self
  have hn : T2 a = none := by rw [eT2]; exact (th_new_ne neh1).trans hn
  refine th_putRF (ty := .array .int) (v := .ref h1) S hK hH hS (Or.inl rfl) hn hR inG2 tyX2 tyX2_ok nmX2 rfl 0 (by decide) gm_194 rfl rfl hnm rfl (by decide +kernel) rfl rfl (Nat.le_of_ble_eq_true rfl) dX2_init_10 (fun H locs hR hH hS zp kp => ?_)
  have hR : va_at D classes (a, .inr (2, [.ref h1, .null, .null, .null, .null, .int 0, .int 0])) H := hR
  have hsz0 : sz ≤ H.size := by omega
  refine lv_aload_n hx hb dX2_init_13 rfl (lv_at hl 0 rfl) ?_
  refine lv_iconst (v := 5) hx hb dX2_init_14 (by decide) ?_
  refine th_newa (atype := .int) (t := 0) (N := 5) S hK hH hS 58 gm_174 rfl kd_58 (fun T2 j hj => ⟨0, rfl, by decide, by decide⟩) (by decide) (by decide) (by decide) (by decide) (by decide) dX2_init_15 (fun h5 H eh5 hH nh5 hS zh5 kh5 => ?_)
  have neh5 : a ≠ h5 := by omega
  have hR : va_at D classes (a, .inr (2, [.ref h1, .null, .null, .null, .null, .int 0, .int 0])) H := hR.kept (kh5 a (by omega))
  have hsz0 : sz ≤ H.size := by omega
  obtain ⟨T6, eT6⟩ : ∃ t, t = th_new T2 h5 58 := ⟨_, rfl⟩
  rw [← eT6] at hH
  have mo7 : ∀ b j, T2 b = some j → T6 b = some j := by rw [eT6]; exact th_new_sub nh5
  have gr8 : th_grow [0, 2, 3, 4, 5, 7, 8, 46] T T6 sz [58, 57] := by rw [eT6]; exact gr4.new (by omega) (by decide)
  have fh5 : T6 h5 = some 58 := by rw [eT6]; exact th_new_self
  have hn : T6 a = none := by rw [eT6]; exact (th_new_ne neh5).trans hn
  refine th_putRF (ty := .array .int) (v := .ref h5) S hK hH hS (Or.inl rfl) hn hR inG2 tyX2 tyX2_ok nmX2 rfl 1 (by decide) gm_195 rfl rfl hnm rfl (by decide +kernel) rfl rfl (Nat.le_of_ble_eq_true rfl) dX2_init_17 (fun H locs hR hH hS zp kp => ?_)
  have hR : va_at D classes (a, .inr (2, [.ref h1, .ref h5, .null, .null, .null, .int 0, .int 0])) H := hR
  have hsz0 : sz ≤ H.size := by omega
  refine lv_aload_n hx hb dX2_init_20 rfl (lv_at hl 0 rfl) ?_
  refine lv_iconst (v := 5) hx hb dX2_init_21 (by decide) ?_
  refine th_newa (atype := .int) (t := 0) (N := 5) S hK hH hS 59 gm_174 rfl kd_59 (fun T2 j hj => ⟨0, rfl, by decide, by decide⟩) (by decide) (by decide) (by decide) (by decide) (by decide) dX2_init_22 (fun h9 H eh9 hH nh9 hS zh9 kh9 => ?_)
  have neh9 : a ≠ h9 := by omega
  have hR : va_at D classes (a, .inr (2, [.ref h1, .ref h5, .null, .null, .null, .int 0, .int 0])) H := hR.kept (kh9 a (by omega))
  have hsz0 : sz ≤ H.size := by omega
  obtain ⟨T10, eT10⟩ : ∃ t, t = th_new T6 h9 59 := ⟨_, rfl⟩
  rw [← eT10] at hH
  have mo11 : ∀ b j, T6 b = some j → T10 b = some j := by rw [eT10]; exact th_new_sub nh9
  have gr12 : th_grow [0, 2, 3, 4, 5, 7, 8, 46] T T10 sz [59, 58, 57] := by rw [eT10]; exact gr8.new (by omega) (by decide)
  have fh9 : T10 h9 = some 59 := by rw [eT10]; exact th_new_self
  have hn : T10 a = none := by rw [eT10]; exact (th_new_ne neh9).trans hn
  refine th_putRF (ty := .array .int) (v := .ref h9) S hK hH hS (Or.inl rfl) hn hR inG2 tyX2 tyX2_ok nmX2 rfl 2 (by decide) gm_196 rfl rfl hnm rfl (by decide +kernel) rfl rfl (Nat.le_of_ble_eq_true rfl) dX2_init_24 (fun H locs hR hH hS zp kp => ?_)
  have hR : va_at D classes (a, .inr (2, [.ref h1, .ref h5, .ref h9, .null, .null, .int 0, .int 0])) H := hR
  have hsz0 : sz ≤ H.size := by omega
  refine lv_aload_n hx hb dX2_init_27 rfl (lv_at hl 0 rfl) ?_
  refine lv_bipush (v := 7) hx hb dX2_init_28 (by decide) ?_
  refine th_newa (atype := .int) (t := 0) (N := 7) S hK hH hS 60 gm_174 rfl kd_60 (fun T2 j hj => ⟨0, rfl, by decide, by decide⟩) (by decide) (by decide) (by decide) (by decide) (by decide) dX2_init_30 (fun h13 H eh13 hH nh13 hS zh13 kh13 => ?_)
  have neh13 : a ≠ h13 := by omega
  have hR : va_at D classes (a, .inr (2, [.ref h1, .ref h5, .ref h9, .null, .null, .int 0, .int 0])) H := hR.kept (kh13 a (by omega))
  have hsz0 : sz ≤ H.size := by omega
  obtain ⟨T14, eT14⟩ : ∃ t, t = th_new T10 h13 60 := ⟨_, rfl⟩
  rw [← eT14] at hH
  have mo15 : ∀ b j, T10 b = some j → T14 b = some j := by rw [eT14]; exact th_new_sub nh13
  have gr16 : th_grow [0, 2, 3, 4, 5, 7, 8, 46] T T14 sz [60, 59, 58, 57] := by rw [eT14]; exact gr12.new (by omega) (by decide)
  have fh13 : T14 h13 = some 60 := by rw [eT14]; exact th_new_self
  have hn : T14 a = none := by rw [eT14]; exact (th_new_ne neh13).trans hn
  refine th_putRF (ty := .array .int) (v := .ref h13) S hK hH hS (Or.inl rfl) hn hR inG2 tyX2 tyX2_ok nmX2 rfl 3 (by decide) gm_197 rfl rfl hnm rfl (by decide +kernel) rfl rfl (Nat.le_of_ble_eq_true rfl) dX2_init_32 (fun H locs hR hH hS zp kp => ?_)
  have hR : va_at D classes (a, .inr (2, [.ref h1, .ref h5, .ref h9, .ref h13, .null, .int 0, .int 0])) H := hR
  have hsz0 : sz ≤ H.size := by omega
  refine lv_aload_n hx hb dX2_init_35 rfl (lv_at hl 0 rfl) ?_
  refine lv_bipush (v := 64) hx hb dX2_init_36 (by decide) ?_
  refine th_newa (atype := .int) (t := 0) (N := 64) S hK hH hS 61 gm_174 rfl kd_61 (fun T2 j hj => ⟨0, rfl, by decide, by decide⟩) (by decide) (by decide) (by decide) (by decide) (by decide) dX2_init_38 (fun h17 H eh17 hH nh17 hS zh17 kh17 => ?_)
  have neh17 : a ≠ h17 := by omega
  have hR : va_at D classes (a, .inr (2, [.ref h1, .ref h5, .ref h9, .ref h13, .null, .int 0, .int 0])) H := hR.kept (kh17 a (by omega))
  have hsz0 : sz ≤ H.size := by omega
  obtain ⟨T18, eT18⟩ : ∃ t, t = th_new T14 h17 61 := ⟨_, rfl⟩
  rw [← eT18] at hH
  have mo19 : ∀ b j, T14 b = some j → T18 b = some j := by rw [eT18]; exact th_new_sub nh17
  have gr20 : th_grow [0, 2, 3, 4, 5, 7, 8, 46] T T18 sz [61, 60, 59, 58, 57] := by rw [eT18]; exact gr16.new (by omega) (by decide)
  have fh17 : T18 h17 = some 61 := by rw [eT18]; exact th_new_self
  have hn : T18 a = none := by rw [eT18]; exact (th_new_ne neh17).trans hn
  refine th_putRF (ty := .array .int) (v := .ref h17) S hK hH hS (Or.inl rfl) hn hR inG2 tyX2 tyX2_ok nmX2 rfl 4 (by decide) gm_199 rfl rfl hnm rfl (by decide +kernel) rfl rfl (Nat.le_of_ble_eq_true rfl) dX2_init_40 (fun H locs hR hH hS zp kp => ?_)
  have hR : va_at D classes (a, .inr (2, [.ref h1, .ref h5, .ref h9, .ref h13, .ref h17, .int 0, .int 0])) H := hR
  have hsz0 : sz ≤ H.size := by omega
  refine lv_aload_n hx hb dX2_init_43 rfl (lv_at hl 0 rfl) ?_
  refine lv_iconst (v := 0) hx hb dX2_init_44 (by decide) ?_
  refine th_putR (ty := .int) (v := .int 0) S hK hH hS (Or.inl rfl) hn hR inG2 tyX2 tyX2_ok nmX2 rfl 5 (by decide) gm_200 rfl rfl (by decide +kernel) rfl rfl (Nat.le_of_ble_eq_true rfl) dX2_init_45 (fun H locs hR hH hS zp kp => ?_)
  have hR : va_at D classes (a, .inr (2, [.ref h1, .ref h5, .ref h9, .ref h13, .ref h17, .int 0, .int 0])) H := hR
  have hsz0 : sz ≤ H.size := by omega
  refine lv_aload_n hx hb dX2_init_48 rfl (lv_at hl 0 rfl) ?_
  refine lv_iconst (v := 0) hx hb dX2_init_49 (by decide) ?_
  refine th_putR (ty := .int) (v := .int 0) S hK hH hS (Or.inl rfl) hn hR inG2 tyX2 tyX2_ok nmX2 rfl 6 (by decide) gm_201 rfl rfl (by decide +kernel) rfl rfl (Nat.le_of_ble_eq_true rfl) dX2_init_50 (fun H locs hR hH hS zp kp => ?_)
  have hR : va_at D classes (a, .inr (2, [.ref h1, .ref h5, .ref h9, .ref h13, .ref h17, .int 0, .int 0])) H := hR
  have hsz0 : sz ≤ H.size := by omega
  have ho : th_Ol (th_new T18 a 56) [.inr 58, .inr 59, .inr 60, .inr 61, .inr 62, .inl (0, 1600), .inl (-2147483648, 2147483647)] [.ref h1, .ref h5, .ref h9, .ref h13, .ref h17, .int 0, .int 0] := (th_Ol.cons (⟨h1, rfl, th_new_sub hn _ _ (mo19 _ _ (mo15 _ _ (mo11 _ _ (mo7 _ _ fh1))))⟩) (th_Ol.cons (⟨h5, rfl, th_new_sub hn _ _ (mo19 _ _ (mo15 _ _ (mo11 _ _ fh5)))⟩) (th_Ol.cons (⟨h9, rfl, th_new_sub hn _ _ (mo19 _ _ (mo15 _ _ fh9))⟩) (th_Ol.cons (⟨h13, rfl, th_new_sub hn _ _ (mo19 _ _ fh13)⟩) (th_Ol.cons (⟨h17, rfl, th_new_sub hn _ _ fh17⟩) (th_Ol.cons (⟨_, rfl, by decide, by decide⟩) (th_Ol.cons (⟨_, rfl, by decide, by decide⟩) th_Ol.nil)))))))
  have hH := th_type (k := 56) (ci := 2) hH hn hR kd_56 ⟨ho.1, ho.2, trivial⟩
  refine W.widen (k := 5) (n := 1681) (by decide) (by decide) ?_
  exact th_vretC S hK hH hS hr hlocks ((gr20.sub (by decide)).fin) dX2_init_53

set_option maxHeartbeats 4000000 in
set_option maxRecDepth 100000 in
theorem k_X4_init_k3 (l : Launch) (D : va_G) (cT : Nat → ClassId) (T : Nat → Option Nat) (a sz : Nat) : th_MetC l D cT T (kd qz) [0, 2, 3, 4, 5, 7, 8, 46] yX4_init cX4_init 1 (rmc 2 17 1787 32) 4 [.null, .null, .null, .null, .null, .null, .null, .null, .null, .null, .null, .int 0, .int 0, .int 0, .int 0, .int 0, .int 0, .int 0, .int 0] [] a sz 3 [10, 29, 9, 19, 18, 17, 16, 15, 28, 27, 26, 25, 24, 23, 22, 21, 20] 17 1787 := by
  refine th_startC (by decide) (Nat.le_of_ble_eq_true rfl) ⟨rfl, rfl⟩ ?_
  intro p e s m below meth c ls S hK hO hH0 hsz hn hR0 hr hlocks hnm hl
  have hx := S.1; have hb := S.2.1
  have hown := S.2.2.2.1; have hts := S.2.2.2.2
  have hA : ∀ q, s.heap.size ≤ q → th_cA a sz q := fun q h => Or.inr (by omega)
  have gr0 : th_grow [0, 2, 3, 4, 5, 7, 8, 46] T T sz [] := th_grow.rf (fun b hb => hH0.free (by omega))
  have hl : lv_has ls 1 [(0, .ref a)] := hl
  have hla0 : a < sz := by have := hR0.lt; have h2 : a < s.heap.size := this; omega
  suffices main : ∀ (H : Heap) (locs : List Loc), th_H D cT T (kd qz) H → va_at D classes (a, .inr (4, [.null, .null, .null, .null, .null, .null, .null, .null, .null, .null, .null, .int 0, .int 0, .int 0, .int 0, .int 0, .int 0, .int 0, .int 0])) H → va_S (th_cA a sz) s.heap H locs → sz ≤ H.size → W p l e (rmc 2 17 1787 32) s m [.ref a].toArray below meth c H locs 0 0 (MQ below (th_QC D cT T (kd qz) [0, 2, 3, 4, 5, 7, 8, 46] a 3 sz [10, 29, 9, 19, 18, 17, 16, 15, 28, 27, 26, 25, 24, 23, 22, 21, 20]) [.ref a].toArray s 17 1787 (th_cA a sz)) (F0 m 0 ls []) from main s.heap [] hH0 hR0 va_S.rf (by omega)
  intro H locs hH hR hS hsz0
  refine lv_aload_n hx hb dX4_init_0 rfl (lv_at hl 0 rfl) ?_
  refine W.objInit hx hb hown (hts _ gm_187) (hts _ gm_140) (hts _ gm_141) rfl (hl.1.trans S.2.2.1.symm) rfl dX4_init_1 (Nat.le_of_ble_eq_true rfl) (Nat.le_of_ble_eq_true rfl) ?_
  refine W.eq (g2 := F0 m 4 ls []) rfl ?_
  refine lv_aload_n hx hb dX4_init_4 rfl (lv_at hl 0 rfl) ?_
  refine lv_iconst (v := 3) hx hb dX4_init_5 (by decide) ?_
  refine th_newa (atype := .long) (t := 2) (N := 3) S hK hH hS 20 gm_175 rfl kd_20 (fun T2 j hj => ⟨0, rfl⟩) (by decide) (by decide) (by decide) (by decide) (by decide) dX4_init_6 (fun h1 H eh1 hH nh1 hS zh1 kh1 => ?_)
  have neh1 : a ≠ h1 := by omega
  have hR : va_at D classes (a, .inr (4, [.null, .null, .null, .null, .null, .null, .null, .null, .null, .null, .null, .int 0, .int 0, .int 0, .int 0, .int 0, .int 0, .int 0, .int 0])) H := hR.kept (kh1 a (by omega))
  have hsz0 : sz ≤ H.size := by omega
  obtain ⟨T2, eT2⟩ : ∃ t, t = th_new T h1 20 := ⟨_, rfl⟩
  rw [← eT2] at hH
  have mo3 : ∀ b j, T b = some j → T2 b = some j := by rw [eT2]; exact th_new_sub nh1
  have gr4 : th_grow [0, 2, 3, 4, 5, 7, 8, 46] T T2 sz [20] := by rw [eT2]; exact gr0.new (by omega) (by decide)
  have fh1 : T2 h1 = some 20 := by rw [eT2]; exact th_new_self
  have hn : T2 a = none := by rw [eT2]; exact (th_new_ne neh1).trans hn
  refine th_putRF (ty := .array .long) (v := .ref h1) S hK hH hS (Or.inl rfl) hn hR inG4 tyX4 tyX4_ok nmX4 rfl 0 (by decide) gm_235 rfl rfl hnm rfl (by decide +kernel) rfl rfl (Nat.le_of_ble_eq_true rfl) dX4_init_8 (fun H locs hR hH hS zp kp => ?_)
  have hR : va_at D classes (a, .inr (4, [.ref h1, .null, .null, .null, .null, .null, .null, .null, .null, .null, .null, .int 0, .int 0, .int 0, .int 0, .int 0, .int 0, .int 0, .int 0])) H := hR
  have hsz0 : sz ≤ H.size := by omega
  refine lv_aload_n hx hb dX4_init_11 rfl (lv_at hl 0 rfl) ?_
  refine lv_iconst (v := 4) hx hb dX4_init_12 (by decide) ?_
  refine th_newa (atype := .long) (t := 2) (N := 4) S hK hH hS 21 gm_175 rfl kd_21 (fun T2 j hj => ⟨0, rfl⟩) (by decide) (by decide) (by decide) (by decide) (by decide) dX4_init_13 (fun h5 H eh5 hH nh5 hS zh5 kh5 => ?_)
  have neh5 : a ≠ h5 := by omega
  have hR : va_at D classes (a, .inr (4, [.ref h1, .null, .null, .null, .null, .null, .null, .null, .null, .null, .null, .int 0, .int 0, .int 0, .int 0, .int 0, .int 0, .int 0, .int 0])) H := hR.kept (kh5 a (by omega))
  have hsz0 : sz ≤ H.size := by omega
  obtain ⟨T6, eT6⟩ : ∃ t, t = th_new T2 h5 21 := ⟨_, rfl⟩
  rw [← eT6] at hH
  have mo7 : ∀ b j, T2 b = some j → T6 b = some j := by rw [eT6]; exact th_new_sub nh5
  have gr8 : th_grow [0, 2, 3, 4, 5, 7, 8, 46] T T6 sz [21, 20] := by rw [eT6]; exact gr4.new (by omega) (by decide)
  have fh5 : T6 h5 = some 21 := by rw [eT6]; exact th_new_self
  have hn : T6 a = none := by rw [eT6]; exact (th_new_ne neh5).trans hn
  refine th_putRF (ty := .array .long) (v := .ref h5) S hK hH hS (Or.inl rfl) hn hR inG4 tyX4 tyX4_ok nmX4 rfl 1 (by decide) gm_237 rfl rfl hnm rfl (by decide +kernel) rfl rfl (Nat.le_of_ble_eq_true rfl) dX4_init_15 (fun H locs hR hH hS zp kp => ?_)
  have hR : va_at D classes (a, .inr (4, [.ref h1, .ref h5, .null, .null, .null, .null, .null, .null, .null, .null, .null, .int 0, .int 0, .int 0, .int 0, .int 0, .int 0, .int 0, .int 0])) H := hR
  have hsz0 : sz ≤ H.size := by omega
  refine lv_aload_n hx hb dX4_init_18 rfl (lv_at hl 0 rfl) ?_
  refine lv_bipush (v := 8) hx hb dX4_init_19 (by decide) ?_
  refine th_newa (atype := .long) (t := 2) (N := 8) S hK hH hS 22 gm_175 rfl kd_22 (fun T2 j hj => ⟨0, rfl⟩) (by decide) (by decide) (by decide) (by decide) (by decide) dX4_init_21 (fun h9 H eh9 hH nh9 hS zh9 kh9 => ?_)
  have neh9 : a ≠ h9 := by omega
  have hR : va_at D classes (a, .inr (4, [.ref h1, .ref h5, .null, .null, .null, .null, .null, .null, .null, .null, .null, .int 0, .int 0, .int 0, .int 0, .int 0, .int 0, .int 0, .int 0])) H := hR.kept (kh9 a (by omega))
  have hsz0 : sz ≤ H.size := by omega
  obtain ⟨T10, eT10⟩ : ∃ t, t = th_new T6 h9 22 := ⟨_, rfl⟩
  rw [← eT10] at hH
  have mo11 : ∀ b j, T6 b = some j → T10 b = some j := by rw [eT10]; exact th_new_sub nh9
  have gr12 : th_grow [0, 2, 3, 4, 5, 7, 8, 46] T T10 sz [22, 21, 20] := by rw [eT10]; exact gr8.new (by omega) (by decide)
  have fh9 : T10 h9 = some 22 := by rw [eT10]; exact th_new_self
  have hn : T10 a = none := by rw [eT10]; exact (th_new_ne neh9).trans hn
  refine th_putRF (ty := .array .long) (v := .ref h9) S hK hH hS (Or.inl rfl) hn hR inG4 tyX4 tyX4_ok nmX4 rfl 2 (by decide) gm_239 rfl rfl hnm rfl (by decide +kernel) rfl rfl (Nat.le_of_ble_eq_true rfl) dX4_init_23 (fun H locs hR hH hS zp kp => ?_)
  have hR : va_at D classes (a, .inr (4, [.ref h1, .ref h5, .ref h9, .null, .null, .null, .null, .null, .null, .null, .null, .int 0, .int 0, .int 0, .int 0, .int 0, .int 0, .int 0, .int 0])) H := hR
  have hsz0 : sz ≤ H.size := by omega
  refine lv_aload_n hx hb dX4_init_26 rfl (lv_at hl 0 rfl) ?_
  refine lv_iconst (v := 4) hx hb dX4_init_27 (by decide) ?_
  refine th_newa (atype := .int) (t := 0) (N := 4) S hK hH hS 23 gm_174 rfl kd_23 (fun T2 j hj => ⟨0, rfl, by decide, by decide⟩) (by decide) (by decide) (by decide) (by decide) (by decide) dX4_init_28 (fun h13 H eh13 hH nh13 hS zh13 kh13 => ?_)
  have neh13 : a ≠ h13 := by omega
  have hR : va_at D classes (a, .inr (4, [.ref h1, .ref h5, .ref h9, .null, .null, .null, .null, .null, .null, .null, .null, .int 0, .int 0, .int 0, .int 0, .int 0, .int 0, .int 0, .int 0])) H := hR.kept (kh13 a (by omega))
  have hsz0 : sz ≤ H.size := by omega
  obtain ⟨T14, eT14⟩ : ∃ t, t = th_new T10 h13 23 := ⟨_, rfl⟩
  rw [← eT14] at hH
  have mo15 : ∀ b j, T10 b = some j → T14 b = some j := by rw [eT14]; exact th_new_sub nh13
  have gr16 : th_grow [0, 2, 3, 4, 5, 7, 8, 46] T T14 sz [23, 22, 21, 20] := by rw [eT14]; exact gr12.new (by omega) (by decide)
  have fh13 : T14 h13 = some 23 := by rw [eT14]; exact th_new_self
  have hn : T14 a = none := by rw [eT14]; exact (th_new_ne neh13).trans hn
  refine th_putRF (ty := .array .int) (v := .ref h13) S hK hH hS (Or.inl rfl) hn hR inG4 tyX4 tyX4_ok nmX4 rfl 3 (by decide) gm_241 rfl rfl hnm rfl (by decide +kernel) rfl rfl (Nat.le_of_ble_eq_true rfl) dX4_init_30 (fun H locs hR hH hS zp kp => ?_)
  have hR : va_at D classes (a, .inr (4, [.ref h1, .ref h5, .ref h9, .ref h13, .null, .null, .null, .null, .null, .null, .null, .int 0, .int 0, .int 0, .int 0, .int 0, .int 0, .int 0, .int 0])) H := hR
  have hsz0 : sz ≤ H.size := by omega
  refine lv_aload_n hx hb dX4_init_33 rfl (lv_at hl 0 rfl) ?_
  refine lv_bipush (v := 8) hx hb dX4_init_34 (by decide) ?_
  refine th_newa (atype := .int) (t := 0) (N := 8) S hK hH hS 24 gm_174 rfl kd_24 (fun T2 j hj => ⟨0, rfl, by decide, by decide⟩) (by decide) (by decide) (by decide) (by decide) (by decide) dX4_init_36 (fun h17 H eh17 hH nh17 hS zh17 kh17 => ?_)
  have neh17 : a ≠ h17 := by omega
  have hR : va_at D classes (a, .inr (4, [.ref h1, .ref h5, .ref h9, .ref h13, .null, .null, .null, .null, .null, .null, .null, .int 0, .int 0, .int 0, .int 0, .int 0, .int 0, .int 0, .int 0])) H := hR.kept (kh17 a (by omega))
  have hsz0 : sz ≤ H.size := by omega
  obtain ⟨T18, eT18⟩ : ∃ t, t = th_new T14 h17 24 := ⟨_, rfl⟩
  rw [← eT18] at hH
  have mo19 : ∀ b j, T14 b = some j → T18 b = some j := by rw [eT18]; exact th_new_sub nh17
  have gr20 : th_grow [0, 2, 3, 4, 5, 7, 8, 46] T T18 sz [24, 23, 22, 21, 20] := by rw [eT18]; exact gr16.new (by omega) (by decide)
  have fh17 : T18 h17 = some 24 := by rw [eT18]; exact th_new_self
  have hn : T18 a = none := by rw [eT18]; exact (th_new_ne neh17).trans hn
  refine th_putRF (ty := .array .int) (v := .ref h17) S hK hH hS (Or.inl rfl) hn hR inG4 tyX4 tyX4_ok nmX4 rfl 4 (by decide) gm_245 rfl rfl hnm rfl (by decide +kernel) rfl rfl (Nat.le_of_ble_eq_true rfl) dX4_init_38 (fun H locs hR hH hS zp kp => ?_)
  have hR : va_at D classes (a, .inr (4, [.ref h1, .ref h5, .ref h9, .ref h13, .ref h17, .null, .null, .null, .null, .null, .null, .int 0, .int 0, .int 0, .int 0, .int 0, .int 0, .int 0, .int 0])) H := hR
  have hsz0 : sz ≤ H.size := by omega
  refine lv_aload_n hx hb dX4_init_41 rfl (lv_at hl 0 rfl) ?_
  refine lv_bipush (v := 8) hx hb dX4_init_42 (by decide) ?_
  refine th_newa (atype := .int) (t := 0) (N := 8) S hK hH hS 25 gm_174 rfl kd_25 (fun T2 j hj => ⟨0, rfl, by decide, by decide⟩) (by decide) (by decide) (by decide) (by decide) (by decide) dX4_init_44 (fun h21 H eh21 hH nh21 hS zh21 kh21 => ?_)
  have neh21 : a ≠ h21 := by omega
  have hR : va_at D classes (a, .inr (4, [.ref h1, .ref h5, .ref h9, .ref h13, .ref h17, .null, .null, .null, .null, .null, .null, .int 0, .int 0, .int 0, .int 0, .int 0, .int 0, .int 0, .int 0])) H := hR.kept (kh21 a (by omega))
  have hsz0 : sz ≤ H.size := by omega
  obtain ⟨T22, eT22⟩ : ∃ t, t = th_new T18 h21 25 := ⟨_, rfl⟩
  rw [← eT22] at hH
  have mo23 : ∀ b j, T18 b = some j → T22 b = some j := by rw [eT22]; exact th_new_sub nh21
  have gr24 : th_grow [0, 2, 3, 4, 5, 7, 8, 46] T T22 sz [25, 24, 23, 22, 21, 20] := by rw [eT22]; exact gr20.new (by omega) (by decide)
  have fh21 : T22 h21 = some 25 := by rw [eT22]; exact th_new_self
  have hn : T22 a = none := by rw [eT22]; exact (th_new_ne neh21).trans hn
  refine th_putRF (ty := .array .int) (v := .ref h21) S hK hH hS (Or.inl rfl) hn hR inG4 tyX4 tyX4_ok nmX4 rfl 5 (by decide) gm_249 rfl rfl hnm rfl (by decide +kernel) rfl rfl (Nat.le_of_ble_eq_true rfl) dX4_init_46 (fun H locs hR hH hS zp kp => ?_)
  have hR : va_at D classes (a, .inr (4, [.ref h1, .ref h5, .ref h9, .ref h13, .ref h17, .ref h21, .null, .null, .null, .null, .null, .int 0, .int 0, .int 0, .int 0, .int 0, .int 0, .int 0, .int 0])) H := hR
  have hsz0 : sz ≤ H.size := by omega
  refine lv_aload_n hx hb dX4_init_49 rfl (lv_at hl 0 rfl) ?_
  refine lv_iconst (v := 4) hx hb dX4_init_50 (by decide) ?_
  refine th_newa (atype := .int) (t := 0) (N := 4) S hK hH hS 26 gm_174 rfl kd_26 (fun T2 j hj => ⟨0, rfl, by decide, by decide⟩) (by decide) (by decide) (by decide) (by decide) (by decide) dX4_init_51 (fun h25 H eh25 hH nh25 hS zh25 kh25 => ?_)
  have neh25 : a ≠ h25 := by omega
  have hR : va_at D classes (a, .inr (4, [.ref h1, .ref h5, .ref h9, .ref h13, .ref h17, .ref h21, .null, .null, .null, .null, .null, .int 0, .int 0, .int 0, .int 0, .int 0, .int 0, .int 0, .int 0])) H := hR.kept (kh25 a (by omega))
  have hsz0 : sz ≤ H.size := by omega
  obtain ⟨T26, eT26⟩ : ∃ t, t = th_new T22 h25 26 := ⟨_, rfl⟩
  rw [← eT26] at hH
  have mo27 : ∀ b j, T22 b = some j → T26 b = some j := by rw [eT26]; exact th_new_sub nh25
  have gr28 : th_grow [0, 2, 3, 4, 5, 7, 8, 46] T T26 sz [26, 25, 24, 23, 22, 21, 20] := by rw [eT26]; exact gr24.new (by omega) (by decide)
  have fh25 : T26 h25 = some 26 := by rw [eT26]; exact th_new_self
  have hn : T26 a = none := by rw [eT26]; exact (th_new_ne neh25).trans hn
  refine th_putRF (ty := .array .int) (v := .ref h25) S hK hH hS (Or.inl rfl) hn hR inG4 tyX4 tyX4_ok nmX4 rfl 6 (by decide) gm_252 rfl rfl hnm rfl (by decide +kernel) rfl rfl (Nat.le_of_ble_eq_true rfl) dX4_init_53 (fun H locs hR hH hS zp kp => ?_)
  have hR : va_at D classes (a, .inr (4, [.ref h1, .ref h5, .ref h9, .ref h13, .ref h17, .ref h21, .ref h25, .null, .null, .null, .null, .int 0, .int 0, .int 0, .int 0, .int 0, .int 0, .int 0, .int 0])) H := hR
  have hsz0 : sz ≤ H.size := by omega
  refine lv_aload_n hx hb dX4_init_56 rfl (lv_at hl 0 rfl) ?_
  refine lv_iconst (v := 4) hx hb dX4_init_57 (by decide) ?_
  refine th_newa (atype := .int) (t := 0) (N := 4) S hK hH hS 27 gm_174 rfl kd_27 (fun T2 j hj => ⟨0, rfl, by decide, by decide⟩) (by decide) (by decide) (by decide) (by decide) (by decide) dX4_init_58 (fun h29 H eh29 hH nh29 hS zh29 kh29 => ?_)
  have neh29 : a ≠ h29 := by omega
  have hR : va_at D classes (a, .inr (4, [.ref h1, .ref h5, .ref h9, .ref h13, .ref h17, .ref h21, .ref h25, .null, .null, .null, .null, .int 0, .int 0, .int 0, .int 0, .int 0, .int 0, .int 0, .int 0])) H := hR.kept (kh29 a (by omega))
  have hsz0 : sz ≤ H.size := by omega
  obtain ⟨T30, eT30⟩ : ∃ t, t = th_new T26 h29 27 := ⟨_, rfl⟩
  rw [← eT30] at hH
  have mo31 : ∀ b j, T26 b = some j → T30 b = some j := by rw [eT30]; exact th_new_sub nh29
  have gr32 : th_grow [0, 2, 3, 4, 5, 7, 8, 46] T T30 sz [27, 26, 25, 24, 23, 22, 21, 20] := by rw [eT30]; exact gr28.new (by omega) (by decide)
  have fh29 : T30 h29 = some 27 := by rw [eT30]; exact th_new_self
  have hn : T30 a = none := by rw [eT30]; exact (th_new_ne neh29).trans hn
  refine th_putRF (ty := .array .int) (v := .ref h29) S hK hH hS (Or.inl rfl) hn hR inG4 tyX4 tyX4_ok nmX4 rfl 7 (by decide) gm_257 rfl rfl hnm rfl (by decide +kernel) rfl rfl (Nat.le_of_ble_eq_true rfl) dX4_init_60 (fun H locs hR hH hS zp kp => ?_)
  have hR : va_at D classes (a, .inr (4, [.ref h1, .ref h5, .ref h9, .ref h13, .ref h17, .ref h21, .ref h25, .ref h29, .null, .null, .null, .int 0, .int 0, .int 0, .int 0, .int 0, .int 0, .int 0, .int 0])) H := hR
  have hsz0 : sz ≤ H.size := by omega
  refine lv_aload_n hx hb dX4_init_63 rfl (lv_at hl 0 rfl) ?_
  refine lv_bipush (v := 12) hx hb dX4_init_64 (by decide) ?_
  refine th_newa (atype := .int) (t := 0) (N := 12) S hK hH hS 28 gm_174 rfl kd_28 (fun T2 j hj => ⟨0, rfl, by decide, by decide⟩) (by decide) (by decide) (by decide) (by decide) (by decide) dX4_init_66 (fun h33 H eh33 hH nh33 hS zh33 kh33 => ?_)
  have neh33 : a ≠ h33 := by omega
  have hR : va_at D classes (a, .inr (4, [.ref h1, .ref h5, .ref h9, .ref h13, .ref h17, .ref h21, .ref h25, .ref h29, .null, .null, .null, .int 0, .int 0, .int 0, .int 0, .int 0, .int 0, .int 0, .int 0])) H := hR.kept (kh33 a (by omega))
  have hsz0 : sz ≤ H.size := by omega
  obtain ⟨T34, eT34⟩ : ∃ t, t = th_new T30 h33 28 := ⟨_, rfl⟩
  rw [← eT34] at hH
  have mo35 : ∀ b j, T30 b = some j → T34 b = some j := by rw [eT34]; exact th_new_sub nh33
  have gr36 : th_grow [0, 2, 3, 4, 5, 7, 8, 46] T T34 sz [28, 27, 26, 25, 24, 23, 22, 21, 20] := by rw [eT34]; exact gr32.new (by omega) (by decide)
  have fh33 : T34 h33 = some 28 := by rw [eT34]; exact th_new_self
  have hn : T34 a = none := by rw [eT34]; exact (th_new_ne neh33).trans hn
  refine th_putRF (ty := .array .int) (v := .ref h33) S hK hH hS (Or.inl rfl) hn hR inG4 tyX4 tyX4_ok nmX4 rfl 8 (by decide) gm_262 rfl rfl hnm rfl (by decide +kernel) rfl rfl (Nat.le_of_ble_eq_true rfl) dX4_init_68 (fun H locs hR hH hS zp kp => ?_)
  have hR : va_at D classes (a, .inr (4, [.ref h1, .ref h5, .ref h9, .ref h13, .ref h17, .ref h21, .ref h25, .ref h29, .ref h33, .null, .null, .int 0, .int 0, .int 0, .int 0, .int 0, .int 0, .int 0, .int 0])) H := hR
  have hsz0 : sz ≤ H.size := by omega
  refine lv_aload_n hx hb dX4_init_71 rfl (lv_at hl 0 rfl) ?_
  refine th_newo (ci := 2) (fs := [.null, .null, .null, .null, .null, .int 0, .int 0]) S hK hH hS inG2 tyX2 tyX2_ok gm_188 gm_189 gm_117 rfl (fun j hj => by have : j < 7 := hj; rcases (show j = 0 ∨ j = 1 ∨ j = 2 ∨ j = 3 ∨ j = 4 ∨ j = 5 ∨ j = 6 by omega) with rfl | rfl | rfl | rfl | rfl | rfl | rfl <;> rfl) (by decide) (by decide) dX4_init_72 (fun h37 H eh37 hH nh37 rh37 hS zh37 kh37 => ?_)
  have neh37 : a ≠ h37 := by omega
  have hR : va_at D classes (a, .inr (4, [.ref h1, .ref h5, .ref h9, .ref h13, .ref h17, .ref h21, .ref h25, .ref h29, .ref h33, .null, .null, .int 0, .int 0, .int 0, .int 0, .int 0, .int 0, .int 0, .int 0])) H := hR.kept (kh37 a (by omega))
  have hsz0 : sz ≤ H.size := by omega
  refine lv_dup hx hb dX4_init_75 rfl ?_
  refine th_callCN (n := 0) (host := RX10) (As := []) S hK hO hH hS hA (Or.inr (by omega)) rfl nh37 rh37 (k_X2_init_k9 l D cT T34 h37 H.size) gm_192 (by decide +kernel) gm_191 gm_117 rfl (by decide +kernel) ⟨rfl, rfl, Nat.le_of_ble_eq_true rfl, Nat.le_of_ble_eq_true rfl⟩ rfl hl.1 rfl (Nat.le_of_ble_eq_true rfl) dX4_init_76 ⟨Nat.le_of_ble_eq_true rfl, Nat.le_of_ble_eq_true rfl⟩ (fun T38 H locs x39 hH2 hS zx39 kx39 => ?_)
  have mo40 : ∀ b j, T34 b = some j → T38 b = some j := x39.mono hH (Nat.le_refl _) nh37
  have gr41 : th_grow [0, 2, 3, 4, 5, 7, 8, 46] T T38 sz [9, 19, 18, 17, 16, 15, 28, 27, 26, 25, 24, 23, 22, 21, 20] := gr36.ext x39 hsz0 (by omega) (by decide)
  have hR : va_at D classes (a, .inr (4, [.ref h1, .ref h5, .ref h9, .ref h13, .ref h17, .ref h21, .ref h25, .ref h29, .ref h33, .null, .null, .int 0, .int 0, .int 0, .int 0, .int 0, .int 0, .int 0, .int 0])) H := hR.kept (kx39 a (by omega) neh37)
  have hsz0 : sz ≤ H.size := by omega
  have hH := hH2; clear hH2
  have hn : T38 a = none := (x39.2.1 a (by omega) neh37).trans hn
  refine th_putRF (ty := .object "HungryMaps$Formulas") (v := .ref h37) S hK hH hS (Or.inl rfl) hn hR inG4 tyX4 tyX4_ok nmX4 rfl 9 (by decide) gm_267 rfl rfl hnm rfl (by decide +kernel) rfl rfl (Nat.le_of_ble_eq_true rfl) dX4_init_79 (fun H locs hR hH hS zp kp => ?_)
  have hR : va_at D classes (a, .inr (4, [.ref h1, .ref h5, .ref h9, .ref h13, .ref h17, .ref h21, .ref h25, .ref h29, .ref h33, .ref h37, .null, .int 0, .int 0, .int 0, .int 0, .int 0, .int 0, .int 0, .int 0])) H := hR
  have hsz0 : sz ≤ H.size := by omega
  refine lv_aload_n hx hb dX4_init_82 rfl (lv_at hl 0 rfl) ?_
  refine th_newo (ci := 7) (fs := [.null]) S hK hH hS inG7 tyX7 tyX7_ok gm_219 gm_220 gm_118 rfl (fun j hj => by have : j < 1 := hj; rcases (show j = 0 by omega) with rfl <;> rfl) (by decide) (by decide) dX4_init_83 (fun h42 H eh42 hH nh42 rh42 hS zh42 kh42 => ?_)
  have neh42 : a ≠ h42 := by omega
  have hR : va_at D classes (a, .inr (4, [.ref h1, .ref h5, .ref h9, .ref h13, .ref h17, .ref h21, .ref h25, .ref h29, .ref h33, .ref h37, .null, .int 0, .int 0, .int 0, .int 0, .int 0, .int 0, .int 0, .int 0])) H := hR.kept (kh42 a (by omega))
  have hsz0 : sz ≤ H.size := by omega
  refine lv_dup hx hb dX4_init_86 rfl ?_
  refine th_callCN (n := 0) (host := RX10) (As := []) S hK hO hH hS hA (Or.inr (by omega)) rfl nh42 rh42 (k_X7_init_k10 l D cT T38 h42 H.size) gm_223 (by decide +kernel) gm_222 gm_118 rfl (by decide +kernel) ⟨rfl, rfl, Nat.le_of_ble_eq_true rfl, Nat.le_of_ble_eq_true rfl⟩ rfl hl.1 rfl (Nat.le_of_ble_eq_true rfl) dX4_init_87 ⟨Nat.le_of_ble_eq_true rfl, Nat.le_of_ble_eq_true rfl⟩ (fun T43 H locs x44 hH2 hS zx44 kx44 => ?_)
  have mo45 : ∀ b j, T38 b = some j → T43 b = some j := x44.mono hH (Nat.le_refl _) nh42
  have gr46 : th_grow [0, 2, 3, 4, 5, 7, 8, 46] T T43 sz [10, 29, 9, 19, 18, 17, 16, 15, 28, 27, 26, 25, 24, 23, 22, 21, 20] := gr41.ext x44 hsz0 (by omega) (by decide)
  have hR : va_at D classes (a, .inr (4, [.ref h1, .ref h5, .ref h9, .ref h13, .ref h17, .ref h21, .ref h25, .ref h29, .ref h33, .ref h37, .null, .int 0, .int 0, .int 0, .int 0, .int 0, .int 0, .int 0, .int 0])) H := hR.kept (kx44 a (by omega) neh42)
  have hsz0 : sz ≤ H.size := by omega
  have hH := hH2; clear hH2
  have hn : T43 a = none := (x44.2.1 a (by omega) neh42).trans hn
  refine th_putRF (ty := .object "HungryMaps$State") (v := .ref h42) S hK hH hS (Or.inl rfl) hn hR inG4 tyX4 tyX4_ok nmX4 rfl 10 (by decide) gm_271 rfl rfl hnm rfl (by decide +kernel) rfl rfl (Nat.le_of_ble_eq_true rfl) dX4_init_90 (fun H locs hR hH hS zp kp => ?_)
  have hR : va_at D classes (a, .inr (4, [.ref h1, .ref h5, .ref h9, .ref h13, .ref h17, .ref h21, .ref h25, .ref h29, .ref h33, .ref h37, .ref h42, .int 0, .int 0, .int 0, .int 0, .int 0, .int 0, .int 0, .int 0])) H := hR
  have hsz0 : sz ≤ H.size := by omega
  refine lv_aload_n hx hb dX4_init_93 rfl (lv_at hl 0 rfl) ?_
  refine lv_iconst (v := 0) hx hb dX4_init_94 (by decide) ?_
  refine th_putR (ty := .int) (v := .int 0) S hK hH hS (Or.inl rfl) hn hR inG4 tyX4 tyX4_ok nmX4 rfl 11 (by decide) gm_274 rfl rfl (by decide +kernel) rfl rfl (Nat.le_of_ble_eq_true rfl) dX4_init_95 (fun H locs hR hH hS zp kp => ?_)
  have hR : va_at D classes (a, .inr (4, [.ref h1, .ref h5, .ref h9, .ref h13, .ref h17, .ref h21, .ref h25, .ref h29, .ref h33, .ref h37, .ref h42, .int 0, .int 0, .int 0, .int 0, .int 0, .int 0, .int 0, .int 0])) H := hR
  have hsz0 : sz ≤ H.size := by omega
  refine lv_aload_n hx hb dX4_init_98 rfl (lv_at hl 0 rfl) ?_
  refine lv_iconst (v := 0) hx hb dX4_init_99 (by decide) ?_
  refine th_putR (ty := .int) (v := .int 0) S hK hH hS (Or.inl rfl) hn hR inG4 tyX4 tyX4_ok nmX4 rfl 12 (by decide) gm_278 rfl rfl (by decide +kernel) rfl rfl (Nat.le_of_ble_eq_true rfl) dX4_init_100 (fun H locs hR hH hS zp kp => ?_)
  have hR : va_at D classes (a, .inr (4, [.ref h1, .ref h5, .ref h9, .ref h13, .ref h17, .ref h21, .ref h25, .ref h29, .ref h33, .ref h37, .ref h42, .int 0, .int 0, .int 0, .int 0, .int 0, .int 0, .int 0, .int 0])) H := hR
  have hsz0 : sz ≤ H.size := by omega
  refine lv_aload_n hx hb dX4_init_103 rfl (lv_at hl 0 rfl) ?_
  refine lv_iconst (v := 0) hx hb dX4_init_104 (by decide) ?_
  refine th_putR (ty := .int) (v := .int 0) S hK hH hS (Or.inl rfl) hn hR inG4 tyX4 tyX4_ok nmX4 rfl 13 (by decide) gm_284 rfl rfl (by decide +kernel) rfl rfl (Nat.le_of_ble_eq_true rfl) dX4_init_105 (fun H locs hR hH hS zp kp => ?_)
  have hR : va_at D classes (a, .inr (4, [.ref h1, .ref h5, .ref h9, .ref h13, .ref h17, .ref h21, .ref h25, .ref h29, .ref h33, .ref h37, .ref h42, .int 0, .int 0, .int 0, .int 0, .int 0, .int 0, .int 0, .int 0])) H := hR
  have hsz0 : sz ≤ H.size := by omega
  refine lv_aload_n hx hb dX4_init_108 rfl (lv_at hl 0 rfl) ?_
  refine lv_iconst (v := 0) hx hb dX4_init_109 (by decide) ?_
  refine th_putR (ty := .int) (v := .int 0) S hK hH hS (Or.inl rfl) hn hR inG4 tyX4 tyX4_ok nmX4 rfl 14 (by decide) gm_288 rfl rfl (by decide +kernel) rfl rfl (Nat.le_of_ble_eq_true rfl) dX4_init_110 (fun H locs hR hH hS zp kp => ?_)
  have hR : va_at D classes (a, .inr (4, [.ref h1, .ref h5, .ref h9, .ref h13, .ref h17, .ref h21, .ref h25, .ref h29, .ref h33, .ref h37, .ref h42, .int 0, .int 0, .int 0, .int 0, .int 0, .int 0, .int 0, .int 0])) H := hR
  have hsz0 : sz ≤ H.size := by omega
  refine lv_aload_n hx hb dX4_init_113 rfl (lv_at hl 0 rfl) ?_
  refine lv_iconst (v := 0) hx hb dX4_init_114 (by decide) ?_
  refine th_putR (ty := .int) (v := .int 0) S hK hH hS (Or.inl rfl) hn hR inG4 tyX4 tyX4_ok nmX4 rfl 15 (by decide) gm_291 rfl rfl (by decide +kernel) rfl rfl (Nat.le_of_ble_eq_true rfl) dX4_init_115 (fun H locs hR hH hS zp kp => ?_)
  have hR : va_at D classes (a, .inr (4, [.ref h1, .ref h5, .ref h9, .ref h13, .ref h17, .ref h21, .ref h25, .ref h29, .ref h33, .ref h37, .ref h42, .int 0, .int 0, .int 0, .int 0, .int 0, .int 0, .int 0, .int 0])) H := hR
  have hsz0 : sz ≤ H.size := by omega
  refine lv_aload_n hx hb dX4_init_118 rfl (lv_at hl 0 rfl) ?_
  refine lv_iconst (v := 0) hx hb dX4_init_119 (by decide) ?_
  refine th_putR (ty := .boolean) (v := .int 0) S hK hH hS (Or.inl rfl) hn hR inG4 tyX4 tyX4_ok nmX4 rfl 16 (by decide) gm_293 rfl rfl (by decide +kernel) rfl rfl (Nat.le_of_ble_eq_true rfl) dX4_init_120 (fun H locs hR hH hS zp kp => ?_)
  have hR : va_at D classes (a, .inr (4, [.ref h1, .ref h5, .ref h9, .ref h13, .ref h17, .ref h21, .ref h25, .ref h29, .ref h33, .ref h37, .ref h42, .int 0, .int 0, .int 0, .int 0, .int 0, .int 0, .int 0, .int 0])) H := hR
  have hsz0 : sz ≤ H.size := by omega
  refine lv_aload_n hx hb dX4_init_123 rfl (lv_at hl 0 rfl) ?_
  refine lv_iconst (v := 0) hx hb dX4_init_124 (by decide) ?_
  refine th_putR (ty := .boolean) (v := .int 0) S hK hH hS (Or.inl rfl) hn hR inG4 tyX4 tyX4_ok nmX4 rfl 17 (by decide) gm_296 rfl rfl (by decide +kernel) rfl rfl (Nat.le_of_ble_eq_true rfl) dX4_init_125 (fun H locs hR hH hS zp kp => ?_)
  have hR : va_at D classes (a, .inr (4, [.ref h1, .ref h5, .ref h9, .ref h13, .ref h17, .ref h21, .ref h25, .ref h29, .ref h33, .ref h37, .ref h42, .int 0, .int 0, .int 0, .int 0, .int 0, .int 0, .int 0, .int 0])) H := hR
  have hsz0 : sz ≤ H.size := by omega
  refine lv_aload_n hx hb dX4_init_128 rfl (lv_at hl 0 rfl) ?_
  refine lv_iconst (v := 0) hx hb dX4_init_129 (by decide) ?_
  refine th_putR (ty := .boolean) (v := .int 0) S hK hH hS (Or.inl rfl) hn hR inG4 tyX4 tyX4_ok nmX4 rfl 18 (by decide) gm_298 rfl rfl (by decide +kernel) rfl rfl (Nat.le_of_ble_eq_true rfl) dX4_init_130 (fun H locs hR hH hS zp kp => ?_)
  have hR : va_at D classes (a, .inr (4, [.ref h1, .ref h5, .ref h9, .ref h13, .ref h17, .ref h21, .ref h25, .ref h29, .ref h33, .ref h37, .ref h42, .int 0, .int 0, .int 0, .int 0, .int 0, .int 0, .int 0, .int 0])) H := hR
  have hsz0 : sz ≤ H.size := by omega
  have ho : th_Ol (th_new T43 a 3) [.inr 21, .inr 22, .inr 23, .inr 24, .inr 25, .inr 26, .inr 27, .inr 28, .inr 29, .inr 10, .inr 11, .inl (0, 3), .inl (0, 4), .inl (0, 8), .inl (-2147483648, 2147483647), .inl (-2147483648, 2147483647), .inl (0, 1), .inl (0, 1), .inl (0, 1)] [.ref h1, .ref h5, .ref h9, .ref h13, .ref h17, .ref h21, .ref h25, .ref h29, .ref h33, .ref h37, .ref h42, .int 0, .int 0, .int 0, .int 0, .int 0, .int 0, .int 0, .int 0] := (th_Ol.cons (⟨h1, rfl, th_new_sub hn _ _ (mo45 _ _ (mo40 _ _ (mo35 _ _ (mo31 _ _ (mo27 _ _ (mo23 _ _ (mo19 _ _ (mo15 _ _ (mo11 _ _ (mo7 _ _ fh1))))))))))⟩) (th_Ol.cons (⟨h5, rfl, th_new_sub hn _ _ (mo45 _ _ (mo40 _ _ (mo35 _ _ (mo31 _ _ (mo27 _ _ (mo23 _ _ (mo19 _ _ (mo15 _ _ (mo11 _ _ fh5)))))))))⟩) (th_Ol.cons (⟨h9, rfl, th_new_sub hn _ _ (mo45 _ _ (mo40 _ _ (mo35 _ _ (mo31 _ _ (mo27 _ _ (mo23 _ _ (mo19 _ _ (mo15 _ _ fh9))))))))⟩) (th_Ol.cons (⟨h13, rfl, th_new_sub hn _ _ (mo45 _ _ (mo40 _ _ (mo35 _ _ (mo31 _ _ (mo27 _ _ (mo23 _ _ (mo19 _ _ fh13)))))))⟩) (th_Ol.cons (⟨h17, rfl, th_new_sub hn _ _ (mo45 _ _ (mo40 _ _ (mo35 _ _ (mo31 _ _ (mo27 _ _ (mo23 _ _ fh17))))))⟩) (th_Ol.cons (⟨h21, rfl, th_new_sub hn _ _ (mo45 _ _ (mo40 _ _ (mo35 _ _ (mo31 _ _ (mo27 _ _ fh21)))))⟩) (th_Ol.cons (⟨h25, rfl, th_new_sub hn _ _ (mo45 _ _ (mo40 _ _ (mo35 _ _ (mo31 _ _ fh25))))⟩) (th_Ol.cons (⟨h29, rfl, th_new_sub hn _ _ (mo45 _ _ (mo40 _ _ (mo35 _ _ fh29)))⟩) (th_Ol.cons (⟨h33, rfl, th_new_sub hn _ _ (mo45 _ _ (mo40 _ _ fh33))⟩) (th_Ol.cons (⟨h37, rfl, th_new_sub hn _ _ (mo45 _ _ x39.1)⟩) (th_Ol.cons (⟨h42, rfl, th_new_sub hn _ _ x44.1⟩) (th_Ol.cons (⟨_, rfl, by decide, by decide⟩) (th_Ol.cons (⟨_, rfl, by decide, by decide⟩) (th_Ol.cons (⟨_, rfl, by decide, by decide⟩) (th_Ol.cons (⟨_, rfl, by decide, by decide⟩) (th_Ol.cons (⟨_, rfl, by decide, by decide⟩) (th_Ol.cons (⟨_, rfl, by decide, by decide⟩) (th_Ol.cons (⟨_, rfl, by decide, by decide⟩) (th_Ol.cons (⟨_, rfl, by decide, by decide⟩) th_Ol.nil)))))))))))))))))))
  have hH := th_type (k := 3) (ci := 4) hH hn hR kd_3 ⟨ho.1, ho.2, trivial⟩
  refine W.widen (k := 17) (n := 1787) (by decide) (by decide) ?_
  exact th_vretC S hK hH hS hr hlocks ((gr46.sub (by decide)).fin) dX4_init_133

set_option maxHeartbeats 4000000 in
set_option maxRecDepth 100000 in
theorem k_X4_init_k46 (l : Launch) (D : va_G) (cT : Nat → ClassId) (T : Nat → Option Nat) (a sz : Nat) : th_MetC l D cT T (kd qz) [0, 2, 3, 4, 5, 7, 8, 46] yX4_init cX4_init 1 (rmc 2 17 1787 32) 4 [.null, .null, .null, .null, .null, .null, .null, .null, .null, .null, .null, .int 0, .int 0, .int 0, .int 0, .int 0, .int 0, .int 0, .int 0] [] a sz 46 [10, 29, 56, 61, 60, 59, 58, 57, 55, 54, 53, 52, 51, 50, 49, 48, 47] 17 1787 := by
  refine th_startC (by decide) (Nat.le_of_ble_eq_true rfl) ⟨rfl, rfl⟩ ?_
  intro p e s m below meth c ls S hK hO hH0 hsz hn hR0 hr hlocks hnm hl
  have hx := S.1; have hb := S.2.1
  have hown := S.2.2.2.1; have hts := S.2.2.2.2
  have hA : ∀ q, s.heap.size ≤ q → th_cA a sz q := fun q h => Or.inr (by omega)
  have gr0 : th_grow [0, 2, 3, 4, 5, 7, 8, 46] T T sz [] := th_grow.rf (fun b hb => hH0.free (by omega))
  have hl : lv_has ls 1 [(0, .ref a)] := hl
  have hla0 : a < sz := by have := hR0.lt; have h2 : a < s.heap.size := this; omega
  suffices main : ∀ (H : Heap) (locs : List Loc), th_H D cT T (kd qz) H → va_at D classes (a, .inr (4, [.null, .null, .null, .null, .null, .null, .null, .null, .null, .null, .null, .int 0, .int 0, .int 0, .int 0, .int 0, .int 0, .int 0, .int 0])) H → va_S (th_cA a sz) s.heap H locs → sz ≤ H.size → W p l e (rmc 2 17 1787 32) s m [.ref a].toArray below meth c H locs 0 0 (MQ below (th_QC D cT T (kd qz) [0, 2, 3, 4, 5, 7, 8, 46] a 46 sz [10, 29, 56, 61, 60, 59, 58, 57, 55, 54, 53, 52, 51, 50, 49, 48, 47]) [.ref a].toArray s 17 1787 (th_cA a sz)) (F0 m 0 ls []) from main s.heap [] hH0 hR0 va_S.rf (by omega)
  intro H locs hH hR hS hsz0
  refine lv_aload_n hx hb dX4_init_0 rfl (lv_at hl 0 rfl) ?_
  refine W.objInit hx hb hown (hts _ gm_187) (hts _ gm_140) (hts _ gm_141) rfl (hl.1.trans S.2.2.1.symm) rfl dX4_init_1 (Nat.le_of_ble_eq_true rfl) (Nat.le_of_ble_eq_true rfl) ?_
  refine W.eq (g2 := F0 m 4 ls []) rfl ?_
  refine lv_aload_n hx hb dX4_init_4 rfl (lv_at hl 0 rfl) ?_
  refine lv_iconst (v := 3) hx hb dX4_init_5 (by decide) ?_
  refine th_newa (atype := .long) (t := 2) (N := 3) S hK hH hS 47 gm_175 rfl kd_47 (fun T2 j hj => ⟨0, rfl⟩) (by decide) (by decide) (by decide) (by decide) (by decide) dX4_init_6 (fun h1 H eh1 hH nh1 hS zh1 kh1 => ?_)
  have neh1 : a ≠ h1 := by omega
  have hR : va_at D classes (a, .inr (4, [.null, .null, .null, .null, .null, .null, .null, .null, .null, .null, .null, .int 0, .int 0, .int 0, .int 0, .int 0, .int 0, .int 0, .int 0])) H := hR.kept (kh1 a (by omega))
  have hsz0 : sz ≤ H.size := by omega
  obtain ⟨T2, eT2⟩ : ∃ t, t = th_new T h1 47 := ⟨_, rfl⟩
  rw [← eT2] at hH
  have mo3 : ∀ b j, T b = some j → T2 b = some j := by rw [eT2]; exact th_new_sub nh1
  have gr4 : th_grow [0, 2, 3, 4, 5, 7, 8, 46] T T2 sz [47] := by rw [eT2]; exact gr0.new (by omega) (by decide)
  have fh1 : T2 h1 = some 47 := by rw [eT2]; exact th_new_self
  have hn : T2 a = none := by rw [eT2]; exact (th_new_ne neh1).trans hn
  refine th_putRF (ty := .array .long) (v := .ref h1) S hK hH hS (Or.inl rfl) hn hR inG4 tyX4 tyX4_ok nmX4 rfl 0 (by decide) gm_235 rfl rfl hnm rfl (by decide +kernel) rfl rfl (Nat.le_of_ble_eq_true rfl) dX4_init_8 (fun H locs hR hH hS zp kp => ?_)
  have hR : va_at D classes (a, .inr (4, [.ref h1, .null, .null, .null, .null, .null, .null, .null, .null, .null, .null, .int 0, .int 0, .int 0, .int 0, .int 0, .int 0, .int 0, .int 0])) H := hR
  have hsz0 : sz ≤ H.size := by omega
  refine lv_aload_n hx hb dX4_init_11 rfl (lv_at hl 0 rfl) ?_
  refine lv_iconst (v := 4) hx hb dX4_init_12 (by decide) ?_
  refine th_newa (atype := .long) (t := 2) (N := 4) S hK hH hS 48 gm_175 rfl kd_48 (fun T2 j hj => ⟨0, rfl⟩) (by decide) (by decide) (by decide) (by decide) (by decide) dX4_init_13 (fun h5 H eh5 hH nh5 hS zh5 kh5 => ?_)
  have neh5 : a ≠ h5 := by omega
  have hR : va_at D classes (a, .inr (4, [.ref h1, .null, .null, .null, .null, .null, .null, .null, .null, .null, .null, .int 0, .int 0, .int 0, .int 0, .int 0, .int 0, .int 0, .int 0])) H := hR.kept (kh5 a (by omega))
  have hsz0 : sz ≤ H.size := by omega
  obtain ⟨T6, eT6⟩ : ∃ t, t = th_new T2 h5 48 := ⟨_, rfl⟩
  rw [← eT6] at hH
  have mo7 : ∀ b j, T2 b = some j → T6 b = some j := by rw [eT6]; exact th_new_sub nh5
  have gr8 : th_grow [0, 2, 3, 4, 5, 7, 8, 46] T T6 sz [48, 47] := by rw [eT6]; exact gr4.new (by omega) (by decide)
  have fh5 : T6 h5 = some 48 := by rw [eT6]; exact th_new_self
  have hn : T6 a = none := by rw [eT6]; exact (th_new_ne neh5).trans hn
  refine th_putRF (ty := .array .long) (v := .ref h5) S hK hH hS (Or.inl rfl) hn hR inG4 tyX4 tyX4_ok nmX4 rfl 1 (by decide) gm_237 rfl rfl hnm rfl (by decide +kernel) rfl rfl (Nat.le_of_ble_eq_true rfl) dX4_init_15 (fun H locs hR hH hS zp kp => ?_)
  have hR : va_at D classes (a, .inr (4, [.ref h1, .ref h5, .null, .null, .null, .null, .null, .null, .null, .null, .null, .int 0, .int 0, .int 0, .int 0, .int 0, .int 0, .int 0, .int 0])) H := hR
  have hsz0 : sz ≤ H.size := by omega
  refine lv_aload_n hx hb dX4_init_18 rfl (lv_at hl 0 rfl) ?_
  refine lv_bipush (v := 8) hx hb dX4_init_19 (by decide) ?_
  refine th_newa (atype := .long) (t := 2) (N := 8) S hK hH hS 49 gm_175 rfl kd_49 (fun T2 j hj => ⟨0, rfl⟩) (by decide) (by decide) (by decide) (by decide) (by decide) dX4_init_21 (fun h9 H eh9 hH nh9 hS zh9 kh9 => ?_)
  have neh9 : a ≠ h9 := by omega
  have hR : va_at D classes (a, .inr (4, [.ref h1, .ref h5, .null, .null, .null, .null, .null, .null, .null, .null, .null, .int 0, .int 0, .int 0, .int 0, .int 0, .int 0, .int 0, .int 0])) H := hR.kept (kh9 a (by omega))
  have hsz0 : sz ≤ H.size := by omega
  obtain ⟨T10, eT10⟩ : ∃ t, t = th_new T6 h9 49 := ⟨_, rfl⟩
  rw [← eT10] at hH
  have mo11 : ∀ b j, T6 b = some j → T10 b = some j := by rw [eT10]; exact th_new_sub nh9
  have gr12 : th_grow [0, 2, 3, 4, 5, 7, 8, 46] T T10 sz [49, 48, 47] := by rw [eT10]; exact gr8.new (by omega) (by decide)
  have fh9 : T10 h9 = some 49 := by rw [eT10]; exact th_new_self
  have hn : T10 a = none := by rw [eT10]; exact (th_new_ne neh9).trans hn
  refine th_putRF (ty := .array .long) (v := .ref h9) S hK hH hS (Or.inl rfl) hn hR inG4 tyX4 tyX4_ok nmX4 rfl 2 (by decide) gm_239 rfl rfl hnm rfl (by decide +kernel) rfl rfl (Nat.le_of_ble_eq_true rfl) dX4_init_23 (fun H locs hR hH hS zp kp => ?_)
  have hR : va_at D classes (a, .inr (4, [.ref h1, .ref h5, .ref h9, .null, .null, .null, .null, .null, .null, .null, .null, .int 0, .int 0, .int 0, .int 0, .int 0, .int 0, .int 0, .int 0])) H := hR
  have hsz0 : sz ≤ H.size := by omega
  refine lv_aload_n hx hb dX4_init_26 rfl (lv_at hl 0 rfl) ?_
  refine lv_iconst (v := 4) hx hb dX4_init_27 (by decide) ?_
  refine th_newa (atype := .int) (t := 0) (N := 4) S hK hH hS 50 gm_174 rfl kd_50 (fun T2 j hj => ⟨0, rfl, by decide, by decide⟩) (by decide) (by decide) (by decide) (by decide) (by decide) dX4_init_28 (fun h13 H eh13 hH nh13 hS zh13 kh13 => ?_)
  have neh13 : a ≠ h13 := by omega
  have hR : va_at D classes (a, .inr (4, [.ref h1, .ref h5, .ref h9, .null, .null, .null, .null, .null, .null, .null, .null, .int 0, .int 0, .int 0, .int 0, .int 0, .int 0, .int 0, .int 0])) H := hR.kept (kh13 a (by omega))
  have hsz0 : sz ≤ H.size := by omega
  obtain ⟨T14, eT14⟩ : ∃ t, t = th_new T10 h13 50 := ⟨_, rfl⟩
  rw [← eT14] at hH
  have mo15 : ∀ b j, T10 b = some j → T14 b = some j := by rw [eT14]; exact th_new_sub nh13
  have gr16 : th_grow [0, 2, 3, 4, 5, 7, 8, 46] T T14 sz [50, 49, 48, 47] := by rw [eT14]; exact gr12.new (by omega) (by decide)
  have fh13 : T14 h13 = some 50 := by rw [eT14]; exact th_new_self
  have hn : T14 a = none := by rw [eT14]; exact (th_new_ne neh13).trans hn
  refine th_putRF (ty := .array .int) (v := .ref h13) S hK hH hS (Or.inl rfl) hn hR inG4 tyX4 tyX4_ok nmX4 rfl 3 (by decide) gm_241 rfl rfl hnm rfl (by decide +kernel) rfl rfl (Nat.le_of_ble_eq_true rfl) dX4_init_30 (fun H locs hR hH hS zp kp => ?_)
  have hR : va_at D classes (a, .inr (4, [.ref h1, .ref h5, .ref h9, .ref h13, .null, .null, .null, .null, .null, .null, .null, .int 0, .int 0, .int 0, .int 0, .int 0, .int 0, .int 0, .int 0])) H := hR
  have hsz0 : sz ≤ H.size := by omega
  refine lv_aload_n hx hb dX4_init_33 rfl (lv_at hl 0 rfl) ?_
  refine lv_bipush (v := 8) hx hb dX4_init_34 (by decide) ?_
  refine th_newa (atype := .int) (t := 0) (N := 8) S hK hH hS 51 gm_174 rfl kd_51 (fun T2 j hj => ⟨0, rfl, by decide, by decide⟩) (by decide) (by decide) (by decide) (by decide) (by decide) dX4_init_36 (fun h17 H eh17 hH nh17 hS zh17 kh17 => ?_)
  have neh17 : a ≠ h17 := by omega
  have hR : va_at D classes (a, .inr (4, [.ref h1, .ref h5, .ref h9, .ref h13, .null, .null, .null, .null, .null, .null, .null, .int 0, .int 0, .int 0, .int 0, .int 0, .int 0, .int 0, .int 0])) H := hR.kept (kh17 a (by omega))
  have hsz0 : sz ≤ H.size := by omega
  obtain ⟨T18, eT18⟩ : ∃ t, t = th_new T14 h17 51 := ⟨_, rfl⟩
  rw [← eT18] at hH
  have mo19 : ∀ b j, T14 b = some j → T18 b = some j := by rw [eT18]; exact th_new_sub nh17
  have gr20 : th_grow [0, 2, 3, 4, 5, 7, 8, 46] T T18 sz [51, 50, 49, 48, 47] := by rw [eT18]; exact gr16.new (by omega) (by decide)
  have fh17 : T18 h17 = some 51 := by rw [eT18]; exact th_new_self
  have hn : T18 a = none := by rw [eT18]; exact (th_new_ne neh17).trans hn
  refine th_putRF (ty := .array .int) (v := .ref h17) S hK hH hS (Or.inl rfl) hn hR inG4 tyX4 tyX4_ok nmX4 rfl 4 (by decide) gm_245 rfl rfl hnm rfl (by decide +kernel) rfl rfl (Nat.le_of_ble_eq_true rfl) dX4_init_38 (fun H locs hR hH hS zp kp => ?_)
  have hR : va_at D classes (a, .inr (4, [.ref h1, .ref h5, .ref h9, .ref h13, .ref h17, .null, .null, .null, .null, .null, .null, .int 0, .int 0, .int 0, .int 0, .int 0, .int 0, .int 0, .int 0])) H := hR
  have hsz0 : sz ≤ H.size := by omega
  refine lv_aload_n hx hb dX4_init_41 rfl (lv_at hl 0 rfl) ?_
  refine lv_bipush (v := 8) hx hb dX4_init_42 (by decide) ?_
  refine th_newa (atype := .int) (t := 0) (N := 8) S hK hH hS 52 gm_174 rfl kd_52 (fun T2 j hj => ⟨0, rfl, by decide, by decide⟩) (by decide) (by decide) (by decide) (by decide) (by decide) dX4_init_44 (fun h21 H eh21 hH nh21 hS zh21 kh21 => ?_)
  have neh21 : a ≠ h21 := by omega
  have hR : va_at D classes (a, .inr (4, [.ref h1, .ref h5, .ref h9, .ref h13, .ref h17, .null, .null, .null, .null, .null, .null, .int 0, .int 0, .int 0, .int 0, .int 0, .int 0, .int 0, .int 0])) H := hR.kept (kh21 a (by omega))
  have hsz0 : sz ≤ H.size := by omega
  obtain ⟨T22, eT22⟩ : ∃ t, t = th_new T18 h21 52 := ⟨_, rfl⟩
  rw [← eT22] at hH
  have mo23 : ∀ b j, T18 b = some j → T22 b = some j := by rw [eT22]; exact th_new_sub nh21
  have gr24 : th_grow [0, 2, 3, 4, 5, 7, 8, 46] T T22 sz [52, 51, 50, 49, 48, 47] := by rw [eT22]; exact gr20.new (by omega) (by decide)
  have fh21 : T22 h21 = some 52 := by rw [eT22]; exact th_new_self
  have hn : T22 a = none := by rw [eT22]; exact (th_new_ne neh21).trans hn
  refine th_putRF (ty := .array .int) (v := .ref h21) S hK hH hS (Or.inl rfl) hn hR inG4 tyX4 tyX4_ok nmX4 rfl 5 (by decide) gm_249 rfl rfl hnm rfl (by decide +kernel) rfl rfl (Nat.le_of_ble_eq_true rfl) dX4_init_46 (fun H locs hR hH hS zp kp => ?_)
  have hR : va_at D classes (a, .inr (4, [.ref h1, .ref h5, .ref h9, .ref h13, .ref h17, .ref h21, .null, .null, .null, .null, .null, .int 0, .int 0, .int 0, .int 0, .int 0, .int 0, .int 0, .int 0])) H := hR
  have hsz0 : sz ≤ H.size := by omega
  refine lv_aload_n hx hb dX4_init_49 rfl (lv_at hl 0 rfl) ?_
  refine lv_iconst (v := 4) hx hb dX4_init_50 (by decide) ?_
  refine th_newa (atype := .int) (t := 0) (N := 4) S hK hH hS 53 gm_174 rfl kd_53 (fun T2 j hj => ⟨0, rfl, by decide, by decide⟩) (by decide) (by decide) (by decide) (by decide) (by decide) dX4_init_51 (fun h25 H eh25 hH nh25 hS zh25 kh25 => ?_)
  have neh25 : a ≠ h25 := by omega
  have hR : va_at D classes (a, .inr (4, [.ref h1, .ref h5, .ref h9, .ref h13, .ref h17, .ref h21, .null, .null, .null, .null, .null, .int 0, .int 0, .int 0, .int 0, .int 0, .int 0, .int 0, .int 0])) H := hR.kept (kh25 a (by omega))
  have hsz0 : sz ≤ H.size := by omega
  obtain ⟨T26, eT26⟩ : ∃ t, t = th_new T22 h25 53 := ⟨_, rfl⟩
  rw [← eT26] at hH
  have mo27 : ∀ b j, T22 b = some j → T26 b = some j := by rw [eT26]; exact th_new_sub nh25
  have gr28 : th_grow [0, 2, 3, 4, 5, 7, 8, 46] T T26 sz [53, 52, 51, 50, 49, 48, 47] := by rw [eT26]; exact gr24.new (by omega) (by decide)
  have fh25 : T26 h25 = some 53 := by rw [eT26]; exact th_new_self
  have hn : T26 a = none := by rw [eT26]; exact (th_new_ne neh25).trans hn
  refine th_putRF (ty := .array .int) (v := .ref h25) S hK hH hS (Or.inl rfl) hn hR inG4 tyX4 tyX4_ok nmX4 rfl 6 (by decide) gm_252 rfl rfl hnm rfl (by decide +kernel) rfl rfl (Nat.le_of_ble_eq_true rfl) dX4_init_53 (fun H locs hR hH hS zp kp => ?_)
  have hR : va_at D classes (a, .inr (4, [.ref h1, .ref h5, .ref h9, .ref h13, .ref h17, .ref h21, .ref h25, .null, .null, .null, .null, .int 0, .int 0, .int 0, .int 0, .int 0, .int 0, .int 0, .int 0])) H := hR
  have hsz0 : sz ≤ H.size := by omega
  refine lv_aload_n hx hb dX4_init_56 rfl (lv_at hl 0 rfl) ?_
  refine lv_iconst (v := 4) hx hb dX4_init_57 (by decide) ?_
  refine th_newa (atype := .int) (t := 0) (N := 4) S hK hH hS 54 gm_174 rfl kd_54 (fun T2 j hj => ⟨0, rfl, by decide, by decide⟩) (by decide) (by decide) (by decide) (by decide) (by decide) dX4_init_58 (fun h29 H eh29 hH nh29 hS zh29 kh29 => ?_)
  have neh29 : a ≠ h29 := by omega
  have hR : va_at D classes (a, .inr (4, [.ref h1, .ref h5, .ref h9, .ref h13, .ref h17, .ref h21, .ref h25, .null, .null, .null, .null, .int 0, .int 0, .int 0, .int 0, .int 0, .int 0, .int 0, .int 0])) H := hR.kept (kh29 a (by omega))
  have hsz0 : sz ≤ H.size := by omega
  obtain ⟨T30, eT30⟩ : ∃ t, t = th_new T26 h29 54 := ⟨_, rfl⟩
  rw [← eT30] at hH
  have mo31 : ∀ b j, T26 b = some j → T30 b = some j := by rw [eT30]; exact th_new_sub nh29
  have gr32 : th_grow [0, 2, 3, 4, 5, 7, 8, 46] T T30 sz [54, 53, 52, 51, 50, 49, 48, 47] := by rw [eT30]; exact gr28.new (by omega) (by decide)
  have fh29 : T30 h29 = some 54 := by rw [eT30]; exact th_new_self
  have hn : T30 a = none := by rw [eT30]; exact (th_new_ne neh29).trans hn
  refine th_putRF (ty := .array .int) (v := .ref h29) S hK hH hS (Or.inl rfl) hn hR inG4 tyX4 tyX4_ok nmX4 rfl 7 (by decide) gm_257 rfl rfl hnm rfl (by decide +kernel) rfl rfl (Nat.le_of_ble_eq_true rfl) dX4_init_60 (fun H locs hR hH hS zp kp => ?_)
  have hR : va_at D classes (a, .inr (4, [.ref h1, .ref h5, .ref h9, .ref h13, .ref h17, .ref h21, .ref h25, .ref h29, .null, .null, .null, .int 0, .int 0, .int 0, .int 0, .int 0, .int 0, .int 0, .int 0])) H := hR
  have hsz0 : sz ≤ H.size := by omega
  refine lv_aload_n hx hb dX4_init_63 rfl (lv_at hl 0 rfl) ?_
  refine lv_bipush (v := 12) hx hb dX4_init_64 (by decide) ?_
  refine th_newa (atype := .int) (t := 0) (N := 12) S hK hH hS 55 gm_174 rfl kd_55 (fun T2 j hj => ⟨0, rfl, by decide, by decide⟩) (by decide) (by decide) (by decide) (by decide) (by decide) dX4_init_66 (fun h33 H eh33 hH nh33 hS zh33 kh33 => ?_)
  have neh33 : a ≠ h33 := by omega
  have hR : va_at D classes (a, .inr (4, [.ref h1, .ref h5, .ref h9, .ref h13, .ref h17, .ref h21, .ref h25, .ref h29, .null, .null, .null, .int 0, .int 0, .int 0, .int 0, .int 0, .int 0, .int 0, .int 0])) H := hR.kept (kh33 a (by omega))
  have hsz0 : sz ≤ H.size := by omega
  obtain ⟨T34, eT34⟩ : ∃ t, t = th_new T30 h33 55 := ⟨_, rfl⟩
  rw [← eT34] at hH
  have mo35 : ∀ b j, T30 b = some j → T34 b = some j := by rw [eT34]; exact th_new_sub nh33
  have gr36 : th_grow [0, 2, 3, 4, 5, 7, 8, 46] T T34 sz [55, 54, 53, 52, 51, 50, 49, 48, 47] := by rw [eT34]; exact gr32.new (by omega) (by decide)
  have fh33 : T34 h33 = some 55 := by rw [eT34]; exact th_new_self
  have hn : T34 a = none := by rw [eT34]; exact (th_new_ne neh33).trans hn
  refine th_putRF (ty := .array .int) (v := .ref h33) S hK hH hS (Or.inl rfl) hn hR inG4 tyX4 tyX4_ok nmX4 rfl 8 (by decide) gm_262 rfl rfl hnm rfl (by decide +kernel) rfl rfl (Nat.le_of_ble_eq_true rfl) dX4_init_68 (fun H locs hR hH hS zp kp => ?_)
  have hR : va_at D classes (a, .inr (4, [.ref h1, .ref h5, .ref h9, .ref h13, .ref h17, .ref h21, .ref h25, .ref h29, .ref h33, .null, .null, .int 0, .int 0, .int 0, .int 0, .int 0, .int 0, .int 0, .int 0])) H := hR
  have hsz0 : sz ≤ H.size := by omega
  refine lv_aload_n hx hb dX4_init_71 rfl (lv_at hl 0 rfl) ?_
  refine th_newo (ci := 2) (fs := [.null, .null, .null, .null, .null, .int 0, .int 0]) S hK hH hS inG2 tyX2 tyX2_ok gm_188 gm_189 gm_117 rfl (fun j hj => by have : j < 7 := hj; rcases (show j = 0 ∨ j = 1 ∨ j = 2 ∨ j = 3 ∨ j = 4 ∨ j = 5 ∨ j = 6 by omega) with rfl | rfl | rfl | rfl | rfl | rfl | rfl <;> rfl) (by decide) (by decide) dX4_init_72 (fun h37 H eh37 hH nh37 rh37 hS zh37 kh37 => ?_)
  have neh37 : a ≠ h37 := by omega
  have hR : va_at D classes (a, .inr (4, [.ref h1, .ref h5, .ref h9, .ref h13, .ref h17, .ref h21, .ref h25, .ref h29, .ref h33, .null, .null, .int 0, .int 0, .int 0, .int 0, .int 0, .int 0, .int 0, .int 0])) H := hR.kept (kh37 a (by omega))
  have hsz0 : sz ≤ H.size := by omega
  refine lv_dup hx hb dX4_init_75 rfl ?_
  refine th_callCN (n := 0) (host := RX10) (As := []) S hK hO hH hS hA (Or.inr (by omega)) rfl nh37 rh37 (k_X2_init_k56 l D cT T34 h37 H.size) gm_192 (by decide +kernel) gm_191 gm_117 rfl (by decide +kernel) ⟨rfl, rfl, Nat.le_of_ble_eq_true rfl, Nat.le_of_ble_eq_true rfl⟩ rfl hl.1 rfl (Nat.le_of_ble_eq_true rfl) dX4_init_76 ⟨Nat.le_of_ble_eq_true rfl, Nat.le_of_ble_eq_true rfl⟩ (fun T38 H locs x39 hH2 hS zx39 kx39 => ?_)
  have mo40 : ∀ b j, T34 b = some j → T38 b = some j := x39.mono hH (Nat.le_refl _) nh37
  have gr41 : th_grow [0, 2, 3, 4, 5, 7, 8, 46] T T38 sz [56, 61, 60, 59, 58, 57, 55, 54, 53, 52, 51, 50, 49, 48, 47] := gr36.ext x39 hsz0 (by omega) (by decide)
  have hR : va_at D classes (a, .inr (4, [.ref h1, .ref h5, .ref h9, .ref h13, .ref h17, .ref h21, .ref h25, .ref h29, .ref h33, .null, .null, .int 0, .int 0, .int 0, .int 0, .int 0, .int 0, .int 0, .int 0])) H := hR.kept (kx39 a (by omega) neh37)
  have hsz0 : sz ≤ H.size := by omega
  have hH := hH2; clear hH2
  have hn : T38 a = none := (x39.2.1 a (by omega) neh37).trans hn
  refine th_putRF (ty := .object "HungryMaps$Formulas") (v := .ref h37) S hK hH hS (Or.inl rfl) hn hR inG4 tyX4 tyX4_ok nmX4 rfl 9 (by decide) gm_267 rfl rfl hnm rfl (by decide +kernel) rfl rfl (Nat.le_of_ble_eq_true rfl) dX4_init_79 (fun H locs hR hH hS zp kp => ?_)
  have hR : va_at D classes (a, .inr (4, [.ref h1, .ref h5, .ref h9, .ref h13, .ref h17, .ref h21, .ref h25, .ref h29, .ref h33, .ref h37, .null, .int 0, .int 0, .int 0, .int 0, .int 0, .int 0, .int 0, .int 0])) H := hR
  have hsz0 : sz ≤ H.size := by omega
  refine lv_aload_n hx hb dX4_init_82 rfl (lv_at hl 0 rfl) ?_
  refine th_newo (ci := 7) (fs := [.null]) S hK hH hS inG7 tyX7 tyX7_ok gm_219 gm_220 gm_118 rfl (fun j hj => by have : j < 1 := hj; rcases (show j = 0 by omega) with rfl <;> rfl) (by decide) (by decide) dX4_init_83 (fun h42 H eh42 hH nh42 rh42 hS zh42 kh42 => ?_)
  have neh42 : a ≠ h42 := by omega
  have hR : va_at D classes (a, .inr (4, [.ref h1, .ref h5, .ref h9, .ref h13, .ref h17, .ref h21, .ref h25, .ref h29, .ref h33, .ref h37, .null, .int 0, .int 0, .int 0, .int 0, .int 0, .int 0, .int 0, .int 0])) H := hR.kept (kh42 a (by omega))
  have hsz0 : sz ≤ H.size := by omega
  refine lv_dup hx hb dX4_init_86 rfl ?_
  refine th_callCN (n := 0) (host := RX10) (As := []) S hK hO hH hS hA (Or.inr (by omega)) rfl nh42 rh42 (k_X7_init_k10 l D cT T38 h42 H.size) gm_223 (by decide +kernel) gm_222 gm_118 rfl (by decide +kernel) ⟨rfl, rfl, Nat.le_of_ble_eq_true rfl, Nat.le_of_ble_eq_true rfl⟩ rfl hl.1 rfl (Nat.le_of_ble_eq_true rfl) dX4_init_87 ⟨Nat.le_of_ble_eq_true rfl, Nat.le_of_ble_eq_true rfl⟩ (fun T43 H locs x44 hH2 hS zx44 kx44 => ?_)
  have mo45 : ∀ b j, T38 b = some j → T43 b = some j := x44.mono hH (Nat.le_refl _) nh42
  have gr46 : th_grow [0, 2, 3, 4, 5, 7, 8, 46] T T43 sz [10, 29, 56, 61, 60, 59, 58, 57, 55, 54, 53, 52, 51, 50, 49, 48, 47] := gr41.ext x44 hsz0 (by omega) (by decide)
  have hR : va_at D classes (a, .inr (4, [.ref h1, .ref h5, .ref h9, .ref h13, .ref h17, .ref h21, .ref h25, .ref h29, .ref h33, .ref h37, .null, .int 0, .int 0, .int 0, .int 0, .int 0, .int 0, .int 0, .int 0])) H := hR.kept (kx44 a (by omega) neh42)
  have hsz0 : sz ≤ H.size := by omega
  have hH := hH2; clear hH2
  have hn : T43 a = none := (x44.2.1 a (by omega) neh42).trans hn
  refine th_putRF (ty := .object "HungryMaps$State") (v := .ref h42) S hK hH hS (Or.inl rfl) hn hR inG4 tyX4 tyX4_ok nmX4 rfl 10 (by decide) gm_271 rfl rfl hnm rfl (by decide +kernel) rfl rfl (Nat.le_of_ble_eq_true rfl) dX4_init_90 (fun H locs hR hH hS zp kp => ?_)
  have hR : va_at D classes (a, .inr (4, [.ref h1, .ref h5, .ref h9, .ref h13, .ref h17, .ref h21, .ref h25, .ref h29, .ref h33, .ref h37, .ref h42, .int 0, .int 0, .int 0, .int 0, .int 0, .int 0, .int 0, .int 0])) H := hR
  have hsz0 : sz ≤ H.size := by omega
  refine lv_aload_n hx hb dX4_init_93 rfl (lv_at hl 0 rfl) ?_
  refine lv_iconst (v := 0) hx hb dX4_init_94 (by decide) ?_
  refine th_putR (ty := .int) (v := .int 0) S hK hH hS (Or.inl rfl) hn hR inG4 tyX4 tyX4_ok nmX4 rfl 11 (by decide) gm_274 rfl rfl (by decide +kernel) rfl rfl (Nat.le_of_ble_eq_true rfl) dX4_init_95 (fun H locs hR hH hS zp kp => ?_)
  have hR : va_at D classes (a, .inr (4, [.ref h1, .ref h5, .ref h9, .ref h13, .ref h17, .ref h21, .ref h25, .ref h29, .ref h33, .ref h37, .ref h42, .int 0, .int 0, .int 0, .int 0, .int 0, .int 0, .int 0, .int 0])) H := hR
  have hsz0 : sz ≤ H.size := by omega
  refine lv_aload_n hx hb dX4_init_98 rfl (lv_at hl 0 rfl) ?_
  refine lv_iconst (v := 0) hx hb dX4_init_99 (by decide) ?_
  refine th_putR (ty := .int) (v := .int 0) S hK hH hS (Or.inl rfl) hn hR inG4 tyX4 tyX4_ok nmX4 rfl 12 (by decide) gm_278 rfl rfl (by decide +kernel) rfl rfl (Nat.le_of_ble_eq_true rfl) dX4_init_100 (fun H locs hR hH hS zp kp => ?_)
  have hR : va_at D classes (a, .inr (4, [.ref h1, .ref h5, .ref h9, .ref h13, .ref h17, .ref h21, .ref h25, .ref h29, .ref h33, .ref h37, .ref h42, .int 0, .int 0, .int 0, .int 0, .int 0, .int 0, .int 0, .int 0])) H := hR
  have hsz0 : sz ≤ H.size := by omega
  refine lv_aload_n hx hb dX4_init_103 rfl (lv_at hl 0 rfl) ?_
  refine lv_iconst (v := 0) hx hb dX4_init_104 (by decide) ?_
  refine th_putR (ty := .int) (v := .int 0) S hK hH hS (Or.inl rfl) hn hR inG4 tyX4 tyX4_ok nmX4 rfl 13 (by decide) gm_284 rfl rfl (by decide +kernel) rfl rfl (Nat.le_of_ble_eq_true rfl) dX4_init_105 (fun H locs hR hH hS zp kp => ?_)
  have hR : va_at D classes (a, .inr (4, [.ref h1, .ref h5, .ref h9, .ref h13, .ref h17, .ref h21, .ref h25, .ref h29, .ref h33, .ref h37, .ref h42, .int 0, .int 0, .int 0, .int 0, .int 0, .int 0, .int 0, .int 0])) H := hR
  have hsz0 : sz ≤ H.size := by omega
  refine lv_aload_n hx hb dX4_init_108 rfl (lv_at hl 0 rfl) ?_
  refine lv_iconst (v := 0) hx hb dX4_init_109 (by decide) ?_
  refine th_putR (ty := .int) (v := .int 0) S hK hH hS (Or.inl rfl) hn hR inG4 tyX4 tyX4_ok nmX4 rfl 14 (by decide) gm_288 rfl rfl (by decide +kernel) rfl rfl (Nat.le_of_ble_eq_true rfl) dX4_init_110 (fun H locs hR hH hS zp kp => ?_)
  have hR : va_at D classes (a, .inr (4, [.ref h1, .ref h5, .ref h9, .ref h13, .ref h17, .ref h21, .ref h25, .ref h29, .ref h33, .ref h37, .ref h42, .int 0, .int 0, .int 0, .int 0, .int 0, .int 0, .int 0, .int 0])) H := hR
  have hsz0 : sz ≤ H.size := by omega
  refine lv_aload_n hx hb dX4_init_113 rfl (lv_at hl 0 rfl) ?_
  refine lv_iconst (v := 0) hx hb dX4_init_114 (by decide) ?_
  refine th_putR (ty := .int) (v := .int 0) S hK hH hS (Or.inl rfl) hn hR inG4 tyX4 tyX4_ok nmX4 rfl 15 (by decide) gm_291 rfl rfl (by decide +kernel) rfl rfl (Nat.le_of_ble_eq_true rfl) dX4_init_115 (fun H locs hR hH hS zp kp => ?_)
  have hR : va_at D classes (a, .inr (4, [.ref h1, .ref h5, .ref h9, .ref h13, .ref h17, .ref h21, .ref h25, .ref h29, .ref h33, .ref h37, .ref h42, .int 0, .int 0, .int 0, .int 0, .int 0, .int 0, .int 0, .int 0])) H := hR
  have hsz0 : sz ≤ H.size := by omega
  refine lv_aload_n hx hb dX4_init_118 rfl (lv_at hl 0 rfl) ?_
  refine lv_iconst (v := 0) hx hb dX4_init_119 (by decide) ?_
  refine th_putR (ty := .boolean) (v := .int 0) S hK hH hS (Or.inl rfl) hn hR inG4 tyX4 tyX4_ok nmX4 rfl 16 (by decide) gm_293 rfl rfl (by decide +kernel) rfl rfl (Nat.le_of_ble_eq_true rfl) dX4_init_120 (fun H locs hR hH hS zp kp => ?_)
  have hR : va_at D classes (a, .inr (4, [.ref h1, .ref h5, .ref h9, .ref h13, .ref h17, .ref h21, .ref h25, .ref h29, .ref h33, .ref h37, .ref h42, .int 0, .int 0, .int 0, .int 0, .int 0, .int 0, .int 0, .int 0])) H := hR
  have hsz0 : sz ≤ H.size := by omega
  refine lv_aload_n hx hb dX4_init_123 rfl (lv_at hl 0 rfl) ?_
  refine lv_iconst (v := 0) hx hb dX4_init_124 (by decide) ?_
  refine th_putR (ty := .boolean) (v := .int 0) S hK hH hS (Or.inl rfl) hn hR inG4 tyX4 tyX4_ok nmX4 rfl 17 (by decide) gm_296 rfl rfl (by decide +kernel) rfl rfl (Nat.le_of_ble_eq_true rfl) dX4_init_125 (fun H locs hR hH hS zp kp => ?_)
  have hR : va_at D classes (a, .inr (4, [.ref h1, .ref h5, .ref h9, .ref h13, .ref h17, .ref h21, .ref h25, .ref h29, .ref h33, .ref h37, .ref h42, .int 0, .int 0, .int 0, .int 0, .int 0, .int 0, .int 0, .int 0])) H := hR
  have hsz0 : sz ≤ H.size := by omega
  refine lv_aload_n hx hb dX4_init_128 rfl (lv_at hl 0 rfl) ?_
  refine lv_iconst (v := 0) hx hb dX4_init_129 (by decide) ?_
  refine th_putR (ty := .boolean) (v := .int 0) S hK hH hS (Or.inl rfl) hn hR inG4 tyX4 tyX4_ok nmX4 rfl 18 (by decide) gm_298 rfl rfl (by decide +kernel) rfl rfl (Nat.le_of_ble_eq_true rfl) dX4_init_130 (fun H locs hR hH hS zp kp => ?_)
  have hR : va_at D classes (a, .inr (4, [.ref h1, .ref h5, .ref h9, .ref h13, .ref h17, .ref h21, .ref h25, .ref h29, .ref h33, .ref h37, .ref h42, .int 0, .int 0, .int 0, .int 0, .int 0, .int 0, .int 0, .int 0])) H := hR
  have hsz0 : sz ≤ H.size := by omega
  have ho : th_Ol (th_new T43 a 46) [.inr 48, .inr 49, .inr 50, .inr 51, .inr 52, .inr 53, .inr 54, .inr 55, .inr 56, .inr 57, .inr 11, .inl (qz 3, qz 3), .inl (qz 4, qz 4), .inl (qz 5, qz 5), .inl (-2147483648, 2147483647), .inl (-2147483648, 2147483647), .inl (0, 1), .inl (0, 1), .inl (0, 1)] [.ref h1, .ref h5, .ref h9, .ref h13, .ref h17, .ref h21, .ref h25, .ref h29, .ref h33, .ref h37, .ref h42, .int 0, .int 0, .int 0, .int 0, .int 0, .int 0, .int 0, .int 0] := (th_Ol.cons (⟨h1, rfl, th_new_sub hn _ _ (mo45 _ _ (mo40 _ _ (mo35 _ _ (mo31 _ _ (mo27 _ _ (mo23 _ _ (mo19 _ _ (mo15 _ _ (mo11 _ _ (mo7 _ _ fh1))))))))))⟩) (th_Ol.cons (⟨h5, rfl, th_new_sub hn _ _ (mo45 _ _ (mo40 _ _ (mo35 _ _ (mo31 _ _ (mo27 _ _ (mo23 _ _ (mo19 _ _ (mo15 _ _ (mo11 _ _ fh5)))))))))⟩) (th_Ol.cons (⟨h9, rfl, th_new_sub hn _ _ (mo45 _ _ (mo40 _ _ (mo35 _ _ (mo31 _ _ (mo27 _ _ (mo23 _ _ (mo19 _ _ (mo15 _ _ fh9))))))))⟩) (th_Ol.cons (⟨h13, rfl, th_new_sub hn _ _ (mo45 _ _ (mo40 _ _ (mo35 _ _ (mo31 _ _ (mo27 _ _ (mo23 _ _ (mo19 _ _ fh13)))))))⟩) (th_Ol.cons (⟨h17, rfl, th_new_sub hn _ _ (mo45 _ _ (mo40 _ _ (mo35 _ _ (mo31 _ _ (mo27 _ _ (mo23 _ _ fh17))))))⟩) (th_Ol.cons (⟨h21, rfl, th_new_sub hn _ _ (mo45 _ _ (mo40 _ _ (mo35 _ _ (mo31 _ _ (mo27 _ _ fh21)))))⟩) (th_Ol.cons (⟨h25, rfl, th_new_sub hn _ _ (mo45 _ _ (mo40 _ _ (mo35 _ _ (mo31 _ _ fh25))))⟩) (th_Ol.cons (⟨h29, rfl, th_new_sub hn _ _ (mo45 _ _ (mo40 _ _ (mo35 _ _ fh29)))⟩) (th_Ol.cons (⟨h33, rfl, th_new_sub hn _ _ (mo45 _ _ (mo40 _ _ fh33))⟩) (th_Ol.cons (⟨h37, rfl, th_new_sub hn _ _ (mo45 _ _ x39.1)⟩) (th_Ol.cons (⟨h42, rfl, th_new_sub hn _ _ x44.1⟩) (th_Ol.cons (⟨_, rfl, by decide, by decide⟩) (th_Ol.cons (⟨_, rfl, by decide, by decide⟩) (th_Ol.cons (⟨_, rfl, by decide, by decide⟩) (th_Ol.cons (⟨_, rfl, by decide, by decide⟩) (th_Ol.cons (⟨_, rfl, by decide, by decide⟩) (th_Ol.cons (⟨_, rfl, by decide, by decide⟩) (th_Ol.cons (⟨_, rfl, by decide, by decide⟩) (th_Ol.cons (⟨_, rfl, by decide, by decide⟩) th_Ol.nil)))))))))))))))))))
  have hH := th_type (k := 46) (ci := 4) hH hn hR kd_46 ⟨ho.1, ho.2, trivial⟩
  refine W.widen (k := 17) (n := 1787) (by decide) (by decide) ?_
  exact th_vretC S hK hH hS hr hlocks ((gr46.sub (by decide)).fin) dX4_init_133

set_option maxHeartbeats 4000000 in
set_option maxRecDepth 100000 in
theorem k_X6_init_k2 (l : Launch) (D : va_G) (cT : Nat → ClassId) (T : Nat → Option Nat) (a sz : Nat) (b0 : Nat) (u0 : T b0 = some 1) : th_MetC l D cT T (kd qz) [0, 2, 3, 4, 5, 7, 8, 46] yX6_init cX6_init 2 (rmc 3 18 1806 52) 6 [.null, .null, .int 0, .int 0, .int 0, .int 0] [.ref b0] a sz 2 [46, 10, 29, 56, 61, 60, 59, 58, 57, 55, 54, 53, 52, 51, 50, 49, 48, 47] 18 1806 := by
  refine th_startC (by decide) (Nat.le_of_ble_eq_true rfl) ⟨rfl, rfl⟩ ?_
  intro p e s m below meth c ls S hK hO hH0 hsz hn hR0 hr hlocks hnm hl
  have hx := S.1; have hb := S.2.1
  have hown := S.2.2.2.1; have hts := S.2.2.2.2
  have hA : ∀ q, s.heap.size ≤ q → th_cA a sz q := fun q h => Or.inr (by omega)
  have gr0 : th_grow [0, 2, 3, 4, 5, 7, 8, 46] T T sz [] := th_grow.rf (fun b hb => hH0.free (by omega))
  have hl : lv_has ls 2 [(0, .ref a), (1, .ref b0)] := hl
  have hla0 : a < sz := by have := hR0.lt; have h2 : a < s.heap.size := this; omega
  suffices main : ∀ (H : Heap) (locs : List Loc), th_H D cT T (kd qz) H → va_at D classes (a, .inr (6, [.null, .null, .int 0, .int 0, .int 0, .int 0])) H → va_S (th_cA a sz) s.heap H locs → sz ≤ H.size → W p l e (rmc 3 18 1806 52) s m [.ref a, .ref b0].toArray below meth c H locs 0 0 (MQ below (th_QC D cT T (kd qz) [0, 2, 3, 4, 5, 7, 8, 46] a 2 sz [46, 10, 29, 56, 61, 60, 59, 58, 57, 55, 54, 53, 52, 51, 50, 49, 48, 47]) [.ref a, .ref b0].toArray s 18 1806 (th_cA a sz)) (F0 m 0 ls []) from main s.heap [] hH0 hR0 va_S.rf (by omega)
  intro H locs hH hR hS hsz0
  refine lv_aload_n hx hb dX6_init_0 rfl (lv_at hl 0 rfl) ?_
  refine W.objInit hx hb hown (hts _ gm_181) (hts _ gm_140) (hts _ gm_141) rfl (hl.1.trans S.2.2.1.symm) rfl dX6_init_1 (Nat.le_of_ble_eq_true rfl) (Nat.le_of_ble_eq_true rfl) ?_
  refine W.eq (g2 := F0 m 4 ls []) rfl ?_
  refine lv_aload_n hx hb dX6_init_4 rfl (lv_at hl 0 rfl) ?_
  refine th_newo (ci := 4) (fs := [.null, .null, .null, .null, .null, .null, .null, .null, .null, .null, .null, .int 0, .int 0, .int 0, .int 0, .int 0, .int 0, .int 0, .int 0]) S hK hH hS inG4 tyX4 tyX4_ok gm_182 gm_183 gm_116 rfl (fun j hj => by have : j < 19 := hj; rcases (show j = 0 ∨ j = 1 ∨ j = 2 ∨ j = 3 ∨ j = 4 ∨ j = 5 ∨ j = 6 ∨ j = 7 ∨ j = 8 ∨ j = 9 ∨ j = 10 ∨ j = 11 ∨ j = 12 ∨ j = 13 ∨ j = 14 ∨ j = 15 ∨ j = 16 ∨ j = 17 ∨ j = 18 by omega) with rfl | rfl | rfl | rfl | rfl | rfl | rfl | rfl | rfl | rfl | rfl | rfl | rfl | rfl | rfl | rfl | rfl | rfl | rfl <;> rfl) (by decide) (by decide) dX6_init_5 (fun h1 H eh1 hH nh1 rh1 hS zh1 kh1 => ?_)
  have neh1 : a ≠ h1 := by omega
  have hR : va_at D classes (a, .inr (6, [.null, .null, .int 0, .int 0, .int 0, .int 0])) H := hR.kept (kh1 a (by omega))
  have hsz0 : sz ≤ H.size := by omega
  refine lv_dup hx hb dX6_init_8 rfl ?_
  refine th_callCN (n := 0) (host := RX10) (As := []) S hK hO hH hS hA (Or.inr (by omega)) rfl nh1 rh1 (k_X4_init_k46 l D cT T h1 H.size) gm_186 (by decide +kernel) gm_185 gm_116 rfl (by decide +kernel) ⟨rfl, rfl, Nat.le_of_ble_eq_true rfl, Nat.le_of_ble_eq_true rfl⟩ rfl hl.1 rfl (Nat.le_of_ble_eq_true rfl) dX6_init_9 ⟨Nat.le_of_ble_eq_true rfl, Nat.le_of_ble_eq_true rfl⟩ (fun T2 H locs x3 hH2 hS zx3 kx3 => ?_)
  have mo4 : ∀ b j, T b = some j → T2 b = some j := x3.mono hH (Nat.le_refl _) nh1
  have gr5 : th_grow [0, 2, 3, 4, 5, 7, 8, 46] T T2 sz [46, 10, 29, 56, 61, 60, 59, 58, 57, 55, 54, 53, 52, 51, 50, 49, 48, 47] := gr0.ext x3 hsz0 (by omega) (by decide)
  have hR : va_at D classes (a, .inr (6, [.null, .null, .int 0, .int 0, .int 0, .int 0])) H := hR.kept (kx3 a (by omega) neh1)
  have hsz0 : sz ≤ H.size := by omega
  have hH := hH2; clear hH2
  have hn : T2 a = none := (x3.2.1 a (by omega) neh1).trans hn
  refine th_putR (ty := .object "HungryMaps$House") (v := .ref h1) S hK hH hS (Or.inl rfl) hn hR inG6 tyX6 tyX6_ok nmX6 rfl 1 (by decide) gm_340 rfl rfl (by decide +kernel) rfl rfl (Nat.le_of_ble_eq_true rfl) dX6_init_12 (fun H locs hR hH hS zp kp => ?_)
  have hR : va_at D classes (a, .inr (6, [.null, .ref h1, .int 0, .int 0, .int 0, .int 0])) H := hR
  have hsz0 : sz ≤ H.size := by omega
  refine lv_aload_n hx hb dX6_init_15 rfl (lv_at hl 0 rfl) ?_
  refine lv_iconst (v := 0) hx hb dX6_init_16 (by decide) ?_
  refine th_putR (ty := .int) (v := .int 0) S hK hH hS (Or.inl rfl) hn hR inG6 tyX6 tyX6_ok nmX6 rfl 2 (by decide) gm_342 rfl rfl (by decide +kernel) rfl rfl (Nat.le_of_ble_eq_true rfl) dX6_init_17 (fun H locs hR hH hS zp kp => ?_)
  have hR : va_at D classes (a, .inr (6, [.null, .ref h1, .int 0, .int 0, .int 0, .int 0])) H := hR
  have hsz0 : sz ≤ H.size := by omega
  refine lv_aload_n hx hb dX6_init_20 rfl (lv_at hl 0 rfl) ?_
  refine lv_iconst (v := 0) hx hb dX6_init_21 (by decide) ?_
  refine th_putR (ty := .int) (v := .int 0) S hK hH hS (Or.inl rfl) hn hR inG6 tyX6 tyX6_ok nmX6 rfl 3 (by decide) gm_343 rfl rfl (by decide +kernel) rfl rfl (Nat.le_of_ble_eq_true rfl) dX6_init_22 (fun H locs hR hH hS zp kp => ?_)
  have hR : va_at D classes (a, .inr (6, [.null, .ref h1, .int 0, .int 0, .int 0, .int 0])) H := hR
  have hsz0 : sz ≤ H.size := by omega
  refine lv_aload_n hx hb dX6_init_25 rfl (lv_at hl 0 rfl) ?_
  refine lv_iconst (v := 0) hx hb dX6_init_26 (by decide) ?_
  refine th_putR (ty := .int) (v := .int 0) S hK hH hS (Or.inl rfl) hn hR inG6 tyX6 tyX6_ok nmX6 rfl 4 (by decide) gm_344 rfl rfl (by decide +kernel) rfl rfl (Nat.le_of_ble_eq_true rfl) dX6_init_27 (fun H locs hR hH hS zp kp => ?_)
  have hR : va_at D classes (a, .inr (6, [.null, .ref h1, .int 0, .int 0, .int 0, .int 0])) H := hR
  have hsz0 : sz ≤ H.size := by omega
  refine lv_aload_n hx hb dX6_init_30 rfl (lv_at hl 0 rfl) ?_
  refine lv_iconst (v := (-1)) hx hb dX6_init_31 (by decide) ?_
  refine th_putR (ty := .int) (v := .int (-1)) S hK hH hS (Or.inl rfl) hn hR inG6 tyX6 tyX6_ok nmX6 rfl 5 (by decide) gm_346 rfl rfl (by decide +kernel) rfl rfl (Nat.le_of_ble_eq_true rfl) dX6_init_32 (fun H locs hR hH hS zp kp => ?_)
  have hR : va_at D classes (a, .inr (6, [.null, .ref h1, .int 0, .int 0, .int 0, .int (-1)])) H := hR
  have hsz0 : sz ≤ H.size := by omega
  refine lv_aload_n hx hb dX6_init_35 rfl (lv_at hl 0 rfl) ?_
  refine lv_aload_n hx hb dX6_init_36 rfl (lv_at hl 1 rfl) ?_
  refine th_putRF (ty := .object "HungryMaps$Tape") (v := .ref b0) S hK hH hS (Or.inl rfl) hn hR inG6 tyX6 tyX6_ok nmX6 rfl 0 (by decide) gm_339 rfl rfl hnm rfl (by decide +kernel) rfl rfl (Nat.le_of_ble_eq_true rfl) dX6_init_37 (fun H locs hR hH hS zp kp => ?_)
  have hR : va_at D classes (a, .inr (6, [.ref b0, .ref h1, .int 0, .int 0, .int 0, .int (-1)])) H := hR
  have hsz0 : sz ≤ H.size := by omega
  have ho : th_Ol (th_new T2 a 2) [.inr 2, .inr 47, .inl (-2147483648, 2147483647), .inl (-2147483648, 2147483647), .inl (-2147483648, 2147483647), .inl (-2147483648, 2147483647)] [.ref b0, .ref h1, .int 0, .int 0, .int 0, .int (-1)] := (th_Ol.cons (⟨b0, rfl, th_new_sub hn _ _ (mo4 _ _ u0)⟩) (th_Ol.cons (⟨h1, rfl, th_new_sub hn _ _ x3.1⟩) (th_Ol.cons (⟨_, rfl, by decide, by decide⟩) (th_Ol.cons (⟨_, rfl, by decide, by decide⟩) (th_Ol.cons (⟨_, rfl, by decide, by decide⟩) (th_Ol.cons (⟨_, rfl, by decide, by decide⟩) th_Ol.nil))))))
  have hH := th_type (k := 2) (ci := 6) hH hn hR kd_2 ⟨ho.1, ho.2, trivial⟩
  refine W.widen (k := 18) (n := 1806) (by decide) (by decide) ?_
  exact th_vretC S hK hH hS hr hlocks ((gr5.sub (by decide)).fin) dX6_init_40

set_option maxHeartbeats 4000000 in
set_option maxRecDepth 100000 in
theorem k_X0_init_k4 (l : Launch) (D : va_G) (cT : Nat → ClassId) (T : Nat → Option Nat) (a sz : Nat) (b0 : Nat) (u0 : T b0 = some 3) : th_MetC l D cT T (kd qz) [0, 2, 3, 4, 5, 7, 8, 46] yX0_init cX0_init 2 (rmc 1 0 0 12) 0 [.null] [.ref b0] a sz 4 [] 0 0 := by
  refine th_startC (by decide) (Nat.le_of_ble_eq_true rfl) ⟨rfl, rfl⟩ ?_
  intro p e s m below meth c ls S hK hO hH0 hsz hn hR0 hr hlocks hnm hl
  have hx := S.1; have hb := S.2.1
  have hown := S.2.2.2.1; have hts := S.2.2.2.2
  have hA : ∀ q, s.heap.size ≤ q → th_cA a sz q := fun q h => Or.inr (by omega)
  have gr0 : th_grow [0, 2, 3, 4, 5, 7, 8, 46] T T sz [] := th_grow.rf (fun b hb => hH0.free (by omega))
  have hl : lv_has ls 2 [(0, .ref a), (1, .ref b0)] := hl
  have hla0 : a < sz := by have := hR0.lt; have h2 : a < s.heap.size := this; omega
  suffices main : ∀ (H : Heap) (locs : List Loc), th_H D cT T (kd qz) H → va_at D classes (a, .inr (0, [.null])) H → va_S (th_cA a sz) s.heap H locs → sz ≤ H.size → W p l e (rmc 1 0 0 12) s m [.ref a, .ref b0].toArray below meth c H locs 0 0 (MQ below (th_QC D cT T (kd qz) [0, 2, 3, 4, 5, 7, 8, 46] a 4 sz []) [.ref a, .ref b0].toArray s 0 0 (th_cA a sz)) (F0 m 0 ls []) from main s.heap [] hH0 hR0 va_S.rf (by omega)
  intro H locs hH hR hS hsz0
  refine lv_aload_n hx hb dX0_init_0 rfl (lv_at hl 0 rfl) ?_
  refine W.objInit hx hb hown (hts _ gm_368) (hts _ gm_140) (hts _ gm_141) rfl (hl.1.trans S.2.2.1.symm) rfl dX0_init_1 (Nat.le_of_ble_eq_true rfl) (Nat.le_of_ble_eq_true rfl) ?_
  refine W.eq (g2 := F0 m 4 ls []) rfl ?_
  refine lv_aload_n hx hb dX0_init_4 rfl (lv_at hl 0 rfl) ?_
  refine lv_aload_n hx hb dX0_init_5 rfl (lv_at hl 1 rfl) ?_
  refine th_putR (ty := .object "HungryMaps$House") (v := .ref b0) S hK hH hS (Or.inl rfl) hn hR inG0 tyX0 tyX0_ok nmX0 rfl 0 (by decide) gm_369 rfl rfl (by decide +kernel) rfl rfl (Nat.le_of_ble_eq_true rfl) dX0_init_6 (fun H locs hR hH hS zp kp => ?_)
  have hR : va_at D classes (a, .inr (0, [.ref b0])) H := hR
  have hsz0 : sz ≤ H.size := by omega
  have ho : th_Ol (th_new T a 4) [.inr 4] [.ref b0] := (th_Ol.cons (⟨b0, rfl, th_new_sub hn _ _ u0⟩) th_Ol.nil)
  have hH := th_type (k := 4) (ci := 0) hH hn hR kd_4 ⟨ho.1, ho.2, trivial⟩
  refine W.widen (k := 0) (n := 0) (by decide) (by decide) ?_
  exact th_vretC S hK hH hS hr hlocks ((gr0.sub (by decide)).fin) dX0_init_9
