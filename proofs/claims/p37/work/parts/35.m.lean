theorem dX10_about_0 : decode cX10_about 0 = .ok (.aload_n 0, 1) := by decide +kernel
theorem dX10_about_1 : decode cX10_about 1 = .ok (.getfield 44, 3) := by decide +kernel
theorem dX10_about_4 : decode cX10_about 4 = .ok (.invokevirtual 127, 3) := by decide +kernel
theorem dX10_about_7 : decode cX10_about 7 = .ok (.getfield 131, 3) := by decide +kernel
theorem dX10_about_10 : decode cX10_about 10 = .ok (.astore_n 2, 1) := by decide +kernel
theorem dX10_about_11 : decode cX10_about 11 = .ok (.iload_n 1, 1) := by decide +kernel
theorem dX10_about_12 : decode cX10_about 12 = .ok (.tableswitch 187 0 14 #[76, 84, 92, 100, 108, 113, 118, 123, 128, 136, 144, 152, 160, 168, 179], 76) := by decide +kernel
theorem dX10_about_88 : decode cX10_about 88 = .ok (.aload_n 0, 1) := by decide +kernel
theorem dX10_about_89 : decode cX10_about 89 = .ok (.getfield 28, 3) := by decide +kernel
theorem dX10_about_92 : decode cX10_about 92 = .ok (.getfield 114, 3) := by decide +kernel
theorem dX10_about_95 : decode cX10_about 95 = .ok (.ireturn, 1) := by decide +kernel
theorem dX10_about_96 : decode cX10_about 96 = .ok (.aload_n 0, 1) := by decide +kernel
theorem dX10_about_97 : decode cX10_about 97 = .ok (.getfield 28, 3) := by decide +kernel
theorem dX10_about_100 : decode cX10_about 100 = .ok (.getfield 263, 3) := by decide +kernel
theorem dX10_about_103 : decode cX10_about 103 = .ok (.ireturn, 1) := by decide +kernel
theorem dX10_about_104 : decode cX10_about 104 = .ok (.aload_n 0, 1) := by decide +kernel
theorem dX10_about_105 : decode cX10_about 105 = .ok (.getfield 28, 3) := by decide +kernel
theorem dX10_about_108 : decode cX10_about 108 = .ok (.getfield 219, 3) := by decide +kernel
theorem dX10_about_111 : decode cX10_about 111 = .ok (.ireturn, 1) := by decide +kernel
theorem dX10_about_112 : decode cX10_about 112 = .ok (.aload_n 0, 1) := by decide +kernel
theorem dX10_about_113 : decode cX10_about 113 = .ok (.getfield 28, 3) := by decide +kernel
theorem dX10_about_116 : decode cX10_about 116 = .ok (.getfield 280, 3) := by decide +kernel
theorem dX10_about_119 : decode cX10_about 119 = .ok (.ireturn, 1) := by decide +kernel
theorem dX10_about_120 : decode cX10_about 120 = .ok (.aload_n 2, 1) := by decide +kernel
theorem dX10_about_121 : decode cX10_about 121 = .ok (.bipush 40, 2) := by decide +kernel
theorem dX10_about_123 : decode cX10_about 123 = .ok (.iaload, 1) := by decide +kernel
theorem dX10_about_124 : decode cX10_about 124 = .ok (.ireturn, 1) := by decide +kernel
theorem dX10_about_125 : decode cX10_about 125 = .ok (.aload_n 2, 1) := by decide +kernel
theorem dX10_about_126 : decode cX10_about 126 = .ok (.bipush 41, 2) := by decide +kernel
theorem dX10_about_128 : decode cX10_about 128 = .ok (.iaload, 1) := by decide +kernel
theorem dX10_about_129 : decode cX10_about 129 = .ok (.ireturn, 1) := by decide +kernel
theorem dX10_about_130 : decode cX10_about 130 = .ok (.aload_n 2, 1) := by decide +kernel
theorem dX10_about_131 : decode cX10_about 131 = .ok (.bipush 42, 2) := by decide +kernel
theorem dX10_about_133 : decode cX10_about 133 = .ok (.iaload, 1) := by decide +kernel
theorem dX10_about_134 : decode cX10_about 134 = .ok (.ireturn, 1) := by decide +kernel
theorem dX10_about_135 : decode cX10_about 135 = .ok (.aload_n 2, 1) := by decide +kernel
theorem dX10_about_136 : decode cX10_about 136 = .ok (.bipush 39, 2) := by decide +kernel
theorem dX10_about_138 : decode cX10_about 138 = .ok (.iaload, 1) := by decide +kernel
theorem dX10_about_139 : decode cX10_about 139 = .ok (.ireturn, 1) := by decide +kernel
theorem dX10_about_140 : decode cX10_about 140 = .ok (.aload_n 0, 1) := by decide +kernel
theorem dX10_about_141 : decode cX10_about 141 = .ok (.getfield 44, 3) := by decide +kernel
theorem dX10_about_144 : decode cX10_about 144 = .ok (.getfield 283, 3) := by decide +kernel
theorem dX10_about_147 : decode cX10_about 147 = .ok (.ireturn, 1) := by decide +kernel
theorem dX10_about_148 : decode cX10_about 148 = .ok (.aload_n 0, 1) := by decide +kernel
theorem dX10_about_149 : decode cX10_about 149 = .ok (.getfield 44, 3) := by decide +kernel
theorem dX10_about_152 : decode cX10_about 152 = .ok (.getfield 286, 3) := by decide +kernel
theorem dX10_about_155 : decode cX10_about 155 = .ok (.ireturn, 1) := by decide +kernel
theorem dX10_about_156 : decode cX10_about 156 = .ok (.aload_n 0, 1) := by decide +kernel
theorem dX10_about_157 : decode cX10_about 157 = .ok (.getfield 67, 3) := by decide +kernel
theorem dX10_about_160 : decode cX10_about 160 = .ok (.getfield 111, 3) := by decide +kernel
theorem dX10_about_163 : decode cX10_about 163 = .ok (.ireturn, 1) := by decide +kernel
theorem dX10_about_164 : decode cX10_about 164 = .ok (.aload_n 0, 1) := by decide +kernel
theorem dX10_about_165 : decode cX10_about 165 = .ok (.getfield 67, 3) := by decide +kernel
theorem dX10_about_168 : decode cX10_about 168 = .ok (.getfield 259, 3) := by decide +kernel
theorem dX10_about_171 : decode cX10_about 171 = .ok (.ireturn, 1) := by decide +kernel
theorem dX10_about_172 : decode cX10_about 172 = .ok (.aload_n 0, 1) := by decide +kernel
theorem dX10_about_173 : decode cX10_about 173 = .ok (.getfield 12, 3) := by decide +kernel
theorem dX10_about_176 : decode cX10_about 176 = .ok (.getfield 82, 3) := by decide +kernel
theorem dX10_about_179 : decode cX10_about 179 = .ok (.ireturn, 1) := by decide +kernel
theorem dX10_about_180 : decode cX10_about 180 = .ok (.aload_n 0, 1) := by decide +kernel
theorem dX10_about_181 : decode cX10_about 181 = .ok (.getfield 28, 3) := by decide +kernel
theorem dX10_about_184 : decode cX10_about 184 = .ok (.getfield 289, 3) := by decide +kernel
theorem dX10_about_187 : decode cX10_about 187 = .ok (.getfield 293, 3) := by decide +kernel
theorem dX10_about_190 : decode cX10_about 190 = .ok (.ireturn, 1) := by decide +kernel
theorem dX10_about_191 : decode cX10_about 191 = .ok (.aload_n 0, 1) := by decide +kernel
theorem dX10_about_192 : decode cX10_about 192 = .ok (.getfield 60, 3) := by decide +kernel
theorem dX10_about_195 : decode cX10_about 195 = .ok (.getfield 108, 3) := by decide +kernel
theorem dX10_about_198 : decode cX10_about 198 = .ok (.ireturn, 1) := by decide +kernel
theorem dX10_about_199 : decode cX10_about 199 = .ok (.iconst (-1), 1) := by decide +kernel
theorem dX10_about_200 : decode cX10_about 200 = .ok (.ireturn, 1) := by decide +kernel
set_option maxRecDepth 100000 in
theorem m_X10_about (l : Launch) (D : va_G) (cT : Nat → ClassId) (T : Nat → Option Nat) (q : Nat → Int) (hq : qok q) (a0 : Nat) (t0 : T a0 = some 0) (y1 : Int32) (j1 : IV y1 (-2147483648) 2147483647) : th_Met l D cT T (kd q) yX10_about cX10_about 3 (some .int) (rmk 1 20) [.ref a0, .int y1] (th_R T (some (.inl (-2147483648, 2147483647)))) [] := by
  refine th_start (by decide) (Nat.le_of_ble_eq_true rfl) ?_
  intro p e s m below meth c ls S hK hH hr hlocks hnm hl
  have hx := S.1
  have hb := S.2.1
  have hl : lv_has ls 3 [(0, .ref a0), (1, .int y1)] := hl
  have J0 : ∀ (H : Heap) (locs : List Loc) (ls : Array Slot), th_H D cT T (kd q) H → va_S (th_A T []) s.heap H locs → lv_has ls 3 [(0, .ref a0), (1, .int y1)] → W p l e (rmk 1 20) s m [.ref a0, .int y1].toArray below meth c H locs 0 0 (MQ below (th_Q D cT T (kd q) (th_R T (some (.inl (-2147483648, 2147483647)))) []) [.ref a0, .int y1].toArray s 0 0 (th_A T [])) (F0 m 0 ls []) := by
    intro H locs ls hH hS hl
    refine lv_aload_n hx hb dX10_about_0 rfl (lv_at hl 0 rfl) ?_
    refine th_get S hK hH inG10 t0 kd_0 rfl 4 (by decide) gm_509 rfl rfl dX10_about_1 (fun v1 hv1 fv1 => ?_)
    obtain ⟨rf2, rfl, trf2⟩ := th_V.ref hv1
    refine th_callVr (n := 0) (As := []) S hK hH hS (th_A.sub (by decide)) (m_X3_now l D cT T q hq rf2 trf2) gm_828 gm_825 gm_826 gm_827 gm_120 (by decide +kernel) ⟨rfl, rfl, Nat.le_of_ble_eq_true rfl, Nat.le_of_ble_eq_true rfl⟩ trf2 kd_5 rfl rfl hl.1 rfl (Nat.le_of_ble_eq_true rfl) dX10_about_4 ⟨Nat.zero_le _, Nat.zero_le _⟩ (fun rf3 H locs trf3 hH hS hF1 => ?_)
    have f4 := fv1.kept (hF1 _ fv1.lt (th_off t0 (by decide)))
    refine th_get S hK hH inG7 trf3 kd_10 rfl 0 (by decide) gm_231 rfl rfl dX10_about_7 (fun v5 hv5 fv5 => ?_)
    obtain ⟨rf6, rfl, trf6⟩ := th_V.ref hv5
    refine lv_astore_n (lv' := [(2, .ref rf6), (0, .ref a0), (1, .int y1)]) hx hb dX10_about_10 rfl hl (by decide) rfl (fun ls hl => ?_)
    refine lv_iload_n hx hb dX10_about_11 rfl (lv_at hl 2 rfl) ?_
    by_cases c7 : y1.toInt < 0 ∨ 14 < y1.toInt
    · refine lv_tableOut (tgt := 199) hx hb dX10_about_12 c7 (by decide) ?_
      refine lv_iconst (v := (-1)) hx hb dX10_about_199 (by decide) ?_
      exact th_iret S hK hH hS hr hlocks (th_R.i (iv_top _)) dX10_about_200
    · rcases (show y1.toInt = 0 ∨ y1.toInt = 1 ∨ y1.toInt = 2 ∨ y1.toInt = 3 ∨ y1.toInt = 4 ∨ y1.toInt = 5 ∨ y1.toInt = 6 ∨ y1.toInt = 7 ∨ y1.toInt = 8 ∨ y1.toInt = 9 ∨ y1.toInt = 10 ∨ y1.toInt = 11 ∨ y1.toInt = 12 ∨ y1.toInt = 13 ∨ y1.toInt = 14 by omega) with c7b | c7b | c7b | c7b | c7b | c7b | c7b | c7b | c7b | c7b | c7b | c7b | c7b | c7b | c7b
      · refine lv_tableIn (tgt := 88) (off := 76) hx hb dX10_about_12 (by omega) (by omega) (by rw [c7b]; rfl) (by decide) ?_
        refine lv_aload_n hx hb dX10_about_88 rfl (lv_at hl 1 rfl) ?_
        refine th_get S hK hH inG10 t0 kd_0 rfl 2 (by decide) gm_507 rfl rfl dX10_about_89 (fun v8 hv8 fv8 => ?_)
        obtain ⟨rf9, rfl, trf9⟩ := th_V.ref hv8
        refine th_get S hK hH inG4 trf9 kd_3 rfl 12 (by decide) gm_282 rfl rfl dX10_about_92 (fun v10 hv10 fv10 => ?_)
        obtain ⟨x11, rfl, ix11⟩ := th_V.int hv10
        exact th_iret S hK hH hS hr hlocks (th_R.i (iv_top _)) dX10_about_95
      · refine lv_tableIn (tgt := 96) (off := 84) hx hb dX10_about_12 (by omega) (by omega) (by rw [c7b]; rfl) (by decide) ?_
        refine lv_aload_n hx hb dX10_about_96 rfl (lv_at hl 1 rfl) ?_
        refine th_get S hK hH inG10 t0 kd_0 rfl 2 (by decide) gm_507 rfl rfl dX10_about_97 (fun v12 hv12 fv12 => ?_)
        obtain ⟨rf13, rfl, trf13⟩ := th_V.ref hv12
        refine th_get S hK hH inG4 trf13 kd_3 rfl 11 (by decide) gm_277 rfl rfl dX10_about_100 (fun v14 hv14 fv14 => ?_)
        obtain ⟨x15, rfl, ix15⟩ := th_V.int hv14
        exact th_iret S hK hH hS hr hlocks (th_R.i (iv_top _)) dX10_about_103
      · refine lv_tableIn (tgt := 104) (off := 92) hx hb dX10_about_12 (by omega) (by omega) (by rw [c7b]; rfl) (by decide) ?_
        refine lv_aload_n hx hb dX10_about_104 rfl (lv_at hl 1 rfl) ?_
        refine th_get S hK hH inG10 t0 kd_0 rfl 2 (by decide) gm_507 rfl rfl dX10_about_105 (fun v16 hv16 fv16 => ?_)
        obtain ⟨rf17, rfl, trf17⟩ := th_V.ref hv16
        refine th_get S hK hH inG4 trf17 kd_3 rfl 13 (by decide) gm_287 rfl rfl dX10_about_108 (fun v18 hv18 fv18 => ?_)
        obtain ⟨x19, rfl, ix19⟩ := th_V.int hv18
        exact th_iret S hK hH hS hr hlocks (th_R.i (iv_top _)) dX10_about_111
      · refine lv_tableIn (tgt := 112) (off := 100) hx hb dX10_about_12 (by omega) (by omega) (by rw [c7b]; rfl) (by decide) ?_
        refine lv_aload_n hx hb dX10_about_112 rfl (lv_at hl 1 rfl) ?_
        refine th_get S hK hH inG10 t0 kd_0 rfl 2 (by decide) gm_507 rfl rfl dX10_about_113 (fun v20 hv20 fv20 => ?_)
        obtain ⟨rf21, rfl, trf21⟩ := th_V.ref hv20
        refine th_get S hK hH inG4 trf21 kd_3 rfl 14 (by decide) gm_290 rfl rfl dX10_about_116 (fun v22 hv22 fv22 => ?_)
        obtain ⟨x23, rfl, ix23⟩ := th_V.int hv22
        exact th_iret S hK hH hS hr hlocks (th_R.i ix23) dX10_about_119
      · refine lv_tableIn (tgt := 120) (off := 108) hx hb dX10_about_12 (by omega) (by omega) (by rw [c7b]; rfl) (by decide) ?_
        refine lv_aload_n hx hb dX10_about_120 rfl (lv_at hl 0 rfl) ?_
        refine lv_bipush (v := 40) hx hb dX10_about_121 (by decide) ?_
        refine th_iald S hK hH trf6 kd_29 (th_in (hi := 40) (iv_w (iv_c (by decide) : IV 40 40 40) (by decide)) (by decide)) dX10_about_123 (fun v24 hv24 => ?_)
        obtain ⟨x25, rfl, ix25⟩ := th_V.int hv24
        exact th_iret S hK hH hS hr hlocks (th_R.i ix25) dX10_about_124
      · refine lv_tableIn (tgt := 125) (off := 113) hx hb dX10_about_12 (by omega) (by omega) (by rw [c7b]; rfl) (by decide) ?_
        refine lv_aload_n hx hb dX10_about_125 rfl (lv_at hl 0 rfl) ?_
        refine lv_bipush (v := 41) hx hb dX10_about_126 (by decide) ?_
        refine th_iald S hK hH trf6 kd_29 (th_in (hi := 41) (iv_w (iv_c (by decide) : IV 41 41 41) (by decide)) (by decide)) dX10_about_128 (fun v26 hv26 => ?_)
        obtain ⟨x27, rfl, ix27⟩ := th_V.int hv26
        exact th_iret S hK hH hS hr hlocks (th_R.i ix27) dX10_about_129
      · refine lv_tableIn (tgt := 130) (off := 118) hx hb dX10_about_12 (by omega) (by omega) (by rw [c7b]; rfl) (by decide) ?_
        refine lv_aload_n hx hb dX10_about_130 rfl (lv_at hl 0 rfl) ?_
        refine lv_bipush (v := 42) hx hb dX10_about_131 (by decide) ?_
        refine th_iald S hK hH trf6 kd_29 (th_in (hi := 42) (iv_w (iv_c (by decide) : IV 42 42 42) (by decide)) (by decide)) dX10_about_133 (fun v28 hv28 => ?_)
        obtain ⟨x29, rfl, ix29⟩ := th_V.int hv28
        exact th_iret S hK hH hS hr hlocks (th_R.i ix29) dX10_about_134
      · refine lv_tableIn (tgt := 135) (off := 123) hx hb dX10_about_12 (by omega) (by omega) (by rw [c7b]; rfl) (by decide) ?_
        refine lv_aload_n hx hb dX10_about_135 rfl (lv_at hl 0 rfl) ?_
        refine lv_bipush (v := 39) hx hb dX10_about_136 (by decide) ?_
        refine th_iald S hK hH trf6 kd_29 (th_in (hi := 39) (iv_w (iv_c (by decide) : IV 39 39 39) (by decide)) (by decide)) dX10_about_138 (fun v30 hv30 => ?_)
        obtain ⟨x31, rfl, ix31⟩ := th_V.int hv30
        exact th_iret S hK hH hS hr hlocks (th_R.i ix31) dX10_about_139
      · refine lv_tableIn (tgt := 140) (off := 128) hx hb dX10_about_12 (by omega) (by omega) (by rw [c7b]; rfl) (by decide) ?_
        refine lv_aload_n hx hb dX10_about_140 rfl (lv_at hl 1 rfl) ?_
        refine th_getK S hK f4 inG10 rfl (by decide) gm_509 rfl dX10_about_141 ?_
        refine th_get S hK hH inG3 trf2 kd_5 rfl 2 (by decide) gm_388 rfl rfl dX10_about_144 (fun v33 hv33 fv33 => ?_)
        obtain ⟨x34, rfl, ix34⟩ := th_V.int hv33
        have ix34 : IV x34 0 40 := iv_w ix34 (qok_1 hq)
        exact th_iret S hK hH hS hr hlocks (th_R.i (iv_top _)) dX10_about_147
      · refine lv_tableIn (tgt := 148) (off := 136) hx hb dX10_about_12 (by omega) (by omega) (by rw [c7b]; rfl) (by decide) ?_
        refine lv_aload_n hx hb dX10_about_148 rfl (lv_at hl 1 rfl) ?_
        refine th_getK S hK f4 inG10 rfl (by decide) gm_509 rfl dX10_about_149 ?_
        refine th_get S hK hH inG3 trf2 kd_5 rfl 3 (by decide) gm_390 rfl rfl dX10_about_152 (fun v36 hv36 fv36 => ?_)
        obtain ⟨x37, rfl, ix37⟩ := th_V.int hv36
        have ix37 : IV x37 0 40 := iv_w ix37 (qok_2 hq)
        exact th_iret S hK hH hS hr hlocks (th_R.i (iv_top _)) dX10_about_155
      · refine lv_tableIn (tgt := 156) (off := 144) hx hb dX10_about_12 (by omega) (by omega) (by rw [c7b]; rfl) (by decide) ?_
        refine lv_aload_n hx hb dX10_about_156 rfl (lv_at hl 1 rfl) ?_
        refine th_get S hK hH inG10 t0 kd_0 rfl 7 (by decide) gm_512 rfl rfl dX10_about_157 (fun v38 hv38 fv38 => ?_)
        obtain ⟨rf39, rfl, trf39⟩ := th_V.ref hv38
        refine th_get S hK hH inG9 trf39 kd_8 rfl 6 (by decide) gm_482 rfl rfl dX10_about_160 (fun v40 hv40 fv40 => ?_)
        obtain ⟨x41, rfl, ix41⟩ := th_V.int hv40
        exact th_iret S hK hH hS hr hlocks (th_R.i (iv_top _)) dX10_about_163
      · refine lv_tableIn (tgt := 164) (off := 152) hx hb dX10_about_12 (by omega) (by omega) (by rw [c7b]; rfl) (by decide) ?_
        refine lv_aload_n hx hb dX10_about_164 rfl (lv_at hl 1 rfl) ?_
        refine th_get S hK hH inG10 t0 kd_0 rfl 7 (by decide) gm_512 rfl rfl dX10_about_165 (fun v42 hv42 fv42 => ?_)
        obtain ⟨rf43, rfl, trf43⟩ := th_V.ref hv42
        refine th_get S hK hH inG9 trf43 kd_8 rfl 7 (by decide) gm_484 rfl rfl dX10_about_168 (fun v44 hv44 fv44 => ?_)
        obtain ⟨x45, rfl, ix45⟩ := th_V.int hv44
        have ix45 : IV x45 0 100000 := iv_w ix45 (qok_0 hq)
        exact th_iret S hK hH hS hr hlocks (th_R.i (iv_top _)) dX10_about_171
      · refine lv_tableIn (tgt := 172) (off := 160) hx hb dX10_about_12 (by omega) (by omega) (by rw [c7b]; rfl) (by decide) ?_
        refine lv_aload_n hx hb dX10_about_172 rfl (lv_at hl 1 rfl) ?_
        refine th_get S hK hH inG10 t0 kd_0 rfl 0 (by decide) gm_505 rfl rfl dX10_about_173 (fun v46 hv46 fv46 => ?_)
        obtain ⟨rf47, rfl, trf47⟩ := th_V.ref hv46
        refine th_get S hK hH inG8 trf47 kd_1 rfl 4 (by decide) gm_156 rfl rfl dX10_about_176 (fun v48 hv48 fv48 => ?_)
        obtain ⟨x49, rfl, ix49⟩ := th_V.int hv48
        exact th_iret S hK hH hS hr hlocks (th_R.i (iv_top _)) dX10_about_179
      · refine lv_tableIn (tgt := 180) (off := 168) hx hb dX10_about_12 (by omega) (by omega) (by rw [c7b]; rfl) (by decide) ?_
        refine lv_aload_n hx hb dX10_about_180 rfl (lv_at hl 1 rfl) ?_
        refine th_get S hK hH inG10 t0 kd_0 rfl 2 (by decide) gm_507 rfl rfl dX10_about_181 (fun v50 hv50 fv50 => ?_)
        obtain ⟨rf51, rfl, trf51⟩ := th_V.ref hv50
        refine th_get S hK hH inG4 trf51 kd_3 rfl 9 (by decide) gm_270 rfl rfl dX10_about_184 (fun v52 hv52 fv52 => ?_)
        obtain ⟨rf53, rfl, trf53⟩ := th_V.ref hv52
        refine th_get S hK hH inG2 trf53 kd_9 rfl 6 (by decide) gm_203 rfl rfl dX10_about_187 (fun v54 hv54 fv54 => ?_)
        obtain ⟨x55, rfl, ix55⟩ := th_V.int hv54
        exact th_iret S hK hH hS hr hlocks (th_R.i ix55) dX10_about_190
      · refine lv_tableIn (tgt := 191) (off := 179) hx hb dX10_about_12 (by omega) (by omega) (by rw [c7b]; rfl) (by decide) ?_
        refine lv_aload_n hx hb dX10_about_191 rfl (lv_at hl 1 rfl) ?_
        refine th_get S hK hH inG10 t0 kd_0 rfl 6 (by decide) gm_511 rfl rfl dX10_about_192 (fun v56 hv56 fv56 => ?_)
        obtain ⟨rf57, rfl, trf57⟩ := th_V.ref hv56
        refine th_get S hK hH inG5 trf57 kd_7 rfl 2 (by decide) gm_431 rfl rfl dX10_about_195 (fun v58 hv58 fv58 => ?_)
        obtain ⟨x59, rfl, ix59⟩ := th_V.int hv58
        exact th_iret S hK hH hS hr hlocks (th_R.i ix59) dX10_about_198
  exact J0 s.heap [] ls hH va_S.rf hl
