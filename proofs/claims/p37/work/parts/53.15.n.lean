theorem dX11_unit_0 : decode cX11_unit 0 = .ok (.aload_n 0, 1) := by decide +kernel
theorem dX11_unit_1 : decode cX11_unit 1 = .ok (.getfield 104, 3) := by decide +kernel
theorem dX11_unit_4 : decode cX11_unit 4 = .ok (.aload_n 0, 1) := by decide +kernel
theorem dX11_unit_5 : decode cX11_unit 5 = .ok (.getfield 335, 3) := by decide +kernel
theorem dX11_unit_8 : decode cX11_unit 8 = .ok (.iconst 1, 1) := by decide +kernel
theorem dX11_unit_9 : decode cX11_unit 9 = .ok (.isub, 1) := by decide +kernel
theorem dX11_unit_10 : decode cX11_unit 10 = .ok (.iaload, 1) := by decide +kernel
theorem dX11_unit_11 : decode cX11_unit 11 = .ok (.iconst 3, 1) := by decide +kernel
theorem dX11_unit_12 : decode cX11_unit 12 = .ok (.if_icmp .le 19, 3) := by decide +kernel
theorem dX11_unit_15 : decode cX11_unit 15 = .ok (.aload_n 0, 1) := by decide +kernel
theorem dX11_unit_16 : decode cX11_unit 16 = .ok (.getfield 104, 3) := by decide +kernel
theorem dX11_unit_19 : decode cX11_unit 19 = .ok (.aload_n 0, 1) := by decide +kernel
theorem dX11_unit_20 : decode cX11_unit 20 = .ok (.getfield 335, 3) := by decide +kernel
theorem dX11_unit_23 : decode cX11_unit 23 = .ok (.iconst 1, 1) := by decide +kernel
theorem dX11_unit_24 : decode cX11_unit 24 = .ok (.isub, 1) := by decide +kernel
theorem dX11_unit_25 : decode cX11_unit 25 = .ok (.iaload, 1) := by decide +kernel
theorem dX11_unit_26 : decode cX11_unit 26 = .ok (.bipush 7, 2) := by decide +kernel
theorem dX11_unit_28 : decode cX11_unit 28 = .ok (.if_icmp .lt 7, 3) := by decide +kernel
theorem dX11_unit_31 : decode cX11_unit 31 = .ok (.iconst 1, 1) := by decide +kernel
theorem dX11_unit_32 : decode cX11_unit 32 = .ok (.goto 4, 3) := by decide +kernel
theorem dX11_unit_35 : decode cX11_unit 35 = .ok (.iconst 0, 1) := by decide +kernel
theorem dX11_unit_36 : decode cX11_unit 36 = .ok (.istore_n 1, 1) := by decide +kernel
theorem dX11_unit_37 : decode cX11_unit 37 = .ok (.iload_n 1, 1) := by decide +kernel
theorem dX11_unit_38 : decode cX11_unit 38 = .ok (.ifCond .eq 17, 3) := by decide +kernel
theorem dX11_unit_41 : decode cX11_unit 41 = .ok (.aload_n 0, 1) := by decide +kernel
theorem dX11_unit_42 : decode cX11_unit 42 = .ok (.ldc2_w 203, 3) := by decide +kernel
theorem dX11_unit_45 : decode cX11_unit 45 = .ok (.invokevirtual 253, 3) := by decide +kernel
theorem dX11_unit_48 : decode cX11_unit 48 = .ok (.ifCond .eq 7, 3) := by decide +kernel
theorem dX11_unit_51 : decode cX11_unit 51 = .ok (.iconst 1, 1) := by decide +kernel
theorem dX11_unit_52 : decode cX11_unit 52 = .ok (.goto 4, 3) := by decide +kernel
theorem dX11_unit_55 : decode cX11_unit 55 = .ok (.iconst 0, 1) := by decide +kernel
theorem dX11_unit_56 : decode cX11_unit 56 = .ok (.istore_n 2, 1) := by decide +kernel
theorem dX11_unit_57 : decode cX11_unit 57 = .ok (.aload_n 0, 1) := by decide +kernel
theorem dX11_unit_58 : decode cX11_unit 58 = .ok (.bipush 40, 2) := by decide +kernel
theorem dX11_unit_60 : decode cX11_unit 60 = .ok (.invokevirtual 301, 3) := by decide +kernel
theorem dX11_unit_63 : decode cX11_unit 63 = .ok (.istore_n 3, 1) := by decide +kernel
theorem dX11_unit_64 : decode cX11_unit 64 = .ok (.aload_n 0, 1) := by decide +kernel
theorem dX11_unit_65 : decode cX11_unit 65 = .ok (.invokevirtual 350, 3) := by decide +kernel
theorem dX11_unit_68 : decode cX11_unit 68 = .ok (.istore 4, 2) := by decide +kernel
theorem dX11_unit_70 : decode cX11_unit 70 = .ok (.aload_n 0, 1) := by decide +kernel
theorem dX11_unit_71 : decode cX11_unit 71 = .ok (.getfield 36, 3) := by decide +kernel
theorem dX11_unit_74 : decode cX11_unit 74 = .ok (.aload_n 0, 1) := by decide +kernel
theorem dX11_unit_75 : decode cX11_unit 75 = .ok (.getfield 264, 3) := by decide +kernel
theorem dX11_unit_78 : decode cX11_unit 78 = .ok (.iaload, 1) := by decide +kernel
theorem dX11_unit_79 : decode cX11_unit 79 = .ok (.bipush 90, 2) := by decide +kernel
theorem dX11_unit_81 : decode cX11_unit 81 = .ok (.if_icmp .eq 12, 3) := by decide +kernel
theorem dX11_unit_84 : decode cX11_unit 84 = .ok (.aload_n 0, 1) := by decide +kernel
theorem dX11_unit_85 : decode cX11_unit 85 = .ok (.getfield 329, 3) := by decide +kernel
theorem dX11_unit_88 : decode cX11_unit 88 = .ok (.bipush 30, 2) := by decide +kernel
theorem dX11_unit_90 : decode cX11_unit 90 = .ok (.if_icmp .ne 7, 3) := by decide +kernel
theorem dX11_unit_93 : decode cX11_unit 93 = .ok (.iconst 1, 1) := by decide +kernel
theorem dX11_unit_94 : decode cX11_unit 94 = .ok (.goto 4, 3) := by decide +kernel
theorem dX11_unit_97 : decode cX11_unit 97 = .ok (.iconst 0, 1) := by decide +kernel
theorem dX11_unit_98 : decode cX11_unit 98 = .ok (.istore 5, 2) := by decide +kernel
theorem dX11_unit_100 : decode cX11_unit 100 = .ok (.iload_n 2, 1) := by decide +kernel
theorem dX11_unit_101 : decode cX11_unit 101 = .ok (.ifCond .ne 25, 3) := by decide +kernel
theorem dX11_unit_104 : decode cX11_unit 104 = .ok (.iload 4, 2) := by decide +kernel
theorem dX11_unit_106 : decode cX11_unit 106 = .ok (.ifCond .ne 15, 3) := by decide +kernel
theorem dX11_unit_109 : decode cX11_unit 109 = .ok (.aload_n 0, 1) := by decide +kernel
theorem dX11_unit_110 : decode cX11_unit 110 = .ok (.getfield 215, 3) := by decide +kernel
theorem dX11_unit_113 : decode cX11_unit 113 = .ok (.iconst 4, 1) := by decide +kernel
theorem dX11_unit_114 : decode cX11_unit 114 = .ok (.if_icmp .eq 7, 3) := by decide +kernel
theorem dX11_unit_117 : decode cX11_unit 117 = .ok (.iload_n 3, 1) := by decide +kernel
theorem dX11_unit_118 : decode cX11_unit 118 = .ok (.ifCond .eq 25, 3) := by decide +kernel
theorem dX11_unit_121 : decode cX11_unit 121 = .ok (.iload 5, 2) := by decide +kernel
theorem dX11_unit_123 : decode cX11_unit 123 = .ok (.ifCond .ne 20, 3) := by decide +kernel
theorem dX11_unit_126 : decode cX11_unit 126 = .ok (.iload_n 2, 1) := by decide +kernel
theorem dX11_unit_127 : decode cX11_unit 127 = .ok (.ifCond .ne 7, 3) := by decide +kernel
theorem dX11_unit_130 : decode cX11_unit 130 = .ok (.iload_n 3, 1) := by decide +kernel
theorem dX11_unit_131 : decode cX11_unit 131 = .ok (.ifCond .eq 16, 3) := by decide +kernel
theorem dX11_unit_134 : decode cX11_unit 134 = .ok (.aload_n 0, 1) := by decide +kernel
theorem dX11_unit_135 : decode cX11_unit 135 = .ok (.getfield 338, 3) := by decide +kernel
theorem dX11_unit_138 : decode cX11_unit 138 = .ok (.bipush 7, 2) := by decide +kernel
theorem dX11_unit_140 : decode cX11_unit 140 = .ok (.if_icmp .ne 7, 3) := by decide +kernel
theorem dX11_unit_143 : decode cX11_unit 143 = .ok (.aload_n 0, 1) := by decide +kernel
theorem dX11_unit_144 : decode cX11_unit 144 = .ok (.invokevirtual 250, 3) := by decide +kernel
theorem dX11_unit_147 : decode cX11_unit 147 = .ok (.aload_n 0, 1) := by decide +kernel
theorem dX11_unit_148 : decode cX11_unit 148 = .ok (.invokevirtual 243, 3) := by decide +kernel
theorem dX11_unit_151 : decode cX11_unit 151 = .ok (.ifCond .ne 5, 3) := by decide +kernel
theorem dX11_unit_154 : decode cX11_unit 154 = .ok (.iconst 1, 1) := by decide +kernel
theorem dX11_unit_155 : decode cX11_unit 155 = .ok (.ireturn, 1) := by decide +kernel
theorem dX11_unit_156 : decode cX11_unit 156 = .ok (.aload_n 0, 1) := by decide +kernel
theorem dX11_unit_157 : decode cX11_unit 157 = .ok (.getfield 36, 3) := by decide +kernel
theorem dX11_unit_160 : decode cX11_unit 160 = .ok (.aload_n 0, 1) := by decide +kernel
theorem dX11_unit_161 : decode cX11_unit 161 = .ok (.getfield 264, 3) := by decide +kernel
theorem dX11_unit_164 : decode cX11_unit 164 = .ok (.dup2, 1) := by decide +kernel
theorem dX11_unit_165 : decode cX11_unit 165 = .ok (.iaload, 1) := by decide +kernel
theorem dX11_unit_166 : decode cX11_unit 166 = .ok (.iload_n 2, 1) := by decide +kernel
theorem dX11_unit_167 : decode cX11_unit 167 = .ok (.ifCond .eq 7, 3) := by decide +kernel
theorem dX11_unit_170 : decode cX11_unit 170 = .ok (.iconst 0, 1) := by decide +kernel
theorem dX11_unit_171 : decode cX11_unit 171 = .ok (.goto 4, 3) := by decide +kernel
theorem dX11_unit_174 : decode cX11_unit 174 = .ok (.iconst 1, 1) := by decide +kernel
theorem dX11_unit_175 : decode cX11_unit 175 = .ok (.iadd, 1) := by decide +kernel
theorem dX11_unit_176 : decode cX11_unit 176 = .ok (.iastore, 1) := by decide +kernel
theorem dX11_unit_177 : decode cX11_unit 177 = .ok (.aload_n 0, 1) := by decide +kernel
theorem dX11_unit_178 : decode cX11_unit 178 = .ok (.dup, 1) := by decide +kernel
theorem dX11_unit_179 : decode cX11_unit 179 = .ok (.getfield 329, 3) := by decide +kernel
theorem dX11_unit_182 : decode cX11_unit 182 = .ok (.iload_n 2, 1) := by decide +kernel
theorem dX11_unit_183 : decode cX11_unit 183 = .ok (.ifCond .eq 7, 3) := by decide +kernel
theorem dX11_unit_186 : decode cX11_unit 186 = .ok (.iconst 0, 1) := by decide +kernel
theorem dX11_unit_187 : decode cX11_unit 187 = .ok (.goto 4, 3) := by decide +kernel
theorem dX11_unit_190 : decode cX11_unit 190 = .ok (.iconst 1, 1) := by decide +kernel
theorem dX11_unit_191 : decode cX11_unit 191 = .ok (.iadd, 1) := by decide +kernel
theorem dX11_unit_192 : decode cX11_unit 192 = .ok (.putfield 329, 3) := by decide +kernel
theorem dX11_unit_195 : decode cX11_unit 195 = .ok (.iload 4, 2) := by decide +kernel
theorem dX11_unit_197 : decode cX11_unit 197 = .ok (.ifCond .ne 10, 3) := by decide +kernel
theorem dX11_unit_200 : decode cX11_unit 200 = .ok (.aload_n 0, 1) := by decide +kernel
theorem dX11_unit_201 : decode cX11_unit 201 = .ok (.getfield 233, 3) := by decide +kernel
theorem dX11_unit_204 : decode cX11_unit 204 = .ok (.goto 4, 3) := by decide +kernel
theorem dX11_unit_207 : decode cX11_unit 207 = .ok (.iconst 0, 1) := by decide +kernel
theorem dX11_unit_208 : decode cX11_unit 208 = .ok (.istore 6, 2) := by decide +kernel
theorem dX11_unit_210 : decode cX11_unit 210 = .ok (.aload_n 0, 1) := by decide +kernel
theorem dX11_unit_211 : decode cX11_unit 211 = .ok (.invokevirtual 247, 3) := by decide +kernel
theorem dX11_unit_214 : decode cX11_unit 214 = .ok (.iload_n 2, 1) := by decide +kernel
theorem dX11_unit_215 : decode cX11_unit 215 = .ok (.ifCond .ne 7, 3) := by decide +kernel
theorem dX11_unit_218 : decode cX11_unit 218 = .ok (.iload_n 3, 1) := by decide +kernel
theorem dX11_unit_219 : decode cX11_unit 219 = .ok (.ifCond .eq 31, 3) := by decide +kernel
theorem dX11_unit_222 : decode cX11_unit 222 = .ok (.aload_n 0, 1) := by decide +kernel
theorem dX11_unit_223 : decode cX11_unit 223 = .ok (.iload_n 2, 1) := by decide +kernel
theorem dX11_unit_224 : decode cX11_unit 224 = .ok (.ifCond .eq 7, 3) := by decide +kernel
theorem dX11_unit_227 : decode cX11_unit 227 = .ok (.iconst 3, 1) := by decide +kernel
theorem dX11_unit_228 : decode cX11_unit 228 = .ok (.goto 5, 3) := by decide +kernel
theorem dX11_unit_231 : decode cX11_unit 231 = .ok (.bipush 7, 2) := by decide +kernel
theorem dX11_unit_233 : decode cX11_unit 233 = .ok (.bipush 126, 2) := by decide +kernel
theorem dX11_unit_235 : decode cX11_unit 235 = .ok (.invokevirtual 341, 3) := by decide +kernel
theorem dX11_unit_238 : decode cX11_unit 238 = .ok (.aload_n 0, 1) := by decide +kernel
theorem dX11_unit_239 : decode cX11_unit 239 = .ok (.dup, 1) := by decide +kernel
theorem dX11_unit_240 : decode cX11_unit 240 = .ok (.getfield 338, 3) := by decide +kernel
theorem dX11_unit_243 : decode cX11_unit 243 = .ok (.iconst 1, 1) := by decide +kernel
theorem dX11_unit_244 : decode cX11_unit 244 = .ok (.iadd, 1) := by decide +kernel
theorem dX11_unit_245 : decode cX11_unit 245 = .ok (.putfield 338, 3) := by decide +kernel
theorem dX11_unit_248 : decode cX11_unit 248 = .ok (.iconst 1, 1) := by decide +kernel
theorem dX11_unit_249 : decode cX11_unit 249 = .ok (.ireturn, 1) := by decide +kernel
theorem dX11_unit_250 : decode cX11_unit 250 = .ok (.aload_n 0, 1) := by decide +kernel
theorem dX11_unit_251 : decode cX11_unit 251 = .ok (.iload 4, 2) := by decide +kernel
theorem dX11_unit_253 : decode cX11_unit 253 = .ok (.ifCond .ne 8, 3) := by decide +kernel
theorem dX11_unit_256 : decode cX11_unit 256 = .ok (.bipush 110, 2) := by decide +kernel
theorem dX11_unit_258 : decode cX11_unit 258 = .ok (.goto 5, 3) := by decide +kernel
theorem dX11_unit_261 : decode cX11_unit 261 = .ok (.iload 4, 2) := by decide +kernel
theorem dX11_unit_263 : decode cX11_unit 263 = .ok (.iload 6, 2) := by decide +kernel
theorem dX11_unit_265 : decode cX11_unit 265 = .ok (.invokevirtual 353, 3) := by decide +kernel
theorem dX11_unit_268 : decode cX11_unit 268 = .ok (.iconst 0, 1) := by decide +kernel
theorem dX11_unit_269 : decode cX11_unit 269 = .ok (.ireturn, 1) := by decide +kernel
set_option maxHeartbeats 20000000 in
set_option maxRecDepth 100000 in
theorem J126_l2_0_X11_unit (l : Launch) (D : va_G) (cT : Nat → ClassId) (T : Nat → Option Nat) (q : Nat → Int) (hT : tokm T) (hq : qkm q) (a0 : Nat) (t0 : T a0 = some 0) (hp0 : TS q) (hp1 : q 13 = 1 - q 10) (hp2 : q 30 = 0) (hp3 : 0 ≤ q 35) (hp4 : RS q 1) (hp5 : 1 ≤ q 21) (p : Program) (e : Env) (s : State) (m : MethodId) (below : List Frame) (meth : Method) (c : Code) (S : CallFix p m c cX11_unit 7 s [.ref a0].toArray gw yX11_unit.cls) (hK : va_K D classes (th_tys cT) s) (hr : meth.sig.returnType = (some .boolean)) (hlocks : meth.locks = false) : ∀ (H : Heap) (locs : List Loc) (ls : Array Slot) (v126_3 : Int32) (v126_4 : Int32), IV v126_3 0 1 → IV v126_4 0 122 → (v126_3.toInt ≠ 0 → q 29 = 5) → (v126_4.toInt ≠ 0 → q 29 = 3 ∧ 97 ≤ v126_4.toInt) → (q 24 ≤ 89 ∧ q 23 ≤ 29) → (v126_4.toInt ≠ 0 ∨ q 29 = 4 ∨ v126_3.toInt ≠ 0) → th_H D cT T (km q) H → va_S (th_A T [0, 8, 28, 29, 30, 31]) s.heap H locs → lv_has ls 7 [(0, .ref a0), (2, .int 0), (3, .int v126_3), (4, .int v126_4)] → W p l e (rmk 2 44) s m [.ref a0].toArray below meth c H locs 0 0 (MQ below (th_QM D cT T (fun v q2 => ∃ r : Int32, v = some (.int r) ∧ IV r 0 1 ∧ qkm q2 ∧ fr [20, 21, 22, 23, 24, 27, 28, 29, 30, 31, 1000] q q2 ∧ (TS q2) ∧ (q 27 ≤ q2 27) ∧ (DM q q2) ∧ (kp q q2 (q 35)) ∧ (RU q2 r.toInt) ∧ (GD q q2)) [0, 8, 28, 29, 30, 31]) [.ref a0].toArray s 0 0 (th_A T [0, 8, 28, 29, 30, 31])) (F0 m 126 ls []) := by
    have hx := S.1
    have hb := S.2.1
    have b13 := qkm_13 hq; have b10 := qkm_10 hq; have b20 := qkm_20 hq; have b22 := qkm_22 hq; have b23 := qkm_23 hq; have b24 := qkm_24 hq; have b26 := qkm_26 hq; have b27 := qkm_27 hq; have le0 := TS_le hp0
    obtain ⟨hlo1, hlo2, hlo3⟩ := RS_lo hp4; have hpil := RS_piled hp4 (by decide)
    intro H locs ls v126_3 v126_4 iv126_3 iv126_4 v126_inv0 v126_inv1 v126_inv2 v126_inv3 hH hS hl
    have l1v126_3 := iv126_3.1; have l2v126_3 := iv126_3.2
    have l1v126_4 := iv126_4.1; have l2v126_4 := iv126_4.2
    refine lv_iload_n hx hb dX11_unit_126 rfl (lv_at hl 1 rfl) ?_
    refine lv_if_ne (tgt := 134) hx hb dX11_unit_127 (by decide) (fun c1 => ?_) (fun c1 => ?_)
    · skip
      have rlc1 : (0 : Int) ≠ (0 : Int) := iv_ne c1
      exact absurd (iv_eqc (iv_c (by decide) : IV 0 0 0) (iv_c (by decide) : IV 0 0 0)) c1
    · skip
      have rlc1 : (0 : Int) = (0 : Int) := congrArg Int32.toInt c1
      refine lv_iload_n hx hb dX11_unit_130 rfl (lv_at hl 2 rfl) ?_
      refine lv_if_eq (tgt := 147) hx hb dX11_unit_131 (by decide) (fun c2 => ?_) (fun c2 => ?_)
      · skip
        have rlc2 : v126_3.toInt = (0 : Int) := congrArg Int32.toInt c2
        have ir3 : IV v126_3 0 0 := iv_eL c2 (iv_c (by decide) : IV 0 0 0)
        have ir3a := ir3.1; have ir3b := ir3.2
        refine lv_aload_n hx hb dX11_unit_147 rfl (lv_at hl 0 rfl) ?_
        refine th_callVp (n := 0) (As := []) S hK hH hS (th_A.sub (by decide)) (m_X11_isGood l D cT T q hT hq a0 t0) gm_1487 gm_1484 gm_1486 gm_49 gm_124 (by decide +kernel) ⟨rfl, rfl, Nat.le_of_ble_eq_true rfl, Nat.le_of_ble_eq_true rfl⟩ t0 km_0 rfl rfl hl.1 rfl (Nat.le_of_ble_eq_true rfl) dX11_unit_148 ⟨Nat.zero_le _, Nat.zero_le _⟩ (fun x4 H locs ix4 ox4 hH hS hF1 => ?_)
        obtain ⟨ox4_0, ox4_1⟩ := ox4
        have ox4_0 : x4.toInt ≠ 0 → q 30 = 0 := ox4_0
        have ox4_1 : x4.toInt = 0 → 1 ≤ q 30 := ox4_1
        have l1x4 := ix4.1; have l2x4 := ix4.2
        refine lv_if_ne (tgt := 156) hx hb dX11_unit_151 (by decide) (fun c5 => ?_) (fun c5 => ?_)
        · skip
          have rlc5 : x4.toInt ≠ (0 : Int) := iv_ne c5
          have ox4_0r := ox4_0 rlc5
          clear ox4_0
          clear ox4_1
          have ir6 : IV x4 1 1 := iv_cutL ix4 (iv_c (by decide) : IV 0 0 0) c5 (by decide)
          have ir6a := ir6.1; have ir6b := ir6.2
          clear rlc5
          have h29 : 1 ≤ q 29 := by omega
          clear v126_inv0 v126_inv3
          have hadv := TS_in hp0 (by omega)
          refine lv_aload_n hx hb dX11_unit_156 rfl (lv_at hl 0 rfl) ?_
          refine th_get S hK hH inG11 t0 km_0 rfl 16 (by decide) gm_1246 rfl rfl dX11_unit_157 (fun v7 hv7 fv7 => ?_)
          obtain ⟨rf8, rfl, trf8⟩ := th_V.ref hv7
          refine lv_aload_n hx hb dX11_unit_160 rfl (lv_at hl 0 rfl) ?_
          refine th_get S hK hH inG11 t0 km_0 rfl 42 (by decide) gm_1272 rfl rfl dX11_unit_161 (fun v9 hv9 fv9 => ?_)
          obtain ⟨x10, rfl, ix10⟩ := th_V.int hv9
          have kx10 : x10.toInt = q 13 := Int.le_antisymm ix10.2 ix10.1
          have bx10 := qkm_13 hq
          have ix10 : IV x10 0 1 := iv_w ix10 (qkm_13 hq)
          refine lv_dup2_11 hx hb dX11_unit_164 rfl rfl ?_
          refine th_iald S hK hH trf8 km_8 (th_in (hi := 1) ix10 (by decide)) dX11_unit_165 (fun v11 hv11 => ?_)
          obtain ⟨x12, rfl, ix12⟩ := th_bkB hv11 ix10 (by omega)
          have kx12 : x12.toInt = q 24 := Int.le_antisymm ix12.2 ix12.1
          have bx12 := qkm_24 hq
          have ix12 : IV x12 0 90 := iv_w ix12 (qkm_24 hq)
          refine lv_iload_n hx hb dX11_unit_166 rfl (lv_at hl 1 rfl) ?_
          refine lv_if_eq (tgt := 174) hx hb dX11_unit_167 (by decide) (fun c13 => ?_) (fun c13 => ?_)
          · skip
            have rlc13 : (0 : Int) = (0 : Int) := congrArg Int32.toInt c13
            refine lv_iconst (v := 1) hx hb dX11_unit_174 (by decide) ?_
            refine lv_iadd hx hb dX11_unit_175 ?_
            refine lv_topi (fun x14 ex14 => ?_)
            have ix14 : IV x14 1 91 := by rw [ex14]; exact iv_add ix12 (iv_c (by decide) : IV 1 1 1) (by decide)
            have ux14 : x14.toInt = x12.toInt + (1 : Int) := by rw [ex14]; exact iv_addE (by have z1 := (ix12).1; have z2 := (ix12).2; have z3 := ((iv_c (by decide) : IV 1 1 1)).1; have z4 := ((iv_c (by decide) : IV 1 1 1)).2; omega)
            obtain ⟨n15, en15⟩ : ∃ z : Int, z = Int32.toInt x14 := ⟨_, rfl⟩
            refine mst_8 S hK hH hS ⟨8, by decide, trf8⟩ hT trf8 en15 (qkm_10 hq) ix10 (by omega) dX11_unit_176 (fun q16 H locs eq16 hH hS hq1 => ?_)
            have hqq16 : qkm q16 := by rw [eq16]; exact qum_ok24 hq (by have z1 := (ix14).1; have z2 := (ix14).2; exact ⟨by omega, by omega⟩)
            have h0q16 : fr [20, 21, 22, 23, 24, 27, 28, 29, 30, 31, 1000] q q16 := by rw [eq16]; exact fr_up fr_rf (by decide)
            have wq16_10 : q16 10 = q 10 := by rw [eq16]; rfl
            have wq16_13 : q16 13 = q 13 := by rw [eq16]; rfl
            have wq16_20 : q16 20 = q 20 := by rw [eq16]; rfl
            have wq16_21 : q16 21 = q 21 := by rw [eq16]; rfl
            have wq16_22 : q16 22 = q 22 := by rw [eq16]; rfl
            have wq16_23 : q16 23 = q 23 := by rw [eq16]; rfl
            have wq16_24 : q16 24 = q 24 + (1 : Int) := by rw [show q16 24 = n15 by rw [eq16]; rfl, en15, ux14, kx12]
            have wq16_26 : q16 26 = q 26 := by rw [eq16]; rfl
            have wq16_27 : q16 27 = q 27 := by rw [eq16]; rfl
            have wq16_28 : q16 28 = q 28 := by rw [eq16]; rfl
            have wq16_29 : q16 29 = q 29 := by rw [eq16]; rfl
            have wq16_30 : q16 30 = q 30 := by rw [eq16]; rfl
            have wq16_31 : q16 31 = q 31 := by rw [eq16]; rfl
            have wq16_35 : q16 35 = q 35 := by rw [eq16]; rfl
            have bgq16 : bg q q16 := bg_up bg_rf eq16 (by decide)
            have gdq16 : GD q q16 := GD_tr (GD_eq rfl) (GD_eq wq16_30)
            have gbq16 : GD q q16 := GD_tr (GD_eq rfl) (GD_eq wq16_30)
            have txq16 : tx q q16 := tx_tr tx_rf (tx_up eq16 (by omega))
            clear en15
            clear ux14
            have f17 := fv7.kept (hq1 _ (th_ne t0 trf8 (by decide)))
            refine lv_aload_n hx hb dX11_unit_177 rfl (lv_at hl 0 rfl) ?_
            refine lv_dup hx hb dX11_unit_178 rfl ?_
            refine th_get S hK hH inG11 t0 km_0 rfl 46 (by decide) gm_1276 rfl rfl dX11_unit_179 (fun v18 hv18 fv18 => ?_)
            obtain ⟨x19, rfl, ix19⟩ := th_V.int hv18
            have kx19 : x19.toInt = q16 23 := Int.le_antisymm ix19.2 ix19.1
            have bx19 := qkm_23 hqq16
            have ix19 : IV x19 0 30 := iv_w ix19 (qkm_23 hqq16)
            refine lv_iload_n hx hb dX11_unit_182 rfl (lv_at hl 1 rfl) ?_
            refine lv_if_eq (tgt := 190) hx hb dX11_unit_183 (by decide) (fun c20 => ?_) (fun c20 => ?_)
            · skip
              have rlc20 : (0 : Int) = (0 : Int) := congrArg Int32.toInt c20
              refine lv_iconst (v := 1) hx hb dX11_unit_190 (by decide) ?_
              refine lv_iadd hx hb dX11_unit_191 ?_
              refine lv_topi (fun x21 ex21 => ?_)
              have ix21 : IV x21 1 31 := by rw [ex21]; exact iv_add ix19 (iv_c (by decide) : IV 1 1 1) (by decide)
              have ux21 : x21.toInt = x19.toInt + (1 : Int) := by rw [ex21]; exact iv_addE (by have z1 := (ix19).1; have z2 := (ix19).2; have z3 := ((iv_c (by decide) : IV 1 1 1)).1; have z4 := ((iv_c (by decide) : IV 1 1 1)).2; omega)
              obtain ⟨n23, en23⟩ : ∃ z : Int, z = Int32.toInt x21 := ⟨_, rfl⟩
              refine mput_23 S hK hH hS ⟨0, by decide, t0⟩ hT t0 en23 gm_1276 dX11_unit_192 (fun q22 H locs eq22 hH hS hq1 => ?_)
              have hqq22 : qkm q22 := by rw [eq22]; exact qum_ok23 hqq16 (by have z1 := (ix21).1; have z2 := (ix21).2; exact ⟨by omega, by omega⟩)
              have h0q22 : fr [20, 21, 22, 23, 24, 27, 28, 29, 30, 31, 1000] q q22 := by rw [eq22]; exact fr_up h0q16 (by decide)
              have wq22_10 : q22 10 = q16 10 := by rw [eq22]; rfl
              have wq22_13 : q22 13 = q16 13 := by rw [eq22]; rfl
              have wq22_20 : q22 20 = q16 20 := by rw [eq22]; rfl
              have wq22_21 : q22 21 = q16 21 := by rw [eq22]; rfl
              have wq22_22 : q22 22 = q16 22 := by rw [eq22]; rfl
              have wq22_23 : q22 23 = q16 23 + (1 : Int) := by rw [show q22 23 = n23 by rw [eq22]; rfl, en23, ux21, kx19]
              have wq22_24 : q22 24 = q16 24 := by rw [eq22]; rfl
              have wq22_26 : q22 26 = q16 26 := by rw [eq22]; rfl
              have wq22_27 : q22 27 = q16 27 := by rw [eq22]; rfl
              have wq22_28 : q22 28 = q16 28 := by rw [eq22]; rfl
              have wq22_29 : q22 29 = q16 29 := by rw [eq22]; rfl
              have wq22_30 : q22 30 = q16 30 := by rw [eq22]; rfl
              have wq22_31 : q22 31 = q16 31 := by rw [eq22]; rfl
              have wq22_35 : q22 35 = q16 35 := by rw [eq22]; rfl
              have bgq22 : bg q q22 := bg_up bgq16 eq22 (by decide)
              have gdq22 : GD q q22 := GD_tr gdq16 (GD_eq wq22_30)
              have gbq22 : GD q q22 := GD_tr gbq16 (GD_eq wq22_30)
              have txq22 : tx q q22 := tx_tr txq16 (tx_up eq22 (by omega))
              clear en23
              clear ux21
              refine lv_iload hx hb dX11_unit_195 (lv_at hl 3 rfl) ?_
              refine lv_if_ne (tgt := 207) hx hb dX11_unit_197 (by decide) (fun c24 => ?_) (fun c24 => ?_)
              · skip
                have rlc24 : v126_4.toInt ≠ (0 : Int) := iv_ne c24
                have ir25 : IV v126_4 1 122 := iv_cutL iv126_4 (iv_c (by decide) : IV 0 0 0) c24 (by decide)
                have ir25a := ir25.1; have ir25b := ir25.2
                clear rlc24
                refine lv_iconst (v := 0) hx hb dX11_unit_207 (by decide) ?_
                refine lv_istore (lv' := [(6, .int 0), (0, .ref a0), (2, .int 0), (3, .int v126_3), (4, .int v126_4)]) hx hb dX11_unit_208 hl (by decide) rfl (fun ls hl => ?_)
                refine lv_aload_n hx hb dX11_unit_210 rfl (lv_at hl 1 rfl) ?_
                have le25 := TS_le (TS_mv hp0 txq22 (by omega) (by omega) (by omega) (by omega) (by omega) (fun z => by omega))
                refine th_callVM (n := 0) (As := []) S hK hH hS (th_A.sub (by decide)) (m_X11_goOn l D cT T q22 hT hqq22 a0 t0 (show q22 28 ≤ q22 26 by exact (TS_le (TS_mv hp0 txq22 (by omega) (by omega) (by omega) (by omega) (by omega) (fun z => by omega))).2)) gm_1445 gm_1442 gm_1444 gm_47 gm_124 (by decide +kernel) ⟨rfl, rfl, Nat.le_of_ble_eq_true rfl, Nat.le_of_ble_eq_true rfl⟩ t0 km_0 rfl rfl hl.1 rfl (Nat.le_of_ble_eq_true rfl) dX11_unit_211 ⟨Nat.zero_le _, Nat.zero_le _⟩ (fun wq26 q26 H locs hEq26 hH hS hF1 => ?_)
                obtain ⟨rfl, hqq26, g0q26, pq26_0, pq26_1, pq26_2⟩ := hEq26
                show W p l e (rmk 2 44) s m [.ref a0].toArray below meth c H locs 0 0 (MQ below (th_QM D cT T (fun v q2 => ∃ r : Int32, v = some (.int r) ∧ IV r 0 1 ∧ qkm q2 ∧ fr [20, 21, 22, 23, 24, 27, 28, 29, 30, 31, 1000] q q2 ∧ (TS q2) ∧ (q 27 ≤ q2 27) ∧ (DM q q2) ∧ (kp q q2 (q 35)) ∧ (RU q2 r.toInt) ∧ (GD q q2)) [0, 8, 28, 29, 30, 31]) [.ref a0].toArray s 0 0 (th_A T [0, 8, 28, 29, 30, 31])) (F0 m 214 ls [])
                have pq26_0 : TS q26 := pq26_0
                have pq26_1 : q22 28 ≤ q26 27 := pq26_1
                have pq26_2 : LX q22 q26 := pq26_2
                have wq26_10 : q26 10 = q22 10 := g0q26 10 (by decide) (Or.inl (by decide))
                have wq26_13 : q26 13 = q22 13 := g0q26 13 (by decide) (Or.inl (by decide))
                have wq26_20 : q26 20 = q22 20 := g0q26 20 (by decide) (Or.inl (by decide))
                have wq26_21 : q26 21 = q22 21 := g0q26 21 (by decide) (Or.inl (by decide))
                have wq26_22 : q26 22 = q22 22 := g0q26 22 (by decide) (Or.inl (by decide))
                have wq26_23 : q26 23 = q22 23 := g0q26 23 (by decide) (Or.inl (by decide))
                have wq26_24 : q26 24 = q22 24 := g0q26 24 (by decide) (Or.inl (by decide))
                have wq26_26 : q26 26 = q22 26 := g0q26 26 (by decide) (Or.inl (by decide))
                have wq26_30 : q26 30 = q22 30 := g0q26 30 (by decide) (Or.inl (by decide))
                have wq26_35 : q26 35 = q22 35 := g0q26 35 (by decide) (Or.inl (by decide))
                have h0q26 : fr [20, 21, 22, 23, 24, 27, 28, 29, 30, 31, 1000] q q26 := fr_tr h0q22 g0q26 (by decide)
                have bgq26 : bg q q26 := bg_fr bgq22 g0q26 (by decide)
                have gdq26 : GD q q26 := GD_tr gdq22 (GD_eq wq26_30)
                have gbq26 : GD q q26 := GD_tr gbq22 (GD_eq wq26_30)
                have hbig : bg q q26 := bgq26
                refine lv_iload_n hx hb dX11_unit_214 rfl (lv_at hl 2 rfl) ?_
                refine lv_if_ne (tgt := 222) hx hb dX11_unit_215 (by decide) (fun c27 => ?_) (fun c27 => ?_)
                · skip
                  have rlc27 : (0 : Int) ≠ (0 : Int) := iv_ne c27
                  exact absurd (iv_eqc (iv_c (by decide) : IV 0 0 0) (iv_c (by decide) : IV 0 0 0)) c27
                · skip
                  have rlc27 : (0 : Int) = (0 : Int) := congrArg Int32.toInt c27
                  refine lv_iload_n hx hb dX11_unit_218 rfl (lv_at hl 3 rfl) ?_
                  refine lv_if_eq (tgt := 250) hx hb dX11_unit_219 (by decide) (fun c28 => ?_) (fun c28 => ?_)
                  · skip
                    have rlc28 : v126_3.toInt = (0 : Int) := congrArg Int32.toInt c28
                    have hroom := RS_room1 hp4 (by omega) (by omega)
                    refine lv_aload_n hx hb dX11_unit_250 rfl (lv_at hl 1 rfl) ?_
                    refine lv_iload hx hb dX11_unit_251 (lv_at hl 4 rfl) ?_
                    refine lv_if_ne (tgt := 261) hx hb dX11_unit_253 (by decide) (fun c29 => ?_) (fun c29 => ?_)
                    · skip
                      have rlc29 : v126_4.toInt ≠ (0 : Int) := iv_ne c29
                      clear rlc29
                      have h97 := (v126_inv1 (by omega)).2; clear v126_inv1
                      refine lv_iload hx hb dX11_unit_261 (lv_at hl 4 rfl) ?_
                      refine lv_iload hx hb dX11_unit_263 (lv_at hl 0 rfl) ?_
                      refine th_callVM (n := 2) (As := [.int v126_4, .int 0]) S hK hH hS (th_A.sub (by decide)) (m_X11_emit l D cT T q26 hT hqq26 a0 t0 (v126_4) (iv_top _) (0) (iv_top _) (show 560 * q26 13 ≤ q26 20 ∧ q26 20 ≤ 560 * q26 13 + 559 by omega) (show q26 13 = 1 - q26 10 by omega)) gm_1571 gm_1568 gm_1570 gm_70 gm_124 (by decide +kernel) ⟨rfl, rfl, Nat.le_of_ble_eq_true rfl, Nat.le_of_ble_eq_true rfl⟩ t0 km_0 rfl rfl hl.1 rfl (Nat.le_of_ble_eq_true rfl) dX11_unit_265 ⟨Nat.zero_le _, Nat.zero_le _⟩ (fun wq30 q30 H locs hEq30 hH hS hF1 => ?_)
                      obtain ⟨rfl, hqq30, g0q30, pq30_0, pq30_1, pq30_2⟩ := hEq30
                      show W p l e (rmk 2 44) s m [.ref a0].toArray below meth c H locs 0 0 (MQ below (th_QM D cT T (fun v q2 => ∃ r : Int32, v = some (.int r) ∧ IV r 0 1 ∧ qkm q2 ∧ fr [20, 21, 22, 23, 24, 27, 28, 29, 30, 31, 1000] q q2 ∧ (TS q2) ∧ (q 27 ≤ q2 27) ∧ (DM q q2) ∧ (kp q q2 (q 35)) ∧ (RU q2 r.toInt) ∧ (GD q q2)) [0, 8, 28, 29, 30, 31]) [.ref a0].toArray s 0 0 (th_A T [0, 8, 28, 29, 30, 31])) (F0 m 268 ls [])
                      have pq30_0 : q30 = emitq q26 v126_4.toInt := pq30_0
                      have pq30_1 : q30 20 = q26 20 + 1 := pq30_1
                      have pq30_2 : tx q26 q30 := pq30_2
                      have wq30_10 : q30 10 = q26 10 := g0q30 10 (by decide) (Or.inl (by decide))
                      have wq30_13 : q30 13 = q26 13 := g0q30 13 (by decide) (Or.inl (by decide))
                      have wq30_21 : q30 21 = q26 21 := g0q30 21 (by decide) (Or.inl (by decide))
                      have wq30_22 : q30 22 = q26 22 := g0q30 22 (by decide) (Or.inl (by decide))
                      have wq30_23 : q30 23 = q26 23 := g0q30 23 (by decide) (Or.inl (by decide))
                      have wq30_24 : q30 24 = q26 24 := g0q30 24 (by decide) (Or.inl (by decide))
                      have wq30_26 : q30 26 = q26 26 := g0q30 26 (by decide) (Or.inl (by decide))
                      have wq30_27 : q30 27 = q26 27 := g0q30 27 (by decide) (Or.inl (by decide))
                      have wq30_28 : q30 28 = q26 28 := g0q30 28 (by decide) (Or.inl (by decide))
                      have wq30_29 : q30 29 = q26 29 := g0q30 29 (by decide) (Or.inl (by decide))
                      have wq30_30 : q30 30 = q26 30 := g0q30 30 (by decide) (Or.inl (by decide))
                      have wq30_31 : q30 31 = q26 31 := g0q30 31 (by decide) (Or.inl (by decide))
                      have wq30_35 : q30 35 = q26 35 := g0q30 35 (by decide) (Or.inl (by decide))
                      have h0q30 : fr [20, 21, 22, 23, 24, 27, 28, 29, 30, 31, 1000] q q30 := fr_tr h0q26 g0q30 (by decide)
                      have gdq30 : GD q q30 := GD_tr gdq26 (GD_eq wq30_30)
                      have txq30 : tx q26 q30 := tx_tr tx_rf pq30_2
                      have hRS : RS q30 0 := RS_operand hp4 (by omega) hbig (by omega) (by omega) (by omega) (by omega) (by omega) (by omega) (by omega) (by omega) (by omega) (by omega) hadv ⟨hroom.2, by omega⟩ ⟨by omega, by omega⟩ (by omega) pq30_0
                      have hkp : kp q q30 (q 35) := kp_tr (kp_bg hbig) (kp_emit pq30_0 (by omega) (by omega) (by omega))
                      have hRU : RU q30 (0 : Int) := RU_0 hRS rfl
                      refine lv_iconst (v := 0) hx hb dX11_unit_268 (by decide) ?_
                      exact th_zretM S hK hH hS hr hlocks (iv_w (iv_c (by decide) : IV 0 0 0) (by decide)) ⟨_, rfl, (iv_w (iv_c (by decide) : IV 0 0 0) (by decide)), hqq30, h0q30, (show TS q30 by exact (TS_mv pq26_0 txq30 (by omega) (by omega) (by omega) (by omega) (by omega) (fun z => by omega))), (show q 27 ≤ q30 27 by omega), (show DM q q30 by exact fun _ => by omega), (show kp q q30 (q 35) by exact hkp), (show RU q30 (0 : Int) by exact hRU), (show GD q q30 by exact gdq30)⟩ dX11_unit_269
                    · skip
                      have rlc29 : v126_4.toInt = (0 : Int) := congrArg Int32.toInt c29
                      exact absurd c29 c24
                  · skip
                    have rlc28 : v126_3.toInt ≠ (0 : Int) := iv_ne c28
                    exact absurd (iv_eqc ir3 (iv_c (by decide) : IV 0 0 0)) c28
              · skip
                have rlc24 : v126_4.toInt = (0 : Int) := congrArg Int32.toInt c24
                have ir31 : IV v126_4 0 0 := iv_eL c24 (iv_c (by decide) : IV 0 0 0)
                have ir31a := ir31.1; have ir31b := ir31.2
                refine lv_aload_n hx hb dX11_unit_200 rfl (lv_at hl 0 rfl) ?_
                refine th_get S hK hH inG11 t0 km_0 rfl 9 (by decide) gm_1239 rfl rfl dX11_unit_201 (fun v32 hv32 fv32 => ?_)
                obtain ⟨x33, rfl, ix33⟩ := th_V.int hv32
                refine lv_goto (tgt := 208) hx hb dX11_unit_204 (by decide) ?_
                refine lv_istore (lv' := [(6, .int x33), (0, .ref a0), (2, .int 0), (3, .int v126_3), (4, .int v126_4)]) hx hb dX11_unit_208 hl (by decide) rfl (fun ls hl => ?_)
                refine lv_aload_n hx hb dX11_unit_210 rfl (lv_at hl 1 rfl) ?_
                have le33 := TS_le (TS_mv hp0 txq22 (by omega) (by omega) (by omega) (by omega) (by omega) (fun z => by omega))
                refine th_callVM (n := 0) (As := []) S hK hH hS (th_A.sub (by decide)) (m_X11_goOn l D cT T q22 hT hqq22 a0 t0 (show q22 28 ≤ q22 26 by exact (TS_le (TS_mv hp0 txq22 (by omega) (by omega) (by omega) (by omega) (by omega) (fun z => by omega))).2)) gm_1445 gm_1442 gm_1444 gm_47 gm_124 (by decide +kernel) ⟨rfl, rfl, Nat.le_of_ble_eq_true rfl, Nat.le_of_ble_eq_true rfl⟩ t0 km_0 rfl rfl hl.1 rfl (Nat.le_of_ble_eq_true rfl) dX11_unit_211 ⟨Nat.zero_le _, Nat.zero_le _⟩ (fun wq34 q34 H locs hEq34 hH hS hF1 => ?_)
                obtain ⟨rfl, hqq34, g0q34, pq34_0, pq34_1, pq34_2⟩ := hEq34
                show W p l e (rmk 2 44) s m [.ref a0].toArray below meth c H locs 0 0 (MQ below (th_QM D cT T (fun v q2 => ∃ r : Int32, v = some (.int r) ∧ IV r 0 1 ∧ qkm q2 ∧ fr [20, 21, 22, 23, 24, 27, 28, 29, 30, 31, 1000] q q2 ∧ (TS q2) ∧ (q 27 ≤ q2 27) ∧ (DM q q2) ∧ (kp q q2 (q 35)) ∧ (RU q2 r.toInt) ∧ (GD q q2)) [0, 8, 28, 29, 30, 31]) [.ref a0].toArray s 0 0 (th_A T [0, 8, 28, 29, 30, 31])) (F0 m 214 ls [])
                have pq34_0 : TS q34 := pq34_0
                have pq34_1 : q22 28 ≤ q34 27 := pq34_1
                have pq34_2 : LX q22 q34 := pq34_2
                have wq34_10 : q34 10 = q22 10 := g0q34 10 (by decide) (Or.inl (by decide))
                have wq34_13 : q34 13 = q22 13 := g0q34 13 (by decide) (Or.inl (by decide))
                have wq34_20 : q34 20 = q22 20 := g0q34 20 (by decide) (Or.inl (by decide))
                have wq34_21 : q34 21 = q22 21 := g0q34 21 (by decide) (Or.inl (by decide))
                have wq34_22 : q34 22 = q22 22 := g0q34 22 (by decide) (Or.inl (by decide))
                have wq34_23 : q34 23 = q22 23 := g0q34 23 (by decide) (Or.inl (by decide))
                have wq34_24 : q34 24 = q22 24 := g0q34 24 (by decide) (Or.inl (by decide))
                have wq34_26 : q34 26 = q22 26 := g0q34 26 (by decide) (Or.inl (by decide))
                have wq34_30 : q34 30 = q22 30 := g0q34 30 (by decide) (Or.inl (by decide))
                have wq34_35 : q34 35 = q22 35 := g0q34 35 (by decide) (Or.inl (by decide))
                have h0q34 : fr [20, 21, 22, 23, 24, 27, 28, 29, 30, 31, 1000] q q34 := fr_tr h0q22 g0q34 (by decide)
                have bgq34 : bg q q34 := bg_fr bgq22 g0q34 (by decide)
                have gdq34 : GD q q34 := GD_tr gdq22 (GD_eq wq34_30)
                have gbq34 : GD q q34 := GD_tr gbq22 (GD_eq wq34_30)
                have hbig : bg q q34 := bgq34
                refine lv_iload_n hx hb dX11_unit_214 rfl (lv_at hl 2 rfl) ?_
                refine lv_if_ne (tgt := 222) hx hb dX11_unit_215 (by decide) (fun c35 => ?_) (fun c35 => ?_)
                · skip
                  have rlc35 : (0 : Int) ≠ (0 : Int) := iv_ne c35
                  exact absurd (iv_eqc (iv_c (by decide) : IV 0 0 0) (iv_c (by decide) : IV 0 0 0)) c35
                · skip
                  have rlc35 : (0 : Int) = (0 : Int) := congrArg Int32.toInt c35
                  refine lv_iload_n hx hb dX11_unit_218 rfl (lv_at hl 3 rfl) ?_
                  refine lv_if_eq (tgt := 250) hx hb dX11_unit_219 (by decide) (fun c36 => ?_) (fun c36 => ?_)
                  · skip
                    have rlc36 : v126_3.toInt = (0 : Int) := congrArg Int32.toInt c36
                    have hroom := RS_room1 hp4 (by omega) (by omega)
                    refine lv_aload_n hx hb dX11_unit_250 rfl (lv_at hl 1 rfl) ?_
                    refine lv_iload hx hb dX11_unit_251 (lv_at hl 4 rfl) ?_
                    refine lv_if_ne (tgt := 261) hx hb dX11_unit_253 (by decide) (fun c37 => ?_) (fun c37 => ?_)
                    · skip
                      have rlc37 : v126_4.toInt ≠ (0 : Int) := iv_ne c37
                      exact absurd (iv_eqc ir31 (iv_c (by decide) : IV 0 0 0)) c37
                    · skip
                      have rlc37 : v126_4.toInt = (0 : Int) := congrArg Int32.toInt c37
                      refine lv_bipush (v := 110) hx hb dX11_unit_256 (by decide) ?_
                      refine lv_goto (tgt := 263) hx hb dX11_unit_258 (by decide) ?_
                      refine lv_iload hx hb dX11_unit_263 (lv_at hl 0 rfl) ?_
                      refine th_callVM (n := 2) (As := [.int 110, .int x33]) S hK hH hS (th_A.sub (by decide)) (m_X11_emit l D cT T q34 hT hqq34 a0 t0 (110) (iv_top _) (x33) ix33 (show 560 * q34 13 ≤ q34 20 ∧ q34 20 ≤ 560 * q34 13 + 559 by omega) (show q34 13 = 1 - q34 10 by omega)) gm_1571 gm_1568 gm_1570 gm_70 gm_124 (by decide +kernel) ⟨rfl, rfl, Nat.le_of_ble_eq_true rfl, Nat.le_of_ble_eq_true rfl⟩ t0 km_0 rfl rfl hl.1 rfl (Nat.le_of_ble_eq_true rfl) dX11_unit_265 ⟨Nat.zero_le _, Nat.zero_le _⟩ (fun wq38 q38 H locs hEq38 hH hS hF1 => ?_)
                      obtain ⟨rfl, hqq38, g0q38, pq38_0, pq38_1, pq38_2⟩ := hEq38
                      show W p l e (rmk 2 44) s m [.ref a0].toArray below meth c H locs 0 0 (MQ below (th_QM D cT T (fun v q2 => ∃ r : Int32, v = some (.int r) ∧ IV r 0 1 ∧ qkm q2 ∧ fr [20, 21, 22, 23, 24, 27, 28, 29, 30, 31, 1000] q q2 ∧ (TS q2) ∧ (q 27 ≤ q2 27) ∧ (DM q q2) ∧ (kp q q2 (q 35)) ∧ (RU q2 r.toInt) ∧ (GD q q2)) [0, 8, 28, 29, 30, 31]) [.ref a0].toArray s 0 0 (th_A T [0, 8, 28, 29, 30, 31])) (F0 m 268 ls [])
                      have pq38_0 : q38 = emitq q34 (110 : Int) := pq38_0
                      have pq38_1 : q38 20 = q34 20 + 1 := pq38_1
                      have pq38_2 : tx q34 q38 := pq38_2
                      have wq38_10 : q38 10 = q34 10 := g0q38 10 (by decide) (Or.inl (by decide))
                      have wq38_13 : q38 13 = q34 13 := g0q38 13 (by decide) (Or.inl (by decide))
                      have wq38_21 : q38 21 = q34 21 := g0q38 21 (by decide) (Or.inl (by decide))
                      have wq38_22 : q38 22 = q34 22 := g0q38 22 (by decide) (Or.inl (by decide))
                      have wq38_23 : q38 23 = q34 23 := g0q38 23 (by decide) (Or.inl (by decide))
                      have wq38_24 : q38 24 = q34 24 := g0q38 24 (by decide) (Or.inl (by decide))
                      have wq38_26 : q38 26 = q34 26 := g0q38 26 (by decide) (Or.inl (by decide))
                      have wq38_27 : q38 27 = q34 27 := g0q38 27 (by decide) (Or.inl (by decide))
                      have wq38_28 : q38 28 = q34 28 := g0q38 28 (by decide) (Or.inl (by decide))
                      have wq38_29 : q38 29 = q34 29 := g0q38 29 (by decide) (Or.inl (by decide))
                      have wq38_30 : q38 30 = q34 30 := g0q38 30 (by decide) (Or.inl (by decide))
                      have wq38_31 : q38 31 = q34 31 := g0q38 31 (by decide) (Or.inl (by decide))
                      have wq38_35 : q38 35 = q34 35 := g0q38 35 (by decide) (Or.inl (by decide))
                      have h0q38 : fr [20, 21, 22, 23, 24, 27, 28, 29, 30, 31, 1000] q q38 := fr_tr h0q34 g0q38 (by decide)
                      have gdq38 : GD q q38 := GD_tr gdq34 (GD_eq wq38_30)
                      have txq38 : tx q34 q38 := tx_tr tx_rf pq38_2
                      have hRS : RS q38 0 := RS_operand hp4 (by omega) hbig (by omega) (by omega) (by omega) (by omega) (by omega) (by omega) (by omega) (by omega) (by omega) (by omega) hadv ⟨hroom.2, by omega⟩ ⟨by omega, by omega⟩ (by omega) pq38_0
                      have hkp : kp q q38 (q 35) := kp_tr (kp_bg hbig) (kp_emit pq38_0 (by omega) (by omega) (by omega))
                      have hRU : RU q38 (0 : Int) := RU_0 hRS rfl
                      refine lv_iconst (v := 0) hx hb dX11_unit_268 (by decide) ?_
                      exact th_zretM S hK hH hS hr hlocks (iv_w (iv_c (by decide) : IV 0 0 0) (by decide)) ⟨_, rfl, (iv_w (iv_c (by decide) : IV 0 0 0) (by decide)), hqq38, h0q38, (show TS q38 by exact (TS_mv pq34_0 txq38 (by omega) (by omega) (by omega) (by omega) (by omega) (fun z => by omega))), (show q 27 ≤ q38 27 by omega), (show DM q q38 by exact fun _ => by omega), (show kp q q38 (q 35) by exact hkp), (show RU q38 (0 : Int) by exact hRU), (show GD q q38 by exact gdq38)⟩ dX11_unit_269
                  · skip
                    have rlc36 : v126_3.toInt ≠ (0 : Int) := iv_ne c36
                    exact absurd (iv_eqc ir3 (iv_c (by decide) : IV 0 0 0)) c36
            · skip
              have rlc20 : (0 : Int) ≠ (0 : Int) := iv_ne c20
              exact absurd (iv_eqc (iv_c (by decide) : IV 0 0 0) (iv_c (by decide) : IV 0 0 0)) c20
          · skip
            have rlc13 : (0 : Int) ≠ (0 : Int) := iv_ne c13
            exact absurd (iv_eqc (iv_c (by decide) : IV 0 0 0) (iv_c (by decide) : IV 0 0 0)) c13
        · skip
          have rlc5 : x4.toInt = (0 : Int) := congrArg Int32.toInt c5
          clear ox4_0
          have ox4_1r := ox4_1 rlc5
          clear ox4_1
          have ir39 : IV x4 0 0 := iv_eL c5 (iv_c (by decide) : IV 0 0 0)
          have ir39a := ir39.1; have ir39b := ir39.2
          have hkp : kp q q (q 35) := kp_bg bg_rf
          have hRU : RU q (1 : Int) := RU_no (by omega)
          refine lv_iconst (v := 1) hx hb dX11_unit_154 (by decide) ?_
          exact th_zretM S hK hH hS hr hlocks (iv_w (iv_c (by decide) : IV 1 1 1) (by decide)) ⟨_, rfl, (iv_w (iv_c (by decide) : IV 1 1 1) (by decide)), hq, fr_rf, (show TS q by exact hp0), (show q 27 ≤ q 27 by omega), (show DM q q by exact DM_no (by omega)), (show kp q q (q 35) by exact hkp), (show RU q (1 : Int) by exact hRU), (show GD q q by exact (GD_eq rfl))⟩ dX11_unit_155
      · skip
        have rlc2 : v126_3.toInt ≠ (0 : Int) := iv_ne c2
        have ir40 : IV v126_3 1 1 := iv_cutL iv126_3 (iv_c (by decide) : IV 0 0 0) c2 (by decide)
        have ir40a := ir40.1; have ir40b := ir40.2
        clear rlc2
        refine lv_aload_n hx hb dX11_unit_134 rfl (lv_at hl 0 rfl) ?_
        refine th_get S hK hH inG11 t0 km_0 rfl 44 (by decide) gm_1274 rfl rfl dX11_unit_135 (fun v41 hv41 fv41 => ?_)
        obtain ⟨x42, rfl, ix42⟩ := th_V.int hv41
        have kx42 : x42.toInt = q 22 := Int.le_antisymm ix42.2 ix42.1
        have bx42 := qkm_22 hq
        have ix42 : IV x42 0 7 := iv_w ix42 (qkm_22 hq)
        refine lv_bipush (v := 7) hx hb dX11_unit_138 (by decide) ?_
        refine lv_icmp_ne (tgt := 147) hx hb dX11_unit_140 (by decide) (fun c43 => ?_) (fun c43 => ?_)
        · skip
          have rlc43 : x42.toInt ≠ (7 : Int) := iv_ne c43
          have ir44 : IV x42 0 6 := iv_cutH ix42 (iv_c (by decide) : IV 7 7 7) c43 (by decide)
          have ir44a := ir44.1; have ir44b := ir44.2
          clear rlc43
          refine lv_aload_n hx hb dX11_unit_147 rfl (lv_at hl 0 rfl) ?_
          refine th_callVp (n := 0) (As := []) S hK hH hS (th_A.sub (by decide)) (m_X11_isGood l D cT T q hT hq a0 t0) gm_1487 gm_1484 gm_1486 gm_49 gm_124 (by decide +kernel) ⟨rfl, rfl, Nat.le_of_ble_eq_true rfl, Nat.le_of_ble_eq_true rfl⟩ t0 km_0 rfl rfl hl.1 rfl (Nat.le_of_ble_eq_true rfl) dX11_unit_148 ⟨Nat.zero_le _, Nat.zero_le _⟩ (fun x45 H locs ix45 ox45 hH hS hF1 => ?_)
          obtain ⟨ox45_0, ox45_1⟩ := ox45
          have ox45_0 : x45.toInt ≠ 0 → q 30 = 0 := ox45_0
          have ox45_1 : x45.toInt = 0 → 1 ≤ q 30 := ox45_1
          have l1x45 := ix45.1; have l2x45 := ix45.2
          refine lv_if_ne (tgt := 156) hx hb dX11_unit_151 (by decide) (fun c46 => ?_) (fun c46 => ?_)
          · skip
            have rlc46 : x45.toInt ≠ (0 : Int) := iv_ne c46
            have ox45_0r := ox45_0 rlc46
            clear ox45_0
            clear ox45_1
            have ir47 : IV x45 1 1 := iv_cutL ix45 (iv_c (by decide) : IV 0 0 0) c46 (by decide)
            have ir47a := ir47.1; have ir47b := ir47.2
            clear rlc46
            have h29 := v126_inv0 (by omega)
            clear v126_inv0 v126_inv1 v126_inv3
            have hadv := TS_in hp0 (by omega)
            refine lv_aload_n hx hb dX11_unit_156 rfl (lv_at hl 0 rfl) ?_
            refine th_get S hK hH inG11 t0 km_0 rfl 16 (by decide) gm_1246 rfl rfl dX11_unit_157 (fun v48 hv48 fv48 => ?_)
            obtain ⟨rf49, rfl, trf49⟩ := th_V.ref hv48
            refine lv_aload_n hx hb dX11_unit_160 rfl (lv_at hl 0 rfl) ?_
            refine th_get S hK hH inG11 t0 km_0 rfl 42 (by decide) gm_1272 rfl rfl dX11_unit_161 (fun v50 hv50 fv50 => ?_)
            obtain ⟨x51, rfl, ix51⟩ := th_V.int hv50
            have kx51 : x51.toInt = q 13 := Int.le_antisymm ix51.2 ix51.1
            have bx51 := qkm_13 hq
            have ix51 : IV x51 0 1 := iv_w ix51 (qkm_13 hq)
            refine lv_dup2_11 hx hb dX11_unit_164 rfl rfl ?_
            refine th_iald S hK hH trf49 km_8 (th_in (hi := 1) ix51 (by decide)) dX11_unit_165 (fun v52 hv52 => ?_)
            obtain ⟨x53, rfl, ix53⟩ := th_bkB hv52 ix51 (by omega)
            have kx53 : x53.toInt = q 24 := Int.le_antisymm ix53.2 ix53.1
            have bx53 := qkm_24 hq
            have ix53 : IV x53 0 90 := iv_w ix53 (qkm_24 hq)
            refine lv_iload_n hx hb dX11_unit_166 rfl (lv_at hl 1 rfl) ?_
            refine lv_if_eq (tgt := 174) hx hb dX11_unit_167 (by decide) (fun c54 => ?_) (fun c54 => ?_)
            · skip
              have rlc54 : (0 : Int) = (0 : Int) := congrArg Int32.toInt c54
              refine lv_iconst (v := 1) hx hb dX11_unit_174 (by decide) ?_
              refine lv_iadd hx hb dX11_unit_175 ?_
              refine lv_topi (fun x55 ex55 => ?_)
              have ix55 : IV x55 1 91 := by rw [ex55]; exact iv_add ix53 (iv_c (by decide) : IV 1 1 1) (by decide)
              have ux55 : x55.toInt = x53.toInt + (1 : Int) := by rw [ex55]; exact iv_addE (by have z1 := (ix53).1; have z2 := (ix53).2; have z3 := ((iv_c (by decide) : IV 1 1 1)).1; have z4 := ((iv_c (by decide) : IV 1 1 1)).2; omega)
              obtain ⟨n56, en56⟩ : ∃ z : Int, z = Int32.toInt x55 := ⟨_, rfl⟩
              refine mst_8 S hK hH hS ⟨8, by decide, trf49⟩ hT trf49 en56 (qkm_10 hq) ix51 (by omega) dX11_unit_176 (fun q57 H locs eq57 hH hS hq1 => ?_)
              have hqq57 : qkm q57 := by rw [eq57]; exact qum_ok24 hq (by have z1 := (ix55).1; have z2 := (ix55).2; exact ⟨by omega, by omega⟩)
              have h0q57 : fr [20, 21, 22, 23, 24, 27, 28, 29, 30, 31, 1000] q q57 := by rw [eq57]; exact fr_up fr_rf (by decide)
              have wq57_10 : q57 10 = q 10 := by rw [eq57]; rfl
              have wq57_13 : q57 13 = q 13 := by rw [eq57]; rfl
              have wq57_20 : q57 20 = q 20 := by rw [eq57]; rfl
              have wq57_21 : q57 21 = q 21 := by rw [eq57]; rfl
              have wq57_22 : q57 22 = q 22 := by rw [eq57]; rfl
              have wq57_23 : q57 23 = q 23 := by rw [eq57]; rfl
              have wq57_24 : q57 24 = q 24 + (1 : Int) := by rw [show q57 24 = n56 by rw [eq57]; rfl, en56, ux55, kx53]
              have wq57_26 : q57 26 = q 26 := by rw [eq57]; rfl
              have wq57_27 : q57 27 = q 27 := by rw [eq57]; rfl
              have wq57_28 : q57 28 = q 28 := by rw [eq57]; rfl
              have wq57_29 : q57 29 = q 29 := by rw [eq57]; rfl
              have wq57_30 : q57 30 = q 30 := by rw [eq57]; rfl
              have wq57_31 : q57 31 = q 31 := by rw [eq57]; rfl
              have wq57_35 : q57 35 = q 35 := by rw [eq57]; rfl
              have bgq57 : bg q q57 := bg_up bg_rf eq57 (by decide)
              have gdq57 : GD q q57 := GD_tr (GD_eq rfl) (GD_eq wq57_30)
              have gbq57 : GD q q57 := GD_tr (GD_eq rfl) (GD_eq wq57_30)
              have txq57 : tx q q57 := tx_tr tx_rf (tx_up eq57 (by omega))
              clear en56
              clear ux55
              have f58 := fv48.kept (hq1 _ (th_ne t0 trf49 (by decide)))
              refine lv_aload_n hx hb dX11_unit_177 rfl (lv_at hl 0 rfl) ?_
              refine lv_dup hx hb dX11_unit_178 rfl ?_
              refine th_get S hK hH inG11 t0 km_0 rfl 46 (by decide) gm_1276 rfl rfl dX11_unit_179 (fun v59 hv59 fv59 => ?_)
              obtain ⟨x60, rfl, ix60⟩ := th_V.int hv59
              have kx60 : x60.toInt = q57 23 := Int.le_antisymm ix60.2 ix60.1
              have bx60 := qkm_23 hqq57
              have ix60 : IV x60 0 30 := iv_w ix60 (qkm_23 hqq57)
              refine lv_iload_n hx hb dX11_unit_182 rfl (lv_at hl 1 rfl) ?_
              refine lv_if_eq (tgt := 190) hx hb dX11_unit_183 (by decide) (fun c61 => ?_) (fun c61 => ?_)
              · skip
                have rlc61 : (0 : Int) = (0 : Int) := congrArg Int32.toInt c61
                refine lv_iconst (v := 1) hx hb dX11_unit_190 (by decide) ?_
                refine lv_iadd hx hb dX11_unit_191 ?_
                refine lv_topi (fun x62 ex62 => ?_)
                have ix62 : IV x62 1 31 := by rw [ex62]; exact iv_add ix60 (iv_c (by decide) : IV 1 1 1) (by decide)
                have ux62 : x62.toInt = x60.toInt + (1 : Int) := by rw [ex62]; exact iv_addE (by have z1 := (ix60).1; have z2 := (ix60).2; have z3 := ((iv_c (by decide) : IV 1 1 1)).1; have z4 := ((iv_c (by decide) : IV 1 1 1)).2; omega)
                obtain ⟨n64, en64⟩ : ∃ z : Int, z = Int32.toInt x62 := ⟨_, rfl⟩
                refine mput_23 S hK hH hS ⟨0, by decide, t0⟩ hT t0 en64 gm_1276 dX11_unit_192 (fun q63 H locs eq63 hH hS hq1 => ?_)
                have hqq63 : qkm q63 := by rw [eq63]; exact qum_ok23 hqq57 (by have z1 := (ix62).1; have z2 := (ix62).2; exact ⟨by omega, by omega⟩)
                have h0q63 : fr [20, 21, 22, 23, 24, 27, 28, 29, 30, 31, 1000] q q63 := by rw [eq63]; exact fr_up h0q57 (by decide)
                have wq63_10 : q63 10 = q57 10 := by rw [eq63]; rfl
                have wq63_13 : q63 13 = q57 13 := by rw [eq63]; rfl
                have wq63_20 : q63 20 = q57 20 := by rw [eq63]; rfl
                have wq63_21 : q63 21 = q57 21 := by rw [eq63]; rfl
                have wq63_22 : q63 22 = q57 22 := by rw [eq63]; rfl
                have wq63_23 : q63 23 = q57 23 + (1 : Int) := by rw [show q63 23 = n64 by rw [eq63]; rfl, en64, ux62, kx60]
                have wq63_24 : q63 24 = q57 24 := by rw [eq63]; rfl
                have wq63_26 : q63 26 = q57 26 := by rw [eq63]; rfl
                have wq63_27 : q63 27 = q57 27 := by rw [eq63]; rfl
                have wq63_28 : q63 28 = q57 28 := by rw [eq63]; rfl
                have wq63_29 : q63 29 = q57 29 := by rw [eq63]; rfl
                have wq63_30 : q63 30 = q57 30 := by rw [eq63]; rfl
                have wq63_31 : q63 31 = q57 31 := by rw [eq63]; rfl
                have wq63_35 : q63 35 = q57 35 := by rw [eq63]; rfl
                have bgq63 : bg q q63 := bg_up bgq57 eq63 (by decide)
                have gdq63 : GD q q63 := GD_tr gdq57 (GD_eq wq63_30)
                have gbq63 : GD q q63 := GD_tr gbq57 (GD_eq wq63_30)
                have txq63 : tx q q63 := tx_tr txq57 (tx_up eq63 (by omega))
                clear en64
                clear ux62
                refine lv_iload hx hb dX11_unit_195 (lv_at hl 3 rfl) ?_
                refine lv_if_ne (tgt := 207) hx hb dX11_unit_197 (by decide) (fun c65 => ?_) (fun c65 => ?_)
                · skip
                  have rlc65 : v126_4.toInt ≠ (0 : Int) := iv_ne c65
                  have ir66 : IV v126_4 1 122 := iv_cutL iv126_4 (iv_c (by decide) : IV 0 0 0) c65 (by decide)
                  have ir66a := ir66.1; have ir66b := ir66.2
                  clear rlc65
                  refine lv_iconst (v := 0) hx hb dX11_unit_207 (by decide) ?_
                  refine lv_istore (lv' := [(6, .int 0), (0, .ref a0), (2, .int 0), (3, .int v126_3), (4, .int v126_4)]) hx hb dX11_unit_208 hl (by decide) rfl (fun ls hl => ?_)
                  refine lv_aload_n hx hb dX11_unit_210 rfl (lv_at hl 1 rfl) ?_
                  have le66 := TS_le (TS_mv hp0 txq63 (by omega) (by omega) (by omega) (by omega) (by omega) (fun z => by omega))
                  refine th_callVM (n := 0) (As := []) S hK hH hS (th_A.sub (by decide)) (m_X11_goOn l D cT T q63 hT hqq63 a0 t0 (show q63 28 ≤ q63 26 by exact (TS_le (TS_mv hp0 txq63 (by omega) (by omega) (by omega) (by omega) (by omega) (fun z => by omega))).2)) gm_1445 gm_1442 gm_1444 gm_47 gm_124 (by decide +kernel) ⟨rfl, rfl, Nat.le_of_ble_eq_true rfl, Nat.le_of_ble_eq_true rfl⟩ t0 km_0 rfl rfl hl.1 rfl (Nat.le_of_ble_eq_true rfl) dX11_unit_211 ⟨Nat.zero_le _, Nat.zero_le _⟩ (fun wq67 q67 H locs hEq67 hH hS hF1 => ?_)
                  obtain ⟨rfl, hqq67, g0q67, pq67_0, pq67_1, pq67_2⟩ := hEq67
                  show W p l e (rmk 2 44) s m [.ref a0].toArray below meth c H locs 0 0 (MQ below (th_QM D cT T (fun v q2 => ∃ r : Int32, v = some (.int r) ∧ IV r 0 1 ∧ qkm q2 ∧ fr [20, 21, 22, 23, 24, 27, 28, 29, 30, 31, 1000] q q2 ∧ (TS q2) ∧ (q 27 ≤ q2 27) ∧ (DM q q2) ∧ (kp q q2 (q 35)) ∧ (RU q2 r.toInt) ∧ (GD q q2)) [0, 8, 28, 29, 30, 31]) [.ref a0].toArray s 0 0 (th_A T [0, 8, 28, 29, 30, 31])) (F0 m 214 ls [])
                  have pq67_0 : TS q67 := pq67_0
                  have pq67_1 : q63 28 ≤ q67 27 := pq67_1
                  have pq67_2 : LX q63 q67 := pq67_2
                  have wq67_10 : q67 10 = q63 10 := g0q67 10 (by decide) (Or.inl (by decide))
                  have wq67_13 : q67 13 = q63 13 := g0q67 13 (by decide) (Or.inl (by decide))
                  have wq67_20 : q67 20 = q63 20 := g0q67 20 (by decide) (Or.inl (by decide))
                  have wq67_21 : q67 21 = q63 21 := g0q67 21 (by decide) (Or.inl (by decide))
                  have wq67_22 : q67 22 = q63 22 := g0q67 22 (by decide) (Or.inl (by decide))
                  have wq67_23 : q67 23 = q63 23 := g0q67 23 (by decide) (Or.inl (by decide))
                  have wq67_24 : q67 24 = q63 24 := g0q67 24 (by decide) (Or.inl (by decide))
                  have wq67_26 : q67 26 = q63 26 := g0q67 26 (by decide) (Or.inl (by decide))
                  have wq67_30 : q67 30 = q63 30 := g0q67 30 (by decide) (Or.inl (by decide))
                  have wq67_35 : q67 35 = q63 35 := g0q67 35 (by decide) (Or.inl (by decide))
                  have h0q67 : fr [20, 21, 22, 23, 24, 27, 28, 29, 30, 31, 1000] q q67 := fr_tr h0q63 g0q67 (by decide)
                  have bgq67 : bg q q67 := bg_fr bgq63 g0q67 (by decide)
                  have gdq67 : GD q q67 := GD_tr gdq63 (GD_eq wq67_30)
                  have gbq67 : GD q q67 := GD_tr gbq63 (GD_eq wq67_30)
                  have hbig : bg q q67 := bgq67
                  refine lv_iload_n hx hb dX11_unit_214 rfl (lv_at hl 2 rfl) ?_
                  refine lv_if_ne (tgt := 222) hx hb dX11_unit_215 (by decide) (fun c68 => ?_) (fun c68 => ?_)
                  · skip
                    have rlc68 : (0 : Int) ≠ (0 : Int) := iv_ne c68
                    exact absurd (iv_eqc (iv_c (by decide) : IV 0 0 0) (iv_c (by decide) : IV 0 0 0)) c68
                  · skip
                    have rlc68 : (0 : Int) = (0 : Int) := congrArg Int32.toInt c68
                    refine lv_iload_n hx hb dX11_unit_218 rfl (lv_at hl 3 rfl) ?_
                    refine lv_if_eq (tgt := 250) hx hb dX11_unit_219 (by decide) (fun c69 => ?_) (fun c69 => ?_)
                    · skip
                      have rlc69 : v126_3.toInt = (0 : Int) := congrArg Int32.toInt c69
                      exact absurd c69 c2
                    · skip
                      have rlc69 : v126_3.toInt ≠ (0 : Int) := iv_ne c69
                      clear rlc69
                      refine lv_aload_n hx hb dX11_unit_222 rfl (lv_at hl 1 rfl) ?_
                      refine lv_iload_n hx hb dX11_unit_223 rfl (lv_at hl 2 rfl) ?_
                      refine lv_if_eq (tgt := 231) hx hb dX11_unit_224 (by decide) (fun c70 => ?_) (fun c70 => ?_)
                      · skip
                        have rlc70 : (0 : Int) = (0 : Int) := congrArg Int32.toInt c70
                        refine lv_bipush (v := 7) hx hb dX11_unit_231 (by decide) ?_
                        refine lv_bipush (v := 126) hx hb dX11_unit_233 (by decide) ?_
                        refine th_callVM (n := 2) (As := [.int 7, .int 126]) S hK hH hS (th_A.sub (by decide)) (m_X11_pushE l D cT T q67 hT hqq67 a0 t0 (7) (iv_w (iv_c (by decide) : IV 7 7 7) (by decide)) (126) (iv_top _) (show q67 21 ≤ 60 by omega)) gm_1555 gm_1552 gm_1554 gm_66 gm_124 (by decide +kernel) ⟨rfl, rfl, Nat.le_of_ble_eq_true rfl, Nat.le_of_ble_eq_true rfl⟩ t0 km_0 rfl rfl hl.1 rfl (Nat.le_of_ble_eq_true rfl) dX11_unit_235 ⟨Nat.zero_le _, Nat.zero_le _⟩ (fun wq71 q71 H locs hEq71 hH hS hF1 => ?_)
                        obtain ⟨rfl, hqq71, g0q71, pq71_0, pq71_1, pq71_2⟩ := hEq71
                        show W p l e (rmk 2 44) s m [.ref a0].toArray below meth c H locs 0 0 (MQ below (th_QM D cT T (fun v q2 => ∃ r : Int32, v = some (.int r) ∧ IV r 0 1 ∧ qkm q2 ∧ fr [20, 21, 22, 23, 24, 27, 28, 29, 30, 31, 1000] q q2 ∧ (TS q2) ∧ (q 27 ≤ q2 27) ∧ (DM q q2) ∧ (kp q q2 (q 35)) ∧ (RU q2 r.toInt) ∧ (GD q q2)) [0, 8, 28, 29, 30, 31]) [.ref a0].toArray s 0 0 (th_A T [0, 8, 28, 29, 30, 31])) (F0 m 238 ls [])
                        have pq71_0 : q71 = pushq q67 (7 : Int) (126 : Int) := pq71_0
                        have pq71_1 : q71 21 = q67 21 + 1 := pq71_1
                        have pq71_2 : tx q67 q71 := pq71_2
                        have wq71_10 : q71 10 = q67 10 := g0q71 10 (by decide) (Or.inl (by decide))
                        have wq71_13 : q71 13 = q67 13 := g0q71 13 (by decide) (Or.inl (by decide))
                        have wq71_20 : q71 20 = q67 20 := g0q71 20 (by decide) (Or.inl (by decide))
                        have wq71_22 : q71 22 = q67 22 := g0q71 22 (by decide) (Or.inl (by decide))
                        have wq71_23 : q71 23 = q67 23 := g0q71 23 (by decide) (Or.inl (by decide))
                        have wq71_24 : q71 24 = q67 24 := g0q71 24 (by decide) (Or.inl (by decide))
                        have wq71_26 : q71 26 = q67 26 := g0q71 26 (by decide) (Or.inl (by decide))
                        have wq71_27 : q71 27 = q67 27 := g0q71 27 (by decide) (Or.inl (by decide))
                        have wq71_28 : q71 28 = q67 28 := g0q71 28 (by decide) (Or.inl (by decide))
                        have wq71_29 : q71 29 = q67 29 := g0q71 29 (by decide) (Or.inl (by decide))
                        have wq71_30 : q71 30 = q67 30 := g0q71 30 (by decide) (Or.inl (by decide))
                        have wq71_31 : q71 31 = q67 31 := g0q71 31 (by decide) (Or.inl (by decide))
                        have wq71_35 : q71 35 = q67 35 := g0q71 35 (by decide) (Or.inl (by decide))
                        have h0q71 : fr [20, 21, 22, 23, 24, 27, 28, 29, 30, 31, 1000] q q71 := fr_tr h0q67 g0q71 (by decide)
                        have gdq71 : GD q q71 := GD_tr gdq67 (GD_eq wq71_30)
                        have txq71 : tx q67 q71 := tx_tr tx_rf pq71_2
                        refine lv_aload_n hx hb dX11_unit_238 rfl (lv_at hl 1 rfl) ?_
                        refine lv_dup hx hb dX11_unit_239 rfl ?_
                        refine th_get S hK hH inG11 t0 km_0 rfl 44 (by decide) gm_1274 rfl rfl dX11_unit_240 (fun v72 hv72 fv72 => ?_)
                        obtain ⟨x73, rfl, ix73⟩ := th_V.int hv72
                        have kx73 : x73.toInt = q71 22 := Int.le_antisymm ix73.2 ix73.1
                        have bx73 := qkm_22 hqq71
                        have ix73 : IV x73 0 7 := iv_w ix73 (qkm_22 hqq71)
                        refine lv_iconst (v := 1) hx hb dX11_unit_243 (by decide) ?_
                        refine lv_iadd hx hb dX11_unit_244 ?_
                        refine lv_topi (fun x74 ex74 => ?_)
                        have ix74 : IV x74 1 8 := by rw [ex74]; exact iv_add ix73 (iv_c (by decide) : IV 1 1 1) (by decide)
                        have ux74 : x74.toInt = x73.toInt + (1 : Int) := by rw [ex74]; exact iv_addE (by have z1 := (ix73).1; have z2 := (ix73).2; have z3 := ((iv_c (by decide) : IV 1 1 1)).1; have z4 := ((iv_c (by decide) : IV 1 1 1)).2; omega)
                        obtain ⟨n76, en76⟩ : ∃ z : Int, z = Int32.toInt x74 := ⟨_, rfl⟩
                        refine mput_22 S hK hH hS ⟨0, by decide, t0⟩ hT t0 en76 gm_1274 dX11_unit_245 (fun q75 H locs eq75 hH hS hq1 => ?_)
                        have hqq75 : qkm q75 := by rw [eq75]; exact qum_ok22 hqq71 (by have z1 := (ix74).1; have z2 := (ix74).2; exact ⟨by omega, by omega⟩)
                        have h0q75 : fr [20, 21, 22, 23, 24, 27, 28, 29, 30, 31, 1000] q q75 := by rw [eq75]; exact fr_up h0q71 (by decide)
                        have wq75_10 : q75 10 = q71 10 := by rw [eq75]; rfl
                        have wq75_13 : q75 13 = q71 13 := by rw [eq75]; rfl
                        have wq75_20 : q75 20 = q71 20 := by rw [eq75]; rfl
                        have wq75_21 : q75 21 = q71 21 := by rw [eq75]; rfl
                        have wq75_22 : q75 22 = q71 22 + (1 : Int) := by rw [show q75 22 = n76 by rw [eq75]; rfl, en76, ux74, kx73]
                        have wq75_23 : q75 23 = q71 23 := by rw [eq75]; rfl
                        have wq75_24 : q75 24 = q71 24 := by rw [eq75]; rfl
                        have wq75_26 : q75 26 = q71 26 := by rw [eq75]; rfl
                        have wq75_27 : q75 27 = q71 27 := by rw [eq75]; rfl
                        have wq75_28 : q75 28 = q71 28 := by rw [eq75]; rfl
                        have wq75_29 : q75 29 = q71 29 := by rw [eq75]; rfl
                        have wq75_30 : q75 30 = q71 30 := by rw [eq75]; rfl
                        have wq75_31 : q75 31 = q71 31 := by rw [eq75]; rfl
                        have wq75_35 : q75 35 = q71 35 := by rw [eq75]; rfl
                        have bgq75 : bg q71 q75 := bg_up bg_rf eq75 (by decide)
                        have gdq75 : GD q q75 := GD_tr gdq71 (GD_eq wq75_30)
                        have gbq75 : GD q71 q75 := GD_tr (GD_eq rfl) (GD_eq wq75_30)
                        have txq75 : tx q67 q75 := tx_tr txq71 (tx_up eq75 (by omega))
                        have hRS : RS q75 1 := RS_push (u := 1) (by omega) hp4 (by omega) hbig (by omega) (by omega) (by omega) (by omega) (by omega) (by omega) (by omega) (by omega) (by decide) (by omega) (by omega) (by omega) hadv (Or.inr rfl) (by rw [eq75, pq71_0]; congr 1; omega)
                        have hkp : kp q q75 (q 35) := kp_tr (kp_bg hbig) (kp_tr (kp_push pq71_0 (by omega) (by omega)) (kp_bg (bg_up bg_rf eq75 (by decide))))
                        have hRU : RU q75 (1 : Int) := RU_1 hRS (by omega) (by decide)
                        refine lv_iconst (v := 1) hx hb dX11_unit_248 (by decide) ?_
                        exact th_zretM S hK hH hS hr hlocks (iv_w (iv_c (by decide) : IV 1 1 1) (by decide)) ⟨_, rfl, (iv_w (iv_c (by decide) : IV 1 1 1) (by decide)), hqq75, h0q75, (show TS q75 by exact (TS_mv pq67_0 txq75 (by omega) (by omega) (by omega) (by omega) (by omega) (fun z => by omega))), (show q 27 ≤ q75 27 by omega), (show DM q q75 by exact fun _ => by omega), (show kp q q75 (q 35) by exact hkp), (show RU q75 (1 : Int) by exact hRU), (show GD q q75 by exact gdq75)⟩ dX11_unit_249
                      · skip
                        have rlc70 : (0 : Int) ≠ (0 : Int) := iv_ne c70
                        exact absurd (iv_eqc (iv_c (by decide) : IV 0 0 0) (iv_c (by decide) : IV 0 0 0)) c70
                · skip
                  have rlc65 : v126_4.toInt = (0 : Int) := congrArg Int32.toInt c65
                  have ir77 : IV v126_4 0 0 := iv_eL c65 (iv_c (by decide) : IV 0 0 0)
                  have ir77a := ir77.1; have ir77b := ir77.2
                  refine lv_aload_n hx hb dX11_unit_200 rfl (lv_at hl 0 rfl) ?_
                  refine th_get S hK hH inG11 t0 km_0 rfl 9 (by decide) gm_1239 rfl rfl dX11_unit_201 (fun v78 hv78 fv78 => ?_)
                  obtain ⟨x79, rfl, ix79⟩ := th_V.int hv78
                  refine lv_goto (tgt := 208) hx hb dX11_unit_204 (by decide) ?_
                  refine lv_istore (lv' := [(6, .int x79), (0, .ref a0), (2, .int 0), (3, .int v126_3), (4, .int v126_4)]) hx hb dX11_unit_208 hl (by decide) rfl (fun ls hl => ?_)
                  refine lv_aload_n hx hb dX11_unit_210 rfl (lv_at hl 1 rfl) ?_
                  have le79 := TS_le (TS_mv hp0 txq63 (by omega) (by omega) (by omega) (by omega) (by omega) (fun z => by omega))
                  refine th_callVM (n := 0) (As := []) S hK hH hS (th_A.sub (by decide)) (m_X11_goOn l D cT T q63 hT hqq63 a0 t0 (show q63 28 ≤ q63 26 by exact (TS_le (TS_mv hp0 txq63 (by omega) (by omega) (by omega) (by omega) (by omega) (fun z => by omega))).2)) gm_1445 gm_1442 gm_1444 gm_47 gm_124 (by decide +kernel) ⟨rfl, rfl, Nat.le_of_ble_eq_true rfl, Nat.le_of_ble_eq_true rfl⟩ t0 km_0 rfl rfl hl.1 rfl (Nat.le_of_ble_eq_true rfl) dX11_unit_211 ⟨Nat.zero_le _, Nat.zero_le _⟩ (fun wq80 q80 H locs hEq80 hH hS hF1 => ?_)
                  obtain ⟨rfl, hqq80, g0q80, pq80_0, pq80_1, pq80_2⟩ := hEq80
                  show W p l e (rmk 2 44) s m [.ref a0].toArray below meth c H locs 0 0 (MQ below (th_QM D cT T (fun v q2 => ∃ r : Int32, v = some (.int r) ∧ IV r 0 1 ∧ qkm q2 ∧ fr [20, 21, 22, 23, 24, 27, 28, 29, 30, 31, 1000] q q2 ∧ (TS q2) ∧ (q 27 ≤ q2 27) ∧ (DM q q2) ∧ (kp q q2 (q 35)) ∧ (RU q2 r.toInt) ∧ (GD q q2)) [0, 8, 28, 29, 30, 31]) [.ref a0].toArray s 0 0 (th_A T [0, 8, 28, 29, 30, 31])) (F0 m 214 ls [])
                  have pq80_0 : TS q80 := pq80_0
                  have pq80_1 : q63 28 ≤ q80 27 := pq80_1
                  have pq80_2 : LX q63 q80 := pq80_2
                  have wq80_10 : q80 10 = q63 10 := g0q80 10 (by decide) (Or.inl (by decide))
                  have wq80_13 : q80 13 = q63 13 := g0q80 13 (by decide) (Or.inl (by decide))
                  have wq80_20 : q80 20 = q63 20 := g0q80 20 (by decide) (Or.inl (by decide))
                  have wq80_21 : q80 21 = q63 21 := g0q80 21 (by decide) (Or.inl (by decide))
                  have wq80_22 : q80 22 = q63 22 := g0q80 22 (by decide) (Or.inl (by decide))
                  have wq80_23 : q80 23 = q63 23 := g0q80 23 (by decide) (Or.inl (by decide))
                  have wq80_24 : q80 24 = q63 24 := g0q80 24 (by decide) (Or.inl (by decide))
                  have wq80_26 : q80 26 = q63 26 := g0q80 26 (by decide) (Or.inl (by decide))
                  have wq80_30 : q80 30 = q63 30 := g0q80 30 (by decide) (Or.inl (by decide))
                  have wq80_35 : q80 35 = q63 35 := g0q80 35 (by decide) (Or.inl (by decide))
                  have h0q80 : fr [20, 21, 22, 23, 24, 27, 28, 29, 30, 31, 1000] q q80 := fr_tr h0q63 g0q80 (by decide)
                  have bgq80 : bg q q80 := bg_fr bgq63 g0q80 (by decide)
                  have gdq80 : GD q q80 := GD_tr gdq63 (GD_eq wq80_30)
                  have gbq80 : GD q q80 := GD_tr gbq63 (GD_eq wq80_30)
                  have hbig : bg q q80 := bgq80
                  refine lv_iload_n hx hb dX11_unit_214 rfl (lv_at hl 2 rfl) ?_
                  refine lv_if_ne (tgt := 222) hx hb dX11_unit_215 (by decide) (fun c81 => ?_) (fun c81 => ?_)
                  · skip
                    have rlc81 : (0 : Int) ≠ (0 : Int) := iv_ne c81
                    exact absurd (iv_eqc (iv_c (by decide) : IV 0 0 0) (iv_c (by decide) : IV 0 0 0)) c81
                  · skip
                    have rlc81 : (0 : Int) = (0 : Int) := congrArg Int32.toInt c81
                    refine lv_iload_n hx hb dX11_unit_218 rfl (lv_at hl 3 rfl) ?_
                    refine lv_if_eq (tgt := 250) hx hb dX11_unit_219 (by decide) (fun c82 => ?_) (fun c82 => ?_)
                    · skip
                      have rlc82 : v126_3.toInt = (0 : Int) := congrArg Int32.toInt c82
                      exact absurd c82 c2
                    · skip
                      have rlc82 : v126_3.toInt ≠ (0 : Int) := iv_ne c82
                      clear rlc82
                      refine lv_aload_n hx hb dX11_unit_222 rfl (lv_at hl 1 rfl) ?_
                      refine lv_iload_n hx hb dX11_unit_223 rfl (lv_at hl 2 rfl) ?_
                      refine lv_if_eq (tgt := 231) hx hb dX11_unit_224 (by decide) (fun c83 => ?_) (fun c83 => ?_)
                      · skip
                        have rlc83 : (0 : Int) = (0 : Int) := congrArg Int32.toInt c83
                        refine lv_bipush (v := 7) hx hb dX11_unit_231 (by decide) ?_
                        refine lv_bipush (v := 126) hx hb dX11_unit_233 (by decide) ?_
                        refine th_callVM (n := 2) (As := [.int 7, .int 126]) S hK hH hS (th_A.sub (by decide)) (m_X11_pushE l D cT T q80 hT hqq80 a0 t0 (7) (iv_w (iv_c (by decide) : IV 7 7 7) (by decide)) (126) (iv_top _) (show q80 21 ≤ 60 by omega)) gm_1555 gm_1552 gm_1554 gm_66 gm_124 (by decide +kernel) ⟨rfl, rfl, Nat.le_of_ble_eq_true rfl, Nat.le_of_ble_eq_true rfl⟩ t0 km_0 rfl rfl hl.1 rfl (Nat.le_of_ble_eq_true rfl) dX11_unit_235 ⟨Nat.zero_le _, Nat.zero_le _⟩ (fun wq84 q84 H locs hEq84 hH hS hF1 => ?_)
                        obtain ⟨rfl, hqq84, g0q84, pq84_0, pq84_1, pq84_2⟩ := hEq84
                        show W p l e (rmk 2 44) s m [.ref a0].toArray below meth c H locs 0 0 (MQ below (th_QM D cT T (fun v q2 => ∃ r : Int32, v = some (.int r) ∧ IV r 0 1 ∧ qkm q2 ∧ fr [20, 21, 22, 23, 24, 27, 28, 29, 30, 31, 1000] q q2 ∧ (TS q2) ∧ (q 27 ≤ q2 27) ∧ (DM q q2) ∧ (kp q q2 (q 35)) ∧ (RU q2 r.toInt) ∧ (GD q q2)) [0, 8, 28, 29, 30, 31]) [.ref a0].toArray s 0 0 (th_A T [0, 8, 28, 29, 30, 31])) (F0 m 238 ls [])
                        have pq84_0 : q84 = pushq q80 (7 : Int) (126 : Int) := pq84_0
                        have pq84_1 : q84 21 = q80 21 + 1 := pq84_1
                        have pq84_2 : tx q80 q84 := pq84_2
                        have wq84_10 : q84 10 = q80 10 := g0q84 10 (by decide) (Or.inl (by decide))
                        have wq84_13 : q84 13 = q80 13 := g0q84 13 (by decide) (Or.inl (by decide))
                        have wq84_20 : q84 20 = q80 20 := g0q84 20 (by decide) (Or.inl (by decide))
                        have wq84_22 : q84 22 = q80 22 := g0q84 22 (by decide) (Or.inl (by decide))
                        have wq84_23 : q84 23 = q80 23 := g0q84 23 (by decide) (Or.inl (by decide))
                        have wq84_24 : q84 24 = q80 24 := g0q84 24 (by decide) (Or.inl (by decide))
                        have wq84_26 : q84 26 = q80 26 := g0q84 26 (by decide) (Or.inl (by decide))
                        have wq84_27 : q84 27 = q80 27 := g0q84 27 (by decide) (Or.inl (by decide))
                        have wq84_28 : q84 28 = q80 28 := g0q84 28 (by decide) (Or.inl (by decide))
                        have wq84_29 : q84 29 = q80 29 := g0q84 29 (by decide) (Or.inl (by decide))
                        have wq84_30 : q84 30 = q80 30 := g0q84 30 (by decide) (Or.inl (by decide))
                        have wq84_31 : q84 31 = q80 31 := g0q84 31 (by decide) (Or.inl (by decide))
                        have wq84_35 : q84 35 = q80 35 := g0q84 35 (by decide) (Or.inl (by decide))
                        have h0q84 : fr [20, 21, 22, 23, 24, 27, 28, 29, 30, 31, 1000] q q84 := fr_tr h0q80 g0q84 (by decide)
                        have gdq84 : GD q q84 := GD_tr gdq80 (GD_eq wq84_30)
                        have txq84 : tx q80 q84 := tx_tr tx_rf pq84_2
                        refine lv_aload_n hx hb dX11_unit_238 rfl (lv_at hl 1 rfl) ?_
                        refine lv_dup hx hb dX11_unit_239 rfl ?_
                        refine th_get S hK hH inG11 t0 km_0 rfl 44 (by decide) gm_1274 rfl rfl dX11_unit_240 (fun v85 hv85 fv85 => ?_)
                        obtain ⟨x86, rfl, ix86⟩ := th_V.int hv85
                        have kx86 : x86.toInt = q84 22 := Int.le_antisymm ix86.2 ix86.1
                        have bx86 := qkm_22 hqq84
                        have ix86 : IV x86 0 7 := iv_w ix86 (qkm_22 hqq84)
                        refine lv_iconst (v := 1) hx hb dX11_unit_243 (by decide) ?_
                        refine lv_iadd hx hb dX11_unit_244 ?_
                        refine lv_topi (fun x87 ex87 => ?_)
                        have ix87 : IV x87 1 8 := by rw [ex87]; exact iv_add ix86 (iv_c (by decide) : IV 1 1 1) (by decide)
                        have ux87 : x87.toInt = x86.toInt + (1 : Int) := by rw [ex87]; exact iv_addE (by have z1 := (ix86).1; have z2 := (ix86).2; have z3 := ((iv_c (by decide) : IV 1 1 1)).1; have z4 := ((iv_c (by decide) : IV 1 1 1)).2; omega)
                        obtain ⟨n89, en89⟩ : ∃ z : Int, z = Int32.toInt x87 := ⟨_, rfl⟩
                        refine mput_22 S hK hH hS ⟨0, by decide, t0⟩ hT t0 en89 gm_1274 dX11_unit_245 (fun q88 H locs eq88 hH hS hq1 => ?_)
                        have hqq88 : qkm q88 := by rw [eq88]; exact qum_ok22 hqq84 (by have z1 := (ix87).1; have z2 := (ix87).2; exact ⟨by omega, by omega⟩)
                        have h0q88 : fr [20, 21, 22, 23, 24, 27, 28, 29, 30, 31, 1000] q q88 := by rw [eq88]; exact fr_up h0q84 (by decide)
                        have wq88_10 : q88 10 = q84 10 := by rw [eq88]; rfl
                        have wq88_13 : q88 13 = q84 13 := by rw [eq88]; rfl
                        have wq88_20 : q88 20 = q84 20 := by rw [eq88]; rfl
                        have wq88_21 : q88 21 = q84 21 := by rw [eq88]; rfl
                        have wq88_22 : q88 22 = q84 22 + (1 : Int) := by rw [show q88 22 = n89 by rw [eq88]; rfl, en89, ux87, kx86]
                        have wq88_23 : q88 23 = q84 23 := by rw [eq88]; rfl
                        have wq88_24 : q88 24 = q84 24 := by rw [eq88]; rfl
                        have wq88_26 : q88 26 = q84 26 := by rw [eq88]; rfl
                        have wq88_27 : q88 27 = q84 27 := by rw [eq88]; rfl
                        have wq88_28 : q88 28 = q84 28 := by rw [eq88]; rfl
                        have wq88_29 : q88 29 = q84 29 := by rw [eq88]; rfl
                        have wq88_30 : q88 30 = q84 30 := by rw [eq88]; rfl
                        have wq88_31 : q88 31 = q84 31 := by rw [eq88]; rfl
                        have wq88_35 : q88 35 = q84 35 := by rw [eq88]; rfl
                        have bgq88 : bg q84 q88 := bg_up bg_rf eq88 (by decide)
                        have gdq88 : GD q q88 := GD_tr gdq84 (GD_eq wq88_30)
                        have gbq88 : GD q84 q88 := GD_tr (GD_eq rfl) (GD_eq wq88_30)
                        have txq88 : tx q80 q88 := tx_tr txq84 (tx_up eq88 (by omega))
                        have hRS : RS q88 1 := RS_push (u := 1) (by omega) hp4 (by omega) hbig (by omega) (by omega) (by omega) (by omega) (by omega) (by omega) (by omega) (by omega) (by decide) (by omega) (by omega) (by omega) hadv (Or.inr rfl) (by rw [eq88, pq84_0]; congr 1; omega)
                        have hkp : kp q q88 (q 35) := kp_tr (kp_bg hbig) (kp_tr (kp_push pq84_0 (by omega) (by omega)) (kp_bg (bg_up bg_rf eq88 (by decide))))
                        have hRU : RU q88 (1 : Int) := RU_1 hRS (by omega) (by decide)
                        refine lv_iconst (v := 1) hx hb dX11_unit_248 (by decide) ?_
                        exact th_zretM S hK hH hS hr hlocks (iv_w (iv_c (by decide) : IV 1 1 1) (by decide)) ⟨_, rfl, (iv_w (iv_c (by decide) : IV 1 1 1) (by decide)), hqq88, h0q88, (show TS q88 by exact (TS_mv pq80_0 txq88 (by omega) (by omega) (by omega) (by omega) (by omega) (fun z => by omega))), (show q 27 ≤ q88 27 by omega), (show DM q q88 by exact fun _ => by omega), (show kp q q88 (q 35) by exact hkp), (show RU q88 (1 : Int) by exact hRU), (show GD q q88 by exact gdq88)⟩ dX11_unit_249
                      · skip
                        have rlc83 : (0 : Int) ≠ (0 : Int) := iv_ne c83
                        exact absurd (iv_eqc (iv_c (by decide) : IV 0 0 0) (iv_c (by decide) : IV 0 0 0)) c83
              · skip
                have rlc61 : (0 : Int) ≠ (0 : Int) := iv_ne c61
                exact absurd (iv_eqc (iv_c (by decide) : IV 0 0 0) (iv_c (by decide) : IV 0 0 0)) c61
            · skip
              have rlc54 : (0 : Int) ≠ (0 : Int) := iv_ne c54
              exact absurd (iv_eqc (iv_c (by decide) : IV 0 0 0) (iv_c (by decide) : IV 0 0 0)) c54
          · skip
            have rlc46 : x45.toInt = (0 : Int) := congrArg Int32.toInt c46
            clear ox45_0
            have ox45_1r := ox45_1 rlc46
            clear ox45_1
            have ir90 : IV x45 0 0 := iv_eL c46 (iv_c (by decide) : IV 0 0 0)
            have ir90a := ir90.1; have ir90b := ir90.2
            have hkp : kp q q (q 35) := kp_bg bg_rf
            have hRU : RU q (1 : Int) := RU_no (by omega)
            refine lv_iconst (v := 1) hx hb dX11_unit_154 (by decide) ?_
            exact th_zretM S hK hH hS hr hlocks (iv_w (iv_c (by decide) : IV 1 1 1) (by decide)) ⟨_, rfl, (iv_w (iv_c (by decide) : IV 1 1 1) (by decide)), hq, fr_rf, (show TS q by exact hp0), (show q 27 ≤ q 27 by omega), (show DM q q by exact DM_no (by omega)), (show kp q q (q 35) by exact hkp), (show RU q (1 : Int) by exact hRU), (show GD q q by exact (GD_eq rfl))⟩ dX11_unit_155
        · skip
          have rlc43 : x42.toInt = (7 : Int) := congrArg Int32.toInt c43
          have ir91 : IV x42 7 7 := ⟨(iv_eL c43 (iv_c (by decide) : IV 7 7 7)).1, ix42.2⟩
          have ir91a := ir91.1; have ir91b := ir91.2
          refine lv_aload_n hx hb dX11_unit_143 rfl (lv_at hl 0 rfl) ?_
          refine th_callVM (n := 0) (As := []) S hK hH hS (th_A.sub (by decide)) (m_X11_misplaced l D cT T q hT hq a0 t0) gm_1503 gm_1500 gm_1502 gm_53 gm_124 (by decide +kernel) ⟨rfl, rfl, Nat.le_of_ble_eq_true rfl, Nat.le_of_ble_eq_true rfl⟩ t0 km_0 rfl rfl hl.1 rfl (Nat.le_of_ble_eq_true rfl) dX11_unit_144 ⟨Nat.zero_le _, Nat.zero_le _⟩ (fun wq92 q92 H locs hEq92 hH hS hF1 => ?_)
          obtain ⟨rfl, hqq92, g0q92, pq92_0⟩ := hEq92
          show W p l e (rmk 2 44) s m [.ref a0].toArray below meth c H locs 0 0 (MQ below (th_QM D cT T (fun v q2 => ∃ r : Int32, v = some (.int r) ∧ IV r 0 1 ∧ qkm q2 ∧ fr [20, 21, 22, 23, 24, 27, 28, 29, 30, 31, 1000] q q2 ∧ (TS q2) ∧ (q 27 ≤ q2 27) ∧ (DM q q2) ∧ (kp q q2 (q 35)) ∧ (RU q2 r.toInt) ∧ (GD q q2)) [0, 8, 28, 29, 30, 31]) [.ref a0].toArray s 0 0 (th_A T [0, 8, 28, 29, 30, 31])) (F0 m 147 ls [])
          have pq92_0 : 1 ≤ q92 30 := pq92_0
          have wq92_10 : q92 10 = q 10 := g0q92 10 (by decide) (Or.inl (by decide))
          have wq92_13 : q92 13 = q 13 := g0q92 13 (by decide) (Or.inl (by decide))
          have wq92_20 : q92 20 = q 20 := g0q92 20 (by decide) (Or.inl (by decide))
          have wq92_21 : q92 21 = q 21 := g0q92 21 (by decide) (Or.inl (by decide))
          have wq92_22 : q92 22 = q 22 := g0q92 22 (by decide) (Or.inl (by decide))
          have wq92_23 : q92 23 = q 23 := g0q92 23 (by decide) (Or.inl (by decide))
          have wq92_24 : q92 24 = q 24 := g0q92 24 (by decide) (Or.inl (by decide))
          have wq92_26 : q92 26 = q 26 := g0q92 26 (by decide) (Or.inl (by decide))
          have wq92_27 : q92 27 = q 27 := g0q92 27 (by decide) (Or.inl (by decide))
          have wq92_28 : q92 28 = q 28 := g0q92 28 (by decide) (Or.inl (by decide))
          have wq92_29 : q92 29 = q 29 := g0q92 29 (by decide) (Or.inl (by decide))
          have wq92_31 : q92 31 = q 31 := g0q92 31 (by decide) (Or.inl (by decide))
          have wq92_35 : q92 35 = q 35 := g0q92 35 (by decide) (Or.inl (by decide))
          have h0q92 : fr [20, 21, 22, 23, 24, 27, 28, 29, 30, 31, 1000] q q92 := fr_tr fr_rf g0q92 (by decide)
          have bgq92 : bg q q92 := bg_fr bg_rf g0q92 (by decide)
          have gdq92 : GD q q92 := GD_tr (GD_eq rfl) (GD_no pq92_0)
          have gbq92 : GD q q92 := GD_tr (GD_eq rfl) (GD_no pq92_0)
          have txq92 : tx q q92 := tx_tr tx_rf (tx_bg (bg_fr bg_rf g0q92 (by decide)))
          refine lv_aload_n hx hb dX11_unit_147 rfl (lv_at hl 0 rfl) ?_
          refine th_callVp (n := 0) (As := []) S hK hH hS (th_A.sub (by decide)) (m_X11_isGood l D cT T q92 hT hqq92 a0 t0) gm_1487 gm_1484 gm_1486 gm_49 gm_124 (by decide +kernel) ⟨rfl, rfl, Nat.le_of_ble_eq_true rfl, Nat.le_of_ble_eq_true rfl⟩ t0 km_0 rfl rfl hl.1 rfl (Nat.le_of_ble_eq_true rfl) dX11_unit_148 ⟨Nat.zero_le _, Nat.zero_le _⟩ (fun x93 H locs ix93 ox93 hH hS hF1 => ?_)
          obtain ⟨ox93_0, ox93_1⟩ := ox93
          have ox93_0 : x93.toInt ≠ 0 → q92 30 = 0 := ox93_0
          have ox93_1 : x93.toInt = 0 → 1 ≤ q92 30 := ox93_1
          have l1x93 := ix93.1; have l2x93 := ix93.2
          refine lv_if_ne (tgt := 156) hx hb dX11_unit_151 (by decide) (fun c94 => ?_) (fun c94 => ?_)
          · skip
            have rlc94 : x93.toInt ≠ (0 : Int) := iv_ne c94
            have ox93_0r := ox93_0 rlc94
            clear ox93_0
            clear ox93_1
            have ir95 : IV x93 1 1 := iv_cutL ix93 (iv_c (by decide) : IV 0 0 0) c94 (by decide)
            have ir95a := ir95.1; have ir95b := ir95.2
            clear rlc94
            exfalso; omega
          · skip
            have rlc94 : x93.toInt = (0 : Int) := congrArg Int32.toInt c94
            clear ox93_0
            have ox93_1r := ox93_1 rlc94
            clear ox93_1
            have ir96 : IV x93 0 0 := iv_eL c94 (iv_c (by decide) : IV 0 0 0)
            have ir96a := ir96.1; have ir96b := ir96.2
            have hkp : kp q q92 (q 35) := kp_bg bgq92
            have hRU : RU q92 (1 : Int) := RU_no (by omega)
            refine lv_iconst (v := 1) hx hb dX11_unit_154 (by decide) ?_
            exact th_zretM S hK hH hS hr hlocks (iv_w (iv_c (by decide) : IV 1 1 1) (by decide)) ⟨_, rfl, (iv_w (iv_c (by decide) : IV 1 1 1) (by decide)), hqq92, h0q92, (show TS q92 by exact (TS_mv hp0 txq92 (by omega) (by omega) (by omega) (by omega) (by omega) (fun z => by omega))), (show q 27 ≤ q92 27 by omega), (show DM q q92 by exact DM_no (by omega)), (show kp q q92 (q 35) by exact hkp), (show RU q92 (1 : Int) by exact hRU), (show GD q q92 by exact gdq92)⟩ dX11_unit_155

