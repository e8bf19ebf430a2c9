theorem dX11_unit_0 : decode cX11_unit 0 = .ok (.aload_n 0, 1) := by decide +kernel
theorem dX11_unit_1 : decode cX11_unit 1 = .ok (.getfield 104, 3) := by decide +kernel
theorem dX11_unit_4 : decode cX11_unit 4 = .ok (.aload_n 0, 1) := by decide +kernel
theorem dX11_unit_5 : decode cX11_unit 5 = .ok (.getfield 335, 3) := by decide +kernel
theorem dX11_unit_8 : decode cX11_unit 8 = .ok (.iconst 1, 1) := by decide +kernel
theorem dX11_unit_9 : decode cX11_unit 9 = .ok (.isub, 1) := by decide +kernel
theorem dX11_unit_10 : decode cX11_unit 10 = .ok (.iaload, 1) := by decide +kernel
theorem dX11_unit_11 : decode cX11_unit 11 = .ok (.iconst 3, 1) := by decide +kernel
theorem dX11_unit_12 : decode cX11_unit 12 = .ok (.if_icmp .le 19, 3) := by decide +kernel
theorem dX11_unit_15 : decode cX11_unit 15 = .ok (.aload_n 0, 1) := by decide +kernel
theorem dX11_unit_16 : decode cX11_unit 16 = .ok (.getfield 104, 3) := by decide +kernel
theorem dX11_unit_19 : decode cX11_unit 19 = .ok (.aload_n 0, 1) := by decide +kernel
theorem dX11_unit_20 : decode cX11_unit 20 = .ok (.getfield 335, 3) := by decide +kernel
theorem dX11_unit_23 : decode cX11_unit 23 = .ok (.iconst 1, 1) := by decide +kernel
theorem dX11_unit_24 : decode cX11_unit 24 = .ok (.isub, 1) := by decide +kernel
theorem dX11_unit_25 : decode cX11_unit 25 = .ok (.iaload, 1) := by decide +kernel
theorem dX11_unit_26 : decode cX11_unit 26 = .ok (.bipush 7, 2) := by decide +kernel
theorem dX11_unit_28 : decode cX11_unit 28 = .ok (.if_icmp .lt 7, 3) := by decide +kernel
theorem dX11_unit_31 : decode cX11_unit 31 = .ok (.iconst 1, 1) := by decide +kernel
theorem dX11_unit_32 : decode cX11_unit 32 = .ok (.goto 4, 3) := by decide +kernel
theorem dX11_unit_35 : decode cX11_unit 35 = .ok (.iconst 0, 1) := by decide +kernel
theorem dX11_unit_36 : decode cX11_unit 36 = .ok (.istore_n 1, 1) := by decide +kernel
theorem dX11_unit_37 : decode cX11_unit 37 = .ok (.iload_n 1, 1) := by decide +kernel
theorem dX11_unit_38 : decode cX11_unit 38 = .ok (.ifCond .eq 17, 3) := by decide +kernel
theorem dX11_unit_41 : decode cX11_unit 41 = .ok (.aload_n 0, 1) := by decide +kernel
theorem dX11_unit_42 : decode cX11_unit 42 = .ok (.ldc2_w 203, 3) := by decide +kernel
theorem dX11_unit_45 : decode cX11_unit 45 = .ok (.invokevirtual 253, 3) := by decide +kernel
theorem dX11_unit_48 : decode cX11_unit 48 = .ok (.ifCond .eq 7, 3) := by decide +kernel
theorem dX11_unit_51 : decode cX11_unit 51 = .ok (.iconst 1, 1) := by decide +kernel
theorem dX11_unit_52 : decode cX11_unit 52 = .ok (.goto 4, 3) := by decide +kernel
theorem dX11_unit_55 : decode cX11_unit 55 = .ok (.iconst 0, 1) := by decide +kernel
theorem dX11_unit_56 : decode cX11_unit 56 = .ok (.istore_n 2, 1) := by decide +kernel
theorem dX11_unit_57 : decode cX11_unit 57 = .ok (.aload_n 0, 1) := by decide +kernel
theorem dX11_unit_58 : decode cX11_unit 58 = .ok (.bipush 40, 2) := by decide +kernel
theorem dX11_unit_60 : decode cX11_unit 60 = .ok (.invokevirtual 301, 3) := by decide +kernel
theorem dX11_unit_63 : decode cX11_unit 63 = .ok (.istore_n 3, 1) := by decide +kernel
theorem dX11_unit_64 : decode cX11_unit 64 = .ok (.aload_n 0, 1) := by decide +kernel
theorem dX11_unit_65 : decode cX11_unit 65 = .ok (.invokevirtual 350, 3) := by decide +kernel
theorem dX11_unit_68 : decode cX11_unit 68 = .ok (.istore 4, 2) := by decide +kernel
theorem dX11_unit_70 : decode cX11_unit 70 = .ok (.aload_n 0, 1) := by decide +kernel
theorem dX11_unit_71 : decode cX11_unit 71 = .ok (.getfield 36, 3) := by decide +kernel
theorem dX11_unit_74 : decode cX11_unit 74 = .ok (.aload_n 0, 1) := by decide +kernel
theorem dX11_unit_75 : decode cX11_unit 75 = .ok (.getfield 264, 3) := by decide +kernel
theorem dX11_unit_78 : decode cX11_unit 78 = .ok (.iaload, 1) := by decide +kernel
theorem dX11_unit_79 : decode cX11_unit 79 = .ok (.bipush 90, 2) := by decide +kernel
theorem dX11_unit_81 : decode cX11_unit 81 = .ok (.if_icmp .eq 12, 3) := by decide +kernel
theorem dX11_unit_84 : decode cX11_unit 84 = .ok (.aload_n 0, 1) := by decide +kernel
theorem dX11_unit_85 : decode cX11_unit 85 = .ok (.getfield 329, 3) := by decide +kernel
theorem dX11_unit_88 : decode cX11_unit 88 = .ok (.bipush 30, 2) := by decide +kernel
theorem dX11_unit_90 : decode cX11_unit 90 = .ok (.if_icmp .ne 7, 3) := by decide +kernel
theorem dX11_unit_93 : decode cX11_unit 93 = .ok (.iconst 1, 1) := by decide +kernel
theorem dX11_unit_94 : decode cX11_unit 94 = .ok (.goto 4, 3) := by decide +kernel
theorem dX11_unit_97 : decode cX11_unit 97 = .ok (.iconst 0, 1) := by decide +kernel
theorem dX11_unit_98 : decode cX11_unit 98 = .ok (.istore 5, 2) := by decide +kernel
theorem dX11_unit_100 : decode cX11_unit 100 = .ok (.iload_n 2, 1) := by decide +kernel
theorem dX11_unit_101 : decode cX11_unit 101 = .ok (.ifCond .ne 25, 3) := by decide +kernel
theorem dX11_unit_104 : decode cX11_unit 104 = .ok (.iload 4, 2) := by decide +kernel
theorem dX11_unit_106 : decode cX11_unit 106 = .ok (.ifCond .ne 15, 3) := by decide +kernel
theorem dX11_unit_109 : decode cX11_unit 109 = .ok (.aload_n 0, 1) := by decide +kernel
theorem dX11_unit_110 : decode cX11_unit 110 = .ok (.getfield 215, 3) := by decide +kernel
theorem dX11_unit_113 : decode cX11_unit 113 = .ok (.iconst 4, 1) := by decide +kernel
theorem dX11_unit_114 : decode cX11_unit 114 = .ok (.if_icmp .eq 7, 3) := by decide +kernel
theorem dX11_unit_117 : decode cX11_unit 117 = .ok (.iload_n 3, 1) := by decide +kernel
theorem dX11_unit_118 : decode cX11_unit 118 = .ok (.ifCond .eq 25, 3) := by decide +kernel
theorem dX11_unit_121 : decode cX11_unit 121 = .ok (.iload 5, 2) := by decide +kernel
theorem dX11_unit_123 : decode cX11_unit 123 = .ok (.ifCond .ne 20, 3) := by decide +kernel
theorem dX11_unit_126 : decode cX11_unit 126 = .ok (.iload_n 2, 1) := by decide +kernel
theorem dX11_unit_127 : decode cX11_unit 127 = .ok (.ifCond .ne 7, 3) := by decide +kernel
theorem dX11_unit_130 : decode cX11_unit 130 = .ok (.iload_n 3, 1) := by decide +kernel
theorem dX11_unit_131 : decode cX11_unit 131 = .ok (.ifCond .eq 16, 3) := by decide +kernel
theorem dX11_unit_134 : decode cX11_unit 134 = .ok (.aload_n 0, 1) := by decide +kernel
theorem dX11_unit_135 : decode cX11_unit 135 = .ok (.getfield 338, 3) := by decide +kernel
theorem dX11_unit_138 : decode cX11_unit 138 = .ok (.bipush 7, 2) := by decide +kernel
theorem dX11_unit_140 : decode cX11_unit 140 = .ok (.if_icmp .ne 7, 3) := by decide +kernel
theorem dX11_unit_143 : decode cX11_unit 143 = .ok (.aload_n 0, 1) := by decide +kernel
theorem dX11_unit_144 : decode cX11_unit 144 = .ok (.invokevirtual 250, 3) := by decide +kernel
theorem dX11_unit_147 : decode cX11_unit 147 = .ok (.aload_n 0, 1) := by decide +kernel
theorem dX11_unit_148 : decode cX11_unit 148 = .ok (.invokevirtual 243, 3) := by decide +kernel
theorem dX11_unit_151 : decode cX11_unit 151 = .ok (.ifCond .ne 5, 3) := by decide +kernel
theorem dX11_unit_154 : decode cX11_unit 154 = .ok (.iconst 1, 1) := by decide +kernel
theorem dX11_unit_155 : decode cX11_unit 155 = .ok (.ireturn, 1) := by decide +kernel
theorem dX11_unit_156 : decode cX11_unit 156 = .ok (.aload_n 0, 1) := by decide +kernel
theorem dX11_unit_157 : decode cX11_unit 157 = .ok (.getfield 36, 3) := by decide +kernel
theorem dX11_unit_160 : decode cX11_unit 160 = .ok (.aload_n 0, 1) := by decide +kernel
theorem dX11_unit_161 : decode cX11_unit 161 = .ok (.getfield 264, 3) := by decide +kernel
theorem dX11_unit_164 : decode cX11_unit 164 = .ok (.dup2, 1) := by decide +kernel
theorem dX11_unit_165 : decode cX11_unit 165 = .ok (.iaload, 1) := by decide +kernel
theorem dX11_unit_166 : decode cX11_unit 166 = .ok (.iload_n 2, 1) := by decide +kernel
theorem dX11_unit_167 : decode cX11_unit 167 = .ok (.ifCond .eq 7, 3) := by decide +kernel
theorem dX11_unit_170 : decode cX11_unit 170 = .ok (.iconst 0, 1) := by decide +kernel
theorem dX11_unit_171 : decode cX11_unit 171 = .ok (.goto 4, 3) := by decide +kernel
theorem dX11_unit_174 : decode cX11_unit 174 = .ok (.iconst 1, 1) := by decide +kernel
theorem dX11_unit_175 : decode cX11_unit 175 = .ok (.iadd, 1) := by decide +kernel
theorem dX11_unit_176 : decode cX11_unit 176 = .ok (.iastore, 1) := by decide +kernel
theorem dX11_unit_177 : decode cX11_unit 177 = .ok (.aload_n 0, 1) := by decide +kernel
theorem dX11_unit_178 : decode cX11_unit 178 = .ok (.dup, 1) := by decide +kernel
theorem dX11_unit_179 : decode cX11_unit 179 = .ok (.getfield 329, 3) := by decide +kernel
theorem dX11_unit_182 : decode cX11_unit 182 = .ok (.iload_n 2, 1) := by decide +kernel
theorem dX11_unit_183 : decode cX11_unit 183 = .ok (.ifCond .eq 7, 3) := by decide +kernel
theorem dX11_unit_186 : decode cX11_unit 186 = .ok (.iconst 0, 1) := by decide +kernel
theorem dX11_unit_187 : decode cX11_unit 187 = .ok (.goto 4, 3) := by decide +kernel
theorem dX11_unit_190 : decode cX11_unit 190 = .ok (.iconst 1, 1) := by decide +kernel
theorem dX11_unit_191 : decode cX11_unit 191 = .ok (.iadd, 1) := by decide +kernel
theorem dX11_unit_192 : decode cX11_unit 192 = .ok (.putfield 329, 3) := by decide +kernel
theorem dX11_unit_195 : decode cX11_unit 195 = .ok (.iload 4, 2) := by decide +kernel
theorem dX11_unit_197 : decode cX11_unit 197 = .ok (.ifCond .ne 10, 3) := by decide +kernel
theorem dX11_unit_200 : decode cX11_unit 200 = .ok (.aload_n 0, 1) := by decide +kernel
theorem dX11_unit_201 : decode cX11_unit 201 = .ok (.getfield 233, 3) := by decide +kernel
theorem dX11_unit_204 : decode cX11_unit 204 = .ok (.goto 4, 3) := by decide +kernel
theorem dX11_unit_207 : decode cX11_unit 207 = .ok (.iconst 0, 1) := by decide +kernel
theorem dX11_unit_208 : decode cX11_unit 208 = .ok (.istore 6, 2) := by decide +kernel
theorem dX11_unit_210 : decode cX11_unit 210 = .ok (.aload_n 0, 1) := by decide +kernel
theorem dX11_unit_211 : decode cX11_unit 211 = .ok (.invokevirtual 247, 3) := by decide +kernel
theorem dX11_unit_214 : decode cX11_unit 214 = .ok (.iload_n 2, 1) := by decide +kernel
theorem dX11_unit_215 : decode cX11_unit 215 = .ok (.ifCond .ne 7, 3) := by decide +kernel
theorem dX11_unit_218 : decode cX11_unit 218 = .ok (.iload_n 3, 1) := by decide +kernel
theorem dX11_unit_219 : decode cX11_unit 219 = .ok (.ifCond .eq 31, 3) := by decide +kernel
theorem dX11_unit_222 : decode cX11_unit 222 = .ok (.aload_n 0, 1) := by decide +kernel
theorem dX11_unit_223 : decode cX11_unit 223 = .ok (.iload_n 2, 1) := by decide +kernel
theorem dX11_unit_224 : decode cX11_unit 224 = .ok (.ifCond .eq 7, 3) := by decide +kernel
theorem dX11_unit_227 : decode cX11_unit 227 = .ok (.iconst 3, 1) := by decide +kernel
theorem dX11_unit_228 : decode cX11_unit 228 = .ok (.goto 5, 3) := by decide +kernel
theorem dX11_unit_231 : decode cX11_unit 231 = .ok (.bipush 7, 2) := by decide +kernel
theorem dX11_unit_233 : decode cX11_unit 233 = .ok (.bipush 126, 2) := by decide +kernel
theorem dX11_unit_235 : decode cX11_unit 235 = .ok (.invokevirtual 341, 3) := by decide +kernel
theorem dX11_unit_238 : decode cX11_unit 238 = .ok (.aload_n 0, 1) := by decide +kernel
theorem dX11_unit_239 : decode cX11_unit 239 = .ok (.dup, 1) := by decide +kernel
theorem dX11_unit_240 : decode cX11_unit 240 = .ok (.getfield 338, 3) := by decide +kernel
theorem dX11_unit_243 : decode cX11_unit 243 = .ok (.iconst 1, 1) := by decide +kernel
theorem dX11_unit_244 : decode cX11_unit 244 = .ok (.iadd, 1) := by decide +kernel
theorem dX11_unit_245 : decode cX11_unit 245 = .ok (.putfield 338, 3) := by decide +kernel
theorem dX11_unit_248 : decode cX11_unit 248 = .ok (.iconst 1, 1) := by decide +kernel
theorem dX11_unit_249 : decode cX11_unit 249 = .ok (.ireturn, 1) := by decide +kernel
theorem dX11_unit_250 : decode cX11_unit 250 = .ok (.aload_n 0, 1) := by decide +kernel
theorem dX11_unit_251 : decode cX11_unit 251 = .ok (.iload 4, 2) := by decide +kernel
theorem dX11_unit_253 : decode cX11_unit 253 = .ok (.ifCond .ne 8, 3) := by decide +kernel
theorem dX11_unit_256 : decode cX11_unit 256 = .ok (.bipush 110, 2) := by decide +kernel
theorem dX11_unit_258 : decode cX11_unit 258 = .ok (.goto 5, 3) := by decide +kernel
theorem dX11_unit_261 : decode cX11_unit 261 = .ok (.iload 4, 2) := by decide +kernel
theorem dX11_unit_263 : decode cX11_unit 263 = .ok (.iload 6, 2) := by decide +kernel
theorem dX11_unit_265 : decode cX11_unit 265 = .ok (.invokevirtual 353, 3) := by decide +kernel
theorem dX11_unit_268 : decode cX11_unit 268 = .ok (.iconst 0, 1) := by decide +kernel
theorem dX11_unit_269 : decode cX11_unit 269 = .ok (.ireturn, 1) := by decide +kernel
set_option maxHeartbeats 20000000 in
set_option maxRecDepth 100000 in
theorem m_X11_unit (l : Launch) (D : va_G) (cT : Nat → ClassId) (T : Nat → Option Nat) (q : Nat → Int) (hT : tokm T) (hq : qkm q) (a0 : Nat) (t0 : T a0 = some 0) (hp0 : (q 29 = 0 ∧ q 27 = q 26 ∧ q 28 = q 26) ∨ (1 ≤ q 29 ∧ q 27 < q 28 ∧ q 28 ≤ q 26)) (hp1 : q 13 = 1 - q 10) (hp2 : q 30 = 0 → NL q) (hp3 : q 30 = 0 → q 29 = 3 → q 31 = 7237492 → q 27 + 3 ≤ q 28) (hp4 : q 30 = 0) (hp5 : 0 ≤ q 35) (hp6 : RS q 1) (hp7 : 1 ≤ q 21) : th_MetM l D cT T q yX11_unit cX11_unit 7 (some .boolean) (rmk 2 44) [.ref a0] (fun v q2 => ∃ r : Int32, v = some (.int r) ∧ IV r 0 1 ∧ qkm q2 ∧ fr [20, 21, 22, 23, 24, 27, 28, 29, 30, 31, 1000] q q2 ∧ ((q2 29 = 0 ∧ q2 27 = q2 26 ∧ q2 28 = q2 26) ∨ (1 ≤ q2 29 ∧ q2 27 < q2 28 ∧ q2 28 ≤ q2 26)) ∧ (q2 30 = 0 → NL q2) ∧ (q2 30 = 0 → q2 29 = 3 → q2 31 = 7237492 → q2 27 + 3 ≤ q2 28) ∧ (q 27 ≤ q2 27) ∧ (q2 30 = 0 → 2 * q 27 + q2 21 < 2 * q2 27 + q 21) ∧ (kp q q2 (q 35)) ∧ (q2 30 = 0 → r.toInt ≠ 0 → RS q2 1 ∧ 1 ≤ q2 21) ∧ (q2 30 = 0 → r.toInt = 0 → RS q2 0)) [0, 8, 28, 29, 30, 31] := by
  refine th_startM (by decide) (Nat.le_of_ble_eq_true rfl) ?_
  intro p e s m below meth c ls S hK hH hr hlocks hnm hl
  have hx := S.1
  have hb := S.2.1
  have b13 := qkm_13 hq; have b10 := qkm_10 hq; have b20 := qkm_20 hq; have b22 := qkm_22 hq; have b23 := qkm_23 hq; have b24 := qkm_24 hq; have b26 := qkm_26 hq; have b27 := qkm_27 hq
  obtain ⟨hlo1, hlo2, hlo3⟩ := RS_lo hp6; have hpil := RS_piled hp6 (by decide)
  have hl : lv_has ls 7 [(0, .ref a0)] := hl
  have J126_l2_0 : ∀ (H : Heap) (locs : List Loc) (ls : Array Slot) (v126_3 : Int32) (v126_4 : Int32), IV v126_3 0 1 → IV v126_4 0 122 → (v126_3.toInt ≠ 0 → q 29 = 5) → (v126_4.toInt ≠ 0 → q 29 = 3 ∧ 97 ≤ v126_4.toInt) → (q 24 ≠ 90 ∧ q 23 ≠ 30) → (v126_4.toInt ≠ 0 ∨ q 29 = 4 ∨ v126_3.toInt ≠ 0) → th_H D cT T (km q) H → va_S (th_A T [0, 8, 28, 29, 30, 31]) s.heap H locs → lv_has ls 7 [(0, .ref a0), (2, .int 0), (3, .int v126_3), (4, .int v126_4)] → W p l e (rmk 2 44) s m [.ref a0].toArray below meth c H locs 0 0 (MQ below (th_QM D cT T (fun v q2 => ∃ r : Int32, v = some (.int r) ∧ IV r 0 1 ∧ qkm q2 ∧ fr [20, 21, 22, 23, 24, 27, 28, 29, 30, 31, 1000] q q2 ∧ ((q2 29 = 0 ∧ q2 27 = q2 26 ∧ q2 28 = q2 26) ∨ (1 ≤ q2 29 ∧ q2 27 < q2 28 ∧ q2 28 ≤ q2 26)) ∧ (q2 30 = 0 → NL q2) ∧ (q2 30 = 0 → q2 29 = 3 → q2 31 = 7237492 → q2 27 + 3 ≤ q2 28) ∧ (q 27 ≤ q2 27) ∧ (q2 30 = 0 → 2 * q 27 + q2 21 < 2 * q2 27 + q 21) ∧ (kp q q2 (q 35)) ∧ (q2 30 = 0 → r.toInt ≠ 0 → RS q2 1 ∧ 1 ≤ q2 21) ∧ (q2 30 = 0 → r.toInt = 0 → RS q2 0)) [0, 8, 28, 29, 30, 31]) [.ref a0].toArray s 0 0 (th_A T [0, 8, 28, 29, 30, 31])) (F0 m 126 ls []) := by
    intro H locs ls v126_3 v126_4 iv126_3 iv126_4 v126_inv0 v126_inv1 v126_inv2 v126_inv3 hH hS hl
    have l1v126_3 := iv126_3.1; have l2v126_3 := iv126_3.2
    have l1v126_4 := iv126_4.1; have l2v126_4 := iv126_4.2
    refine lv_iload_n hx hb dX11_unit_126 rfl (lv_at hl 1 rfl) ?_
    refine lv_if_ne (tgt := 134) hx hb dX11_unit_127 (by decide) (fun c1 => ?_) (fun c1 => ?_)
    · skip
      have rlc1 : (0 : Int) ≠ (0 : Int) := iv_ne c1
      exact absurd (iv_eqc (iv_c (by decide) : IV 0 0 0) (iv_c (by decide) : IV 0 0 0)) c1
    · skip
      have rlc1 : (0 : Int) = (0 : Int) := congrArg Int32.toInt c1
      refine lv_iload_n hx hb dX11_unit_130 rfl (lv_at hl 2 rfl) ?_
      refine lv_if_eq (tgt := 147) hx hb dX11_unit_131 (by decide) (fun c2 => ?_) (fun c2 => ?_)
      · skip
        have rlc2 : v126_3.toInt = (0 : Int) := congrArg Int32.toInt c2
        have ir3 : IV v126_3 0 0 := iv_eL c2 (iv_c (by decide) : IV 0 0 0)
        have ir3a := ir3.1; have ir3b := ir3.2
        refine lv_aload_n hx hb dX11_unit_147 rfl (lv_at hl 0 rfl) ?_
        refine th_callVp (n := 0) (As := []) S hK hH hS (th_A.sub (by decide)) (m_X11_isGood l D cT T q hT hq a0 t0) gm_1487 gm_1484 gm_1486 gm_49 gm_124 (by decide +kernel) ⟨rfl, rfl, Nat.le_of_ble_eq_true rfl, Nat.le_of_ble_eq_true rfl⟩ t0 km_0 rfl rfl hl.1 rfl (Nat.le_of_ble_eq_true rfl) dX11_unit_148 ⟨Nat.zero_le _, Nat.zero_le _⟩ (fun x4 H locs ix4 ox4 hH hS hF1 => ?_)
        obtain ⟨ox4_0, ox4_1⟩ := ox4
        have ox4_0 : x4.toInt ≠ 0 → q 30 = 0 := ox4_0
        have ox4_1 : x4.toInt = 0 → q 30 ≠ 0 := ox4_1
        have l1x4 := ix4.1; have l2x4 := ix4.2
        refine lv_if_ne (tgt := 156) hx hb dX11_unit_151 (by decide) (fun c5 => ?_) (fun c5 => ?_)
        · skip
          have rlc5 : x4.toInt ≠ (0 : Int) := iv_ne c5
          have ir6 : IV x4 1 1 := iv_cutL ix4 (iv_c (by decide) : IV 0 0 0) c5 (by decide)
          have ir6a := ir6.1; have ir6b := ir6.2
          refine lv_aload_n hx hb dX11_unit_156 rfl (lv_at hl 0 rfl) ?_
          refine th_get S hK hH inG11 t0 km_0 rfl 16 (by decide) gm_1246 rfl rfl dX11_unit_157 (fun v7 hv7 fv7 => ?_)
          obtain ⟨rf8, rfl, trf8⟩ := th_V.ref hv7
          refine lv_aload_n hx hb dX11_unit_160 rfl (lv_at hl 0 rfl) ?_
          refine th_get S hK hH inG11 t0 km_0 rfl 42 (by decide) gm_1272 rfl rfl dX11_unit_161 (fun v9 hv9 fv9 => ?_)
          obtain ⟨x10, rfl, ix10⟩ := th_V.int hv9
          have kx10a : q 13 ≤ x10.toInt := ix10.1
          have kx10b : x10.toInt ≤ q 13 := ix10.2
          have bx10 := qkm_13 hq
          have ix10 : IV x10 0 1 := iv_w ix10 (qkm_13 hq)
          refine lv_dup2_11 hx hb dX11_unit_164 rfl rfl ?_
          refine th_iald S hK hH trf8 km_8 (th_in (hi := 1) ix10 (by decide)) dX11_unit_165 (fun v11 hv11 => ?_)
          obtain ⟨x12, rfl, ix12⟩ := th_bkB hv11 ix10 (by omega)
          have kx12a : q 24 ≤ x12.toInt := ix12.1
          have kx12b : x12.toInt ≤ q 24 := ix12.2
          have bx12 := qkm_24 hq
          have ix12 : IV x12 0 90 := iv_w ix12 (qkm_24 hq)
          refine lv_iload_n hx hb dX11_unit_166 rfl (lv_at hl 1 rfl) ?_
          refine lv_if_eq (tgt := 174) hx hb dX11_unit_167 (by decide) (fun c13 => ?_) (fun c13 => ?_)
          · skip
            have rlc13 : (0 : Int) = (0 : Int) := congrArg Int32.toInt c13
            refine lv_iconst (v := 1) hx hb dX11_unit_174 (by decide) ?_
            refine lv_iadd hx hb dX11_unit_175 ?_
            refine lv_topi (fun x14 ex14 => ?_)
            have ix14 : IV x14 1 91 := by rw [ex14]; exact iv_add ix12 (iv_c (by decide) : IV 1 1 1) (by decide)
            have ux14 : x14.toInt = x12.toInt + (1 : Int) := by rw [ex14]; exact iv_addE (by have z1 := (ix12).1; have z2 := (ix12).2; have z3 := ((iv_c (by decide) : IV 1 1 1)).1; have z4 := ((iv_c (by decide) : IV 1 1 1)).2; omega)
            obtain ⟨n15, en15⟩ : ∃ z : Int, z = Int32.toInt x14 := ⟨_, rfl⟩
            refine mst_8 S hK hH hS ⟨8, by decide, trf8⟩ hT trf8 en15 (qkm_10 hq) ix10 (by omega) dX11_unit_176 (fun q16 H locs eq16 hH hS hq1 => ?_)
            have hqq16 : qkm q16 := by rw [eq16]; exact qum_ok24 hq (by have z1 := (ix14).1; have z2 := (ix14).2; exact ⟨by omega, by omega⟩)
            have h0q16 : fr [20, 21, 22, 23, 24, 27, 28, 29, 30, 31, 1000] q q16 := by rw [eq16]; exact fr_up fr_rf (by decide)
            have wq16_10 : q16 10 = q 10 := by rw [eq16]; rfl
            have wq16_13 : q16 13 = q 13 := by rw [eq16]; rfl
            have wq16_20 : q16 20 = q 20 := by rw [eq16]; rfl
            have wq16_21 : q16 21 = q 21 := by rw [eq16]; rfl
            have wq16_22 : q16 22 = q 22 := by rw [eq16]; rfl
            have wq16_23 : q16 23 = q 23 := by rw [eq16]; rfl
            have wq16_24 : q16 24 = n15 := by rw [eq16]; rfl
            have wq16_26 : q16 26 = q 26 := by rw [eq16]; rfl
            have wq16_27 : q16 27 = q 27 := by rw [eq16]; rfl
            have wq16_28 : q16 28 = q 28 := by rw [eq16]; rfl
            have wq16_29 : q16 29 = q 29 := by rw [eq16]; rfl
            have wq16_30 : q16 30 = q 30 := by rw [eq16]; rfl
            have wq16_31 : q16 31 = q 31 := by rw [eq16]; rfl
            have wq16_35 : q16 35 = q 35 := by rw [eq16]; rfl
            have bgq16 : bg q q16 := bg_up bg_rf eq16 (by decide)
            have txq16 : tx q q16 := tx_tr tx_rf (tx_up eq16 (by omega))
            have f17 := fv7.kept (hq1 _ (th_ne t0 trf8 (by decide)))
            refine lv_aload_n hx hb dX11_unit_177 rfl (lv_at hl 0 rfl) ?_
            refine lv_dup hx hb dX11_unit_178 rfl ?_
            refine th_get S hK hH inG11 t0 km_0 rfl 46 (by decide) gm_1276 rfl rfl dX11_unit_179 (fun v18 hv18 fv18 => ?_)
            obtain ⟨x19, rfl, ix19⟩ := th_V.int hv18
            have kx19a : q16 23 ≤ x19.toInt := ix19.1
            have kx19b : x19.toInt ≤ q16 23 := ix19.2
            have bx19 := qkm_23 hqq16
            have ix19 : IV x19 0 30 := iv_w ix19 (qkm_23 hqq16)
            refine lv_iload_n hx hb dX11_unit_182 rfl (lv_at hl 1 rfl) ?_
            refine lv_if_eq (tgt := 190) hx hb dX11_unit_183 (by decide) (fun c20 => ?_) (fun c20 => ?_)
            · skip
              have rlc20 : (0 : Int) = (0 : Int) := congrArg Int32.toInt c20
              refine lv_iconst (v := 1) hx hb dX11_unit_190 (by decide) ?_
              refine lv_iadd hx hb dX11_unit_191 ?_
              refine lv_topi (fun x21 ex21 => ?_)
              have ix21 : IV x21 1 31 := by rw [ex21]; exact iv_add ix19 (iv_c (by decide) : IV 1 1 1) (by decide)
              have ux21 : x21.toInt = x19.toInt + (1 : Int) := by rw [ex21]; exact iv_addE (by have z1 := (ix19).1; have z2 := (ix19).2; have z3 := ((iv_c (by decide) : IV 1 1 1)).1; have z4 := ((iv_c (by decide) : IV 1 1 1)).2; omega)
              obtain ⟨n23, en23⟩ : ∃ z : Int, z = Int32.toInt x21 := ⟨_, rfl⟩
              refine mput_23 S hK hH hS ⟨0, by decide, t0⟩ hT t0 en23 gm_1276 dX11_unit_192 (fun q22 H locs eq22 hH hS hq1 => ?_)
              have hqq22 : qkm q22 := by rw [eq22]; exact qum_ok23 hqq16 (by have z1 := (ix21).1; have z2 := (ix21).2; exact ⟨by omega, by omega⟩)
              have h0q22 : fr [20, 21, 22, 23, 24, 27, 28, 29, 30, 31, 1000] q q22 := by rw [eq22]; exact fr_up h0q16 (by decide)
              have wq22_10 : q22 10 = q16 10 := by rw [eq22]; rfl
              have wq22_13 : q22 13 = q16 13 := by rw [eq22]; rfl
              have wq22_20 : q22 20 = q16 20 := by rw [eq22]; rfl
              have wq22_21 : q22 21 = q16 21 := by rw [eq22]; rfl
              have wq22_22 : q22 22 = q16 22 := by rw [eq22]; rfl
              have wq22_23 : q22 23 = n23 := by rw [eq22]; rfl
              have wq22_24 : q22 24 = q16 24 := by rw [eq22]; rfl
              have wq22_26 : q22 26 = q16 26 := by rw [eq22]; rfl
              have wq22_27 : q22 27 = q16 27 := by rw [eq22]; rfl
              have wq22_28 : q22 28 = q16 28 := by rw [eq22]; rfl
              have wq22_29 : q22 29 = q16 29 := by rw [eq22]; rfl
              have wq22_30 : q22 30 = q16 30 := by rw [eq22]; rfl
              have wq22_31 : q22 31 = q16 31 := by rw [eq22]; rfl
              have wq22_35 : q22 35 = q16 35 := by rw [eq22]; rfl
              have bgq22 : bg q q22 := bg_up bgq16 eq22 (by decide)
              have txq22 : tx q q22 := tx_tr txq16 (tx_up eq22 (by omega))
              refine lv_iload hx hb dX11_unit_195 (lv_at hl 3 rfl) ?_
              refine lv_if_ne (tgt := 207) hx hb dX11_unit_197 (by decide) (fun c24 => ?_) (fun c24 => ?_)
              · skip
                have rlc24 : v126_4.toInt ≠ (0 : Int) := iv_ne c24
                have ir25 : IV v126_4 1 122 := iv_cutL iv126_4 (iv_c (by decide) : IV 0 0 0) c24 (by decide)
                have ir25a := ir25.1; have ir25b := ir25.2
                refine lv_iconst (v := 0) hx hb dX11_unit_207 (by decide) ?_
                refine lv_istore (lv' := [(6, .int 0), (0, .ref a0), (2, .int 0), (3, .int v126_3), (4, .int v126_4)]) hx hb dX11_unit_208 hl (by decide) rfl (fun ls hl => ?_)
                refine lv_aload_n hx hb dX11_unit_210 rfl (lv_at hl 1 rfl) ?_
                refine th_callVM (n := 0) (As := []) S hK hH hS (th_A.sub (by decide)) (m_X11_goOn l D cT T q22 hT hqq22 a0 t0 (show q22 28 ≤ q22 26 by omega)) gm_1445 gm_1442 gm_1444 gm_47 gm_124 (by decide +kernel) ⟨rfl, rfl, Nat.le_of_ble_eq_true rfl, Nat.le_of_ble_eq_true rfl⟩ t0 km_0 rfl rfl hl.1 rfl (Nat.le_of_ble_eq_true rfl) dX11_unit_211 ⟨Nat.zero_le _, Nat.zero_le _⟩ (fun wq26 q26 H locs hEq26 hH hS hF1 => ?_)
                obtain ⟨rfl, hqq26, g0q26, pq26_0, pq26_1, pq26_2, pq26_3, pq26_4⟩ := hEq26
                show W p l e (rmk 2 44) s m [.ref a0].toArray below meth c H locs 0 0 (MQ below (th_QM D cT T (fun v q2 => ∃ r : Int32, v = some (.int r) ∧ IV r 0 1 ∧ qkm q2 ∧ fr [20, 21, 22, 23, 24, 27, 28, 29, 30, 31, 1000] q q2 ∧ ((q2 29 = 0 ∧ q2 27 = q2 26 ∧ q2 28 = q2 26) ∨ (1 ≤ q2 29 ∧ q2 27 < q2 28 ∧ q2 28 ≤ q2 26)) ∧ (q2 30 = 0 → NL q2) ∧ (q2 30 = 0 → q2 29 = 3 → q2 31 = 7237492 → q2 27 + 3 ≤ q2 28) ∧ (q 27 ≤ q2 27) ∧ (q2 30 = 0 → 2 * q 27 + q2 21 < 2 * q2 27 + q 21) ∧ (kp q q2 (q 35)) ∧ (q2 30 = 0 → r.toInt ≠ 0 → RS q2 1 ∧ 1 ≤ q2 21) ∧ (q2 30 = 0 → r.toInt = 0 → RS q2 0)) [0, 8, 28, 29, 30, 31]) [.ref a0].toArray s 0 0 (th_A T [0, 8, 28, 29, 30, 31])) (F0 m 214 ls [])
                have pq26_0 : (q26 29 = 0 ∧ q26 27 = q26 26 ∧ q26 28 = q26 26) ∨ (1 ≤ q26 29 ∧ q26 27 < q26 28 ∧ q26 28 ≤ q26 26) := pq26_0
                have pq26_1 : q26 29 = 3 → sg q26 (q26 28) < 97 ∨ 122 < sg q26 (q26 28) := pq26_1
                have pq26_2 : q26 29 = 3 → q26 31 = 7237492 → q26 27 + 3 ≤ q26 28 := pq26_2
                have pq26_3 : q22 28 ≤ q26 27 := pq26_3
                have pq26_4 : q26 29 = 3 → 97 ≤ sg q22 (q26 27) ∧ sg q22 (q26 27) ≤ 122 := pq26_4
                have wq26_10 : q26 10 = q22 10 := g0q26 10 (by decide) (Or.inl (by decide))
                have wq26_13 : q26 13 = q22 13 := g0q26 13 (by decide) (Or.inl (by decide))
                have wq26_20 : q26 20 = q22 20 := g0q26 20 (by decide) (Or.inl (by decide))
                have wq26_21 : q26 21 = q22 21 := g0q26 21 (by decide) (Or.inl (by decide))
                have wq26_22 : q26 22 = q22 22 := g0q26 22 (by decide) (Or.inl (by decide))
                have wq26_23 : q26 23 = q22 23 := g0q26 23 (by decide) (Or.inl (by decide))
                have wq26_24 : q26 24 = q22 24 := g0q26 24 (by decide) (Or.inl (by decide))
                have wq26_26 : q26 26 = q22 26 := g0q26 26 (by decide) (Or.inl (by decide))
                have wq26_30 : q26 30 = q22 30 := g0q26 30 (by decide) (Or.inl (by decide))
                have wq26_35 : q26 35 = q22 35 := g0q26 35 (by decide) (Or.inl (by decide))
                have h0q26 : fr [20, 21, 22, 23, 24, 27, 28, 29, 30, 31, 1000] q q26 := fr_tr h0q22 g0q26 (by decide)
                have bgq26 : bg q q26 := bg_fr bgq22 g0q26 (by decide)
                have nlq26 : q26 30 = 0 → NL q26 := fun _ => pq26_1
                have hbig : bg q q26 := bgq26
                refine lv_iload_n hx hb dX11_unit_214 rfl (lv_at hl 2 rfl) ?_
                refine lv_if_ne (tgt := 222) hx hb dX11_unit_215 (by decide) (fun c27 => ?_) (fun c27 => ?_)
                · skip
                  have rlc27 : (0 : Int) ≠ (0 : Int) := iv_ne c27
                  exact absurd (iv_eqc (iv_c (by decide) : IV 0 0 0) (iv_c (by decide) : IV 0 0 0)) c27
                · skip
                  have rlc27 : (0 : Int) = (0 : Int) := congrArg Int32.toInt c27
                  refine lv_iload_n hx hb dX11_unit_218 rfl (lv_at hl 3 rfl) ?_
                  refine lv_if_eq (tgt := 250) hx hb dX11_unit_219 (by decide) (fun c28 => ?_) (fun c28 => ?_)
                  · skip
                    have rlc28 : v126_3.toInt = (0 : Int) := congrArg Int32.toInt c28
                    have hroom := RS_room1 hp6 (by omega) (by omega)
                    refine lv_aload_n hx hb dX11_unit_250 rfl (lv_at hl 1 rfl) ?_
                    refine lv_iload hx hb dX11_unit_251 (lv_at hl 4 rfl) ?_
                    refine lv_if_ne (tgt := 261) hx hb dX11_unit_253 (by decide) (fun c29 => ?_) (fun c29 => ?_)
                    · skip
                      have rlc29 : v126_4.toInt ≠ (0 : Int) := iv_ne c29
                      refine lv_iload hx hb dX11_unit_261 (lv_at hl 4 rfl) ?_
                      refine lv_iload hx hb dX11_unit_263 (lv_at hl 0 rfl) ?_
                      refine th_callVM (n := 2) (As := [.int v126_4, .int 0]) S hK hH hS (th_A.sub (by decide)) (m_X11_emit l D cT T q26 hT hqq26 a0 t0 (v126_4) (iv_top _) (0) (iv_top _) (show 560 * q26 13 ≤ q26 20 ∧ q26 20 ≤ 560 * q26 13 + 559 by omega) (show q26 13 = 1 - q26 10 by omega)) gm_1571 gm_1568 gm_1570 gm_70 gm_124 (by decide +kernel) ⟨rfl, rfl, Nat.le_of_ble_eq_true rfl, Nat.le_of_ble_eq_true rfl⟩ t0 km_0 rfl rfl hl.1 rfl (Nat.le_of_ble_eq_true rfl) dX11_unit_265 ⟨Nat.zero_le _, Nat.zero_le _⟩ (fun wq30 q30 H locs hEq30 hH hS hF1 => ?_)
                      obtain ⟨rfl, hqq30, g0q30, pq30_0, pq30_1, pq30_2⟩ := hEq30
                      show W p l e (rmk 2 44) s m [.ref a0].toArray below meth c H locs 0 0 (MQ below (th_QM D cT T (fun v q2 => ∃ r : Int32, v = some (.int r) ∧ IV r 0 1 ∧ qkm q2 ∧ fr [20, 21, 22, 23, 24, 27, 28, 29, 30, 31, 1000] q q2 ∧ ((q2 29 = 0 ∧ q2 27 = q2 26 ∧ q2 28 = q2 26) ∨ (1 ≤ q2 29 ∧ q2 27 < q2 28 ∧ q2 28 ≤ q2 26)) ∧ (q2 30 = 0 → NL q2) ∧ (q2 30 = 0 → q2 29 = 3 → q2 31 = 7237492 → q2 27 + 3 ≤ q2 28) ∧ (q 27 ≤ q2 27) ∧ (q2 30 = 0 → 2 * q 27 + q2 21 < 2 * q2 27 + q 21) ∧ (kp q q2 (q 35)) ∧ (q2 30 = 0 → r.toInt ≠ 0 → RS q2 1 ∧ 1 ≤ q2 21) ∧ (q2 30 = 0 → r.toInt = 0 → RS q2 0)) [0, 8, 28, 29, 30, 31]) [.ref a0].toArray s 0 0 (th_A T [0, 8, 28, 29, 30, 31])) (F0 m 268 ls [])
                      have pq30_0 : q30 = emitq q26 v126_4.toInt := pq30_0
                      have pq30_1 : q30 20 = q26 20 + 1 := pq30_1
                      have pq30_2 : tx q26 q30 := pq30_2
                      have wq30_10 : q30 10 = q26 10 := g0q30 10 (by decide) (Or.inl (by decide))
                      have wq30_13 : q30 13 = q26 13 := g0q30 13 (by decide) (Or.inl (by decide))
                      have wq30_21 : q30 21 = q26 21 := g0q30 21 (by decide) (Or.inl (by decide))
                      have wq30_22 : q30 22 = q26 22 := g0q30 22 (by decide) (Or.inl (by decide))
                      have wq30_23 : q30 23 = q26 23 := g0q30 23 (by decide) (Or.inl (by decide))
                      have wq30_24 : q30 24 = q26 24 := g0q30 24 (by decide) (Or.inl (by decide))
                      have wq30_26 : q30 26 = q26 26 := g0q30 26 (by decide) (Or.inl (by decide))
                      have wq30_27 : q30 27 = q26 27 := g0q30 27 (by decide) (Or.inl (by decide))
                      have wq30_28 : q30 28 = q26 28 := g0q30 28 (by decide) (Or.inl (by decide))
                      have wq30_29 : q30 29 = q26 29 := g0q30 29 (by decide) (Or.inl (by decide))
                      have wq30_30 : q30 30 = q26 30 := g0q30 30 (by decide) (Or.inl (by decide))
                      have wq30_31 : q30 31 = q26 31 := g0q30 31 (by decide) (Or.inl (by decide))
                      have wq30_35 : q30 35 = q26 35 := g0q30 35 (by decide) (Or.inl (by decide))
                      have h0q30 : fr [20, 21, 22, 23, 24, 27, 28, 29, 30, 31, 1000] q q30 := fr_tr h0q26 g0q30 (by decide)
                      have txq30 : tx q26 q30 := tx_tr tx_rf pq30_2
                      have hRS : RS q30 0 := RS_operand hp6 (by omega) hbig (by omega) (by omega) (by omega) (by omega) (by omega) (by omega) (by omega) (by omega) (by omega) (by omega) (by omega) ⟨hroom.2, by omega⟩ ⟨by omega, by omega⟩ (by omega) pq30_0
                      have hkp : kp q q30 (q 35) := kp_tr (kp_bg hbig) (kp_emit pq30_0 (by omega) (by omega) (by omega))
                      refine lv_iconst (v := 0) hx hb dX11_unit_268 (by decide) ?_
                      exact th_zretM S hK hH hS hr hlocks (iv_w (iv_c (by decide) : IV 0 0 0) (by decide)) ⟨_, rfl, (iv_w (iv_c (by decide) : IV 0 0 0) (by decide)), hqq30, h0q30, (show (q30 29 = 0 ∧ q30 27 = q30 26 ∧ q30 28 = q30 26) ∨ (1 ≤ q30 29 ∧ q30 27 < q30 28 ∧ q30 28 ≤ q30 26) by omega), (show q30 30 = 0 → NL q30 by exact (fun z => NL_tx (nlq26 (by omega)) txq30 (by omega) (by omega) (by omega))), (show q30 30 = 0 → q30 29 = 3 → q30 31 = 7237492 → q30 27 + 3 ≤ q30 28 by omega), (show q 27 ≤ q30 27 by omega), (show q30 30 = 0 → 2 * q 27 + q30 21 < 2 * q30 27 + q 21 by omega), (show kp q q30 (q 35) by exact hkp), (show q30 30 = 0 → (0 : Int) ≠ 0 → RS q30 1 ∧ 1 ≤ q30 21 by first | (intro z; exact absurd z (by omega)) | (intro _ z; exact absurd z (by omega)) | exact fun _ _ => ⟨hRS, by omega⟩), (show q30 30 = 0 → (0 : Int) = 0 → RS q30 0 by first | (intro z; exact absurd z (by omega)) | (intro _ z; exact absurd z (by omega)) | exact fun _ _ => hRS)⟩ dX11_unit_269
                    · skip
                      have rlc29 : v126_4.toInt = (0 : Int) := congrArg Int32.toInt c29
                      exact absurd c29 c24
                  · skip
                    have rlc28 : v126_3.toInt ≠ (0 : Int) := iv_ne c28
                    exact absurd (iv_eqc ir3 (iv_c (by decide) : IV 0 0 0)) c28
              · skip
                have rlc24 : v126_4.toInt = (0 : Int) := congrArg Int32.toInt c24
                have ir31 : IV v126_4 0 0 := iv_eL c24 (iv_c (by decide) : IV 0 0 0)
                have ir31a := ir31.1; have ir31b := ir31.2
                refine lv_aload_n hx hb dX11_unit_200 rfl (lv_at hl 0 rfl) ?_
                refine th_get S hK hH inG11 t0 km_0 rfl 9 (by decide) gm_1239 rfl rfl dX11_unit_201 (fun v32 hv32 fv32 => ?_)
                obtain ⟨x33, rfl, ix33⟩ := th_V.int hv32
                refine lv_goto (tgt := 208) hx hb dX11_unit_204 (by decide) ?_
                refine lv_istore (lv' := [(6, .int x33), (0, .ref a0), (2, .int 0), (3, .int v126_3), (4, .int v126_4)]) hx hb dX11_unit_208 hl (by decide) rfl (fun ls hl => ?_)
                refine lv_aload_n hx hb dX11_unit_210 rfl (lv_at hl 1 rfl) ?_
                refine th_callVM (n := 0) (As := []) S hK hH hS (th_A.sub (by decide)) (m_X11_goOn l D cT T q22 hT hqq22 a0 t0 (show q22 28 ≤ q22 26 by omega)) gm_1445 gm_1442 gm_1444 gm_47 gm_124 (by decide +kernel) ⟨rfl, rfl, Nat.le_of_ble_eq_true rfl, Nat.le_of_ble_eq_true rfl⟩ t0 km_0 rfl rfl hl.1 rfl (Nat.le_of_ble_eq_true rfl) dX11_unit_211 ⟨Nat.zero_le _, Nat.zero_le _⟩ (fun wq34 q34 H locs hEq34 hH hS hF1 => ?_)
                obtain ⟨rfl, hqq34, g0q34, pq34_0, pq34_1, pq34_2, pq34_3, pq34_4⟩ := hEq34
                show W p l e (rmk 2 44) s m [.ref a0].toArray below meth c H locs 0 0 (MQ below (th_QM D cT T (fun v q2 => ∃ r : Int32, v = some (.int r) ∧ IV r 0 1 ∧ qkm q2 ∧ fr [20, 21, 22, 23, 24, 27, 28, 29, 30, 31, 1000] q q2 ∧ ((q2 29 = 0 ∧ q2 27 = q2 26 ∧ q2 28 = q2 26) ∨ (1 ≤ q2 29 ∧ q2 27 < q2 28 ∧ q2 28 ≤ q2 26)) ∧ (q2 30 = 0 → NL q2) ∧ (q2 30 = 0 → q2 29 = 3 → q2 31 = 7237492 → q2 27 + 3 ≤ q2 28) ∧ (q 27 ≤ q2 27) ∧ (q2 30 = 0 → 2 * q 27 + q2 21 < 2 * q2 27 + q 21) ∧ (kp q q2 (q 35)) ∧ (q2 30 = 0 → r.toInt ≠ 0 → RS q2 1 ∧ 1 ≤ q2 21) ∧ (q2 30 = 0 → r.toInt = 0 → RS q2 0)) [0, 8, 28, 29, 30, 31]) [.ref a0].toArray s 0 0 (th_A T [0, 8, 28, 29, 30, 31])) (F0 m 214 ls [])
                have pq34_0 : (q34 29 = 0 ∧ q34 27 = q34 26 ∧ q34 28 = q34 26) ∨ (1 ≤ q34 29 ∧ q34 27 < q34 28 ∧ q34 28 ≤ q34 26) := pq34_0
                have pq34_1 : q34 29 = 3 → sg q34 (q34 28) < 97 ∨ 122 < sg q34 (q34 28) := pq34_1
                have pq34_2 : q34 29 = 3 → q34 31 = 7237492 → q34 27 + 3 ≤ q34 28 := pq34_2
                have pq34_3 : q22 28 ≤ q34 27 := pq34_3
                have pq34_4 : q34 29 = 3 → 97 ≤ sg q22 (q34 27) ∧ sg q22 (q34 27) ≤ 122 := pq34_4
                have wq34_10 : q34 10 = q22 10 := g0q34 10 (by decide) (Or.inl (by decide))
                have wq34_13 : q34 13 = q22 13 := g0q34 13 (by decide) (Or.inl (by decide))
                have wq34_20 : q34 20 = q22 20 := g0q34 20 (by decide) (Or.inl (by decide))
                have wq34_21 : q34 21 = q22 21 := g0q34 21 (by decide) (Or.inl (by decide))
                have wq34_22 : q34 22 = q22 22 := g0q34 22 (by decide) (Or.inl (by decide))
                have wq34_23 : q34 23 = q22 23 := g0q34 23 (by decide) (Or.inl (by decide))
                have wq34_24 : q34 24 = q22 24 := g0q34 24 (by decide) (Or.inl (by decide))
                have wq34_26 : q34 26 = q22 26 := g0q34 26 (by decide) (Or.inl (by decide))
                have wq34_30 : q34 30 = q22 30 := g0q34 30 (by decide) (Or.inl (by decide))
                have wq34_35 : q34 35 = q22 35 := g0q34 35 (by decide) (Or.inl (by decide))
                have h0q34 : fr [20, 21, 22, 23, 24, 27, 28, 29, 30, 31, 1000] q q34 := fr_tr h0q22 g0q34 (by decide)
                have bgq34 : bg q q34 := bg_fr bgq22 g0q34 (by decide)
                have nlq34 : q34 30 = 0 → NL q34 := fun _ => pq34_1
                have hbig : bg q q34 := bgq34
                refine lv_iload_n hx hb dX11_unit_214 rfl (lv_at hl 2 rfl) ?_
                refine lv_if_ne (tgt := 222) hx hb dX11_unit_215 (by decide) (fun c35 => ?_) (fun c35 => ?_)
                · skip
                  have rlc35 : (0 : Int) ≠ (0 : Int) := iv_ne c35
                  exact absurd (iv_eqc (iv_c (by decide) : IV 0 0 0) (iv_c (by decide) : IV 0 0 0)) c35
                · skip
                  have rlc35 : (0 : Int) = (0 : Int) := congrArg Int32.toInt c35
                  refine lv_iload_n hx hb dX11_unit_218 rfl (lv_at hl 3 rfl) ?_
                  refine lv_if_eq (tgt := 250) hx hb dX11_unit_219 (by decide) (fun c36 => ?_) (fun c36 => ?_)
                  · skip
                    have rlc36 : v126_3.toInt = (0 : Int) := congrArg Int32.toInt c36
                    have hroom := RS_room1 hp6 (by omega) (by omega)
                    refine lv_aload_n hx hb dX11_unit_250 rfl (lv_at hl 1 rfl) ?_
                    refine lv_iload hx hb dX11_unit_251 (lv_at hl 4 rfl) ?_
                    refine lv_if_ne (tgt := 261) hx hb dX11_unit_253 (by decide) (fun c37 => ?_) (fun c37 => ?_)
                    · skip
                      have rlc37 : v126_4.toInt ≠ (0 : Int) := iv_ne c37
                      exact absurd (iv_eqc ir31 (iv_c (by decide) : IV 0 0 0)) c37
                    · skip
                      have rlc37 : v126_4.toInt = (0 : Int) := congrArg Int32.toInt c37
                      refine lv_bipush (v := 110) hx hb dX11_unit_256 (by decide) ?_
                      refine lv_goto (tgt := 263) hx hb dX11_unit_258 (by decide) ?_
                      refine lv_iload hx hb dX11_unit_263 (lv_at hl 0 rfl) ?_
                      refine th_callVM (n := 2) (As := [.int 110, .int x33]) S hK hH hS (th_A.sub (by decide)) (m_X11_emit l D cT T q34 hT hqq34 a0 t0 (110) (iv_top _) (x33) ix33 (show 560 * q34 13 ≤ q34 20 ∧ q34 20 ≤ 560 * q34 13 + 559 by omega) (show q34 13 = 1 - q34 10 by omega)) gm_1571 gm_1568 gm_1570 gm_70 gm_124 (by decide +kernel) ⟨rfl, rfl, Nat.le_of_ble_eq_true rfl, Nat.le_of_ble_eq_true rfl⟩ t0 km_0 rfl rfl hl.1 rfl (Nat.le_of_ble_eq_true rfl) dX11_unit_265 ⟨Nat.zero_le _, Nat.zero_le _⟩ (fun wq38 q38 H locs hEq38 hH hS hF1 => ?_)
                      obtain ⟨rfl, hqq38, g0q38, pq38_0, pq38_1, pq38_2⟩ := hEq38
                      show W p l e (rmk 2 44) s m [.ref a0].toArray below meth c H locs 0 0 (MQ below (th_QM D cT T (fun v q2 => ∃ r : Int32, v = some (.int r) ∧ IV r 0 1 ∧ qkm q2 ∧ fr [20, 21, 22, 23, 24, 27, 28, 29, 30, 31, 1000] q q2 ∧ ((q2 29 = 0 ∧ q2 27 = q2 26 ∧ q2 28 = q2 26) ∨ (1 ≤ q2 29 ∧ q2 27 < q2 28 ∧ q2 28 ≤ q2 26)) ∧ (q2 30 = 0 → NL q2) ∧ (q2 30 = 0 → q2 29 = 3 → q2 31 = 7237492 → q2 27 + 3 ≤ q2 28) ∧ (q 27 ≤ q2 27) ∧ (q2 30 = 0 → 2 * q 27 + q2 21 < 2 * q2 27 + q 21) ∧ (kp q q2 (q 35)) ∧ (q2 30 = 0 → r.toInt ≠ 0 → RS q2 1 ∧ 1 ≤ q2 21) ∧ (q2 30 = 0 → r.toInt = 0 → RS q2 0)) [0, 8, 28, 29, 30, 31]) [.ref a0].toArray s 0 0 (th_A T [0, 8, 28, 29, 30, 31])) (F0 m 268 ls [])
                      have pq38_0 : q38 = emitq q34 (110 : Int) := pq38_0
                      have pq38_1 : q38 20 = q34 20 + 1 := pq38_1
                      have pq38_2 : tx q34 q38 := pq38_2
                      have wq38_10 : q38 10 = q34 10 := g0q38 10 (by decide) (Or.inl (by decide))
                      have wq38_13 : q38 13 = q34 13 := g0q38 13 (by decide) (Or.inl (by decide))
                      have wq38_21 : q38 21 = q34 21 := g0q38 21 (by decide) (Or.inl (by decide))
                      have wq38_22 : q38 22 = q34 22 := g0q38 22 (by decide) (Or.inl (by decide))
                      have wq38_23 : q38 23 = q34 23 := g0q38 23 (by decide) (Or.inl (by decide))
                      have wq38_24 : q38 24 = q34 24 := g0q38 24 (by decide) (Or.inl (by decide))
                      have wq38_26 : q38 26 = q34 26 := g0q38 26 (by decide) (Or.inl (by decide))
                      have wq38_27 : q38 27 = q34 27 := g0q38 27 (by decide) (Or.inl (by decide))
                      have wq38_28 : q38 28 = q34 28 := g0q38 28 (by decide) (Or.inl (by decide))
                      have wq38_29 : q38 29 = q34 29 := g0q38 29 (by decide) (Or.inl (by decide))
                      have wq38_30 : q38 30 = q34 30 := g0q38 30 (by decide) (Or.inl (by decide))
                      have wq38_31 : q38 31 = q34 31 := g0q38 31 (by decide) (Or.inl (by decide))
                      have wq38_35 : q38 35 = q34 35 := g0q38 35 (by decide) (Or.inl (by decide))
                      have h0q38 : fr [20, 21, 22, 23, 24, 27, 28, 29, 30, 31, 1000] q q38 := fr_tr h0q34 g0q38 (by decide)
                      have txq38 : tx q34 q38 := tx_tr tx_rf pq38_2
                      have hRS : RS q38 0 := RS_operand hp6 (by omega) hbig (by omega) (by omega) (by omega) (by omega) (by omega) (by omega) (by omega) (by omega) (by omega) (by omega) (by omega) ⟨hroom.2, by omega⟩ ⟨by omega, by omega⟩ (by omega) pq38_0
                      have hkp : kp q q38 (q 35) := kp_tr (kp_bg hbig) (kp_emit pq38_0 (by omega) (by omega) (by omega))
                      refine lv_iconst (v := 0) hx hb dX11_unit_268 (by decide) ?_
                      exact th_zretM S hK hH hS hr hlocks (iv_w (iv_c (by decide) : IV 0 0 0) (by decide)) ⟨_, rfl, (iv_w (iv_c (by decide) : IV 0 0 0) (by decide)), hqq38, h0q38, (show (q38 29 = 0 ∧ q38 27 = q38 26 ∧ q38 28 = q38 26) ∨ (1 ≤ q38 29 ∧ q38 27 < q38 28 ∧ q38 28 ≤ q38 26) by omega), (show q38 30 = 0 → NL q38 by exact (fun z => NL_tx (nlq34 (by omega)) txq38 (by omega) (by omega) (by omega))), (show q38 30 = 0 → q38 29 = 3 → q38 31 = 7237492 → q38 27 + 3 ≤ q38 28 by omega), (show q 27 ≤ q38 27 by omega), (show q38 30 = 0 → 2 * q 27 + q38 21 < 2 * q38 27 + q 21 by omega), (show kp q q38 (q 35) by exact hkp), (show q38 30 = 0 → (0 : Int) ≠ 0 → RS q38 1 ∧ 1 ≤ q38 21 by first | (intro z; exact absurd z (by omega)) | (intro _ z; exact absurd z (by omega)) | exact fun _ _ => ⟨hRS, by omega⟩), (show q38 30 = 0 → (0 : Int) = 0 → RS q38 0 by first | (intro z; exact absurd z (by omega)) | (intro _ z; exact absurd z (by omega)) | exact fun _ _ => hRS)⟩ dX11_unit_269
                  · skip
                    have rlc36 : v126_3.toInt ≠ (0 : Int) := iv_ne c36
                    exact absurd (iv_eqc ir3 (iv_c (by decide) : IV 0 0 0)) c36
            · skip
              have rlc20 : (0 : Int) ≠ (0 : Int) := iv_ne c20
              exact absurd (iv_eqc (iv_c (by decide) : IV 0 0 0) (iv_c (by decide) : IV 0 0 0)) c20
          · skip
            have rlc13 : (0 : Int) ≠ (0 : Int) := iv_ne c13
            exact absurd (iv_eqc (iv_c (by decide) : IV 0 0 0) (iv_c (by decide) : IV 0 0 0)) c13
        · skip
          have rlc5 : x4.toInt = (0 : Int) := congrArg Int32.toInt c5
          have ir39 : IV x4 0 0 := iv_eL c5 (iv_c (by decide) : IV 0 0 0)
          have ir39a := ir39.1; have ir39b := ir39.2
          have hkp : kp q q (q 35) := kp_bg bg_rf
          refine lv_iconst (v := 1) hx hb dX11_unit_154 (by decide) ?_
          exact th_zretM S hK hH hS hr hlocks (iv_w (iv_c (by decide) : IV 1 1 1) (by decide)) ⟨_, rfl, (iv_w (iv_c (by decide) : IV 1 1 1) (by decide)), hq, fr_rf, (show (q 29 = 0 ∧ q 27 = q 26 ∧ q 28 = q 26) ∨ (1 ≤ q 29 ∧ q 27 < q 28 ∧ q 28 ≤ q 26) by omega), (show q 30 = 0 → NL q by exact hp2), (show q 30 = 0 → q 29 = 3 → q 31 = 7237492 → q 27 + 3 ≤ q 28 by omega), (show q 27 ≤ q 27 by omega), (show q 30 = 0 → 2 * q 27 + q 21 < 2 * q 27 + q 21 by omega), (show kp q q (q 35) by exact hkp), (show q 30 = 0 → (1 : Int) ≠ 0 → RS q 1 ∧ 1 ≤ q 21 by first | (intro z; exact absurd z (by omega)) | (intro _ z; exact absurd z (by omega)) | exact fun _ _ => ⟨hRS, by omega⟩), (show q 30 = 0 → (1 : Int) = 0 → RS q 0 by first | (intro z; exact absurd z (by omega)) | (intro _ z; exact absurd z (by omega)) | exact fun _ _ => hRS)⟩ dX11_unit_155
      · skip
        have rlc2 : v126_3.toInt ≠ (0 : Int) := iv_ne c2
        have ir40 : IV v126_3 1 1 := iv_cutL iv126_3 (iv_c (by decide) : IV 0 0 0) c2 (by decide)
        have ir40a := ir40.1; have ir40b := ir40.2
        refine lv_aload_n hx hb dX11_unit_134 rfl (lv_at hl 0 rfl) ?_
        refine th_get S hK hH inG11 t0 km_0 rfl 44 (by decide) gm_1274 rfl rfl dX11_unit_135 (fun v41 hv41 fv41 => ?_)
        obtain ⟨x42, rfl, ix42⟩ := th_V.int hv41
        have kx42a : q 22 ≤ x42.toInt := ix42.1
        have kx42b : x42.toInt ≤ q 22 := ix42.2
        have bx42 := qkm_22 hq
        have ix42 : IV x42 0 7 := iv_w ix42 (qkm_22 hq)
        refine lv_bipush (v := 7) hx hb dX11_unit_138 (by decide) ?_
        refine lv_icmp_ne (tgt := 147) hx hb dX11_unit_140 (by decide) (fun c43 => ?_) (fun c43 => ?_)
        · skip
          have rlc43 : x42.toInt ≠ (7 : Int) := iv_ne c43
          have ir44 : IV x42 0 6 := iv_cutH ix42 (iv_c (by decide) : IV 7 7 7) c43 (by decide)
          have ir44a := ir44.1; have ir44b := ir44.2
          refine lv_aload_n hx hb dX11_unit_147 rfl (lv_at hl 0 rfl) ?_
          refine th_callVp (n := 0) (As := []) S hK hH hS (th_A.sub (by decide)) (m_X11_isGood l D cT T q hT hq a0 t0) gm_1487 gm_1484 gm_1486 gm_49 gm_124 (by decide +kernel) ⟨rfl, rfl, Nat.le_of_ble_eq_true rfl, Nat.le_of_ble_eq_true rfl⟩ t0 km_0 rfl rfl hl.1 rfl (Nat.le_of_ble_eq_true rfl) dX11_unit_148 ⟨Nat.zero_le _, Nat.zero_le _⟩ (fun x45 H locs ix45 ox45 hH hS hF1 => ?_)
          obtain ⟨ox45_0, ox45_1⟩ := ox45
          have ox45_0 : x45.toInt ≠ 0 → q 30 = 0 := ox45_0
          have ox45_1 : x45.toInt = 0 → q 30 ≠ 0 := ox45_1
          have l1x45 := ix45.1; have l2x45 := ix45.2
          refine lv_if_ne (tgt := 156) hx hb dX11_unit_151 (by decide) (fun c46 => ?_) (fun c46 => ?_)
          · skip
            have rlc46 : x45.toInt ≠ (0 : Int) := iv_ne c46
            have ir47 : IV x45 1 1 := iv_cutL ix45 (iv_c (by decide) : IV 0 0 0) c46 (by decide)
            have ir47a := ir47.1; have ir47b := ir47.2
            refine lv_aload_n hx hb dX11_unit_156 rfl (lv_at hl 0 rfl) ?_
            refine th_get S hK hH inG11 t0 km_0 rfl 16 (by decide) gm_1246 rfl rfl dX11_unit_157 (fun v48 hv48 fv48 => ?_)
            obtain ⟨rf49, rfl, trf49⟩ := th_V.ref hv48
            refine lv_aload_n hx hb dX11_unit_160 rfl (lv_at hl 0 rfl) ?_
            refine th_get S hK hH inG11 t0 km_0 rfl 42 (by decide) gm_1272 rfl rfl dX11_unit_161 (fun v50 hv50 fv50 => ?_)
            obtain ⟨x51, rfl, ix51⟩ := th_V.int hv50
            have kx51a : q 13 ≤ x51.toInt := ix51.1
            have kx51b : x51.toInt ≤ q 13 := ix51.2
            have bx51 := qkm_13 hq
            have ix51 : IV x51 0 1 := iv_w ix51 (qkm_13 hq)
            refine lv_dup2_11 hx hb dX11_unit_164 rfl rfl ?_
            refine th_iald S hK hH trf49 km_8 (th_in (hi := 1) ix51 (by decide)) dX11_unit_165 (fun v52 hv52 => ?_)
            obtain ⟨x53, rfl, ix53⟩ := th_bkB hv52 ix51 (by omega)
            have kx53a : q 24 ≤ x53.toInt := ix53.1
            have kx53b : x53.toInt ≤ q 24 := ix53.2
            have bx53 := qkm_24 hq
            have ix53 : IV x53 0 90 := iv_w ix53 (qkm_24 hq)
            refine lv_iload_n hx hb dX11_unit_166 rfl (lv_at hl 1 rfl) ?_
            refine lv_if_eq (tgt := 174) hx hb dX11_unit_167 (by decide) (fun c54 => ?_) (fun c54 => ?_)
            · skip
              have rlc54 : (0 : Int) = (0 : Int) := congrArg Int32.toInt c54
              refine lv_iconst (v := 1) hx hb dX11_unit_174 (by decide) ?_
              refine lv_iadd hx hb dX11_unit_175 ?_
              refine lv_topi (fun x55 ex55 => ?_)
              have ix55 : IV x55 1 91 := by rw [ex55]; exact iv_add ix53 (iv_c (by decide) : IV 1 1 1) (by decide)
              have ux55 : x55.toInt = x53.toInt + (1 : Int) := by rw [ex55]; exact iv_addE (by have z1 := (ix53).1; have z2 := (ix53).2; have z3 := ((iv_c (by decide) : IV 1 1 1)).1; have z4 := ((iv_c (by decide) : IV 1 1 1)).2; omega)
              obtain ⟨n56, en56⟩ : ∃ z : Int, z = Int32.toInt x55 := ⟨_, rfl⟩
              refine mst_8 S hK hH hS ⟨8, by decide, trf49⟩ hT trf49 en56 (qkm_10 hq) ix51 (by omega) dX11_unit_176 (fun q57 H locs eq57 hH hS hq1 => ?_)
              have hqq57 : qkm q57 := by rw [eq57]; exact qum_ok24 hq (by have z1 := (ix55).1; have z2 := (ix55).2; exact ⟨by omega, by omega⟩)
              have h0q57 : fr [20, 21, 22, 23, 24, 27, 28, 29, 30, 31, 1000] q q57 := by rw [eq57]; exact fr_up fr_rf (by decide)
              have wq57_10 : q57 10 = q 10 := by rw [eq57]; rfl
              have wq57_13 : q57 13 = q 13 := by rw [eq57]; rfl
              have wq57_20 : q57 20 = q 20 := by rw [eq57]; rfl
              have wq57_21 : q57 21 = q 21 := by rw [eq57]; rfl
              have wq57_22 : q57 22 = q 22 := by rw [eq57]; rfl
              have wq57_23 : q57 23 = q 23 := by rw [eq57]; rfl
              have wq57_24 : q57 24 = n56 := by rw [eq57]; rfl
              have wq57_26 : q57 26 = q 26 := by rw [eq57]; rfl
              have wq57_27 : q57 27 = q 27 := by rw [eq57]; rfl
              have wq57_28 : q57 28 = q 28 := by rw [eq57]; rfl
              have wq57_29 : q57 29 = q 29 := by rw [eq57]; rfl
              have wq57_30 : q57 30 = q 30 := by rw [eq57]; rfl
              have wq57_31 : q57 31 = q 31 := by rw [eq57]; rfl
              have wq57_35 : q57 35 = q 35 := by rw [eq57]; rfl
              have bgq57 : bg q q57 := bg_up bg_rf eq57 (by decide)
              have txq57 : tx q q57 := tx_tr tx_rf (tx_up eq57 (by omega))
              have f58 := fv48.kept (hq1 _ (th_ne t0 trf49 (by decide)))
              refine lv_aload_n hx hb dX11_unit_177 rfl (lv_at hl 0 rfl) ?_
              refine lv_dup hx hb dX11_unit_178 rfl ?_
              refine th_get S hK hH inG11 t0 km_0 rfl 46 (by decide) gm_1276 rfl rfl dX11_unit_179 (fun v59 hv59 fv59 => ?_)
              obtain ⟨x60, rfl, ix60⟩ := th_V.int hv59
              have kx60a : q57 23 ≤ x60.toInt := ix60.1
              have kx60b : x60.toInt ≤ q57 23 := ix60.2
              have bx60 := qkm_23 hqq57
              have ix60 : IV x60 0 30 := iv_w ix60 (qkm_23 hqq57)
              refine lv_iload_n hx hb dX11_unit_182 rfl (lv_at hl 1 rfl) ?_
              refine lv_if_eq (tgt := 190) hx hb dX11_unit_183 (by decide) (fun c61 => ?_) (fun c61 => ?_)
              · skip
                have rlc61 : (0 : Int) = (0 : Int) := congrArg Int32.toInt c61
                refine lv_iconst (v := 1) hx hb dX11_unit_190 (by decide) ?_
                refine lv_iadd hx hb dX11_unit_191 ?_
                refine lv_topi (fun x62 ex62 => ?_)
                have ix62 : IV x62 1 31 := by rw [ex62]; exact iv_add ix60 (iv_c (by decide) : IV 1 1 1) (by decide)
                have ux62 : x62.toInt = x60.toInt + (1 : Int) := by rw [ex62]; exact iv_addE (by have z1 := (ix60).1; have z2 := (ix60).2; have z3 := ((iv_c (by decide) : IV 1 1 1)).1; have z4 := ((iv_c (by decide) : IV 1 1 1)).2; omega)
                obtain ⟨n64, en64⟩ : ∃ z : Int, z = Int32.toInt x62 := ⟨_, rfl⟩
                refine mput_23 S hK hH hS ⟨0, by decide, t0⟩ hT t0 en64 gm_1276 dX11_unit_192 (fun q63 H locs eq63 hH hS hq1 => ?_)
                have hqq63 : qkm q63 := by rw [eq63]; exact qum_ok23 hqq57 (by have z1 := (ix62).1; have z2 := (ix62).2; exact ⟨by omega, by omega⟩)
                have h0q63 : fr [20, 21, 22, 23, 24, 27, 28, 29, 30, 31, 1000] q q63 := by rw [eq63]; exact fr_up h0q57 (by decide)
                have wq63_10 : q63 10 = q57 10 := by rw [eq63]; rfl
                have wq63_13 : q63 13 = q57 13 := by rw [eq63]; rfl
                have wq63_20 : q63 20 = q57 20 := by rw [eq63]; rfl
                have wq63_21 : q63 21 = q57 21 := by rw [eq63]; rfl
                have wq63_22 : q63 22 = q57 22 := by rw [eq63]; rfl
                have wq63_23 : q63 23 = n64 := by rw [eq63]; rfl
                have wq63_24 : q63 24 = q57 24 := by rw [eq63]; rfl
                have wq63_26 : q63 26 = q57 26 := by rw [eq63]; rfl
                have wq63_27 : q63 27 = q57 27 := by rw [eq63]; rfl
                have wq63_28 : q63 28 = q57 28 := by rw [eq63]; rfl
                have wq63_29 : q63 29 = q57 29 := by rw [eq63]; rfl
                have wq63_30 : q63 30 = q57 30 := by rw [eq63]; rfl
                have wq63_31 : q63 31 = q57 31 := by rw [eq63]; rfl
                have wq63_35 : q63 35 = q57 35 := by rw [eq63]; rfl
                have bgq63 : bg q q63 := bg_up bgq57 eq63 (by decide)
                have txq63 : tx q q63 := tx_tr txq57 (tx_up eq63 (by omega))
                refine lv_iload hx hb dX11_unit_195 (lv_at hl 3 rfl) ?_
                refine lv_if_ne (tgt := 207) hx hb dX11_unit_197 (by decide) (fun c65 => ?_) (fun c65 => ?_)
                · skip
                  have rlc65 : v126_4.toInt ≠ (0 : Int) := iv_ne c65
                  have ir66 : IV v126_4 1 122 := iv_cutL iv126_4 (iv_c (by decide) : IV 0 0 0) c65 (by decide)
                  have ir66a := ir66.1; have ir66b := ir66.2
                  refine lv_iconst (v := 0) hx hb dX11_unit_207 (by decide) ?_
                  refine lv_istore (lv' := [(6, .int 0), (0, .ref a0), (2, .int 0), (3, .int v126_3), (4, .int v126_4)]) hx hb dX11_unit_208 hl (by decide) rfl (fun ls hl => ?_)
                  refine lv_aload_n hx hb dX11_unit_210 rfl (lv_at hl 1 rfl) ?_
                  refine th_callVM (n := 0) (As := []) S hK hH hS (th_A.sub (by decide)) (m_X11_goOn l D cT T q63 hT hqq63 a0 t0 (show q63 28 ≤ q63 26 by omega)) gm_1445 gm_1442 gm_1444 gm_47 gm_124 (by decide +kernel) ⟨rfl, rfl, Nat.le_of_ble_eq_true rfl, Nat.le_of_ble_eq_true rfl⟩ t0 km_0 rfl rfl hl.1 rfl (Nat.le_of_ble_eq_true rfl) dX11_unit_211 ⟨Nat.zero_le _, Nat.zero_le _⟩ (fun wq67 q67 H locs hEq67 hH hS hF1 => ?_)
                  obtain ⟨rfl, hqq67, g0q67, pq67_0, pq67_1, pq67_2, pq67_3, pq67_4⟩ := hEq67
                  show W p l e (rmk 2 44) s m [.ref a0].toArray below meth c H locs 0 0 (MQ below (th_QM D cT T (fun v q2 => ∃ r : Int32, v = some (.int r) ∧ IV r 0 1 ∧ qkm q2 ∧ fr [20, 21, 22, 23, 24, 27, 28, 29, 30, 31, 1000] q q2 ∧ ((q2 29 = 0 ∧ q2 27 = q2 26 ∧ q2 28 = q2 26) ∨ (1 ≤ q2 29 ∧ q2 27 < q2 28 ∧ q2 28 ≤ q2 26)) ∧ (q2 30 = 0 → NL q2) ∧ (q2 30 = 0 → q2 29 = 3 → q2 31 = 7237492 → q2 27 + 3 ≤ q2 28) ∧ (q 27 ≤ q2 27) ∧ (q2 30 = 0 → 2 * q 27 + q2 21 < 2 * q2 27 + q 21) ∧ (kp q q2 (q 35)) ∧ (q2 30 = 0 → r.toInt ≠ 0 → RS q2 1 ∧ 1 ≤ q2 21) ∧ (q2 30 = 0 → r.toInt = 0 → RS q2 0)) [0, 8, 28, 29, 30, 31]) [.ref a0].toArray s 0 0 (th_A T [0, 8, 28, 29, 30, 31])) (F0 m 214 ls [])
                  have pq67_0 : (q67 29 = 0 ∧ q67 27 = q67 26 ∧ q67 28 = q67 26) ∨ (1 ≤ q67 29 ∧ q67 27 < q67 28 ∧ q67 28 ≤ q67 26) := pq67_0
                  have pq67_1 : q67 29 = 3 → sg q67 (q67 28) < 97 ∨ 122 < sg q67 (q67 28) := pq67_1
                  have pq67_2 : q67 29 = 3 → q67 31 = 7237492 → q67 27 + 3 ≤ q67 28 := pq67_2
                  have pq67_3 : q63 28 ≤ q67 27 := pq67_3
                  have pq67_4 : q67 29 = 3 → 97 ≤ sg q63 (q67 27) ∧ sg q63 (q67 27) ≤ 122 := pq67_4
                  have wq67_10 : q67 10 = q63 10 := g0q67 10 (by decide) (Or.inl (by decide))
                  have wq67_13 : q67 13 = q63 13 := g0q67 13 (by decide) (Or.inl (by decide))
                  have wq67_20 : q67 20 = q63 20 := g0q67 20 (by decide) (Or.inl (by decide))
                  have wq67_21 : q67 21 = q63 21 := g0q67 21 (by decide) (Or.inl (by decide))
                  have wq67_22 : q67 22 = q63 22 := g0q67 22 (by decide) (Or.inl (by decide))
                  have wq67_23 : q67 23 = q63 23 := g0q67 23 (by decide) (Or.inl (by decide))
                  have wq67_24 : q67 24 = q63 24 := g0q67 24 (by decide) (Or.inl (by decide))
                  have wq67_26 : q67 26 = q63 26 := g0q67 26 (by decide) (Or.inl (by decide))
                  have wq67_30 : q67 30 = q63 30 := g0q67 30 (by decide) (Or.inl (by decide))
                  have wq67_35 : q67 35 = q63 35 := g0q67 35 (by decide) (Or.inl (by decide))
                  have h0q67 : fr [20, 21, 22, 23, 24, 27, 28, 29, 30, 31, 1000] q q67 := fr_tr h0q63 g0q67 (by decide)
                  have bgq67 : bg q q67 := bg_fr bgq63 g0q67 (by decide)
                  have nlq67 : q67 30 = 0 → NL q67 := fun _ => pq67_1
                  have hbig : bg q q67 := bgq67
                  refine lv_iload_n hx hb dX11_unit_214 rfl (lv_at hl 2 rfl) ?_
                  refine lv_if_ne (tgt := 222) hx hb dX11_unit_215 (by decide) (fun c68 => ?_) (fun c68 => ?_)
                  · skip
                    have rlc68 : (0 : Int) ≠ (0 : Int) := iv_ne c68
                    exact absurd (iv_eqc (iv_c (by decide) : IV 0 0 0) (iv_c (by decide) : IV 0 0 0)) c68
                  · skip
                    have rlc68 : (0 : Int) = (0 : Int) := congrArg Int32.toInt c68
                    refine lv_iload_n hx hb dX11_unit_218 rfl (lv_at hl 3 rfl) ?_
                    refine lv_if_eq (tgt := 250) hx hb dX11_unit_219 (by decide) (fun c69 => ?_) (fun c69 => ?_)
                    · skip
                      have rlc69 : v126_3.toInt = (0 : Int) := congrArg Int32.toInt c69
                      exact absurd c69 c2
                    · skip
                      have rlc69 : v126_3.toInt ≠ (0 : Int) := iv_ne c69
                      refine lv_aload_n hx hb dX11_unit_222 rfl (lv_at hl 1 rfl) ?_
                      refine lv_iload_n hx hb dX11_unit_223 rfl (lv_at hl 2 rfl) ?_
                      refine lv_if_eq (tgt := 231) hx hb dX11_unit_224 (by decide) (fun c70 => ?_) (fun c70 => ?_)
                      · skip
                        have rlc70 : (0 : Int) = (0 : Int) := congrArg Int32.toInt c70
                        refine lv_bipush (v := 7) hx hb dX11_unit_231 (by decide) ?_
                        refine lv_bipush (v := 126) hx hb dX11_unit_233 (by decide) ?_
                        refine th_callVM (n := 2) (As := [.int 7, .int 126]) S hK hH hS (th_A.sub (by decide)) (m_X11_pushE l D cT T q67 hT hqq67 a0 t0 (7) (iv_w (iv_c (by decide) : IV 7 7 7) (by decide)) (126) (iv_top _) (show q67 21 ≤ 60 by omega)) gm_1555 gm_1552 gm_1554 gm_66 gm_124 (by decide +kernel) ⟨rfl, rfl, Nat.le_of_ble_eq_true rfl, Nat.le_of_ble_eq_true rfl⟩ t0 km_0 rfl rfl hl.1 rfl (Nat.le_of_ble_eq_true rfl) dX11_unit_235 ⟨Nat.zero_le _, Nat.zero_le _⟩ (fun wq71 q71 H locs hEq71 hH hS hF1 => ?_)
                        obtain ⟨rfl, hqq71, g0q71, pq71_0, pq71_1, pq71_2⟩ := hEq71
                        show W p l e (rmk 2 44) s m [.ref a0].toArray below meth c H locs 0 0 (MQ below (th_QM D cT T (fun v q2 => ∃ r : Int32, v = some (.int r) ∧ IV r 0 1 ∧ qkm q2 ∧ fr [20, 21, 22, 23, 24, 27, 28, 29, 30, 31, 1000] q q2 ∧ ((q2 29 = 0 ∧ q2 27 = q2 26 ∧ q2 28 = q2 26) ∨ (1 ≤ q2 29 ∧ q2 27 < q2 28 ∧ q2 28 ≤ q2 26)) ∧ (q2 30 = 0 → NL q2) ∧ (q2 30 = 0 → q2 29 = 3 → q2 31 = 7237492 → q2 27 + 3 ≤ q2 28) ∧ (q 27 ≤ q2 27) ∧ (q2 30 = 0 → 2 * q 27 + q2 21 < 2 * q2 27 + q 21) ∧ (kp q q2 (q 35)) ∧ (q2 30 = 0 → r.toInt ≠ 0 → RS q2 1 ∧ 1 ≤ q2 21) ∧ (q2 30 = 0 → r.toInt = 0 → RS q2 0)) [0, 8, 28, 29, 30, 31]) [.ref a0].toArray s 0 0 (th_A T [0, 8, 28, 29, 30, 31])) (F0 m 238 ls [])
                        have pq71_0 : q71 = pushq q67 (7 : Int) (126 : Int) := pq71_0
                        have pq71_1 : q71 21 = q67 21 + 1 := pq71_1
                        have pq71_2 : tx q67 q71 := pq71_2
                        have wq71_10 : q71 10 = q67 10 := g0q71 10 (by decide) (Or.inl (by decide))
                        have wq71_13 : q71 13 = q67 13 := g0q71 13 (by decide) (Or.inl (by decide))
                        have wq71_20 : q71 20 = q67 20 := g0q71 20 (by decide) (Or.inl (by decide))
                        have wq71_22 : q71 22 = q67 22 := g0q71 22 (by decide) (Or.inl (by decide))
                        have wq71_23 : q71 23 = q67 23 := g0q71 23 (by decide) (Or.inl (by decide))
                        have wq71_24 : q71 24 = q67 24 := g0q71 24 (by decide) (Or.inl (by decide))
                        have wq71_26 : q71 26 = q67 26 := g0q71 26 (by decide) (Or.inl (by decide))
                        have wq71_27 : q71 27 = q67 27 := g0q71 27 (by decide) (Or.inl (by decide))
                        have wq71_28 : q71 28 = q67 28 := g0q71 28 (by decide) (Or.inl (by decide))
                        have wq71_29 : q71 29 = q67 29 := g0q71 29 (by decide) (Or.inl (by decide))
                        have wq71_30 : q71 30 = q67 30 := g0q71 30 (by decide) (Or.inl (by decide))
                        have wq71_31 : q71 31 = q67 31 := g0q71 31 (by decide) (Or.inl (by decide))
                        have wq71_35 : q71 35 = q67 35 := g0q71 35 (by decide) (Or.inl (by decide))
                        have h0q71 : fr [20, 21, 22, 23, 24, 27, 28, 29, 30, 31, 1000] q q71 := fr_tr h0q67 g0q71 (by decide)
                        have txq71 : tx q67 q71 := tx_tr tx_rf pq71_2
                        refine lv_aload_n hx hb dX11_unit_238 rfl (lv_at hl 1 rfl) ?_
                        refine lv_dup hx hb dX11_unit_239 rfl ?_
                        refine th_get S hK hH inG11 t0 km_0 rfl 44 (by decide) gm_1274 rfl rfl dX11_unit_240 (fun v72 hv72 fv72 => ?_)
                        obtain ⟨x73, rfl, ix73⟩ := th_V.int hv72
                        have kx73a : q71 22 ≤ x73.toInt := ix73.1
                        have kx73b : x73.toInt ≤ q71 22 := ix73.2
                        have bx73 := qkm_22 hqq71
                        have ix73 : IV x73 0 7 := iv_w ix73 (qkm_22 hqq71)
                        refine lv_iconst (v := 1) hx hb dX11_unit_243 (by decide) ?_
                        refine lv_iadd hx hb dX11_unit_244 ?_
                        refine lv_topi (fun x74 ex74 => ?_)
                        have ix74 : IV x74 1 8 := by rw [ex74]; exact iv_add ix73 (iv_c (by decide) : IV 1 1 1) (by decide)
                        have ux74 : x74.toInt = x73.toInt + (1 : Int) := by rw [ex74]; exact iv_addE (by have z1 := (ix73).1; have z2 := (ix73).2; have z3 := ((iv_c (by decide) : IV 1 1 1)).1; have z4 := ((iv_c (by decide) : IV 1 1 1)).2; omega)
                        obtain ⟨n76, en76⟩ : ∃ z : Int, z = Int32.toInt x74 := ⟨_, rfl⟩
                        refine mput_22 S hK hH hS ⟨0, by decide, t0⟩ hT t0 en76 gm_1274 dX11_unit_245 (fun q75 H locs eq75 hH hS hq1 => ?_)
                        have hqq75 : qkm q75 := by rw [eq75]; exact qum_ok22 hqq71 (by have z1 := (ix74).1; have z2 := (ix74).2; exact ⟨by omega, by omega⟩)
                        have h0q75 : fr [20, 21, 22, 23, 24, 27, 28, 29, 30, 31, 1000] q q75 := by rw [eq75]; exact fr_up h0q71 (by decide)
                        have wq75_10 : q75 10 = q71 10 := by rw [eq75]; rfl
                        have wq75_13 : q75 13 = q71 13 := by rw [eq75]; rfl
                        have wq75_20 : q75 20 = q71 20 := by rw [eq75]; rfl
                        have wq75_21 : q75 21 = q71 21 := by rw [eq75]; rfl
                        have wq75_22 : q75 22 = n76 := by rw [eq75]; rfl
                        have wq75_23 : q75 23 = q71 23 := by rw [eq75]; rfl
                        have wq75_24 : q75 24 = q71 24 := by rw [eq75]; rfl
                        have wq75_26 : q75 26 = q71 26 := by rw [eq75]; rfl
                        have wq75_27 : q75 27 = q71 27 := by rw [eq75]; rfl
                        have wq75_28 : q75 28 = q71 28 := by rw [eq75]; rfl
                        have wq75_29 : q75 29 = q71 29 := by rw [eq75]; rfl
                        have wq75_30 : q75 30 = q71 30 := by rw [eq75]; rfl
                        have wq75_31 : q75 31 = q71 31 := by rw [eq75]; rfl
                        have wq75_35 : q75 35 = q71 35 := by rw [eq75]; rfl
                        have bgq75 : bg q71 q75 := bg_up bg_rf eq75 (by decide)
                        have txq75 : tx q67 q75 := tx_tr txq71 (tx_up eq75 (by omega))
                        have hRS : RS q75 1 := RS_push (u := 1) hp6 (by omega) hbig (by omega) (by omega) (by omega) (by omega) (by omega) (by omega) (by omega) (by omega) (by decide) (by omega) (by omega) (by omega) (by omega) (Or.inr rfl) (by rw [eq75, pq71_0]; congr 1; omega)
                        have hkp : kp q q75 (q 35) := kp_tr (kp_bg hbig) (kp_tr (kp_push pq71_0 (by omega) (by omega)) (kp_bg (bg_up bg_rf eq75 (by decide))))
                        refine lv_iconst (v := 1) hx hb dX11_unit_248 (by decide) ?_
                        exact th_zretM S hK hH hS hr hlocks (iv_w (iv_c (by decide) : IV 1 1 1) (by decide)) ⟨_, rfl, (iv_w (iv_c (by decide) : IV 1 1 1) (by decide)), hqq75, h0q75, (show (q75 29 = 0 ∧ q75 27 = q75 26 ∧ q75 28 = q75 26) ∨ (1 ≤ q75 29 ∧ q75 27 < q75 28 ∧ q75 28 ≤ q75 26) by omega), (show q75 30 = 0 → NL q75 by exact (fun z => NL_tx (nlq67 (by omega)) txq75 (by omega) (by omega) (by omega))), (show q75 30 = 0 → q75 29 = 3 → q75 31 = 7237492 → q75 27 + 3 ≤ q75 28 by omega), (show q 27 ≤ q75 27 by omega), (show q75 30 = 0 → 2 * q 27 + q75 21 < 2 * q75 27 + q 21 by omega), (show kp q q75 (q 35) by exact hkp), (show q75 30 = 0 → (1 : Int) ≠ 0 → RS q75 1 ∧ 1 ≤ q75 21 by first | (intro z; exact absurd z (by omega)) | (intro _ z; exact absurd z (by omega)) | exact fun _ _ => ⟨hRS, by omega⟩), (show q75 30 = 0 → (1 : Int) = 0 → RS q75 0 by first | (intro z; exact absurd z (by omega)) | (intro _ z; exact absurd z (by omega)) | exact fun _ _ => hRS)⟩ dX11_unit_249
                      · skip
                        have rlc70 : (0 : Int) ≠ (0 : Int) := iv_ne c70
                        exact absurd (iv_eqc (iv_c (by decide) : IV 0 0 0) (iv_c (by decide) : IV 0 0 0)) c70
                · skip
                  have rlc65 : v126_4.toInt = (0 : Int) := congrArg Int32.toInt c65
                  have ir77 : IV v126_4 0 0 := iv_eL c65 (iv_c (by decide) : IV 0 0 0)
                  have ir77a := ir77.1; have ir77b := ir77.2
                  refine lv_aload_n hx hb dX11_unit_200 rfl (lv_at hl 0 rfl) ?_
                  refine th_get S hK hH inG11 t0 km_0 rfl 9 (by decide) gm_1239 rfl rfl dX11_unit_201 (fun v78 hv78 fv78 => ?_)
                  obtain ⟨x79, rfl, ix79⟩ := th_V.int hv78
                  refine lv_goto (tgt := 208) hx hb dX11_unit_204 (by decide) ?_
                  refine lv_istore (lv' := [(6, .int x79), (0, .ref a0), (2, .int 0), (3, .int v126_3), (4, .int v126_4)]) hx hb dX11_unit_208 hl (by decide) rfl (fun ls hl => ?_)
                  refine lv_aload_n hx hb dX11_unit_210 rfl (lv_at hl 1 rfl) ?_
                  refine th_callVM (n := 0) (As := []) S hK hH hS (th_A.sub (by decide)) (m_X11_goOn l D cT T q63 hT hqq63 a0 t0 (show q63 28 ≤ q63 26 by omega)) gm_1445 gm_1442 gm_1444 gm_47 gm_124 (by decide +kernel) ⟨rfl, rfl, Nat.le_of_ble_eq_true rfl, Nat.le_of_ble_eq_true rfl⟩ t0 km_0 rfl rfl hl.1 rfl (Nat.le_of_ble_eq_true rfl) dX11_unit_211 ⟨Nat.zero_le _, Nat.zero_le _⟩ (fun wq80 q80 H locs hEq80 hH hS hF1 => ?_)
                  obtain ⟨rfl, hqq80, g0q80, pq80_0, pq80_1, pq80_2, pq80_3, pq80_4⟩ := hEq80
                  show W p l e (rmk 2 44) s m [.ref a0].toArray below meth c H locs 0 0 (MQ below (th_QM D cT T (fun v q2 => ∃ r : Int32, v = some (.int r) ∧ IV r 0 1 ∧ qkm q2 ∧ fr [20, 21, 22, 23, 24, 27, 28, 29, 30, 31, 1000] q q2 ∧ ((q2 29 = 0 ∧ q2 27 = q2 26 ∧ q2 28 = q2 26) ∨ (1 ≤ q2 29 ∧ q2 27 < q2 28 ∧ q2 28 ≤ q2 26)) ∧ (q2 30 = 0 → NL q2) ∧ (q2 30 = 0 → q2 29 = 3 → q2 31 = 7237492 → q2 27 + 3 ≤ q2 28) ∧ (q 27 ≤ q2 27) ∧ (q2 30 = 0 → 2 * q 27 + q2 21 < 2 * q2 27 + q 21) ∧ (kp q q2 (q 35)) ∧ (q2 30 = 0 → r.toInt ≠ 0 → RS q2 1 ∧ 1 ≤ q2 21) ∧ (q2 30 = 0 → r.toInt = 0 → RS q2 0)) [0, 8, 28, 29, 30, 31]) [.ref a0].toArray s 0 0 (th_A T [0, 8, 28, 29, 30, 31])) (F0 m 214 ls [])
                  have pq80_0 : (q80 29 = 0 ∧ q80 27 = q80 26 ∧ q80 28 = q80 26) ∨ (1 ≤ q80 29 ∧ q80 27 < q80 28 ∧ q80 28 ≤ q80 26) := pq80_0
                  have pq80_1 : q80 29 = 3 → sg q80 (q80 28) < 97 ∨ 122 < sg q80 (q80 28) := pq80_1
                  have pq80_2 : q80 29 = 3 → q80 31 = 7237492 → q80 27 + 3 ≤ q80 28 := pq80_2
                  have pq80_3 : q63 28 ≤ q80 27 := pq80_3
                  have pq80_4 : q80 29 = 3 → 97 ≤ sg q63 (q80 27) ∧ sg q63 (q80 27) ≤ 122 := pq80_4
                  have wq80_10 : q80 10 = q63 10 := g0q80 10 (by decide) (Or.inl (by decide))
                  have wq80_13 : q80 13 = q63 13 := g0q80 13 (by decide) (Or.inl (by decide))
                  have wq80_20 : q80 20 = q63 20 := g0q80 20 (by decide) (Or.inl (by decide))
                  have wq80_21 : q80 21 = q63 21 := g0q80 21 (by decide) (Or.inl (by decide))
                  have wq80_22 : q80 22 = q63 22 := g0q80 22 (by decide) (Or.inl (by decide))
                  have wq80_23 : q80 23 = q63 23 := g0q80 23 (by decide) (Or.inl (by decide))
                  have wq80_24 : q80 24 = q63 24 := g0q80 24 (by decide) (Or.inl (by decide))
                  have wq80_26 : q80 26 = q63 26 := g0q80 26 (by decide) (Or.inl (by decide))
                  have wq80_30 : q80 30 = q63 30 := g0q80 30 (by decide) (Or.inl (by decide))
                  have wq80_35 : q80 35 = q63 35 := g0q80 35 (by decide) (Or.inl (by decide))
                  have h0q80 : fr [20, 21, 22, 23, 24, 27, 28, 29, 30, 31, 1000] q q80 := fr_tr h0q63 g0q80 (by decide)
                  have bgq80 : bg q q80 := bg_fr bgq63 g0q80 (by decide)
                  have nlq80 : q80 30 = 0 → NL q80 := fun _ => pq80_1
                  have hbig : bg q q80 := bgq80
                  refine lv_iload_n hx hb dX11_unit_214 rfl (lv_at hl 2 rfl) ?_
                  refine lv_if_ne (tgt := 222) hx hb dX11_unit_215 (by decide) (fun c81 => ?_) (fun c81 => ?_)
                  · skip
                    have rlc81 : (0 : Int) ≠ (0 : Int) := iv_ne c81
                    exact absurd (iv_eqc (iv_c (by decide) : IV 0 0 0) (iv_c (by decide) : IV 0 0 0)) c81
                  · skip
                    have rlc81 : (0 : Int) = (0 : Int) := congrArg Int32.toInt c81
                    refine lv_iload_n hx hb dX11_unit_218 rfl (lv_at hl 3 rfl) ?_
                    refine lv_if_eq (tgt := 250) hx hb dX11_unit_219 (by decide) (fun c82 => ?_) (fun c82 => ?_)
                    · skip
                      have rlc82 : v126_3.toInt = (0 : Int) := congrArg Int32.toInt c82
                      exact absurd c82 c2
                    · skip
                      have rlc82 : v126_3.toInt ≠ (0 : Int) := iv_ne c82
                      refine lv_aload_n hx hb dX11_unit_222 rfl (lv_at hl 1 rfl) ?_
                      refine lv_iload_n hx hb dX11_unit_223 rfl (lv_at hl 2 rfl) ?_
                      refine lv_if_eq (tgt := 231) hx hb dX11_unit_224 (by decide) (fun c83 => ?_) (fun c83 => ?_)
                      · skip
                        have rlc83 : (0 : Int) = (0 : Int) := congrArg Int32.toInt c83
                        refine lv_bipush (v := 7) hx hb dX11_unit_231 (by decide) ?_
                        refine lv_bipush (v := 126) hx hb dX11_unit_233 (by decide) ?_
                        refine th_callVM (n := 2) (As := [.int 7, .int 126]) S hK hH hS (th_A.sub (by decide)) (m_X11_pushE l D cT T q80 hT hqq80 a0 t0 (7) (iv_w (iv_c (by decide) : IV 7 7 7) (by decide)) (126) (iv_top _) (show q80 21 ≤ 60 by omega)) gm_1555 gm_1552 gm_1554 gm_66 gm_124 (by decide +kernel) ⟨rfl, rfl, Nat.le_of_ble_eq_true rfl, Nat.le_of_ble_eq_true rfl⟩ t0 km_0 rfl rfl hl.1 rfl (Nat.le_of_ble_eq_true rfl) dX11_unit_235 ⟨Nat.zero_le _, Nat.zero_le _⟩ (fun wq84 q84 H locs hEq84 hH hS hF1 => ?_)
                        obtain ⟨rfl, hqq84, g0q84, pq84_0, pq84_1, pq84_2⟩ := hEq84
                        show W p l e (rmk 2 44) s m [.ref a0].toArray below meth c H locs 0 0 (MQ below (th_QM D cT T (fun v q2 => ∃ r : Int32, v = some (.int r) ∧ IV r 0 1 ∧ qkm q2 ∧ fr [20, 21, 22, 23, 24, 27, 28, 29, 30, 31, 1000] q q2 ∧ ((q2 29 = 0 ∧ q2 27 = q2 26 ∧ q2 28 = q2 26) ∨ (1 ≤ q2 29 ∧ q2 27 < q2 28 ∧ q2 28 ≤ q2 26)) ∧ (q2 30 = 0 → NL q2) ∧ (q2 30 = 0 → q2 29 = 3 → q2 31 = 7237492 → q2 27 + 3 ≤ q2 28) ∧ (q 27 ≤ q2 27) ∧ (q2 30 = 0 → 2 * q 27 + q2 21 < 2 * q2 27 + q 21) ∧ (kp q q2 (q 35)) ∧ (q2 30 = 0 → r.toInt ≠ 0 → RS q2 1 ∧ 1 ≤ q2 21) ∧ (q2 30 = 0 → r.toInt = 0 → RS q2 0)) [0, 8, 28, 29, 30, 31]) [.ref a0].toArray s 0 0 (th_A T [0, 8, 28, 29, 30, 31])) (F0 m 238 ls [])
                        have pq84_0 : q84 = pushq q80 (7 : Int) (126 : Int) := pq84_0
                        have pq84_1 : q84 21 = q80 21 + 1 := pq84_1
                        have pq84_2 : tx q80 q84 := pq84_2
                        have wq84_10 : q84 10 = q80 10 := g0q84 10 (by decide) (Or.inl (by decide))
                        have wq84_13 : q84 13 = q80 13 := g0q84 13 (by decide) (Or.inl (by decide))
                        have wq84_20 : q84 20 = q80 20 := g0q84 20 (by decide) (Or.inl (by decide))
                        have wq84_22 : q84 22 = q80 22 := g0q84 22 (by decide) (Or.inl (by decide))
                        have wq84_23 : q84 23 = q80 23 := g0q84 23 (by decide) (Or.inl (by decide))
                        have wq84_24 : q84 24 = q80 24 := g0q84 24 (by decide) (Or.inl (by decide))
                        have wq84_26 : q84 26 = q80 26 := g0q84 26 (by decide) (Or.inl (by decide))
                        have wq84_27 : q84 27 = q80 27 := g0q84 27 (by decide) (Or.inl (by decide))
                        have wq84_28 : q84 28 = q80 28 := g0q84 28 (by decide) (Or.inl (by decide))
                        have wq84_29 : q84 29 = q80 29 := g0q84 29 (by decide) (Or.inl (by decide))
                        have wq84_30 : q84 30 = q80 30 := g0q84 30 (by decide) (Or.inl (by decide))
                        have wq84_31 : q84 31 = q80 31 := g0q84 31 (by decide) (Or.inl (by decide))
                        have wq84_35 : q84 35 = q80 35 := g0q84 35 (by decide) (Or.inl (by decide))
                        have h0q84 : fr [20, 21, 22, 23, 24, 27, 28, 29, 30, 31, 1000] q q84 := fr_tr h0q80 g0q84 (by decide)
                        have txq84 : tx q80 q84 := tx_tr tx_rf pq84_2
                        refine lv_aload_n hx hb dX11_unit_238 rfl (lv_at hl 1 rfl) ?_
                        refine lv_dup hx hb dX11_unit_239 rfl ?_
                        refine th_get S hK hH inG11 t0 km_0 rfl 44 (by decide) gm_1274 rfl rfl dX11_unit_240 (fun v85 hv85 fv85 => ?_)
                        obtain ⟨x86, rfl, ix86⟩ := th_V.int hv85
                        have kx86a : q84 22 ≤ x86.toInt := ix86.1
                        have kx86b : x86.toInt ≤ q84 22 := ix86.2
                        have bx86 := qkm_22 hqq84
                        have ix86 : IV x86 0 7 := iv_w ix86 (qkm_22 hqq84)
                        refine lv_iconst (v := 1) hx hb dX11_unit_243 (by decide) ?_
                        refine lv_iadd hx hb dX11_unit_244 ?_
                        refine lv_topi (fun x87 ex87 => ?_)
                        have ix87 : IV x87 1 8 := by rw [ex87]; exact iv_add ix86 (iv_c (by decide) : IV 1 1 1) (by decide)
                        have ux87 : x87.toInt = x86.toInt + (1 : Int) := by rw [ex87]; exact iv_addE (by have z1 := (ix86).1; have z2 := (ix86).2; have z3 := ((iv_c (by decide) : IV 1 1 1)).1; have z4 := ((iv_c (by decide) : IV 1 1 1)).2; omega)
                        obtain ⟨n89, en89⟩ : ∃ z : Int, z = Int32.toInt x87 := ⟨_, rfl⟩
                        refine mput_22 S hK hH hS ⟨0, by decide, t0⟩ hT t0 en89 gm_1274 dX11_unit_245 (fun q88 H locs eq88 hH hS hq1 => ?_)
                        have hqq88 : qkm q88 := by rw [eq88]; exact qum_ok22 hqq84 (by have z1 := (ix87).1; have z2 := (ix87).2; exact ⟨by omega, by omega⟩)
                        have h0q88 : fr [20, 21, 22, 23, 24, 27, 28, 29, 30, 31, 1000] q q88 := by rw [eq88]; exact fr_up h0q84 (by decide)
                        have wq88_10 : q88 10 = q84 10 := by rw [eq88]; rfl
                        have wq88_13 : q88 13 = q84 13 := by rw [eq88]; rfl
                        have wq88_20 : q88 20 = q84 20 := by rw [eq88]; rfl
                        have wq88_21 : q88 21 = q84 21 := by rw [eq88]; rfl
                        have wq88_22 : q88 22 = n89 := by rw [eq88]; rfl
                        have wq88_23 : q88 23 = q84 23 := by rw [eq88]; rfl
                        have wq88_24 : q88 24 = q84 24 := by rw [eq88]; rfl
                        have wq88_26 : q88 26 = q84 26 := by rw [eq88]; rfl
                        have wq88_27 : q88 27 = q84 27 := by rw [eq88]; rfl
                        have wq88_28 : q88 28 = q84 28 := by rw [eq88]; rfl
                        have wq88_29 : q88 29 = q84 29 := by rw [eq88]; rfl
                        have wq88_30 : q88 30 = q84 30 := by rw [eq88]; rfl
                        have wq88_31 : q88 31 = q84 31 := by rw [eq88]; rfl
                        have wq88_35 : q88 35 = q84 35 := by rw [eq88]; rfl
                        have bgq88 : bg q84 q88 := bg_up bg_rf eq88 (by decide)
                        have txq88 : tx q80 q88 := tx_tr txq84 (tx_up eq88 (by omega))
                        have hRS : RS q88 1 := RS_push (u := 1) hp6 (by omega) hbig (by omega) (by omega) (by omega) (by omega) (by omega) (by omega) (by omega) (by omega) (by decide) (by omega) (by omega) (by omega) (by omega) (Or.inr rfl) (by rw [eq88, pq84_0]; congr 1; omega)
                        have hkp : kp q q88 (q 35) := kp_tr (kp_bg hbig) (kp_tr (kp_push pq84_0 (by omega) (by omega)) (kp_bg (bg_up bg_rf eq88 (by decide))))
                        refine lv_iconst (v := 1) hx hb dX11_unit_248 (by decide) ?_
                        exact th_zretM S hK hH hS hr hlocks (iv_w (iv_c (by decide) : IV 1 1 1) (by decide)) ⟨_, rfl, (iv_w (iv_c (by decide) : IV 1 1 1) (by decide)), hqq88, h0q88, (show (q88 29 = 0 ∧ q88 27 = q88 26 ∧ q88 28 = q88 26) ∨ (1 ≤ q88 29 ∧ q88 27 < q88 28 ∧ q88 28 ≤ q88 26) by omega), (show q88 30 = 0 → NL q88 by exact (fun z => NL_tx (nlq80 (by omega)) txq88 (by omega) (by omega) (by omega))), (show q88 30 = 0 → q88 29 = 3 → q88 31 = 7237492 → q88 27 + 3 ≤ q88 28 by omega), (show q 27 ≤ q88 27 by omega), (show q88 30 = 0 → 2 * q 27 + q88 21 < 2 * q88 27 + q 21 by omega), (show kp q q88 (q 35) by exact hkp), (show q88 30 = 0 → (1 : Int) ≠ 0 → RS q88 1 ∧ 1 ≤ q88 21 by first | (intro z; exact absurd z (by omega)) | (intro _ z; exact absurd z (by omega)) | exact fun _ _ => ⟨hRS, by omega⟩), (show q88 30 = 0 → (1 : Int) = 0 → RS q88 0 by first | (intro z; exact absurd z (by omega)) | (intro _ z; exact absurd z (by omega)) | exact fun _ _ => hRS)⟩ dX11_unit_249
                      · skip
                        have rlc83 : (0 : Int) ≠ (0 : Int) := iv_ne c83
                        exact absurd (iv_eqc (iv_c (by decide) : IV 0 0 0) (iv_c (by decide) : IV 0 0 0)) c83
              · skip
                have rlc61 : (0 : Int) ≠ (0 : Int) := iv_ne c61
                exact absurd (iv_eqc (iv_c (by decide) : IV 0 0 0) (iv_c (by decide) : IV 0 0 0)) c61
            · skip
              have rlc54 : (0 : Int) ≠ (0 : Int) := iv_ne c54
              exact absurd (iv_eqc (iv_c (by decide) : IV 0 0 0) (iv_c (by decide) : IV 0 0 0)) c54
          · skip
            have rlc46 : x45.toInt = (0 : Int) := congrArg Int32.toInt c46
            have ir90 : IV x45 0 0 := iv_eL c46 (iv_c (by decide) : IV 0 0 0)
            have ir90a := ir90.1; have ir90b := ir90.2
            have hkp : kp q q (q 35) := kp_bg bg_rf
            refine lv_iconst (v := 1) hx hb dX11_unit_154 (by decide) ?_
            exact th_zretM S hK hH hS hr hlocks (iv_w (iv_c (by decide) : IV 1 1 1) (by decide)) ⟨_, rfl, (iv_w (iv_c (by decide) : IV 1 1 1) (by decide)), hq, fr_rf, (show (q 29 = 0 ∧ q 27 = q 26 ∧ q 28 = q 26) ∨ (1 ≤ q 29 ∧ q 27 < q 28 ∧ q 28 ≤ q 26) by omega), (show q 30 = 0 → NL q by exact hp2), (show q 30 = 0 → q 29 = 3 → q 31 = 7237492 → q 27 + 3 ≤ q 28 by omega), (show q 27 ≤ q 27 by omega), (show q 30 = 0 → 2 * q 27 + q 21 < 2 * q 27 + q 21 by omega), (show kp q q (q 35) by exact hkp), (show q 30 = 0 → (1 : Int) ≠ 0 → RS q 1 ∧ 1 ≤ q 21 by first | (intro z; exact absurd z (by omega)) | (intro _ z; exact absurd z (by omega)) | exact fun _ _ => ⟨hRS, by omega⟩), (show q 30 = 0 → (1 : Int) = 0 → RS q 0 by first | (intro z; exact absurd z (by omega)) | (intro _ z; exact absurd z (by omega)) | exact fun _ _ => hRS)⟩ dX11_unit_155
        · skip
          have rlc43 : x42.toInt = (7 : Int) := congrArg Int32.toInt c43
          have ir91 : IV x42 7 7 := ⟨(iv_eL c43 (iv_c (by decide) : IV 7 7 7)).1, ix42.2⟩
          have ir91a := ir91.1; have ir91b := ir91.2
          refine lv_aload_n hx hb dX11_unit_143 rfl (lv_at hl 0 rfl) ?_
          refine th_callVM (n := 0) (As := []) S hK hH hS (th_A.sub (by decide)) (m_X11_misplaced l D cT T q hT hq a0 t0) gm_1503 gm_1500 gm_1502 gm_53 gm_124 (by decide +kernel) ⟨rfl, rfl, Nat.le_of_ble_eq_true rfl, Nat.le_of_ble_eq_true rfl⟩ t0 km_0 rfl rfl hl.1 rfl (Nat.le_of_ble_eq_true rfl) dX11_unit_144 ⟨Nat.zero_le _, Nat.zero_le _⟩ (fun wq92 q92 H locs hEq92 hH hS hF1 => ?_)
          obtain ⟨rfl, hqq92, g0q92, pq92_0⟩ := hEq92
          show W p l e (rmk 2 44) s m [.ref a0].toArray below meth c H locs 0 0 (MQ below (th_QM D cT T (fun v q2 => ∃ r : Int32, v = some (.int r) ∧ IV r 0 1 ∧ qkm q2 ∧ fr [20, 21, 22, 23, 24, 27, 28, 29, 30, 31, 1000] q q2 ∧ ((q2 29 = 0 ∧ q2 27 = q2 26 ∧ q2 28 = q2 26) ∨ (1 ≤ q2 29 ∧ q2 27 < q2 28 ∧ q2 28 ≤ q2 26)) ∧ (q2 30 = 0 → NL q2) ∧ (q2 30 = 0 → q2 29 = 3 → q2 31 = 7237492 → q2 27 + 3 ≤ q2 28) ∧ (q 27 ≤ q2 27) ∧ (q2 30 = 0 → 2 * q 27 + q2 21 < 2 * q2 27 + q 21) ∧ (kp q q2 (q 35)) ∧ (q2 30 = 0 → r.toInt ≠ 0 → RS q2 1 ∧ 1 ≤ q2 21) ∧ (q2 30 = 0 → r.toInt = 0 → RS q2 0)) [0, 8, 28, 29, 30, 31]) [.ref a0].toArray s 0 0 (th_A T [0, 8, 28, 29, 30, 31])) (F0 m 147 ls [])
          have pq92_0 : q92 30 ≠ 0 := pq92_0
          have wq92_10 : q92 10 = q 10 := g0q92 10 (by decide) (Or.inl (by decide))
          have wq92_13 : q92 13 = q 13 := g0q92 13 (by decide) (Or.inl (by decide))
          have wq92_20 : q92 20 = q 20 := g0q92 20 (by decide) (Or.inl (by decide))
          have wq92_21 : q92 21 = q 21 := g0q92 21 (by decide) (Or.inl (by decide))
          have wq92_22 : q92 22 = q 22 := g0q92 22 (by decide) (Or.inl (by decide))
          have wq92_23 : q92 23 = q 23 := g0q92 23 (by decide) (Or.inl (by decide))
          have wq92_24 : q92 24 = q 24 := g0q92 24 (by decide) (Or.inl (by decide))
          have wq92_26 : q92 26 = q 26 := g0q92 26 (by decide) (Or.inl (by decide))
          have wq92_27 : q92 27 = q 27 := g0q92 27 (by decide) (Or.inl (by decide))
          have wq92_28 : q92 28 = q 28 := g0q92 28 (by decide) (Or.inl (by decide))
          have wq92_29 : q92 29 = q 29 := g0q92 29 (by decide) (Or.inl (by decide))
          have wq92_31 : q92 31 = q 31 := g0q92 31 (by decide) (Or.inl (by decide))
          have wq92_35 : q92 35 = q 35 := g0q92 35 (by decide) (Or.inl (by decide))
          have h0q92 : fr [20, 21, 22, 23, 24, 27, 28, 29, 30, 31, 1000] q q92 := fr_tr fr_rf g0q92 (by decide)
          have bgq92 : bg q q92 := bg_fr bg_rf g0q92 (by decide)
          have txq92 : tx q q92 := tx_tr tx_rf (tx_bg (bg_fr bg_rf g0q92 (by decide)))
          refine lv_aload_n hx hb dX11_unit_147 rfl (lv_at hl 0 rfl) ?_
          refine th_callVp (n := 0) (As := []) S hK hH hS (th_A.sub (by decide)) (m_X11_isGood l D cT T q92 hT hqq92 a0 t0) gm_1487 gm_1484 gm_1486 gm_49 gm_124 (by decide +kernel) ⟨rfl, rfl, Nat.le_of_ble_eq_true rfl, Nat.le_of_ble_eq_true rfl⟩ t0 km_0 rfl rfl hl.1 rfl (Nat.le_of_ble_eq_true rfl) dX11_unit_148 ⟨Nat.zero_le _, Nat.zero_le _⟩ (fun x93 H locs ix93 ox93 hH hS hF1 => ?_)
          obtain ⟨ox93_0, ox93_1⟩ := ox93
          have ox93_0 : x93.toInt ≠ 0 → q92 30 = 0 := ox93_0
          have ox93_1 : x93.toInt = 0 → q92 30 ≠ 0 := ox93_1
          have l1x93 := ix93.1; have l2x93 := ix93.2
          refine lv_if_ne (tgt := 156) hx hb dX11_unit_151 (by decide) (fun c94 => ?_) (fun c94 => ?_)
          · skip
            have rlc94 : x93.toInt ≠ (0 : Int) := iv_ne c94
            have ir95 : IV x93 1 1 := iv_cutL ix93 (iv_c (by decide) : IV 0 0 0) c94 (by decide)
            have ir95a := ir95.1; have ir95b := ir95.2
            exfalso; omega
          · skip
            have rlc94 : x93.toInt = (0 : Int) := congrArg Int32.toInt c94
            have ir96 : IV x93 0 0 := iv_eL c94 (iv_c (by decide) : IV 0 0 0)
            have ir96a := ir96.1; have ir96b := ir96.2
            have hkp : kp q q92 (q 35) := kp_bg bgq92
            refine lv_iconst (v := 1) hx hb dX11_unit_154 (by decide) ?_
            exact th_zretM S hK hH hS hr hlocks (iv_w (iv_c (by decide) : IV 1 1 1) (by decide)) ⟨_, rfl, (iv_w (iv_c (by decide) : IV 1 1 1) (by decide)), hqq92, h0q92, (show (q92 29 = 0 ∧ q92 27 = q92 26 ∧ q92 28 = q92 26) ∨ (1 ≤ q92 29 ∧ q92 27 < q92 28 ∧ q92 28 ≤ q92 26) by omega), (show q92 30 = 0 → NL q92 by exact (fun z => NL_tx (hp2 (by omega)) txq92 (by omega) (by omega) (by omega))), (show q92 30 = 0 → q92 29 = 3 → q92 31 = 7237492 → q92 27 + 3 ≤ q92 28 by omega), (show q 27 ≤ q92 27 by omega), (show q92 30 = 0 → 2 * q 27 + q92 21 < 2 * q92 27 + q 21 by omega), (show kp q q92 (q 35) by exact hkp), (show q92 30 = 0 → (1 : Int) ≠ 0 → RS q92 1 ∧ 1 ≤ q92 21 by first | (intro z; exact absurd z (by omega)) | (intro _ z; exact absurd z (by omega)) | exact fun _ _ => ⟨hRS, by omega⟩), (show q92 30 = 0 → (1 : Int) = 0 → RS q92 0 by first | (intro z; exact absurd z (by omega)) | (intro _ z; exact absurd z (by omega)) | exact fun _ _ => hRS)⟩ dX11_unit_155
  have J126_l2_1 : ∀ (H : Heap) (locs : List Loc) (ls : Array Slot) (v126_3 : Int32) (v126_4 : Int32), IV v126_3 0 1 → IV v126_4 0 122 → (v126_3.toInt ≠ 0 → q 29 = 5) → (v126_4.toInt ≠ 0 → q 29 = 3 ∧ 97 ≤ v126_4.toInt) → (q 29 = 3 ∧ q 31 = 7237492) → th_H D cT T (km q) H → va_S (th_A T [0, 8, 28, 29, 30, 31]) s.heap H locs → lv_has ls 7 [(0, .ref a0), (2, .int 1), (3, .int v126_3), (4, .int v126_4)] → W p l e (rmk 2 44) s m [.ref a0].toArray below meth c H locs 0 0 (MQ below (th_QM D cT T (fun v q2 => ∃ r : Int32, v = some (.int r) ∧ IV r 0 1 ∧ qkm q2 ∧ fr [20, 21, 22, 23, 24, 27, 28, 29, 30, 31, 1000] q q2 ∧ ((q2 29 = 0 ∧ q2 27 = q2 26 ∧ q2 28 = q2 26) ∨ (1 ≤ q2 29 ∧ q2 27 < q2 28 ∧ q2 28 ≤ q2 26)) ∧ (q2 30 = 0 → NL q2) ∧ (q2 30 = 0 → q2 29 = 3 → q2 31 = 7237492 → q2 27 + 3 ≤ q2 28) ∧ (q 27 ≤ q2 27) ∧ (q2 30 = 0 → 2 * q 27 + q2 21 < 2 * q2 27 + q 21) ∧ (kp q q2 (q 35)) ∧ (q2 30 = 0 → r.toInt ≠ 0 → RS q2 1 ∧ 1 ≤ q2 21) ∧ (q2 30 = 0 → r.toInt = 0 → RS q2 0)) [0, 8, 28, 29, 30, 31]) [.ref a0].toArray s 0 0 (th_A T [0, 8, 28, 29, 30, 31])) (F0 m 126 ls []) := by
    intro H locs ls v126_3 v126_4 iv126_3 iv126_4 v126_inv0 v126_inv1 v126_inv2 hH hS hl
    have l1v126_3 := iv126_3.1; have l2v126_3 := iv126_3.2
    have l1v126_4 := iv126_4.1; have l2v126_4 := iv126_4.2
    refine lv_iload_n hx hb dX11_unit_126 rfl (lv_at hl 1 rfl) ?_
    refine lv_if_ne (tgt := 134) hx hb dX11_unit_127 (by decide) (fun c97 => ?_) (fun c97 => ?_)
    · skip
      have rlc97 : (1 : Int) ≠ (0 : Int) := iv_ne c97
      refine lv_aload_n hx hb dX11_unit_134 rfl (lv_at hl 0 rfl) ?_
      refine th_get S hK hH inG11 t0 km_0 rfl 44 (by decide) gm_1274 rfl rfl dX11_unit_135 (fun v98 hv98 fv98 => ?_)
      obtain ⟨x99, rfl, ix99⟩ := th_V.int hv98
      have kx99a : q 22 ≤ x99.toInt := ix99.1
      have kx99b : x99.toInt ≤ q 22 := ix99.2
      have bx99 := qkm_22 hq
      have ix99 : IV x99 0 7 := iv_w ix99 (qkm_22 hq)
      refine lv_bipush (v := 7) hx hb dX11_unit_138 (by decide) ?_
      refine lv_icmp_ne (tgt := 147) hx hb dX11_unit_140 (by decide) (fun c100 => ?_) (fun c100 => ?_)
      · skip
        have rlc100 : x99.toInt ≠ (7 : Int) := iv_ne c100
        have ir101 : IV x99 0 6 := iv_cutH ix99 (iv_c (by decide) : IV 7 7 7) c100 (by decide)
        have ir101a := ir101.1; have ir101b := ir101.2
        refine lv_aload_n hx hb dX11_unit_147 rfl (lv_at hl 0 rfl) ?_
        refine th_callVp (n := 0) (As := []) S hK hH hS (th_A.sub (by decide)) (m_X11_isGood l D cT T q hT hq a0 t0) gm_1487 gm_1484 gm_1486 gm_49 gm_124 (by decide +kernel) ⟨rfl, rfl, Nat.le_of_ble_eq_true rfl, Nat.le_of_ble_eq_true rfl⟩ t0 km_0 rfl rfl hl.1 rfl (Nat.le_of_ble_eq_true rfl) dX11_unit_148 ⟨Nat.zero_le _, Nat.zero_le _⟩ (fun x102 H locs ix102 ox102 hH hS hF1 => ?_)
        obtain ⟨ox102_0, ox102_1⟩ := ox102
        have ox102_0 : x102.toInt ≠ 0 → q 30 = 0 := ox102_0
        have ox102_1 : x102.toInt = 0 → q 30 ≠ 0 := ox102_1
        have l1x102 := ix102.1; have l2x102 := ix102.2
        refine lv_if_ne (tgt := 156) hx hb dX11_unit_151 (by decide) (fun c103 => ?_) (fun c103 => ?_)
        · skip
          have rlc103 : x102.toInt ≠ (0 : Int) := iv_ne c103
          have ir104 : IV x102 1 1 := iv_cutL ix102 (iv_c (by decide) : IV 0 0 0) c103 (by decide)
          have ir104a := ir104.1; have ir104b := ir104.2
          refine lv_aload_n hx hb dX11_unit_156 rfl (lv_at hl 0 rfl) ?_
          refine th_get S hK hH inG11 t0 km_0 rfl 16 (by decide) gm_1246 rfl rfl dX11_unit_157 (fun v105 hv105 fv105 => ?_)
          obtain ⟨rf106, rfl, trf106⟩ := th_V.ref hv105
          refine lv_aload_n hx hb dX11_unit_160 rfl (lv_at hl 0 rfl) ?_
          refine th_get S hK hH inG11 t0 km_0 rfl 42 (by decide) gm_1272 rfl rfl dX11_unit_161 (fun v107 hv107 fv107 => ?_)
          obtain ⟨x108, rfl, ix108⟩ := th_V.int hv107
          have kx108a : q 13 ≤ x108.toInt := ix108.1
          have kx108b : x108.toInt ≤ q 13 := ix108.2
          have bx108 := qkm_13 hq
          have ix108 : IV x108 0 1 := iv_w ix108 (qkm_13 hq)
          refine lv_dup2_11 hx hb dX11_unit_164 rfl rfl ?_
          refine th_iald S hK hH trf106 km_8 (th_in (hi := 1) ix108 (by decide)) dX11_unit_165 (fun v109 hv109 => ?_)
          obtain ⟨x110, rfl, ix110⟩ := th_bkB hv109 ix108 (by omega)
          have kx110a : q 24 ≤ x110.toInt := ix110.1
          have kx110b : x110.toInt ≤ q 24 := ix110.2
          have bx110 := qkm_24 hq
          have ix110 : IV x110 0 90 := iv_w ix110 (qkm_24 hq)
          refine lv_iload_n hx hb dX11_unit_166 rfl (lv_at hl 1 rfl) ?_
          refine lv_if_eq (tgt := 174) hx hb dX11_unit_167 (by decide) (fun c111 => ?_) (fun c111 => ?_)
          · skip
            have rlc111 : (1 : Int) = (0 : Int) := congrArg Int32.toInt c111
            exfalso
            have z1 := congrArg Int32.toInt c111
            have z2 := ((iv_c (by decide) : IV 1 1 1)).1
            have z3 := ((iv_c (by decide) : IV 1 1 1)).2
            have z4 := ((iv_c (by decide) : IV 0 0 0)).1
            have z5 := ((iv_c (by decide) : IV 0 0 0)).2
            omega
          · skip
            have rlc111 : (1 : Int) ≠ (0 : Int) := iv_ne c111
            refine lv_iconst (v := 0) hx hb dX11_unit_170 (by decide) ?_
            refine lv_goto (tgt := 175) hx hb dX11_unit_171 (by decide) ?_
            refine lv_iadd hx hb dX11_unit_175 ?_
            refine lv_topi (fun x112 ex112 => ?_)
            have ix112 : IV x112 0 90 := by rw [ex112]; exact iv_add ix110 (iv_c (by decide) : IV 0 0 0) (by decide)
            have ux112 : x112.toInt = x110.toInt + (0 : Int) := by rw [ex112]; exact iv_addE (by have z1 := (ix110).1; have z2 := (ix110).2; have z3 := ((iv_c (by decide) : IV 0 0 0)).1; have z4 := ((iv_c (by decide) : IV 0 0 0)).2; omega)
            obtain ⟨n113, en113⟩ : ∃ z : Int, z = Int32.toInt x112 := ⟨_, rfl⟩
            refine mst_8 S hK hH hS ⟨8, by decide, trf106⟩ hT trf106 en113 (qkm_10 hq) ix108 (by omega) dX11_unit_176 (fun q114 H locs eq114 hH hS hq1 => ?_)
            have hqq114 : qkm q114 := by rw [eq114]; exact qum_ok24 hq (iv_z en113 ix112)
            have h0q114 : fr [20, 21, 22, 23, 24, 27, 28, 29, 30, 31, 1000] q q114 := by rw [eq114]; exact fr_up fr_rf (by decide)
            have wq114_10 : q114 10 = q 10 := by rw [eq114]; rfl
            have wq114_13 : q114 13 = q 13 := by rw [eq114]; rfl
            have wq114_20 : q114 20 = q 20 := by rw [eq114]; rfl
            have wq114_21 : q114 21 = q 21 := by rw [eq114]; rfl
            have wq114_22 : q114 22 = q 22 := by rw [eq114]; rfl
            have wq114_23 : q114 23 = q 23 := by rw [eq114]; rfl
            have wq114_24 : q114 24 = n113 := by rw [eq114]; rfl
            have wq114_26 : q114 26 = q 26 := by rw [eq114]; rfl
            have wq114_27 : q114 27 = q 27 := by rw [eq114]; rfl
            have wq114_28 : q114 28 = q 28 := by rw [eq114]; rfl
            have wq114_29 : q114 29 = q 29 := by rw [eq114]; rfl
            have wq114_30 : q114 30 = q 30 := by rw [eq114]; rfl
            have wq114_31 : q114 31 = q 31 := by rw [eq114]; rfl
            have wq114_35 : q114 35 = q 35 := by rw [eq114]; rfl
            have bgq114 : bg q q114 := bg_up bg_rf eq114 (by decide)
            have txq114 : tx q q114 := tx_tr tx_rf (tx_up eq114 (by omega))
            have f115 := fv105.kept (hq1 _ (th_ne t0 trf106 (by decide)))
            refine lv_aload_n hx hb dX11_unit_177 rfl (lv_at hl 0 rfl) ?_
            refine lv_dup hx hb dX11_unit_178 rfl ?_
            refine th_get S hK hH inG11 t0 km_0 rfl 46 (by decide) gm_1276 rfl rfl dX11_unit_179 (fun v116 hv116 fv116 => ?_)
            obtain ⟨x117, rfl, ix117⟩ := th_V.int hv116
            have kx117a : q114 23 ≤ x117.toInt := ix117.1
            have kx117b : x117.toInt ≤ q114 23 := ix117.2
            have bx117 := qkm_23 hqq114
            have ix117 : IV x117 0 30 := iv_w ix117 (qkm_23 hqq114)
            refine lv_iload_n hx hb dX11_unit_182 rfl (lv_at hl 1 rfl) ?_
            refine lv_if_eq (tgt := 190) hx hb dX11_unit_183 (by decide) (fun c118 => ?_) (fun c118 => ?_)
            · skip
              have rlc118 : (1 : Int) = (0 : Int) := congrArg Int32.toInt c118
              exfalso
              have z1 := congrArg Int32.toInt c118
              have z2 := ((iv_c (by decide) : IV 1 1 1)).1
              have z3 := ((iv_c (by decide) : IV 1 1 1)).2
              have z4 := ((iv_c (by decide) : IV 0 0 0)).1
              have z5 := ((iv_c (by decide) : IV 0 0 0)).2
              omega
            · skip
              have rlc118 : (1 : Int) ≠ (0 : Int) := iv_ne c118
              refine lv_iconst (v := 0) hx hb dX11_unit_186 (by decide) ?_
              refine lv_goto (tgt := 191) hx hb dX11_unit_187 (by decide) ?_
              refine lv_iadd hx hb dX11_unit_191 ?_
              refine lv_topi (fun x119 ex119 => ?_)
              have ix119 : IV x119 0 30 := by rw [ex119]; exact iv_add ix117 (iv_c (by decide) : IV 0 0 0) (by decide)
              have ux119 : x119.toInt = x117.toInt + (0 : Int) := by rw [ex119]; exact iv_addE (by have z1 := (ix117).1; have z2 := (ix117).2; have z3 := ((iv_c (by decide) : IV 0 0 0)).1; have z4 := ((iv_c (by decide) : IV 0 0 0)).2; omega)
              obtain ⟨n121, en121⟩ : ∃ z : Int, z = Int32.toInt x119 := ⟨_, rfl⟩
              refine mput_23 S hK hH hS ⟨0, by decide, t0⟩ hT t0 en121 gm_1276 dX11_unit_192 (fun q120 H locs eq120 hH hS hq1 => ?_)
              have hqq120 : qkm q120 := by rw [eq120]; exact qum_ok23 hqq114 (iv_z en121 ix119)
              have h0q120 : fr [20, 21, 22, 23, 24, 27, 28, 29, 30, 31, 1000] q q120 := by rw [eq120]; exact fr_up h0q114 (by decide)
              have wq120_10 : q120 10 = q114 10 := by rw [eq120]; rfl
              have wq120_13 : q120 13 = q114 13 := by rw [eq120]; rfl
              have wq120_20 : q120 20 = q114 20 := by rw [eq120]; rfl
              have wq120_21 : q120 21 = q114 21 := by rw [eq120]; rfl
              have wq120_22 : q120 22 = q114 22 := by rw [eq120]; rfl
              have wq120_23 : q120 23 = n121 := by rw [eq120]; rfl
              have wq120_24 : q120 24 = q114 24 := by rw [eq120]; rfl
              have wq120_26 : q120 26 = q114 26 := by rw [eq120]; rfl
              have wq120_27 : q120 27 = q114 27 := by rw [eq120]; rfl
              have wq120_28 : q120 28 = q114 28 := by rw [eq120]; rfl
              have wq120_29 : q120 29 = q114 29 := by rw [eq120]; rfl
              have wq120_30 : q120 30 = q114 30 := by rw [eq120]; rfl
              have wq120_31 : q120 31 = q114 31 := by rw [eq120]; rfl
              have wq120_35 : q120 35 = q114 35 := by rw [eq120]; rfl
              have bgq120 : bg q q120 := bg_up bgq114 eq120 (by decide)
              have txq120 : tx q q120 := tx_tr txq114 (tx_up eq120 (by omega))
              refine lv_iload hx hb dX11_unit_195 (lv_at hl 3 rfl) ?_
              refine lv_if_ne (tgt := 207) hx hb dX11_unit_197 (by decide) (fun c122 => ?_) (fun c122 => ?_)
              · skip
                have rlc122 : v126_4.toInt ≠ (0 : Int) := iv_ne c122
                have ir123 : IV v126_4 1 122 := iv_cutL iv126_4 (iv_c (by decide) : IV 0 0 0) c122 (by decide)
                have ir123a := ir123.1; have ir123b := ir123.2
                refine lv_iconst (v := 0) hx hb dX11_unit_207 (by decide) ?_
                refine lv_istore (lv' := [(6, .int 0), (0, .ref a0), (2, .int 1), (3, .int v126_3), (4, .int v126_4)]) hx hb dX11_unit_208 hl (by decide) rfl (fun ls hl => ?_)
                refine lv_aload_n hx hb dX11_unit_210 rfl (lv_at hl 1 rfl) ?_
                refine th_callVM (n := 0) (As := []) S hK hH hS (th_A.sub (by decide)) (m_X11_goOn l D cT T q120 hT hqq120 a0 t0 (show q120 28 ≤ q120 26 by omega)) gm_1445 gm_1442 gm_1444 gm_47 gm_124 (by decide +kernel) ⟨rfl, rfl, Nat.le_of_ble_eq_true rfl, Nat.le_of_ble_eq_true rfl⟩ t0 km_0 rfl rfl hl.1 rfl (Nat.le_of_ble_eq_true rfl) dX11_unit_211 ⟨Nat.zero_le _, Nat.zero_le _⟩ (fun wq124 q124 H locs hEq124 hH hS hF1 => ?_)
                obtain ⟨rfl, hqq124, g0q124, pq124_0, pq124_1, pq124_2, pq124_3, pq124_4⟩ := hEq124
                show W p l e (rmk 2 44) s m [.ref a0].toArray below meth c H locs 0 0 (MQ below (th_QM D cT T (fun v q2 => ∃ r : Int32, v = some (.int r) ∧ IV r 0 1 ∧ qkm q2 ∧ fr [20, 21, 22, 23, 24, 27, 28, 29, 30, 31, 1000] q q2 ∧ ((q2 29 = 0 ∧ q2 27 = q2 26 ∧ q2 28 = q2 26) ∨ (1 ≤ q2 29 ∧ q2 27 < q2 28 ∧ q2 28 ≤ q2 26)) ∧ (q2 30 = 0 → NL q2) ∧ (q2 30 = 0 → q2 29 = 3 → q2 31 = 7237492 → q2 27 + 3 ≤ q2 28) ∧ (q 27 ≤ q2 27) ∧ (q2 30 = 0 → 2 * q 27 + q2 21 < 2 * q2 27 + q 21) ∧ (kp q q2 (q 35)) ∧ (q2 30 = 0 → r.toInt ≠ 0 → RS q2 1 ∧ 1 ≤ q2 21) ∧ (q2 30 = 0 → r.toInt = 0 → RS q2 0)) [0, 8, 28, 29, 30, 31]) [.ref a0].toArray s 0 0 (th_A T [0, 8, 28, 29, 30, 31])) (F0 m 214 ls [])
                have pq124_0 : (q124 29 = 0 ∧ q124 27 = q124 26 ∧ q124 28 = q124 26) ∨ (1 ≤ q124 29 ∧ q124 27 < q124 28 ∧ q124 28 ≤ q124 26) := pq124_0
                have pq124_1 : q124 29 = 3 → sg q124 (q124 28) < 97 ∨ 122 < sg q124 (q124 28) := pq124_1
                have pq124_2 : q124 29 = 3 → q124 31 = 7237492 → q124 27 + 3 ≤ q124 28 := pq124_2
                have pq124_3 : q120 28 ≤ q124 27 := pq124_3
                have pq124_4 : q124 29 = 3 → 97 ≤ sg q120 (q124 27) ∧ sg q120 (q124 27) ≤ 122 := pq124_4
                have wq124_10 : q124 10 = q120 10 := g0q124 10 (by decide) (Or.inl (by decide))
                have wq124_13 : q124 13 = q120 13 := g0q124 13 (by decide) (Or.inl (by decide))
                have wq124_20 : q124 20 = q120 20 := g0q124 20 (by decide) (Or.inl (by decide))
                have wq124_21 : q124 21 = q120 21 := g0q124 21 (by decide) (Or.inl (by decide))
                have wq124_22 : q124 22 = q120 22 := g0q124 22 (by decide) (Or.inl (by decide))
                have wq124_23 : q124 23 = q120 23 := g0q124 23 (by decide) (Or.inl (by decide))
                have wq124_24 : q124 24 = q120 24 := g0q124 24 (by decide) (Or.inl (by decide))
                have wq124_26 : q124 26 = q120 26 := g0q124 26 (by decide) (Or.inl (by decide))
                have wq124_30 : q124 30 = q120 30 := g0q124 30 (by decide) (Or.inl (by decide))
                have wq124_35 : q124 35 = q120 35 := g0q124 35 (by decide) (Or.inl (by decide))
                have h0q124 : fr [20, 21, 22, 23, 24, 27, 28, 29, 30, 31, 1000] q q124 := fr_tr h0q120 g0q124 (by decide)
                have bgq124 : bg q q124 := bg_fr bgq120 g0q124 (by decide)
                have nlq124 : q124 30 = 0 → NL q124 := fun _ => pq124_1
                have hbig : bg q q124 := bgq124
                refine lv_iload_n hx hb dX11_unit_214 rfl (lv_at hl 2 rfl) ?_
                refine lv_if_ne (tgt := 222) hx hb dX11_unit_215 (by decide) (fun c125 => ?_) (fun c125 => ?_)
                · skip
                  have rlc125 : (1 : Int) ≠ (0 : Int) := iv_ne c125
                  refine lv_aload_n hx hb dX11_unit_222 rfl (lv_at hl 1 rfl) ?_
                  refine lv_iload_n hx hb dX11_unit_223 rfl (lv_at hl 2 rfl) ?_
                  refine lv_if_eq (tgt := 231) hx hb dX11_unit_224 (by decide) (fun c126 => ?_) (fun c126 => ?_)
                  · skip
                    have rlc126 : (1 : Int) = (0 : Int) := congrArg Int32.toInt c126
                    exfalso
                    have z1 := congrArg Int32.toInt c126
                    have z2 := ((iv_c (by decide) : IV 1 1 1)).1
                    have z3 := ((iv_c (by decide) : IV 1 1 1)).2
                    have z4 := ((iv_c (by decide) : IV 0 0 0)).1
                    have z5 := ((iv_c (by decide) : IV 0 0 0)).2
                    omega
                  · skip
                    have rlc126 : (1 : Int) ≠ (0 : Int) := iv_ne c126
                    refine lv_iconst (v := 3) hx hb dX11_unit_227 (by decide) ?_
                    refine lv_goto (tgt := 233) hx hb dX11_unit_228 (by decide) ?_
                    refine lv_bipush (v := 126) hx hb dX11_unit_233 (by decide) ?_
                    refine th_callVM (n := 2) (As := [.int 3, .int 126]) S hK hH hS (th_A.sub (by decide)) (m_X11_pushE l D cT T q124 hT hqq124 a0 t0 (3) (iv_w (iv_c (by decide) : IV 3 3 3) (by decide)) (126) (iv_top _) (show q124 21 ≤ 60 by omega)) gm_1555 gm_1552 gm_1554 gm_66 gm_124 (by decide +kernel) ⟨rfl, rfl, Nat.le_of_ble_eq_true rfl, Nat.le_of_ble_eq_true rfl⟩ t0 km_0 rfl rfl hl.1 rfl (Nat.le_of_ble_eq_true rfl) dX11_unit_235 ⟨Nat.zero_le _, Nat.zero_le _⟩ (fun wq127 q127 H locs hEq127 hH hS hF1 => ?_)
                    obtain ⟨rfl, hqq127, g0q127, pq127_0, pq127_1, pq127_2⟩ := hEq127
                    show W p l e (rmk 2 44) s m [.ref a0].toArray below meth c H locs 0 0 (MQ below (th_QM D cT T (fun v q2 => ∃ r : Int32, v = some (.int r) ∧ IV r 0 1 ∧ qkm q2 ∧ fr [20, 21, 22, 23, 24, 27, 28, 29, 30, 31, 1000] q q2 ∧ ((q2 29 = 0 ∧ q2 27 = q2 26 ∧ q2 28 = q2 26) ∨ (1 ≤ q2 29 ∧ q2 27 < q2 28 ∧ q2 28 ≤ q2 26)) ∧ (q2 30 = 0 → NL q2) ∧ (q2 30 = 0 → q2 29 = 3 → q2 31 = 7237492 → q2 27 + 3 ≤ q2 28) ∧ (q 27 ≤ q2 27) ∧ (q2 30 = 0 → 2 * q 27 + q2 21 < 2 * q2 27 + q 21) ∧ (kp q q2 (q 35)) ∧ (q2 30 = 0 → r.toInt ≠ 0 → RS q2 1 ∧ 1 ≤ q2 21) ∧ (q2 30 = 0 → r.toInt = 0 → RS q2 0)) [0, 8, 28, 29, 30, 31]) [.ref a0].toArray s 0 0 (th_A T [0, 8, 28, 29, 30, 31])) (F0 m 238 ls [])
                    have pq127_0 : q127 = pushq q124 (3 : Int) (126 : Int) := pq127_0
                    have pq127_1 : q127 21 = q124 21 + 1 := pq127_1
                    have pq127_2 : tx q124 q127 := pq127_2
                    have wq127_10 : q127 10 = q124 10 := g0q127 10 (by decide) (Or.inl (by decide))
                    have wq127_13 : q127 13 = q124 13 := g0q127 13 (by decide) (Or.inl (by decide))
                    have wq127_20 : q127 20 = q124 20 := g0q127 20 (by decide) (Or.inl (by decide))
                    have wq127_22 : q127 22 = q124 22 := g0q127 22 (by decide) (Or.inl (by decide))
                    have wq127_23 : q127 23 = q124 23 := g0q127 23 (by decide) (Or.inl (by decide))
                    have wq127_24 : q127 24 = q124 24 := g0q127 24 (by decide) (Or.inl (by decide))
                    have wq127_26 : q127 26 = q124 26 := g0q127 26 (by decide) (Or.inl (by decide))
                    have wq127_27 : q127 27 = q124 27 := g0q127 27 (by decide) (Or.inl (by decide))
                    have wq127_28 : q127 28 = q124 28 := g0q127 28 (by decide) (Or.inl (by decide))
                    have wq127_29 : q127 29 = q124 29 := g0q127 29 (by decide) (Or.inl (by decide))
                    have wq127_30 : q127 30 = q124 30 := g0q127 30 (by decide) (Or.inl (by decide))
                    have wq127_31 : q127 31 = q124 31 := g0q127 31 (by decide) (Or.inl (by decide))
                    have wq127_35 : q127 35 = q124 35 := g0q127 35 (by decide) (Or.inl (by decide))
                    have h0q127 : fr [20, 21, 22, 23, 24, 27, 28, 29, 30, 31, 1000] q q127 := fr_tr h0q124 g0q127 (by decide)
                    have txq127 : tx q124 q127 := tx_tr tx_rf pq127_2
                    refine lv_aload_n hx hb dX11_unit_238 rfl (lv_at hl 1 rfl) ?_
                    refine lv_dup hx hb dX11_unit_239 rfl ?_
                    refine th_get S hK hH inG11 t0 km_0 rfl 44 (by decide) gm_1274 rfl rfl dX11_unit_240 (fun v128 hv128 fv128 => ?_)
                    obtain ⟨x129, rfl, ix129⟩ := th_V.int hv128
                    have kx129a : q127 22 ≤ x129.toInt := ix129.1
                    have kx129b : x129.toInt ≤ q127 22 := ix129.2
                    have bx129 := qkm_22 hqq127
                    have ix129 : IV x129 0 7 := iv_w ix129 (qkm_22 hqq127)
                    refine lv_iconst (v := 1) hx hb dX11_unit_243 (by decide) ?_
                    refine lv_iadd hx hb dX11_unit_244 ?_
                    refine lv_topi (fun x130 ex130 => ?_)
                    have ix130 : IV x130 1 8 := by rw [ex130]; exact iv_add ix129 (iv_c (by decide) : IV 1 1 1) (by decide)
                    have ux130 : x130.toInt = x129.toInt + (1 : Int) := by rw [ex130]; exact iv_addE (by have z1 := (ix129).1; have z2 := (ix129).2; have z3 := ((iv_c (by decide) : IV 1 1 1)).1; have z4 := ((iv_c (by decide) : IV 1 1 1)).2; omega)
                    obtain ⟨n132, en132⟩ : ∃ z : Int, z = Int32.toInt x130 := ⟨_, rfl⟩
                    refine mput_22 S hK hH hS ⟨0, by decide, t0⟩ hT t0 en132 gm_1274 dX11_unit_245 (fun q131 H locs eq131 hH hS hq1 => ?_)
                    have hqq131 : qkm q131 := by rw [eq131]; exact qum_ok22 hqq127 (by have z1 := (ix130).1; have z2 := (ix130).2; exact ⟨by omega, by omega⟩)
                    have h0q131 : fr [20, 21, 22, 23, 24, 27, 28, 29, 30, 31, 1000] q q131 := by rw [eq131]; exact fr_up h0q127 (by decide)
                    have wq131_10 : q131 10 = q127 10 := by rw [eq131]; rfl
                    have wq131_13 : q131 13 = q127 13 := by rw [eq131]; rfl
                    have wq131_20 : q131 20 = q127 20 := by rw [eq131]; rfl
                    have wq131_21 : q131 21 = q127 21 := by rw [eq131]; rfl
                    have wq131_22 : q131 22 = n132 := by rw [eq131]; rfl
                    have wq131_23 : q131 23 = q127 23 := by rw [eq131]; rfl
                    have wq131_24 : q131 24 = q127 24 := by rw [eq131]; rfl
                    have wq131_26 : q131 26 = q127 26 := by rw [eq131]; rfl
                    have wq131_27 : q131 27 = q127 27 := by rw [eq131]; rfl
                    have wq131_28 : q131 28 = q127 28 := by rw [eq131]; rfl
                    have wq131_29 : q131 29 = q127 29 := by rw [eq131]; rfl
                    have wq131_30 : q131 30 = q127 30 := by rw [eq131]; rfl
                    have wq131_31 : q131 31 = q127 31 := by rw [eq131]; rfl
                    have wq131_35 : q131 35 = q127 35 := by rw [eq131]; rfl
                    have bgq131 : bg q127 q131 := bg_up bg_rf eq131 (by decide)
                    have txq131 : tx q124 q131 := tx_tr txq127 (tx_up eq131 (by omega))
                    have hRS : RS q131 1 := RS_push (u := 0) hp6 (by omega) hbig (by omega) (by omega) (by omega) (by omega) (by omega) (by omega) (by omega) (by omega) (by decide) (by omega) (by omega) (by omega) (by omega) (Or.inl ⟨rfl, by omega, by omega, not_adv (hp2 hp4) (by omega) (tx_bg bgq120) (by omega) pq124_4 (by omega)⟩) (by rw [eq131, pq127_0]; congr 1; omega)
                    have hkp : kp q q131 (q 35) := kp_tr (kp_bg hbig) (kp_tr (kp_push pq127_0 (by omega) (by omega)) (kp_bg (bg_up bg_rf eq131 (by decide))))
                    refine lv_iconst (v := 1) hx hb dX11_unit_248 (by decide) ?_
                    exact th_zretM S hK hH hS hr hlocks (iv_w (iv_c (by decide) : IV 1 1 1) (by decide)) ⟨_, rfl, (iv_w (iv_c (by decide) : IV 1 1 1) (by decide)), hqq131, h0q131, (show (q131 29 = 0 ∧ q131 27 = q131 26 ∧ q131 28 = q131 26) ∨ (1 ≤ q131 29 ∧ q131 27 < q131 28 ∧ q131 28 ≤ q131 26) by omega), (show q131 30 = 0 → NL q131 by exact (fun z => NL_tx (nlq124 (by omega)) txq131 (by omega) (by omega) (by omega))), (show q131 30 = 0 → q131 29 = 3 → q131 31 = 7237492 → q131 27 + 3 ≤ q131 28 by omega), (show q 27 ≤ q131 27 by omega), (show q131 30 = 0 → 2 * q 27 + q131 21 < 2 * q131 27 + q 21 by omega), (show kp q q131 (q 35) by exact hkp), (show q131 30 = 0 → (1 : Int) ≠ 0 → RS q131 1 ∧ 1 ≤ q131 21 by first | (intro z; exact absurd z (by omega)) | (intro _ z; exact absurd z (by omega)) | exact fun _ _ => ⟨hRS, by omega⟩), (show q131 30 = 0 → (1 : Int) = 0 → RS q131 0 by first | (intro z; exact absurd z (by omega)) | (intro _ z; exact absurd z (by omega)) | exact fun _ _ => hRS)⟩ dX11_unit_249
                · skip
                  have rlc125 : (1 : Int) = (0 : Int) := congrArg Int32.toInt c125
                  exfalso
                  have z1 := congrArg Int32.toInt c125
                  have z2 := ((iv_c (by decide) : IV 1 1 1)).1
                  have z3 := ((iv_c (by decide) : IV 1 1 1)).2
                  have z4 := ((iv_c (by decide) : IV 0 0 0)).1
                  have z5 := ((iv_c (by decide) : IV 0 0 0)).2
                  omega
              · skip
                have rlc122 : v126_4.toInt = (0 : Int) := congrArg Int32.toInt c122
                have ir133 : IV v126_4 0 0 := iv_eL c122 (iv_c (by decide) : IV 0 0 0)
                have ir133a := ir133.1; have ir133b := ir133.2
                refine lv_aload_n hx hb dX11_unit_200 rfl (lv_at hl 0 rfl) ?_
                refine th_get S hK hH inG11 t0 km_0 rfl 9 (by decide) gm_1239 rfl rfl dX11_unit_201 (fun v134 hv134 fv134 => ?_)
                obtain ⟨x135, rfl, ix135⟩ := th_V.int hv134
                refine lv_goto (tgt := 208) hx hb dX11_unit_204 (by decide) ?_
                refine lv_istore (lv' := [(6, .int x135), (0, .ref a0), (2, .int 1), (3, .int v126_3), (4, .int v126_4)]) hx hb dX11_unit_208 hl (by decide) rfl (fun ls hl => ?_)
                refine lv_aload_n hx hb dX11_unit_210 rfl (lv_at hl 1 rfl) ?_
                refine th_callVM (n := 0) (As := []) S hK hH hS (th_A.sub (by decide)) (m_X11_goOn l D cT T q120 hT hqq120 a0 t0 (show q120 28 ≤ q120 26 by omega)) gm_1445 gm_1442 gm_1444 gm_47 gm_124 (by decide +kernel) ⟨rfl, rfl, Nat.le_of_ble_eq_true rfl, Nat.le_of_ble_eq_true rfl⟩ t0 km_0 rfl rfl hl.1 rfl (Nat.le_of_ble_eq_true rfl) dX11_unit_211 ⟨Nat.zero_le _, Nat.zero_le _⟩ (fun wq136 q136 H locs hEq136 hH hS hF1 => ?_)
                obtain ⟨rfl, hqq136, g0q136, pq136_0, pq136_1, pq136_2, pq136_3, pq136_4⟩ := hEq136
                show W p l e (rmk 2 44) s m [.ref a0].toArray below meth c H locs 0 0 (MQ below (th_QM D cT T (fun v q2 => ∃ r : Int32, v = some (.int r) ∧ IV r 0 1 ∧ qkm q2 ∧ fr [20, 21, 22, 23, 24, 27, 28, 29, 30, 31, 1000] q q2 ∧ ((q2 29 = 0 ∧ q2 27 = q2 26 ∧ q2 28 = q2 26) ∨ (1 ≤ q2 29 ∧ q2 27 < q2 28 ∧ q2 28 ≤ q2 26)) ∧ (q2 30 = 0 → NL q2) ∧ (q2 30 = 0 → q2 29 = 3 → q2 31 = 7237492 → q2 27 + 3 ≤ q2 28) ∧ (q 27 ≤ q2 27) ∧ (q2 30 = 0 → 2 * q 27 + q2 21 < 2 * q2 27 + q 21) ∧ (kp q q2 (q 35)) ∧ (q2 30 = 0 → r.toInt ≠ 0 → RS q2 1 ∧ 1 ≤ q2 21) ∧ (q2 30 = 0 → r.toInt = 0 → RS q2 0)) [0, 8, 28, 29, 30, 31]) [.ref a0].toArray s 0 0 (th_A T [0, 8, 28, 29, 30, 31])) (F0 m 214 ls [])
                have pq136_0 : (q136 29 = 0 ∧ q136 27 = q136 26 ∧ q136 28 = q136 26) ∨ (1 ≤ q136 29 ∧ q136 27 < q136 28 ∧ q136 28 ≤ q136 26) := pq136_0
                have pq136_1 : q136 29 = 3 → sg q136 (q136 28) < 97 ∨ 122 < sg q136 (q136 28) := pq136_1
                have pq136_2 : q136 29 = 3 → q136 31 = 7237492 → q136 27 + 3 ≤ q136 28 := pq136_2
                have pq136_3 : q120 28 ≤ q136 27 := pq136_3
                have pq136_4 : q136 29 = 3 → 97 ≤ sg q120 (q136 27) ∧ sg q120 (q136 27) ≤ 122 := pq136_4
                have wq136_10 : q136 10 = q120 10 := g0q136 10 (by decide) (Or.inl (by decide))
                have wq136_13 : q136 13 = q120 13 := g0q136 13 (by decide) (Or.inl (by decide))
                have wq136_20 : q136 20 = q120 20 := g0q136 20 (by decide) (Or.inl (by decide))
                have wq136_21 : q136 21 = q120 21 := g0q136 21 (by decide) (Or.inl (by decide))
                have wq136_22 : q136 22 = q120 22 := g0q136 22 (by decide) (Or.inl (by decide))
                have wq136_23 : q136 23 = q120 23 := g0q136 23 (by decide) (Or.inl (by decide))
                have wq136_24 : q136 24 = q120 24 := g0q136 24 (by decide) (Or.inl (by decide))
                have wq136_26 : q136 26 = q120 26 := g0q136 26 (by decide) (Or.inl (by decide))
                have wq136_30 : q136 30 = q120 30 := g0q136 30 (by decide) (Or.inl (by decide))
                have wq136_35 : q136 35 = q120 35 := g0q136 35 (by decide) (Or.inl (by decide))
                have h0q136 : fr [20, 21, 22, 23, 24, 27, 28, 29, 30, 31, 1000] q q136 := fr_tr h0q120 g0q136 (by decide)
                have bgq136 : bg q q136 := bg_fr bgq120 g0q136 (by decide)
                have nlq136 : q136 30 = 0 → NL q136 := fun _ => pq136_1
                have hbig : bg q q136 := bgq136
                refine lv_iload_n hx hb dX11_unit_214 rfl (lv_at hl 2 rfl) ?_
                refine lv_if_ne (tgt := 222) hx hb dX11_unit_215 (by decide) (fun c137 => ?_) (fun c137 => ?_)
                · skip
                  have rlc137 : (1 : Int) ≠ (0 : Int) := iv_ne c137
                  refine lv_aload_n hx hb dX11_unit_222 rfl (lv_at hl 1 rfl) ?_
                  refine lv_iload_n hx hb dX11_unit_223 rfl (lv_at hl 2 rfl) ?_
                  refine lv_if_eq (tgt := 231) hx hb dX11_unit_224 (by decide) (fun c138 => ?_) (fun c138 => ?_)
                  · skip
                    have rlc138 : (1 : Int) = (0 : Int) := congrArg Int32.toInt c138
                    exfalso
                    have z1 := congrArg Int32.toInt c138
                    have z2 := ((iv_c (by decide) : IV 1 1 1)).1
                    have z3 := ((iv_c (by decide) : IV 1 1 1)).2
                    have z4 := ((iv_c (by decide) : IV 0 0 0)).1
                    have z5 := ((iv_c (by decide) : IV 0 0 0)).2
                    omega
                  · skip
                    have rlc138 : (1 : Int) ≠ (0 : Int) := iv_ne c138
                    refine lv_iconst (v := 3) hx hb dX11_unit_227 (by decide) ?_
                    refine lv_goto (tgt := 233) hx hb dX11_unit_228 (by decide) ?_
                    refine lv_bipush (v := 126) hx hb dX11_unit_233 (by decide) ?_
                    refine th_callVM (n := 2) (As := [.int 3, .int 126]) S hK hH hS (th_A.sub (by decide)) (m_X11_pushE l D cT T q136 hT hqq136 a0 t0 (3) (iv_w (iv_c (by decide) : IV 3 3 3) (by decide)) (126) (iv_top _) (show q136 21 ≤ 60 by omega)) gm_1555 gm_1552 gm_1554 gm_66 gm_124 (by decide +kernel) ⟨rfl, rfl, Nat.le_of_ble_eq_true rfl, Nat.le_of_ble_eq_true rfl⟩ t0 km_0 rfl rfl hl.1 rfl (Nat.le_of_ble_eq_true rfl) dX11_unit_235 ⟨Nat.zero_le _, Nat.zero_le _⟩ (fun wq139 q139 H locs hEq139 hH hS hF1 => ?_)
                    obtain ⟨rfl, hqq139, g0q139, pq139_0, pq139_1, pq139_2⟩ := hEq139
                    show W p l e (rmk 2 44) s m [.ref a0].toArray below meth c H locs 0 0 (MQ below (th_QM D cT T (fun v q2 => ∃ r : Int32, v = some (.int r) ∧ IV r 0 1 ∧ qkm q2 ∧ fr [20, 21, 22, 23, 24, 27, 28, 29, 30, 31, 1000] q q2 ∧ ((q2 29 = 0 ∧ q2 27 = q2 26 ∧ q2 28 = q2 26) ∨ (1 ≤ q2 29 ∧ q2 27 < q2 28 ∧ q2 28 ≤ q2 26)) ∧ (q2 30 = 0 → NL q2) ∧ (q2 30 = 0 → q2 29 = 3 → q2 31 = 7237492 → q2 27 + 3 ≤ q2 28) ∧ (q 27 ≤ q2 27) ∧ (q2 30 = 0 → 2 * q 27 + q2 21 < 2 * q2 27 + q 21) ∧ (kp q q2 (q 35)) ∧ (q2 30 = 0 → r.toInt ≠ 0 → RS q2 1 ∧ 1 ≤ q2 21) ∧ (q2 30 = 0 → r.toInt = 0 → RS q2 0)) [0, 8, 28, 29, 30, 31]) [.ref a0].toArray s 0 0 (th_A T [0, 8, 28, 29, 30, 31])) (F0 m 238 ls [])
                    have pq139_0 : q139 = pushq q136 (3 : Int) (126 : Int) := pq139_0
                    have pq139_1 : q139 21 = q136 21 + 1 := pq139_1
                    have pq139_2 : tx q136 q139 := pq139_2
                    have wq139_10 : q139 10 = q136 10 := g0q139 10 (by decide) (Or.inl (by decide))
                    have wq139_13 : q139 13 = q136 13 := g0q139 13 (by decide) (Or.inl (by decide))
                    have wq139_20 : q139 20 = q136 20 := g0q139 20 (by decide) (Or.inl (by decide))
                    have wq139_22 : q139 22 = q136 22 := g0q139 22 (by decide) (Or.inl (by decide))
                    have wq139_23 : q139 23 = q136 23 := g0q139 23 (by decide) (Or.inl (by decide))
                    have wq139_24 : q139 24 = q136 24 := g0q139 24 (by decide) (Or.inl (by decide))
                    have wq139_26 : q139 26 = q136 26 := g0q139 26 (by decide) (Or.inl (by decide))
                    have wq139_27 : q139 27 = q136 27 := g0q139 27 (by decide) (Or.inl (by decide))
                    have wq139_28 : q139 28 = q136 28 := g0q139 28 (by decide) (Or.inl (by decide))
                    have wq139_29 : q139 29 = q136 29 := g0q139 29 (by decide) (Or.inl (by decide))
                    have wq139_30 : q139 30 = q136 30 := g0q139 30 (by decide) (Or.inl (by decide))
                    have wq139_31 : q139 31 = q136 31 := g0q139 31 (by decide) (Or.inl (by decide))
                    have wq139_35 : q139 35 = q136 35 := g0q139 35 (by decide) (Or.inl (by decide))
                    have h0q139 : fr [20, 21, 22, 23, 24, 27, 28, 29, 30, 31, 1000] q q139 := fr_tr h0q136 g0q139 (by decide)
                    have txq139 : tx q136 q139 := tx_tr tx_rf pq139_2
                    refine lv_aload_n hx hb dX11_unit_238 rfl (lv_at hl 1 rfl) ?_
                    refine lv_dup hx hb dX11_unit_239 rfl ?_
                    refine th_get S hK hH inG11 t0 km_0 rfl 44 (by decide) gm_1274 rfl rfl dX11_unit_240 (fun v140 hv140 fv140 => ?_)
                    obtain ⟨x141, rfl, ix141⟩ := th_V.int hv140
                    have kx141a : q139 22 ≤ x141.toInt := ix141.1
                    have kx141b : x141.toInt ≤ q139 22 := ix141.2
                    have bx141 := qkm_22 hqq139
                    have ix141 : IV x141 0 7 := iv_w ix141 (qkm_22 hqq139)
                    refine lv_iconst (v := 1) hx hb dX11_unit_243 (by decide) ?_
                    refine lv_iadd hx hb dX11_unit_244 ?_
                    refine lv_topi (fun x142 ex142 => ?_)
                    have ix142 : IV x142 1 8 := by rw [ex142]; exact iv_add ix141 (iv_c (by decide) : IV 1 1 1) (by decide)
                    have ux142 : x142.toInt = x141.toInt + (1 : Int) := by rw [ex142]; exact iv_addE (by have z1 := (ix141).1; have z2 := (ix141).2; have z3 := ((iv_c (by decide) : IV 1 1 1)).1; have z4 := ((iv_c (by decide) : IV 1 1 1)).2; omega)
                    obtain ⟨n144, en144⟩ : ∃ z : Int, z = Int32.toInt x142 := ⟨_, rfl⟩
                    refine mput_22 S hK hH hS ⟨0, by decide, t0⟩ hT t0 en144 gm_1274 dX11_unit_245 (fun q143 H locs eq143 hH hS hq1 => ?_)
                    have hqq143 : qkm q143 := by rw [eq143]; exact qum_ok22 hqq139 (by have z1 := (ix142).1; have z2 := (ix142).2; exact ⟨by omega, by omega⟩)
                    have h0q143 : fr [20, 21, 22, 23, 24, 27, 28, 29, 30, 31, 1000] q q143 := by rw [eq143]; exact fr_up h0q139 (by decide)
                    have wq143_10 : q143 10 = q139 10 := by rw [eq143]; rfl
                    have wq143_13 : q143 13 = q139 13 := by rw [eq143]; rfl
                    have wq143_20 : q143 20 = q139 20 := by rw [eq143]; rfl
                    have wq143_21 : q143 21 = q139 21 := by rw [eq143]; rfl
                    have wq143_22 : q143 22 = n144 := by rw [eq143]; rfl
                    have wq143_23 : q143 23 = q139 23 := by rw [eq143]; rfl
                    have wq143_24 : q143 24 = q139 24 := by rw [eq143]; rfl
                    have wq143_26 : q143 26 = q139 26 := by rw [eq143]; rfl
                    have wq143_27 : q143 27 = q139 27 := by rw [eq143]; rfl
                    have wq143_28 : q143 28 = q139 28 := by rw [eq143]; rfl
                    have wq143_29 : q143 29 = q139 29 := by rw [eq143]; rfl
                    have wq143_30 : q143 30 = q139 30 := by rw [eq143]; rfl
                    have wq143_31 : q143 31 = q139 31 := by rw [eq143]; rfl
                    have wq143_35 : q143 35 = q139 35 := by rw [eq143]; rfl
                    have bgq143 : bg q139 q143 := bg_up bg_rf eq143 (by decide)
                    have txq143 : tx q136 q143 := tx_tr txq139 (tx_up eq143 (by omega))
                    have hRS : RS q143 1 := RS_push (u := 0) hp6 (by omega) hbig (by omega) (by omega) (by omega) (by omega) (by omega) (by omega) (by omega) (by omega) (by decide) (by omega) (by omega) (by omega) (by omega) (Or.inl ⟨rfl, by omega, by omega, not_adv (hp2 hp4) (by omega) (tx_bg bgq120) (by omega) pq136_4 (by omega)⟩) (by rw [eq143, pq139_0]; congr 1; omega)
                    have hkp : kp q q143 (q 35) := kp_tr (kp_bg hbig) (kp_tr (kp_push pq139_0 (by omega) (by omega)) (kp_bg (bg_up bg_rf eq143 (by decide))))
                    refine lv_iconst (v := 1) hx hb dX11_unit_248 (by decide) ?_
                    exact th_zretM S hK hH hS hr hlocks (iv_w (iv_c (by decide) : IV 1 1 1) (by decide)) ⟨_, rfl, (iv_w (iv_c (by decide) : IV 1 1 1) (by decide)), hqq143, h0q143, (show (q143 29 = 0 ∧ q143 27 = q143 26 ∧ q143 28 = q143 26) ∨ (1 ≤ q143 29 ∧ q143 27 < q143 28 ∧ q143 28 ≤ q143 26) by omega), (show q143 30 = 0 → NL q143 by exact (fun z => NL_tx (nlq136 (by omega)) txq143 (by omega) (by omega) (by omega))), (show q143 30 = 0 → q143 29 = 3 → q143 31 = 7237492 → q143 27 + 3 ≤ q143 28 by omega), (show q 27 ≤ q143 27 by omega), (show q143 30 = 0 → 2 * q 27 + q143 21 < 2 * q143 27 + q 21 by omega), (show kp q q143 (q 35) by exact hkp), (show q143 30 = 0 → (1 : Int) ≠ 0 → RS q143 1 ∧ 1 ≤ q143 21 by first | (intro z; exact absurd z (by omega)) | (intro _ z; exact absurd z (by omega)) | exact fun _ _ => ⟨hRS, by omega⟩), (show q143 30 = 0 → (1 : Int) = 0 → RS q143 0 by first | (intro z; exact absurd z (by omega)) | (intro _ z; exact absurd z (by omega)) | exact fun _ _ => hRS)⟩ dX11_unit_249
                · skip
                  have rlc137 : (1 : Int) = (0 : Int) := congrArg Int32.toInt c137
                  exfalso
                  have z1 := congrArg Int32.toInt c137
                  have z2 := ((iv_c (by decide) : IV 1 1 1)).1
                  have z3 := ((iv_c (by decide) : IV 1 1 1)).2
                  have z4 := ((iv_c (by decide) : IV 0 0 0)).1
                  have z5 := ((iv_c (by decide) : IV 0 0 0)).2
                  omega
        · skip
          have rlc103 : x102.toInt = (0 : Int) := congrArg Int32.toInt c103
          have ir145 : IV x102 0 0 := iv_eL c103 (iv_c (by decide) : IV 0 0 0)
          have ir145a := ir145.1; have ir145b := ir145.2
          have hkp : kp q q (q 35) := kp_bg bg_rf
          refine lv_iconst (v := 1) hx hb dX11_unit_154 (by decide) ?_
          exact th_zretM S hK hH hS hr hlocks (iv_w (iv_c (by decide) : IV 1 1 1) (by decide)) ⟨_, rfl, (iv_w (iv_c (by decide) : IV 1 1 1) (by decide)), hq, fr_rf, (show (q 29 = 0 ∧ q 27 = q 26 ∧ q 28 = q 26) ∨ (1 ≤ q 29 ∧ q 27 < q 28 ∧ q 28 ≤ q 26) by omega), (show q 30 = 0 → NL q by exact hp2), (show q 30 = 0 → q 29 = 3 → q 31 = 7237492 → q 27 + 3 ≤ q 28 by omega), (show q 27 ≤ q 27 by omega), (show q 30 = 0 → 2 * q 27 + q 21 < 2 * q 27 + q 21 by omega), (show kp q q (q 35) by exact hkp), (show q 30 = 0 → (1 : Int) ≠ 0 → RS q 1 ∧ 1 ≤ q 21 by first | (intro z; exact absurd z (by omega)) | (intro _ z; exact absurd z (by omega)) | exact fun _ _ => ⟨hRS, by omega⟩), (show q 30 = 0 → (1 : Int) = 0 → RS q 0 by first | (intro z; exact absurd z (by omega)) | (intro _ z; exact absurd z (by omega)) | exact fun _ _ => hRS)⟩ dX11_unit_155
      · skip
        have rlc100 : x99.toInt = (7 : Int) := congrArg Int32.toInt c100
        have ir146 : IV x99 7 7 := ⟨(iv_eL c100 (iv_c (by decide) : IV 7 7 7)).1, ix99.2⟩
        have ir146a := ir146.1; have ir146b := ir146.2
        refine lv_aload_n hx hb dX11_unit_143 rfl (lv_at hl 0 rfl) ?_
        refine th_callVM (n := 0) (As := []) S hK hH hS (th_A.sub (by decide)) (m_X11_misplaced l D cT T q hT hq a0 t0) gm_1503 gm_1500 gm_1502 gm_53 gm_124 (by decide +kernel) ⟨rfl, rfl, Nat.le_of_ble_eq_true rfl, Nat.le_of_ble_eq_true rfl⟩ t0 km_0 rfl rfl hl.1 rfl (Nat.le_of_ble_eq_true rfl) dX11_unit_144 ⟨Nat.zero_le _, Nat.zero_le _⟩ (fun wq147 q147 H locs hEq147 hH hS hF1 => ?_)
        obtain ⟨rfl, hqq147, g0q147, pq147_0⟩ := hEq147
        show W p l e (rmk 2 44) s m [.ref a0].toArray below meth c H locs 0 0 (MQ below (th_QM D cT T (fun v q2 => ∃ r : Int32, v = some (.int r) ∧ IV r 0 1 ∧ qkm q2 ∧ fr [20, 21, 22, 23, 24, 27, 28, 29, 30, 31, 1000] q q2 ∧ ((q2 29 = 0 ∧ q2 27 = q2 26 ∧ q2 28 = q2 26) ∨ (1 ≤ q2 29 ∧ q2 27 < q2 28 ∧ q2 28 ≤ q2 26)) ∧ (q2 30 = 0 → NL q2) ∧ (q2 30 = 0 → q2 29 = 3 → q2 31 = 7237492 → q2 27 + 3 ≤ q2 28) ∧ (q 27 ≤ q2 27) ∧ (q2 30 = 0 → 2 * q 27 + q2 21 < 2 * q2 27 + q 21) ∧ (kp q q2 (q 35)) ∧ (q2 30 = 0 → r.toInt ≠ 0 → RS q2 1 ∧ 1 ≤ q2 21) ∧ (q2 30 = 0 → r.toInt = 0 → RS q2 0)) [0, 8, 28, 29, 30, 31]) [.ref a0].toArray s 0 0 (th_A T [0, 8, 28, 29, 30, 31])) (F0 m 147 ls [])
        have pq147_0 : q147 30 ≠ 0 := pq147_0
        have wq147_10 : q147 10 = q 10 := g0q147 10 (by decide) (Or.inl (by decide))
        have wq147_13 : q147 13 = q 13 := g0q147 13 (by decide) (Or.inl (by decide))
        have wq147_20 : q147 20 = q 20 := g0q147 20 (by decide) (Or.inl (by decide))
        have wq147_21 : q147 21 = q 21 := g0q147 21 (by decide) (Or.inl (by decide))
        have wq147_22 : q147 22 = q 22 := g0q147 22 (by decide) (Or.inl (by decide))
        have wq147_23 : q147 23 = q 23 := g0q147 23 (by decide) (Or.inl (by decide))
        have wq147_24 : q147 24 = q 24 := g0q147 24 (by decide) (Or.inl (by decide))
        have wq147_26 : q147 26 = q 26 := g0q147 26 (by decide) (Or.inl (by decide))
        have wq147_27 : q147 27 = q 27 := g0q147 27 (by decide) (Or.inl (by decide))
        have wq147_28 : q147 28 = q 28 := g0q147 28 (by decide) (Or.inl (by decide))
        have wq147_29 : q147 29 = q 29 := g0q147 29 (by decide) (Or.inl (by decide))
        have wq147_31 : q147 31 = q 31 := g0q147 31 (by decide) (Or.inl (by decide))
        have wq147_35 : q147 35 = q 35 := g0q147 35 (by decide) (Or.inl (by decide))
        have h0q147 : fr [20, 21, 22, 23, 24, 27, 28, 29, 30, 31, 1000] q q147 := fr_tr fr_rf g0q147 (by decide)
        have bgq147 : bg q q147 := bg_fr bg_rf g0q147 (by decide)
        have txq147 : tx q q147 := tx_tr tx_rf (tx_bg (bg_fr bg_rf g0q147 (by decide)))
        refine lv_aload_n hx hb dX11_unit_147 rfl (lv_at hl 0 rfl) ?_
        refine th_callVp (n := 0) (As := []) S hK hH hS (th_A.sub (by decide)) (m_X11_isGood l D cT T q147 hT hqq147 a0 t0) gm_1487 gm_1484 gm_1486 gm_49 gm_124 (by decide +kernel) ⟨rfl, rfl, Nat.le_of_ble_eq_true rfl, Nat.le_of_ble_eq_true rfl⟩ t0 km_0 rfl rfl hl.1 rfl (Nat.le_of_ble_eq_true rfl) dX11_unit_148 ⟨Nat.zero_le _, Nat.zero_le _⟩ (fun x148 H locs ix148 ox148 hH hS hF1 => ?_)
        obtain ⟨ox148_0, ox148_1⟩ := ox148
        have ox148_0 : x148.toInt ≠ 0 → q147 30 = 0 := ox148_0
        have ox148_1 : x148.toInt = 0 → q147 30 ≠ 0 := ox148_1
        have l1x148 := ix148.1; have l2x148 := ix148.2
        refine lv_if_ne (tgt := 156) hx hb dX11_unit_151 (by decide) (fun c149 => ?_) (fun c149 => ?_)
        · skip
          have rlc149 : x148.toInt ≠ (0 : Int) := iv_ne c149
          have ir150 : IV x148 1 1 := iv_cutL ix148 (iv_c (by decide) : IV 0 0 0) c149 (by decide)
          have ir150a := ir150.1; have ir150b := ir150.2
          exfalso; omega
        · skip
          have rlc149 : x148.toInt = (0 : Int) := congrArg Int32.toInt c149
          have ir151 : IV x148 0 0 := iv_eL c149 (iv_c (by decide) : IV 0 0 0)
          have ir151a := ir151.1; have ir151b := ir151.2
          have hkp : kp q q147 (q 35) := kp_bg bgq147
          refine lv_iconst (v := 1) hx hb dX11_unit_154 (by decide) ?_
          exact th_zretM S hK hH hS hr hlocks (iv_w (iv_c (by decide) : IV 1 1 1) (by decide)) ⟨_, rfl, (iv_w (iv_c (by decide) : IV 1 1 1) (by decide)), hqq147, h0q147, (show (q147 29 = 0 ∧ q147 27 = q147 26 ∧ q147 28 = q147 26) ∨ (1 ≤ q147 29 ∧ q147 27 < q147 28 ∧ q147 28 ≤ q147 26) by omega), (show q147 30 = 0 → NL q147 by exact (fun z => NL_tx (hp2 (by omega)) txq147 (by omega) (by omega) (by omega))), (show q147 30 = 0 → q147 29 = 3 → q147 31 = 7237492 → q147 27 + 3 ≤ q147 28 by omega), (show q 27 ≤ q147 27 by omega), (show q147 30 = 0 → 2 * q 27 + q147 21 < 2 * q147 27 + q 21 by omega), (show kp q q147 (q 35) by exact hkp), (show q147 30 = 0 → (1 : Int) ≠ 0 → RS q147 1 ∧ 1 ≤ q147 21 by first | (intro z; exact absurd z (by omega)) | (intro _ z; exact absurd z (by omega)) | exact fun _ _ => ⟨hRS, by omega⟩), (show q147 30 = 0 → (1 : Int) = 0 → RS q147 0 by first | (intro z; exact absurd z (by omega)) | (intro _ z; exact absurd z (by omega)) | exact fun _ _ => hRS)⟩ dX11_unit_155
    · skip
      have rlc97 : (1 : Int) = (0 : Int) := congrArg Int32.toInt c97
      exfalso
      have z1 := congrArg Int32.toInt c97
      have z2 := ((iv_c (by decide) : IV 1 1 1)).1
      have z3 := ((iv_c (by decide) : IV 1 1 1)).2
      have z4 := ((iv_c (by decide) : IV 0 0 0)).1
      have z5 := ((iv_c (by decide) : IV 0 0 0)).2
      omega
  have J98_s0_0_l2_0 : ∀ (H : Heap) (locs : List Loc) (ls : Array Slot) (v98_3 : Int32) (v98_4 : Int32), IV v98_3 0 1 → IV v98_4 0 122 → (v98_3.toInt ≠ 0 → q 29 = 5) → (v98_4.toInt ≠ 0 → q 29 = 3 ∧ 97 ≤ v98_4.toInt) → (q 24 ≠ 90 ∧ q 23 ≠ 30) → th_H D cT T (km q) H → va_S (th_A T [0, 8, 28, 29, 30, 31]) s.heap H locs → lv_has ls 7 [(0, .ref a0), (2, .int 0), (3, .int v98_3), (4, .int v98_4)] → W p l e (rmk 2 44) s m [.ref a0].toArray below meth c H locs 0 0 (MQ below (th_QM D cT T (fun v q2 => ∃ r : Int32, v = some (.int r) ∧ IV r 0 1 ∧ qkm q2 ∧ fr [20, 21, 22, 23, 24, 27, 28, 29, 30, 31, 1000] q q2 ∧ ((q2 29 = 0 ∧ q2 27 = q2 26 ∧ q2 28 = q2 26) ∨ (1 ≤ q2 29 ∧ q2 27 < q2 28 ∧ q2 28 ≤ q2 26)) ∧ (q2 30 = 0 → NL q2) ∧ (q2 30 = 0 → q2 29 = 3 → q2 31 = 7237492 → q2 27 + 3 ≤ q2 28) ∧ (q 27 ≤ q2 27) ∧ (q2 30 = 0 → 2 * q 27 + q2 21 < 2 * q2 27 + q 21) ∧ (kp q q2 (q 35)) ∧ (q2 30 = 0 → r.toInt ≠ 0 → RS q2 1 ∧ 1 ≤ q2 21) ∧ (q2 30 = 0 → r.toInt = 0 → RS q2 0)) [0, 8, 28, 29, 30, 31]) [.ref a0].toArray s 0 0 (th_A T [0, 8, 28, 29, 30, 31])) (F0 m 98 ls [.int 0]) := by
    intro H locs ls v98_3 v98_4 iv98_3 iv98_4 v98_inv0 v98_inv1 v98_inv2 hH hS hl
    have l1v98_3 := iv98_3.1; have l2v98_3 := iv98_3.2
    have l1v98_4 := iv98_4.1; have l2v98_4 := iv98_4.2
    refine lv_istore (lv' := [(5, .int 0), (0, .ref a0), (2, .int 0), (3, .int v98_3), (4, .int v98_4)]) hx hb dX11_unit_98 hl (by decide) rfl (fun ls hl => ?_)
    refine lv_iload_n hx hb dX11_unit_100 rfl (lv_at hl 2 rfl) ?_
    refine lv_if_ne (tgt := 126) hx hb dX11_unit_101 (by decide) (fun c152 => ?_) (fun c152 => ?_)
    · skip
      have rlc152 : (0 : Int) ≠ (0 : Int) := iv_ne c152
      exact absurd (iv_eqc (iv_c (by decide) : IV 0 0 0) (iv_c (by decide) : IV 0 0 0)) c152
    · skip
      have rlc152 : (0 : Int) = (0 : Int) := congrArg Int32.toInt c152
      refine lv_iload hx hb dX11_unit_104 (lv_at hl 4 rfl) ?_
      refine lv_if_ne (tgt := 121) hx hb dX11_unit_106 (by decide) (fun c153 => ?_) (fun c153 => ?_)
      · skip
        have rlc153 : v98_4.toInt ≠ (0 : Int) := iv_ne c153
        have ir154 : IV v98_4 1 122 := iv_cutL iv98_4 (iv_c (by decide) : IV 0 0 0) c153 (by decide)
        have ir154a := ir154.1; have ir154b := ir154.2
        refine lv_iload hx hb dX11_unit_121 (lv_at hl 0 rfl) ?_
        refine lv_if_ne (tgt := 143) hx hb dX11_unit_123 (by decide) (fun c155 => ?_) (fun c155 => ?_)
        · skip
          have rlc155 : (0 : Int) ≠ (0 : Int) := iv_ne c155
          exact absurd (iv_eqc (iv_c (by decide) : IV 0 0 0) (iv_c (by decide) : IV 0 0 0)) c155
        · skip
          have rlc155 : (0 : Int) = (0 : Int) := congrArg Int32.toInt c155
          exact J126_l2_0 H locs ls v98_3 v98_4 iv98_3 (iv_w ir154 (by decide)) (show v98_3.toInt ≠ 0 → q 29 = 5 by omega) (show v98_4.toInt ≠ 0 → q 29 = 3 ∧ 97 ≤ v98_4.toInt by omega) (show q 24 ≠ 90 ∧ q 23 ≠ 30 by omega) (show v98_4.toInt ≠ 0 ∨ q 29 = 4 ∨ v98_3.toInt ≠ 0 by omega) hH hS (lv_sub hl [1, 2, 3, 4] rfl)
      · skip
        have rlc153 : v98_4.toInt = (0 : Int) := congrArg Int32.toInt c153
        have ir156 : IV v98_4 0 0 := iv_eL c153 (iv_c (by decide) : IV 0 0 0)
        have ir156a := ir156.1; have ir156b := ir156.2
        refine lv_aload_n hx hb dX11_unit_109 rfl (lv_at hl 1 rfl) ?_
        refine th_get S hK hH inG11 t0 km_0 rfl 8 (by decide) gm_1238 rfl rfl dX11_unit_110 (fun v157 hv157 fv157 => ?_)
        obtain ⟨x158, rfl, ix158⟩ := th_V.int hv157
        have kx158a : q 29 ≤ x158.toInt := ix158.1
        have kx158b : x158.toInt ≤ q 29 := ix158.2
        have bx158 := qkm_29 hq
        have ix158 : IV x158 0 5 := iv_w ix158 (qkm_29 hq)
        refine lv_iconst (v := 4) hx hb dX11_unit_113 (by decide) ?_
        refine lv_icmp_eq (tgt := 121) hx hb dX11_unit_114 (by decide) (fun c159 => ?_) (fun c159 => ?_)
        · skip
          have rlc159 : x158.toInt = (4 : Int) := congrArg Int32.toInt c159
          have ir160 : IV x158 4 4 := iv_eL c159 (iv_c (by decide) : IV 4 4 4)
          have ir160a := ir160.1; have ir160b := ir160.2
          refine lv_iload hx hb dX11_unit_121 (lv_at hl 0 rfl) ?_
          refine lv_if_ne (tgt := 143) hx hb dX11_unit_123 (by decide) (fun c161 => ?_) (fun c161 => ?_)
          · skip
            have rlc161 : (0 : Int) ≠ (0 : Int) := iv_ne c161
            exact absurd (iv_eqc (iv_c (by decide) : IV 0 0 0) (iv_c (by decide) : IV 0 0 0)) c161
          · skip
            have rlc161 : (0 : Int) = (0 : Int) := congrArg Int32.toInt c161
            exact J126_l2_0 H locs ls v98_3 v98_4 iv98_3 (iv_w ir156 (by decide)) (show v98_3.toInt ≠ 0 → q 29 = 5 by omega) (show v98_4.toInt ≠ 0 → q 29 = 3 ∧ 97 ≤ v98_4.toInt by omega) (show q 24 ≠ 90 ∧ q 23 ≠ 30 by omega) (show v98_4.toInt ≠ 0 ∨ q 29 = 4 ∨ v98_3.toInt ≠ 0 by omega) hH hS (lv_sub hl [1, 2, 3, 4] rfl)
        · skip
          have rlc159 : x158.toInt ≠ (4 : Int) := iv_ne c159
          refine lv_iload_n hx hb dX11_unit_117 rfl (lv_at hl 3 rfl) ?_
          refine lv_if_eq (tgt := 143) hx hb dX11_unit_118 (by decide) (fun c162 => ?_) (fun c162 => ?_)
          · skip
            have rlc162 : v98_3.toInt = (0 : Int) := congrArg Int32.toInt c162
            have ir163 : IV v98_3 0 0 := iv_eL c162 (iv_c (by decide) : IV 0 0 0)
            have ir163a := ir163.1; have ir163b := ir163.2
            refine lv_aload_n hx hb dX11_unit_143 rfl (lv_at hl 1 rfl) ?_
            refine th_callVM (n := 0) (As := []) S hK hH hS (th_A.sub (by decide)) (m_X11_misplaced l D cT T q hT hq a0 t0) gm_1503 gm_1500 gm_1502 gm_53 gm_124 (by decide +kernel) ⟨rfl, rfl, Nat.le_of_ble_eq_true rfl, Nat.le_of_ble_eq_true rfl⟩ t0 km_0 rfl rfl hl.1 rfl (Nat.le_of_ble_eq_true rfl) dX11_unit_144 ⟨Nat.zero_le _, Nat.zero_le _⟩ (fun wq164 q164 H locs hEq164 hH hS hF1 => ?_)
            obtain ⟨rfl, hqq164, g0q164, pq164_0⟩ := hEq164
            show W p l e (rmk 2 44) s m [.ref a0].toArray below meth c H locs 0 0 (MQ below (th_QM D cT T (fun v q2 => ∃ r : Int32, v = some (.int r) ∧ IV r 0 1 ∧ qkm q2 ∧ fr [20, 21, 22, 23, 24, 27, 28, 29, 30, 31, 1000] q q2 ∧ ((q2 29 = 0 ∧ q2 27 = q2 26 ∧ q2 28 = q2 26) ∨ (1 ≤ q2 29 ∧ q2 27 < q2 28 ∧ q2 28 ≤ q2 26)) ∧ (q2 30 = 0 → NL q2) ∧ (q2 30 = 0 → q2 29 = 3 → q2 31 = 7237492 → q2 27 + 3 ≤ q2 28) ∧ (q 27 ≤ q2 27) ∧ (q2 30 = 0 → 2 * q 27 + q2 21 < 2 * q2 27 + q 21) ∧ (kp q q2 (q 35)) ∧ (q2 30 = 0 → r.toInt ≠ 0 → RS q2 1 ∧ 1 ≤ q2 21) ∧ (q2 30 = 0 → r.toInt = 0 → RS q2 0)) [0, 8, 28, 29, 30, 31]) [.ref a0].toArray s 0 0 (th_A T [0, 8, 28, 29, 30, 31])) (F0 m 147 ls [])
            have pq164_0 : q164 30 ≠ 0 := pq164_0
            have wq164_10 : q164 10 = q 10 := g0q164 10 (by decide) (Or.inl (by decide))
            have wq164_13 : q164 13 = q 13 := g0q164 13 (by decide) (Or.inl (by decide))
            have wq164_20 : q164 20 = q 20 := g0q164 20 (by decide) (Or.inl (by decide))
            have wq164_21 : q164 21 = q 21 := g0q164 21 (by decide) (Or.inl (by decide))
            have wq164_22 : q164 22 = q 22 := g0q164 22 (by decide) (Or.inl (by decide))
            have wq164_23 : q164 23 = q 23 := g0q164 23 (by decide) (Or.inl (by decide))
            have wq164_24 : q164 24 = q 24 := g0q164 24 (by decide) (Or.inl (by decide))
            have wq164_26 : q164 26 = q 26 := g0q164 26 (by decide) (Or.inl (by decide))
            have wq164_27 : q164 27 = q 27 := g0q164 27 (by decide) (Or.inl (by decide))
            have wq164_28 : q164 28 = q 28 := g0q164 28 (by decide) (Or.inl (by decide))
            have wq164_29 : q164 29 = q 29 := g0q164 29 (by decide) (Or.inl (by decide))
            have wq164_31 : q164 31 = q 31 := g0q164 31 (by decide) (Or.inl (by decide))
            have wq164_35 : q164 35 = q 35 := g0q164 35 (by decide) (Or.inl (by decide))
            have h0q164 : fr [20, 21, 22, 23, 24, 27, 28, 29, 30, 31, 1000] q q164 := fr_tr fr_rf g0q164 (by decide)
            have bgq164 : bg q q164 := bg_fr bg_rf g0q164 (by decide)
            have txq164 : tx q q164 := tx_tr tx_rf (tx_bg (bg_fr bg_rf g0q164 (by decide)))
            refine lv_aload_n hx hb dX11_unit_147 rfl (lv_at hl 1 rfl) ?_
            refine th_callVp (n := 0) (As := []) S hK hH hS (th_A.sub (by decide)) (m_X11_isGood l D cT T q164 hT hqq164 a0 t0) gm_1487 gm_1484 gm_1486 gm_49 gm_124 (by decide +kernel) ⟨rfl, rfl, Nat.le_of_ble_eq_true rfl, Nat.le_of_ble_eq_true rfl⟩ t0 km_0 rfl rfl hl.1 rfl (Nat.le_of_ble_eq_true rfl) dX11_unit_148 ⟨Nat.zero_le _, Nat.zero_le _⟩ (fun x165 H locs ix165 ox165 hH hS hF1 => ?_)
            obtain ⟨ox165_0, ox165_1⟩ := ox165
            have ox165_0 : x165.toInt ≠ 0 → q164 30 = 0 := ox165_0
            have ox165_1 : x165.toInt = 0 → q164 30 ≠ 0 := ox165_1
            have l1x165 := ix165.1; have l2x165 := ix165.2
            refine lv_if_ne (tgt := 156) hx hb dX11_unit_151 (by decide) (fun c166 => ?_) (fun c166 => ?_)
            · skip
              have rlc166 : x165.toInt ≠ (0 : Int) := iv_ne c166
              have ir167 : IV x165 1 1 := iv_cutL ix165 (iv_c (by decide) : IV 0 0 0) c166 (by decide)
              have ir167a := ir167.1; have ir167b := ir167.2
              exfalso; omega
            · skip
              have rlc166 : x165.toInt = (0 : Int) := congrArg Int32.toInt c166
              have ir168 : IV x165 0 0 := iv_eL c166 (iv_c (by decide) : IV 0 0 0)
              have ir168a := ir168.1; have ir168b := ir168.2
              have hkp : kp q q164 (q 35) := kp_bg bgq164
              refine lv_iconst (v := 1) hx hb dX11_unit_154 (by decide) ?_
              exact th_zretM S hK hH hS hr hlocks (iv_w (iv_c (by decide) : IV 1 1 1) (by decide)) ⟨_, rfl, (iv_w (iv_c (by decide) : IV 1 1 1) (by decide)), hqq164, h0q164, (show (q164 29 = 0 ∧ q164 27 = q164 26 ∧ q164 28 = q164 26) ∨ (1 ≤ q164 29 ∧ q164 27 < q164 28 ∧ q164 28 ≤ q164 26) by omega), (show q164 30 = 0 → NL q164 by exact (fun z => NL_tx (hp2 (by omega)) txq164 (by omega) (by omega) (by omega))), (show q164 30 = 0 → q164 29 = 3 → q164 31 = 7237492 → q164 27 + 3 ≤ q164 28 by omega), (show q 27 ≤ q164 27 by omega), (show q164 30 = 0 → 2 * q 27 + q164 21 < 2 * q164 27 + q 21 by omega), (show kp q q164 (q 35) by exact hkp), (show q164 30 = 0 → (1 : Int) ≠ 0 → RS q164 1 ∧ 1 ≤ q164 21 by first | (intro z; exact absurd z (by omega)) | (intro _ z; exact absurd z (by omega)) | exact fun _ _ => ⟨hRS, by omega⟩), (show q164 30 = 0 → (1 : Int) = 0 → RS q164 0 by first | (intro z; exact absurd z (by omega)) | (intro _ z; exact absurd z (by omega)) | exact fun _ _ => hRS)⟩ dX11_unit_155
          · skip
            have rlc162 : v98_3.toInt ≠ (0 : Int) := iv_ne c162
            have ir169 : IV v98_3 1 1 := iv_cutL iv98_3 (iv_c (by decide) : IV 0 0 0) c162 (by decide)
            have ir169a := ir169.1; have ir169b := ir169.2
            refine lv_iload hx hb dX11_unit_121 (lv_at hl 0 rfl) ?_
            refine lv_if_ne (tgt := 143) hx hb dX11_unit_123 (by decide) (fun c170 => ?_) (fun c170 => ?_)
            · skip
              have rlc170 : (0 : Int) ≠ (0 : Int) := iv_ne c170
              exact absurd (iv_eqc (iv_c (by decide) : IV 0 0 0) (iv_c (by decide) : IV 0 0 0)) c170
            · skip
              have rlc170 : (0 : Int) = (0 : Int) := congrArg Int32.toInt c170
              exact J126_l2_0 H locs ls v98_3 v98_4 (iv_w ir169 (by decide)) (iv_w ir156 (by decide)) (show v98_3.toInt ≠ 0 → q 29 = 5 by omega) (show v98_4.toInt ≠ 0 → q 29 = 3 ∧ 97 ≤ v98_4.toInt by omega) (show q 24 ≠ 90 ∧ q 23 ≠ 30 by omega) (show v98_4.toInt ≠ 0 ∨ q 29 = 4 ∨ v98_3.toInt ≠ 0 by omega) hH hS (lv_sub hl [1, 2, 3, 4] rfl)
  have J98_s0_0_l2_1 : ∀ (H : Heap) (locs : List Loc) (ls : Array Slot) (v98_3 : Int32) (v98_4 : Int32), IV v98_3 0 1 → IV v98_4 0 122 → (v98_3.toInt ≠ 0 → q 29 = 5) → (v98_4.toInt ≠ 0 → q 29 = 3 ∧ 97 ≤ v98_4.toInt) → (q 29 = 3 ∧ q 31 = 7237492) → (q 24 ≠ 90 ∧ q 23 ≠ 30) → th_H D cT T (km q) H → va_S (th_A T [0, 8, 28, 29, 30, 31]) s.heap H locs → lv_has ls 7 [(0, .ref a0), (2, .int 1), (3, .int v98_3), (4, .int v98_4)] → W p l e (rmk 2 44) s m [.ref a0].toArray below meth c H locs 0 0 (MQ below (th_QM D cT T (fun v q2 => ∃ r : Int32, v = some (.int r) ∧ IV r 0 1 ∧ qkm q2 ∧ fr [20, 21, 22, 23, 24, 27, 28, 29, 30, 31, 1000] q q2 ∧ ((q2 29 = 0 ∧ q2 27 = q2 26 ∧ q2 28 = q2 26) ∨ (1 ≤ q2 29 ∧ q2 27 < q2 28 ∧ q2 28 ≤ q2 26)) ∧ (q2 30 = 0 → NL q2) ∧ (q2 30 = 0 → q2 29 = 3 → q2 31 = 7237492 → q2 27 + 3 ≤ q2 28) ∧ (q 27 ≤ q2 27) ∧ (q2 30 = 0 → 2 * q 27 + q2 21 < 2 * q2 27 + q 21) ∧ (kp q q2 (q 35)) ∧ (q2 30 = 0 → r.toInt ≠ 0 → RS q2 1 ∧ 1 ≤ q2 21) ∧ (q2 30 = 0 → r.toInt = 0 → RS q2 0)) [0, 8, 28, 29, 30, 31]) [.ref a0].toArray s 0 0 (th_A T [0, 8, 28, 29, 30, 31])) (F0 m 98 ls [.int 0]) := by
    intro H locs ls v98_3 v98_4 iv98_3 iv98_4 v98_inv0 v98_inv1 v98_inv2 v98_inv3 hH hS hl
    have l1v98_3 := iv98_3.1; have l2v98_3 := iv98_3.2
    have l1v98_4 := iv98_4.1; have l2v98_4 := iv98_4.2
    refine lv_istore (lv' := [(5, .int 0), (0, .ref a0), (2, .int 1), (3, .int v98_3), (4, .int v98_4)]) hx hb dX11_unit_98 hl (by decide) rfl (fun ls hl => ?_)
    refine lv_iload_n hx hb dX11_unit_100 rfl (lv_at hl 2 rfl) ?_
    refine lv_if_ne (tgt := 126) hx hb dX11_unit_101 (by decide) (fun c171 => ?_) (fun c171 => ?_)
    · skip
      have rlc171 : (1 : Int) ≠ (0 : Int) := iv_ne c171
      exact J126_l2_1 H locs ls v98_3 v98_4 iv98_3 iv98_4 (show v98_3.toInt ≠ 0 → q 29 = 5 by omega) (show v98_4.toInt ≠ 0 → q 29 = 3 ∧ 97 ≤ v98_4.toInt by omega) (show q 29 = 3 ∧ q 31 = 7237492 by omega) hH hS (lv_sub hl [1, 2, 3, 4] rfl)
    · skip
      have rlc171 : (1 : Int) = (0 : Int) := congrArg Int32.toInt c171
      exfalso
      have z1 := congrArg Int32.toInt c171
      have z2 := ((iv_c (by decide) : IV 1 1 1)).1
      have z3 := ((iv_c (by decide) : IV 1 1 1)).2
      have z4 := ((iv_c (by decide) : IV 0 0 0)).1
      have z5 := ((iv_c (by decide) : IV 0 0 0)).2
      omega
  have J98_s0_1_l2_0 : ∀ (H : Heap) (locs : List Loc) (ls : Array Slot) (v98_3 : Int32) (v98_4 : Int32), IV v98_3 0 1 → IV v98_4 0 122 → (v98_3.toInt ≠ 0 → q 29 = 5) → (v98_4.toInt ≠ 0 → q 29 = 3 ∧ 97 ≤ v98_4.toInt) → th_H D cT T (km q) H → va_S (th_A T [0, 8, 28, 29, 30, 31]) s.heap H locs → lv_has ls 7 [(0, .ref a0), (2, .int 0), (3, .int v98_3), (4, .int v98_4)] → W p l e (rmk 2 44) s m [.ref a0].toArray below meth c H locs 0 0 (MQ below (th_QM D cT T (fun v q2 => ∃ r : Int32, v = some (.int r) ∧ IV r 0 1 ∧ qkm q2 ∧ fr [20, 21, 22, 23, 24, 27, 28, 29, 30, 31, 1000] q q2 ∧ ((q2 29 = 0 ∧ q2 27 = q2 26 ∧ q2 28 = q2 26) ∨ (1 ≤ q2 29 ∧ q2 27 < q2 28 ∧ q2 28 ≤ q2 26)) ∧ (q2 30 = 0 → NL q2) ∧ (q2 30 = 0 → q2 29 = 3 → q2 31 = 7237492 → q2 27 + 3 ≤ q2 28) ∧ (q 27 ≤ q2 27) ∧ (q2 30 = 0 → 2 * q 27 + q2 21 < 2 * q2 27 + q 21) ∧ (kp q q2 (q 35)) ∧ (q2 30 = 0 → r.toInt ≠ 0 → RS q2 1 ∧ 1 ≤ q2 21) ∧ (q2 30 = 0 → r.toInt = 0 → RS q2 0)) [0, 8, 28, 29, 30, 31]) [.ref a0].toArray s 0 0 (th_A T [0, 8, 28, 29, 30, 31])) (F0 m 98 ls [.int 1]) := by
    intro H locs ls v98_3 v98_4 iv98_3 iv98_4 v98_inv0 v98_inv1 hH hS hl
    have l1v98_3 := iv98_3.1; have l2v98_3 := iv98_3.2
    have l1v98_4 := iv98_4.1; have l2v98_4 := iv98_4.2
    refine lv_istore (lv' := [(5, .int 1), (0, .ref a0), (2, .int 0), (3, .int v98_3), (4, .int v98_4)]) hx hb dX11_unit_98 hl (by decide) rfl (fun ls hl => ?_)
    refine lv_iload_n hx hb dX11_unit_100 rfl (lv_at hl 2 rfl) ?_
    refine lv_if_ne (tgt := 126) hx hb dX11_unit_101 (by decide) (fun c172 => ?_) (fun c172 => ?_)
    · skip
      have rlc172 : (0 : Int) ≠ (0 : Int) := iv_ne c172
      exact absurd (iv_eqc (iv_c (by decide) : IV 0 0 0) (iv_c (by decide) : IV 0 0 0)) c172
    · skip
      have rlc172 : (0 : Int) = (0 : Int) := congrArg Int32.toInt c172
      refine lv_iload hx hb dX11_unit_104 (lv_at hl 4 rfl) ?_
      refine lv_if_ne (tgt := 121) hx hb dX11_unit_106 (by decide) (fun c173 => ?_) (fun c173 => ?_)
      · skip
        have rlc173 : v98_4.toInt ≠ (0 : Int) := iv_ne c173
        have ir174 : IV v98_4 1 122 := iv_cutL iv98_4 (iv_c (by decide) : IV 0 0 0) c173 (by decide)
        have ir174a := ir174.1; have ir174b := ir174.2
        refine lv_iload hx hb dX11_unit_121 (lv_at hl 0 rfl) ?_
        refine lv_if_ne (tgt := 143) hx hb dX11_unit_123 (by decide) (fun c175 => ?_) (fun c175 => ?_)
        · skip
          have rlc175 : (1 : Int) ≠ (0 : Int) := iv_ne c175
          refine lv_aload_n hx hb dX11_unit_143 rfl (lv_at hl 1 rfl) ?_
          refine th_callVM (n := 0) (As := []) S hK hH hS (th_A.sub (by decide)) (m_X11_misplaced l D cT T q hT hq a0 t0) gm_1503 gm_1500 gm_1502 gm_53 gm_124 (by decide +kernel) ⟨rfl, rfl, Nat.le_of_ble_eq_true rfl, Nat.le_of_ble_eq_true rfl⟩ t0 km_0 rfl rfl hl.1 rfl (Nat.le_of_ble_eq_true rfl) dX11_unit_144 ⟨Nat.zero_le _, Nat.zero_le _⟩ (fun wq176 q176 H locs hEq176 hH hS hF1 => ?_)
          obtain ⟨rfl, hqq176, g0q176, pq176_0⟩ := hEq176
          show W p l e (rmk 2 44) s m [.ref a0].toArray below meth c H locs 0 0 (MQ below (th_QM D cT T (fun v q2 => ∃ r : Int32, v = some (.int r) ∧ IV r 0 1 ∧ qkm q2 ∧ fr [20, 21, 22, 23, 24, 27, 28, 29, 30, 31, 1000] q q2 ∧ ((q2 29 = 0 ∧ q2 27 = q2 26 ∧ q2 28 = q2 26) ∨ (1 ≤ q2 29 ∧ q2 27 < q2 28 ∧ q2 28 ≤ q2 26)) ∧ (q2 30 = 0 → NL q2) ∧ (q2 30 = 0 → q2 29 = 3 → q2 31 = 7237492 → q2 27 + 3 ≤ q2 28) ∧ (q 27 ≤ q2 27) ∧ (q2 30 = 0 → 2 * q 27 + q2 21 < 2 * q2 27 + q 21) ∧ (kp q q2 (q 35)) ∧ (q2 30 = 0 → r.toInt ≠ 0 → RS q2 1 ∧ 1 ≤ q2 21) ∧ (q2 30 = 0 → r.toInt = 0 → RS q2 0)) [0, 8, 28, 29, 30, 31]) [.ref a0].toArray s 0 0 (th_A T [0, 8, 28, 29, 30, 31])) (F0 m 147 ls [])
          have pq176_0 : q176 30 ≠ 0 := pq176_0
          have wq176_10 : q176 10 = q 10 := g0q176 10 (by decide) (Or.inl (by decide))
          have wq176_13 : q176 13 = q 13 := g0q176 13 (by decide) (Or.inl (by decide))
          have wq176_20 : q176 20 = q 20 := g0q176 20 (by decide) (Or.inl (by decide))
          have wq176_21 : q176 21 = q 21 := g0q176 21 (by decide) (Or.inl (by decide))
          have wq176_22 : q176 22 = q 22 := g0q176 22 (by decide) (Or.inl (by decide))
          have wq176_23 : q176 23 = q 23 := g0q176 23 (by decide) (Or.inl (by decide))
          have wq176_24 : q176 24 = q 24 := g0q176 24 (by decide) (Or.inl (by decide))
          have wq176_26 : q176 26 = q 26 := g0q176 26 (by decide) (Or.inl (by decide))
          have wq176_27 : q176 27 = q 27 := g0q176 27 (by decide) (Or.inl (by decide))
          have wq176_28 : q176 28 = q 28 := g0q176 28 (by decide) (Or.inl (by decide))
          have wq176_29 : q176 29 = q 29 := g0q176 29 (by decide) (Or.inl (by decide))
          have wq176_31 : q176 31 = q 31 := g0q176 31 (by decide) (Or.inl (by decide))
          have wq176_35 : q176 35 = q 35 := g0q176 35 (by decide) (Or.inl (by decide))
          have h0q176 : fr [20, 21, 22, 23, 24, 27, 28, 29, 30, 31, 1000] q q176 := fr_tr fr_rf g0q176 (by decide)
          have bgq176 : bg q q176 := bg_fr bg_rf g0q176 (by decide)
          have txq176 : tx q q176 := tx_tr tx_rf (tx_bg (bg_fr bg_rf g0q176 (by decide)))
          refine lv_aload_n hx hb dX11_unit_147 rfl (lv_at hl 1 rfl) ?_
          refine th_callVp (n := 0) (As := []) S hK hH hS (th_A.sub (by decide)) (m_X11_isGood l D cT T q176 hT hqq176 a0 t0) gm_1487 gm_1484 gm_1486 gm_49 gm_124 (by decide +kernel) ⟨rfl, rfl, Nat.le_of_ble_eq_true rfl, Nat.le_of_ble_eq_true rfl⟩ t0 km_0 rfl rfl hl.1 rfl (Nat.le_of_ble_eq_true rfl) dX11_unit_148 ⟨Nat.zero_le _, Nat.zero_le _⟩ (fun x177 H locs ix177 ox177 hH hS hF1 => ?_)
          obtain ⟨ox177_0, ox177_1⟩ := ox177
          have ox177_0 : x177.toInt ≠ 0 → q176 30 = 0 := ox177_0
          have ox177_1 : x177.toInt = 0 → q176 30 ≠ 0 := ox177_1
          have l1x177 := ix177.1; have l2x177 := ix177.2
          refine lv_if_ne (tgt := 156) hx hb dX11_unit_151 (by decide) (fun c178 => ?_) (fun c178 => ?_)
          · skip
            have rlc178 : x177.toInt ≠ (0 : Int) := iv_ne c178
            have ir179 : IV x177 1 1 := iv_cutL ix177 (iv_c (by decide) : IV 0 0 0) c178 (by decide)
            have ir179a := ir179.1; have ir179b := ir179.2
            exfalso; omega
          · skip
            have rlc178 : x177.toInt = (0 : Int) := congrArg Int32.toInt c178
            have ir180 : IV x177 0 0 := iv_eL c178 (iv_c (by decide) : IV 0 0 0)
            have ir180a := ir180.1; have ir180b := ir180.2
            have hkp : kp q q176 (q 35) := kp_bg bgq176
            refine lv_iconst (v := 1) hx hb dX11_unit_154 (by decide) ?_
            exact th_zretM S hK hH hS hr hlocks (iv_w (iv_c (by decide) : IV 1 1 1) (by decide)) ⟨_, rfl, (iv_w (iv_c (by decide) : IV 1 1 1) (by decide)), hqq176, h0q176, (show (q176 29 = 0 ∧ q176 27 = q176 26 ∧ q176 28 = q176 26) ∨ (1 ≤ q176 29 ∧ q176 27 < q176 28 ∧ q176 28 ≤ q176 26) by omega), (show q176 30 = 0 → NL q176 by exact (fun z => NL_tx (hp2 (by omega)) txq176 (by omega) (by omega) (by omega))), (show q176 30 = 0 → q176 29 = 3 → q176 31 = 7237492 → q176 27 + 3 ≤ q176 28 by omega), (show q 27 ≤ q176 27 by omega), (show q176 30 = 0 → 2 * q 27 + q176 21 < 2 * q176 27 + q 21 by omega), (show kp q q176 (q 35) by exact hkp), (show q176 30 = 0 → (1 : Int) ≠ 0 → RS q176 1 ∧ 1 ≤ q176 21 by first | (intro z; exact absurd z (by omega)) | (intro _ z; exact absurd z (by omega)) | exact fun _ _ => ⟨hRS, by omega⟩), (show q176 30 = 0 → (1 : Int) = 0 → RS q176 0 by first | (intro z; exact absurd z (by omega)) | (intro _ z; exact absurd z (by omega)) | exact fun _ _ => hRS)⟩ dX11_unit_155
        · skip
          have rlc175 : (1 : Int) = (0 : Int) := congrArg Int32.toInt c175
          exfalso
          have z1 := congrArg Int32.toInt c175
          have z2 := ((iv_c (by decide) : IV 1 1 1)).1
          have z3 := ((iv_c (by decide) : IV 1 1 1)).2
          have z4 := ((iv_c (by decide) : IV 0 0 0)).1
          have z5 := ((iv_c (by decide) : IV 0 0 0)).2
          omega
      · skip
        have rlc173 : v98_4.toInt = (0 : Int) := congrArg Int32.toInt c173
        have ir181 : IV v98_4 0 0 := iv_eL c173 (iv_c (by decide) : IV 0 0 0)
        have ir181a := ir181.1; have ir181b := ir181.2
        refine lv_aload_n hx hb dX11_unit_109 rfl (lv_at hl 1 rfl) ?_
        refine th_get S hK hH inG11 t0 km_0 rfl 8 (by decide) gm_1238 rfl rfl dX11_unit_110 (fun v182 hv182 fv182 => ?_)
        obtain ⟨x183, rfl, ix183⟩ := th_V.int hv182
        have kx183a : q 29 ≤ x183.toInt := ix183.1
        have kx183b : x183.toInt ≤ q 29 := ix183.2
        have bx183 := qkm_29 hq
        have ix183 : IV x183 0 5 := iv_w ix183 (qkm_29 hq)
        refine lv_iconst (v := 4) hx hb dX11_unit_113 (by decide) ?_
        refine lv_icmp_eq (tgt := 121) hx hb dX11_unit_114 (by decide) (fun c184 => ?_) (fun c184 => ?_)
        · skip
          have rlc184 : x183.toInt = (4 : Int) := congrArg Int32.toInt c184
          have ir185 : IV x183 4 4 := iv_eL c184 (iv_c (by decide) : IV 4 4 4)
          have ir185a := ir185.1; have ir185b := ir185.2
          refine lv_iload hx hb dX11_unit_121 (lv_at hl 0 rfl) ?_
          refine lv_if_ne (tgt := 143) hx hb dX11_unit_123 (by decide) (fun c186 => ?_) (fun c186 => ?_)
          · skip
            have rlc186 : (1 : Int) ≠ (0 : Int) := iv_ne c186
            refine lv_aload_n hx hb dX11_unit_143 rfl (lv_at hl 1 rfl) ?_
            refine th_callVM (n := 0) (As := []) S hK hH hS (th_A.sub (by decide)) (m_X11_misplaced l D cT T q hT hq a0 t0) gm_1503 gm_1500 gm_1502 gm_53 gm_124 (by decide +kernel) ⟨rfl, rfl, Nat.le_of_ble_eq_true rfl, Nat.le_of_ble_eq_true rfl⟩ t0 km_0 rfl rfl hl.1 rfl (Nat.le_of_ble_eq_true rfl) dX11_unit_144 ⟨Nat.zero_le _, Nat.zero_le _⟩ (fun wq187 q187 H locs hEq187 hH hS hF1 => ?_)
            obtain ⟨rfl, hqq187, g0q187, pq187_0⟩ := hEq187
            show W p l e (rmk 2 44) s m [.ref a0].toArray below meth c H locs 0 0 (MQ below (th_QM D cT T (fun v q2 => ∃ r : Int32, v = some (.int r) ∧ IV r 0 1 ∧ qkm q2 ∧ fr [20, 21, 22, 23, 24, 27, 28, 29, 30, 31, 1000] q q2 ∧ ((q2 29 = 0 ∧ q2 27 = q2 26 ∧ q2 28 = q2 26) ∨ (1 ≤ q2 29 ∧ q2 27 < q2 28 ∧ q2 28 ≤ q2 26)) ∧ (q2 30 = 0 → NL q2) ∧ (q2 30 = 0 → q2 29 = 3 → q2 31 = 7237492 → q2 27 + 3 ≤ q2 28) ∧ (q 27 ≤ q2 27) ∧ (q2 30 = 0 → 2 * q 27 + q2 21 < 2 * q2 27 + q 21) ∧ (kp q q2 (q 35)) ∧ (q2 30 = 0 → r.toInt ≠ 0 → RS q2 1 ∧ 1 ≤ q2 21) ∧ (q2 30 = 0 → r.toInt = 0 → RS q2 0)) [0, 8, 28, 29, 30, 31]) [.ref a0].toArray s 0 0 (th_A T [0, 8, 28, 29, 30, 31])) (F0 m 147 ls [])
            have pq187_0 : q187 30 ≠ 0 := pq187_0
            have wq187_10 : q187 10 = q 10 := g0q187 10 (by decide) (Or.inl (by decide))
            have wq187_13 : q187 13 = q 13 := g0q187 13 (by decide) (Or.inl (by decide))
            have wq187_20 : q187 20 = q 20 := g0q187 20 (by decide) (Or.inl (by decide))
            have wq187_21 : q187 21 = q 21 := g0q187 21 (by decide) (Or.inl (by decide))
            have wq187_22 : q187 22 = q 22 := g0q187 22 (by decide) (Or.inl (by decide))
            have wq187_23 : q187 23 = q 23 := g0q187 23 (by decide) (Or.inl (by decide))
            have wq187_24 : q187 24 = q 24 := g0q187 24 (by decide) (Or.inl (by decide))
            have wq187_26 : q187 26 = q 26 := g0q187 26 (by decide) (Or.inl (by decide))
            have wq187_27 : q187 27 = q 27 := g0q187 27 (by decide) (Or.inl (by decide))
            have wq187_28 : q187 28 = q 28 := g0q187 28 (by decide) (Or.inl (by decide))
            have wq187_29 : q187 29 = q 29 := g0q187 29 (by decide) (Or.inl (by decide))
            have wq187_31 : q187 31 = q 31 := g0q187 31 (by decide) (Or.inl (by decide))
            have wq187_35 : q187 35 = q 35 := g0q187 35 (by decide) (Or.inl (by decide))
            have h0q187 : fr [20, 21, 22, 23, 24, 27, 28, 29, 30, 31, 1000] q q187 := fr_tr fr_rf g0q187 (by decide)
            have bgq187 : bg q q187 := bg_fr bg_rf g0q187 (by decide)
            have txq187 : tx q q187 := tx_tr tx_rf (tx_bg (bg_fr bg_rf g0q187 (by decide)))
            refine lv_aload_n hx hb dX11_unit_147 rfl (lv_at hl 1 rfl) ?_
            refine th_callVp (n := 0) (As := []) S hK hH hS (th_A.sub (by decide)) (m_X11_isGood l D cT T q187 hT hqq187 a0 t0) gm_1487 gm_1484 gm_1486 gm_49 gm_124 (by decide +kernel) ⟨rfl, rfl, Nat.le_of_ble_eq_true rfl, Nat.le_of_ble_eq_true rfl⟩ t0 km_0 rfl rfl hl.1 rfl (Nat.le_of_ble_eq_true rfl) dX11_unit_148 ⟨Nat.zero_le _, Nat.zero_le _⟩ (fun x188 H locs ix188 ox188 hH hS hF1 => ?_)
            obtain ⟨ox188_0, ox188_1⟩ := ox188
            have ox188_0 : x188.toInt ≠ 0 → q187 30 = 0 := ox188_0
            have ox188_1 : x188.toInt = 0 → q187 30 ≠ 0 := ox188_1
            have l1x188 := ix188.1; have l2x188 := ix188.2
            refine lv_if_ne (tgt := 156) hx hb dX11_unit_151 (by decide) (fun c189 => ?_) (fun c189 => ?_)
            · skip
              have rlc189 : x188.toInt ≠ (0 : Int) := iv_ne c189
              have ir190 : IV x188 1 1 := iv_cutL ix188 (iv_c (by decide) : IV 0 0 0) c189 (by decide)
              have ir190a := ir190.1; have ir190b := ir190.2
              exfalso; omega
            · skip
              have rlc189 : x188.toInt = (0 : Int) := congrArg Int32.toInt c189
              have ir191 : IV x188 0 0 := iv_eL c189 (iv_c (by decide) : IV 0 0 0)
              have ir191a := ir191.1; have ir191b := ir191.2
              have hkp : kp q q187 (q 35) := kp_bg bgq187
              refine lv_iconst (v := 1) hx hb dX11_unit_154 (by decide) ?_
              exact th_zretM S hK hH hS hr hlocks (iv_w (iv_c (by decide) : IV 1 1 1) (by decide)) ⟨_, rfl, (iv_w (iv_c (by decide) : IV 1 1 1) (by decide)), hqq187, h0q187, (show (q187 29 = 0 ∧ q187 27 = q187 26 ∧ q187 28 = q187 26) ∨ (1 ≤ q187 29 ∧ q187 27 < q187 28 ∧ q187 28 ≤ q187 26) by omega), (show q187 30 = 0 → NL q187 by exact (fun z => NL_tx (hp2 (by omega)) txq187 (by omega) (by omega) (by omega))), (show q187 30 = 0 → q187 29 = 3 → q187 31 = 7237492 → q187 27 + 3 ≤ q187 28 by omega), (show q 27 ≤ q187 27 by omega), (show q187 30 = 0 → 2 * q 27 + q187 21 < 2 * q187 27 + q 21 by omega), (show kp q q187 (q 35) by exact hkp), (show q187 30 = 0 → (1 : Int) ≠ 0 → RS q187 1 ∧ 1 ≤ q187 21 by first | (intro z; exact absurd z (by omega)) | (intro _ z; exact absurd z (by omega)) | exact fun _ _ => ⟨hRS, by omega⟩), (show q187 30 = 0 → (1 : Int) = 0 → RS q187 0 by first | (intro z; exact absurd z (by omega)) | (intro _ z; exact absurd z (by omega)) | exact fun _ _ => hRS)⟩ dX11_unit_155
          · skip
            have rlc186 : (1 : Int) = (0 : Int) := congrArg Int32.toInt c186
            exfalso
            have z1 := congrArg Int32.toInt c186
            have z2 := ((iv_c (by decide) : IV 1 1 1)).1
            have z3 := ((iv_c (by decide) : IV 1 1 1)).2
            have z4 := ((iv_c (by decide) : IV 0 0 0)).1
            have z5 := ((iv_c (by decide) : IV 0 0 0)).2
            omega
        · skip
          have rlc184 : x183.toInt ≠ (4 : Int) := iv_ne c184
          refine lv_iload_n hx hb dX11_unit_117 rfl (lv_at hl 3 rfl) ?_
          refine lv_if_eq (tgt := 143) hx hb dX11_unit_118 (by decide) (fun c192 => ?_) (fun c192 => ?_)
          · skip
            have rlc192 : v98_3.toInt = (0 : Int) := congrArg Int32.toInt c192
            have ir193 : IV v98_3 0 0 := iv_eL c192 (iv_c (by decide) : IV 0 0 0)
            have ir193a := ir193.1; have ir193b := ir193.2
            refine lv_aload_n hx hb dX11_unit_143 rfl (lv_at hl 1 rfl) ?_
            refine th_callVM (n := 0) (As := []) S hK hH hS (th_A.sub (by decide)) (m_X11_misplaced l D cT T q hT hq a0 t0) gm_1503 gm_1500 gm_1502 gm_53 gm_124 (by decide +kernel) ⟨rfl, rfl, Nat.le_of_ble_eq_true rfl, Nat.le_of_ble_eq_true rfl⟩ t0 km_0 rfl rfl hl.1 rfl (Nat.le_of_ble_eq_true rfl) dX11_unit_144 ⟨Nat.zero_le _, Nat.zero_le _⟩ (fun wq194 q194 H locs hEq194 hH hS hF1 => ?_)
            obtain ⟨rfl, hqq194, g0q194, pq194_0⟩ := hEq194
            show W p l e (rmk 2 44) s m [.ref a0].toArray below meth c H locs 0 0 (MQ below (th_QM D cT T (fun v q2 => ∃ r : Int32, v = some (.int r) ∧ IV r 0 1 ∧ qkm q2 ∧ fr [20, 21, 22, 23, 24, 27, 28, 29, 30, 31, 1000] q q2 ∧ ((q2 29 = 0 ∧ q2 27 = q2 26 ∧ q2 28 = q2 26) ∨ (1 ≤ q2 29 ∧ q2 27 < q2 28 ∧ q2 28 ≤ q2 26)) ∧ (q2 30 = 0 → NL q2) ∧ (q2 30 = 0 → q2 29 = 3 → q2 31 = 7237492 → q2 27 + 3 ≤ q2 28) ∧ (q 27 ≤ q2 27) ∧ (q2 30 = 0 → 2 * q 27 + q2 21 < 2 * q2 27 + q 21) ∧ (kp q q2 (q 35)) ∧ (q2 30 = 0 → r.toInt ≠ 0 → RS q2 1 ∧ 1 ≤ q2 21) ∧ (q2 30 = 0 → r.toInt = 0 → RS q2 0)) [0, 8, 28, 29, 30, 31]) [.ref a0].toArray s 0 0 (th_A T [0, 8, 28, 29, 30, 31])) (F0 m 147 ls [])
            have pq194_0 : q194 30 ≠ 0 := pq194_0
            have wq194_10 : q194 10 = q 10 := g0q194 10 (by decide) (Or.inl (by decide))
            have wq194_13 : q194 13 = q 13 := g0q194 13 (by decide) (Or.inl (by decide))
            have wq194_20 : q194 20 = q 20 := g0q194 20 (by decide) (Or.inl (by decide))
            have wq194_21 : q194 21 = q 21 := g0q194 21 (by decide) (Or.inl (by decide))
            have wq194_22 : q194 22 = q 22 := g0q194 22 (by decide) (Or.inl (by decide))
            have wq194_23 : q194 23 = q 23 := g0q194 23 (by decide) (Or.inl (by decide))
            have wq194_24 : q194 24 = q 24 := g0q194 24 (by decide) (Or.inl (by decide))
            have wq194_26 : q194 26 = q 26 := g0q194 26 (by decide) (Or.inl (by decide))
            have wq194_27 : q194 27 = q 27 := g0q194 27 (by decide) (Or.inl (by decide))
            have wq194_28 : q194 28 = q 28 := g0q194 28 (by decide) (Or.inl (by decide))
            have wq194_29 : q194 29 = q 29 := g0q194 29 (by decide) (Or.inl (by decide))
            have wq194_31 : q194 31 = q 31 := g0q194 31 (by decide) (Or.inl (by decide))
            have wq194_35 : q194 35 = q 35 := g0q194 35 (by decide) (Or.inl (by decide))
            have h0q194 : fr [20, 21, 22, 23, 24, 27, 28, 29, 30, 31, 1000] q q194 := fr_tr fr_rf g0q194 (by decide)
            have bgq194 : bg q q194 := bg_fr bg_rf g0q194 (by decide)
            have txq194 : tx q q194 := tx_tr tx_rf (tx_bg (bg_fr bg_rf g0q194 (by decide)))
            refine lv_aload_n hx hb dX11_unit_147 rfl (lv_at hl 1 rfl) ?_
            refine th_callVp (n := 0) (As := []) S hK hH hS (th_A.sub (by decide)) (m_X11_isGood l D cT T q194 hT hqq194 a0 t0) gm_1487 gm_1484 gm_1486 gm_49 gm_124 (by decide +kernel) ⟨rfl, rfl, Nat.le_of_ble_eq_true rfl, Nat.le_of_ble_eq_true rfl⟩ t0 km_0 rfl rfl hl.1 rfl (Nat.le_of_ble_eq_true rfl) dX11_unit_148 ⟨Nat.zero_le _, Nat.zero_le _⟩ (fun x195 H locs ix195 ox195 hH hS hF1 => ?_)
            obtain ⟨ox195_0, ox195_1⟩ := ox195
            have ox195_0 : x195.toInt ≠ 0 → q194 30 = 0 := ox195_0
            have ox195_1 : x195.toInt = 0 → q194 30 ≠ 0 := ox195_1
            have l1x195 := ix195.1; have l2x195 := ix195.2
            refine lv_if_ne (tgt := 156) hx hb dX11_unit_151 (by decide) (fun c196 => ?_) (fun c196 => ?_)
            · skip
              have rlc196 : x195.toInt ≠ (0 : Int) := iv_ne c196
              have ir197 : IV x195 1 1 := iv_cutL ix195 (iv_c (by decide) : IV 0 0 0) c196 (by decide)
              have ir197a := ir197.1; have ir197b := ir197.2
              exfalso; omega
            · skip
              have rlc196 : x195.toInt = (0 : Int) := congrArg Int32.toInt c196
              have ir198 : IV x195 0 0 := iv_eL c196 (iv_c (by decide) : IV 0 0 0)
              have ir198a := ir198.1; have ir198b := ir198.2
              have hkp : kp q q194 (q 35) := kp_bg bgq194
              refine lv_iconst (v := 1) hx hb dX11_unit_154 (by decide) ?_
              exact th_zretM S hK hH hS hr hlocks (iv_w (iv_c (by decide) : IV 1 1 1) (by decide)) ⟨_, rfl, (iv_w (iv_c (by decide) : IV 1 1 1) (by decide)), hqq194, h0q194, (show (q194 29 = 0 ∧ q194 27 = q194 26 ∧ q194 28 = q194 26) ∨ (1 ≤ q194 29 ∧ q194 27 < q194 28 ∧ q194 28 ≤ q194 26) by omega), (show q194 30 = 0 → NL q194 by exact (fun z => NL_tx (hp2 (by omega)) txq194 (by omega) (by omega) (by omega))), (show q194 30 = 0 → q194 29 = 3 → q194 31 = 7237492 → q194 27 + 3 ≤ q194 28 by omega), (show q 27 ≤ q194 27 by omega), (show q194 30 = 0 → 2 * q 27 + q194 21 < 2 * q194 27 + q 21 by omega), (show kp q q194 (q 35) by exact hkp), (show q194 30 = 0 → (1 : Int) ≠ 0 → RS q194 1 ∧ 1 ≤ q194 21 by first | (intro z; exact absurd z (by omega)) | (intro _ z; exact absurd z (by omega)) | exact fun _ _ => ⟨hRS, by omega⟩), (show q194 30 = 0 → (1 : Int) = 0 → RS q194 0 by first | (intro z; exact absurd z (by omega)) | (intro _ z; exact absurd z (by omega)) | exact fun _ _ => hRS)⟩ dX11_unit_155
          · skip
            have rlc192 : v98_3.toInt ≠ (0 : Int) := iv_ne c192
            have ir199 : IV v98_3 1 1 := iv_cutL iv98_3 (iv_c (by decide) : IV 0 0 0) c192 (by decide)
            have ir199a := ir199.1; have ir199b := ir199.2
            refine lv_iload hx hb dX11_unit_121 (lv_at hl 0 rfl) ?_
            refine lv_if_ne (tgt := 143) hx hb dX11_unit_123 (by decide) (fun c200 => ?_) (fun c200 => ?_)
            · skip
              have rlc200 : (1 : Int) ≠ (0 : Int) := iv_ne c200
              refine lv_aload_n hx hb dX11_unit_143 rfl (lv_at hl 1 rfl) ?_
              refine th_callVM (n := 0) (As := []) S hK hH hS (th_A.sub (by decide)) (m_X11_misplaced l D cT T q hT hq a0 t0) gm_1503 gm_1500 gm_1502 gm_53 gm_124 (by decide +kernel) ⟨rfl, rfl, Nat.le_of_ble_eq_true rfl, Nat.le_of_ble_eq_true rfl⟩ t0 km_0 rfl rfl hl.1 rfl (Nat.le_of_ble_eq_true rfl) dX11_unit_144 ⟨Nat.zero_le _, Nat.zero_le _⟩ (fun wq201 q201 H locs hEq201 hH hS hF1 => ?_)
              obtain ⟨rfl, hqq201, g0q201, pq201_0⟩ := hEq201
              show W p l e (rmk 2 44) s m [.ref a0].toArray below meth c H locs 0 0 (MQ below (th_QM D cT T (fun v q2 => ∃ r : Int32, v = some (.int r) ∧ IV r 0 1 ∧ qkm q2 ∧ fr [20, 21, 22, 23, 24, 27, 28, 29, 30, 31, 1000] q q2 ∧ ((q2 29 = 0 ∧ q2 27 = q2 26 ∧ q2 28 = q2 26) ∨ (1 ≤ q2 29 ∧ q2 27 < q2 28 ∧ q2 28 ≤ q2 26)) ∧ (q2 30 = 0 → NL q2) ∧ (q2 30 = 0 → q2 29 = 3 → q2 31 = 7237492 → q2 27 + 3 ≤ q2 28) ∧ (q 27 ≤ q2 27) ∧ (q2 30 = 0 → 2 * q 27 + q2 21 < 2 * q2 27 + q 21) ∧ (kp q q2 (q 35)) ∧ (q2 30 = 0 → r.toInt ≠ 0 → RS q2 1 ∧ 1 ≤ q2 21) ∧ (q2 30 = 0 → r.toInt = 0 → RS q2 0)) [0, 8, 28, 29, 30, 31]) [.ref a0].toArray s 0 0 (th_A T [0, 8, 28, 29, 30, 31])) (F0 m 147 ls [])
              have pq201_0 : q201 30 ≠ 0 := pq201_0
              have wq201_10 : q201 10 = q 10 := g0q201 10 (by decide) (Or.inl (by decide))
              have wq201_13 : q201 13 = q 13 := g0q201 13 (by decide) (Or.inl (by decide))
              have wq201_20 : q201 20 = q 20 := g0q201 20 (by decide) (Or.inl (by decide))
              have wq201_21 : q201 21 = q 21 := g0q201 21 (by decide) (Or.inl (by decide))
              have wq201_22 : q201 22 = q 22 := g0q201 22 (by decide) (Or.inl (by decide))
              have wq201_23 : q201 23 = q 23 := g0q201 23 (by decide) (Or.inl (by decide))
              have wq201_24 : q201 24 = q 24 := g0q201 24 (by decide) (Or.inl (by decide))
              have wq201_26 : q201 26 = q 26 := g0q201 26 (by decide) (Or.inl (by decide))
              have wq201_27 : q201 27 = q 27 := g0q201 27 (by decide) (Or.inl (by decide))
              have wq201_28 : q201 28 = q 28 := g0q201 28 (by decide) (Or.inl (by decide))
              have wq201_29 : q201 29 = q 29 := g0q201 29 (by decide) (Or.inl (by decide))
              have wq201_31 : q201 31 = q 31 := g0q201 31 (by decide) (Or.inl (by decide))
              have wq201_35 : q201 35 = q 35 := g0q201 35 (by decide) (Or.inl (by decide))
              have h0q201 : fr [20, 21, 22, 23, 24, 27, 28, 29, 30, 31, 1000] q q201 := fr_tr fr_rf g0q201 (by decide)
              have bgq201 : bg q q201 := bg_fr bg_rf g0q201 (by decide)
              have txq201 : tx q q201 := tx_tr tx_rf (tx_bg (bg_fr bg_rf g0q201 (by decide)))
              refine lv_aload_n hx hb dX11_unit_147 rfl (lv_at hl 1 rfl) ?_
              refine th_callVp (n := 0) (As := []) S hK hH hS (th_A.sub (by decide)) (m_X11_isGood l D cT T q201 hT hqq201 a0 t0) gm_1487 gm_1484 gm_1486 gm_49 gm_124 (by decide +kernel) ⟨rfl, rfl, Nat.le_of_ble_eq_true rfl, Nat.le_of_ble_eq_true rfl⟩ t0 km_0 rfl rfl hl.1 rfl (Nat.le_of_ble_eq_true rfl) dX11_unit_148 ⟨Nat.zero_le _, Nat.zero_le _⟩ (fun x202 H locs ix202 ox202 hH hS hF1 => ?_)
              obtain ⟨ox202_0, ox202_1⟩ := ox202
              have ox202_0 : x202.toInt ≠ 0 → q201 30 = 0 := ox202_0
              have ox202_1 : x202.toInt = 0 → q201 30 ≠ 0 := ox202_1
              have l1x202 := ix202.1; have l2x202 := ix202.2
              refine lv_if_ne (tgt := 156) hx hb dX11_unit_151 (by decide) (fun c203 => ?_) (fun c203 => ?_)
              · skip
                have rlc203 : x202.toInt ≠ (0 : Int) := iv_ne c203
                have ir204 : IV x202 1 1 := iv_cutL ix202 (iv_c (by decide) : IV 0 0 0) c203 (by decide)
                have ir204a := ir204.1; have ir204b := ir204.2
                exfalso; omega
              · skip
                have rlc203 : x202.toInt = (0 : Int) := congrArg Int32.toInt c203
                have ir205 : IV x202 0 0 := iv_eL c203 (iv_c (by decide) : IV 0 0 0)
                have ir205a := ir205.1; have ir205b := ir205.2
                have hkp : kp q q201 (q 35) := kp_bg bgq201
                refine lv_iconst (v := 1) hx hb dX11_unit_154 (by decide) ?_
                exact th_zretM S hK hH hS hr hlocks (iv_w (iv_c (by decide) : IV 1 1 1) (by decide)) ⟨_, rfl, (iv_w (iv_c (by decide) : IV 1 1 1) (by decide)), hqq201, h0q201, (show (q201 29 = 0 ∧ q201 27 = q201 26 ∧ q201 28 = q201 26) ∨ (1 ≤ q201 29 ∧ q201 27 < q201 28 ∧ q201 28 ≤ q201 26) by omega), (show q201 30 = 0 → NL q201 by exact (fun z => NL_tx (hp2 (by omega)) txq201 (by omega) (by omega) (by omega))), (show q201 30 = 0 → q201 29 = 3 → q201 31 = 7237492 → q201 27 + 3 ≤ q201 28 by omega), (show q 27 ≤ q201 27 by omega), (show q201 30 = 0 → 2 * q 27 + q201 21 < 2 * q201 27 + q 21 by omega), (show kp q q201 (q 35) by exact hkp), (show q201 30 = 0 → (1 : Int) ≠ 0 → RS q201 1 ∧ 1 ≤ q201 21 by first | (intro z; exact absurd z (by omega)) | (intro _ z; exact absurd z (by omega)) | exact fun _ _ => ⟨hRS, by omega⟩), (show q201 30 = 0 → (1 : Int) = 0 → RS q201 0 by first | (intro z; exact absurd z (by omega)) | (intro _ z; exact absurd z (by omega)) | exact fun _ _ => hRS)⟩ dX11_unit_155
            · skip
              have rlc200 : (1 : Int) = (0 : Int) := congrArg Int32.toInt c200
              exfalso
              have z1 := congrArg Int32.toInt c200
              have z2 := ((iv_c (by decide) : IV 1 1 1)).1
              have z3 := ((iv_c (by decide) : IV 1 1 1)).2
              have z4 := ((iv_c (by decide) : IV 0 0 0)).1
              have z5 := ((iv_c (by decide) : IV 0 0 0)).2
              omega
  have J98_s0_1_l2_1 : ∀ (H : Heap) (locs : List Loc) (ls : Array Slot) (v98_3 : Int32) (v98_4 : Int32), IV v98_3 0 1 → IV v98_4 0 122 → (v98_3.toInt ≠ 0 → q 29 = 5) → (v98_4.toInt ≠ 0 → q 29 = 3 ∧ 97 ≤ v98_4.toInt) → (q 29 = 3 ∧ q 31 = 7237492) → th_H D cT T (km q) H → va_S (th_A T [0, 8, 28, 29, 30, 31]) s.heap H locs → lv_has ls 7 [(0, .ref a0), (2, .int 1), (3, .int v98_3), (4, .int v98_4)] → W p l e (rmk 2 44) s m [.ref a0].toArray below meth c H locs 0 0 (MQ below (th_QM D cT T (fun v q2 => ∃ r : Int32, v = some (.int r) ∧ IV r 0 1 ∧ qkm q2 ∧ fr [20, 21, 22, 23, 24, 27, 28, 29, 30, 31, 1000] q q2 ∧ ((q2 29 = 0 ∧ q2 27 = q2 26 ∧ q2 28 = q2 26) ∨ (1 ≤ q2 29 ∧ q2 27 < q2 28 ∧ q2 28 ≤ q2 26)) ∧ (q2 30 = 0 → NL q2) ∧ (q2 30 = 0 → q2 29 = 3 → q2 31 = 7237492 → q2 27 + 3 ≤ q2 28) ∧ (q 27 ≤ q2 27) ∧ (q2 30 = 0 → 2 * q 27 + q2 21 < 2 * q2 27 + q 21) ∧ (kp q q2 (q 35)) ∧ (q2 30 = 0 → r.toInt ≠ 0 → RS q2 1 ∧ 1 ≤ q2 21) ∧ (q2 30 = 0 → r.toInt = 0 → RS q2 0)) [0, 8, 28, 29, 30, 31]) [.ref a0].toArray s 0 0 (th_A T [0, 8, 28, 29, 30, 31])) (F0 m 98 ls [.int 1]) := by
    intro H locs ls v98_3 v98_4 iv98_3 iv98_4 v98_inv0 v98_inv1 v98_inv2 hH hS hl
    have l1v98_3 := iv98_3.1; have l2v98_3 := iv98_3.2
    have l1v98_4 := iv98_4.1; have l2v98_4 := iv98_4.2
    refine lv_istore (lv' := [(5, .int 1), (0, .ref a0), (2, .int 1), (3, .int v98_3), (4, .int v98_4)]) hx hb dX11_unit_98 hl (by decide) rfl (fun ls hl => ?_)
    refine lv_iload_n hx hb dX11_unit_100 rfl (lv_at hl 2 rfl) ?_
    refine lv_if_ne (tgt := 126) hx hb dX11_unit_101 (by decide) (fun c206 => ?_) (fun c206 => ?_)
    · skip
      have rlc206 : (1 : Int) ≠ (0 : Int) := iv_ne c206
      exact J126_l2_1 H locs ls v98_3 v98_4 iv98_3 iv98_4 (show v98_3.toInt ≠ 0 → q 29 = 5 by omega) (show v98_4.toInt ≠ 0 → q 29 = 3 ∧ 97 ≤ v98_4.toInt by omega) (show q 29 = 3 ∧ q 31 = 7237492 by omega) hH hS (lv_sub hl [1, 2, 3, 4] rfl)
    · skip
      have rlc206 : (1 : Int) = (0 : Int) := congrArg Int32.toInt c206
      exfalso
      have z1 := congrArg Int32.toInt c206
      have z2 := ((iv_c (by decide) : IV 1 1 1)).1
      have z3 := ((iv_c (by decide) : IV 1 1 1)).2
      have z4 := ((iv_c (by decide) : IV 0 0 0)).1
      have z5 := ((iv_c (by decide) : IV 0 0 0)).2
      omega
  have J56_s0_0 : ∀ (H : Heap) (locs : List Loc) (ls : Array Slot), th_H D cT T (km q) H → va_S (th_A T [0, 8, 28, 29, 30, 31]) s.heap H locs → lv_has ls 7 [(0, .ref a0)] → W p l e (rmk 2 44) s m [.ref a0].toArray below meth c H locs 0 0 (MQ below (th_QM D cT T (fun v q2 => ∃ r : Int32, v = some (.int r) ∧ IV r 0 1 ∧ qkm q2 ∧ fr [20, 21, 22, 23, 24, 27, 28, 29, 30, 31, 1000] q q2 ∧ ((q2 29 = 0 ∧ q2 27 = q2 26 ∧ q2 28 = q2 26) ∨ (1 ≤ q2 29 ∧ q2 27 < q2 28 ∧ q2 28 ≤ q2 26)) ∧ (q2 30 = 0 → NL q2) ∧ (q2 30 = 0 → q2 29 = 3 → q2 31 = 7237492 → q2 27 + 3 ≤ q2 28) ∧ (q 27 ≤ q2 27) ∧ (q2 30 = 0 → 2 * q 27 + q2 21 < 2 * q2 27 + q 21) ∧ (kp q q2 (q 35)) ∧ (q2 30 = 0 → r.toInt ≠ 0 → RS q2 1 ∧ 1 ≤ q2 21) ∧ (q2 30 = 0 → r.toInt = 0 → RS q2 0)) [0, 8, 28, 29, 30, 31]) [.ref a0].toArray s 0 0 (th_A T [0, 8, 28, 29, 30, 31])) (F0 m 56 ls [.int 0]) := by
    intro H locs ls hH hS hl
    refine lv_istore_n (lv' := [(2, .int 0), (0, .ref a0)]) hx hb dX11_unit_56 rfl hl (by decide) rfl (fun ls hl => ?_)
    refine lv_aload_n hx hb dX11_unit_57 rfl (lv_at hl 1 rfl) ?_
    refine lv_bipush (v := 40) hx hb dX11_unit_58 (by decide) ?_
    refine th_callVp (n := 1) (As := [.int 40]) S hK hH hS (th_A.sub (by decide)) (m_X11_isSignHere l D cT T q hT hq a0 t0 (40) (iv_top _)) gm_1563 gm_1560 gm_1562 gm_68 gm_124 (by decide +kernel) ⟨rfl, rfl, Nat.le_of_ble_eq_true rfl, Nat.le_of_ble_eq_true rfl⟩ t0 km_0 rfl rfl hl.1 rfl (Nat.le_of_ble_eq_true rfl) dX11_unit_60 ⟨Nat.zero_le _, Nat.zero_le _⟩ (fun x207 H locs ix207 ox207 hH hS hF1 => ?_)
    have ox207 : x207.toInt ≠ 0 → q 29 = 5 ∧ sg q (q 27) = (40 : Int) := ox207
    have l1x207 := ix207.1; have l2x207 := ix207.2
    refine lv_istore_n (lv' := [(3, .int x207), (2, .int 0), (0, .ref a0)]) hx hb dX11_unit_63 rfl hl (by decide) rfl (fun ls hl => ?_)
    refine lv_aload_n hx hb dX11_unit_64 rfl (lv_at hl 2 rfl) ?_
    refine th_callVp (n := 0) (As := []) S hK hH hS (th_A.sub (by decide)) (m_X11_wordHere l D cT T q hT hq a0 t0) gm_1567 gm_1564 gm_1566 gm_69 gm_124 (by decide +kernel) ⟨rfl, rfl, Nat.le_of_ble_eq_true rfl, Nat.le_of_ble_eq_true rfl⟩ t0 km_0 rfl rfl hl.1 rfl (Nat.le_of_ble_eq_true rfl) dX11_unit_65 ⟨Nat.zero_le _, Nat.zero_le _⟩ (fun x208 H locs ix208 ox208 hH hS hF1 => ?_)
    have ox208 : x208.toInt ≠ 0 → q 29 = 3 ∧ 97 ≤ x208.toInt := ox208
    have l1x208 := ix208.1; have l2x208 := ix208.2
    refine lv_istore (lv' := [(4, .int x208), (3, .int x207), (2, .int 0), (0, .ref a0)]) hx hb dX11_unit_68 hl (by decide) rfl (fun ls hl => ?_)
    refine lv_aload_n hx hb dX11_unit_70 rfl (lv_at hl 3 rfl) ?_
    refine th_get S hK hH inG11 t0 km_0 rfl 16 (by decide) gm_1246 rfl rfl dX11_unit_71 (fun v209 hv209 fv209 => ?_)
    obtain ⟨rf210, rfl, trf210⟩ := th_V.ref hv209
    refine lv_aload_n hx hb dX11_unit_74 rfl (lv_at hl 3 rfl) ?_
    refine th_get S hK hH inG11 t0 km_0 rfl 42 (by decide) gm_1272 rfl rfl dX11_unit_75 (fun v211 hv211 fv211 => ?_)
    obtain ⟨x212, rfl, ix212⟩ := th_V.int hv211
    have kx212a : q 13 ≤ x212.toInt := ix212.1
    have kx212b : x212.toInt ≤ q 13 := ix212.2
    have bx212 := qkm_13 hq
    have ix212 : IV x212 0 1 := iv_w ix212 (qkm_13 hq)
    refine th_iald S hK hH trf210 km_8 (th_in (hi := 1) ix212 (by decide)) dX11_unit_78 (fun v213 hv213 => ?_)
    obtain ⟨x214, rfl, ix214⟩ := th_bkB hv213 ix212 (by omega)
    have kx214a : q 24 ≤ x214.toInt := ix214.1
    have kx214b : x214.toInt ≤ q 24 := ix214.2
    have bx214 := qkm_24 hq
    have ix214 : IV x214 0 90 := iv_w ix214 (qkm_24 hq)
    refine lv_bipush (v := 90) hx hb dX11_unit_79 (by decide) ?_
    refine lv_icmp_eq (tgt := 93) hx hb dX11_unit_81 (by decide) (fun c215 => ?_) (fun c215 => ?_)
    · skip
      have rlc215 : x214.toInt = (90 : Int) := congrArg Int32.toInt c215
      have ir216 : IV x214 90 90 := ⟨(iv_eL c215 (iv_c (by decide) : IV 90 90 90)).1, ix214.2⟩
      have ir216a := ir216.1; have ir216b := ir216.2
      refine lv_iconst (v := 1) hx hb dX11_unit_93 (by decide) ?_
      refine lv_goto (tgt := 98) hx hb dX11_unit_94 (by decide) ?_
      exact J98_s0_1_l2_0 H locs ls x207 x208 ix207 ix208 (show x207.toInt ≠ 0 → q 29 = 5 by omega) (show x208.toInt ≠ 0 → q 29 = 3 ∧ 97 ≤ x208.toInt by omega) hH hS (lv_sub hl [3, 2, 1, 0] rfl)
    · skip
      have rlc215 : x214.toInt ≠ (90 : Int) := iv_ne c215
      have ir217 : IV x214 0 89 := iv_cutH ix214 (iv_c (by decide) : IV 90 90 90) c215 (by decide)
      have ir217a := ir217.1; have ir217b := ir217.2
      refine lv_aload_n hx hb dX11_unit_84 rfl (lv_at hl 3 rfl) ?_
      refine th_get S hK hH inG11 t0 km_0 rfl 46 (by decide) gm_1276 rfl rfl dX11_unit_85 (fun v218 hv218 fv218 => ?_)
      obtain ⟨x219, rfl, ix219⟩ := th_V.int hv218
      have kx219a : q 23 ≤ x219.toInt := ix219.1
      have kx219b : x219.toInt ≤ q 23 := ix219.2
      have bx219 := qkm_23 hq
      have ix219 : IV x219 0 30 := iv_w ix219 (qkm_23 hq)
      refine lv_bipush (v := 30) hx hb dX11_unit_88 (by decide) ?_
      refine lv_icmp_ne (tgt := 97) hx hb dX11_unit_90 (by decide) (fun c220 => ?_) (fun c220 => ?_)
      · skip
        have rlc220 : x219.toInt ≠ (30 : Int) := iv_ne c220
        have ir221 : IV x219 0 29 := iv_cutH ix219 (iv_c (by decide) : IV 30 30 30) c220 (by decide)
        have ir221a := ir221.1; have ir221b := ir221.2
        refine lv_iconst (v := 0) hx hb dX11_unit_97 (by decide) ?_
        exact J98_s0_0_l2_0 H locs ls x207 x208 ix207 ix208 (show x207.toInt ≠ 0 → q 29 = 5 by omega) (show x208.toInt ≠ 0 → q 29 = 3 ∧ 97 ≤ x208.toInt by omega) (show q 24 ≠ 90 ∧ q 23 ≠ 30 by omega) hH hS (lv_sub hl [3, 2, 1, 0] rfl)
      · skip
        have rlc220 : x219.toInt = (30 : Int) := congrArg Int32.toInt c220
        have ir222 : IV x219 30 30 := ⟨(iv_eL c220 (iv_c (by decide) : IV 30 30 30)).1, ix219.2⟩
        have ir222a := ir222.1; have ir222b := ir222.2
        refine lv_iconst (v := 1) hx hb dX11_unit_93 (by decide) ?_
        refine lv_goto (tgt := 98) hx hb dX11_unit_94 (by decide) ?_
        exact J98_s0_1_l2_0 H locs ls x207 x208 ix207 ix208 (show x207.toInt ≠ 0 → q 29 = 5 by omega) (show x208.toInt ≠ 0 → q 29 = 3 ∧ 97 ≤ x208.toInt by omega) hH hS (lv_sub hl [3, 2, 1, 0] rfl)
  have J56_s0_1 : ∀ (H : Heap) (locs : List Loc) (ls : Array Slot), (q 29 = 3 ∧ q 31 = 7237492) → th_H D cT T (km q) H → va_S (th_A T [0, 8, 28, 29, 30, 31]) s.heap H locs → lv_has ls 7 [(0, .ref a0)] → W p l e (rmk 2 44) s m [.ref a0].toArray below meth c H locs 0 0 (MQ below (th_QM D cT T (fun v q2 => ∃ r : Int32, v = some (.int r) ∧ IV r 0 1 ∧ qkm q2 ∧ fr [20, 21, 22, 23, 24, 27, 28, 29, 30, 31, 1000] q q2 ∧ ((q2 29 = 0 ∧ q2 27 = q2 26 ∧ q2 28 = q2 26) ∨ (1 ≤ q2 29 ∧ q2 27 < q2 28 ∧ q2 28 ≤ q2 26)) ∧ (q2 30 = 0 → NL q2) ∧ (q2 30 = 0 → q2 29 = 3 → q2 31 = 7237492 → q2 27 + 3 ≤ q2 28) ∧ (q 27 ≤ q2 27) ∧ (q2 30 = 0 → 2 * q 27 + q2 21 < 2 * q2 27 + q 21) ∧ (kp q q2 (q 35)) ∧ (q2 30 = 0 → r.toInt ≠ 0 → RS q2 1 ∧ 1 ≤ q2 21) ∧ (q2 30 = 0 → r.toInt = 0 → RS q2 0)) [0, 8, 28, 29, 30, 31]) [.ref a0].toArray s 0 0 (th_A T [0, 8, 28, 29, 30, 31])) (F0 m 56 ls [.int 1]) := by
    intro H locs ls v56_inv0 hH hS hl
    refine lv_istore_n (lv' := [(2, .int 1), (0, .ref a0)]) hx hb dX11_unit_56 rfl hl (by decide) rfl (fun ls hl => ?_)
    refine lv_aload_n hx hb dX11_unit_57 rfl (lv_at hl 1 rfl) ?_
    refine lv_bipush (v := 40) hx hb dX11_unit_58 (by decide) ?_
    refine th_callVp (n := 1) (As := [.int 40]) S hK hH hS (th_A.sub (by decide)) (m_X11_isSignHere l D cT T q hT hq a0 t0 (40) (iv_top _)) gm_1563 gm_1560 gm_1562 gm_68 gm_124 (by decide +kernel) ⟨rfl, rfl, Nat.le_of_ble_eq_true rfl, Nat.le_of_ble_eq_true rfl⟩ t0 km_0 rfl rfl hl.1 rfl (Nat.le_of_ble_eq_true rfl) dX11_unit_60 ⟨Nat.zero_le _, Nat.zero_le _⟩ (fun x223 H locs ix223 ox223 hH hS hF1 => ?_)
    have ox223 : x223.toInt ≠ 0 → q 29 = 5 ∧ sg q (q 27) = (40 : Int) := ox223
    have l1x223 := ix223.1; have l2x223 := ix223.2
    refine lv_istore_n (lv' := [(3, .int x223), (2, .int 1), (0, .ref a0)]) hx hb dX11_unit_63 rfl hl (by decide) rfl (fun ls hl => ?_)
    refine lv_aload_n hx hb dX11_unit_64 rfl (lv_at hl 2 rfl) ?_
    refine th_callVp (n := 0) (As := []) S hK hH hS (th_A.sub (by decide)) (m_X11_wordHere l D cT T q hT hq a0 t0) gm_1567 gm_1564 gm_1566 gm_69 gm_124 (by decide +kernel) ⟨rfl, rfl, Nat.le_of_ble_eq_true rfl, Nat.le_of_ble_eq_true rfl⟩ t0 km_0 rfl rfl hl.1 rfl (Nat.le_of_ble_eq_true rfl) dX11_unit_65 ⟨Nat.zero_le _, Nat.zero_le _⟩ (fun x224 H locs ix224 ox224 hH hS hF1 => ?_)
    have ox224 : x224.toInt ≠ 0 → q 29 = 3 ∧ 97 ≤ x224.toInt := ox224
    have l1x224 := ix224.1; have l2x224 := ix224.2
    refine lv_istore (lv' := [(4, .int x224), (3, .int x223), (2, .int 1), (0, .ref a0)]) hx hb dX11_unit_68 hl (by decide) rfl (fun ls hl => ?_)
    refine lv_aload_n hx hb dX11_unit_70 rfl (lv_at hl 3 rfl) ?_
    refine th_get S hK hH inG11 t0 km_0 rfl 16 (by decide) gm_1246 rfl rfl dX11_unit_71 (fun v225 hv225 fv225 => ?_)
    obtain ⟨rf226, rfl, trf226⟩ := th_V.ref hv225
    refine lv_aload_n hx hb dX11_unit_74 rfl (lv_at hl 3 rfl) ?_
    refine th_get S hK hH inG11 t0 km_0 rfl 42 (by decide) gm_1272 rfl rfl dX11_unit_75 (fun v227 hv227 fv227 => ?_)
    obtain ⟨x228, rfl, ix228⟩ := th_V.int hv227
    have kx228a : q 13 ≤ x228.toInt := ix228.1
    have kx228b : x228.toInt ≤ q 13 := ix228.2
    have bx228 := qkm_13 hq
    have ix228 : IV x228 0 1 := iv_w ix228 (qkm_13 hq)
    refine th_iald S hK hH trf226 km_8 (th_in (hi := 1) ix228 (by decide)) dX11_unit_78 (fun v229 hv229 => ?_)
    obtain ⟨x230, rfl, ix230⟩ := th_bkB hv229 ix228 (by omega)
    have kx230a : q 24 ≤ x230.toInt := ix230.1
    have kx230b : x230.toInt ≤ q 24 := ix230.2
    have bx230 := qkm_24 hq
    have ix230 : IV x230 0 90 := iv_w ix230 (qkm_24 hq)
    refine lv_bipush (v := 90) hx hb dX11_unit_79 (by decide) ?_
    refine lv_icmp_eq (tgt := 93) hx hb dX11_unit_81 (by decide) (fun c231 => ?_) (fun c231 => ?_)
    · skip
      have rlc231 : x230.toInt = (90 : Int) := congrArg Int32.toInt c231
      have ir232 : IV x230 90 90 := ⟨(iv_eL c231 (iv_c (by decide) : IV 90 90 90)).1, ix230.2⟩
      have ir232a := ir232.1; have ir232b := ir232.2
      refine lv_iconst (v := 1) hx hb dX11_unit_93 (by decide) ?_
      refine lv_goto (tgt := 98) hx hb dX11_unit_94 (by decide) ?_
      exact J98_s0_1_l2_1 H locs ls x223 x224 ix223 ix224 (show x223.toInt ≠ 0 → q 29 = 5 by omega) (show x224.toInt ≠ 0 → q 29 = 3 ∧ 97 ≤ x224.toInt by omega) (show q 29 = 3 ∧ q 31 = 7237492 by omega) hH hS (lv_sub hl [3, 2, 1, 0] rfl)
    · skip
      have rlc231 : x230.toInt ≠ (90 : Int) := iv_ne c231
      have ir233 : IV x230 0 89 := iv_cutH ix230 (iv_c (by decide) : IV 90 90 90) c231 (by decide)
      have ir233a := ir233.1; have ir233b := ir233.2
      refine lv_aload_n hx hb dX11_unit_84 rfl (lv_at hl 3 rfl) ?_
      refine th_get S hK hH inG11 t0 km_0 rfl 46 (by decide) gm_1276 rfl rfl dX11_unit_85 (fun v234 hv234 fv234 => ?_)
      obtain ⟨x235, rfl, ix235⟩ := th_V.int hv234
      have kx235a : q 23 ≤ x235.toInt := ix235.1
      have kx235b : x235.toInt ≤ q 23 := ix235.2
      have bx235 := qkm_23 hq
      have ix235 : IV x235 0 30 := iv_w ix235 (qkm_23 hq)
      refine lv_bipush (v := 30) hx hb dX11_unit_88 (by decide) ?_
      refine lv_icmp_ne (tgt := 97) hx hb dX11_unit_90 (by decide) (fun c236 => ?_) (fun c236 => ?_)
      · skip
        have rlc236 : x235.toInt ≠ (30 : Int) := iv_ne c236
        have ir237 : IV x235 0 29 := iv_cutH ix235 (iv_c (by decide) : IV 30 30 30) c236 (by decide)
        have ir237a := ir237.1; have ir237b := ir237.2
        refine lv_iconst (v := 0) hx hb dX11_unit_97 (by decide) ?_
        exact J98_s0_0_l2_1 H locs ls x223 x224 ix223 ix224 (show x223.toInt ≠ 0 → q 29 = 5 by omega) (show x224.toInt ≠ 0 → q 29 = 3 ∧ 97 ≤ x224.toInt by omega) (show q 29 = 3 ∧ q 31 = 7237492 by omega) (show q 24 ≠ 90 ∧ q 23 ≠ 30 by omega) hH hS (lv_sub hl [3, 2, 1, 0] rfl)
      · skip
        have rlc236 : x235.toInt = (30 : Int) := congrArg Int32.toInt c236
        have ir238 : IV x235 30 30 := ⟨(iv_eL c236 (iv_c (by decide) : IV 30 30 30)).1, ix235.2⟩
        have ir238a := ir238.1; have ir238b := ir238.2
        refine lv_iconst (v := 1) hx hb dX11_unit_93 (by decide) ?_
        refine lv_goto (tgt := 98) hx hb dX11_unit_94 (by decide) ?_
        exact J98_s0_1_l2_1 H locs ls x223 x224 ix223 ix224 (show x223.toInt ≠ 0 → q 29 = 5 by omega) (show x224.toInt ≠ 0 → q 29 = 3 ∧ 97 ≤ x224.toInt by omega) (show q 29 = 3 ∧ q 31 = 7237492 by omega) hH hS (lv_sub hl [3, 2, 1, 0] rfl)
  have J36_s0_0 : ∀ (H : Heap) (locs : List Loc) (ls : Array Slot), th_H D cT T (km q) H → va_S (th_A T [0, 8, 28, 29, 30, 31]) s.heap H locs → lv_has ls 7 [(0, .ref a0)] → W p l e (rmk 2 44) s m [.ref a0].toArray below meth c H locs 0 0 (MQ below (th_QM D cT T (fun v q2 => ∃ r : Int32, v = some (.int r) ∧ IV r 0 1 ∧ qkm q2 ∧ fr [20, 21, 22, 23, 24, 27, 28, 29, 30, 31, 1000] q q2 ∧ ((q2 29 = 0 ∧ q2 27 = q2 26 ∧ q2 28 = q2 26) ∨ (1 ≤ q2 29 ∧ q2 27 < q2 28 ∧ q2 28 ≤ q2 26)) ∧ (q2 30 = 0 → NL q2) ∧ (q2 30 = 0 → q2 29 = 3 → q2 31 = 7237492 → q2 27 + 3 ≤ q2 28) ∧ (q 27 ≤ q2 27) ∧ (q2 30 = 0 → 2 * q 27 + q2 21 < 2 * q2 27 + q 21) ∧ (kp q q2 (q 35)) ∧ (q2 30 = 0 → r.toInt ≠ 0 → RS q2 1 ∧ 1 ≤ q2 21) ∧ (q2 30 = 0 → r.toInt = 0 → RS q2 0)) [0, 8, 28, 29, 30, 31]) [.ref a0].toArray s 0 0 (th_A T [0, 8, 28, 29, 30, 31])) (F0 m 36 ls [.int 0]) := by
    intro H locs ls hH hS hl
    refine lv_istore_n (lv' := [(1, .int 0), (0, .ref a0)]) hx hb dX11_unit_36 rfl hl (by decide) rfl (fun ls hl => ?_)
    refine lv_iload_n hx hb dX11_unit_37 rfl (lv_at hl 0 rfl) ?_
    refine lv_if_eq (tgt := 55) hx hb dX11_unit_38 (by decide) (fun c239 => ?_) (fun c239 => ?_)
    · skip
      have rlc239 : (0 : Int) = (0 : Int) := congrArg Int32.toInt c239
      refine lv_iconst (v := 0) hx hb dX11_unit_55 (by decide) ?_
      exact J56_s0_0 H locs ls  hH hS (lv_sub hl [1] rfl)
    · skip
      have rlc239 : (0 : Int) ≠ (0 : Int) := iv_ne c239
      exact absurd (iv_eqc (iv_c (by decide) : IV 0 0 0) (iv_c (by decide) : IV 0 0 0)) c239
  have J36_s0_1 : ∀ (H : Heap) (locs : List Loc) (ls : Array Slot), th_H D cT T (km q) H → va_S (th_A T [0, 8, 28, 29, 30, 31]) s.heap H locs → lv_has ls 7 [(0, .ref a0)] → W p l e (rmk 2 44) s m [.ref a0].toArray below meth c H locs 0 0 (MQ below (th_QM D cT T (fun v q2 => ∃ r : Int32, v = some (.int r) ∧ IV r 0 1 ∧ qkm q2 ∧ fr [20, 21, 22, 23, 24, 27, 28, 29, 30, 31, 1000] q q2 ∧ ((q2 29 = 0 ∧ q2 27 = q2 26 ∧ q2 28 = q2 26) ∨ (1 ≤ q2 29 ∧ q2 27 < q2 28 ∧ q2 28 ≤ q2 26)) ∧ (q2 30 = 0 → NL q2) ∧ (q2 30 = 0 → q2 29 = 3 → q2 31 = 7237492 → q2 27 + 3 ≤ q2 28) ∧ (q 27 ≤ q2 27) ∧ (q2 30 = 0 → 2 * q 27 + q2 21 < 2 * q2 27 + q 21) ∧ (kp q q2 (q 35)) ∧ (q2 30 = 0 → r.toInt ≠ 0 → RS q2 1 ∧ 1 ≤ q2 21) ∧ (q2 30 = 0 → r.toInt = 0 → RS q2 0)) [0, 8, 28, 29, 30, 31]) [.ref a0].toArray s 0 0 (th_A T [0, 8, 28, 29, 30, 31])) (F0 m 36 ls [.int 1]) := by
    intro H locs ls hH hS hl
    refine lv_istore_n (lv' := [(1, .int 1), (0, .ref a0)]) hx hb dX11_unit_36 rfl hl (by decide) rfl (fun ls hl => ?_)
    refine lv_iload_n hx hb dX11_unit_37 rfl (lv_at hl 0 rfl) ?_
    refine lv_if_eq (tgt := 55) hx hb dX11_unit_38 (by decide) (fun c240 => ?_) (fun c240 => ?_)
    · skip
      have rlc240 : (1 : Int) = (0 : Int) := congrArg Int32.toInt c240
      exfalso
      have z1 := congrArg Int32.toInt c240
      have z2 := ((iv_c (by decide) : IV 1 1 1)).1
      have z3 := ((iv_c (by decide) : IV 1 1 1)).2
      have z4 := ((iv_c (by decide) : IV 0 0 0)).1
      have z5 := ((iv_c (by decide) : IV 0 0 0)).2
      omega
    · skip
      have rlc240 : (1 : Int) ≠ (0 : Int) := iv_ne c240
      refine lv_aload_n hx hb dX11_unit_41 rfl (lv_at hl 1 rfl) ?_
      refine lv_ldc2 (v := 7237492) hx hb S.2.2.2.1 (S.2.2.2.2 _ gm_1477) dX11_unit_42 ?_
      refine th_callVp (n := 1) (As := [.long 7237492]) S hK hH hS (th_A.sub (by decide)) (m_X11_isWord l D cT T q hT hq a0 t0 (7237492)) gm_1499 gm_1496 gm_1498 gm_52 gm_124 (by decide +kernel) ⟨rfl, rfl, Nat.le_of_ble_eq_true rfl, Nat.le_of_ble_eq_true rfl⟩ t0 km_0 rfl rfl hl.1 rfl (Nat.le_of_ble_eq_true rfl) dX11_unit_45 ⟨Nat.zero_le _, Nat.zero_le _⟩ (fun x241 H locs ix241 ox241 hH hS hF1 => ?_)
      obtain ⟨ox241_0, ox241_1⟩ := ox241
      have ox241_0 : x241.toInt ≠ 0 → q 29 = 3 ∧ q 31 = (7237492 : Int) := ox241_0
      have ox241_1 : x241.toInt = 0 → q 29 ≠ 3 ∨ q 31 ≠ (7237492 : Int) := ox241_1
      have l1x241 := ix241.1; have l2x241 := ix241.2
      refine lv_if_eq (tgt := 55) hx hb dX11_unit_48 (by decide) (fun c242 => ?_) (fun c242 => ?_)
      · skip
        have rlc242 : x241.toInt = (0 : Int) := congrArg Int32.toInt c242
        have ir243 : IV x241 0 0 := iv_eL c242 (iv_c (by decide) : IV 0 0 0)
        have ir243a := ir243.1; have ir243b := ir243.2
        refine lv_iconst (v := 0) hx hb dX11_unit_55 (by decide) ?_
        exact J56_s0_0 H locs ls  hH hS (lv_sub hl [1] rfl)
      · skip
        have rlc242 : x241.toInt ≠ (0 : Int) := iv_ne c242
        have ir244 : IV x241 1 1 := iv_cutL ix241 (iv_c (by decide) : IV 0 0 0) c242 (by decide)
        have ir244a := ir244.1; have ir244b := ir244.2
        refine lv_iconst (v := 1) hx hb dX11_unit_51 (by decide) ?_
        refine lv_goto (tgt := 56) hx hb dX11_unit_52 (by decide) ?_
        exact J56_s0_1 H locs ls (show q 29 = 3 ∧ q 31 = 7237492 by omega) hH hS (lv_sub hl [1] rfl)
  have J0 : ∀ (H : Heap) (locs : List Loc) (ls : Array Slot), th_H D cT T (km q) H → va_S (th_A T [0, 8, 28, 29, 30, 31]) s.heap H locs → lv_has ls 7 [(0, .ref a0)] → W p l e (rmk 2 44) s m [.ref a0].toArray below meth c H locs 0 0 (MQ below (th_QM D cT T (fun v q2 => ∃ r : Int32, v = some (.int r) ∧ IV r 0 1 ∧ qkm q2 ∧ fr [20, 21, 22, 23, 24, 27, 28, 29, 30, 31, 1000] q q2 ∧ ((q2 29 = 0 ∧ q2 27 = q2 26 ∧ q2 28 = q2 26) ∨ (1 ≤ q2 29 ∧ q2 27 < q2 28 ∧ q2 28 ≤ q2 26)) ∧ (q2 30 = 0 → NL q2) ∧ (q2 30 = 0 → q2 29 = 3 → q2 31 = 7237492 → q2 27 + 3 ≤ q2 28) ∧ (q 27 ≤ q2 27) ∧ (q2 30 = 0 → 2 * q 27 + q2 21 < 2 * q2 27 + q 21) ∧ (kp q q2 (q 35)) ∧ (q2 30 = 0 → r.toInt ≠ 0 → RS q2 1 ∧ 1 ≤ q2 21) ∧ (q2 30 = 0 → r.toInt = 0 → RS q2 0)) [0, 8, 28, 29, 30, 31]) [.ref a0].toArray s 0 0 (th_A T [0, 8, 28, 29, 30, 31])) (F0 m 0 ls []) := by
    intro H locs ls hH hS hl
    refine lv_aload_n hx hb dX11_unit_0 rfl (lv_at hl 0 rfl) ?_
    refine th_get S hK hH inG11 t0 km_0 rfl 38 (by decide) gm_1268 rfl rfl dX11_unit_1 (fun v245 hv245 fv245 => ?_)
    obtain ⟨rf246, rfl, trf246⟩ := th_V.ref hv245
    refine lv_aload_n hx hb dX11_unit_4 rfl (lv_at hl 0 rfl) ?_
    refine th_get S hK hH inG11 t0 km_0 rfl 45 (by decide) gm_1275 rfl rfl dX11_unit_5 (fun v247 hv247 fv247 => ?_)
    obtain ⟨x248, rfl, ix248⟩ := th_V.int hv247
    have kx248a : q 21 ≤ x248.toInt := ix248.1
    have kx248b : x248.toInt ≤ q 21 := ix248.2
    have bx248 := qkm_21 hq
    have ix248 : IV x248 1 90 := iv_w ix248 ⟨by omega, by omega⟩
    refine lv_iconst (v := 1) hx hb dX11_unit_8 (by decide) ?_
    refine lv_isub hx hb dX11_unit_9 ?_
    refine lv_topi (fun x249 ex249 => ?_)
    have ix249 : IV x249 0 89 := by rw [ex249]; exact iv_sub ix248 (iv_c (by decide) : IV 1 1 1) (by decide)
    have ux249 : x249.toInt = x248.toInt - (1 : Int) := by rw [ex249]; exact iv_subE (by have z1 := (ix248).1; have z2 := (ix248).2; have z3 := ((iv_c (by decide) : IV 1 1 1)).1; have z4 := ((iv_c (by decide) : IV 1 1 1)).2; omega)
    refine th_iald S hK hH trf246 km_30 (th_in (hi := 89) ix249 (by decide)) dX11_unit_10 (fun v250 hv250 => ?_)
    obtain ⟨x251, rfl, kx251⟩ := th_eaR hv250 (th_lt (th_in (hi := 89) ix249 (by decide)))
    have ix251 := iv_top x251
    have jx251 := th_nat (hi := 89) ix249
    refine lv_iconst (v := 3) hx hb dX11_unit_11 (by decide) ?_
    refine lv_icmp_le (tgt := 31) hx hb dX11_unit_12 (by decide) (fun c252 => ?_) (fun c252 => ?_)
    · skip
      have rlc252 : x251.toInt ≤ (3 : Int) := iv_le c252
      have ir253 : IV x251 (-2147483648) 3 := iv_vL ix251 (iv_c (by decide) : IV 3 3 3) (iv_le c252) (by decide)
      have ir253a := ir253.1; have ir253b := ir253.2
      refine lv_iconst (v := 1) hx hb dX11_unit_31 (by decide) ?_
      refine lv_goto (tgt := 36) hx hb dX11_unit_32 (by decide) ?_
      exact J36_s0_1 H locs ls  hH hS (lv_sub hl [0] rfl)
    · skip
      have rlc252 : (3 : Int) < x251.toInt := iv_nle c252
      have ir254 : IV x251 4 2147483647 := iv_uR (iv_c (by decide) : IV 3 3 3) ix251 (iv_nle c252) (by decide)
      have ir254a := ir254.1; have ir254b := ir254.2
      refine lv_aload_n hx hb dX11_unit_15 rfl (lv_at hl 0 rfl) ?_
      refine th_getK S hK fv245 inG11 rfl (by decide) gm_1268 rfl dX11_unit_16 ?_
      refine lv_aload_n hx hb dX11_unit_19 rfl (lv_at hl 0 rfl) ?_
      refine th_get S hK hH inG11 t0 km_0 rfl 45 (by decide) gm_1275 rfl rfl dX11_unit_20 (fun v256 hv256 fv256 => ?_)
      obtain ⟨x257, rfl, ix257⟩ := th_V.int hv256
      have kx257a : q 21 ≤ x257.toInt := ix257.1
      have kx257b : x257.toInt ≤ q 21 := ix257.2
      have bx257 := qkm_21 hq
      have ix257 : IV x257 1 90 := iv_w ix257 ⟨by omega, by omega⟩
      refine lv_iconst (v := 1) hx hb dX11_unit_23 (by decide) ?_
      refine lv_isub hx hb dX11_unit_24 ?_
      refine lv_topi (fun x258 ex258 => ?_)
      have ix258 : IV x258 0 89 := by rw [ex258]; exact iv_sub ix257 (iv_c (by decide) : IV 1 1 1) (by decide)
      have ux258 : x258.toInt = x257.toInt - (1 : Int) := by rw [ex258]; exact iv_subE (by have z1 := (ix257).1; have z2 := (ix257).2; have z3 := ((iv_c (by decide) : IV 1 1 1)).1; have z4 := ((iv_c (by decide) : IV 1 1 1)).2; omega)
      refine th_iald S hK hH trf246 km_30 (th_in (hi := 89) ix258 (by decide)) dX11_unit_25 (fun v259 hv259 => ?_)
      obtain ⟨x260, rfl, kx260⟩ := th_eaR hv259 (th_lt (th_in (hi := 89) ix258 (by decide)))
      have ix260 := iv_top x260
      have jx260 := th_nat (hi := 89) ix258
      refine lv_bipush (v := 7) hx hb dX11_unit_26 (by decide) ?_
      refine lv_icmp_lt (tgt := 35) hx hb dX11_unit_28 (by decide) (fun c261 => ?_) (fun c261 => ?_)
      · skip
        have rlc261 : x260.toInt < (7 : Int) := iv_lt c261
        have ir262 : IV x260 (-2147483648) 6 := iv_uL ix260 (iv_c (by decide) : IV 7 7 7) (iv_lt c261) (by decide)
        have ir262a := ir262.1; have ir262b := ir262.2
        refine lv_iconst (v := 0) hx hb dX11_unit_35 (by decide) ?_
        exact J36_s0_0 H locs ls  hH hS (lv_sub hl [0] rfl)
      · skip
        have rlc261 : (7 : Int) ≤ x260.toInt := iv_nlt c261
        have ir263 : IV x260 7 2147483647 := iv_vR (iv_c (by decide) : IV 7 7 7) ix260 (iv_nlt c261) (by decide)
        have ir263a := ir263.1; have ir263b := ir263.2
        refine lv_iconst (v := 1) hx hb dX11_unit_31 (by decide) ?_
        refine lv_goto (tgt := 36) hx hb dX11_unit_32 (by decide) ?_
        exact J36_s0_1 H locs ls  hH hS (lv_sub hl [0] rfl)
  exact J0 s.heap [] ls hH va_S.rf hl
