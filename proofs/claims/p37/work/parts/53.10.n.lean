theorem dX11_isFull_0 : decode cX11_isFull 0 = .ok (.aload_n 0, 1) := by decide +kernel
theorem dX11_isFull_1 : decode cX11_isFull 1 = .ok (.ldc2_w 161, 3) := by decide +kernel
theorem dX11_isFull_4 : decode cX11_isFull 4 = .ok (.invokevirtual 253, 3) := by decide +kernel
theorem dX11_isFull_7 : decode cX11_isFull 7 = .ok (.ifCond .eq 22, 3) := by decide +kernel
theorem dX11_isFull_10 : decode cX11_isFull 10 = .ok (.aload_n 0, 1) := by decide +kernel
theorem dX11_isFull_11 : decode cX11_isFull 11 = .ok (.getfield 20, 3) := by decide +kernel
theorem dX11_isFull_14 : decode cX11_isFull 14 = .ok (.aload_n 0, 1) := by decide +kernel
theorem dX11_isFull_15 : decode cX11_isFull 15 = .ok (.getfield 264, 3) := by decide +kernel
theorem dX11_isFull_18 : decode cX11_isFull 18 = .ok (.iaload, 1) := by decide +kernel
theorem dX11_isFull_19 : decode cX11_isFull 19 = .ok (.iconst 3, 1) := by decide +kernel
theorem dX11_isFull_20 : decode cX11_isFull 20 = .ok (.if_icmp .ne 7, 3) := by decide +kernel
theorem dX11_isFull_23 : decode cX11_isFull 23 = .ok (.iconst 1, 1) := by decide +kernel
theorem dX11_isFull_24 : decode cX11_isFull 24 = .ok (.goto 4, 3) := by decide +kernel
theorem dX11_isFull_27 : decode cX11_isFull 27 = .ok (.iconst 0, 1) := by decide +kernel
theorem dX11_isFull_28 : decode cX11_isFull 28 = .ok (.ireturn, 1) := by decide +kernel
theorem dX11_isFull_29 : decode cX11_isFull 29 = .ok (.aload_n 0, 1) := by decide +kernel
theorem dX11_isFull_30 : decode cX11_isFull 30 = .ok (.ldc2_w 163, 3) := by decide +kernel
theorem dX11_isFull_33 : decode cX11_isFull 33 = .ok (.invokevirtual 253, 3) := by decide +kernel
theorem dX11_isFull_36 : decode cX11_isFull 36 = .ok (.ifCond .eq 22, 3) := by decide +kernel
theorem dX11_isFull_39 : decode cX11_isFull 39 = .ok (.aload_n 0, 1) := by decide +kernel
theorem dX11_isFull_40 : decode cX11_isFull 40 = .ok (.getfield 24, 3) := by decide +kernel
theorem dX11_isFull_43 : decode cX11_isFull 43 = .ok (.aload_n 0, 1) := by decide +kernel
theorem dX11_isFull_44 : decode cX11_isFull 44 = .ok (.getfield 264, 3) := by decide +kernel
theorem dX11_isFull_47 : decode cX11_isFull 47 = .ok (.iaload, 1) := by decide +kernel
theorem dX11_isFull_48 : decode cX11_isFull 48 = .ok (.iconst 4, 1) := by decide +kernel
theorem dX11_isFull_49 : decode cX11_isFull 49 = .ok (.if_icmp .ne 7, 3) := by decide +kernel
theorem dX11_isFull_52 : decode cX11_isFull 52 = .ok (.iconst 1, 1) := by decide +kernel
theorem dX11_isFull_53 : decode cX11_isFull 53 = .ok (.goto 4, 3) := by decide +kernel
theorem dX11_isFull_56 : decode cX11_isFull 56 = .ok (.iconst 0, 1) := by decide +kernel
theorem dX11_isFull_57 : decode cX11_isFull 57 = .ok (.ireturn, 1) := by decide +kernel
theorem dX11_isFull_58 : decode cX11_isFull 58 = .ok (.aload_n 0, 1) := by decide +kernel
theorem dX11_isFull_59 : decode cX11_isFull 59 = .ok (.ldc2_w 173, 3) := by decide +kernel
theorem dX11_isFull_62 : decode cX11_isFull 62 = .ok (.invokevirtual 253, 3) := by decide +kernel
theorem dX11_isFull_65 : decode cX11_isFull 65 = .ok (.ifCond .eq 23, 3) := by decide +kernel
theorem dX11_isFull_68 : decode cX11_isFull 68 = .ok (.aload_n 0, 1) := by decide +kernel
theorem dX11_isFull_69 : decode cX11_isFull 69 = .ok (.getfield 27, 3) := by decide +kernel
theorem dX11_isFull_72 : decode cX11_isFull 72 = .ok (.aload_n 0, 1) := by decide +kernel
theorem dX11_isFull_73 : decode cX11_isFull 73 = .ok (.getfield 264, 3) := by decide +kernel
theorem dX11_isFull_76 : decode cX11_isFull 76 = .ok (.iaload, 1) := by decide +kernel
theorem dX11_isFull_77 : decode cX11_isFull 77 = .ok (.bipush 8, 2) := by decide +kernel
theorem dX11_isFull_79 : decode cX11_isFull 79 = .ok (.if_icmp .ne 7, 3) := by decide +kernel
theorem dX11_isFull_82 : decode cX11_isFull 82 = .ok (.iconst 1, 1) := by decide +kernel
theorem dX11_isFull_83 : decode cX11_isFull 83 = .ok (.goto 4, 3) := by decide +kernel
theorem dX11_isFull_86 : decode cX11_isFull 86 = .ok (.iconst 0, 1) := by decide +kernel
theorem dX11_isFull_87 : decode cX11_isFull 87 = .ok (.ireturn, 1) := by decide +kernel
theorem dX11_isFull_88 : decode cX11_isFull 88 = .ok (.aload_n 0, 1) := by decide +kernel
theorem dX11_isFull_89 : decode cX11_isFull 89 = .ok (.ldc2_w 181, 3) := by decide +kernel
theorem dX11_isFull_92 : decode cX11_isFull 92 = .ok (.invokevirtual 253, 3) := by decide +kernel
theorem dX11_isFull_95 : decode cX11_isFull 95 = .ok (.ifCond .eq 23, 3) := by decide +kernel
theorem dX11_isFull_98 : decode cX11_isFull 98 = .ok (.aload_n 0, 1) := by decide +kernel
theorem dX11_isFull_99 : decode cX11_isFull 99 = .ok (.getfield 30, 3) := by decide +kernel
theorem dX11_isFull_102 : decode cX11_isFull 102 = .ok (.aload_n 0, 1) := by decide +kernel
theorem dX11_isFull_103 : decode cX11_isFull 103 = .ok (.getfield 264, 3) := by decide +kernel
theorem dX11_isFull_106 : decode cX11_isFull 106 = .ok (.iaload, 1) := by decide +kernel
theorem dX11_isFull_107 : decode cX11_isFull 107 = .ok (.bipush 12, 2) := by decide +kernel
theorem dX11_isFull_109 : decode cX11_isFull 109 = .ok (.if_icmp .ne 7, 3) := by decide +kernel
theorem dX11_isFull_112 : decode cX11_isFull 112 = .ok (.iconst 1, 1) := by decide +kernel
theorem dX11_isFull_113 : decode cX11_isFull 113 = .ok (.goto 4, 3) := by decide +kernel
theorem dX11_isFull_116 : decode cX11_isFull 116 = .ok (.iconst 0, 1) := by decide +kernel
theorem dX11_isFull_117 : decode cX11_isFull 117 = .ok (.ireturn, 1) := by decide +kernel
theorem dX11_isFull_118 : decode cX11_isFull 118 = .ok (.aload_n 0, 1) := by decide +kernel
theorem dX11_isFull_119 : decode cX11_isFull 119 = .ok (.ldc2_w 183, 3) := by decide +kernel
theorem dX11_isFull_122 : decode cX11_isFull 122 = .ok (.invokevirtual 253, 3) := by decide +kernel
theorem dX11_isFull_125 : decode cX11_isFull 125 = .ok (.ifCond .eq 23, 3) := by decide +kernel
theorem dX11_isFull_128 : decode cX11_isFull 128 = .ok (.aload_n 0, 1) := by decide +kernel
theorem dX11_isFull_129 : decode cX11_isFull 129 = .ok (.getfield 33, 3) := by decide +kernel
theorem dX11_isFull_132 : decode cX11_isFull 132 = .ok (.aload_n 0, 1) := by decide +kernel
theorem dX11_isFull_133 : decode cX11_isFull 133 = .ok (.getfield 264, 3) := by decide +kernel
theorem dX11_isFull_136 : decode cX11_isFull 136 = .ok (.iaload, 1) := by decide +kernel
theorem dX11_isFull_137 : decode cX11_isFull 137 = .ok (.bipush 6, 2) := by decide +kernel
theorem dX11_isFull_139 : decode cX11_isFull 139 = .ok (.if_icmp .ne 7, 3) := by decide +kernel
theorem dX11_isFull_142 : decode cX11_isFull 142 = .ok (.iconst 1, 1) := by decide +kernel
theorem dX11_isFull_143 : decode cX11_isFull 143 = .ok (.goto 4, 3) := by decide +kernel
theorem dX11_isFull_146 : decode cX11_isFull 146 = .ok (.iconst 0, 1) := by decide +kernel
theorem dX11_isFull_147 : decode cX11_isFull 147 = .ok (.ireturn, 1) := by decide +kernel
theorem dX11_isFull_148 : decode cX11_isFull 148 = .ok (.aload_n 0, 1) := by decide +kernel
theorem dX11_isFull_149 : decode cX11_isFull 149 = .ok (.ldc2_w 185, 3) := by decide +kernel
theorem dX11_isFull_152 : decode cX11_isFull 152 = .ok (.invokevirtual 253, 3) := by decide +kernel
theorem dX11_isFull_155 : decode cX11_isFull 155 = .ok (.ifCond .eq 13, 3) := by decide +kernel
theorem dX11_isFull_158 : decode cX11_isFull 158 = .ok (.aload_n 0, 1) := by decide +kernel
theorem dX11_isFull_159 : decode cX11_isFull 159 = .ok (.getfield 78, 3) := by decide +kernel
theorem dX11_isFull_162 : decode cX11_isFull 162 = .ok (.aload_n 0, 1) := by decide +kernel
theorem dX11_isFull_163 : decode cX11_isFull 163 = .ok (.getfield 264, 3) := by decide +kernel
theorem dX11_isFull_166 : decode cX11_isFull 166 = .ok (.baload, 1) := by decide +kernel
theorem dX11_isFull_167 : decode cX11_isFull 167 = .ok (.ireturn, 1) := by decide +kernel
theorem dX11_isFull_168 : decode cX11_isFull 168 = .ok (.aload_n 0, 1) := by decide +kernel
theorem dX11_isFull_169 : decode cX11_isFull 169 = .ok (.ldc2_w 187, 3) := by decide +kernel
theorem dX11_isFull_172 : decode cX11_isFull 172 = .ok (.invokevirtual 253, 3) := by decide +kernel
theorem dX11_isFull_175 : decode cX11_isFull 175 = .ok (.ifCond .eq 13, 3) := by decide +kernel
theorem dX11_isFull_178 : decode cX11_isFull 178 = .ok (.aload_n 0, 1) := by decide +kernel
theorem dX11_isFull_179 : decode cX11_isFull 179 = .ok (.getfield 82, 3) := by decide +kernel
theorem dX11_isFull_182 : decode cX11_isFull 182 = .ok (.aload_n 0, 1) := by decide +kernel
theorem dX11_isFull_183 : decode cX11_isFull 183 = .ok (.getfield 264, 3) := by decide +kernel
theorem dX11_isFull_186 : decode cX11_isFull 186 = .ok (.baload, 1) := by decide +kernel
theorem dX11_isFull_187 : decode cX11_isFull 187 = .ok (.ireturn, 1) := by decide +kernel
theorem dX11_isFull_188 : decode cX11_isFull 188 = .ok (.aload_n 0, 1) := by decide +kernel
theorem dX11_isFull_189 : decode cX11_isFull 189 = .ok (.ldc2_w 189, 3) := by decide +kernel
theorem dX11_isFull_192 : decode cX11_isFull 192 = .ok (.invokevirtual 253, 3) := by decide +kernel
theorem dX11_isFull_195 : decode cX11_isFull 195 = .ok (.ifCond .eq 15, 3) := by decide +kernel
theorem dX11_isFull_198 : decode cX11_isFull 198 = .ok (.aload_n 0, 1) := by decide +kernel
theorem dX11_isFull_199 : decode cX11_isFull 199 = .ok (.getfield 85, 3) := by decide +kernel
theorem dX11_isFull_202 : decode cX11_isFull 202 = .ok (.aload_n 0, 1) := by decide +kernel
theorem dX11_isFull_203 : decode cX11_isFull 203 = .ok (.getfield 264, 3) := by decide +kernel
theorem dX11_isFull_206 : decode cX11_isFull 206 = .ok (.baload, 1) := by decide +kernel
theorem dX11_isFull_207 : decode cX11_isFull 207 = .ok (.ifCond .eq 7, 3) := by decide +kernel
theorem dX11_isFull_210 : decode cX11_isFull 210 = .ok (.iconst 1, 1) := by decide +kernel
theorem dX11_isFull_211 : decode cX11_isFull 211 = .ok (.goto 4, 3) := by decide +kernel
theorem dX11_isFull_214 : decode cX11_isFull 214 = .ok (.iconst 0, 1) := by decide +kernel
theorem dX11_isFull_215 : decode cX11_isFull 215 = .ok (.ireturn, 1) := by decide +kernel
set_option maxHeartbeats 20000000 in
set_option maxRecDepth 100000 in
theorem m_X11_isFull (l : Launch) (D : va_G) (cT : Nat → ClassId) (T : Nat → Option Nat) (q : Nat → Int) (hT : tokm T) (hq : qkm q) (a0 : Nat) (t0 : T a0 = some 0) (hp0 : q 13 = 1 - q 10) : th_Met l D cT T (km q) yX11_isFull cX11_isFull 1 (some .boolean) (rmk 1 22) [.ref a0] (th_RP 0 1 (fun r => (r.toInt = 0 → q 29 = 3 → FQ q (q 31)))) [] := by
  refine th_start (by decide) (Nat.le_of_ble_eq_true rfl) ?_
  intro p e s m below meth c ls S hK hH hr hlocks hnm hl
  have hx := S.1
  have hb := S.2.1
  have hl : lv_has ls 1 [(0, .ref a0)] := hl
  have J0 : ∀ (H : Heap) (locs : List Loc) (ls : Array Slot), th_H D cT T (km q) H → va_S (th_A T []) s.heap H locs → lv_has ls 1 [(0, .ref a0)] → W p l e (rmk 1 22) s m [.ref a0].toArray below meth c H locs 0 0 (MQ below (th_Q D cT T (km q) (th_RP 0 1 (fun r => (r.toInt = 0 → q 29 = 3 → FQ q (q 31)))) []) [.ref a0].toArray s 0 0 (th_A T [])) (F0 m 0 ls []) := by
    intro H locs ls hH hS hl
    refine lv_aload_n hx hb dX11_isFull_0 rfl (lv_at hl 0 rfl) ?_
    refine lv_ldc2 (v := 1718579044) hx hb S.2.2.2.1 (S.2.2.2.2 _ gm_1456) dX11_isFull_1 ?_
    refine th_callVp (n := 1) (As := [.long 1718579044]) S hK hH hS (th_A.sub (by decide)) (m_X11_isWord l D cT T q hT hq a0 t0 (1718579044)) gm_1499 gm_1496 gm_1498 gm_52 gm_124 (by decide +kernel) ⟨rfl, rfl, Nat.le_of_ble_eq_true rfl, Nat.le_of_ble_eq_true rfl⟩ t0 km_0 rfl rfl hl.1 rfl (Nat.le_of_ble_eq_true rfl) dX11_isFull_4 ⟨Nat.zero_le _, Nat.zero_le _⟩ (fun x1 H locs ix1 ox1 hH hS hF1 => ?_)
    obtain ⟨ox1_0, ox1_1⟩ := ox1
    have ox1_0 : x1.toInt ≠ 0 → q 29 = 3 ∧ q 31 = (1718579044 : Int) := ox1_0
    have ox1_1 : x1.toInt = 0 → q 29 ≠ 3 ∨ q 31 ≠ (1718579044 : Int) := ox1_1
    refine lv_if_eq (tgt := 29) hx hb dX11_isFull_7 (by decide) (fun c2 => ?_) (fun c2 => ?_)
    · skip
      have rlc2 : x1.toInt = (0 : Int) := congrArg Int32.toInt c2
      clear ox1_0
      have ox1_1r := ox1_1 rlc2
      clear ox1_1
      have ir3 : IV x1 0 0 := iv_eL c2 (iv_c (by decide) : IV 0 0 0)
      have ir3a := ir3.1; have ir3b := ir3.2
      refine lv_aload_n hx hb dX11_isFull_29 rfl (lv_at hl 0 rfl) ?_
      refine lv_ldc2 (v := 7168368) hx hb S.2.2.2.1 (S.2.2.2.2 _ gm_1457) dX11_isFull_30 ?_
      refine th_callVp (n := 1) (As := [.long 7168368]) S hK hH hS (th_A.sub (by decide)) (m_X11_isWord l D cT T q hT hq a0 t0 (7168368)) gm_1499 gm_1496 gm_1498 gm_52 gm_124 (by decide +kernel) ⟨rfl, rfl, Nat.le_of_ble_eq_true rfl, Nat.le_of_ble_eq_true rfl⟩ t0 km_0 rfl rfl hl.1 rfl (Nat.le_of_ble_eq_true rfl) dX11_isFull_33 ⟨Nat.zero_le _, Nat.zero_le _⟩ (fun x4 H locs ix4 ox4 hH hS hF1 => ?_)
      obtain ⟨ox4_0, ox4_1⟩ := ox4
      have ox4_0 : x4.toInt ≠ 0 → q 29 = 3 ∧ q 31 = (7168368 : Int) := ox4_0
      have ox4_1 : x4.toInt = 0 → q 29 ≠ 3 ∨ q 31 ≠ (7168368 : Int) := ox4_1
      refine lv_if_eq (tgt := 58) hx hb dX11_isFull_36 (by decide) (fun c5 => ?_) (fun c5 => ?_)
      · skip
        have rlc5 : x4.toInt = (0 : Int) := congrArg Int32.toInt c5
        clear ox4_0
        have ox4_1r := ox4_1 rlc5
        clear ox4_1
        have ir6 : IV x4 0 0 := iv_eL c5 (iv_c (by decide) : IV 0 0 0)
        have ir6a := ir6.1; have ir6b := ir6.2
        refine lv_aload_n hx hb dX11_isFull_58 rfl (lv_at hl 0 rfl) ?_
        refine lv_ldc2 (v := 482854658917) hx hb S.2.2.2.1 (S.2.2.2.2 _ gm_1462) dX11_isFull_59 ?_
        refine th_callVp (n := 1) (As := [.long 482854658917]) S hK hH hS (th_A.sub (by decide)) (m_X11_isWord l D cT T q hT hq a0 t0 (482854658917)) gm_1499 gm_1496 gm_1498 gm_52 gm_124 (by decide +kernel) ⟨rfl, rfl, Nat.le_of_ble_eq_true rfl, Nat.le_of_ble_eq_true rfl⟩ t0 km_0 rfl rfl hl.1 rfl (Nat.le_of_ble_eq_true rfl) dX11_isFull_62 ⟨Nat.zero_le _, Nat.zero_le _⟩ (fun x7 H locs ix7 ox7 hH hS hF1 => ?_)
        obtain ⟨ox7_0, ox7_1⟩ := ox7
        have ox7_0 : x7.toInt ≠ 0 → q 29 = 3 ∧ q 31 = (482854658917 : Int) := ox7_0
        have ox7_1 : x7.toInt = 0 → q 29 ≠ 3 ∨ q 31 ≠ (482854658917 : Int) := ox7_1
        refine lv_if_eq (tgt := 88) hx hb dX11_isFull_65 (by decide) (fun c8 => ?_) (fun c8 => ?_)
        · skip
          have rlc8 : x7.toInt = (0 : Int) := congrArg Int32.toInt c8
          clear ox7_0
          have ox7_1r := ox7_1 rlc8
          clear ox7_1
          have ir9 : IV x7 0 0 := iv_eL c8 (iv_c (by decide) : IV 0 0 0)
          have ir9a := ir9.1; have ir9b := ir9.2
          refine lv_aload_n hx hb dX11_isFull_88 rfl (lv_at hl 0 rfl) ?_
          refine lv_ldc2 (v := 465625113971) hx hb S.2.2.2.1 (S.2.2.2.2 _ gm_1466) dX11_isFull_89 ?_
          refine th_callVp (n := 1) (As := [.long 465625113971]) S hK hH hS (th_A.sub (by decide)) (m_X11_isWord l D cT T q hT hq a0 t0 (465625113971)) gm_1499 gm_1496 gm_1498 gm_52 gm_124 (by decide +kernel) ⟨rfl, rfl, Nat.le_of_ble_eq_true rfl, Nat.le_of_ble_eq_true rfl⟩ t0 km_0 rfl rfl hl.1 rfl (Nat.le_of_ble_eq_true rfl) dX11_isFull_92 ⟨Nat.zero_le _, Nat.zero_le _⟩ (fun x10 H locs ix10 ox10 hH hS hF1 => ?_)
          obtain ⟨ox10_0, ox10_1⟩ := ox10
          have ox10_0 : x10.toInt ≠ 0 → q 29 = 3 ∧ q 31 = (465625113971 : Int) := ox10_0
          have ox10_1 : x10.toInt = 0 → q 29 ≠ 3 ∨ q 31 ≠ (465625113971 : Int) := ox10_1
          refine lv_if_eq (tgt := 118) hx hb dX11_isFull_95 (by decide) (fun c11 => ?_) (fun c11 => ?_)
          · skip
            have rlc11 : x10.toInt = (0 : Int) := congrArg Int32.toInt c11
            clear ox10_0
            have ox10_1r := ox10_1 rlc11
            clear ox10_1
            have ir12 : IV x10 0 0 := iv_eL c11 (iv_c (by decide) : IV 0 0 0)
            have ir12a := ir12.1; have ir12b := ir12.2
            refine lv_aload_n hx hb dX11_isFull_118 rfl (lv_at hl 0 rfl) ?_
            refine lv_ldc2 (v := 108230800074098) hx hb S.2.2.2.1 (S.2.2.2.2 _ gm_1467) dX11_isFull_119 ?_
            refine th_callVp (n := 1) (As := [.long 108230800074098]) S hK hH hS (th_A.sub (by decide)) (m_X11_isWord l D cT T q hT hq a0 t0 (108230800074098)) gm_1499 gm_1496 gm_1498 gm_52 gm_124 (by decide +kernel) ⟨rfl, rfl, Nat.le_of_ble_eq_true rfl, Nat.le_of_ble_eq_true rfl⟩ t0 km_0 rfl rfl hl.1 rfl (Nat.le_of_ble_eq_true rfl) dX11_isFull_122 ⟨Nat.zero_le _, Nat.zero_le _⟩ (fun x13 H locs ix13 ox13 hH hS hF1 => ?_)
            obtain ⟨ox13_0, ox13_1⟩ := ox13
            have ox13_0 : x13.toInt ≠ 0 → q 29 = 3 ∧ q 31 = (108230800074098 : Int) := ox13_0
            have ox13_1 : x13.toInt = 0 → q 29 ≠ 3 ∨ q 31 ≠ (108230800074098 : Int) := ox13_1
            refine lv_if_eq (tgt := 148) hx hb dX11_isFull_125 (by decide) (fun c14 => ?_) (fun c14 => ?_)
            · skip
              have rlc14 : x13.toInt = (0 : Int) := congrArg Int32.toInt c14
              clear ox13_0
              have ox13_1r := ox13_1 rlc14
              clear ox13_1
              have ir15 : IV x13 0 0 := iv_eL c14 (iv_c (by decide) : IV 0 0 0)
              have ir15a := ir15.1; have ir15b := ir15.2
              refine lv_aload_n hx hb dX11_isFull_148 rfl (lv_at hl 0 rfl) ?_
              refine lv_ldc2 (v := 499851162725) hx hb S.2.2.2.1 (S.2.2.2.2 _ gm_1468) dX11_isFull_149 ?_
              refine th_callVp (n := 1) (As := [.long 499851162725]) S hK hH hS (th_A.sub (by decide)) (m_X11_isWord l D cT T q hT hq a0 t0 (499851162725)) gm_1499 gm_1496 gm_1498 gm_52 gm_124 (by decide +kernel) ⟨rfl, rfl, Nat.le_of_ble_eq_true rfl, Nat.le_of_ble_eq_true rfl⟩ t0 km_0 rfl rfl hl.1 rfl (Nat.le_of_ble_eq_true rfl) dX11_isFull_152 ⟨Nat.zero_le _, Nat.zero_le _⟩ (fun x16 H locs ix16 ox16 hH hS hF1 => ?_)
              obtain ⟨ox16_0, ox16_1⟩ := ox16
              have ox16_0 : x16.toInt ≠ 0 → q 29 = 3 ∧ q 31 = (499851162725 : Int) := ox16_0
              have ox16_1 : x16.toInt = 0 → q 29 ≠ 3 ∨ q 31 ≠ (499851162725 : Int) := ox16_1
              refine lv_if_eq (tgt := 168) hx hb dX11_isFull_155 (by decide) (fun c17 => ?_) (fun c17 => ?_)
              · skip
                have rlc17 : x16.toInt = (0 : Int) := congrArg Int32.toInt c17
                clear ox16_0
                have ox16_1r := ox16_1 rlc17
                clear ox16_1
                have ir18 : IV x16 0 0 := iv_eL c17 (iv_c (by decide) : IV 0 0 0)
                have ir18a := ir18.1; have ir18b := ir18.2
                refine lv_aload_n hx hb dX11_isFull_168 rfl (lv_at hl 0 rfl) ?_
                refine lv_ldc2 (v := 131294708393330) hx hb S.2.2.2.1 (S.2.2.2.2 _ gm_1469) dX11_isFull_169 ?_
                refine th_callVp (n := 1) (As := [.long 131294708393330]) S hK hH hS (th_A.sub (by decide)) (m_X11_isWord l D cT T q hT hq a0 t0 (131294708393330)) gm_1499 gm_1496 gm_1498 gm_52 gm_124 (by decide +kernel) ⟨rfl, rfl, Nat.le_of_ble_eq_true rfl, Nat.le_of_ble_eq_true rfl⟩ t0 km_0 rfl rfl hl.1 rfl (Nat.le_of_ble_eq_true rfl) dX11_isFull_172 ⟨Nat.zero_le _, Nat.zero_le _⟩ (fun x19 H locs ix19 ox19 hH hS hF1 => ?_)
                obtain ⟨ox19_0, ox19_1⟩ := ox19
                have ox19_0 : x19.toInt ≠ 0 → q 29 = 3 ∧ q 31 = (131294708393330 : Int) := ox19_0
                have ox19_1 : x19.toInt = 0 → q 29 ≠ 3 ∨ q 31 ≠ (131294708393330 : Int) := ox19_1
                refine lv_if_eq (tgt := 188) hx hb dX11_isFull_175 (by decide) (fun c20 => ?_) (fun c20 => ?_)
                · skip
                  have rlc20 : x19.toInt = (0 : Int) := congrArg Int32.toInt c20
                  clear ox19_0
                  have ox19_1r := ox19_1 rlc20
                  clear ox19_1
                  have ir21 : IV x19 0 0 := iv_eL c20 (iv_c (by decide) : IV 0 0 0)
                  have ir21a := ir21.1; have ir21b := ir21.2
                  refine lv_aload_n hx hb dX11_isFull_188 rfl (lv_at hl 0 rfl) ?_
                  refine lv_ldc2 (v := 1685217655) hx hb S.2.2.2.1 (S.2.2.2.2 _ gm_1470) dX11_isFull_189 ?_
                  refine th_callVp (n := 1) (As := [.long 1685217655]) S hK hH hS (th_A.sub (by decide)) (m_X11_isWord l D cT T q hT hq a0 t0 (1685217655)) gm_1499 gm_1496 gm_1498 gm_52 gm_124 (by decide +kernel) ⟨rfl, rfl, Nat.le_of_ble_eq_true rfl, Nat.le_of_ble_eq_true rfl⟩ t0 km_0 rfl rfl hl.1 rfl (Nat.le_of_ble_eq_true rfl) dX11_isFull_192 ⟨Nat.zero_le _, Nat.zero_le _⟩ (fun x22 H locs ix22 ox22 hH hS hF1 => ?_)
                  obtain ⟨ox22_0, ox22_1⟩ := ox22
                  have ox22_0 : x22.toInt ≠ 0 → q 29 = 3 ∧ q 31 = (1685217655 : Int) := ox22_0
                  have ox22_1 : x22.toInt = 0 → q 29 ≠ 3 ∨ q 31 ≠ (1685217655 : Int) := ox22_1
                  refine lv_if_eq (tgt := 210) hx hb dX11_isFull_195 (by decide) (fun c23 => ?_) (fun c23 => ?_)
                  · skip
                    have rlc23 : x22.toInt = (0 : Int) := congrArg Int32.toInt c23
                    clear ox22_0
                    have ox22_1r := ox22_1 rlc23
                    clear ox22_1
                    have ir24 : IV x22 0 0 := iv_eL c23 (iv_c (by decide) : IV 0 0 0)
                    have ir24a := ir24.1; have ir24b := ir24.2
                    refine lv_iconst (v := 1) hx hb dX11_isFull_210 (by decide) ?_
                    refine lv_goto (tgt := 215) hx hb dX11_isFull_211 (by decide) ?_
                    exact th_zret S hK hH hS hr hlocks (iv_w (iv_c (by decide) : IV 1 1 1) (by decide)) (th_RP.i (iv_w (iv_c (by decide) : IV 1 1 1) (by decide)) (show (1 : Int) = 0 → q 29 = 3 → FQ q (q 31) by first | assumption | (exact fun z1 z2 => ⟨fun z3 => by omega, fun z3 => by omega, fun z3 => by omega⟩))) dX11_isFull_215
                  · skip
                    have rlc23 : x22.toInt ≠ (0 : Int) := iv_ne c23
                    have ox22_0r := ox22_0 rlc23
                    clear ox22_0
                    clear ox22_1
                    have ir25 : IV x22 1 1 := iv_cutL ix22 (iv_c (by decide) : IV 0 0 0) c23 (by decide)
                    have ir25a := ir25.1; have ir25b := ir25.2
                    refine lv_aload_n hx hb dX11_isFull_198 rfl (lv_at hl 0 rfl) ?_
                    refine th_get S hK hH inG11 t0 km_0 rfl 32 (by decide) gm_1262 rfl rfl dX11_isFull_199 (fun v26 hv26 fv26 => ?_)
                    obtain ⟨rf27, rfl, trf27⟩ := th_V.ref hv26
                    refine lv_aload_n hx hb dX11_isFull_202 rfl (lv_at hl 0 rfl) ?_
                    refine th_get S hK hH inG11 t0 km_0 rfl 42 (by decide) gm_1272 rfl rfl dX11_isFull_203 (fun v28 hv28 fv28 => ?_)
                    obtain ⟨x29, rfl, ix29⟩ := th_V.int hv28
                    have kx29 : x29.toInt = q 13 := Int.le_antisymm ix29.2 ix29.1
                    have ix29 : IV x29 0 1 := iv_w ix29 (qkm_13 hq)
                    refine th_zald S hK hH trf27 km_24 (th_in (hi := 1) ix29 (by decide)) dX11_isFull_206 (fun v30 hv30 => ?_)
                    obtain ⟨x31, rfl, ix31⟩ := th_V.int hv30
                    refine lv_if_eq (tgt := 214) hx hb dX11_isFull_207 (by decide) (fun c32 => ?_) (fun c32 => ?_)
                    · skip
                      have rlc32 : x31.toInt = (0 : Int) := congrArg Int32.toInt c32
                      have ir33 : IV x31 0 0 := iv_eL c32 (iv_c (by decide) : IV 0 0 0)
                      have ir33a := ir33.1; have ir33b := ir33.2
                      refine lv_iconst (v := 0) hx hb dX11_isFull_214 (by decide) ?_
                      exact th_zret S hK hH hS hr hlocks (iv_w (iv_c (by decide) : IV 0 0 0) (by decide)) (th_RP.i (iv_w (iv_c (by decide) : IV 0 0 0) (by decide)) (show (0 : Int) = 0 → q 29 = 3 → FQ q (q 31) by first | assumption | (exact fun z1 z2 => ⟨fun z3 => by omega, fun z3 => by omega, fun z3 => by omega⟩))) dX11_isFull_215
                    · skip
                      have rlc32 : x31.toInt ≠ (0 : Int) := iv_ne c32
                      have ir34 : IV x31 1 1 := iv_cutL ix31 (iv_c (by decide) : IV 0 0 0) c32 (by decide)
                      have ir34a := ir34.1; have ir34b := ir34.2
                      refine lv_iconst (v := 1) hx hb dX11_isFull_210 (by decide) ?_
                      refine lv_goto (tgt := 215) hx hb dX11_isFull_211 (by decide) ?_
                      exact th_zret S hK hH hS hr hlocks (iv_w (iv_c (by decide) : IV 1 1 1) (by decide)) (th_RP.i (iv_w (iv_c (by decide) : IV 1 1 1) (by decide)) (show (1 : Int) = 0 → q 29 = 3 → FQ q (q 31) by first | assumption | (exact fun z1 z2 => ⟨fun z3 => by omega, fun z3 => by omega, fun z3 => by omega⟩))) dX11_isFull_215
                · skip
                  have rlc20 : x19.toInt ≠ (0 : Int) := iv_ne c20
                  have ox19_0r := ox19_0 rlc20
                  clear ox19_0
                  clear ox19_1
                  have ir35 : IV x19 1 1 := iv_cutL ix19 (iv_c (by decide) : IV 0 0 0) c20 (by decide)
                  have ir35a := ir35.1; have ir35b := ir35.2
                  refine lv_aload_n hx hb dX11_isFull_178 rfl (lv_at hl 0 rfl) ?_
                  refine th_get S hK hH inG11 t0 km_0 rfl 31 (by decide) gm_1261 rfl rfl dX11_isFull_179 (fun v36 hv36 fv36 => ?_)
                  obtain ⟨rf37, rfl, trf37⟩ := th_V.ref hv36
                  refine lv_aload_n hx hb dX11_isFull_182 rfl (lv_at hl 0 rfl) ?_
                  refine th_get S hK hH inG11 t0 km_0 rfl 42 (by decide) gm_1272 rfl rfl dX11_isFull_183 (fun v38 hv38 fv38 => ?_)
                  obtain ⟨x39, rfl, ix39⟩ := th_V.int hv38
                  have kx39 : x39.toInt = q 13 := Int.le_antisymm ix39.2 ix39.1
                  have ix39 : IV x39 0 1 := iv_w ix39 (qkm_13 hq)
                  refine th_zald S hK hH trf37 km_23 (th_in (hi := 1) ix39 (by decide)) dX11_isFull_186 (fun v40 hv40 => ?_)
                  obtain ⟨x41, rfl, ix41⟩ := th_V.int hv40
                  exact th_zret S hK hH hS hr hlocks ix41 (th_RP.i ix41 (show x41.toInt = 0 → q 29 = 3 → FQ q (q 31) by first | assumption | (exact fun z1 z2 => ⟨fun z3 => by omega, fun z3 => by omega, fun z3 => by omega⟩))) dX11_isFull_187
              · skip
                have rlc17 : x16.toInt ≠ (0 : Int) := iv_ne c17
                have ox16_0r := ox16_0 rlc17
                clear ox16_0
                clear ox16_1
                have ir42 : IV x16 1 1 := iv_cutL ix16 (iv_c (by decide) : IV 0 0 0) c17 (by decide)
                have ir42a := ir42.1; have ir42b := ir42.2
                refine lv_aload_n hx hb dX11_isFull_158 rfl (lv_at hl 0 rfl) ?_
                refine th_get S hK hH inG11 t0 km_0 rfl 30 (by decide) gm_1260 rfl rfl dX11_isFull_159 (fun v43 hv43 fv43 => ?_)
                obtain ⟨rf44, rfl, trf44⟩ := th_V.ref hv43
                refine lv_aload_n hx hb dX11_isFull_162 rfl (lv_at hl 0 rfl) ?_
                refine th_get S hK hH inG11 t0 km_0 rfl 42 (by decide) gm_1272 rfl rfl dX11_isFull_163 (fun v45 hv45 fv45 => ?_)
                obtain ⟨x46, rfl, ix46⟩ := th_V.int hv45
                have kx46 : x46.toInt = q 13 := Int.le_antisymm ix46.2 ix46.1
                have ix46 : IV x46 0 1 := iv_w ix46 (qkm_13 hq)
                refine th_zald S hK hH trf44 km_22 (th_in (hi := 1) ix46 (by decide)) dX11_isFull_166 (fun v47 hv47 => ?_)
                obtain ⟨x48, rfl, ix48⟩ := th_bkB hv47 ix46 (by omega)
                have kx48 : x48.toInt = q 15 := Int.le_antisymm ix48.2 ix48.1
                have ix48 : IV x48 0 1 := iv_w ix48 (qkm_15 hq)
                exact th_zret S hK hH hS hr hlocks ix48 (th_RP.i ix48 (show x48.toInt = 0 → q 29 = 3 → FQ q (q 31) by first | assumption | (exact fun z1 z2 => ⟨fun z3 => by omega, fun z3 => by omega, fun z3 => by omega⟩))) dX11_isFull_167
            · skip
              have rlc14 : x13.toInt ≠ (0 : Int) := iv_ne c14
              have ox13_0r := ox13_0 rlc14
              clear ox13_0
              clear ox13_1
              have ir49 : IV x13 1 1 := iv_cutL ix13 (iv_c (by decide) : IV 0 0 0) c14 (by decide)
              have ir49a := ir49.1; have ir49b := ir49.2
              refine lv_aload_n hx hb dX11_isFull_128 rfl (lv_at hl 0 rfl) ?_
              refine th_get S hK hH inG11 t0 km_0 rfl 15 (by decide) gm_1245 rfl rfl dX11_isFull_129 (fun v50 hv50 fv50 => ?_)
              obtain ⟨rf51, rfl, trf51⟩ := th_V.ref hv50
              refine lv_aload_n hx hb dX11_isFull_132 rfl (lv_at hl 0 rfl) ?_
              refine th_get S hK hH inG11 t0 km_0 rfl 42 (by decide) gm_1272 rfl rfl dX11_isFull_133 (fun v52 hv52 fv52 => ?_)
              obtain ⟨x53, rfl, ix53⟩ := th_V.int hv52
              have kx53 : x53.toInt = q 13 := Int.le_antisymm ix53.2 ix53.1
              have ix53 : IV x53 0 1 := iv_w ix53 (qkm_13 hq)
              refine th_iald S hK hH trf51 km_7 (th_in (hi := 1) ix53 (by decide)) dX11_isFull_136 (fun v54 hv54 => ?_)
              obtain ⟨x55, rfl, ix55⟩ := th_V.int hv54
              refine lv_bipush (v := 6) hx hb dX11_isFull_137 (by decide) ?_
              refine lv_icmp_ne (tgt := 146) hx hb dX11_isFull_139 (by decide) (fun c56 => ?_) (fun c56 => ?_)
              · skip
                have rlc56 : x55.toInt ≠ (6 : Int) := iv_ne c56
                refine lv_iconst (v := 0) hx hb dX11_isFull_146 (by decide) ?_
                exact th_zret S hK hH hS hr hlocks (iv_w (iv_c (by decide) : IV 0 0 0) (by decide)) (th_RP.i (iv_w (iv_c (by decide) : IV 0 0 0) (by decide)) (show (0 : Int) = 0 → q 29 = 3 → FQ q (q 31) by first | assumption | (exact fun z1 z2 => ⟨fun z3 => by omega, fun z3 => by omega, fun z3 => by omega⟩))) dX11_isFull_147
              · skip
                have rlc56 : x55.toInt = (6 : Int) := congrArg Int32.toInt c56
                have ir57 : IV x55 6 6 := iv_eL c56 (iv_c (by decide) : IV 6 6 6)
                have ir57a := ir57.1; have ir57b := ir57.2
                refine lv_iconst (v := 1) hx hb dX11_isFull_142 (by decide) ?_
                refine lv_goto (tgt := 147) hx hb dX11_isFull_143 (by decide) ?_
                exact th_zret S hK hH hS hr hlocks (iv_w (iv_c (by decide) : IV 1 1 1) (by decide)) (th_RP.i (iv_w (iv_c (by decide) : IV 1 1 1) (by decide)) (show (1 : Int) = 0 → q 29 = 3 → FQ q (q 31) by first | assumption | (exact fun z1 z2 => ⟨fun z3 => by omega, fun z3 => by omega, fun z3 => by omega⟩))) dX11_isFull_147
          · skip
            have rlc11 : x10.toInt ≠ (0 : Int) := iv_ne c11
            have ox10_0r := ox10_0 rlc11
            clear ox10_0
            clear ox10_1
            have ir58 : IV x10 1 1 := iv_cutL ix10 (iv_c (by decide) : IV 0 0 0) c11 (by decide)
            have ir58a := ir58.1; have ir58b := ir58.2
            refine lv_aload_n hx hb dX11_isFull_98 rfl (lv_at hl 0 rfl) ?_
            refine th_get S hK hH inG11 t0 km_0 rfl 14 (by decide) gm_1244 rfl rfl dX11_isFull_99 (fun v59 hv59 fv59 => ?_)
            obtain ⟨rf60, rfl, trf60⟩ := th_V.ref hv59
            refine lv_aload_n hx hb dX11_isFull_102 rfl (lv_at hl 0 rfl) ?_
            refine th_get S hK hH inG11 t0 km_0 rfl 42 (by decide) gm_1272 rfl rfl dX11_isFull_103 (fun v61 hv61 fv61 => ?_)
            obtain ⟨x62, rfl, ix62⟩ := th_V.int hv61
            have kx62 : x62.toInt = q 13 := Int.le_antisymm ix62.2 ix62.1
            have ix62 : IV x62 0 1 := iv_w ix62 (qkm_13 hq)
            refine th_iald S hK hH trf60 km_6 (th_in (hi := 1) ix62 (by decide)) dX11_isFull_106 (fun v63 hv63 => ?_)
            obtain ⟨x64, rfl, ix64⟩ := th_V.int hv63
            refine lv_bipush (v := 12) hx hb dX11_isFull_107 (by decide) ?_
            refine lv_icmp_ne (tgt := 116) hx hb dX11_isFull_109 (by decide) (fun c65 => ?_) (fun c65 => ?_)
            · skip
              have rlc65 : x64.toInt ≠ (12 : Int) := iv_ne c65
              refine lv_iconst (v := 0) hx hb dX11_isFull_116 (by decide) ?_
              exact th_zret S hK hH hS hr hlocks (iv_w (iv_c (by decide) : IV 0 0 0) (by decide)) (th_RP.i (iv_w (iv_c (by decide) : IV 0 0 0) (by decide)) (show (0 : Int) = 0 → q 29 = 3 → FQ q (q 31) by first | assumption | (exact fun z1 z2 => ⟨fun z3 => by omega, fun z3 => by omega, fun z3 => by omega⟩))) dX11_isFull_117
            · skip
              have rlc65 : x64.toInt = (12 : Int) := congrArg Int32.toInt c65
              have ir66 : IV x64 12 12 := iv_eL c65 (iv_c (by decide) : IV 12 12 12)
              have ir66a := ir66.1; have ir66b := ir66.2
              refine lv_iconst (v := 1) hx hb dX11_isFull_112 (by decide) ?_
              refine lv_goto (tgt := 117) hx hb dX11_isFull_113 (by decide) ?_
              exact th_zret S hK hH hS hr hlocks (iv_w (iv_c (by decide) : IV 1 1 1) (by decide)) (th_RP.i (iv_w (iv_c (by decide) : IV 1 1 1) (by decide)) (show (1 : Int) = 0 → q 29 = 3 → FQ q (q 31) by first | assumption | (exact fun z1 z2 => ⟨fun z3 => by omega, fun z3 => by omega, fun z3 => by omega⟩))) dX11_isFull_117
        · skip
          have rlc8 : x7.toInt ≠ (0 : Int) := iv_ne c8
          have ox7_0r := ox7_0 rlc8
          clear ox7_0
          clear ox7_1
          have ir67 : IV x7 1 1 := iv_cutL ix7 (iv_c (by decide) : IV 0 0 0) c8 (by decide)
          have ir67a := ir67.1; have ir67b := ir67.2
          refine lv_aload_n hx hb dX11_isFull_68 rfl (lv_at hl 0 rfl) ?_
          refine th_get S hK hH inG11 t0 km_0 rfl 13 (by decide) gm_1243 rfl rfl dX11_isFull_69 (fun v68 hv68 fv68 => ?_)
          obtain ⟨rf69, rfl, trf69⟩ := th_V.ref hv68
          refine lv_aload_n hx hb dX11_isFull_72 rfl (lv_at hl 0 rfl) ?_
          refine th_get S hK hH inG11 t0 km_0 rfl 42 (by decide) gm_1272 rfl rfl dX11_isFull_73 (fun v70 hv70 fv70 => ?_)
          obtain ⟨x71, rfl, ix71⟩ := th_V.int hv70
          have kx71 : x71.toInt = q 13 := Int.le_antisymm ix71.2 ix71.1
          have ix71 : IV x71 0 1 := iv_w ix71 (qkm_13 hq)
          refine th_iald S hK hH trf69 km_5 (th_in (hi := 1) ix71 (by decide)) dX11_isFull_76 (fun v72 hv72 => ?_)
          obtain ⟨x73, rfl, ix73⟩ := th_bkB hv72 ix71 (by omega)
          have kx73 : x73.toInt = q 19 := Int.le_antisymm ix73.2 ix73.1
          have bx73 := qkm_19 hq
          have ix73 : IV x73 0 8 := iv_w ix73 (qkm_19 hq)
          refine lv_bipush (v := 8) hx hb dX11_isFull_77 (by decide) ?_
          refine lv_icmp_ne (tgt := 86) hx hb dX11_isFull_79 (by decide) (fun c74 => ?_) (fun c74 => ?_)
          · skip
            have rlc74 : x73.toInt ≠ (8 : Int) := iv_ne c74
            have ir75 : IV x73 0 7 := iv_cutH ix73 (iv_c (by decide) : IV 8 8 8) c74 (by decide)
            have ir75a := ir75.1; have ir75b := ir75.2
            refine lv_iconst (v := 0) hx hb dX11_isFull_86 (by decide) ?_
            exact th_zret S hK hH hS hr hlocks (iv_w (iv_c (by decide) : IV 0 0 0) (by decide)) (th_RP.i (iv_w (iv_c (by decide) : IV 0 0 0) (by decide)) (show (0 : Int) = 0 → q 29 = 3 → FQ q (q 31) by first | assumption | (exact fun z1 z2 => ⟨fun z3 => by omega, fun z3 => by omega, fun z3 => by omega⟩))) dX11_isFull_87
          · skip
            have rlc74 : x73.toInt = (8 : Int) := congrArg Int32.toInt c74
            have ir76 : IV x73 8 8 := ⟨(iv_eL c74 (iv_c (by decide) : IV 8 8 8)).1, ix73.2⟩
            have ir76a := ir76.1; have ir76b := ir76.2
            refine lv_iconst (v := 1) hx hb dX11_isFull_82 (by decide) ?_
            refine lv_goto (tgt := 87) hx hb dX11_isFull_83 (by decide) ?_
            exact th_zret S hK hH hS hr hlocks (iv_w (iv_c (by decide) : IV 1 1 1) (by decide)) (th_RP.i (iv_w (iv_c (by decide) : IV 1 1 1) (by decide)) (show (1 : Int) = 0 → q 29 = 3 → FQ q (q 31) by first | assumption | (exact fun z1 z2 => ⟨fun z3 => by omega, fun z3 => by omega, fun z3 => by omega⟩))) dX11_isFull_87
      · skip
        have rlc5 : x4.toInt ≠ (0 : Int) := iv_ne c5
        have ox4_0r := ox4_0 rlc5
        clear ox4_0
        clear ox4_1
        have ir77 : IV x4 1 1 := iv_cutL ix4 (iv_c (by decide) : IV 0 0 0) c5 (by decide)
        have ir77a := ir77.1; have ir77b := ir77.2
        refine lv_aload_n hx hb dX11_isFull_39 rfl (lv_at hl 0 rfl) ?_
        refine th_get S hK hH inG11 t0 km_0 rfl 12 (by decide) gm_1242 rfl rfl dX11_isFull_40 (fun v78 hv78 fv78 => ?_)
        obtain ⟨rf79, rfl, trf79⟩ := th_V.ref hv78
        refine lv_aload_n hx hb dX11_isFull_43 rfl (lv_at hl 0 rfl) ?_
        refine th_get S hK hH inG11 t0 km_0 rfl 42 (by decide) gm_1272 rfl rfl dX11_isFull_44 (fun v80 hv80 fv80 => ?_)
        obtain ⟨x81, rfl, ix81⟩ := th_V.int hv80
        have kx81 : x81.toInt = q 13 := Int.le_antisymm ix81.2 ix81.1
        have ix81 : IV x81 0 1 := iv_w ix81 (qkm_13 hq)
        refine th_iald S hK hH trf79 km_4 (th_in (hi := 1) ix81 (by decide)) dX11_isFull_47 (fun v82 hv82 => ?_)
        obtain ⟨x83, rfl, ix83⟩ := th_bkB hv82 ix81 (by omega)
        have kx83 : x83.toInt = q 14 := Int.le_antisymm ix83.2 ix83.1
        have bx83 := qkm_14 hq
        have ix83 : IV x83 0 4 := iv_w ix83 (qkm_14 hq)
        refine lv_iconst (v := 4) hx hb dX11_isFull_48 (by decide) ?_
        refine lv_icmp_ne (tgt := 56) hx hb dX11_isFull_49 (by decide) (fun c84 => ?_) (fun c84 => ?_)
        · skip
          have rlc84 : x83.toInt ≠ (4 : Int) := iv_ne c84
          have ir85 : IV x83 0 3 := iv_cutH ix83 (iv_c (by decide) : IV 4 4 4) c84 (by decide)
          have ir85a := ir85.1; have ir85b := ir85.2
          refine lv_iconst (v := 0) hx hb dX11_isFull_56 (by decide) ?_
          exact th_zret S hK hH hS hr hlocks (iv_w (iv_c (by decide) : IV 0 0 0) (by decide)) (th_RP.i (iv_w (iv_c (by decide) : IV 0 0 0) (by decide)) (show (0 : Int) = 0 → q 29 = 3 → FQ q (q 31) by first | assumption | (exact fun z1 z2 => ⟨fun z3 => by omega, fun z3 => by omega, fun z3 => by omega⟩))) dX11_isFull_57
        · skip
          have rlc84 : x83.toInt = (4 : Int) := congrArg Int32.toInt c84
          have ir86 : IV x83 4 4 := ⟨(iv_eL c84 (iv_c (by decide) : IV 4 4 4)).1, ix83.2⟩
          have ir86a := ir86.1; have ir86b := ir86.2
          refine lv_iconst (v := 1) hx hb dX11_isFull_52 (by decide) ?_
          refine lv_goto (tgt := 57) hx hb dX11_isFull_53 (by decide) ?_
          exact th_zret S hK hH hS hr hlocks (iv_w (iv_c (by decide) : IV 1 1 1) (by decide)) (th_RP.i (iv_w (iv_c (by decide) : IV 1 1 1) (by decide)) (show (1 : Int) = 0 → q 29 = 3 → FQ q (q 31) by first | assumption | (exact fun z1 z2 => ⟨fun z3 => by omega, fun z3 => by omega, fun z3 => by omega⟩))) dX11_isFull_57
    · skip
      have rlc2 : x1.toInt ≠ (0 : Int) := iv_ne c2
      have ox1_0r := ox1_0 rlc2
      clear ox1_0
      clear ox1_1
      have ir87 : IV x1 1 1 := iv_cutL ix1 (iv_c (by decide) : IV 0 0 0) c2 (by decide)
      have ir87a := ir87.1; have ir87b := ir87.2
      refine lv_aload_n hx hb dX11_isFull_10 rfl (lv_at hl 0 rfl) ?_
      refine th_get S hK hH inG11 t0 km_0 rfl 11 (by decide) gm_1241 rfl rfl dX11_isFull_11 (fun v88 hv88 fv88 => ?_)
      obtain ⟨rf89, rfl, trf89⟩ := th_V.ref hv88
      refine lv_aload_n hx hb dX11_isFull_14 rfl (lv_at hl 0 rfl) ?_
      refine th_get S hK hH inG11 t0 km_0 rfl 42 (by decide) gm_1272 rfl rfl dX11_isFull_15 (fun v90 hv90 fv90 => ?_)
      obtain ⟨x91, rfl, ix91⟩ := th_V.int hv90
      have kx91 : x91.toInt = q 13 := Int.le_antisymm ix91.2 ix91.1
      have ix91 : IV x91 0 1 := iv_w ix91 (qkm_13 hq)
      refine th_iald S hK hH trf89 km_3 (th_in (hi := 1) ix91 (by decide)) dX11_isFull_18 (fun v92 hv92 => ?_)
      obtain ⟨x93, rfl, ix93⟩ := th_bkB hv92 ix91 (by omega)
      have kx93 : x93.toInt = q 17 := Int.le_antisymm ix93.2 ix93.1
      have bx93 := qkm_17 hq
      have ix93 : IV x93 0 3 := iv_w ix93 (qkm_17 hq)
      refine lv_iconst (v := 3) hx hb dX11_isFull_19 (by decide) ?_
      refine lv_icmp_ne (tgt := 27) hx hb dX11_isFull_20 (by decide) (fun c94 => ?_) (fun c94 => ?_)
      · skip
        have rlc94 : x93.toInt ≠ (3 : Int) := iv_ne c94
        have ir95 : IV x93 0 2 := iv_cutH ix93 (iv_c (by decide) : IV 3 3 3) c94 (by decide)
        have ir95a := ir95.1; have ir95b := ir95.2
        refine lv_iconst (v := 0) hx hb dX11_isFull_27 (by decide) ?_
        exact th_zret S hK hH hS hr hlocks (iv_w (iv_c (by decide) : IV 0 0 0) (by decide)) (th_RP.i (iv_w (iv_c (by decide) : IV 0 0 0) (by decide)) (show (0 : Int) = 0 → q 29 = 3 → FQ q (q 31) by first | assumption | (exact fun z1 z2 => ⟨fun z3 => by omega, fun z3 => by omega, fun z3 => by omega⟩))) dX11_isFull_28
      · skip
        have rlc94 : x93.toInt = (3 : Int) := congrArg Int32.toInt c94
        have ir96 : IV x93 3 3 := ⟨(iv_eL c94 (iv_c (by decide) : IV 3 3 3)).1, ix93.2⟩
        have ir96a := ir96.1; have ir96b := ir96.2
        refine lv_iconst (v := 1) hx hb dX11_isFull_23 (by decide) ?_
        refine lv_goto (tgt := 28) hx hb dX11_isFull_24 (by decide) ?_
        exact th_zret S hK hH hS hr hlocks (iv_w (iv_c (by decide) : IV 1 1 1) (by decide)) (th_RP.i (iv_w (iv_c (by decide) : IV 1 1 1) (by decide)) (show (1 : Int) = 0 → q 29 = 3 → FQ q (q 31) by first | assumption | (exact fun z1 z2 => ⟨fun z3 => by omega, fun z3 => by omega, fun z3 => by omega⟩))) dX11_isFull_28
  exact J0 s.heap [] ls hH va_S.rf hl
