theorem dX11_readRule_0 : decode cX11_readRule 0 = .ok (.aload_n 0, 1) := by decide +kernel
theorem dX11_readRule_1 : decode cX11_readRule 1 = .ok (.iconst 0, 1) := by decide +kernel
theorem dX11_readRule_2 : decode cX11_readRule 2 = .ok (.putfield 329, 3) := by decide +kernel
theorem dX11_readRule_5 : decode cX11_readRule 5 = .ok (.aload_n 0, 1) := by decide +kernel
theorem dX11_readRule_6 : decode cX11_readRule 6 = .ok (.getfield 72, 3) := by decide +kernel
theorem dX11_readRule_9 : decode cX11_readRule 9 = .ok (.iconst 5, 1) := by decide +kernel
theorem dX11_readRule_10 : decode cX11_readRule 10 = .ok (.aload_n 0, 1) := by decide +kernel
theorem dX11_readRule_11 : decode cX11_readRule 11 = .ok (.getfield 264, 3) := by decide +kernel
theorem dX11_readRule_14 : decode cX11_readRule 14 = .ok (.imul, 1) := by decide +kernel
theorem dX11_readRule_15 : decode cX11_readRule 15 = .ok (.iload_n 1, 1) := by decide +kernel
theorem dX11_readRule_16 : decode cX11_readRule 16 = .ok (.iadd, 1) := by decide +kernel
theorem dX11_readRule_17 : decode cX11_readRule 17 = .ok (.aload_n 0, 1) := by decide +kernel
theorem dX11_readRule_18 : decode cX11_readRule 18 = .ok (.getfield 267, 3) := by decide +kernel
theorem dX11_readRule_21 : decode cX11_readRule 21 = .ok (.iastore, 1) := by decide +kernel
theorem dX11_readRule_22 : decode cX11_readRule 22 = .ok (.aload_n 0, 1) := by decide +kernel
theorem dX11_readRule_23 : decode cX11_readRule 23 = .ok (.invokevirtual 332, 3) := by decide +kernel
theorem dX11_readRule_26 : decode cX11_readRule 26 = .ok (.aload_n 0, 1) := by decide +kernel
theorem dX11_readRule_27 : decode cX11_readRule 27 = .ok (.getfield 75, 3) := by decide +kernel
theorem dX11_readRule_30 : decode cX11_readRule 30 = .ok (.iconst 5, 1) := by decide +kernel
theorem dX11_readRule_31 : decode cX11_readRule 31 = .ok (.aload_n 0, 1) := by decide +kernel
theorem dX11_readRule_32 : decode cX11_readRule 32 = .ok (.getfield 264, 3) := by decide +kernel
theorem dX11_readRule_35 : decode cX11_readRule 35 = .ok (.imul, 1) := by decide +kernel
theorem dX11_readRule_36 : decode cX11_readRule 36 = .ok (.iload_n 1, 1) := by decide +kernel
theorem dX11_readRule_37 : decode cX11_readRule 37 = .ok (.iadd, 1) := by decide +kernel
theorem dX11_readRule_38 : decode cX11_readRule 38 = .ok (.aload_n 0, 1) := by decide +kernel
theorem dX11_readRule_39 : decode cX11_readRule 39 = .ok (.getfield 267, 3) := by decide +kernel
theorem dX11_readRule_42 : decode cX11_readRule 42 = .ok (.iastore, 1) := by decide +kernel
theorem dX11_readRule_43 : decode cX11_readRule 43 = .ok (.return_, 1) := by decide +kernel
theorem dX11_readMap_0 : decode cX11_readMap 0 = .ok (.aload_n 0, 1) := by decide +kernel
theorem dX11_readMap_1 : decode cX11_readMap 1 = .ok (.getfield 24, 3) := by decide +kernel
theorem dX11_readMap_4 : decode cX11_readMap 4 = .ok (.aload_n 0, 1) := by decide +kernel
theorem dX11_readMap_5 : decode cX11_readMap 5 = .ok (.getfield 264, 3) := by decide +kernel
theorem dX11_readMap_8 : decode cX11_readMap 8 = .ok (.iaload, 1) := by decide +kernel
theorem dX11_readMap_9 : decode cX11_readMap 9 = .ok (.istore_n 1, 1) := by decide +kernel
theorem dX11_readMap_10 : decode cX11_readMap 10 = .ok (.iconst 4, 1) := by decide +kernel
theorem dX11_readMap_11 : decode cX11_readMap 11 = .ok (.aload_n 0, 1) := by decide +kernel
theorem dX11_readMap_12 : decode cX11_readMap 12 = .ok (.getfield 264, 3) := by decide +kernel
theorem dX11_readMap_15 : decode cX11_readMap 15 = .ok (.imul, 1) := by decide +kernel
theorem dX11_readMap_16 : decode cX11_readMap 16 = .ok (.iload_n 1, 1) := by decide +kernel
theorem dX11_readMap_17 : decode cX11_readMap 17 = .ok (.iadd, 1) := by decide +kernel
theorem dX11_readMap_18 : decode cX11_readMap 18 = .ok (.istore_n 2, 1) := by decide +kernel
theorem dX11_readMap_19 : decode cX11_readMap 19 = .ok (.aload_n 0, 1) := by decide +kernel
theorem dX11_readMap_20 : decode cX11_readMap 20 = .ok (.getfield 92, 3) := by decide +kernel
theorem dX11_readMap_23 : decode cX11_readMap 23 = .ok (.iload_n 2, 1) := by decide +kernel
theorem dX11_readMap_24 : decode cX11_readMap 24 = .ok (.aload_n 0, 1) := by decide +kernel
theorem dX11_readMap_25 : decode cX11_readMap 25 = .ok (.aload_n 0, 1) := by decide +kernel
theorem dX11_readMap_26 : decode cX11_readMap 26 = .ok (.invokevirtual 316, 3) := by decide +kernel
theorem dX11_readMap_29 : decode cX11_readMap 29 = .ok (.invokevirtual 312, 3) := by decide +kernel
theorem dX11_readMap_32 : decode cX11_readMap 32 = .ok (.lastore, 1) := by decide +kernel
theorem dX11_readMap_33 : decode cX11_readMap 33 = .ok (.aload_n 0, 1) := by decide +kernel
theorem dX11_readMap_34 : decode cX11_readMap 34 = .ok (.getfield 45, 3) := by decide +kernel
theorem dX11_readMap_37 : decode cX11_readMap 37 = .ok (.iload_n 2, 1) := by decide +kernel
theorem dX11_readMap_38 : decode cX11_readMap 38 = .ok (.aload_n 0, 1) := by decide +kernel
theorem dX11_readMap_39 : decode cX11_readMap 39 = .ok (.ldc2_w 165, 3) := by decide +kernel
theorem dX11_readMap_42 : decode cX11_readMap 42 = .ok (.iconst 1, 1) := by decide +kernel
theorem dX11_readMap_43 : decode cX11_readMap 43 = .ok (.bipush 9, 2) := by decide +kernel
theorem dX11_readMap_45 : decode cX11_readMap 45 = .ok (.invokevirtual 319, 3) := by decide +kernel
theorem dX11_readMap_48 : decode cX11_readMap 48 = .ok (.iastore, 1) := by decide +kernel
theorem dX11_readMap_49 : decode cX11_readMap 49 = .ok (.aload_n 0, 1) := by decide +kernel
theorem dX11_readMap_50 : decode cX11_readMap 50 = .ok (.aload_n 0, 1) := by decide +kernel
theorem dX11_readMap_51 : decode cX11_readMap 51 = .ok (.ldc2_w 167, 3) := by decide +kernel
theorem dX11_readMap_54 : decode cX11_readMap 54 = .ok (.invokevirtual 253, 3) := by decide +kernel
theorem dX11_readMap_57 : decode cX11_readMap 57 = .ok (.invokevirtual 256, 3) := by decide +kernel
theorem dX11_readMap_60 : decode cX11_readMap 60 = .ok (.aload_n 0, 1) := by decide +kernel
theorem dX11_readMap_61 : decode cX11_readMap 61 = .ok (.invokevirtual 243, 3) := by decide +kernel
theorem dX11_readMap_64 : decode cX11_readMap 64 = .ok (.ifCond .eq 8, 3) := by decide +kernel
theorem dX11_readMap_67 : decode cX11_readMap 67 = .ok (.aload_n 0, 1) := by decide +kernel
theorem dX11_readMap_68 : decode cX11_readMap 68 = .ok (.iload_n 1, 1) := by decide +kernel
theorem dX11_readMap_69 : decode cX11_readMap 69 = .ok (.invokevirtual 297, 3) := by decide +kernel
theorem dX11_readMap_72 : decode cX11_readMap 72 = .ok (.aload_n 0, 1) := by decide +kernel
theorem dX11_readMap_73 : decode cX11_readMap 73 = .ok (.getfield 48, 3) := by decide +kernel
theorem dX11_readMap_76 : decode cX11_readMap 76 = .ok (.iload_n 2, 1) := by decide +kernel
theorem dX11_readMap_77 : decode cX11_readMap 77 = .ok (.aload_n 0, 1) := by decide +kernel
theorem dX11_readMap_78 : decode cX11_readMap 78 = .ok (.invokevirtual 243, 3) := by decide +kernel
theorem dX11_readMap_81 : decode cX11_readMap 81 = .ok (.ifCond .eq 25, 3) := by decide +kernel
theorem dX11_readMap_84 : decode cX11_readMap 84 = .ok (.aload_n 0, 1) := by decide +kernel
theorem dX11_readMap_85 : decode cX11_readMap 85 = .ok (.ldc2_w 169, 3) := by decide +kernel
theorem dX11_readMap_88 : decode cX11_readMap 88 = .ok (.invokevirtual 253, 3) := by decide +kernel
theorem dX11_readMap_91 : decode cX11_readMap 91 = .ok (.ifCond .eq 15, 3) := by decide +kernel
theorem dX11_readMap_94 : decode cX11_readMap 94 = .ok (.aload_n 0, 1) := by decide +kernel
theorem dX11_readMap_95 : decode cX11_readMap 95 = .ok (.ldc2_w 169, 3) := by decide +kernel
theorem dX11_readMap_98 : decode cX11_readMap 98 = .ok (.iconst 0, 1) := by decide +kernel
theorem dX11_readMap_99 : decode cX11_readMap 99 = .ok (.iconst 3, 1) := by decide +kernel
theorem dX11_readMap_100 : decode cX11_readMap 100 = .ok (.invokevirtual 319, 3) := by decide +kernel
theorem dX11_readMap_103 : decode cX11_readMap 103 = .ok (.goto 4, 3) := by decide +kernel
theorem dX11_readMap_106 : decode cX11_readMap 106 = .ok (.iconst 0, 1) := by decide +kernel
theorem dX11_readMap_107 : decode cX11_readMap 107 = .ok (.iastore, 1) := by decide +kernel
theorem dX11_readMap_108 : decode cX11_readMap 108 = .ok (.aload_n 0, 1) := by decide +kernel
theorem dX11_readMap_109 : decode cX11_readMap 109 = .ok (.invokevirtual 243, 3) := by decide +kernel
theorem dX11_readMap_112 : decode cX11_readMap 112 = .ok (.ifCond .eq 32, 3) := by decide +kernel
theorem dX11_readMap_115 : decode cX11_readMap 115 = .ok (.aload_n 0, 1) := by decide +kernel
theorem dX11_readMap_116 : decode cX11_readMap 116 = .ok (.ldc2_w 171, 3) := by decide +kernel
theorem dX11_readMap_119 : decode cX11_readMap 119 = .ok (.invokevirtual 253, 3) := by decide +kernel
theorem dX11_readMap_122 : decode cX11_readMap 122 = .ok (.ifCond .eq 22, 3) := by decide +kernel
theorem dX11_readMap_125 : decode cX11_readMap 125 = .ok (.aload_n 0, 1) := by decide +kernel
theorem dX11_readMap_126 : decode cX11_readMap 126 = .ok (.getfield 51, 3) := by decide +kernel
theorem dX11_readMap_129 : decode cX11_readMap 129 = .ok (.aload_n 0, 1) := by decide +kernel
theorem dX11_readMap_130 : decode cX11_readMap 130 = .ok (.getfield 264, 3) := by decide +kernel
theorem dX11_readMap_133 : decode cX11_readMap 133 = .ok (.dup2, 1) := by decide +kernel
theorem dX11_readMap_134 : decode cX11_readMap 134 = .ok (.iaload, 1) := by decide +kernel
theorem dX11_readMap_135 : decode cX11_readMap 135 = .ok (.iconst 1, 1) := by decide +kernel
theorem dX11_readMap_136 : decode cX11_readMap 136 = .ok (.iload_n 1, 1) := by decide +kernel
theorem dX11_readMap_137 : decode cX11_readMap 137 = .ok (.ishl, 1) := by decide +kernel
theorem dX11_readMap_138 : decode cX11_readMap 138 = .ok (.ior, 1) := by decide +kernel
theorem dX11_readMap_139 : decode cX11_readMap 139 = .ok (.iastore, 1) := by decide +kernel
theorem dX11_readMap_140 : decode cX11_readMap 140 = .ok (.aload_n 0, 1) := by decide +kernel
theorem dX11_readMap_141 : decode cX11_readMap 141 = .ok (.invokevirtual 247, 3) := by decide +kernel
theorem dX11_readMap_144 : decode cX11_readMap 144 = .ok (.aload_n 0, 1) := by decide +kernel
theorem dX11_readMap_145 : decode cX11_readMap 145 = .ok (.getfield 54, 3) := by decide +kernel
theorem dX11_readMap_148 : decode cX11_readMap 148 = .ok (.iload_n 2, 1) := by decide +kernel
theorem dX11_readMap_149 : decode cX11_readMap 149 = .ok (.iconst 0, 1) := by decide +kernel
theorem dX11_readMap_150 : decode cX11_readMap 150 = .ok (.iastore, 1) := by decide +kernel
theorem dX11_readMap_151 : decode cX11_readMap 151 = .ok (.aload_n 0, 1) := by decide +kernel
theorem dX11_readMap_152 : decode cX11_readMap 152 = .ok (.getfield 69, 3) := by decide +kernel
theorem dX11_readMap_155 : decode cX11_readMap 155 = .ok (.iload_n 2, 1) := by decide +kernel
theorem dX11_readMap_156 : decode cX11_readMap 156 = .ok (.iconst 0, 1) := by decide +kernel
theorem dX11_readMap_157 : decode cX11_readMap 157 = .ok (.iastore, 1) := by decide +kernel
theorem dX11_readMap_158 : decode cX11_readMap 158 = .ok (.iconst 0, 1) := by decide +kernel
theorem dX11_readMap_159 : decode cX11_readMap 159 = .ok (.istore_n 3, 1) := by decide +kernel
theorem dX11_readMap_160 : decode cX11_readMap 160 = .ok (.iload_n 3, 1) := by decide +kernel
theorem dX11_readMap_161 : decode cX11_readMap 161 = .ok (.iconst 3, 1) := by decide +kernel
theorem dX11_readMap_162 : decode cX11_readMap 162 = .ok (.if_icmp .ge 20, 3) := by decide +kernel
theorem dX11_readMap_165 : decode cX11_readMap 165 = .ok (.aload_n 0, 1) := by decide +kernel
theorem dX11_readMap_166 : decode cX11_readMap 166 = .ok (.getfield 66, 3) := by decide +kernel
theorem dX11_readMap_169 : decode cX11_readMap 169 = .ok (.iconst 3, 1) := by decide +kernel
theorem dX11_readMap_170 : decode cX11_readMap 170 = .ok (.iload_n 2, 1) := by decide +kernel
theorem dX11_readMap_171 : decode cX11_readMap 171 = .ok (.imul, 1) := by decide +kernel
theorem dX11_readMap_172 : decode cX11_readMap 172 = .ok (.iload_n 3, 1) := by decide +kernel
theorem dX11_readMap_173 : decode cX11_readMap 173 = .ok (.iadd, 1) := by decide +kernel
theorem dX11_readMap_174 : decode cX11_readMap 174 = .ok (.iconst 1, 1) := by decide +kernel
theorem dX11_readMap_175 : decode cX11_readMap 175 = .ok (.iastore, 1) := by decide +kernel
theorem dX11_readMap_176 : decode cX11_readMap 176 = .ok (.iinc 3 1, 3) := by decide +kernel
theorem dX11_readMap_179 : decode cX11_readMap 179 = .ok (.goto (-19), 3) := by decide +kernel
theorem dX11_readMap_182 : decode cX11_readMap 182 = .ok (.aload_n 0, 1) := by decide +kernel
theorem dX11_readMap_183 : decode cX11_readMap 183 = .ok (.getfield 24, 3) := by decide +kernel
theorem dX11_readMap_186 : decode cX11_readMap 186 = .ok (.aload_n 0, 1) := by decide +kernel
theorem dX11_readMap_187 : decode cX11_readMap 187 = .ok (.getfield 264, 3) := by decide +kernel
theorem dX11_readMap_190 : decode cX11_readMap 190 = .ok (.dup2, 1) := by decide +kernel
theorem dX11_readMap_191 : decode cX11_readMap 191 = .ok (.iaload, 1) := by decide +kernel
theorem dX11_readMap_192 : decode cX11_readMap 192 = .ok (.iconst 1, 1) := by decide +kernel
theorem dX11_readMap_193 : decode cX11_readMap 193 = .ok (.iadd, 1) := by decide +kernel
theorem dX11_readMap_194 : decode cX11_readMap 194 = .ok (.iastore, 1) := by decide +kernel
theorem dX11_readMap_195 : decode cX11_readMap 195 = .ok (.return_, 1) := by decide +kernel
set_option maxHeartbeats 20000000 in
set_option maxRecDepth 100000 in
theorem m_X11_readRule (l : Launch) (D : va_G) (cT : Nat → ClassId) (T : Nat → Option Nat) (q : Nat → Int) (hT : tokm T) (hq : qkm q) (a0 : Nat) (t0 : T a0 = some 0) (y1 : Int32) (j1 : IV y1 0 4) (hp0 : TS q) (hp1 : q 13 = 1 - q 10) (hp2 : q 30 = 0) (hp3 : AC q) : th_MetM l D cT T q yX11_readRule cX11_readRule 2 none (rmk 5 107) [.ref a0, .int y1] (fun v q2 => v = none ∧ qkm q2 ∧ fr [20, 21, 22, 23, 24, 27, 28, 29, 30, 31, 1000, 35] q q2 ∧ (TS q2) ∧ (q 27 ≤ q2 27) ∧ (kq q q2 (q 20) (5 * (q 13).toNat + (y1.toInt).toNat)) ∧ (RR q q2 (y1.toInt).toNat) ∧ (GD q q2)) [0, 8, 20, 21, 28, 29, 30, 31] := by
  refine th_startM (by decide) (Nat.le_of_ble_eq_true rfl) ?_
  intro p e s m below meth c ls S hK hH hr hlocks hnm hl
  have hx := S.1
  have hb := S.2.1
  have l1y1 := j1.1; have l2y1 := j1.2
  have c10 := qkm_10 hq; have c13 := qkm_13 hq; have c20 := qkm_20 hq; have c23 := qkm_23 hq; have c26 := qkm_26 hq; have c27 := qkm_27 hq
  have hl : lv_has ls 2 [(0, .ref a0), (1, .int y1)] := hl
  have J0 : ∀ (H : Heap) (locs : List Loc) (ls : Array Slot), th_H D cT T (km q) H → va_S (th_A T [0, 8, 20, 21, 28, 29, 30, 31]) s.heap H locs → lv_has ls 2 [(0, .ref a0), (1, .int y1)] → W p l e (rmk 5 107) s m [.ref a0, .int y1].toArray below meth c H locs 0 0 (MQ below (th_QM D cT T (fun v q2 => v = none ∧ qkm q2 ∧ fr [20, 21, 22, 23, 24, 27, 28, 29, 30, 31, 1000, 35] q q2 ∧ (TS q2) ∧ (q 27 ≤ q2 27) ∧ (kq q q2 (q 20) (5 * (q 13).toNat + (y1.toInt).toNat)) ∧ (RR q q2 (y1.toInt).toNat) ∧ (GD q q2)) [0, 8, 20, 21, 28, 29, 30, 31]) [.ref a0, .int y1].toArray s 0 0 (th_A T [0, 8, 20, 21, 28, 29, 30, 31])) (F0 m 0 ls []) := by
    intro H locs ls hH hS hl
    refine lv_aload_n hx hb dX11_readRule_0 rfl (lv_at hl 0 rfl) ?_
    refine lv_iconst (v := 0) hx hb dX11_readRule_1 (by decide) ?_
    obtain ⟨n2, en2⟩ : ∃ z : Int, z = Int32.toInt 0 := ⟨_, rfl⟩
    have fn2 : n2 = 0 := by rw [en2]; rfl
    refine mput_23 S hK hH hS ⟨0, by decide, t0⟩ hT t0 en2 gm_1276 dX11_readRule_2 (fun q1 H locs eq1 hH hS hq1 => ?_)
    have hqq1 : qkm q1 := by rw [eq1]; exact qum_ok23 hq (iv_z en2 (iv_w (iv_c (by decide) : IV 0 0 0) (by decide)))
    have h0q1 : fr [20, 21, 22, 23, 24, 27, 28, 29, 30, 31, 1000, 35] q q1 := by rw [eq1]; exact fr_up fr_rf (by decide)
    have wq1_10 : q1 10 = q 10 := by rw [eq1]; rfl
    have wq1_13 : q1 13 = q 13 := by rw [eq1]; rfl
    have wq1_20 : q1 20 = q 20 := by rw [eq1]; rfl
    have wq1_21 : q1 21 = q 21 := by rw [eq1]; rfl
    have wq1_22 : q1 22 = q 22 := by rw [eq1]; rfl
    have wq1_23 : q1 23 = 0 := by rw [show q1 23 = n2 by rw [eq1]; rfl, fn2]
    have wq1_24 : q1 24 = q 24 := by rw [eq1]; rfl
    have wq1_26 : q1 26 = q 26 := by rw [eq1]; rfl
    have wq1_27 : q1 27 = q 27 := by rw [eq1]; rfl
    have wq1_28 : q1 28 = q 28 := by rw [eq1]; rfl
    have wq1_29 : q1 29 = q 29 := by rw [eq1]; rfl
    have wq1_30 : q1 30 = q 30 := by rw [eq1]; rfl
    have wq1_31 : q1 31 = q 31 := by rw [eq1]; rfl
    have wq1_35 : q1 35 = q 35 := by rw [eq1]; rfl
    have bgq1 : bg q q1 := bg_up bg_rf eq1 (by decide)
    have gdq1 : GD q q1 := GD_tr (GD_eq rfl) (GD_eq wq1_30)
    have gbq1 : GD q q1 := GD_tr (GD_eq rfl) (GD_eq wq1_30)
    have txq1 : tx q q1 := tx_tr tx_rf (tx_up eq1 (by omega))
    clear en2 fn2
    refine lv_aload_n hx hb dX11_readRule_5 rfl (lv_at hl 0 rfl) ?_
    refine th_get S hK hH inG11 t0 km_0 rfl 28 (by decide) gm_1258 rfl rfl dX11_readRule_6 (fun v3 hv3 fv3 => ?_)
    obtain ⟨rf4, rfl, trf4⟩ := th_V.ref hv3
    refine lv_iconst (v := 5) hx hb dX11_readRule_9 (by decide) ?_
    refine lv_aload_n hx hb dX11_readRule_10 rfl (lv_at hl 0 rfl) ?_
    refine th_get S hK hH inG11 t0 km_0 rfl 42 (by decide) gm_1272 rfl rfl dX11_readRule_11 (fun v5 hv5 fv5 => ?_)
    obtain ⟨x6, rfl, ix6⟩ := th_V.int hv5
    have kx6 : x6.toInt = q1 13 := Int.le_antisymm ix6.2 ix6.1
    have bx6 := qkm_13 hqq1
    have ix6 : IV x6 0 1 := iv_w ix6 (qkm_13 hqq1)
    refine lv_imul hx hb dX11_readRule_14 ?_
    refine lv_topi (fun x7 ex7 => ?_)
    have ix7 : IV x7 0 5 := by rw [ex7]; exact iv_mul (iv_c (by decide) : IV 5 5 5) ix6 (by decide) (by decide)
    have ux7 : x7.toInt = (5 : Int) * x6.toInt := by rw [ex7]; exact iv_mulE (iv_corner ((iv_c (by decide) : IV 5 5 5)).1 ((iv_c (by decide) : IV 5 5 5)).2 (ix6).1 (ix6).2 (by decide))
    refine lv_iload_n hx hb dX11_readRule_15 rfl (lv_at hl 1 rfl) ?_
    refine lv_iadd hx hb dX11_readRule_16 ?_
    refine lv_topi (fun x8 ex8 => ?_)
    have ix8 : IV x8 0 9 := by rw [ex8]; exact iv_add ix7 j1 (by decide)
    have ux8 : x8.toInt = x7.toInt + y1.toInt := by rw [ex8]; exact iv_addE (by have z1 := (ix7).1; have z2 := (ix7).2; have z3 := (j1).1; have z4 := (j1).2; omega)
    refine lv_aload_n hx hb dX11_readRule_17 rfl (lv_at hl 0 rfl) ?_
    refine th_get S hK hH inG11 t0 km_0 rfl 43 (by decide) gm_1273 rfl rfl dX11_readRule_18 (fun v9 hv9 fv9 => ?_)
    obtain ⟨x10, rfl, ix10⟩ := th_V.int hv9
    have kx10 : x10.toInt = q1 20 := Int.le_antisymm ix10.2 ix10.1
    have bx10 := qkm_20 hqq1
    have ix10 : IV x10 0 1120 := iv_w ix10 (qkm_20 hqq1)
    obtain ⟨n11, en11⟩ : ∃ z : Int, z = Int32.toInt x10 := ⟨_, rfl⟩
    have jq12 := th_nat (hi := 9) ix8
    refine mst_20 S hK hH hS ⟨20, by decide, trf4⟩ hT trf4 en11 (th_in (hi := 9) ix8 (by decide)) dX11_readRule_21 (fun q12 H locs eq12 hH hS hq1 => ?_)
    have hqq12 : qkm q12 := by rw [eq12]; exact qkm_big20 hqq1 (by omega) (by omega)
    have h0q12 : fr [20, 21, 22, 23, 24, 27, 28, 29, 30, 31, 1000, 35] q q12 := by rw [eq12]; exact fr_upB h0q1 (by omega) (by decide)
    have wq12_10 : q12 10 = q1 10 := by rw [eq12]; exact if_neg (by omega)
    have wq12_13 : q12 13 = q1 13 := by rw [eq12]; exact if_neg (by omega)
    have wq12_20 : q12 20 = q1 20 := by rw [eq12]; exact if_neg (by omega)
    have wq12_21 : q12 21 = q1 21 := by rw [eq12]; exact if_neg (by omega)
    have wq12_22 : q12 22 = q1 22 := by rw [eq12]; exact if_neg (by omega)
    have wq12_23 : q12 23 = q1 23 := by rw [eq12]; exact if_neg (by omega)
    have wq12_24 : q12 24 = q1 24 := by rw [eq12]; exact if_neg (by omega)
    have wq12_26 : q12 26 = q1 26 := by rw [eq12]; exact if_neg (by omega)
    have wq12_27 : q12 27 = q1 27 := by rw [eq12]; exact if_neg (by omega)
    have wq12_28 : q12 28 = q1 28 := by rw [eq12]; exact if_neg (by omega)
    have wq12_29 : q12 29 = q1 29 := by rw [eq12]; exact if_neg (by omega)
    have wq12_30 : q12 30 = q1 30 := by rw [eq12]; exact if_neg (by omega)
    have wq12_31 : q12 31 = q1 31 := by rw [eq12]; exact if_neg (by omega)
    have wq12_35 : q12 35 = q1 35 := by rw [eq12]; exact if_neg (by omega)
    have gdq12 : GD q q12 := GD_tr gdq1 (GD_eq wq12_30)
    have txq12 : tx q q12 := tx_tr txq1 (tx_up eq12 (by have z1 := (ix8).2; omega))
    obtain ⟨q13, eq13⟩ : ∃ z, z = qup q12 35 (q 20) := ⟨_, rfl⟩
    have hH : th_H D cT T (km q13) H := by rw [eq13, kmg35]; exact hH
    have hqq13 : qkm q13 := by rw [eq13]; exact qkmg35 hqq12
    have h0q13 : fr [20, 21, 22, 23, 24, 27, 28, 29, 30, 31, 1000, 35] q q13 := by rw [eq13]; exact fr_up h0q12 (by decide)
    have wq13_10 : q13 10 = q12 10 := by rw [eq13]; rfl
    have wq13_13 : q13 13 = q12 13 := by rw [eq13]; rfl
    have wq13_20 : q13 20 = q12 20 := by rw [eq13]; rfl
    have wq13_21 : q13 21 = q12 21 := by rw [eq13]; rfl
    have wq13_22 : q13 22 = q12 22 := by rw [eq13]; rfl
    have wq13_23 : q13 23 = q12 23 := by rw [eq13]; rfl
    have wq13_24 : q13 24 = q12 24 := by rw [eq13]; rfl
    have wq13_26 : q13 26 = q12 26 := by rw [eq13]; rfl
    have wq13_27 : q13 27 = q12 27 := by rw [eq13]; rfl
    have wq13_28 : q13 28 = q12 28 := by rw [eq13]; rfl
    have wq13_29 : q13 29 = q12 29 := by rw [eq13]; rfl
    have wq13_30 : q13 30 = q12 30 := by rw [eq13]; rfl
    have wq13_31 : q13 31 = q12 31 := by rw [eq13]; rfl
    have wq13_35 : q13 35 = q 20 := by rw [eq13]; rfl
    have bgq13 : bg q12 q13 := bg_up bg_rf eq13 (by decide)
    have gdq13 : GD q q13 := GD_tr gdq12 (GD_eq wq13_30)
    have gbq13 : GD q12 q13 := GD_tr (GD_eq rfl) (GD_eq wq13_30)
    have txq13 : tx q q13 := tx_tr txq12 (tx_up eq13 (by omega))
    have hAC : AC q13 := AC_mv hp3 (by omega) (by omega) (by omega) (by omega)
    refine lv_aload_n hx hb dX11_readRule_22 rfl (lv_at hl 0 rfl) ?_
    refine th_callVM (n := 0) (As := []) S hK hH hS (th_A.sub (by decide)) (m_X11_e l D cT T q13 hT hqq13 a0 t0 (show TS q13 by exact (TS_mv hp0 txq13 (by omega) (by omega) (by omega) (by omega) (by omega) (fun z => by omega))) (show q13 13 = 1 - q13 10 by omega) (show q13 30 = 0 by omega) (show AC q13 by assumption) (show q13 35 = q13 20 by omega)) gm_1551 gm_1548 gm_1550 gm_65 gm_124 (by decide +kernel) ⟨rfl, rfl, Nat.le_of_ble_eq_true rfl, Nat.le_of_ble_eq_true rfl⟩ t0 km_0 rfl rfl hl.1 rfl (Nat.le_of_ble_eq_true rfl) dX11_readRule_23 ⟨Nat.zero_le _, Nat.zero_le _⟩ (fun wq14 q14 H locs hEq14 hH hS hF1 => ?_)
    obtain ⟨rfl, hqq14, g0q14, pq14_0, pq14_1, pq14_2, pq14_3, pq14_4⟩ := hEq14
    show W p l e (rmk 5 107) s m [.ref a0, .int y1].toArray below meth c H locs 0 0 (MQ below (th_QM D cT T (fun v q2 => v = none ∧ qkm q2 ∧ fr [20, 21, 22, 23, 24, 27, 28, 29, 30, 31, 1000, 35] q q2 ∧ (TS q2) ∧ (q 27 ≤ q2 27) ∧ (kq q q2 (q 20) (5 * (q 13).toNat + (y1.toInt).toNat)) ∧ (RR q q2 (y1.toInt).toNat) ∧ (GD q q2)) [0, 8, 20, 21, 28, 29, 30, 31]) [.ref a0, .int y1].toArray s 0 0 (th_A T [0, 8, 20, 21, 28, 29, 30, 31])) (F0 m 26 ls [])
    have pq14_0 : TS q14 := pq14_0
    have pq14_1 : q13 27 ≤ q14 27 := pq14_1
    have pq14_2 : kp q13 q14 (q13 35) := pq14_2
    have pq14_3 : EE q14 := pq14_3
    have pq14_4 : GD q13 q14 := pq14_4
    have wq14_10 : q14 10 = q13 10 := g0q14 10 (by decide) (Or.inl (by decide))
    have wq14_13 : q14 13 = q13 13 := g0q14 13 (by decide) (Or.inl (by decide))
    have wq14_26 : q14 26 = q13 26 := g0q14 26 (by decide) (Or.inl (by decide))
    have wq14_35 : q14 35 = q13 35 := g0q14 35 (by decide) (Or.inl (by decide))
    have h0q14 : fr [20, 21, 22, 23, 24, 27, 28, 29, 30, 31, 1000, 35] q q14 := fr_tr h0q13 g0q14 (by decide)
    have gdq14 : GD q q14 := GD_tr gdq13 pq14_4
    have f20 := qkm_20 hqq14
    refine lv_aload_n hx hb dX11_readRule_26 rfl (lv_at hl 0 rfl) ?_
    refine th_get S hK hH inG11 t0 km_0 rfl 29 (by decide) gm_1259 rfl rfl dX11_readRule_27 (fun v15 hv15 fv15 => ?_)
    obtain ⟨rf16, rfl, trf16⟩ := th_V.ref hv15
    refine lv_iconst (v := 5) hx hb dX11_readRule_30 (by decide) ?_
    refine lv_aload_n hx hb dX11_readRule_31 rfl (lv_at hl 0 rfl) ?_
    refine th_get S hK hH inG11 t0 km_0 rfl 42 (by decide) gm_1272 rfl rfl dX11_readRule_32 (fun v17 hv17 fv17 => ?_)
    obtain ⟨x18, rfl, ix18⟩ := th_V.int hv17
    have kx18 : x18.toInt = q14 13 := Int.le_antisymm ix18.2 ix18.1
    have bx18 := qkm_13 hqq14
    have ix18 : IV x18 0 1 := iv_w ix18 (qkm_13 hqq14)
    refine lv_imul hx hb dX11_readRule_35 ?_
    refine lv_topi (fun x19 ex19 => ?_)
    have ix19 : IV x19 0 5 := by rw [ex19]; exact iv_mul (iv_c (by decide) : IV 5 5 5) ix18 (by decide) (by decide)
    have ux19 : x19.toInt = (5 : Int) * x18.toInt := by rw [ex19]; exact iv_mulE (iv_corner ((iv_c (by decide) : IV 5 5 5)).1 ((iv_c (by decide) : IV 5 5 5)).2 (ix18).1 (ix18).2 (by decide))
    refine lv_iload_n hx hb dX11_readRule_36 rfl (lv_at hl 1 rfl) ?_
    refine lv_iadd hx hb dX11_readRule_37 ?_
    refine lv_topi (fun x20 ex20 => ?_)
    have ix20 : IV x20 0 9 := by rw [ex20]; exact iv_add ix19 j1 (by decide)
    have ux20 : x20.toInt = x19.toInt + y1.toInt := by rw [ex20]; exact iv_addE (by have z1 := (ix19).1; have z2 := (ix19).2; have z3 := (j1).1; have z4 := (j1).2; omega)
    refine lv_aload_n hx hb dX11_readRule_38 rfl (lv_at hl 0 rfl) ?_
    refine th_get S hK hH inG11 t0 km_0 rfl 43 (by decide) gm_1273 rfl rfl dX11_readRule_39 (fun v21 hv21 fv21 => ?_)
    obtain ⟨x22, rfl, ix22⟩ := th_V.int hv21
    have kx22 : x22.toInt = q14 20 := Int.le_antisymm ix22.2 ix22.1
    have bx22 := qkm_20 hqq14
    have ix22 : IV x22 0 1120 := iv_w ix22 (qkm_20 hqq14)
    obtain ⟨n23, en23⟩ : ∃ z : Int, z = Int32.toInt x22 := ⟨_, rfl⟩
    have jq24 := th_nat (hi := 9) ix20
    refine mst_21 S hK hH hS ⟨21, by decide, trf16⟩ hT trf16 en23 (th_in (hi := 9) ix20 (by decide)) dX11_readRule_42 (fun q24 H locs eq24 hH hS hq1 => ?_)
    have hqq24 : qkm q24 := by rw [eq24]; exact qkm_big21 hqq14 (by omega) (by omega)
    have h0q24 : fr [20, 21, 22, 23, 24, 27, 28, 29, 30, 31, 1000, 35] q q24 := by rw [eq24]; exact fr_upB h0q14 (by omega) (by decide)
    have wq24_10 : q24 10 = q14 10 := by rw [eq24]; exact if_neg (by omega)
    have wq24_13 : q24 13 = q14 13 := by rw [eq24]; exact if_neg (by omega)
    have wq24_20 : q24 20 = q14 20 := by rw [eq24]; exact if_neg (by omega)
    have wq24_21 : q24 21 = q14 21 := by rw [eq24]; exact if_neg (by omega)
    have wq24_22 : q24 22 = q14 22 := by rw [eq24]; exact if_neg (by omega)
    have wq24_23 : q24 23 = q14 23 := by rw [eq24]; exact if_neg (by omega)
    have wq24_24 : q24 24 = q14 24 := by rw [eq24]; exact if_neg (by omega)
    have wq24_26 : q24 26 = q14 26 := by rw [eq24]; exact if_neg (by omega)
    have wq24_27 : q24 27 = q14 27 := by rw [eq24]; exact if_neg (by omega)
    have wq24_28 : q24 28 = q14 28 := by rw [eq24]; exact if_neg (by omega)
    have wq24_29 : q24 29 = q14 29 := by rw [eq24]; exact if_neg (by omega)
    have wq24_30 : q24 30 = q14 30 := by rw [eq24]; exact if_neg (by omega)
    have wq24_31 : q24 31 = q14 31 := by rw [eq24]; exact if_neg (by omega)
    have wq24_35 : q24 35 = q14 35 := by rw [eq24]; exact if_neg (by omega)
    have gdq24 : GD q q24 := GD_tr gdq14 (GD_eq wq24_30)
    have txq24 : tx q14 q24 := tx_tr tx_rf (tx_up eq24 (by have z1 := (ix20).2; omega))
    have hF := rule_fin (q := q) (b := (q 13).toNat) (r := y1.toInt.toNat) bgq1 eq12 eq13 pq14_2 eq24 (by omega) (by omega) (by omega) (by omega) (by omega) rfl (by omega) ⟨by omega, by omega⟩ (by omega)
    have hG : RR q q24 (y1.toInt).toNat := RR_of pq14_3 hF.2.2 (by omega) (by omega) (by omega) (by omega) (by omega) (by omega) (by omega) (by omega)
    exact th_vretM S hK hH hS hr hlocks ⟨rfl, hqq24, h0q24, (show TS q24 by exact (TS_mv pq14_0 txq24 (by omega) (by omega) (by omega) (by omega) (by omega) (fun z => by omega))), (show q 27 ≤ q24 27 by omega), (show kq q q24 (q 20) (5 * (q 13).toNat + (y1.toInt).toNat) by exact hF.1), (show RR q q24 (y1.toInt).toNat by exact hG), (show GD q q24 by exact gdq24)⟩ dX11_readRule_43
  exact J0 s.heap [] ls hH va_S.rf hl

set_option maxHeartbeats 20000000 in
set_option maxRecDepth 100000 in
theorem J160_X11_readMap (l : Launch) (D : va_G) (cT : Nat → ClassId) (T : Nat → Option Nat) (q : Nat → Int) (hT : tokm T) (hq : qkm q) (a0 : Nat) (t0 : T a0 = some 0) (hp0 : TS q) (hp1 : q 13 = 1 - q 10) (hp2 : q 30 = 0) (hp3 : MB1 q (q 14) (q 15)) (hp4 : q 14 ≤ 3) (p : Program) (e : Env) (s : State) (m : MethodId) (below : List Frame) (meth : Method) (c : Code) (S : CallFix p m c cX11_readMap 4 s [.ref a0].toArray gw yX11_readMap.cls) (hK : va_K D classes (th_tys cT) s) (hr : meth.sig.returnType = none) (hlocks : meth.locks = false) : ∀ (n : Nat) (q160 : Nat → Int) (H : Heap) (locs : List Loc) (ls : Array Slot) (v160_2 : Int32) (v160_3 : Int32), qkm q160 → fr [14, 20, 21, 22, 23, 24, 27, 28, 29, 30, 31, 1000, 35] q q160 → IV v160_2 0 7 → IV v160_3 0 3 → (TS q160) → (q 27 ≤ q160 27) → (GD q q160) → (q160 14 = q 14) → (MB q160 (q 14 + 1) (q 15)) → th_H D cT T (km q160) H → va_S (th_A T [0, 4, 8, 11, 12, 13, 14, 18, 19, 20, 21, 26, 28, 29, 30, 31]) s.heap H locs → lv_has ls 4 [(0, .ref a0), (2, .int v160_2), (3, .int v160_3)] → (3 + 1 - Int32.toInt v160_3).toNat < n → W p l e (rmk 6 128) s m [.ref a0].toArray below meth c H locs 0 0 (MQ below (th_QM D cT T (fun v q2 => v = none ∧ qkm q2 ∧ fr [14, 20, 21, 22, 23, 24, 27, 28, 29, 30, 31, 1000, 35] q q2 ∧ (TS q2) ∧ (q 27 ≤ q2 27) ∧ (MB q2 (q2 14) (q2 15)) ∧ (GD q q2)) [0, 4, 8, 11, 12, 13, 14, 18, 19, 20, 21, 26, 28, 29, 30, 31]) [.ref a0].toArray s 0 0 (th_A T [0, 4, 8, 11, 12, 13, 14, 18, 19, 20, 21, 26, 28, 29, 30, 31])) (F0 m 160 ls []) := by
    have hx := S.1
    have hb := S.2.1
    have c10 := qkm_10 hq; have c13 := qkm_13 hq; have c14 := qkm_14 hq; have c20 := qkm_20 hq; have c27 := qkm_27 hq
    intro n
    induction n with
    | zero => intro q160 H locs ls v160_2 v160_3 hq160 h0160 iv160_2 iv160_3 v160_inv0 v160_inv1 v160_inv2 v160_inv3 v160_inv4 hH hS hl hn; exact absurd hn (Nat.not_lt_zero _)
    | succ n ih160 =>
      intro q160 H locs ls v160_2 v160_3 hq160 h0160 iv160_2 iv160_3 v160_inv0 v160_inv1 v160_inv2 v160_inv3 v160_inv4 hH hS hl hn160
      have w160_10 : q160 10 = q 10 := h0160 10 (by decide) (Or.inl (by decide))
      have w160_13 : q160 13 = q 13 := h0160 13 (by decide) (Or.inl (by decide))
      have w160_15 : q160 15 = q 15 := h0160 15 (by decide) (Or.inl (by decide))
      have w160_26 : q160 26 = q 26 := h0160 26 (by decide) (Or.inl (by decide))
      have l1v160_2 := iv160_2.1; have l2v160_2 := iv160_2.2
      have l1v160_3 := iv160_3.1; have l2v160_3 := iv160_3.2
      refine lv_iload_n hx hb dX11_readMap_160 rfl (lv_at hl 2 rfl) ?_
      refine lv_iconst (v := 3) hx hb dX11_readMap_161 (by decide) ?_
      refine lv_icmp_ge (tgt := 182) hx hb dX11_readMap_162 (by decide) (fun c1 => ?_) (fun c1 => ?_)
      · skip
        have rlc1 : (3 : Int) ≤ v160_3.toInt := iv_le c1
        have ir2 : IV v160_3 3 3 := iv_vR (iv_c (by decide) : IV 3 3 3) iv160_3 (iv_le c1) (by decide)
        have ir2a := ir2.1; have ir2b := ir2.2
        refine lv_aload_n hx hb dX11_readMap_182 rfl (lv_at hl 0 rfl) ?_
        refine th_get S hK hH inG11 t0 km_0 rfl 12 (by decide) gm_1242 rfl rfl dX11_readMap_183 (fun v3 hv3 fv3 => ?_)
        obtain ⟨rf4, rfl, trf4⟩ := th_V.ref hv3
        refine lv_aload_n hx hb dX11_readMap_186 rfl (lv_at hl 0 rfl) ?_
        refine th_get S hK hH inG11 t0 km_0 rfl 42 (by decide) gm_1272 rfl rfl dX11_readMap_187 (fun v5 hv5 fv5 => ?_)
        obtain ⟨x6, rfl, ix6⟩ := th_V.int hv5
        have kx6 : x6.toInt = q160 13 := Int.le_antisymm ix6.2 ix6.1
        have bx6 := qkm_13 hq160
        have ix6 : IV x6 0 1 := iv_w ix6 (qkm_13 hq160)
        refine lv_dup2_11 hx hb dX11_readMap_190 rfl rfl ?_
        refine th_iald S hK hH trf4 km_4 (th_in (hi := 1) ix6 (by decide)) dX11_readMap_191 (fun v7 hv7 => ?_)
        obtain ⟨x8, rfl, ix8⟩ := th_bkB hv7 ix6 (by omega)
        have kx8 : x8.toInt = q160 14 := Int.le_antisymm ix8.2 ix8.1
        have bx8 := qkm_14 hq160
        have ix8 : IV x8 0 4 := iv_w ix8 (qkm_14 hq160)
        refine lv_iconst (v := 1) hx hb dX11_readMap_192 (by decide) ?_
        refine lv_iadd hx hb dX11_readMap_193 ?_
        refine lv_topi (fun x9 ex9 => ?_)
        have ix9 : IV x9 1 5 := by rw [ex9]; exact iv_add ix8 (iv_c (by decide) : IV 1 1 1) (by decide)
        have ux9 : x9.toInt = x8.toInt + (1 : Int) := by rw [ex9]; exact iv_addE (by have z1 := (ix8).1; have z2 := (ix8).2; have z3 := ((iv_c (by decide) : IV 1 1 1)).1; have z4 := ((iv_c (by decide) : IV 1 1 1)).2; omega)
        obtain ⟨n10, en10⟩ : ∃ z : Int, z = Int32.toInt x9 := ⟨_, rfl⟩
        refine mst_4 S hK hH hS ⟨4, by decide, trf4⟩ hT trf4 en10 (qkm_10 hq160) ix6 (by omega) dX11_readMap_194 (fun q11 H locs eq11 hH hS hq1 => ?_)
        have hqq11 : qkm q11 := by rw [eq11]; exact qum_ok14 hq160 (by have z1 := (ix9).1; have z2 := (ix9).2; exact ⟨by omega, by omega⟩)
        have h0q11 : fr [14, 20, 21, 22, 23, 24, 27, 28, 29, 30, 31, 1000, 35] q q11 := by rw [eq11]; exact fr_up h0160 (by decide)
        have wq11_10 : q11 10 = q160 10 := by rw [eq11]; rfl
        have wq11_13 : q11 13 = q160 13 := by rw [eq11]; rfl
        have wq11_14 : q11 14 = q160 14 + (1 : Int) := by rw [show q11 14 = n10 by rw [eq11]; rfl, en10, ux9, kx8]
        have wq11_15 : q11 15 = q160 15 := by rw [eq11]; rfl
        have wq11_20 : q11 20 = q160 20 := by rw [eq11]; rfl
        have wq11_21 : q11 21 = q160 21 := by rw [eq11]; rfl
        have wq11_22 : q11 22 = q160 22 := by rw [eq11]; rfl
        have wq11_23 : q11 23 = q160 23 := by rw [eq11]; rfl
        have wq11_24 : q11 24 = q160 24 := by rw [eq11]; rfl
        have wq11_26 : q11 26 = q160 26 := by rw [eq11]; rfl
        have wq11_27 : q11 27 = q160 27 := by rw [eq11]; rfl
        have wq11_28 : q11 28 = q160 28 := by rw [eq11]; rfl
        have wq11_29 : q11 29 = q160 29 := by rw [eq11]; rfl
        have wq11_30 : q11 30 = q160 30 := by rw [eq11]; rfl
        have wq11_31 : q11 31 = q160 31 := by rw [eq11]; rfl
        have wq11_35 : q11 35 = q160 35 := by rw [eq11]; rfl
        have bgq11 : bg q160 q11 := bg_up bg_rf eq11 (by decide)
        have gdq11 : GD q q11 := GD_tr v160_inv2 (GD_eq wq11_30)
        have gbq11 : GD q160 q11 := GD_tr (GD_eq rfl) (GD_eq wq11_30)
        have txq11 : tx q160 q11 := tx_tr tx_rf (tx_up eq11 (by omega))
        clear en10
        clear ux9
        have f12 := fv3.kept (hq1 _ (th_ne t0 trf4 (by decide)))
        exact th_vretM S hK hH hS hr hlocks ⟨rfl, hqq11, h0q11, (show TS q11 by exact (TS_mv v160_inv0 txq11 (by omega) (by omega) (by omega) (by omega) (by omega) (fun z => by omega))), (show q 27 ≤ q11 27 by omega), (show MB q11 (q11 14) (q11 15) by exact (MB_mv v160_inv4 bgq11 gbq11 (by omega) (by omega) (by omega) (by omega) (by omega) (by omega) (by omega))), (show GD q q11 by exact gdq11)⟩ dX11_readMap_195
      · skip
        have rlc1 : v160_3.toInt < (3 : Int) := iv_nle c1
        have ir13 : IV v160_3 0 2 := iv_uL iv160_3 (iv_c (by decide) : IV 3 3 3) (iv_nle c1) (by decide)
        have ir13a := ir13.1; have ir13b := ir13.2
        refine lv_aload_n hx hb dX11_readMap_165 rfl (lv_at hl 0 rfl) ?_
        refine th_get S hK hH inG11 t0 km_0 rfl 26 (by decide) gm_1256 rfl rfl dX11_readMap_166 (fun v14 hv14 fv14 => ?_)
        obtain ⟨rf15, rfl, trf15⟩ := th_V.ref hv14
        refine lv_iconst (v := 3) hx hb dX11_readMap_169 (by decide) ?_
        refine lv_iload_n hx hb dX11_readMap_170 rfl (lv_at hl 1 rfl) ?_
        refine lv_imul hx hb dX11_readMap_171 ?_
        refine lv_topi (fun x16 ex16 => ?_)
        have ix16 : IV x16 0 21 := by rw [ex16]; exact iv_mul (iv_c (by decide) : IV 3 3 3) iv160_2 (by decide) (by decide)
        have ux16 : x16.toInt = (3 : Int) * v160_2.toInt := by rw [ex16]; exact iv_mulE (iv_corner ((iv_c (by decide) : IV 3 3 3)).1 ((iv_c (by decide) : IV 3 3 3)).2 (iv160_2).1 (iv160_2).2 (by decide))
        refine lv_iload_n hx hb dX11_readMap_172 rfl (lv_at hl 2 rfl) ?_
        refine lv_iadd hx hb dX11_readMap_173 ?_
        refine lv_topi (fun x17 ex17 => ?_)
        have ix17 : IV x17 0 23 := by rw [ex17]; exact iv_add ix16 ir13 (by decide)
        have ux17 : x17.toInt = x16.toInt + v160_3.toInt := by rw [ex17]; exact iv_addE (by have z1 := (ix16).1; have z2 := (ix16).2; have z3 := (ir13).1; have z4 := (ir13).2; omega)
        refine lv_iconst (v := 1) hx hb dX11_readMap_174 (by decide) ?_
        refine th_iast S hK hH hS ⟨18, by decide, trf15⟩ trf15 km_18 (th_in (hi := 23) ix17 (by decide)) (th_iv (iv_top _)) dX11_readMap_175 (fun H locs hH hS hq1 => ?_)
        refine th_iinc S dX11_readMap_176 hl (k := 2) rfl (by decide) ir13 (by decide) (fun x18 ls ex18 ix18 hl => ?_)
        have hl : lv_has ls 4 [(3, .int x18), (0, .ref a0), (2, .int v160_2)] := hl
        have ix18 : IV x18 1 3 := ix18
        refine lv_goto (tgt := 160) hx hb dX11_readMap_179 (by decide) ?_
        exact ih160 q160 H locs ls v160_2 x18 hq160 h0160 iv160_2 (iv_w ix18 (by decide)) (show TS q160 by exact v160_inv0) (show q 27 ≤ q160 27 by omega) (show GD q q160 by exact v160_inv2) (show q160 14 = q 14 by omega) (show MB q160 (q 14 + 1) (q 15) by exact v160_inv4) hH hS (lv_sub hl [1, 2, 0] rfl) (th_up iv160_3 ex18 (by decide) hn160)

