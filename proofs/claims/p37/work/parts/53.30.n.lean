theorem dX11_readLine_0 : decode cX11_readLine 0 = .ok (.aload_n 0, 1) := by decide +kernel
theorem dX11_readLine_1 : decode cX11_readLine 1 = .ok (.getfield 222, 3) := by decide +kernel
theorem dX11_readLine_4 : decode cX11_readLine 4 = .ok (.lstore_n 1, 1) := by decide +kernel
theorem dX11_readLine_5 : decode cX11_readLine 5 = .ok (.aload_n 0, 1) := by decide +kernel
theorem dX11_readLine_6 : decode cX11_readLine 6 = .ok (.getfield 215, 3) := by decide +kernel
theorem dX11_readLine_9 : decode cX11_readLine 9 = .ok (.iconst 3, 1) := by decide +kernel
theorem dX11_readLine_10 : decode cX11_readLine 10 = .ok (.if_icmp .ne 10, 3) := by decide +kernel
theorem dX11_readLine_13 : decode cX11_readLine 13 = .ok (.aload_n 0, 1) := by decide +kernel
theorem dX11_readLine_14 : decode cX11_readLine 14 = .ok (.invokevirtual 279, 3) := by decide +kernel
theorem dX11_readLine_17 : decode cX11_readLine 17 = .ok (.ifCond .eq 7, 3) := by decide +kernel
theorem dX11_readLine_20 : decode cX11_readLine 20 = .ok (.aload_n 0, 1) := by decide +kernel
theorem dX11_readLine_21 : decode cX11_readLine 21 = .ok (.invokevirtual 250, 3) := by decide +kernel
theorem dX11_readLine_24 : decode cX11_readLine 24 = .ok (.aload_n 0, 1) := by decide +kernel
theorem dX11_readLine_25 : decode cX11_readLine 25 = .ok (.invokevirtual 243, 3) := by decide +kernel
theorem dX11_readLine_28 : decode cX11_readLine 28 = .ok (.ifCond .ne 4, 3) := by decide +kernel
theorem dX11_readLine_31 : decode cX11_readLine 31 = .ok (.return_, 1) := by decide +kernel
theorem dX11_readLine_32 : decode cX11_readLine 32 = .ok (.aload_n 0, 1) := by decide +kernel
theorem dX11_readLine_33 : decode cX11_readLine 33 = .ok (.invokevirtual 247, 3) := by decide +kernel
theorem dX11_readLine_36 : decode cX11_readLine 36 = .ok (.lload_n 1, 1) := by decide +kernel
theorem dX11_readLine_37 : decode cX11_readLine 37 = .ok (.ldc2_w 161, 3) := by decide +kernel
theorem dX11_readLine_40 : decode cX11_readLine 40 = .ok (.lcmp, 1) := by decide +kernel
theorem dX11_readLine_41 : decode cX11_readLine 41 = .ok (.ifCond .ne 7, 3) := by decide +kernel
theorem dX11_readLine_44 : decode cX11_readLine 44 = .ok (.aload_n 0, 1) := by decide +kernel
theorem dX11_readLine_45 : decode cX11_readLine 45 = .ok (.invokevirtual 282, 3) := by decide +kernel
theorem dX11_readLine_48 : decode cX11_readLine 48 = .ok (.lload_n 1, 1) := by decide +kernel
theorem dX11_readLine_49 : decode cX11_readLine 49 = .ok (.ldc2_w 163, 3) := by decide +kernel
theorem dX11_readLine_52 : decode cX11_readLine 52 = .ok (.lcmp, 1) := by decide +kernel
theorem dX11_readLine_53 : decode cX11_readLine 53 = .ok (.ifCond .ne 7, 3) := by decide +kernel
theorem dX11_readLine_56 : decode cX11_readLine 56 = .ok (.aload_n 0, 1) := by decide +kernel
theorem dX11_readLine_57 : decode cX11_readLine 57 = .ok (.invokevirtual 285, 3) := by decide +kernel
theorem dX11_readLine_60 : decode cX11_readLine 60 = .ok (.lload_n 1, 1) := by decide +kernel
theorem dX11_readLine_61 : decode cX11_readLine 61 = .ok (.ldc2_w 173, 3) := by decide +kernel
theorem dX11_readLine_64 : decode cX11_readLine 64 = .ok (.lcmp, 1) := by decide +kernel
theorem dX11_readLine_65 : decode cX11_readLine 65 = .ok (.ifCond .ne 7, 3) := by decide +kernel
theorem dX11_readLine_68 : decode cX11_readLine 68 = .ok (.aload_n 0, 1) := by decide +kernel
theorem dX11_readLine_69 : decode cX11_readLine 69 = .ok (.invokevirtual 288, 3) := by decide +kernel
theorem dX11_readLine_72 : decode cX11_readLine 72 = .ok (.lload_n 1, 1) := by decide +kernel
theorem dX11_readLine_73 : decode cX11_readLine 73 = .ok (.ldc2_w 181, 3) := by decide +kernel
theorem dX11_readLine_76 : decode cX11_readLine 76 = .ok (.lcmp, 1) := by decide +kernel
theorem dX11_readLine_77 : decode cX11_readLine 77 = .ok (.ifCond .ne 7, 3) := by decide +kernel
theorem dX11_readLine_80 : decode cX11_readLine 80 = .ok (.aload_n 0, 1) := by decide +kernel
theorem dX11_readLine_81 : decode cX11_readLine 81 = .ok (.invokevirtual 291, 3) := by decide +kernel
theorem dX11_readLine_84 : decode cX11_readLine 84 = .ok (.lload_n 1, 1) := by decide +kernel
theorem dX11_readLine_85 : decode cX11_readLine 85 = .ok (.ldc2_w 183, 3) := by decide +kernel
theorem dX11_readLine_88 : decode cX11_readLine 88 = .ok (.lcmp, 1) := by decide +kernel
theorem dX11_readLine_89 : decode cX11_readLine 89 = .ok (.ifCond .ne 7, 3) := by decide +kernel
theorem dX11_readLine_92 : decode cX11_readLine 92 = .ok (.aload_n 0, 1) := by decide +kernel
theorem dX11_readLine_93 : decode cX11_readLine 93 = .ok (.invokevirtual 294, 3) := by decide +kernel
theorem dX11_readLine_96 : decode cX11_readLine 96 = .ok (.lload_n 1, 1) := by decide +kernel
theorem dX11_readLine_97 : decode cX11_readLine 97 = .ok (.ldc2_w 185, 3) := by decide +kernel
theorem dX11_readLine_100 : decode cX11_readLine 100 = .ok (.lcmp, 1) := by decide +kernel
theorem dX11_readLine_101 : decode cX11_readLine 101 = .ok (.ifCond .ne 18, 3) := by decide +kernel
theorem dX11_readLine_104 : decode cX11_readLine 104 = .ok (.aload_n 0, 1) := by decide +kernel
theorem dX11_readLine_105 : decode cX11_readLine 105 = .ok (.getfield 78, 3) := by decide +kernel
theorem dX11_readLine_108 : decode cX11_readLine 108 = .ok (.aload_n 0, 1) := by decide +kernel
theorem dX11_readLine_109 : decode cX11_readLine 109 = .ok (.getfield 264, 3) := by decide +kernel
theorem dX11_readLine_112 : decode cX11_readLine 112 = .ok (.iconst 1, 1) := by decide +kernel
theorem dX11_readLine_113 : decode cX11_readLine 113 = .ok (.bastore, 1) := by decide +kernel
theorem dX11_readLine_114 : decode cX11_readLine 114 = .ok (.aload_n 0, 1) := by decide +kernel
theorem dX11_readLine_115 : decode cX11_readLine 115 = .ok (.iconst 4, 1) := by decide +kernel
theorem dX11_readLine_116 : decode cX11_readLine 116 = .ok (.invokevirtual 297, 3) := by decide +kernel
theorem dX11_readLine_119 : decode cX11_readLine 119 = .ok (.lload_n 1, 1) := by decide +kernel
theorem dX11_readLine_120 : decode cX11_readLine 120 = .ok (.ldc2_w 187, 3) := by decide +kernel
theorem dX11_readLine_123 : decode cX11_readLine 123 = .ok (.lcmp, 1) := by decide +kernel
theorem dX11_readLine_124 : decode cX11_readLine 124 = .ok (.ifCond .ne 13, 3) := by decide +kernel
theorem dX11_readLine_127 : decode cX11_readLine 127 = .ok (.aload_n 0, 1) := by decide +kernel
theorem dX11_readLine_128 : decode cX11_readLine 128 = .ok (.getfield 82, 3) := by decide +kernel
theorem dX11_readLine_131 : decode cX11_readLine 131 = .ok (.aload_n 0, 1) := by decide +kernel
theorem dX11_readLine_132 : decode cX11_readLine 132 = .ok (.getfield 264, 3) := by decide +kernel
theorem dX11_readLine_135 : decode cX11_readLine 135 = .ok (.iconst 1, 1) := by decide +kernel
theorem dX11_readLine_136 : decode cX11_readLine 136 = .ok (.bastore, 1) := by decide +kernel
theorem dX11_readLine_137 : decode cX11_readLine 137 = .ok (.lload_n 1, 1) := by decide +kernel
theorem dX11_readLine_138 : decode cX11_readLine 138 = .ok (.ldc2_w 189, 3) := by decide +kernel
theorem dX11_readLine_141 : decode cX11_readLine 141 = .ok (.lcmp, 1) := by decide +kernel
theorem dX11_readLine_142 : decode cX11_readLine 142 = .ok (.ifCond .ne 30, 3) := by decide +kernel
theorem dX11_readLine_145 : decode cX11_readLine 145 = .ok (.aload_n 0, 1) := by decide +kernel
theorem dX11_readLine_146 : decode cX11_readLine 146 = .ok (.getfield 85, 3) := by decide +kernel
theorem dX11_readLine_149 : decode cX11_readLine 149 = .ok (.aload_n 0, 1) := by decide +kernel
theorem dX11_readLine_150 : decode cX11_readLine 150 = .ok (.getfield 264, 3) := by decide +kernel
theorem dX11_readLine_153 : decode cX11_readLine 153 = .ok (.iconst 1, 1) := by decide +kernel
theorem dX11_readLine_154 : decode cX11_readLine 154 = .ok (.bastore, 1) := by decide +kernel
theorem dX11_readLine_155 : decode cX11_readLine 155 = .ok (.aload_n 0, 1) := by decide +kernel
theorem dX11_readLine_156 : decode cX11_readLine 156 = .ok (.getfield 39, 3) := by decide +kernel
theorem dX11_readLine_159 : decode cX11_readLine 159 = .ok (.aload_n 0, 1) := by decide +kernel
theorem dX11_readLine_160 : decode cX11_readLine 160 = .ok (.getfield 264, 3) := by decide +kernel
theorem dX11_readLine_163 : decode cX11_readLine 163 = .ok (.aload_n 0, 1) := by decide +kernel
theorem dX11_readLine_164 : decode cX11_readLine 164 = .ok (.iconst 0, 1) := by decide +kernel
theorem dX11_readLine_165 : decode cX11_readLine 165 = .ok (.sipush 999, 3) := by decide +kernel
theorem dX11_readLine_168 : decode cX11_readLine 168 = .ok (.invokevirtual 260, 3) := by decide +kernel
theorem dX11_readLine_171 : decode cX11_readLine 171 = .ok (.iastore, 1) := by decide +kernel
theorem dX11_readLine_172 : decode cX11_readLine 172 = .ok (.aload_n 0, 1) := by decide +kernel
theorem dX11_readLine_173 : decode cX11_readLine 173 = .ok (.aload_n 0, 1) := by decide +kernel
theorem dX11_readLine_174 : decode cX11_readLine 174 = .ok (.bipush 59, 2) := by decide +kernel
theorem dX11_readLine_176 : decode cX11_readLine 176 = .ok (.invokevirtual 301, 3) := by decide +kernel
theorem dX11_readLine_179 : decode cX11_readLine 179 = .ok (.invokevirtual 256, 3) := by decide +kernel
theorem dX11_readLine_182 : decode cX11_readLine 182 = .ok (.return_, 1) := by decide +kernel
set_option maxHeartbeats 20000000 in
set_option maxRecDepth 100000 in
theorem J172_X11_readLine (l : Launch) (D : va_G) (cT : Nat → ClassId) (T : Nat → Option Nat) (q : Nat → Int) (hT : tokm T) (hq : qkm q) (a0 : Nat) (t0 : T a0 = some 0) (hp0 : TS q) (hp1 : q 13 = 1 - q 10) (hp2 : q 30 = 0) (hp3 : MB1 q (q 14) (q 15)) (p : Program) (e : Env) (s : State) (m : MethodId) (below : List Frame) (meth : Method) (c : Code) (S : CallFix p m c cX11_readLine 3 s [.ref a0].toArray gw yX11_readLine.cls) (hK : va_K D classes (th_tys cT) s) (hr : meth.sig.returnType = none) (hlocks : meth.locks = false) : ∀ (q172 : Nat → Int) (H : Heap) (locs : List Loc) (ls : Array Slot), qkm q172 → fr [14, 15, 17, 19, 20, 21, 22, 23, 24, 27, 28, 29, 30, 31, 1000, 35] q q172 → (TS q172) → (GD q q172) → (MB q172 (q172 14) (q172 15)) → (q 27 < q172 27 ∧ q172 14 ≤ 4) → th_H D cT T (km q172) H → va_S (th_A T [0, 3, 4, 5, 6, 7, 8, 9, 10, 11, 12, 13, 14, 15, 16, 17, 18, 19, 20, 21, 22, 23, 24, 25, 26, 27, 28, 29, 30, 31]) s.heap H locs → lv_has ls 3 [(0, .ref a0)] → W p l e (rmk 7 151) s m [.ref a0].toArray below meth c H locs 0 0 (MQ below (th_QM D cT T (fun v q2 => v = none ∧ qkm q2 ∧ fr [14, 15, 17, 19, 20, 21, 22, 23, 24, 27, 28, 29, 30, 31, 1000, 35] q q2 ∧ (TS q2) ∧ (q 27 ≤ q2 27) ∧ (MB q2 (q2 14) (q2 15)) ∧ (LM q q2) ∧ (GD q q2)) [0, 3, 4, 5, 6, 7, 8, 9, 10, 11, 12, 13, 14, 15, 16, 17, 18, 19, 20, 21, 22, 23, 24, 25, 26, 27, 28, 29, 30, 31]) [.ref a0].toArray s 0 0 (th_A T [0, 3, 4, 5, 6, 7, 8, 9, 10, 11, 12, 13, 14, 15, 16, 17, 18, 19, 20, 21, 22, 23, 24, 25, 26, 27, 28, 29, 30, 31])) (F0 m 172 ls []) := by
    have hx := S.1
    have hb := S.2.1
    have c10 := qkm_10 hq; have c13 := qkm_13 hq; have c14 := qkm_14 hq; have c15 := qkm_15 hq; have c20 := qkm_20 hq; have c27 := qkm_27 hq
    have mb0 : MB q (q 14) (q 15) := fun _ => hp3
    intro q172 H locs ls hq172 h0172 v172_inv0 v172_inv1 v172_inv2 v172_inv3 hH hS hl
    have w172_10 : q172 10 = q 10 := h0172 10 (by decide) (Or.inl (by decide))
    have w172_13 : q172 13 = q 13 := h0172 13 (by decide) (Or.inl (by decide))
    have w172_26 : q172 26 = q 26 := h0172 26 (by decide) (Or.inl (by decide))
    have d13 := qkm_13 hq172; have d14 := qkm_14 hq172; have d15 := qkm_15 hq172
    refine lv_aload_n hx hb dX11_readLine_172 rfl (lv_at hl 0 rfl) ?_
    refine lv_aload_n hx hb dX11_readLine_173 rfl (lv_at hl 0 rfl) ?_
    refine lv_bipush (v := 59) hx hb dX11_readLine_174 (by decide) ?_
    refine th_callVp (n := 1) (As := [.int 59]) S hK hH hS (th_A.sub (by decide)) (m_X11_isSignHere l D cT T q172 hT hq172 a0 t0 (59) (iv_top _)) gm_1563 gm_1560 gm_1562 gm_68 gm_124 (by decide +kernel) ⟨rfl, rfl, Nat.le_of_ble_eq_true rfl, Nat.le_of_ble_eq_true rfl⟩ t0 km_0 rfl rfl hl.1 rfl (Nat.le_of_ble_eq_true rfl) dX11_readLine_176 ⟨Nat.zero_le _, Nat.zero_le _⟩ (fun x1 H locs ix1 ox1 hH hS hF1 => ?_)
    have ox1 : x1.toInt ≠ 0 → q172 29 = 5 ∧ sg q172 (q172 27) = (59 : Int) := ox1
    have l1x1 := ix1.1; have l2x1 := ix1.2
    refine th_callVM (n := 1) (As := [.int x1]) S hK hH hS (th_A.sub (by decide)) (m_X11_must l D cT T q172 hT hq172 a0 t0 (x1) ix1 (show TS q172 by exact v172_inv0)) gm_1543 gm_1540 gm_1542 gm_63 gm_124 (by decide +kernel) ⟨rfl, rfl, Nat.le_of_ble_eq_true rfl, Nat.le_of_ble_eq_true rfl⟩ t0 km_0 rfl rfl hl.1 rfl (Nat.le_of_ble_eq_true rfl) dX11_readLine_179 ⟨Nat.zero_le _, Nat.zero_le _⟩ (fun wq2 q2 H locs hEq2 hH hS hF1 => ?_)
    obtain ⟨rfl, hqq2, g0q2, pq2_0, pq2_1, pq2_2⟩ := hEq2
    show W p l e (rmk 7 151) s m [.ref a0].toArray below meth c H locs 0 0 (MQ below (th_QM D cT T (fun v q2 => v = none ∧ qkm q2 ∧ fr [14, 15, 17, 19, 20, 21, 22, 23, 24, 27, 28, 29, 30, 31, 1000, 35] q q2 ∧ (TS q2) ∧ (q 27 ≤ q2 27) ∧ (MB q2 (q2 14) (q2 15)) ∧ (LM q q2) ∧ (GD q q2)) [0, 3, 4, 5, 6, 7, 8, 9, 10, 11, 12, 13, 14, 15, 16, 17, 18, 19, 20, 21, 22, 23, 24, 25, 26, 27, 28, 29, 30, 31]) [.ref a0].toArray s 0 0 (th_A T [0, 3, 4, 5, 6, 7, 8, 9, 10, 11, 12, 13, 14, 15, 16, 17, 18, 19, 20, 21, 22, 23, 24, 25, 26, 27, 28, 29, 30, 31])) (F0 m 182 ls [])
    have pq2_0 : TS q2 := pq2_0
    have pq2_1 : q172 27 ≤ q2 27 := pq2_1
    have pq2_2 : GD q172 q2 := pq2_2
    have wq2_10 : q2 10 = q172 10 := g0q2 10 (by decide) (Or.inl (by decide))
    have wq2_13 : q2 13 = q172 13 := g0q2 13 (by decide) (Or.inl (by decide))
    have wq2_14 : q2 14 = q172 14 := g0q2 14 (by decide) (Or.inl (by decide))
    have wq2_15 : q2 15 = q172 15 := g0q2 15 (by decide) (Or.inl (by decide))
    have wq2_17 : q2 17 = q172 17 := g0q2 17 (by decide) (Or.inl (by decide))
    have wq2_19 : q2 19 = q172 19 := g0q2 19 (by decide) (Or.inl (by decide))
    have wq2_20 : q2 20 = q172 20 := g0q2 20 (by decide) (Or.inl (by decide))
    have wq2_21 : q2 21 = q172 21 := g0q2 21 (by decide) (Or.inl (by decide))
    have wq2_22 : q2 22 = q172 22 := g0q2 22 (by decide) (Or.inl (by decide))
    have wq2_23 : q2 23 = q172 23 := g0q2 23 (by decide) (Or.inl (by decide))
    have wq2_24 : q2 24 = q172 24 := g0q2 24 (by decide) (Or.inl (by decide))
    have wq2_26 : q2 26 = q172 26 := g0q2 26 (by decide) (Or.inl (by decide))
    have wq2_35 : q2 35 = q172 35 := g0q2 35 (by decide) (Or.inl (by decide))
    have h0q2 : fr [14, 15, 17, 19, 20, 21, 22, 23, 24, 27, 28, 29, 30, 31, 1000, 35] q q2 := fr_tr h0172 g0q2 (by decide)
    have bgq2 : bg q172 q2 := bg_fr bg_rf g0q2 (by decide)
    have gdq2 : GD q q2 := GD_tr v172_inv1 pq2_2
    have gbq2 : GD q172 q2 := GD_tr (GD_eq rfl) pq2_2
    exact th_vretM S hK hH hS hr hlocks ⟨rfl, hqq2, h0q2, (show TS q2 by exact pq2_0), (show q 27 ≤ q2 27 by omega), (show MB q2 (q2 14) (q2 15) by exact (MB_mv v172_inv2 bgq2 gbq2 (by omega) (by omega) (by omega) (by omega) (by omega) (by omega) (by omega))), (show LM q q2 by exact fun _ => by omega), (show GD q q2 by exact gdq2)⟩ dX11_readLine_182


set_option maxHeartbeats 20000000 in
set_option maxRecDepth 100000 in
theorem J137_X11_readLine (l : Launch) (D : va_G) (cT : Nat → ClassId) (T : Nat → Option Nat) (q : Nat → Int) (hT : tokm T) (hq : qkm q) (a0 : Nat) (t0 : T a0 = some 0) (hp0 : TS q) (hp1 : q 13 = 1 - q 10) (hp2 : q 30 = 0) (hp3 : MB1 q (q 14) (q 15)) (p : Program) (e : Env) (s : State) (m : MethodId) (below : List Frame) (meth : Method) (c : Code) (S : CallFix p m c cX11_readLine 3 s [.ref a0].toArray gw yX11_readLine.cls) (hK : va_K D classes (th_tys cT) s) (hr : meth.sig.returnType = none) (hlocks : meth.locks = false) : ∀ (q137 : Nat → Int) (H : Heap) (locs : List Loc) (ls : Array Slot) (v137_1 : Int64), qkm q137 → fr [14, 15, 17, 19, 20, 21, 22, 23, 24, 27, 28, 29, 30, 31, 1000, 35] q q137 → (TS q137) → (GD q q137) → (MB q137 (q137 14) (q137 15)) → (q 27 < q137 27 ∧ q137 14 ≤ 4) → th_H D cT T (km q137) H → va_S (th_A T [0, 3, 4, 5, 6, 7, 8, 9, 10, 11, 12, 13, 14, 15, 16, 17, 18, 19, 20, 21, 22, 23, 24, 25, 26, 27, 28, 29, 30, 31]) s.heap H locs → lv_has ls 3 [(0, .ref a0), (1, .long v137_1)] → W p l e (rmk 7 151) s m [.ref a0].toArray below meth c H locs 0 0 (MQ below (th_QM D cT T (fun v q2 => v = none ∧ qkm q2 ∧ fr [14, 15, 17, 19, 20, 21, 22, 23, 24, 27, 28, 29, 30, 31, 1000, 35] q q2 ∧ (TS q2) ∧ (q 27 ≤ q2 27) ∧ (MB q2 (q2 14) (q2 15)) ∧ (LM q q2) ∧ (GD q q2)) [0, 3, 4, 5, 6, 7, 8, 9, 10, 11, 12, 13, 14, 15, 16, 17, 18, 19, 20, 21, 22, 23, 24, 25, 26, 27, 28, 29, 30, 31]) [.ref a0].toArray s 0 0 (th_A T [0, 3, 4, 5, 6, 7, 8, 9, 10, 11, 12, 13, 14, 15, 16, 17, 18, 19, 20, 21, 22, 23, 24, 25, 26, 27, 28, 29, 30, 31])) (F0 m 137 ls []) := by
    have hx := S.1
    have hb := S.2.1
    have c10 := qkm_10 hq; have c13 := qkm_13 hq; have c14 := qkm_14 hq; have c15 := qkm_15 hq; have c20 := qkm_20 hq; have c27 := qkm_27 hq
    have mb0 : MB q (q 14) (q 15) := fun _ => hp3
    have J172 := J172_X11_readLine l D cT T q hT hq a0 t0 hp0 hp1 hp2 hp3 p e s m below meth c S hK hr hlocks
    intro q137 H locs ls v137_1 hq137 h0137 v137_inv0 v137_inv1 v137_inv2 v137_inv3 hH hS hl
    have w137_10 : q137 10 = q 10 := h0137 10 (by decide) (Or.inl (by decide))
    have w137_13 : q137 13 = q 13 := h0137 13 (by decide) (Or.inl (by decide))
    have w137_26 : q137 26 = q 26 := h0137 26 (by decide) (Or.inl (by decide))
    have d13 := qkm_13 hq137; have d14 := qkm_14 hq137; have d15 := qkm_15 hq137
    refine lv_lload_n hx hb dX11_readLine_137 rfl (lv_at hl 1 rfl) ?_
    refine lv_ldc2 (v := 1685217655) hx hb S.2.2.2.1 (S.2.2.2.2 _ gm_1470) dX11_readLine_138 ?_
    refine W.lcmp hx hb dX11_readLine_141 ?_
    refine lv_topi (fun x3 ex3 => ?_)
    have ix3 := iv_top x3
    have ax3 : x3.toInt = 0 → v137_1.toInt = (1685217655 : Int) := lc_eq ex3
    have bx3 : x3.toInt ≠ 0 → v137_1.toInt ≠ (1685217655 : Int) := lc_ne ex3
    refine lv_if_ne (tgt := 172) hx hb dX11_readLine_142 (by decide) (fun c4 => ?_) (fun c4 => ?_)
    · skip
      have rlc4 : x3.toInt ≠ (0 : Int) := iv_ne c4
      clear ax3
      have bx3r := bx3 rlc4
      clear bx3
      clear rlc4
      exact J172 q137 H locs ls hq137 h0137 (show TS q137 by exact v137_inv0) (show GD q q137 by exact v137_inv1) (show MB q137 (q137 14) (q137 15) by exact v137_inv2) (show q 27 < q137 27 ∧ q137 14 ≤ 4 by exact ⟨by omega, by omega⟩) hH hS (lv_sub hl [0] rfl)
    · skip
      have rlc4 : x3.toInt = (0 : Int) := congrArg Int32.toInt c4
      have ax3r := ax3 rlc4
      clear ax3
      clear bx3
      have ir5 : IV x3 0 0 := iv_eL c4 (iv_c (by decide) : IV 0 0 0)
      have ir5a := ir5.1; have ir5b := ir5.2
      refine lv_aload_n hx hb dX11_readLine_145 rfl (lv_at hl 0 rfl) ?_
      refine th_get S hK hH inG11 t0 km_0 rfl 32 (by decide) gm_1262 rfl rfl dX11_readLine_146 (fun v6 hv6 fv6 => ?_)
      obtain ⟨rf7, rfl, trf7⟩ := th_V.ref hv6
      refine lv_aload_n hx hb dX11_readLine_149 rfl (lv_at hl 0 rfl) ?_
      refine th_get S hK hH inG11 t0 km_0 rfl 42 (by decide) gm_1272 rfl rfl dX11_readLine_150 (fun v8 hv8 fv8 => ?_)
      obtain ⟨x9, rfl, ix9⟩ := th_V.int hv8
      have kx9 : x9.toInt = q137 13 := Int.le_antisymm ix9.2 ix9.1
      have bx9 := qkm_13 hq137
      have ix9 : IV x9 0 1 := iv_w ix9 (qkm_13 hq137)
      refine lv_iconst (v := 1) hx hb dX11_readLine_153 (by decide) ?_
      refine th_zast S hK hH hS ⟨24, by decide, trf7⟩ trf7 km_24 (th_in (hi := 1) ix9 (by decide)) (fun z => th_iv (iv_nbool z)) dX11_readLine_154 (fun H locs hH hS hq1 => ?_)
      refine lv_aload_n hx hb dX11_readLine_155 rfl (lv_at hl 0 rfl) ?_
      refine th_get S hK hH inG11 t0 km_0 rfl 17 (by decide) gm_1247 rfl rfl dX11_readLine_156 (fun v10 hv10 fv10 => ?_)
      obtain ⟨rf11, rfl, trf11⟩ := th_V.ref hv10
      refine lv_aload_n hx hb dX11_readLine_159 rfl (lv_at hl 0 rfl) ?_
      refine th_get S hK hH inG11 t0 km_0 rfl 42 (by decide) gm_1272 rfl rfl dX11_readLine_160 (fun v12 hv12 fv12 => ?_)
      obtain ⟨x13, rfl, ix13⟩ := th_V.int hv12
      have kx13 : x13.toInt = q137 13 := Int.le_antisymm ix13.2 ix13.1
      have bx13 := qkm_13 hq137
      have ix13 : IV x13 0 1 := iv_w ix13 (qkm_13 hq137)
      refine lv_aload_n hx hb dX11_readLine_163 rfl (lv_at hl 0 rfl) ?_
      refine lv_iconst (v := 0) hx hb dX11_readLine_164 (by decide) ?_
      refine lv_sipush (v := 999) hx hb dX11_readLine_165 (by decide) ?_
      refine th_callVM (n := 2) (As := [.int 0, .int 999]) S hK hH hS (th_A.sub (by decide)) (m_X11_numeral l D cT T q137 hT hq137 a0 t0 (0) (iv_top _) (999) (iv_top _) (show TS q137 by exact v137_inv0)) gm_1527 gm_1524 gm_1526 gm_59 gm_124 (by decide +kernel) ⟨rfl, rfl, Nat.le_of_ble_eq_true rfl, Nat.le_of_ble_eq_true rfl⟩ t0 km_0 rfl rfl hl.1 rfl (Nat.le_of_ble_eq_true rfl) dX11_readLine_168 ⟨Nat.zero_le _, Nat.zero_le _⟩ (fun wq14 q14 H locs hEq14 hH hS hF1 => ?_)
      obtain ⟨x15, rfl, ix15, hqq14, g0q14, pq14_0, pq14_1, pq14_2⟩ := hEq14
      show W p l e (rmk 7 151) s m [.ref a0].toArray below meth c H locs 0 0 (MQ below (th_QM D cT T (fun v q2 => v = none ∧ qkm q2 ∧ fr [14, 15, 17, 19, 20, 21, 22, 23, 24, 27, 28, 29, 30, 31, 1000, 35] q q2 ∧ (TS q2) ∧ (q 27 ≤ q2 27) ∧ (MB q2 (q2 14) (q2 15)) ∧ (LM q q2) ∧ (GD q q2)) [0, 3, 4, 5, 6, 7, 8, 9, 10, 11, 12, 13, 14, 15, 16, 17, 18, 19, 20, 21, 22, 23, 24, 25, 26, 27, 28, 29, 30, 31]) [.ref a0].toArray s 0 0 (th_A T [0, 3, 4, 5, 6, 7, 8, 9, 10, 11, 12, 13, 14, 15, 16, 17, 18, 19, 20, 21, 22, 23, 24, 25, 26, 27, 28, 29, 30, 31])) (F0 m 171 ls [.int x15, .int x13, .ref rf11])
      have pq14_0 : TS q14 := pq14_0
      have pq14_1 : q137 27 ≤ q14 27 := pq14_1
      have pq14_2 : GD q137 q14 := pq14_2
      have wq14_10 : q14 10 = q137 10 := g0q14 10 (by decide) (Or.inl (by decide))
      have wq14_13 : q14 13 = q137 13 := g0q14 13 (by decide) (Or.inl (by decide))
      have wq14_14 : q14 14 = q137 14 := g0q14 14 (by decide) (Or.inl (by decide))
      have wq14_15 : q14 15 = q137 15 := g0q14 15 (by decide) (Or.inl (by decide))
      have wq14_17 : q14 17 = q137 17 := g0q14 17 (by decide) (Or.inl (by decide))
      have wq14_19 : q14 19 = q137 19 := g0q14 19 (by decide) (Or.inl (by decide))
      have wq14_20 : q14 20 = q137 20 := g0q14 20 (by decide) (Or.inl (by decide))
      have wq14_21 : q14 21 = q137 21 := g0q14 21 (by decide) (Or.inl (by decide))
      have wq14_22 : q14 22 = q137 22 := g0q14 22 (by decide) (Or.inl (by decide))
      have wq14_23 : q14 23 = q137 23 := g0q14 23 (by decide) (Or.inl (by decide))
      have wq14_24 : q14 24 = q137 24 := g0q14 24 (by decide) (Or.inl (by decide))
      have wq14_26 : q14 26 = q137 26 := g0q14 26 (by decide) (Or.inl (by decide))
      have wq14_35 : q14 35 = q137 35 := g0q14 35 (by decide) (Or.inl (by decide))
      have h0q14 : fr [14, 15, 17, 19, 20, 21, 22, 23, 24, 27, 28, 29, 30, 31, 1000, 35] q q14 := fr_tr h0137 g0q14 (by decide)
      have bgq14 : bg q137 q14 := bg_fr bg_rf g0q14 (by decide)
      have gdq14 : GD q q14 := GD_tr v137_inv1 pq14_2
      have gbq14 : GD q137 q14 := GD_tr (GD_eq rfl) pq14_2
      have f14 := qkm_14 hqq14
      refine th_iast S hK hH hS ⟨9, by decide, trf11⟩ trf11 km_9 (th_in (hi := 1) ix13 (by decide)) (th_iv ix15) dX11_readLine_171 (fun H locs hH hS hq1 => ?_)
      exact J172 q14 H locs ls hqq14 h0q14 (show TS q14 by exact pq14_0) (show GD q q14 by exact gdq14) (show MB q14 (q14 14) (q14 15) by exact (MB_mv v137_inv2 bgq14 gbq14 (by omega) (by omega) (by omega) (by omega) (by omega) (by omega) (by omega))) (show q 27 < q14 27 ∧ q14 14 ≤ 4 by exact ⟨by omega, by omega⟩) hH hS (lv_sub hl [0] rfl)


set_option maxHeartbeats 20000000 in
set_option maxRecDepth 100000 in
theorem J119_X11_readLine (l : Launch) (D : va_G) (cT : Nat → ClassId) (T : Nat → Option Nat) (q : Nat → Int) (hT : tokm T) (hq : qkm q) (a0 : Nat) (t0 : T a0 = some 0) (hp0 : TS q) (hp1 : q 13 = 1 - q 10) (hp2 : q 30 = 0) (hp3 : MB1 q (q 14) (q 15)) (p : Program) (e : Env) (s : State) (m : MethodId) (below : List Frame) (meth : Method) (c : Code) (S : CallFix p m c cX11_readLine 3 s [.ref a0].toArray gw yX11_readLine.cls) (hK : va_K D classes (th_tys cT) s) (hr : meth.sig.returnType = none) (hlocks : meth.locks = false) : ∀ (q119 : Nat → Int) (H : Heap) (locs : List Loc) (ls : Array Slot) (v119_1 : Int64), qkm q119 → fr [14, 15, 17, 19, 20, 21, 22, 23, 24, 27, 28, 29, 30, 31, 1000, 35] q q119 → (TS q119) → (GD q q119) → (MB q119 (q119 14) (q119 15)) → (q 27 < q119 27 ∧ q119 14 ≤ 4) → th_H D cT T (km q119) H → va_S (th_A T [0, 3, 4, 5, 6, 7, 8, 9, 10, 11, 12, 13, 14, 15, 16, 17, 18, 19, 20, 21, 22, 23, 24, 25, 26, 27, 28, 29, 30, 31]) s.heap H locs → lv_has ls 3 [(0, .ref a0), (1, .long v119_1)] → W p l e (rmk 7 151) s m [.ref a0].toArray below meth c H locs 0 0 (MQ below (th_QM D cT T (fun v q2 => v = none ∧ qkm q2 ∧ fr [14, 15, 17, 19, 20, 21, 22, 23, 24, 27, 28, 29, 30, 31, 1000, 35] q q2 ∧ (TS q2) ∧ (q 27 ≤ q2 27) ∧ (MB q2 (q2 14) (q2 15)) ∧ (LM q q2) ∧ (GD q q2)) [0, 3, 4, 5, 6, 7, 8, 9, 10, 11, 12, 13, 14, 15, 16, 17, 18, 19, 20, 21, 22, 23, 24, 25, 26, 27, 28, 29, 30, 31]) [.ref a0].toArray s 0 0 (th_A T [0, 3, 4, 5, 6, 7, 8, 9, 10, 11, 12, 13, 14, 15, 16, 17, 18, 19, 20, 21, 22, 23, 24, 25, 26, 27, 28, 29, 30, 31])) (F0 m 119 ls []) := by
    have hx := S.1
    have hb := S.2.1
    have c10 := qkm_10 hq; have c13 := qkm_13 hq; have c14 := qkm_14 hq; have c15 := qkm_15 hq; have c20 := qkm_20 hq; have c27 := qkm_27 hq
    have mb0 : MB q (q 14) (q 15) := fun _ => hp3
    have J137 := J137_X11_readLine l D cT T q hT hq a0 t0 hp0 hp1 hp2 hp3 p e s m below meth c S hK hr hlocks
    intro q119 H locs ls v119_1 hq119 h0119 v119_inv0 v119_inv1 v119_inv2 v119_inv3 hH hS hl
    have w119_10 : q119 10 = q 10 := h0119 10 (by decide) (Or.inl (by decide))
    have w119_13 : q119 13 = q 13 := h0119 13 (by decide) (Or.inl (by decide))
    have w119_26 : q119 26 = q 26 := h0119 26 (by decide) (Or.inl (by decide))
    have d13 := qkm_13 hq119; have d14 := qkm_14 hq119; have d15 := qkm_15 hq119
    refine lv_lload_n hx hb dX11_readLine_119 rfl (lv_at hl 1 rfl) ?_
    refine lv_ldc2 (v := 131294708393330) hx hb S.2.2.2.1 (S.2.2.2.2 _ gm_1469) dX11_readLine_120 ?_
    refine W.lcmp hx hb dX11_readLine_123 ?_
    refine lv_topi (fun x16 ex16 => ?_)
    have ix16 := iv_top x16
    have ax16 : x16.toInt = 0 → v119_1.toInt = (131294708393330 : Int) := lc_eq ex16
    have bx16 : x16.toInt ≠ 0 → v119_1.toInt ≠ (131294708393330 : Int) := lc_ne ex16
    refine lv_if_ne (tgt := 137) hx hb dX11_readLine_124 (by decide) (fun c17 => ?_) (fun c17 => ?_)
    · skip
      have rlc17 : x16.toInt ≠ (0 : Int) := iv_ne c17
      clear ax16
      have bx16r := bx16 rlc17
      clear bx16
      clear rlc17
      exact J137 q119 H locs ls v119_1 hq119 h0119 (show TS q119 by exact v119_inv0) (show GD q q119 by exact v119_inv1) (show MB q119 (q119 14) (q119 15) by exact v119_inv2) (show q 27 < q119 27 ∧ q119 14 ≤ 4 by exact ⟨by omega, by omega⟩) hH hS (lv_sub hl [0, 1] rfl)
    · skip
      have rlc17 : x16.toInt = (0 : Int) := congrArg Int32.toInt c17
      have ax16r := ax16 rlc17
      clear ax16
      clear bx16
      have ir18 : IV x16 0 0 := iv_eL c17 (iv_c (by decide) : IV 0 0 0)
      have ir18a := ir18.1; have ir18b := ir18.2
      refine lv_aload_n hx hb dX11_readLine_127 rfl (lv_at hl 0 rfl) ?_
      refine th_get S hK hH inG11 t0 km_0 rfl 31 (by decide) gm_1261 rfl rfl dX11_readLine_128 (fun v19 hv19 fv19 => ?_)
      obtain ⟨rf20, rfl, trf20⟩ := th_V.ref hv19
      refine lv_aload_n hx hb dX11_readLine_131 rfl (lv_at hl 0 rfl) ?_
      refine th_get S hK hH inG11 t0 km_0 rfl 42 (by decide) gm_1272 rfl rfl dX11_readLine_132 (fun v21 hv21 fv21 => ?_)
      obtain ⟨x22, rfl, ix22⟩ := th_V.int hv21
      have kx22 : x22.toInt = q119 13 := Int.le_antisymm ix22.2 ix22.1
      have bx22 := qkm_13 hq119
      have ix22 : IV x22 0 1 := iv_w ix22 (qkm_13 hq119)
      refine lv_iconst (v := 1) hx hb dX11_readLine_135 (by decide) ?_
      refine th_zast S hK hH hS ⟨23, by decide, trf20⟩ trf20 km_23 (th_in (hi := 1) ix22 (by decide)) (fun z => th_iv (iv_nbool z)) dX11_readLine_136 (fun H locs hH hS hq1 => ?_)
      exact J137 q119 H locs ls v119_1 hq119 h0119 (show TS q119 by exact v119_inv0) (show GD q q119 by exact v119_inv1) (show MB q119 (q119 14) (q119 15) by exact v119_inv2) (show q 27 < q119 27 ∧ q119 14 ≤ 4 by exact ⟨by omega, by omega⟩) hH hS (lv_sub hl [0, 1] rfl)


set_option maxHeartbeats 20000000 in
set_option maxRecDepth 100000 in
theorem J96_X11_readLine (l : Launch) (D : va_G) (cT : Nat → ClassId) (T : Nat → Option Nat) (q : Nat → Int) (hT : tokm T) (hq : qkm q) (a0 : Nat) (t0 : T a0 = some 0) (hp0 : TS q) (hp1 : q 13 = 1 - q 10) (hp2 : q 30 = 0) (hp3 : MB1 q (q 14) (q 15)) (p : Program) (e : Env) (s : State) (m : MethodId) (below : List Frame) (meth : Method) (c : Code) (S : CallFix p m c cX11_readLine 3 s [.ref a0].toArray gw yX11_readLine.cls) (hK : va_K D classes (th_tys cT) s) (hr : meth.sig.returnType = none) (hlocks : meth.locks = false) : ∀ (q96 : Nat → Int) (H : Heap) (locs : List Loc) (ls : Array Slot) (v96_1 : Int64), qkm q96 → fr [14, 15, 17, 19, 20, 21, 22, 23, 24, 27, 28, 29, 30, 31, 1000, 35] q q96 → (TS q96) → (GD q q96) → (MB q96 (q96 14) (q96 15)) → (q 27 < q96 27 ∧ q96 14 ≤ 4) → (v96_1.toInt = 499851162725 → q96 30 = 0) → th_H D cT T (km q96) H → va_S (th_A T [0, 3, 4, 5, 6, 7, 8, 9, 10, 11, 12, 13, 14, 15, 16, 17, 18, 19, 20, 21, 22, 23, 24, 25, 26, 27, 28, 29, 30, 31]) s.heap H locs → lv_has ls 3 [(0, .ref a0), (1, .long v96_1)] → W p l e (rmk 7 151) s m [.ref a0].toArray below meth c H locs 0 0 (MQ below (th_QM D cT T (fun v q2 => v = none ∧ qkm q2 ∧ fr [14, 15, 17, 19, 20, 21, 22, 23, 24, 27, 28, 29, 30, 31, 1000, 35] q q2 ∧ (TS q2) ∧ (q 27 ≤ q2 27) ∧ (MB q2 (q2 14) (q2 15)) ∧ (LM q q2) ∧ (GD q q2)) [0, 3, 4, 5, 6, 7, 8, 9, 10, 11, 12, 13, 14, 15, 16, 17, 18, 19, 20, 21, 22, 23, 24, 25, 26, 27, 28, 29, 30, 31]) [.ref a0].toArray s 0 0 (th_A T [0, 3, 4, 5, 6, 7, 8, 9, 10, 11, 12, 13, 14, 15, 16, 17, 18, 19, 20, 21, 22, 23, 24, 25, 26, 27, 28, 29, 30, 31])) (F0 m 96 ls []) := by
    have hx := S.1
    have hb := S.2.1
    have c10 := qkm_10 hq; have c13 := qkm_13 hq; have c14 := qkm_14 hq; have c15 := qkm_15 hq; have c20 := qkm_20 hq; have c27 := qkm_27 hq
    have mb0 : MB q (q 14) (q 15) := fun _ => hp3
    have J119 := J119_X11_readLine l D cT T q hT hq a0 t0 hp0 hp1 hp2 hp3 p e s m below meth c S hK hr hlocks
    intro q96 H locs ls v96_1 hq96 h096 v96_inv0 v96_inv1 v96_inv2 v96_inv3 v96_inv4 hH hS hl
    have w96_10 : q96 10 = q 10 := h096 10 (by decide) (Or.inl (by decide))
    have w96_13 : q96 13 = q 13 := h096 13 (by decide) (Or.inl (by decide))
    have w96_26 : q96 26 = q 26 := h096 26 (by decide) (Or.inl (by decide))
    have d13 := qkm_13 hq96; have d14 := qkm_14 hq96; have d15 := qkm_15 hq96
    refine lv_lload_n hx hb dX11_readLine_96 rfl (lv_at hl 1 rfl) ?_
    refine lv_ldc2 (v := 499851162725) hx hb S.2.2.2.1 (S.2.2.2.2 _ gm_1468) dX11_readLine_97 ?_
    refine W.lcmp hx hb dX11_readLine_100 ?_
    refine lv_topi (fun x23 ex23 => ?_)
    have ix23 := iv_top x23
    have ax23 : x23.toInt = 0 → v96_1.toInt = (499851162725 : Int) := lc_eq ex23
    have bx23 : x23.toInt ≠ 0 → v96_1.toInt ≠ (499851162725 : Int) := lc_ne ex23
    refine lv_if_ne (tgt := 119) hx hb dX11_readLine_101 (by decide) (fun c24 => ?_) (fun c24 => ?_)
    · skip
      have rlc24 : x23.toInt ≠ (0 : Int) := iv_ne c24
      clear ax23
      have bx23r := bx23 rlc24
      clear bx23
      clear rlc24
      exact J119 q96 H locs ls v96_1 hq96 h096 (show TS q96 by exact v96_inv0) (show GD q q96 by exact v96_inv1) (show MB q96 (q96 14) (q96 15) by exact v96_inv2) (show q 27 < q96 27 ∧ q96 14 ≤ 4 by exact ⟨by omega, by omega⟩) hH hS (lv_sub hl [0, 1] rfl)
    · skip
      have rlc24 : x23.toInt = (0 : Int) := congrArg Int32.toInt c24
      have ax23r := ax23 rlc24
      clear ax23
      clear bx23
      have ir25 : IV x23 0 0 := iv_eL c24 (iv_c (by decide) : IV 0 0 0)
      have ir25a := ir25.1; have ir25b := ir25.2
      have hm0 := v96_inv4 (by omega)
      refine lv_aload_n hx hb dX11_readLine_104 rfl (lv_at hl 0 rfl) ?_
      refine th_get S hK hH inG11 t0 km_0 rfl 30 (by decide) gm_1260 rfl rfl dX11_readLine_105 (fun v26 hv26 fv26 => ?_)
      obtain ⟨rf27, rfl, trf27⟩ := th_V.ref hv26
      refine lv_aload_n hx hb dX11_readLine_108 rfl (lv_at hl 0 rfl) ?_
      refine th_get S hK hH inG11 t0 km_0 rfl 42 (by decide) gm_1272 rfl rfl dX11_readLine_109 (fun v28 hv28 fv28 => ?_)
      obtain ⟨x29, rfl, ix29⟩ := th_V.int hv28
      have kx29 : x29.toInt = q96 13 := Int.le_antisymm ix29.2 ix29.1
      have bx29 := qkm_13 hq96
      have ix29 : IV x29 0 1 := iv_w ix29 (qkm_13 hq96)
      refine lv_iconst (v := 1) hx hb dX11_readLine_112 (by decide) ?_
      obtain ⟨n30, en30⟩ : ∃ z : Int, z = (vp_nar .boolean 1).toInt := ⟨_, rfl⟩
      have fn30 : n30 = 1 := by rw [en30]; decide
      refine mst_22 S hK hH hS ⟨22, by decide, trf27⟩ hT trf27 en30 (qkm_10 hq96) ix29 (by omega) dX11_readLine_113 (fun q31 H locs eq31 hH hS hq1 => ?_)
      have hqq31 : qkm q31 := by rw [eq31]; exact qum_ok15 hq96 (iv_z en30 (iv_w (iv_c (by decide) : IV 1 1 1) (by decide)))
      have h0q31 : fr [14, 15, 17, 19, 20, 21, 22, 23, 24, 27, 28, 29, 30, 31, 1000, 35] q q31 := by rw [eq31]; exact fr_up h096 (by decide)
      have wq31_10 : q31 10 = q96 10 := by rw [eq31]; rfl
      have wq31_13 : q31 13 = q96 13 := by rw [eq31]; rfl
      have wq31_14 : q31 14 = q96 14 := by rw [eq31]; rfl
      have wq31_15 : q31 15 = 1 := by rw [show q31 15 = n30 by rw [eq31]; rfl, fn30]
      have wq31_17 : q31 17 = q96 17 := by rw [eq31]; rfl
      have wq31_19 : q31 19 = q96 19 := by rw [eq31]; rfl
      have wq31_20 : q31 20 = q96 20 := by rw [eq31]; rfl
      have wq31_21 : q31 21 = q96 21 := by rw [eq31]; rfl
      have wq31_22 : q31 22 = q96 22 := by rw [eq31]; rfl
      have wq31_23 : q31 23 = q96 23 := by rw [eq31]; rfl
      have wq31_24 : q31 24 = q96 24 := by rw [eq31]; rfl
      have wq31_26 : q31 26 = q96 26 := by rw [eq31]; rfl
      have wq31_27 : q31 27 = q96 27 := by rw [eq31]; rfl
      have wq31_28 : q31 28 = q96 28 := by rw [eq31]; rfl
      have wq31_29 : q31 29 = q96 29 := by rw [eq31]; rfl
      have wq31_30 : q31 30 = q96 30 := by rw [eq31]; rfl
      have wq31_31 : q31 31 = q96 31 := by rw [eq31]; rfl
      have wq31_35 : q31 35 = q96 35 := by rw [eq31]; rfl
      have bgq31 : bg q96 q31 := bg_up bg_rf eq31 (by decide)
      have gdq31 : GD q q31 := GD_tr v96_inv1 (GD_eq wq31_30)
      have gbq31 : GD q96 q31 := GD_tr (GD_eq rfl) (GD_eq wq31_30)
      have txq31 : tx q96 q31 := tx_tr tx_rf (tx_up eq31 (by omega))
      clear en30 fn30
      have hAC : AC q31 := AC_mv (v96_inv2 (by omega)).1 (by omega) (by omega) (by omega) (by omega)
      refine lv_aload_n hx hb dX11_readLine_114 rfl (lv_at hl 0 rfl) ?_
      refine lv_iconst (v := 4) hx hb dX11_readLine_115 (by decide) ?_
      refine th_callVM (n := 1) (As := [.int 4]) S hK hH hS (th_A.sub (by decide)) (m_X11_readRule l D cT T q31 hT hqq31 a0 t0 (4) (iv_w (iv_c (by decide) : IV 4 4 4) (by decide)) (show TS q31 by exact (TS_mv v96_inv0 txq31 (by omega) (by omega) (by omega) (by omega) (by omega) (fun z => by omega))) (show q31 13 = 1 - q31 10 by omega) (show q31 30 = 0 by omega) (show AC q31 by assumption)) gm_1547 gm_1544 gm_1546 gm_64 gm_124 (by decide +kernel) ⟨rfl, rfl, Nat.le_of_ble_eq_true rfl, Nat.le_of_ble_eq_true rfl⟩ t0 km_0 rfl rfl hl.1 rfl (Nat.le_of_ble_eq_true rfl) dX11_readLine_116 ⟨Nat.zero_le _, Nat.zero_le _⟩ (fun wq32 q32 H locs hEq32 hH hS hF1 => ?_)
      obtain ⟨rfl, hqq32, g0q32, pq32_0, pq32_1, pq32_2, pq32_3, pq32_4⟩ := hEq32
      show W p l e (rmk 7 151) s m [.ref a0].toArray below meth c H locs 0 0 (MQ below (th_QM D cT T (fun v q2 => v = none ∧ qkm q2 ∧ fr [14, 15, 17, 19, 20, 21, 22, 23, 24, 27, 28, 29, 30, 31, 1000, 35] q q2 ∧ (TS q2) ∧ (q 27 ≤ q2 27) ∧ (MB q2 (q2 14) (q2 15)) ∧ (LM q q2) ∧ (GD q q2)) [0, 3, 4, 5, 6, 7, 8, 9, 10, 11, 12, 13, 14, 15, 16, 17, 18, 19, 20, 21, 22, 23, 24, 25, 26, 27, 28, 29, 30, 31]) [.ref a0].toArray s 0 0 (th_A T [0, 3, 4, 5, 6, 7, 8, 9, 10, 11, 12, 13, 14, 15, 16, 17, 18, 19, 20, 21, 22, 23, 24, 25, 26, 27, 28, 29, 30, 31])) (F0 m 119 ls [])
      have pq32_0 : TS q32 := pq32_0
      have pq32_1 : q31 27 ≤ q32 27 := pq32_1
      have pq32_2 : kq q31 q32 (q31 20) (5 * (q31 13).toNat + ((4 : Int)).toNat) := pq32_2
      have pq32_3 : RR q31 q32 ((4 : Int)).toNat := pq32_3
      have pq32_4 : GD q31 q32 := pq32_4
      have wq32_10 : q32 10 = q31 10 := g0q32 10 (by decide) (Or.inl (by decide))
      have wq32_13 : q32 13 = q31 13 := g0q32 13 (by decide) (Or.inl (by decide))
      have wq32_14 : q32 14 = q31 14 := g0q32 14 (by decide) (Or.inl (by decide))
      have wq32_15 : q32 15 = q31 15 := g0q32 15 (by decide) (Or.inl (by decide))
      have wq32_17 : q32 17 = q31 17 := g0q32 17 (by decide) (Or.inl (by decide))
      have wq32_19 : q32 19 = q31 19 := g0q32 19 (by decide) (Or.inl (by decide))
      have wq32_26 : q32 26 = q31 26 := g0q32 26 (by decide) (Or.inl (by decide))
      have h0q32 : fr [14, 15, 17, 19, 20, 21, 22, 23, 24, 27, 28, 29, 30, 31, 1000, 35] q q32 := fr_tr h0q31 g0q32 (by decide)
      have gdq32 : GD q q32 := GD_tr gdq31 pq32_4
      have hM : MB q32 (q32 14) (q32 15) := MB_tasteI (v96_inv2 (by omega)) bgq31 pq32_2 pq32_3 (by omega) (by omega) (by omega) (by omega) (by omega) (by decide) (by omega) (by omega)
      have f14 := qkm_14 hqq32
      exact J119 q32 H locs ls v96_1 hqq32 h0q32 (show TS q32 by exact pq32_0) (show GD q q32 by exact gdq32) (show MB q32 (q32 14) (q32 15) by exact hM) (show q 27 < q32 27 ∧ q32 14 ≤ 4 by exact ⟨by omega, by omega⟩) hH hS (lv_sub hl [0, 1] rfl)

