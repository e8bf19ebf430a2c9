theorem dX11_readLine_0 : decode cX11_readLine 0 = .ok (.aload_n 0, 1) := by decide +kernel
theorem dX11_readLine_1 : decode cX11_readLine 1 = .ok (.getfield 222, 3) := by decide +kernel
theorem dX11_readLine_4 : decode cX11_readLine 4 = .ok (.lstore_n 1, 1) := by decide +kernel
theorem dX11_readLine_5 : decode cX11_readLine 5 = .ok (.aload_n 0, 1) := by decide +kernel
theorem dX11_readLine_6 : decode cX11_readLine 6 = .ok (.getfield 215, 3) := by decide +kernel
theorem dX11_readLine_9 : decode cX11_readLine 9 = .ok (.iconst 3, 1) := by decide +kernel
theorem dX11_readLine_10 : decode cX11_readLine 10 = .ok (.if_icmp .ne 10, 3) := by decide +kernel
theorem dX11_readLine_13 : decode cX11_readLine 13 = .ok (.aload_n 0, 1) := by decide +kernel
theorem dX11_readLine_14 : decode cX11_readLine 14 = .ok (.invokevirtual 279, 3) := by decide +kernel
theorem dX11_readLine_17 : decode cX11_readLine 17 = .ok (.ifCond .eq 7, 3) := by decide +kernel
theorem dX11_readLine_20 : decode cX11_readLine 20 = .ok (.aload_n 0, 1) := by decide +kernel
theorem dX11_readLine_21 : decode cX11_readLine 21 = .ok (.invokevirtual 250, 3) := by decide +kernel
theorem dX11_readLine_24 : decode cX11_readLine 24 = .ok (.aload_n 0, 1) := by decide +kernel
theorem dX11_readLine_25 : decode cX11_readLine 25 = .ok (.invokevirtual 243, 3) := by decide +kernel
theorem dX11_readLine_28 : decode cX11_readLine 28 = .ok (.ifCond .ne 4, 3) := by decide +kernel
theorem dX11_readLine_31 : decode cX11_readLine 31 = .ok (.return_, 1) := by decide +kernel
theorem dX11_readLine_32 : decode cX11_readLine 32 = .ok (.aload_n 0, 1) := by decide +kernel
theorem dX11_readLine_33 : decode cX11_readLine 33 = .ok (.invokevirtual 247, 3) := by decide +kernel
theorem dX11_readLine_36 : decode cX11_readLine 36 = .ok (.lload_n 1, 1) := by decide +kernel
theorem dX11_readLine_37 : decode cX11_readLine 37 = .ok (.ldc2_w 161, 3) := by decide +kernel
theorem dX11_readLine_40 : decode cX11_readLine 40 = .ok (.lcmp, 1) := by decide +kernel
theorem dX11_readLine_41 : decode cX11_readLine 41 = .ok (.ifCond .ne 7, 3) := by decide +kernel
theorem dX11_readLine_44 : decode cX11_readLine 44 = .ok (.aload_n 0, 1) := by decide +kernel
theorem dX11_readLine_45 : decode cX11_readLine 45 = .ok (.invokevirtual 282, 3) := by decide +kernel
theorem dX11_readLine_48 : decode cX11_readLine 48 = .ok (.lload_n 1, 1) := by decide +kernel
theorem dX11_readLine_49 : decode cX11_readLine 49 = .ok (.ldc2_w 163, 3) := by decide +kernel
theorem dX11_readLine_52 : decode cX11_readLine 52 = .ok (.lcmp, 1) := by decide +kernel
theorem dX11_readLine_53 : decode cX11_readLine 53 = .ok (.ifCond .ne 7, 3) := by decide +kernel
theorem dX11_readLine_56 : decode cX11_readLine 56 = .ok (.aload_n 0, 1) := by decide +kernel
theorem dX11_readLine_57 : decode cX11_readLine 57 = .ok (.invokevirtual 285, 3) := by decide +kernel
theorem dX11_readLine_60 : decode cX11_readLine 60 = .ok (.lload_n 1, 1) := by decide +kernel
theorem dX11_readLine_61 : decode cX11_readLine 61 = .ok (.ldc2_w 173, 3) := by decide +kernel
theorem dX11_readLine_64 : decode cX11_readLine 64 = .ok (.lcmp, 1) := by decide +kernel
theorem dX11_readLine_65 : decode cX11_readLine 65 = .ok (.ifCond .ne 7, 3) := by decide +kernel
theorem dX11_readLine_68 : decode cX11_readLine 68 = .ok (.aload_n 0, 1) := by decide +kernel
theorem dX11_readLine_69 : decode cX11_readLine 69 = .ok (.invokevirtual 288, 3) := by decide +kernel
theorem dX11_readLine_72 : decode cX11_readLine 72 = .ok (.lload_n 1, 1) := by decide +kernel
theorem dX11_readLine_73 : decode cX11_readLine 73 = .ok (.ldc2_w 181, 3) := by decide +kernel
theorem dX11_readLine_76 : decode cX11_readLine 76 = .ok (.lcmp, 1) := by decide +kernel
theorem dX11_readLine_77 : decode cX11_readLine 77 = .ok (.ifCond .ne 7, 3) := by decide +kernel
theorem dX11_readLine_80 : decode cX11_readLine 80 = .ok (.aload_n 0, 1) := by decide +kernel
theorem dX11_readLine_81 : decode cX11_readLine 81 = .ok (.invokevirtual 291, 3) := by decide +kernel
theorem dX11_readLine_84 : decode cX11_readLine 84 = .ok (.lload_n 1, 1) := by decide +kernel
theorem dX11_readLine_85 : decode cX11_readLine 85 = .ok (.ldc2_w 183, 3) := by decide +kernel
theorem dX11_readLine_88 : decode cX11_readLine 88 = .ok (.lcmp, 1) := by decide +kernel
theorem dX11_readLine_89 : decode cX11_readLine 89 = .ok (.ifCond .ne 7, 3) := by decide +kernel
theorem dX11_readLine_92 : decode cX11_readLine 92 = .ok (.aload_n 0, 1) := by decide +kernel
theorem dX11_readLine_93 : decode cX11_readLine 93 = .ok (.invokevirtual 294, 3) := by decide +kernel
theorem dX11_readLine_96 : decode cX11_readLine 96 = .ok (.lload_n 1, 1) := by decide +kernel
theorem dX11_readLine_97 : decode cX11_readLine 97 = .ok (.ldc2_w 185, 3) := by decide +kernel
theorem dX11_readLine_100 : decode cX11_readLine 100 = .ok (.lcmp, 1) := by decide +kernel
theorem dX11_readLine_101 : decode cX11_readLine 101 = .ok (.ifCond .ne 18, 3) := by decide +kernel
theorem dX11_readLine_104 : decode cX11_readLine 104 = .ok (.aload_n 0, 1) := by decide +kernel
theorem dX11_readLine_105 : decode cX11_readLine 105 = .ok (.getfield 78, 3) := by decide +kernel
theorem dX11_readLine_108 : decode cX11_readLine 108 = .ok (.aload_n 0, 1) := by decide +kernel
theorem dX11_readLine_109 : decode cX11_readLine 109 = .ok (.getfield 264, 3) := by decide +kernel
theorem dX11_readLine_112 : decode cX11_readLine 112 = .ok (.iconst 1, 1) := by decide +kernel
theorem dX11_readLine_113 : decode cX11_readLine 113 = .ok (.bastore, 1) := by decide +kernel
theorem dX11_readLine_114 : decode cX11_readLine 114 = .ok (.aload_n 0, 1) := by decide +kernel
theorem dX11_readLine_115 : decode cX11_readLine 115 = .ok (.iconst 4, 1) := by decide +kernel
theorem dX11_readLine_116 : decode cX11_readLine 116 = .ok (.invokevirtual 297, 3) := by decide +kernel
theorem dX11_readLine_119 : decode cX11_readLine 119 = .ok (.lload_n 1, 1) := by decide +kernel
theorem dX11_readLine_120 : decode cX11_readLine 120 = .ok (.ldc2_w 187, 3) := by decide +kernel
theorem dX11_readLine_123 : decode cX11_readLine 123 = .ok (.lcmp, 1) := by decide +kernel
theorem dX11_readLine_124 : decode cX11_readLine 124 = .ok (.ifCond .ne 13, 3) := by decide +kernel
theorem dX11_readLine_127 : decode cX11_readLine 127 = .ok (.aload_n 0, 1) := by decide +kernel
theorem dX11_readLine_128 : decode cX11_readLine 128 = .ok (.getfield 82, 3) := by decide +kernel
theorem dX11_readLine_131 : decode cX11_readLine 131 = .ok (.aload_n 0, 1) := by decide +kernel
theorem dX11_readLine_132 : decode cX11_readLine 132 = .ok (.getfield 264, 3) := by decide +kernel
theorem dX11_readLine_135 : decode cX11_readLine 135 = .ok (.iconst 1, 1) := by decide +kernel
theorem dX11_readLine_136 : decode cX11_readLine 136 = .ok (.bastore, 1) := by decide +kernel
theorem dX11_readLine_137 : decode cX11_readLine 137 = .ok (.lload_n 1, 1) := by decide +kernel
theorem dX11_readLine_138 : decode cX11_readLine 138 = .ok (.ldc2_w 189, 3) := by decide +kernel
theorem dX11_readLine_141 : decode cX11_readLine 141 = .ok (.lcmp, 1) := by decide +kernel
theorem dX11_readLine_142 : decode cX11_readLine 142 = .ok (.ifCond .ne 30, 3) := by decide +kernel
theorem dX11_readLine_145 : decode cX11_readLine 145 = .ok (.aload_n 0, 1) := by decide +kernel
theorem dX11_readLine_146 : decode cX11_readLine 146 = .ok (.getfield 85, 3) := by decide +kernel
theorem dX11_readLine_149 : decode cX11_readLine 149 = .ok (.aload_n 0, 1) := by decide +kernel
theorem dX11_readLine_150 : decode cX11_readLine 150 = .ok (.getfield 264, 3) := by decide +kernel
theorem dX11_readLine_153 : decode cX11_readLine 153 = .ok (.iconst 1, 1) := by decide +kernel
theorem dX11_readLine_154 : decode cX11_readLine 154 = .ok (.bastore, 1) := by decide +kernel
theorem dX11_readLine_155 : decode cX11_readLine 155 = .ok (.aload_n 0, 1) := by decide +kernel
theorem dX11_readLine_156 : decode cX11_readLine 156 = .ok (.getfield 39, 3) := by decide +kernel
theorem dX11_readLine_159 : decode cX11_readLine 159 = .ok (.aload_n 0, 1) := by decide +kernel
theorem dX11_readLine_160 : decode cX11_readLine 160 = .ok (.getfield 264, 3) := by decide +kernel
theorem dX11_readLine_163 : decode cX11_readLine 163 = .ok (.aload_n 0, 1) := by decide +kernel
theorem dX11_readLine_164 : decode cX11_readLine 164 = .ok (.iconst 0, 1) := by decide +kernel
theorem dX11_readLine_165 : decode cX11_readLine 165 = .ok (.sipush 999, 3) := by decide +kernel
theorem dX11_readLine_168 : decode cX11_readLine 168 = .ok (.invokevirtual 260, 3) := by decide +kernel
theorem dX11_readLine_171 : decode cX11_readLine 171 = .ok (.iastore, 1) := by decide +kernel
theorem dX11_readLine_172 : decode cX11_readLine 172 = .ok (.aload_n 0, 1) := by decide +kernel
theorem dX11_readLine_173 : decode cX11_readLine 173 = .ok (.aload_n 0, 1) := by decide +kernel
theorem dX11_readLine_174 : decode cX11_readLine 174 = .ok (.bipush 59, 2) := by decide +kernel
theorem dX11_readLine_176 : decode cX11_readLine 176 = .ok (.invokevirtual 301, 3) := by decide +kernel
theorem dX11_readLine_179 : decode cX11_readLine 179 = .ok (.invokevirtual 256, 3) := by decide +kernel
theorem dX11_readLine_182 : decode cX11_readLine 182 = .ok (.return_, 1) := by decide +kernel
set_option maxHeartbeats 20000000 in
set_option maxRecDepth 100000 in
theorem m_X11_readLine (l : Launch) (D : va_G) (cT : Nat → ClassId) (T : Nat → Option Nat) (q : Nat → Int) (hT : tokm T) (hq : qkm q) (a0 : Nat) (t0 : T a0 = some 0) (hp0 : (q 29 = 0 ∧ q 27 = q 26 ∧ q 28 = q 26) ∨ (1 ≤ q 29 ∧ q 27 < q 28 ∧ q 28 ≤ q 26)) (hp1 : q 13 = 1 - q 10) (hp2 : q 30 = 0 → NL q) (hp3 : q 30 = 0 → q 29 = 3 → q 31 = 7237492 → q 27 + 3 ≤ q 28) (hp4 : q 30 = 0) (hp5 : MB1 q (q 14) (q 15)) : th_MetM l D cT T q yX11_readLine cX11_readLine 3 none (rmk 7 151) [.ref a0] (fun v q2 => v = none ∧ qkm q2 ∧ fr [14, 15, 17, 19, 20, 21, 22, 23, 24, 27, 28, 29, 30, 31, 1000, 35] q q2 ∧ ((q2 29 = 0 ∧ q2 27 = q2 26 ∧ q2 28 = q2 26) ∨ (1 ≤ q2 29 ∧ q2 27 < q2 28 ∧ q2 28 ≤ q2 26)) ∧ (q2 30 = 0 → NL q2) ∧ (q2 30 = 0 → q2 29 = 3 → q2 31 = 7237492 → q2 27 + 3 ≤ q2 28) ∧ (q 27 ≤ q2 27) ∧ (q2 30 = 0 → MB1 q2 (q2 14) (q2 15)) ∧ (q2 30 = 0 → q 27 < q2 27)) [0, 3, 4, 5, 6, 7, 8, 9, 10, 11, 12, 13, 14, 15, 16, 17, 18, 19, 20, 21, 22, 23, 24, 25, 26, 27, 28, 29, 30, 31] := by
  refine th_startM (by decide) (Nat.le_of_ble_eq_true rfl) ?_
  intro p e s m below meth c ls S hK hH hr hlocks hnm hl
  have hx := S.1
  have hb := S.2.1
  have c10 := qkm_10 hq; have c13 := qkm_13 hq; have c14 := qkm_14 hq; have c15 := qkm_15 hq; have c20 := qkm_20 hq; have c27 := qkm_27 hq
  have mb0 : q 30 = 0 → MB1 q (q 14) (q 15) := fun _ => hp5
  have hl : lv_has ls 3 [(0, .ref a0)] := hl
  have J172 : ∀ (q172 : Nat → Int) (H : Heap) (locs : List Loc) (ls : Array Slot), qkm q172 → fr [14, 15, 17, 19, 20, 21, 22, 23, 24, 27, 28, 29, 30, 31, 1000, 35] q q172 → ((q172 29 = 0 ∧ q172 27 = q172 26 ∧ q172 28 = q172 26) ∨ (1 ≤ q172 29 ∧ q172 27 < q172 28 ∧ q172 28 ≤ q172 26)) → (q172 30 = 0 → NL q172) → (q172 30 = 0 → q172 29 = 3 → q172 31 = 7237492 → q172 27 + 3 ≤ q172 28) → (q172 30 = 0 → MB1 q172 (q172 14) (q172 15)) → (q 27 < q172 27 ∧ q172 14 ≤ 4) → th_H D cT T (km q172) H → va_S (th_A T [0, 3, 4, 5, 6, 7, 8, 9, 10, 11, 12, 13, 14, 15, 16, 17, 18, 19, 20, 21, 22, 23, 24, 25, 26, 27, 28, 29, 30, 31]) s.heap H locs → lv_has ls 3 [(0, .ref a0)] → W p l e (rmk 7 151) s m [.ref a0].toArray below meth c H locs 0 0 (MQ below (th_QM D cT T (fun v q2 => v = none ∧ qkm q2 ∧ fr [14, 15, 17, 19, 20, 21, 22, 23, 24, 27, 28, 29, 30, 31, 1000, 35] q q2 ∧ ((q2 29 = 0 ∧ q2 27 = q2 26 ∧ q2 28 = q2 26) ∨ (1 ≤ q2 29 ∧ q2 27 < q2 28 ∧ q2 28 ≤ q2 26)) ∧ (q2 30 = 0 → NL q2) ∧ (q2 30 = 0 → q2 29 = 3 → q2 31 = 7237492 → q2 27 + 3 ≤ q2 28) ∧ (q 27 ≤ q2 27) ∧ (q2 30 = 0 → MB1 q2 (q2 14) (q2 15)) ∧ (q2 30 = 0 → q 27 < q2 27)) [0, 3, 4, 5, 6, 7, 8, 9, 10, 11, 12, 13, 14, 15, 16, 17, 18, 19, 20, 21, 22, 23, 24, 25, 26, 27, 28, 29, 30, 31]) [.ref a0].toArray s 0 0 (th_A T [0, 3, 4, 5, 6, 7, 8, 9, 10, 11, 12, 13, 14, 15, 16, 17, 18, 19, 20, 21, 22, 23, 24, 25, 26, 27, 28, 29, 30, 31])) (F0 m 172 ls []) := by
    intro q172 H locs ls hq172 h0172 v172_inv0 v172_inv1 v172_inv2 v172_inv3 v172_inv4 hH hS hl
    have w172_10 : q172 10 = q 10 := h0172 10 (by decide) (Or.inl (by decide))
    have w172_13 : q172 13 = q 13 := h0172 13 (by decide) (Or.inl (by decide))
    have w172_26 : q172 26 = q 26 := h0172 26 (by decide) (Or.inl (by decide))
    have d13 := qkm_13 hq172; have d14 := qkm_14 hq172; have d15 := qkm_15 hq172
    refine lv_aload_n hx hb dX11_readLine_172 rfl (lv_at hl 0 rfl) ?_
    refine lv_aload_n hx hb dX11_readLine_173 rfl (lv_at hl 0 rfl) ?_
    refine lv_bipush (v := 59) hx hb dX11_readLine_174 (by decide) ?_
    refine th_callVp (n := 1) (As := [.int 59]) S hK hH hS (th_A.sub (by decide)) (m_X11_isSignHere l D cT T q172 hT hq172 a0 t0 (59) (iv_top _)) gm_1563 gm_1560 gm_1562 gm_68 gm_124 (by decide +kernel) ⟨rfl, rfl, Nat.le_of_ble_eq_true rfl, Nat.le_of_ble_eq_true rfl⟩ t0 km_0 rfl rfl hl.1 rfl (Nat.le_of_ble_eq_true rfl) dX11_readLine_176 ⟨Nat.zero_le _, Nat.zero_le _⟩ (fun x1 H locs ix1 ox1 hH hS hF1 => ?_)
    have ox1 : x1.toInt ≠ 0 → q172 29 = 5 ∧ sg q172 (q172 27) = (59 : Int) := ox1
    have l1x1 := ix1.1; have l2x1 := ix1.2
    refine th_callVM (n := 1) (As := [.int x1]) S hK hH hS (th_A.sub (by decide)) (m_X11_must l D cT T q172 hT hq172 a0 t0 (x1) ix1 (show (q172 29 = 0 ∧ q172 27 = q172 26 ∧ q172 28 = q172 26) ∨ (1 ≤ q172 29 ∧ q172 27 < q172 28 ∧ q172 28 ≤ q172 26) by omega)) gm_1543 gm_1540 gm_1542 gm_63 gm_124 (by decide +kernel) ⟨rfl, rfl, Nat.le_of_ble_eq_true rfl, Nat.le_of_ble_eq_true rfl⟩ t0 km_0 rfl rfl hl.1 rfl (Nat.le_of_ble_eq_true rfl) dX11_readLine_179 ⟨Nat.zero_le _, Nat.zero_le _⟩ (fun wq2 q2 H locs hEq2 hH hS hF1 => ?_)
    obtain ⟨rfl, hqq2, g0q2, pq2_0, pq2_1, pq2_2, pq2_3, pq2_4⟩ := hEq2
    show W p l e (rmk 7 151) s m [.ref a0].toArray below meth c H locs 0 0 (MQ below (th_QM D cT T (fun v q2 => v = none ∧ qkm q2 ∧ fr [14, 15, 17, 19, 20, 21, 22, 23, 24, 27, 28, 29, 30, 31, 1000, 35] q q2 ∧ ((q2 29 = 0 ∧ q2 27 = q2 26 ∧ q2 28 = q2 26) ∨ (1 ≤ q2 29 ∧ q2 27 < q2 28 ∧ q2 28 ≤ q2 26)) ∧ (q2 30 = 0 → NL q2) ∧ (q2 30 = 0 → q2 29 = 3 → q2 31 = 7237492 → q2 27 + 3 ≤ q2 28) ∧ (q 27 ≤ q2 27) ∧ (q2 30 = 0 → MB1 q2 (q2 14) (q2 15)) ∧ (q2 30 = 0 → q 27 < q2 27)) [0, 3, 4, 5, 6, 7, 8, 9, 10, 11, 12, 13, 14, 15, 16, 17, 18, 19, 20, 21, 22, 23, 24, 25, 26, 27, 28, 29, 30, 31]) [.ref a0].toArray s 0 0 (th_A T [0, 3, 4, 5, 6, 7, 8, 9, 10, 11, 12, 13, 14, 15, 16, 17, 18, 19, 20, 21, 22, 23, 24, 25, 26, 27, 28, 29, 30, 31])) (F0 m 182 ls [])
    have pq2_0 : (q2 29 = 0 ∧ q2 27 = q2 26 ∧ q2 28 = q2 26) ∨ (1 ≤ q2 29 ∧ q2 27 < q2 28 ∧ q2 28 ≤ q2 26) := pq2_0
    have pq2_1 : q2 30 = 0 → q2 29 = 3 → sg q2 (q2 28) < 97 ∨ 122 < sg q2 (q2 28) := pq2_1
    have pq2_2 : q2 30 = 0 → q2 29 = 3 → q2 31 = 7237492 → q2 27 + 3 ≤ q2 28 := pq2_2
    have pq2_3 : q172 27 ≤ q2 27 := pq2_3
    have pq2_4 : q2 30 = 0 → q172 30 = 0 ∧ x1.toInt ≠ 0 ∧ q172 28 ≤ q2 27 := pq2_4
    have wq2_10 : q2 10 = q172 10 := g0q2 10 (by decide) (Or.inl (by decide))
    have wq2_13 : q2 13 = q172 13 := g0q2 13 (by decide) (Or.inl (by decide))
    have wq2_14 : q2 14 = q172 14 := g0q2 14 (by decide) (Or.inl (by decide))
    have wq2_15 : q2 15 = q172 15 := g0q2 15 (by decide) (Or.inl (by decide))
    have wq2_17 : q2 17 = q172 17 := g0q2 17 (by decide) (Or.inl (by decide))
    have wq2_19 : q2 19 = q172 19 := g0q2 19 (by decide) (Or.inl (by decide))
    have wq2_20 : q2 20 = q172 20 := g0q2 20 (by decide) (Or.inl (by decide))
    have wq2_21 : q2 21 = q172 21 := g0q2 21 (by decide) (Or.inl (by decide))
    have wq2_22 : q2 22 = q172 22 := g0q2 22 (by decide) (Or.inl (by decide))
    have wq2_23 : q2 23 = q172 23 := g0q2 23 (by decide) (Or.inl (by decide))
    have wq2_24 : q2 24 = q172 24 := g0q2 24 (by decide) (Or.inl (by decide))
    have wq2_26 : q2 26 = q172 26 := g0q2 26 (by decide) (Or.inl (by decide))
    have wq2_35 : q2 35 = q172 35 := g0q2 35 (by decide) (Or.inl (by decide))
    have h0q2 : fr [14, 15, 17, 19, 20, 21, 22, 23, 24, 27, 28, 29, 30, 31, 1000, 35] q q2 := fr_tr h0172 g0q2 (by decide)
    have bgq2 : bg q172 q2 := bg_fr bg_rf g0q2 (by decide)
    have nlq2 : q2 30 = 0 → NL q2 := pq2_1
    exact th_vretM S hK hH hS hr hlocks ⟨rfl, hqq2, h0q2, (show (q2 29 = 0 ∧ q2 27 = q2 26 ∧ q2 28 = q2 26) ∨ (1 ≤ q2 29 ∧ q2 27 < q2 28 ∧ q2 28 ≤ q2 26) by omega), (show q2 30 = 0 → NL q2 by exact nlq2), (show q2 30 = 0 → q2 29 = 3 → q2 31 = 7237492 → q2 27 + 3 ≤ q2 28 by omega), (show q 27 ≤ q2 27 by omega), (show q2 30 = 0 → MB1 q2 (q2 14) (q2 15) by exact (fun z => MB1_mv (v172_inv3 (by omega)) bgq2 (by omega) (by omega) (by omega) (by omega) (by omega) (by omega) (by omega))), (show q2 30 = 0 → q 27 < q2 27 by omega)⟩ dX11_readLine_182
  have J137 : ∀ (q137 : Nat → Int) (H : Heap) (locs : List Loc) (ls : Array Slot) (v137_1 : Int64), qkm q137 → fr [14, 15, 17, 19, 20, 21, 22, 23, 24, 27, 28, 29, 30, 31, 1000, 35] q q137 → ((q137 29 = 0 ∧ q137 27 = q137 26 ∧ q137 28 = q137 26) ∨ (1 ≤ q137 29 ∧ q137 27 < q137 28 ∧ q137 28 ≤ q137 26)) → (q137 30 = 0 → NL q137) → (q137 30 = 0 → q137 29 = 3 → q137 31 = 7237492 → q137 27 + 3 ≤ q137 28) → (q137 30 = 0 → MB1 q137 (q137 14) (q137 15)) → (q 27 < q137 27 ∧ q137 14 ≤ 4) → th_H D cT T (km q137) H → va_S (th_A T [0, 3, 4, 5, 6, 7, 8, 9, 10, 11, 12, 13, 14, 15, 16, 17, 18, 19, 20, 21, 22, 23, 24, 25, 26, 27, 28, 29, 30, 31]) s.heap H locs → lv_has ls 3 [(0, .ref a0), (1, .long v137_1)] → W p l e (rmk 7 151) s m [.ref a0].toArray below meth c H locs 0 0 (MQ below (th_QM D cT T (fun v q2 => v = none ∧ qkm q2 ∧ fr [14, 15, 17, 19, 20, 21, 22, 23, 24, 27, 28, 29, 30, 31, 1000, 35] q q2 ∧ ((q2 29 = 0 ∧ q2 27 = q2 26 ∧ q2 28 = q2 26) ∨ (1 ≤ q2 29 ∧ q2 27 < q2 28 ∧ q2 28 ≤ q2 26)) ∧ (q2 30 = 0 → NL q2) ∧ (q2 30 = 0 → q2 29 = 3 → q2 31 = 7237492 → q2 27 + 3 ≤ q2 28) ∧ (q 27 ≤ q2 27) ∧ (q2 30 = 0 → MB1 q2 (q2 14) (q2 15)) ∧ (q2 30 = 0 → q 27 < q2 27)) [0, 3, 4, 5, 6, 7, 8, 9, 10, 11, 12, 13, 14, 15, 16, 17, 18, 19, 20, 21, 22, 23, 24, 25, 26, 27, 28, 29, 30, 31]) [.ref a0].toArray s 0 0 (th_A T [0, 3, 4, 5, 6, 7, 8, 9, 10, 11, 12, 13, 14, 15, 16, 17, 18, 19, 20, 21, 22, 23, 24, 25, 26, 27, 28, 29, 30, 31])) (F0 m 137 ls []) := by
    intro q137 H locs ls v137_1 hq137 h0137 v137_inv0 v137_inv1 v137_inv2 v137_inv3 v137_inv4 hH hS hl
    have w137_10 : q137 10 = q 10 := h0137 10 (by decide) (Or.inl (by decide))
    have w137_13 : q137 13 = q 13 := h0137 13 (by decide) (Or.inl (by decide))
    have w137_26 : q137 26 = q 26 := h0137 26 (by decide) (Or.inl (by decide))
    have d13 := qkm_13 hq137; have d14 := qkm_14 hq137; have d15 := qkm_15 hq137
    refine lv_lload_n hx hb dX11_readLine_137 rfl (lv_at hl 1 rfl) ?_
    refine lv_ldc2 (v := 1685217655) hx hb S.2.2.2.1 (S.2.2.2.2 _ gm_1470) dX11_readLine_138 ?_
    refine W.lcmp hx hb dX11_readLine_141 ?_
    refine lv_topi (fun x3 ex3 => ?_)
    have ix3 := iv_top x3
    have ax3 : x3.toInt = 0 → v137_1.toInt = (1685217655 : Int) := lc_eq ex3
    have bx3 : x3.toInt ≠ 0 → v137_1.toInt ≠ (1685217655 : Int) := lc_ne ex3
    refine lv_if_ne (tgt := 172) hx hb dX11_readLine_142 (by decide) (fun c4 => ?_) (fun c4 => ?_)
    · skip
      have rlc4 : x3.toInt ≠ (0 : Int) := iv_ne c4
      exact J172 q137 H locs ls hq137 h0137 (show (q137 29 = 0 ∧ q137 27 = q137 26 ∧ q137 28 = q137 26) ∨ (1 ≤ q137 29 ∧ q137 27 < q137 28 ∧ q137 28 ≤ q137 26) by omega) (show q137 30 = 0 → NL q137 by exact v137_inv1) (show q137 30 = 0 → q137 29 = 3 → q137 31 = 7237492 → q137 27 + 3 ≤ q137 28 by omega) (show q137 30 = 0 → MB1 q137 (q137 14) (q137 15) by exact v137_inv3) (show q 27 < q137 27 ∧ q137 14 ≤ 4 by omega) hH hS (lv_sub hl [0] rfl)
    · skip
      have rlc4 : x3.toInt = (0 : Int) := congrArg Int32.toInt c4
      have ir5 : IV x3 0 0 := iv_eL c4 (iv_c (by decide) : IV 0 0 0)
      have ir5a := ir5.1; have ir5b := ir5.2
      refine lv_aload_n hx hb dX11_readLine_145 rfl (lv_at hl 0 rfl) ?_
      refine th_get S hK hH inG11 t0 km_0 rfl 32 (by decide) gm_1262 rfl rfl dX11_readLine_146 (fun v6 hv6 fv6 => ?_)
      obtain ⟨rf7, rfl, trf7⟩ := th_V.ref hv6
      refine lv_aload_n hx hb dX11_readLine_149 rfl (lv_at hl 0 rfl) ?_
      refine th_get S hK hH inG11 t0 km_0 rfl 42 (by decide) gm_1272 rfl rfl dX11_readLine_150 (fun v8 hv8 fv8 => ?_)
      obtain ⟨x9, rfl, ix9⟩ := th_V.int hv8
      have kx9a : q137 13 ≤ x9.toInt := ix9.1
      have kx9b : x9.toInt ≤ q137 13 := ix9.2
      have bx9 := qkm_13 hq137
      have ix9 : IV x9 0 1 := iv_w ix9 (qkm_13 hq137)
      refine lv_iconst (v := 1) hx hb dX11_readLine_153 (by decide) ?_
      refine th_zast S hK hH hS ⟨24, by decide, trf7⟩ trf7 km_24 (th_in (hi := 1) ix9 (by decide)) (fun z => th_iv (iv_nbool z)) dX11_readLine_154 (fun H locs hH hS hq1 => ?_)
      refine lv_aload_n hx hb dX11_readLine_155 rfl (lv_at hl 0 rfl) ?_
      refine th_get S hK hH inG11 t0 km_0 rfl 17 (by decide) gm_1247 rfl rfl dX11_readLine_156 (fun v10 hv10 fv10 => ?_)
      obtain ⟨rf11, rfl, trf11⟩ := th_V.ref hv10
      refine lv_aload_n hx hb dX11_readLine_159 rfl (lv_at hl 0 rfl) ?_
      refine th_get S hK hH inG11 t0 km_0 rfl 42 (by decide) gm_1272 rfl rfl dX11_readLine_160 (fun v12 hv12 fv12 => ?_)
      obtain ⟨x13, rfl, ix13⟩ := th_V.int hv12
      have kx13a : q137 13 ≤ x13.toInt := ix13.1
      have kx13b : x13.toInt ≤ q137 13 := ix13.2
      have bx13 := qkm_13 hq137
      have ix13 : IV x13 0 1 := iv_w ix13 (qkm_13 hq137)
      refine lv_aload_n hx hb dX11_readLine_163 rfl (lv_at hl 0 rfl) ?_
      refine lv_iconst (v := 0) hx hb dX11_readLine_164 (by decide) ?_
      refine lv_sipush (v := 999) hx hb dX11_readLine_165 (by decide) ?_
      refine th_callVM (n := 2) (As := [.int 0, .int 999]) S hK hH hS (th_A.sub (by decide)) (m_X11_numeral l D cT T q137 hT hq137 a0 t0 (0) (iv_top _) (999) (iv_top _) (show (q137 29 = 0 ∧ q137 27 = q137 26 ∧ q137 28 = q137 26) ∨ (1 ≤ q137 29 ∧ q137 27 < q137 28 ∧ q137 28 ≤ q137 26) by omega)) gm_1527 gm_1524 gm_1526 gm_59 gm_124 (by decide +kernel) ⟨rfl, rfl, Nat.le_of_ble_eq_true rfl, Nat.le_of_ble_eq_true rfl⟩ t0 km_0 rfl rfl hl.1 rfl (Nat.le_of_ble_eq_true rfl) dX11_readLine_168 ⟨Nat.zero_le _, Nat.zero_le _⟩ (fun wq14 q14 H locs hEq14 hH hS hF1 => ?_)
      obtain ⟨x15, rfl, ix15, hqq14, g0q14, pq14_0, pq14_1, pq14_2, pq14_3, pq14_4⟩ := hEq14
      show W p l e (rmk 7 151) s m [.ref a0].toArray below meth c H locs 0 0 (MQ below (th_QM D cT T (fun v q2 => v = none ∧ qkm q2 ∧ fr [14, 15, 17, 19, 20, 21, 22, 23, 24, 27, 28, 29, 30, 31, 1000, 35] q q2 ∧ ((q2 29 = 0 ∧ q2 27 = q2 26 ∧ q2 28 = q2 26) ∨ (1 ≤ q2 29 ∧ q2 27 < q2 28 ∧ q2 28 ≤ q2 26)) ∧ (q2 30 = 0 → NL q2) ∧ (q2 30 = 0 → q2 29 = 3 → q2 31 = 7237492 → q2 27 + 3 ≤ q2 28) ∧ (q 27 ≤ q2 27) ∧ (q2 30 = 0 → MB1 q2 (q2 14) (q2 15)) ∧ (q2 30 = 0 → q 27 < q2 27)) [0, 3, 4, 5, 6, 7, 8, 9, 10, 11, 12, 13, 14, 15, 16, 17, 18, 19, 20, 21, 22, 23, 24, 25, 26, 27, 28, 29, 30, 31]) [.ref a0].toArray s 0 0 (th_A T [0, 3, 4, 5, 6, 7, 8, 9, 10, 11, 12, 13, 14, 15, 16, 17, 18, 19, 20, 21, 22, 23, 24, 25, 26, 27, 28, 29, 30, 31])) (F0 m 171 ls [.int x15, .int x13, .ref rf11])
      have pq14_0 : (q14 29 = 0 ∧ q14 27 = q14 26 ∧ q14 28 = q14 26) ∨ (1 ≤ q14 29 ∧ q14 27 < q14 28 ∧ q14 28 ≤ q14 26) := pq14_0
      have pq14_1 : q14 30 = 0 → q14 29 = 3 → sg q14 (q14 28) < 97 ∨ 122 < sg q14 (q14 28) := pq14_1
      have pq14_2 : q14 30 = 0 → q14 29 = 3 → q14 31 = 7237492 → q14 27 + 3 ≤ q14 28 := pq14_2
      have pq14_3 : q137 27 ≤ q14 27 := pq14_3
      have pq14_4 : q14 30 = 0 → q137 30 = 0 ∧ q137 28 ≤ q14 27 ∧ q137 29 ≠ 0 := pq14_4
      have wq14_10 : q14 10 = q137 10 := g0q14 10 (by decide) (Or.inl (by decide))
      have wq14_13 : q14 13 = q137 13 := g0q14 13 (by decide) (Or.inl (by decide))
      have wq14_14 : q14 14 = q137 14 := g0q14 14 (by decide) (Or.inl (by decide))
      have wq14_15 : q14 15 = q137 15 := g0q14 15 (by decide) (Or.inl (by decide))
      have wq14_17 : q14 17 = q137 17 := g0q14 17 (by decide) (Or.inl (by decide))
      have wq14_19 : q14 19 = q137 19 := g0q14 19 (by decide) (Or.inl (by decide))
      have wq14_20 : q14 20 = q137 20 := g0q14 20 (by decide) (Or.inl (by decide))
      have wq14_21 : q14 21 = q137 21 := g0q14 21 (by decide) (Or.inl (by decide))
      have wq14_22 : q14 22 = q137 22 := g0q14 22 (by decide) (Or.inl (by decide))
      have wq14_23 : q14 23 = q137 23 := g0q14 23 (by decide) (Or.inl (by decide))
      have wq14_24 : q14 24 = q137 24 := g0q14 24 (by decide) (Or.inl (by decide))
      have wq14_26 : q14 26 = q137 26 := g0q14 26 (by decide) (Or.inl (by decide))
      have wq14_35 : q14 35 = q137 35 := g0q14 35 (by decide) (Or.inl (by decide))
      have h0q14 : fr [14, 15, 17, 19, 20, 21, 22, 23, 24, 27, 28, 29, 30, 31, 1000, 35] q q14 := fr_tr h0137 g0q14 (by decide)
      have bgq14 : bg q137 q14 := bg_fr bg_rf g0q14 (by decide)
      have nlq14 : q14 30 = 0 → NL q14 := pq14_1
      have f14 := qkm_14 hqq14
      refine th_iast S hK hH hS ⟨9, by decide, trf11⟩ trf11 km_9 (th_in (hi := 1) ix13 (by decide)) (th_iv ix15) dX11_readLine_171 (fun H locs hH hS hq1 => ?_)
      exact J172 q14 H locs ls hqq14 h0q14 (show (q14 29 = 0 ∧ q14 27 = q14 26 ∧ q14 28 = q14 26) ∨ (1 ≤ q14 29 ∧ q14 27 < q14 28 ∧ q14 28 ≤ q14 26) by omega) (show q14 30 = 0 → NL q14 by exact nlq14) (show q14 30 = 0 → q14 29 = 3 → q14 31 = 7237492 → q14 27 + 3 ≤ q14 28 by omega) (show q14 30 = 0 → MB1 q14 (q14 14) (q14 15) by exact (fun z => MB1_mv (v137_inv3 (by omega)) bgq14 (by omega) (by omega) (by omega) (by omega) (by omega) (by omega) (by omega))) (show q 27 < q14 27 ∧ q14 14 ≤ 4 by omega) hH hS (lv_sub hl [0] rfl)
  have J119 : ∀ (q119 : Nat → Int) (H : Heap) (locs : List Loc) (ls : Array Slot) (v119_1 : Int64), qkm q119 → fr [14, 15, 17, 19, 20, 21, 22, 23, 24, 27, 28, 29, 30, 31, 1000, 35] q q119 → ((q119 29 = 0 ∧ q119 27 = q119 26 ∧ q119 28 = q119 26) ∨ (1 ≤ q119 29 ∧ q119 27 < q119 28 ∧ q119 28 ≤ q119 26)) → (q119 30 = 0 → NL q119) → (q119 30 = 0 → q119 29 = 3 → q119 31 = 7237492 → q119 27 + 3 ≤ q119 28) → (q119 30 = 0 → MB1 q119 (q119 14) (q119 15)) → (q 27 < q119 27 ∧ q119 14 ≤ 4) → th_H D cT T (km q119) H → va_S (th_A T [0, 3, 4, 5, 6, 7, 8, 9, 10, 11, 12, 13, 14, 15, 16, 17, 18, 19, 20, 21, 22, 23, 24, 25, 26, 27, 28, 29, 30, 31]) s.heap H locs → lv_has ls 3 [(0, .ref a0), (1, .long v119_1)] → W p l e (rmk 7 151) s m [.ref a0].toArray below meth c H locs 0 0 (MQ below (th_QM D cT T (fun v q2 => v = none ∧ qkm q2 ∧ fr [14, 15, 17, 19, 20, 21, 22, 23, 24, 27, 28, 29, 30, 31, 1000, 35] q q2 ∧ ((q2 29 = 0 ∧ q2 27 = q2 26 ∧ q2 28 = q2 26) ∨ (1 ≤ q2 29 ∧ q2 27 < q2 28 ∧ q2 28 ≤ q2 26)) ∧ (q2 30 = 0 → NL q2) ∧ (q2 30 = 0 → q2 29 = 3 → q2 31 = 7237492 → q2 27 + 3 ≤ q2 28) ∧ (q 27 ≤ q2 27) ∧ (q2 30 = 0 → MB1 q2 (q2 14) (q2 15)) ∧ (q2 30 = 0 → q 27 < q2 27)) [0, 3, 4, 5, 6, 7, 8, 9, 10, 11, 12, 13, 14, 15, 16, 17, 18, 19, 20, 21, 22, 23, 24, 25, 26, 27, 28, 29, 30, 31]) [.ref a0].toArray s 0 0 (th_A T [0, 3, 4, 5, 6, 7, 8, 9, 10, 11, 12, 13, 14, 15, 16, 17, 18, 19, 20, 21, 22, 23, 24, 25, 26, 27, 28, 29, 30, 31])) (F0 m 119 ls []) := by
    intro q119 H locs ls v119_1 hq119 h0119 v119_inv0 v119_inv1 v119_inv2 v119_inv3 v119_inv4 hH hS hl
    have w119_10 : q119 10 = q 10 := h0119 10 (by decide) (Or.inl (by decide))
    have w119_13 : q119 13 = q 13 := h0119 13 (by decide) (Or.inl (by decide))
    have w119_26 : q119 26 = q 26 := h0119 26 (by decide) (Or.inl (by decide))
    have d13 := qkm_13 hq119; have d14 := qkm_14 hq119; have d15 := qkm_15 hq119
    refine lv_lload_n hx hb dX11_readLine_119 rfl (lv_at hl 1 rfl) ?_
    refine lv_ldc2 (v := 131294708393330) hx hb S.2.2.2.1 (S.2.2.2.2 _ gm_1469) dX11_readLine_120 ?_
    refine W.lcmp hx hb dX11_readLine_123 ?_
    refine lv_topi (fun x16 ex16 => ?_)
    have ix16 := iv_top x16
    have ax16 : x16.toInt = 0 → v119_1.toInt = (131294708393330 : Int) := lc_eq ex16
    have bx16 : x16.toInt ≠ 0 → v119_1.toInt ≠ (131294708393330 : Int) := lc_ne ex16
    refine lv_if_ne (tgt := 137) hx hb dX11_readLine_124 (by decide) (fun c17 => ?_) (fun c17 => ?_)
    · skip
      have rlc17 : x16.toInt ≠ (0 : Int) := iv_ne c17
      exact J137 q119 H locs ls v119_1 hq119 h0119 (show (q119 29 = 0 ∧ q119 27 = q119 26 ∧ q119 28 = q119 26) ∨ (1 ≤ q119 29 ∧ q119 27 < q119 28 ∧ q119 28 ≤ q119 26) by omega) (show q119 30 = 0 → NL q119 by exact v119_inv1) (show q119 30 = 0 → q119 29 = 3 → q119 31 = 7237492 → q119 27 + 3 ≤ q119 28 by omega) (show q119 30 = 0 → MB1 q119 (q119 14) (q119 15) by exact v119_inv3) (show q 27 < q119 27 ∧ q119 14 ≤ 4 by omega) hH hS (lv_sub hl [0, 1] rfl)
    · skip
      have rlc17 : x16.toInt = (0 : Int) := congrArg Int32.toInt c17
      have ir18 : IV x16 0 0 := iv_eL c17 (iv_c (by decide) : IV 0 0 0)
      have ir18a := ir18.1; have ir18b := ir18.2
      refine lv_aload_n hx hb dX11_readLine_127 rfl (lv_at hl 0 rfl) ?_
      refine th_get S hK hH inG11 t0 km_0 rfl 31 (by decide) gm_1261 rfl rfl dX11_readLine_128 (fun v19 hv19 fv19 => ?_)
      obtain ⟨rf20, rfl, trf20⟩ := th_V.ref hv19
      refine lv_aload_n hx hb dX11_readLine_131 rfl (lv_at hl 0 rfl) ?_
      refine th_get S hK hH inG11 t0 km_0 rfl 42 (by decide) gm_1272 rfl rfl dX11_readLine_132 (fun v21 hv21 fv21 => ?_)
      obtain ⟨x22, rfl, ix22⟩ := th_V.int hv21
      have kx22a : q119 13 ≤ x22.toInt := ix22.1
      have kx22b : x22.toInt ≤ q119 13 := ix22.2
      have bx22 := qkm_13 hq119
      have ix22 : IV x22 0 1 := iv_w ix22 (qkm_13 hq119)
      refine lv_iconst (v := 1) hx hb dX11_readLine_135 (by decide) ?_
      refine th_zast S hK hH hS ⟨23, by decide, trf20⟩ trf20 km_23 (th_in (hi := 1) ix22 (by decide)) (fun z => th_iv (iv_nbool z)) dX11_readLine_136 (fun H locs hH hS hq1 => ?_)
      exact J137 q119 H locs ls v119_1 hq119 h0119 (show (q119 29 = 0 ∧ q119 27 = q119 26 ∧ q119 28 = q119 26) ∨ (1 ≤ q119 29 ∧ q119 27 < q119 28 ∧ q119 28 ≤ q119 26) by omega) (show q119 30 = 0 → NL q119 by exact v119_inv1) (show q119 30 = 0 → q119 29 = 3 → q119 31 = 7237492 → q119 27 + 3 ≤ q119 28 by omega) (show q119 30 = 0 → MB1 q119 (q119 14) (q119 15) by exact v119_inv3) (show q 27 < q119 27 ∧ q119 14 ≤ 4 by omega) hH hS (lv_sub hl [0, 1] rfl)
  have J96 : ∀ (q96 : Nat → Int) (H : Heap) (locs : List Loc) (ls : Array Slot) (v96_1 : Int64), qkm q96 → fr [14, 15, 17, 19, 20, 21, 22, 23, 24, 27, 28, 29, 30, 31, 1000, 35] q q96 → ((q96 29 = 0 ∧ q96 27 = q96 26 ∧ q96 28 = q96 26) ∨ (1 ≤ q96 29 ∧ q96 27 < q96 28 ∧ q96 28 ≤ q96 26)) → (q96 30 = 0 → NL q96) → (q96 30 = 0 → q96 29 = 3 → q96 31 = 7237492 → q96 27 + 3 ≤ q96 28) → (q96 30 = 0 → MB1 q96 (q96 14) (q96 15)) → (q 27 < q96 27 ∧ q96 14 ≤ 4) → (v96_1.toInt = 499851162725 → q96 30 = 0) → th_H D cT T (km q96) H → va_S (th_A T [0, 3, 4, 5, 6, 7, 8, 9, 10, 11, 12, 13, 14, 15, 16, 17, 18, 19, 20, 21, 22, 23, 24, 25, 26, 27, 28, 29, 30, 31]) s.heap H locs → lv_has ls 3 [(0, .ref a0), (1, .long v96_1)] → W p l e (rmk 7 151) s m [.ref a0].toArray below meth c H locs 0 0 (MQ below (th_QM D cT T (fun v q2 => v = none ∧ qkm q2 ∧ fr [14, 15, 17, 19, 20, 21, 22, 23, 24, 27, 28, 29, 30, 31, 1000, 35] q q2 ∧ ((q2 29 = 0 ∧ q2 27 = q2 26 ∧ q2 28 = q2 26) ∨ (1 ≤ q2 29 ∧ q2 27 < q2 28 ∧ q2 28 ≤ q2 26)) ∧ (q2 30 = 0 → NL q2) ∧ (q2 30 = 0 → q2 29 = 3 → q2 31 = 7237492 → q2 27 + 3 ≤ q2 28) ∧ (q 27 ≤ q2 27) ∧ (q2 30 = 0 → MB1 q2 (q2 14) (q2 15)) ∧ (q2 30 = 0 → q 27 < q2 27)) [0, 3, 4, 5, 6, 7, 8, 9, 10, 11, 12, 13, 14, 15, 16, 17, 18, 19, 20, 21, 22, 23, 24, 25, 26, 27, 28, 29, 30, 31]) [.ref a0].toArray s 0 0 (th_A T [0, 3, 4, 5, 6, 7, 8, 9, 10, 11, 12, 13, 14, 15, 16, 17, 18, 19, 20, 21, 22, 23, 24, 25, 26, 27, 28, 29, 30, 31])) (F0 m 96 ls []) := by
    intro q96 H locs ls v96_1 hq96 h096 v96_inv0 v96_inv1 v96_inv2 v96_inv3 v96_inv4 v96_inv5 hH hS hl
    have w96_10 : q96 10 = q 10 := h096 10 (by decide) (Or.inl (by decide))
    have w96_13 : q96 13 = q 13 := h096 13 (by decide) (Or.inl (by decide))
    have w96_26 : q96 26 = q 26 := h096 26 (by decide) (Or.inl (by decide))
    have d13 := qkm_13 hq96; have d14 := qkm_14 hq96; have d15 := qkm_15 hq96
    refine lv_lload_n hx hb dX11_readLine_96 rfl (lv_at hl 1 rfl) ?_
    refine lv_ldc2 (v := 499851162725) hx hb S.2.2.2.1 (S.2.2.2.2 _ gm_1468) dX11_readLine_97 ?_
    refine W.lcmp hx hb dX11_readLine_100 ?_
    refine lv_topi (fun x23 ex23 => ?_)
    have ix23 := iv_top x23
    have ax23 : x23.toInt = 0 → v96_1.toInt = (499851162725 : Int) := lc_eq ex23
    have bx23 : x23.toInt ≠ 0 → v96_1.toInt ≠ (499851162725 : Int) := lc_ne ex23
    refine lv_if_ne (tgt := 119) hx hb dX11_readLine_101 (by decide) (fun c24 => ?_) (fun c24 => ?_)
    · skip
      have rlc24 : x23.toInt ≠ (0 : Int) := iv_ne c24
      exact J119 q96 H locs ls v96_1 hq96 h096 (show (q96 29 = 0 ∧ q96 27 = q96 26 ∧ q96 28 = q96 26) ∨ (1 ≤ q96 29 ∧ q96 27 < q96 28 ∧ q96 28 ≤ q96 26) by omega) (show q96 30 = 0 → NL q96 by exact v96_inv1) (show q96 30 = 0 → q96 29 = 3 → q96 31 = 7237492 → q96 27 + 3 ≤ q96 28 by omega) (show q96 30 = 0 → MB1 q96 (q96 14) (q96 15) by exact v96_inv3) (show q 27 < q96 27 ∧ q96 14 ≤ 4 by omega) hH hS (lv_sub hl [0, 1] rfl)
    · skip
      have rlc24 : x23.toInt = (0 : Int) := congrArg Int32.toInt c24
      have ir25 : IV x23 0 0 := iv_eL c24 (iv_c (by decide) : IV 0 0 0)
      have ir25a := ir25.1; have ir25b := ir25.2
      refine lv_aload_n hx hb dX11_readLine_104 rfl (lv_at hl 0 rfl) ?_
      refine th_get S hK hH inG11 t0 km_0 rfl 30 (by decide) gm_1260 rfl rfl dX11_readLine_105 (fun v26 hv26 fv26 => ?_)
      obtain ⟨rf27, rfl, trf27⟩ := th_V.ref hv26
      refine lv_aload_n hx hb dX11_readLine_108 rfl (lv_at hl 0 rfl) ?_
      refine th_get S hK hH inG11 t0 km_0 rfl 42 (by decide) gm_1272 rfl rfl dX11_readLine_109 (fun v28 hv28 fv28 => ?_)
      obtain ⟨x29, rfl, ix29⟩ := th_V.int hv28
      have kx29a : q96 13 ≤ x29.toInt := ix29.1
      have kx29b : x29.toInt ≤ q96 13 := ix29.2
      have bx29 := qkm_13 hq96
      have ix29 : IV x29 0 1 := iv_w ix29 (qkm_13 hq96)
      refine lv_iconst (v := 1) hx hb dX11_readLine_112 (by decide) ?_
      obtain ⟨n30, en30⟩ : ∃ z : Int, z = (vp_nar .boolean 1).toInt := ⟨_, rfl⟩
      have fn30 : n30 = 1 := by rw [en30]; decide
      refine mst_22 S hK hH hS ⟨22, by decide, trf27⟩ hT trf27 en30 (qkm_10 hq96) ix29 (by omega) dX11_readLine_113 (fun q31 H locs eq31 hH hS hq1 => ?_)
      have hqq31 : qkm q31 := by rw [eq31]; exact qum_ok15 hq96 (iv_z en30 (iv_w (iv_c (by decide) : IV 1 1 1) (by decide)))
      have h0q31 : fr [14, 15, 17, 19, 20, 21, 22, 23, 24, 27, 28, 29, 30, 31, 1000, 35] q q31 := by rw [eq31]; exact fr_up h096 (by decide)
      have wq31_10 : q31 10 = q96 10 := by rw [eq31]; rfl
      have wq31_13 : q31 13 = q96 13 := by rw [eq31]; rfl
      have wq31_14 : q31 14 = q96 14 := by rw [eq31]; rfl
      have wq31_15 : q31 15 = n30 := by rw [eq31]; rfl
      have wq31_17 : q31 17 = q96 17 := by rw [eq31]; rfl
      have wq31_19 : q31 19 = q96 19 := by rw [eq31]; rfl
      have wq31_20 : q31 20 = q96 20 := by rw [eq31]; rfl
      have wq31_21 : q31 21 = q96 21 := by rw [eq31]; rfl
      have wq31_22 : q31 22 = q96 22 := by rw [eq31]; rfl
      have wq31_23 : q31 23 = q96 23 := by rw [eq31]; rfl
      have wq31_24 : q31 24 = q96 24 := by rw [eq31]; rfl
      have wq31_26 : q31 26 = q96 26 := by rw [eq31]; rfl
      have wq31_27 : q31 27 = q96 27 := by rw [eq31]; rfl
      have wq31_28 : q31 28 = q96 28 := by rw [eq31]; rfl
      have wq31_29 : q31 29 = q96 29 := by rw [eq31]; rfl
      have wq31_30 : q31 30 = q96 30 := by rw [eq31]; rfl
      have wq31_31 : q31 31 = q96 31 := by rw [eq31]; rfl
      have wq31_35 : q31 35 = q96 35 := by rw [eq31]; rfl
      have bgq31 : bg q96 q31 := bg_up bg_rf eq31 (by decide)
      have txq31 : tx q96 q31 := tx_tr tx_rf (tx_up eq31 (by omega))
      have hAC : AC q31 := AC_mv (v96_inv3 (by omega)).1 (by omega) (by omega) (by omega) (by omega)
      refine lv_aload_n hx hb dX11_readLine_114 rfl (lv_at hl 0 rfl) ?_
      refine lv_iconst (v := 4) hx hb dX11_readLine_115 (by decide) ?_
      refine th_callVM (n := 1) (As := [.int 4]) S hK hH hS (th_A.sub (by decide)) (m_X11_readRule l D cT T q31 hT hqq31 a0 t0 (4) (iv_w (iv_c (by decide) : IV 4 4 4) (by decide)) (show (q31 29 = 0 ∧ q31 27 = q31 26 ∧ q31 28 = q31 26) ∨ (1 ≤ q31 29 ∧ q31 27 < q31 28 ∧ q31 28 ≤ q31 26) by omega) (show q31 13 = 1 - q31 10 by omega) (show q31 30 = 0 → NL q31 by exact (fun z => NL_tx (v96_inv1 (by omega)) txq31 (by omega) (by omega) (by omega))) (show q31 30 = 0 → q31 29 = 3 → q31 31 = 7237492 → q31 27 + 3 ≤ q31 28 by omega) (show q31 30 = 0 by omega) (show AC q31 by assumption)) gm_1547 gm_1544 gm_1546 gm_64 gm_124 (by decide +kernel) ⟨rfl, rfl, Nat.le_of_ble_eq_true rfl, Nat.le_of_ble_eq_true rfl⟩ t0 km_0 rfl rfl hl.1 rfl (Nat.le_of_ble_eq_true rfl) dX11_readLine_116 ⟨Nat.zero_le _, Nat.zero_le _⟩ (fun wq32 q32 H locs hEq32 hH hS hF1 => ?_)
      obtain ⟨rfl, hqq32, g0q32, pq32_0, pq32_1, pq32_2, pq32_3, pq32_4, pq32_5⟩ := hEq32
      show W p l e (rmk 7 151) s m [.ref a0].toArray below meth c H locs 0 0 (MQ below (th_QM D cT T (fun v q2 => v = none ∧ qkm q2 ∧ fr [14, 15, 17, 19, 20, 21, 22, 23, 24, 27, 28, 29, 30, 31, 1000, 35] q q2 ∧ ((q2 29 = 0 ∧ q2 27 = q2 26 ∧ q2 28 = q2 26) ∨ (1 ≤ q2 29 ∧ q2 27 < q2 28 ∧ q2 28 ≤ q2 26)) ∧ (q2 30 = 0 → NL q2) ∧ (q2 30 = 0 → q2 29 = 3 → q2 31 = 7237492 → q2 27 + 3 ≤ q2 28) ∧ (q 27 ≤ q2 27) ∧ (q2 30 = 0 → MB1 q2 (q2 14) (q2 15)) ∧ (q2 30 = 0 → q 27 < q2 27)) [0, 3, 4, 5, 6, 7, 8, 9, 10, 11, 12, 13, 14, 15, 16, 17, 18, 19, 20, 21, 22, 23, 24, 25, 26, 27, 28, 29, 30, 31]) [.ref a0].toArray s 0 0 (th_A T [0, 3, 4, 5, 6, 7, 8, 9, 10, 11, 12, 13, 14, 15, 16, 17, 18, 19, 20, 21, 22, 23, 24, 25, 26, 27, 28, 29, 30, 31])) (F0 m 119 ls [])
      have pq32_0 : (q32 29 = 0 ∧ q32 27 = q32 26 ∧ q32 28 = q32 26) ∨ (1 ≤ q32 29 ∧ q32 27 < q32 28 ∧ q32 28 ≤ q32 26) := pq32_0
      have pq32_1 : q32 30 = 0 → NL q32 := pq32_1
      have pq32_2 : q32 30 = 0 → q32 29 = 3 → q32 31 = 7237492 → q32 27 + 3 ≤ q32 28 := pq32_2
      have pq32_3 : q31 27 ≤ q32 27 := pq32_3
      have pq32_4 : kq q31 q32 (q31 20) (5 * (q31 13).toNat + ((4 : Int)).toNat) := pq32_4
      have pq32_5 : q32 30 = 0 → AC q32 ∧ q31 20 ≤ q32 20 ∧ rgood q32 (q31 13).toNat ((4 : Int)).toNat (560 * ((q31 13).toNat : Int)) (q32 20) := pq32_5
      have wq32_10 : q32 10 = q31 10 := g0q32 10 (by decide) (Or.inl (by decide))
      have wq32_13 : q32 13 = q31 13 := g0q32 13 (by decide) (Or.inl (by decide))
      have wq32_14 : q32 14 = q31 14 := g0q32 14 (by decide) (Or.inl (by decide))
      have wq32_15 : q32 15 = q31 15 := g0q32 15 (by decide) (Or.inl (by decide))
      have wq32_17 : q32 17 = q31 17 := g0q32 17 (by decide) (Or.inl (by decide))
      have wq32_19 : q32 19 = q31 19 := g0q32 19 (by decide) (Or.inl (by decide))
      have wq32_26 : q32 26 = q31 26 := g0q32 26 (by decide) (Or.inl (by decide))
      have h0q32 : fr [14, 15, 17, 19, 20, 21, 22, 23, 24, 27, 28, 29, 30, 31, 1000, 35] q q32 := fr_tr h0q31 g0q32 (by decide)
      have nlq32 : q32 30 = 0 → NL q32 := pq32_1
      have hM : q32 30 = 0 → MB1 q32 (q32 14) (q32 15) := fun z => by obtain ⟨E1, E2, E3⟩ := pq32_5 z; exact MB_taste (v96_inv3 (by omega)) bgq31 pq32_4 E3 E1 E2 (by omega) (by omega) (by omega) (by omega) (by omega) (by decide) (by omega) (by omega)
      exact J119 q32 H locs ls v96_1 hqq32 h0q32 (show (q32 29 = 0 ∧ q32 27 = q32 26 ∧ q32 28 = q32 26) ∨ (1 ≤ q32 29 ∧ q32 27 < q32 28 ∧ q32 28 ≤ q32 26) by omega) (show q32 30 = 0 → NL q32 by exact nlq32) (show q32 30 = 0 → q32 29 = 3 → q32 31 = 7237492 → q32 27 + 3 ≤ q32 28 by omega) (show q32 30 = 0 → MB1 q32 (q32 14) (q32 15) by exact hM) (show q 27 < q32 27 ∧ q32 14 ≤ 4 by omega) hH hS (lv_sub hl [0, 1] rfl)
  have J84 : ∀ (q84 : Nat → Int) (H : Heap) (locs : List Loc) (ls : Array Slot) (v84_1 : Int64), qkm q84 → fr [14, 15, 17, 19, 20, 21, 22, 23, 24, 27, 28, 29, 30, 31, 1000, 35] q q84 → ((q84 29 = 0 ∧ q84 27 = q84 26 ∧ q84 28 = q84 26) ∨ (1 ≤ q84 29 ∧ q84 27 < q84 28 ∧ q84 28 ≤ q84 26)) → (q84 30 = 0 → NL q84) → (q84 30 = 0 → q84 29 = 3 → q84 31 = 7237492 → q84 27 + 3 ≤ q84 28) → (q84 30 = 0 → MB1 q84 (q84 14) (q84 15)) → (q 27 < q84 27 ∧ q84 14 ≤ 4) → (v84_1.toInt = 499851162725 → q84 30 = 0) → th_H D cT T (km q84) H → va_S (th_A T [0, 3, 4, 5, 6, 7, 8, 9, 10, 11, 12, 13, 14, 15, 16, 17, 18, 19, 20, 21, 22, 23, 24, 25, 26, 27, 28, 29, 30, 31]) s.heap H locs → lv_has ls 3 [(0, .ref a0), (1, .long v84_1)] → W p l e (rmk 7 151) s m [.ref a0].toArray below meth c H locs 0 0 (MQ below (th_QM D cT T (fun v q2 => v = none ∧ qkm q2 ∧ fr [14, 15, 17, 19, 20, 21, 22, 23, 24, 27, 28, 29, 30, 31, 1000, 35] q q2 ∧ ((q2 29 = 0 ∧ q2 27 = q2 26 ∧ q2 28 = q2 26) ∨ (1 ≤ q2 29 ∧ q2 27 < q2 28 ∧ q2 28 ≤ q2 26)) ∧ (q2 30 = 0 → NL q2) ∧ (q2 30 = 0 → q2 29 = 3 → q2 31 = 7237492 → q2 27 + 3 ≤ q2 28) ∧ (q 27 ≤ q2 27) ∧ (q2 30 = 0 → MB1 q2 (q2 14) (q2 15)) ∧ (q2 30 = 0 → q 27 < q2 27)) [0, 3, 4, 5, 6, 7, 8, 9, 10, 11, 12, 13, 14, 15, 16, 17, 18, 19, 20, 21, 22, 23, 24, 25, 26, 27, 28, 29, 30, 31]) [.ref a0].toArray s 0 0 (th_A T [0, 3, 4, 5, 6, 7, 8, 9, 10, 11, 12, 13, 14, 15, 16, 17, 18, 19, 20, 21, 22, 23, 24, 25, 26, 27, 28, 29, 30, 31])) (F0 m 84 ls []) := by
    intro q84 H locs ls v84_1 hq84 h084 v84_inv0 v84_inv1 v84_inv2 v84_inv3 v84_inv4 v84_inv5 hH hS hl
    have w84_10 : q84 10 = q 10 := h084 10 (by decide) (Or.inl (by decide))
    have w84_13 : q84 13 = q 13 := h084 13 (by decide) (Or.inl (by decide))
    have w84_26 : q84 26 = q 26 := h084 26 (by decide) (Or.inl (by decide))
    have d13 := qkm_13 hq84; have d14 := qkm_14 hq84; have d15 := qkm_15 hq84
    refine lv_lload_n hx hb dX11_readLine_84 rfl (lv_at hl 1 rfl) ?_
    refine lv_ldc2 (v := 108230800074098) hx hb S.2.2.2.1 (S.2.2.2.2 _ gm_1467) dX11_readLine_85 ?_
    refine W.lcmp hx hb dX11_readLine_88 ?_
    refine lv_topi (fun x33 ex33 => ?_)
    have ix33 := iv_top x33
    have ax33 : x33.toInt = 0 → v84_1.toInt = (108230800074098 : Int) := lc_eq ex33
    have bx33 : x33.toInt ≠ 0 → v84_1.toInt ≠ (108230800074098 : Int) := lc_ne ex33
    refine lv_if_ne (tgt := 96) hx hb dX11_readLine_89 (by decide) (fun c34 => ?_) (fun c34 => ?_)
    · skip
      have rlc34 : x33.toInt ≠ (0 : Int) := iv_ne c34
      exact J96 q84 H locs ls v84_1 hq84 h084 (show (q84 29 = 0 ∧ q84 27 = q84 26 ∧ q84 28 = q84 26) ∨ (1 ≤ q84 29 ∧ q84 27 < q84 28 ∧ q84 28 ≤ q84 26) by omega) (show q84 30 = 0 → NL q84 by exact v84_inv1) (show q84 30 = 0 → q84 29 = 3 → q84 31 = 7237492 → q84 27 + 3 ≤ q84 28 by omega) (show q84 30 = 0 → MB1 q84 (q84 14) (q84 15) by exact v84_inv3) (show q 27 < q84 27 ∧ q84 14 ≤ 4 by omega) (show v84_1.toInt = 499851162725 → q84 30 = 0 by omega) hH hS (lv_sub hl [0, 1] rfl)
    · skip
      have rlc34 : x33.toInt = (0 : Int) := congrArg Int32.toInt c34
      have ir35 : IV x33 0 0 := iv_eL c34 (iv_c (by decide) : IV 0 0 0)
      have ir35a := ir35.1; have ir35b := ir35.2
      refine lv_aload_n hx hb dX11_readLine_92 rfl (lv_at hl 0 rfl) ?_
      refine th_callVM (n := 0) (As := []) S hK hH hS (th_A.sub (by decide)) (m_X11_readBorder l D cT T q84 hT hq84 a0 t0 (show (q84 29 = 0 ∧ q84 27 = q84 26 ∧ q84 28 = q84 26) ∨ (1 ≤ q84 29 ∧ q84 27 < q84 28 ∧ q84 28 ≤ q84 26) by omega) (show q84 13 = 1 - q84 10 by omega) (show q84 30 = 0 → NL q84 by exact v84_inv1) (show q84 30 = 0 → q84 29 = 3 → q84 31 = 7237492 → q84 27 + 3 ≤ q84 28 by omega)) gm_1603 gm_1600 gm_1602 gm_78 gm_124 (by decide +kernel) ⟨rfl, rfl, Nat.le_of_ble_eq_true rfl, Nat.le_of_ble_eq_true rfl⟩ t0 km_0 rfl rfl hl.1 rfl (Nat.le_of_ble_eq_true rfl) dX11_readLine_93 ⟨Nat.zero_le _, Nat.zero_le _⟩ (fun wq36 q36 H locs hEq36 hH hS hF1 => ?_)
      obtain ⟨rfl, hqq36, g0q36, pq36_0, pq36_1, pq36_2, pq36_3, pq36_4⟩ := hEq36
      show W p l e (rmk 7 151) s m [.ref a0].toArray below meth c H locs 0 0 (MQ below (th_QM D cT T (fun v q2 => v = none ∧ qkm q2 ∧ fr [14, 15, 17, 19, 20, 21, 22, 23, 24, 27, 28, 29, 30, 31, 1000, 35] q q2 ∧ ((q2 29 = 0 ∧ q2 27 = q2 26 ∧ q2 28 = q2 26) ∨ (1 ≤ q2 29 ∧ q2 27 < q2 28 ∧ q2 28 ≤ q2 26)) ∧ (q2 30 = 0 → NL q2) ∧ (q2 30 = 0 → q2 29 = 3 → q2 31 = 7237492 → q2 27 + 3 ≤ q2 28) ∧ (q 27 ≤ q2 27) ∧ (q2 30 = 0 → MB1 q2 (q2 14) (q2 15)) ∧ (q2 30 = 0 → q 27 < q2 27)) [0, 3, 4, 5, 6, 7, 8, 9, 10, 11, 12, 13, 14, 15, 16, 17, 18, 19, 20, 21, 22, 23, 24, 25, 26, 27, 28, 29, 30, 31]) [.ref a0].toArray s 0 0 (th_A T [0, 3, 4, 5, 6, 7, 8, 9, 10, 11, 12, 13, 14, 15, 16, 17, 18, 19, 20, 21, 22, 23, 24, 25, 26, 27, 28, 29, 30, 31])) (F0 m 96 ls [])
      have pq36_0 : (q36 29 = 0 ∧ q36 27 = q36 26 ∧ q36 28 = q36 26) ∨ (1 ≤ q36 29 ∧ q36 27 < q36 28 ∧ q36 28 ≤ q36 26) := pq36_0
      have pq36_1 : q36 30 = 0 → NL q36 := pq36_1
      have pq36_2 : q36 30 = 0 → q36 29 = 3 → q36 31 = 7237492 → q36 27 + 3 ≤ q36 28 := pq36_2
      have pq36_3 : q84 27 ≤ q36 27 := pq36_3
      have pq36_4 : q36 30 = 0 → q84 30 = 0 := pq36_4
      have wq36_10 : q36 10 = q84 10 := g0q36 10 (by decide) (Or.inl (by decide))
      have wq36_13 : q36 13 = q84 13 := g0q36 13 (by decide) (Or.inl (by decide))
      have wq36_14 : q36 14 = q84 14 := g0q36 14 (by decide) (Or.inl (by decide))
      have wq36_15 : q36 15 = q84 15 := g0q36 15 (by decide) (Or.inl (by decide))
      have wq36_17 : q36 17 = q84 17 := g0q36 17 (by decide) (Or.inl (by decide))
      have wq36_19 : q36 19 = q84 19 := g0q36 19 (by decide) (Or.inl (by decide))
      have wq36_20 : q36 20 = q84 20 := g0q36 20 (by decide) (Or.inl (by decide))
      have wq36_21 : q36 21 = q84 21 := g0q36 21 (by decide) (Or.inl (by decide))
      have wq36_22 : q36 22 = q84 22 := g0q36 22 (by decide) (Or.inl (by decide))
      have wq36_23 : q36 23 = q84 23 := g0q36 23 (by decide) (Or.inl (by decide))
      have wq36_24 : q36 24 = q84 24 := g0q36 24 (by decide) (Or.inl (by decide))
      have wq36_26 : q36 26 = q84 26 := g0q36 26 (by decide) (Or.inl (by decide))
      have wq36_35 : q36 35 = q84 35 := g0q36 35 (by decide) (Or.inl (by decide))
      have h0q36 : fr [14, 15, 17, 19, 20, 21, 22, 23, 24, 27, 28, 29, 30, 31, 1000, 35] q q36 := fr_tr h084 g0q36 (by decide)
      have bgq36 : bg q84 q36 := bg_fr bg_rf g0q36 (by decide)
      have nlq36 : q36 30 = 0 → NL q36 := pq36_1
      have f14 := qkm_14 hqq36
      exact J96 q36 H locs ls v84_1 hqq36 h0q36 (show (q36 29 = 0 ∧ q36 27 = q36 26 ∧ q36 28 = q36 26) ∨ (1 ≤ q36 29 ∧ q36 27 < q36 28 ∧ q36 28 ≤ q36 26) by omega) (show q36 30 = 0 → NL q36 by exact nlq36) (show q36 30 = 0 → q36 29 = 3 → q36 31 = 7237492 → q36 27 + 3 ≤ q36 28 by omega) (show q36 30 = 0 → MB1 q36 (q36 14) (q36 15) by exact (fun z => MB1_mv (v84_inv3 (by omega)) bgq36 (by omega) (by omega) (by omega) (by omega) (by omega) (by omega) (by omega))) (show q 27 < q36 27 ∧ q36 14 ≤ 4 by omega) (show v84_1.toInt = 499851162725 → q36 30 = 0 by omega) hH hS (lv_sub hl [0, 1] rfl)
  have J72 : ∀ (q72 : Nat → Int) (H : Heap) (locs : List Loc) (ls : Array Slot) (v72_1 : Int64), qkm q72 → fr [14, 15, 17, 19, 20, 21, 22, 23, 24, 27, 28, 29, 30, 31, 1000, 35] q q72 → ((q72 29 = 0 ∧ q72 27 = q72 26 ∧ q72 28 = q72 26) ∨ (1 ≤ q72 29 ∧ q72 27 < q72 28 ∧ q72 28 ≤ q72 26)) → (q72 30 = 0 → NL q72) → (q72 30 = 0 → q72 29 = 3 → q72 31 = 7237492 → q72 27 + 3 ≤ q72 28) → (q72 30 = 0 → MB1 q72 (q72 14) (q72 15)) → (q 27 < q72 27 ∧ q72 14 ≤ 4) → (v72_1.toInt = 499851162725 → q72 30 = 0) → th_H D cT T (km q72) H → va_S (th_A T [0, 3, 4, 5, 6, 7, 8, 9, 10, 11, 12, 13, 14, 15, 16, 17, 18, 19, 20, 21, 22, 23, 24, 25, 26, 27, 28, 29, 30, 31]) s.heap H locs → lv_has ls 3 [(0, .ref a0), (1, .long v72_1)] → W p l e (rmk 7 151) s m [.ref a0].toArray below meth c H locs 0 0 (MQ below (th_QM D cT T (fun v q2 => v = none ∧ qkm q2 ∧ fr [14, 15, 17, 19, 20, 21, 22, 23, 24, 27, 28, 29, 30, 31, 1000, 35] q q2 ∧ ((q2 29 = 0 ∧ q2 27 = q2 26 ∧ q2 28 = q2 26) ∨ (1 ≤ q2 29 ∧ q2 27 < q2 28 ∧ q2 28 ≤ q2 26)) ∧ (q2 30 = 0 → NL q2) ∧ (q2 30 = 0 → q2 29 = 3 → q2 31 = 7237492 → q2 27 + 3 ≤ q2 28) ∧ (q 27 ≤ q2 27) ∧ (q2 30 = 0 → MB1 q2 (q2 14) (q2 15)) ∧ (q2 30 = 0 → q 27 < q2 27)) [0, 3, 4, 5, 6, 7, 8, 9, 10, 11, 12, 13, 14, 15, 16, 17, 18, 19, 20, 21, 22, 23, 24, 25, 26, 27, 28, 29, 30, 31]) [.ref a0].toArray s 0 0 (th_A T [0, 3, 4, 5, 6, 7, 8, 9, 10, 11, 12, 13, 14, 15, 16, 17, 18, 19, 20, 21, 22, 23, 24, 25, 26, 27, 28, 29, 30, 31])) (F0 m 72 ls []) := by
    intro q72 H locs ls v72_1 hq72 h072 v72_inv0 v72_inv1 v72_inv2 v72_inv3 v72_inv4 v72_inv5 hH hS hl
    have w72_10 : q72 10 = q 10 := h072 10 (by decide) (Or.inl (by decide))
    have w72_13 : q72 13 = q 13 := h072 13 (by decide) (Or.inl (by decide))
    have w72_26 : q72 26 = q 26 := h072 26 (by decide) (Or.inl (by decide))
    have d13 := qkm_13 hq72; have d14 := qkm_14 hq72; have d15 := qkm_15 hq72
    refine lv_lload_n hx hb dX11_readLine_72 rfl (lv_at hl 1 rfl) ?_
    refine lv_ldc2 (v := 465625113971) hx hb S.2.2.2.1 (S.2.2.2.2 _ gm_1466) dX11_readLine_73 ?_
    refine W.lcmp hx hb dX11_readLine_76 ?_
    refine lv_topi (fun x37 ex37 => ?_)
    have ix37 := iv_top x37
    have ax37 : x37.toInt = 0 → v72_1.toInt = (465625113971 : Int) := lc_eq ex37
    have bx37 : x37.toInt ≠ 0 → v72_1.toInt ≠ (465625113971 : Int) := lc_ne ex37
    refine lv_if_ne (tgt := 84) hx hb dX11_readLine_77 (by decide) (fun c38 => ?_) (fun c38 => ?_)
    · skip
      have rlc38 : x37.toInt ≠ (0 : Int) := iv_ne c38
      exact J84 q72 H locs ls v72_1 hq72 h072 (show (q72 29 = 0 ∧ q72 27 = q72 26 ∧ q72 28 = q72 26) ∨ (1 ≤ q72 29 ∧ q72 27 < q72 28 ∧ q72 28 ≤ q72 26) by omega) (show q72 30 = 0 → NL q72 by exact v72_inv1) (show q72 30 = 0 → q72 29 = 3 → q72 31 = 7237492 → q72 27 + 3 ≤ q72 28 by omega) (show q72 30 = 0 → MB1 q72 (q72 14) (q72 15) by exact v72_inv3) (show q 27 < q72 27 ∧ q72 14 ≤ 4 by omega) (show v72_1.toInt = 499851162725 → q72 30 = 0 by omega) hH hS (lv_sub hl [0, 1] rfl)
    · skip
      have rlc38 : x37.toInt = (0 : Int) := congrArg Int32.toInt c38
      have ir39 : IV x37 0 0 := iv_eL c38 (iv_c (by decide) : IV 0 0 0)
      have ir39a := ir39.1; have ir39b := ir39.2
      refine lv_aload_n hx hb dX11_readLine_80 rfl (lv_at hl 0 rfl) ?_
      refine th_callVM (n := 0) (As := []) S hK hH hS (th_A.sub (by decide)) (m_X11_readLikes l D cT T q72 hT hq72 a0 t0 (show (q72 29 = 0 ∧ q72 27 = q72 26 ∧ q72 28 = q72 26) ∨ (1 ≤ q72 29 ∧ q72 27 < q72 28 ∧ q72 28 ≤ q72 26) by omega) (show q72 13 = 1 - q72 10 by omega) (show q72 30 = 0 → NL q72 by exact v72_inv1) (show q72 30 = 0 → q72 29 = 3 → q72 31 = 7237492 → q72 27 + 3 ≤ q72 28 by omega)) gm_1599 gm_1596 gm_1598 gm_77 gm_124 (by decide +kernel) ⟨rfl, rfl, Nat.le_of_ble_eq_true rfl, Nat.le_of_ble_eq_true rfl⟩ t0 km_0 rfl rfl hl.1 rfl (Nat.le_of_ble_eq_true rfl) dX11_readLine_81 ⟨Nat.zero_le _, Nat.zero_le _⟩ (fun wq40 q40 H locs hEq40 hH hS hF1 => ?_)
      obtain ⟨rfl, hqq40, g0q40, pq40_0, pq40_1, pq40_2, pq40_3, pq40_4⟩ := hEq40
      show W p l e (rmk 7 151) s m [.ref a0].toArray below meth c H locs 0 0 (MQ below (th_QM D cT T (fun v q2 => v = none ∧ qkm q2 ∧ fr [14, 15, 17, 19, 20, 21, 22, 23, 24, 27, 28, 29, 30, 31, 1000, 35] q q2 ∧ ((q2 29 = 0 ∧ q2 27 = q2 26 ∧ q2 28 = q2 26) ∨ (1 ≤ q2 29 ∧ q2 27 < q2 28 ∧ q2 28 ≤ q2 26)) ∧ (q2 30 = 0 → NL q2) ∧ (q2 30 = 0 → q2 29 = 3 → q2 31 = 7237492 → q2 27 + 3 ≤ q2 28) ∧ (q 27 ≤ q2 27) ∧ (q2 30 = 0 → MB1 q2 (q2 14) (q2 15)) ∧ (q2 30 = 0 → q 27 < q2 27)) [0, 3, 4, 5, 6, 7, 8, 9, 10, 11, 12, 13, 14, 15, 16, 17, 18, 19, 20, 21, 22, 23, 24, 25, 26, 27, 28, 29, 30, 31]) [.ref a0].toArray s 0 0 (th_A T [0, 3, 4, 5, 6, 7, 8, 9, 10, 11, 12, 13, 14, 15, 16, 17, 18, 19, 20, 21, 22, 23, 24, 25, 26, 27, 28, 29, 30, 31])) (F0 m 84 ls [])
      have pq40_0 : (q40 29 = 0 ∧ q40 27 = q40 26 ∧ q40 28 = q40 26) ∨ (1 ≤ q40 29 ∧ q40 27 < q40 28 ∧ q40 28 ≤ q40 26) := pq40_0
      have pq40_1 : q40 30 = 0 → NL q40 := pq40_1
      have pq40_2 : q40 30 = 0 → q40 29 = 3 → q40 31 = 7237492 → q40 27 + 3 ≤ q40 28 := pq40_2
      have pq40_3 : q72 27 ≤ q40 27 := pq40_3
      have pq40_4 : q40 30 = 0 → q72 30 = 0 := pq40_4
      have wq40_10 : q40 10 = q72 10 := g0q40 10 (by decide) (Or.inl (by decide))
      have wq40_13 : q40 13 = q72 13 := g0q40 13 (by decide) (Or.inl (by decide))
      have wq40_14 : q40 14 = q72 14 := g0q40 14 (by decide) (Or.inl (by decide))
      have wq40_15 : q40 15 = q72 15 := g0q40 15 (by decide) (Or.inl (by decide))
      have wq40_17 : q40 17 = q72 17 := g0q40 17 (by decide) (Or.inl (by decide))
      have wq40_19 : q40 19 = q72 19 := g0q40 19 (by decide) (Or.inl (by decide))
      have wq40_20 : q40 20 = q72 20 := g0q40 20 (by decide) (Or.inl (by decide))
      have wq40_21 : q40 21 = q72 21 := g0q40 21 (by decide) (Or.inl (by decide))
      have wq40_22 : q40 22 = q72 22 := g0q40 22 (by decide) (Or.inl (by decide))
      have wq40_23 : q40 23 = q72 23 := g0q40 23 (by decide) (Or.inl (by decide))
      have wq40_24 : q40 24 = q72 24 := g0q40 24 (by decide) (Or.inl (by decide))
      have wq40_26 : q40 26 = q72 26 := g0q40 26 (by decide) (Or.inl (by decide))
      have wq40_35 : q40 35 = q72 35 := g0q40 35 (by decide) (Or.inl (by decide))
      have h0q40 : fr [14, 15, 17, 19, 20, 21, 22, 23, 24, 27, 28, 29, 30, 31, 1000, 35] q q40 := fr_tr h072 g0q40 (by decide)
      have bgq40 : bg q72 q40 := bg_fr bg_rf g0q40 (by decide)
      have nlq40 : q40 30 = 0 → NL q40 := pq40_1
      have f14 := qkm_14 hqq40
      exact J84 q40 H locs ls v72_1 hqq40 h0q40 (show (q40 29 = 0 ∧ q40 27 = q40 26 ∧ q40 28 = q40 26) ∨ (1 ≤ q40 29 ∧ q40 27 < q40 28 ∧ q40 28 ≤ q40 26) by omega) (show q40 30 = 0 → NL q40 by exact nlq40) (show q40 30 = 0 → q40 29 = 3 → q40 31 = 7237492 → q40 27 + 3 ≤ q40 28 by omega) (show q40 30 = 0 → MB1 q40 (q40 14) (q40 15) by exact (fun z => MB1_mv (v72_inv3 (by omega)) bgq40 (by omega) (by omega) (by omega) (by omega) (by omega) (by omega) (by omega))) (show q 27 < q40 27 ∧ q40 14 ≤ 4 by omega) (show v72_1.toInt = 499851162725 → q40 30 = 0 by omega) hH hS (lv_sub hl [0, 1] rfl)
  have J60 : ∀ (q60 : Nat → Int) (H : Heap) (locs : List Loc) (ls : Array Slot) (v60_1 : Int64), qkm q60 → fr [14, 15, 17, 19, 20, 21, 22, 23, 24, 27, 28, 29, 30, 31, 1000, 35] q q60 → ((q60 29 = 0 ∧ q60 27 = q60 26 ∧ q60 28 = q60 26) ∨ (1 ≤ q60 29 ∧ q60 27 < q60 28 ∧ q60 28 ≤ q60 26)) → (q60 30 = 0 → NL q60) → (q60 30 = 0 → q60 29 = 3 → q60 31 = 7237492 → q60 27 + 3 ≤ q60 28) → (q60 30 = 0 → MB1 q60 (q60 14) (q60 15)) → (q 27 < q60 27 ∧ q60 14 ≤ 4) → (v60_1.toInt = 482854658917 → q60 19 ≤ 7) → (v60_1.toInt = 499851162725 → q60 30 = 0) → th_H D cT T (km q60) H → va_S (th_A T [0, 3, 4, 5, 6, 7, 8, 9, 10, 11, 12, 13, 14, 15, 16, 17, 18, 19, 20, 21, 22, 23, 24, 25, 26, 27, 28, 29, 30, 31]) s.heap H locs → lv_has ls 3 [(0, .ref a0), (1, .long v60_1)] → W p l e (rmk 7 151) s m [.ref a0].toArray below meth c H locs 0 0 (MQ below (th_QM D cT T (fun v q2 => v = none ∧ qkm q2 ∧ fr [14, 15, 17, 19, 20, 21, 22, 23, 24, 27, 28, 29, 30, 31, 1000, 35] q q2 ∧ ((q2 29 = 0 ∧ q2 27 = q2 26 ∧ q2 28 = q2 26) ∨ (1 ≤ q2 29 ∧ q2 27 < q2 28 ∧ q2 28 ≤ q2 26)) ∧ (q2 30 = 0 → NL q2) ∧ (q2 30 = 0 → q2 29 = 3 → q2 31 = 7237492 → q2 27 + 3 ≤ q2 28) ∧ (q 27 ≤ q2 27) ∧ (q2 30 = 0 → MB1 q2 (q2 14) (q2 15)) ∧ (q2 30 = 0 → q 27 < q2 27)) [0, 3, 4, 5, 6, 7, 8, 9, 10, 11, 12, 13, 14, 15, 16, 17, 18, 19, 20, 21, 22, 23, 24, 25, 26, 27, 28, 29, 30, 31]) [.ref a0].toArray s 0 0 (th_A T [0, 3, 4, 5, 6, 7, 8, 9, 10, 11, 12, 13, 14, 15, 16, 17, 18, 19, 20, 21, 22, 23, 24, 25, 26, 27, 28, 29, 30, 31])) (F0 m 60 ls []) := by
    intro q60 H locs ls v60_1 hq60 h060 v60_inv0 v60_inv1 v60_inv2 v60_inv3 v60_inv4 v60_inv5 v60_inv6 hH hS hl
    have w60_10 : q60 10 = q 10 := h060 10 (by decide) (Or.inl (by decide))
    have w60_13 : q60 13 = q 13 := h060 13 (by decide) (Or.inl (by decide))
    have w60_26 : q60 26 = q 26 := h060 26 (by decide) (Or.inl (by decide))
    have d13 := qkm_13 hq60; have d14 := qkm_14 hq60; have d15 := qkm_15 hq60
    refine lv_lload_n hx hb dX11_readLine_60 rfl (lv_at hl 1 rfl) ?_
    refine lv_ldc2 (v := 482854658917) hx hb S.2.2.2.1 (S.2.2.2.2 _ gm_1462) dX11_readLine_61 ?_
    refine W.lcmp hx hb dX11_readLine_64 ?_
    refine lv_topi (fun x41 ex41 => ?_)
    have ix41 := iv_top x41
    have ax41 : x41.toInt = 0 → v60_1.toInt = (482854658917 : Int) := lc_eq ex41
    have bx41 : x41.toInt ≠ 0 → v60_1.toInt ≠ (482854658917 : Int) := lc_ne ex41
    refine lv_if_ne (tgt := 72) hx hb dX11_readLine_65 (by decide) (fun c42 => ?_) (fun c42 => ?_)
    · skip
      have rlc42 : x41.toInt ≠ (0 : Int) := iv_ne c42
      exact J72 q60 H locs ls v60_1 hq60 h060 (show (q60 29 = 0 ∧ q60 27 = q60 26 ∧ q60 28 = q60 26) ∨ (1 ≤ q60 29 ∧ q60 27 < q60 28 ∧ q60 28 ≤ q60 26) by omega) (show q60 30 = 0 → NL q60 by exact v60_inv1) (show q60 30 = 0 → q60 29 = 3 → q60 31 = 7237492 → q60 27 + 3 ≤ q60 28 by omega) (show q60 30 = 0 → MB1 q60 (q60 14) (q60 15) by exact v60_inv3) (show q 27 < q60 27 ∧ q60 14 ≤ 4 by omega) (show v60_1.toInt = 499851162725 → q60 30 = 0 by omega) hH hS (lv_sub hl [0, 1] rfl)
    · skip
      have rlc42 : x41.toInt = (0 : Int) := congrArg Int32.toInt c42
      have ir43 : IV x41 0 0 := iv_eL c42 (iv_c (by decide) : IV 0 0 0)
      have ir43a := ir43.1; have ir43b := ir43.2
      refine lv_aload_n hx hb dX11_readLine_68 rfl (lv_at hl 0 rfl) ?_
      refine th_callVM (n := 0) (As := []) S hK hH hS (th_A.sub (by decide)) (m_X11_readPlace l D cT T q60 hT hq60 a0 t0 (show (q60 29 = 0 ∧ q60 27 = q60 26 ∧ q60 28 = q60 26) ∨ (1 ≤ q60 29 ∧ q60 27 < q60 28 ∧ q60 28 ≤ q60 26) by omega) (show q60 13 = 1 - q60 10 by omega) (show q60 30 = 0 → NL q60 by exact v60_inv1) (show q60 30 = 0 → q60 29 = 3 → q60 31 = 7237492 → q60 27 + 3 ≤ q60 28 by omega) (show q60 19 ≤ 7 by omega)) gm_1587 gm_1584 gm_1586 gm_74 gm_124 (by decide +kernel) ⟨rfl, rfl, Nat.le_of_ble_eq_true rfl, Nat.le_of_ble_eq_true rfl⟩ t0 km_0 rfl rfl hl.1 rfl (Nat.le_of_ble_eq_true rfl) dX11_readLine_69 ⟨Nat.zero_le _, Nat.zero_le _⟩ (fun wq44 q44 H locs hEq44 hH hS hF1 => ?_)
      obtain ⟨rfl, hqq44, g0q44, pq44_0, pq44_1, pq44_2, pq44_3, pq44_4⟩ := hEq44
      show W p l e (rmk 7 151) s m [.ref a0].toArray below meth c H locs 0 0 (MQ below (th_QM D cT T (fun v q2 => v = none ∧ qkm q2 ∧ fr [14, 15, 17, 19, 20, 21, 22, 23, 24, 27, 28, 29, 30, 31, 1000, 35] q q2 ∧ ((q2 29 = 0 ∧ q2 27 = q2 26 ∧ q2 28 = q2 26) ∨ (1 ≤ q2 29 ∧ q2 27 < q2 28 ∧ q2 28 ≤ q2 26)) ∧ (q2 30 = 0 → NL q2) ∧ (q2 30 = 0 → q2 29 = 3 → q2 31 = 7237492 → q2 27 + 3 ≤ q2 28) ∧ (q 27 ≤ q2 27) ∧ (q2 30 = 0 → MB1 q2 (q2 14) (q2 15)) ∧ (q2 30 = 0 → q 27 < q2 27)) [0, 3, 4, 5, 6, 7, 8, 9, 10, 11, 12, 13, 14, 15, 16, 17, 18, 19, 20, 21, 22, 23, 24, 25, 26, 27, 28, 29, 30, 31]) [.ref a0].toArray s 0 0 (th_A T [0, 3, 4, 5, 6, 7, 8, 9, 10, 11, 12, 13, 14, 15, 16, 17, 18, 19, 20, 21, 22, 23, 24, 25, 26, 27, 28, 29, 30, 31])) (F0 m 72 ls [])
      have pq44_0 : (q44 29 = 0 ∧ q44 27 = q44 26 ∧ q44 28 = q44 26) ∨ (1 ≤ q44 29 ∧ q44 27 < q44 28 ∧ q44 28 ≤ q44 26) := pq44_0
      have pq44_1 : q44 30 = 0 → NL q44 := pq44_1
      have pq44_2 : q44 30 = 0 → q44 29 = 3 → q44 31 = 7237492 → q44 27 + 3 ≤ q44 28 := pq44_2
      have pq44_3 : q60 27 ≤ q44 27 := pq44_3
      have pq44_4 : q44 30 = 0 → q60 30 = 0 := pq44_4
      have wq44_10 : q44 10 = q60 10 := g0q44 10 (by decide) (Or.inl (by decide))
      have wq44_13 : q44 13 = q60 13 := g0q44 13 (by decide) (Or.inl (by decide))
      have wq44_14 : q44 14 = q60 14 := g0q44 14 (by decide) (Or.inl (by decide))
      have wq44_15 : q44 15 = q60 15 := g0q44 15 (by decide) (Or.inl (by decide))
      have wq44_17 : q44 17 = q60 17 := g0q44 17 (by decide) (Or.inl (by decide))
      have wq44_20 : q44 20 = q60 20 := g0q44 20 (by decide) (Or.inl (by decide))
      have wq44_21 : q44 21 = q60 21 := g0q44 21 (by decide) (Or.inl (by decide))
      have wq44_22 : q44 22 = q60 22 := g0q44 22 (by decide) (Or.inl (by decide))
      have wq44_23 : q44 23 = q60 23 := g0q44 23 (by decide) (Or.inl (by decide))
      have wq44_24 : q44 24 = q60 24 := g0q44 24 (by decide) (Or.inl (by decide))
      have wq44_26 : q44 26 = q60 26 := g0q44 26 (by decide) (Or.inl (by decide))
      have wq44_35 : q44 35 = q60 35 := g0q44 35 (by decide) (Or.inl (by decide))
      have h0q44 : fr [14, 15, 17, 19, 20, 21, 22, 23, 24, 27, 28, 29, 30, 31, 1000, 35] q q44 := fr_tr h060 g0q44 (by decide)
      have bgq44 : bg q60 q44 := bg_fr bg_rf g0q44 (by decide)
      have nlq44 : q44 30 = 0 → NL q44 := pq44_1
      have f14 := qkm_14 hqq44
      exact J72 q44 H locs ls v60_1 hqq44 h0q44 (show (q44 29 = 0 ∧ q44 27 = q44 26 ∧ q44 28 = q44 26) ∨ (1 ≤ q44 29 ∧ q44 27 < q44 28 ∧ q44 28 ≤ q44 26) by omega) (show q44 30 = 0 → NL q44 by exact nlq44) (show q44 30 = 0 → q44 29 = 3 → q44 31 = 7237492 → q44 27 + 3 ≤ q44 28 by omega) (show q44 30 = 0 → MB1 q44 (q44 14) (q44 15) by exact (fun z => MB1_mv (v60_inv3 (by omega)) bgq44 (by omega) (by omega) (by omega) (by omega) (by omega) (by omega) (by omega))) (show q 27 < q44 27 ∧ q44 14 ≤ 4 by omega) (show v60_1.toInt = 499851162725 → q44 30 = 0 by omega) hH hS (lv_sub hl [0, 1] rfl)
  have J48 : ∀ (q48 : Nat → Int) (H : Heap) (locs : List Loc) (ls : Array Slot) (v48_1 : Int64), qkm q48 → fr [14, 15, 17, 19, 20, 21, 22, 23, 24, 27, 28, 29, 30, 31, 1000, 35] q q48 → ((q48 29 = 0 ∧ q48 27 = q48 26 ∧ q48 28 = q48 26) ∨ (1 ≤ q48 29 ∧ q48 27 < q48 28 ∧ q48 28 ≤ q48 26)) → (q48 30 = 0 → NL q48) → (q48 30 = 0 → q48 29 = 3 → q48 31 = 7237492 → q48 27 + 3 ≤ q48 28) → (q48 30 = 0 → MB1 q48 (q48 14) (q48 15)) → (q 27 < q48 27 ∧ q48 14 ≤ 4) → (v48_1.toInt = 7168368 → q48 14 ≤ 3 ∧ q48 30 = 0) → (v48_1.toInt = 482854658917 → q48 19 ≤ 7) → (v48_1.toInt = 499851162725 → q48 30 = 0) → th_H D cT T (km q48) H → va_S (th_A T [0, 3, 4, 5, 6, 7, 8, 9, 10, 11, 12, 13, 14, 15, 16, 17, 18, 19, 20, 21, 22, 23, 24, 25, 26, 27, 28, 29, 30, 31]) s.heap H locs → lv_has ls 3 [(0, .ref a0), (1, .long v48_1)] → W p l e (rmk 7 151) s m [.ref a0].toArray below meth c H locs 0 0 (MQ below (th_QM D cT T (fun v q2 => v = none ∧ qkm q2 ∧ fr [14, 15, 17, 19, 20, 21, 22, 23, 24, 27, 28, 29, 30, 31, 1000, 35] q q2 ∧ ((q2 29 = 0 ∧ q2 27 = q2 26 ∧ q2 28 = q2 26) ∨ (1 ≤ q2 29 ∧ q2 27 < q2 28 ∧ q2 28 ≤ q2 26)) ∧ (q2 30 = 0 → NL q2) ∧ (q2 30 = 0 → q2 29 = 3 → q2 31 = 7237492 → q2 27 + 3 ≤ q2 28) ∧ (q 27 ≤ q2 27) ∧ (q2 30 = 0 → MB1 q2 (q2 14) (q2 15)) ∧ (q2 30 = 0 → q 27 < q2 27)) [0, 3, 4, 5, 6, 7, 8, 9, 10, 11, 12, 13, 14, 15, 16, 17, 18, 19, 20, 21, 22, 23, 24, 25, 26, 27, 28, 29, 30, 31]) [.ref a0].toArray s 0 0 (th_A T [0, 3, 4, 5, 6, 7, 8, 9, 10, 11, 12, 13, 14, 15, 16, 17, 18, 19, 20, 21, 22, 23, 24, 25, 26, 27, 28, 29, 30, 31])) (F0 m 48 ls []) := by
    intro q48 H locs ls v48_1 hq48 h048 v48_inv0 v48_inv1 v48_inv2 v48_inv3 v48_inv4 v48_inv5 v48_inv6 v48_inv7 hH hS hl
    have w48_10 : q48 10 = q 10 := h048 10 (by decide) (Or.inl (by decide))
    have w48_13 : q48 13 = q 13 := h048 13 (by decide) (Or.inl (by decide))
    have w48_26 : q48 26 = q 26 := h048 26 (by decide) (Or.inl (by decide))
    have d13 := qkm_13 hq48; have d14 := qkm_14 hq48; have d15 := qkm_15 hq48
    refine lv_lload_n hx hb dX11_readLine_48 rfl (lv_at hl 1 rfl) ?_
    refine lv_ldc2 (v := 7168368) hx hb S.2.2.2.1 (S.2.2.2.2 _ gm_1457) dX11_readLine_49 ?_
    refine W.lcmp hx hb dX11_readLine_52 ?_
    refine lv_topi (fun x45 ex45 => ?_)
    have ix45 := iv_top x45
    have ax45 : x45.toInt = 0 → v48_1.toInt = (7168368 : Int) := lc_eq ex45
    have bx45 : x45.toInt ≠ 0 → v48_1.toInt ≠ (7168368 : Int) := lc_ne ex45
    refine lv_if_ne (tgt := 60) hx hb dX11_readLine_53 (by decide) (fun c46 => ?_) (fun c46 => ?_)
    · skip
      have rlc46 : x45.toInt ≠ (0 : Int) := iv_ne c46
      exact J60 q48 H locs ls v48_1 hq48 h048 (show (q48 29 = 0 ∧ q48 27 = q48 26 ∧ q48 28 = q48 26) ∨ (1 ≤ q48 29 ∧ q48 27 < q48 28 ∧ q48 28 ≤ q48 26) by omega) (show q48 30 = 0 → NL q48 by exact v48_inv1) (show q48 30 = 0 → q48 29 = 3 → q48 31 = 7237492 → q48 27 + 3 ≤ q48 28 by omega) (show q48 30 = 0 → MB1 q48 (q48 14) (q48 15) by exact v48_inv3) (show q 27 < q48 27 ∧ q48 14 ≤ 4 by omega) (show v48_1.toInt = 482854658917 → q48 19 ≤ 7 by omega) (show v48_1.toInt = 499851162725 → q48 30 = 0 by omega) hH hS (lv_sub hl [0, 1] rfl)
    · skip
      have rlc46 : x45.toInt = (0 : Int) := congrArg Int32.toInt c46
      have ir47 : IV x45 0 0 := iv_eL c46 (iv_c (by decide) : IV 0 0 0)
      have ir47a := ir47.1; have ir47b := ir47.2
      have hmb := v48_inv3 (by omega)
      refine lv_aload_n hx hb dX11_readLine_56 rfl (lv_at hl 0 rfl) ?_
      refine th_callVM (n := 0) (As := []) S hK hH hS (th_A.sub (by decide)) (m_X11_readMap l D cT T q48 hT hq48 a0 t0 (show (q48 29 = 0 ∧ q48 27 = q48 26 ∧ q48 28 = q48 26) ∨ (1 ≤ q48 29 ∧ q48 27 < q48 28 ∧ q48 28 ≤ q48 26) by omega) (show q48 13 = 1 - q48 10 by omega) (show q48 30 = 0 → NL q48 by exact v48_inv1) (show q48 30 = 0 → q48 29 = 3 → q48 31 = 7237492 → q48 27 + 3 ≤ q48 28 by omega) (show q48 30 = 0 by omega) (show MB1 q48 (q48 14) (q48 15) by assumption) (show q48 14 ≤ 3 by omega)) gm_1531 gm_1528 gm_1530 gm_60 gm_124 (by decide +kernel) ⟨rfl, rfl, Nat.le_of_ble_eq_true rfl, Nat.le_of_ble_eq_true rfl⟩ t0 km_0 rfl rfl hl.1 rfl (Nat.le_of_ble_eq_true rfl) dX11_readLine_57 ⟨Nat.zero_le _, Nat.zero_le _⟩ (fun wq48 q48 H locs hEq48 hH hS hF1 => ?_)
      obtain ⟨rfl, hqq48, g0q48, pq48_0, pq48_1, pq48_2, pq48_3, pq48_4⟩ := hEq48
      show W p l e (rmk 7 151) s m [.ref a0].toArray below meth c H locs 0 0 (MQ below (th_QM D cT T (fun v q2 => v = none ∧ qkm q2 ∧ fr [14, 15, 17, 19, 20, 21, 22, 23, 24, 27, 28, 29, 30, 31, 1000, 35] q q2 ∧ ((q2 29 = 0 ∧ q2 27 = q2 26 ∧ q2 28 = q2 26) ∨ (1 ≤ q2 29 ∧ q2 27 < q2 28 ∧ q2 28 ≤ q2 26)) ∧ (q2 30 = 0 → NL q2) ∧ (q2 30 = 0 → q2 29 = 3 → q2 31 = 7237492 → q2 27 + 3 ≤ q2 28) ∧ (q 27 ≤ q2 27) ∧ (q2 30 = 0 → MB1 q2 (q2 14) (q2 15)) ∧ (q2 30 = 0 → q 27 < q2 27)) [0, 3, 4, 5, 6, 7, 8, 9, 10, 11, 12, 13, 14, 15, 16, 17, 18, 19, 20, 21, 22, 23, 24, 25, 26, 27, 28, 29, 30, 31]) [.ref a0].toArray s 0 0 (th_A T [0, 3, 4, 5, 6, 7, 8, 9, 10, 11, 12, 13, 14, 15, 16, 17, 18, 19, 20, 21, 22, 23, 24, 25, 26, 27, 28, 29, 30, 31])) (F0 m 60 ls [])
      have pq48_0 : (q48 29 = 0 ∧ q48 27 = q48 26 ∧ q48 28 = q48 26) ∨ (1 ≤ q48 29 ∧ q48 27 < q48 28 ∧ q48 28 ≤ q48 26) := pq48_0
      have pq48_1 : q48 30 = 0 → NL q48 := pq48_1
      have pq48_2 : q48 30 = 0 → q48 29 = 3 → q48 31 = 7237492 → q48 27 + 3 ≤ q48 28 := pq48_2
      have pq48_3 : q48 27 ≤ q48 27 := pq48_3
      have pq48_4 : q48 30 = 0 → MB1 q48 (q48 14) (q48 15) := pq48_4
      have wq48_10 : q48 10 = q48 10 := g0q48 10 (by decide) (Or.inl (by decide))
      have wq48_13 : q48 13 = q48 13 := g0q48 13 (by decide) (Or.inl (by decide))
      have wq48_15 : q48 15 = q48 15 := g0q48 15 (by decide) (Or.inl (by decide))
      have wq48_17 : q48 17 = q48 17 := g0q48 17 (by decide) (Or.inl (by decide))
      have wq48_19 : q48 19 = q48 19 := g0q48 19 (by decide) (Or.inl (by decide))
      have wq48_26 : q48 26 = q48 26 := g0q48 26 (by decide) (Or.inl (by decide))
      have h0q48 : fr [14, 15, 17, 19, 20, 21, 22, 23, 24, 27, 28, 29, 30, 31, 1000, 35] q q48 := fr_tr h048 g0q48 (by decide)
      have nlq48 : q48 30 = 0 → NL q48 := pq48_1
      have f14 := qkm_14 hqq48
      exact J60 q48 H locs ls v48_1 hqq48 h0q48 (show (q48 29 = 0 ∧ q48 27 = q48 26 ∧ q48 28 = q48 26) ∨ (1 ≤ q48 29 ∧ q48 27 < q48 28 ∧ q48 28 ≤ q48 26) by omega) (show q48 30 = 0 → NL q48 by exact nlq48) (show q48 30 = 0 → q48 29 = 3 → q48 31 = 7237492 → q48 27 + 3 ≤ q48 28 by omega) (show q48 30 = 0 → MB1 q48 (q48 14) (q48 15) by exact pq48_4) (show q 27 < q48 27 ∧ q48 14 ≤ 4 by omega) (show v48_1.toInt = 482854658917 → q48 19 ≤ 7 by omega) (show v48_1.toInt = 499851162725 → q48 30 = 0 by omega) hH hS (lv_sub hl [0, 1] rfl)
  have J0 : ∀ (H : Heap) (locs : List Loc) (ls : Array Slot), th_H D cT T (km q) H → va_S (th_A T [0, 3, 4, 5, 6, 7, 8, 9, 10, 11, 12, 13, 14, 15, 16, 17, 18, 19, 20, 21, 22, 23, 24, 25, 26, 27, 28, 29, 30, 31]) s.heap H locs → lv_has ls 3 [(0, .ref a0)] → W p l e (rmk 7 151) s m [.ref a0].toArray below meth c H locs 0 0 (MQ below (th_QM D cT T (fun v q2 => v = none ∧ qkm q2 ∧ fr [14, 15, 17, 19, 20, 21, 22, 23, 24, 27, 28, 29, 30, 31, 1000, 35] q q2 ∧ ((q2 29 = 0 ∧ q2 27 = q2 26 ∧ q2 28 = q2 26) ∨ (1 ≤ q2 29 ∧ q2 27 < q2 28 ∧ q2 28 ≤ q2 26)) ∧ (q2 30 = 0 → NL q2) ∧ (q2 30 = 0 → q2 29 = 3 → q2 31 = 7237492 → q2 27 + 3 ≤ q2 28) ∧ (q 27 ≤ q2 27) ∧ (q2 30 = 0 → MB1 q2 (q2 14) (q2 15)) ∧ (q2 30 = 0 → q 27 < q2 27)) [0, 3, 4, 5, 6, 7, 8, 9, 10, 11, 12, 13, 14, 15, 16, 17, 18, 19, 20, 21, 22, 23, 24, 25, 26, 27, 28, 29, 30, 31]) [.ref a0].toArray s 0 0 (th_A T [0, 3, 4, 5, 6, 7, 8, 9, 10, 11, 12, 13, 14, 15, 16, 17, 18, 19, 20, 21, 22, 23, 24, 25, 26, 27, 28, 29, 30, 31])) (F0 m 0 ls []) := by
    intro H locs ls hH hS hl
    refine lv_aload_n hx hb dX11_readLine_0 rfl (lv_at hl 0 rfl) ?_
    refine th_getM S hK hH inG11 t0 km_0 rfl 10 (by decide) gm_1240 rfl rfl dX11_readLine_1 (fun v49 hv49 wv49 => ?_)
    obtain ⟨lg50, rfl⟩ := th_V.long hv49
    have klg50 : lg50.toInt = q 31 := by obtain ⟨vs, z1, z2⟩ := wv49; exact z2 _ z1
    refine lv_lstore_n (lv' := [(1, .long lg50), (0, .ref a0)]) hx hb dX11_readLine_4 rfl hl (by decide) rfl (fun ls hl => ?_)
    refine lv_aload_n hx hb dX11_readLine_5 rfl (lv_at hl 1 rfl) ?_
    refine th_get S hK hH inG11 t0 km_0 rfl 8 (by decide) gm_1238 rfl rfl dX11_readLine_6 (fun v51 hv51 fv51 => ?_)
    obtain ⟨x52, rfl, ix52⟩ := th_V.int hv51
    have kx52a : q 29 ≤ x52.toInt := ix52.1
    have kx52b : x52.toInt ≤ q 29 := ix52.2
    have bx52 := qkm_29 hq
    have ix52 : IV x52 0 5 := iv_w ix52 (qkm_29 hq)
    refine lv_iconst (v := 3) hx hb dX11_readLine_9 (by decide) ?_
    refine lv_icmp_ne (tgt := 20) hx hb dX11_readLine_10 (by decide) (fun c53 => ?_) (fun c53 => ?_)
    · skip
      have rlc53 : x52.toInt ≠ (3 : Int) := iv_ne c53
      refine lv_aload_n hx hb dX11_readLine_20 rfl (lv_at hl 1 rfl) ?_
      refine th_callVM (n := 0) (As := []) S hK hH hS (th_A.sub (by decide)) (m_X11_misplaced l D cT T q hT hq a0 t0) gm_1503 gm_1500 gm_1502 gm_53 gm_124 (by decide +kernel) ⟨rfl, rfl, Nat.le_of_ble_eq_true rfl, Nat.le_of_ble_eq_true rfl⟩ t0 km_0 rfl rfl hl.1 rfl (Nat.le_of_ble_eq_true rfl) dX11_readLine_21 ⟨Nat.zero_le _, Nat.zero_le _⟩ (fun wq54 q54 H locs hEq54 hH hS hF1 => ?_)
      obtain ⟨rfl, hqq54, g0q54, pq54_0⟩ := hEq54
      show W p l e (rmk 7 151) s m [.ref a0].toArray below meth c H locs 0 0 (MQ below (th_QM D cT T (fun v q2 => v = none ∧ qkm q2 ∧ fr [14, 15, 17, 19, 20, 21, 22, 23, 24, 27, 28, 29, 30, 31, 1000, 35] q q2 ∧ ((q2 29 = 0 ∧ q2 27 = q2 26 ∧ q2 28 = q2 26) ∨ (1 ≤ q2 29 ∧ q2 27 < q2 28 ∧ q2 28 ≤ q2 26)) ∧ (q2 30 = 0 → NL q2) ∧ (q2 30 = 0 → q2 29 = 3 → q2 31 = 7237492 → q2 27 + 3 ≤ q2 28) ∧ (q 27 ≤ q2 27) ∧ (q2 30 = 0 → MB1 q2 (q2 14) (q2 15)) ∧ (q2 30 = 0 → q 27 < q2 27)) [0, 3, 4, 5, 6, 7, 8, 9, 10, 11, 12, 13, 14, 15, 16, 17, 18, 19, 20, 21, 22, 23, 24, 25, 26, 27, 28, 29, 30, 31]) [.ref a0].toArray s 0 0 (th_A T [0, 3, 4, 5, 6, 7, 8, 9, 10, 11, 12, 13, 14, 15, 16, 17, 18, 19, 20, 21, 22, 23, 24, 25, 26, 27, 28, 29, 30, 31])) (F0 m 24 ls [])
      have pq54_0 : q54 30 ≠ 0 := pq54_0
      have wq54_10 : q54 10 = q 10 := g0q54 10 (by decide) (Or.inl (by decide))
      have wq54_13 : q54 13 = q 13 := g0q54 13 (by decide) (Or.inl (by decide))
      have wq54_14 : q54 14 = q 14 := g0q54 14 (by decide) (Or.inl (by decide))
      have wq54_15 : q54 15 = q 15 := g0q54 15 (by decide) (Or.inl (by decide))
      have wq54_17 : q54 17 = q 17 := g0q54 17 (by decide) (Or.inl (by decide))
      have wq54_19 : q54 19 = q 19 := g0q54 19 (by decide) (Or.inl (by decide))
      have wq54_20 : q54 20 = q 20 := g0q54 20 (by decide) (Or.inl (by decide))
      have wq54_21 : q54 21 = q 21 := g0q54 21 (by decide) (Or.inl (by decide))
      have wq54_22 : q54 22 = q 22 := g0q54 22 (by decide) (Or.inl (by decide))
      have wq54_23 : q54 23 = q 23 := g0q54 23 (by decide) (Or.inl (by decide))
      have wq54_24 : q54 24 = q 24 := g0q54 24 (by decide) (Or.inl (by decide))
      have wq54_26 : q54 26 = q 26 := g0q54 26 (by decide) (Or.inl (by decide))
      have wq54_27 : q54 27 = q 27 := g0q54 27 (by decide) (Or.inl (by decide))
      have wq54_28 : q54 28 = q 28 := g0q54 28 (by decide) (Or.inl (by decide))
      have wq54_29 : q54 29 = q 29 := g0q54 29 (by decide) (Or.inl (by decide))
      have wq54_31 : q54 31 = q 31 := g0q54 31 (by decide) (Or.inl (by decide))
      have wq54_35 : q54 35 = q 35 := g0q54 35 (by decide) (Or.inl (by decide))
      have h0q54 : fr [14, 15, 17, 19, 20, 21, 22, 23, 24, 27, 28, 29, 30, 31, 1000, 35] q q54 := fr_tr fr_rf g0q54 (by decide)
      have bgq54 : bg q q54 := bg_fr bg_rf g0q54 (by decide)
      have txq54 : tx q q54 := tx_tr tx_rf (tx_bg (bg_fr bg_rf g0q54 (by decide)))
      refine lv_aload_n hx hb dX11_readLine_24 rfl (lv_at hl 1 rfl) ?_
      refine th_callVp (n := 0) (As := []) S hK hH hS (th_A.sub (by decide)) (m_X11_isGood l D cT T q54 hT hqq54 a0 t0) gm_1487 gm_1484 gm_1486 gm_49 gm_124 (by decide +kernel) ⟨rfl, rfl, Nat.le_of_ble_eq_true rfl, Nat.le_of_ble_eq_true rfl⟩ t0 km_0 rfl rfl hl.1 rfl (Nat.le_of_ble_eq_true rfl) dX11_readLine_25 ⟨Nat.zero_le _, Nat.zero_le _⟩ (fun x55 H locs ix55 ox55 hH hS hF1 => ?_)
      obtain ⟨ox55_0, ox55_1⟩ := ox55
      have ox55_0 : x55.toInt ≠ 0 → q54 30 = 0 := ox55_0
      have ox55_1 : x55.toInt = 0 → q54 30 ≠ 0 := ox55_1
      have l1x55 := ix55.1; have l2x55 := ix55.2
      refine lv_if_ne (tgt := 32) hx hb dX11_readLine_28 (by decide) (fun c56 => ?_) (fun c56 => ?_)
      · skip
        have rlc56 : x55.toInt ≠ (0 : Int) := iv_ne c56
        have ir57 : IV x55 1 1 := iv_cutL ix55 (iv_c (by decide) : IV 0 0 0) c56 (by decide)
        have ir57a := ir57.1; have ir57b := ir57.2
        exfalso; omega
      · skip
        have rlc56 : x55.toInt = (0 : Int) := congrArg Int32.toInt c56
        have ir58 : IV x55 0 0 := iv_eL c56 (iv_c (by decide) : IV 0 0 0)
        have ir58a := ir58.1; have ir58b := ir58.2
        exact th_vretM S hK hH hS hr hlocks ⟨rfl, hqq54, h0q54, (show (q54 29 = 0 ∧ q54 27 = q54 26 ∧ q54 28 = q54 26) ∨ (1 ≤ q54 29 ∧ q54 27 < q54 28 ∧ q54 28 ≤ q54 26) by omega), (show q54 30 = 0 → NL q54 by exact (fun z => NL_tx (hp2 (by omega)) txq54 (by omega) (by omega) (by omega))), (show q54 30 = 0 → q54 29 = 3 → q54 31 = 7237492 → q54 27 + 3 ≤ q54 28 by omega), (show q 27 ≤ q54 27 by omega), (show q54 30 = 0 → MB1 q54 (q54 14) (q54 15) by exact (fun z => MB1_mv (mb0 (by omega)) bgq54 (by omega) (by omega) (by omega) (by omega) (by omega) (by omega) (by omega))), (show q54 30 = 0 → q 27 < q54 27 by omega)⟩ dX11_readLine_31
    · skip
      have rlc53 : x52.toInt = (3 : Int) := congrArg Int32.toInt c53
      have ir59 : IV x52 3 3 := iv_eL c53 (iv_c (by decide) : IV 3 3 3)
      have ir59a := ir59.1; have ir59b := ir59.2
      refine lv_aload_n hx hb dX11_readLine_13 rfl (lv_at hl 1 rfl) ?_
      refine th_callVp (n := 0) (As := []) S hK hH hS (th_A.sub (by decide)) (m_X11_isFull l D cT T q hT hq a0 t0 (show q 13 = 1 - q 10 by omega)) gm_1495 gm_1492 gm_1494 gm_51 gm_124 (by decide +kernel) ⟨rfl, rfl, Nat.le_of_ble_eq_true rfl, Nat.le_of_ble_eq_true rfl⟩ t0 km_0 rfl rfl hl.1 rfl (Nat.le_of_ble_eq_true rfl) dX11_readLine_14 ⟨Nat.zero_le _, Nat.zero_le _⟩ (fun x60 H locs ix60 ox60 hH hS hF1 => ?_)
      have ox60 : x60.toInt = 0 → q 29 = 3 → (q 31 = 1718579044 → q 17 ≤ 2) ∧ (q 31 = 7168368 → q 14 ≤ 3) ∧ (q 31 = 482854658917 → q 19 ≤ 7) := ox60
      have l1x60 := ix60.1; have l2x60 := ix60.2
      refine lv_if_eq (tgt := 24) hx hb dX11_readLine_17 (by decide) (fun c61 => ?_) (fun c61 => ?_)
      · skip
        have rlc61 : x60.toInt = (0 : Int) := congrArg Int32.toInt c61
        have ir62 : IV x60 0 0 := iv_eL c61 (iv_c (by decide) : IV 0 0 0)
        have ir62a := ir62.1; have ir62b := ir62.2
        refine lv_aload_n hx hb dX11_readLine_24 rfl (lv_at hl 1 rfl) ?_
        refine th_callVp (n := 0) (As := []) S hK hH hS (th_A.sub (by decide)) (m_X11_isGood l D cT T q hT hq a0 t0) gm_1487 gm_1484 gm_1486 gm_49 gm_124 (by decide +kernel) ⟨rfl, rfl, Nat.le_of_ble_eq_true rfl, Nat.le_of_ble_eq_true rfl⟩ t0 km_0 rfl rfl hl.1 rfl (Nat.le_of_ble_eq_true rfl) dX11_readLine_25 ⟨Nat.zero_le _, Nat.zero_le _⟩ (fun x63 H locs ix63 ox63 hH hS hF1 => ?_)
        obtain ⟨ox63_0, ox63_1⟩ := ox63
        have ox63_0 : x63.toInt ≠ 0 → q 30 = 0 := ox63_0
        have ox63_1 : x63.toInt = 0 → q 30 ≠ 0 := ox63_1
        have l1x63 := ix63.1; have l2x63 := ix63.2
        refine lv_if_ne (tgt := 32) hx hb dX11_readLine_28 (by decide) (fun c64 => ?_) (fun c64 => ?_)
        · skip
          have rlc64 : x63.toInt ≠ (0 : Int) := iv_ne c64
          have ir65 : IV x63 1 1 := iv_cutL ix63 (iv_c (by decide) : IV 0 0 0) c64 (by decide)
          have ir65a := ir65.1; have ir65b := ir65.2
          refine lv_aload_n hx hb dX11_readLine_32 rfl (lv_at hl 1 rfl) ?_
          refine th_callVM (n := 0) (As := []) S hK hH hS (th_A.sub (by decide)) (m_X11_goOn l D cT T q hT hq a0 t0 (show q 28 ≤ q 26 by omega)) gm_1445 gm_1442 gm_1444 gm_47 gm_124 (by decide +kernel) ⟨rfl, rfl, Nat.le_of_ble_eq_true rfl, Nat.le_of_ble_eq_true rfl⟩ t0 km_0 rfl rfl hl.1 rfl (Nat.le_of_ble_eq_true rfl) dX11_readLine_33 ⟨Nat.zero_le _, Nat.zero_le _⟩ (fun wq66 q66 H locs hEq66 hH hS hF1 => ?_)
          obtain ⟨rfl, hqq66, g0q66, pq66_0, pq66_1, pq66_2, pq66_3, pq66_4⟩ := hEq66
          show W p l e (rmk 7 151) s m [.ref a0].toArray below meth c H locs 0 0 (MQ below (th_QM D cT T (fun v q2 => v = none ∧ qkm q2 ∧ fr [14, 15, 17, 19, 20, 21, 22, 23, 24, 27, 28, 29, 30, 31, 1000, 35] q q2 ∧ ((q2 29 = 0 ∧ q2 27 = q2 26 ∧ q2 28 = q2 26) ∨ (1 ≤ q2 29 ∧ q2 27 < q2 28 ∧ q2 28 ≤ q2 26)) ∧ (q2 30 = 0 → NL q2) ∧ (q2 30 = 0 → q2 29 = 3 → q2 31 = 7237492 → q2 27 + 3 ≤ q2 28) ∧ (q 27 ≤ q2 27) ∧ (q2 30 = 0 → MB1 q2 (q2 14) (q2 15)) ∧ (q2 30 = 0 → q 27 < q2 27)) [0, 3, 4, 5, 6, 7, 8, 9, 10, 11, 12, 13, 14, 15, 16, 17, 18, 19, 20, 21, 22, 23, 24, 25, 26, 27, 28, 29, 30, 31]) [.ref a0].toArray s 0 0 (th_A T [0, 3, 4, 5, 6, 7, 8, 9, 10, 11, 12, 13, 14, 15, 16, 17, 18, 19, 20, 21, 22, 23, 24, 25, 26, 27, 28, 29, 30, 31])) (F0 m 36 ls [])
          have pq66_0 : (q66 29 = 0 ∧ q66 27 = q66 26 ∧ q66 28 = q66 26) ∨ (1 ≤ q66 29 ∧ q66 27 < q66 28 ∧ q66 28 ≤ q66 26) := pq66_0
          have pq66_1 : q66 29 = 3 → sg q66 (q66 28) < 97 ∨ 122 < sg q66 (q66 28) := pq66_1
          have pq66_2 : q66 29 = 3 → q66 31 = 7237492 → q66 27 + 3 ≤ q66 28 := pq66_2
          have pq66_3 : q 28 ≤ q66 27 := pq66_3
          have pq66_4 : q66 29 = 3 → 97 ≤ sg q (q66 27) ∧ sg q (q66 27) ≤ 122 := pq66_4
          have wq66_10 : q66 10 = q 10 := g0q66 10 (by decide) (Or.inl (by decide))
          have wq66_13 : q66 13 = q 13 := g0q66 13 (by decide) (Or.inl (by decide))
          have wq66_14 : q66 14 = q 14 := g0q66 14 (by decide) (Or.inl (by decide))
          have wq66_15 : q66 15 = q 15 := g0q66 15 (by decide) (Or.inl (by decide))
          have wq66_17 : q66 17 = q 17 := g0q66 17 (by decide) (Or.inl (by decide))
          have wq66_19 : q66 19 = q 19 := g0q66 19 (by decide) (Or.inl (by decide))
          have wq66_20 : q66 20 = q 20 := g0q66 20 (by decide) (Or.inl (by decide))
          have wq66_21 : q66 21 = q 21 := g0q66 21 (by decide) (Or.inl (by decide))
          have wq66_22 : q66 22 = q 22 := g0q66 22 (by decide) (Or.inl (by decide))
          have wq66_23 : q66 23 = q 23 := g0q66 23 (by decide) (Or.inl (by decide))
          have wq66_24 : q66 24 = q 24 := g0q66 24 (by decide) (Or.inl (by decide))
          have wq66_26 : q66 26 = q 26 := g0q66 26 (by decide) (Or.inl (by decide))
          have wq66_30 : q66 30 = q 30 := g0q66 30 (by decide) (Or.inl (by decide))
          have wq66_35 : q66 35 = q 35 := g0q66 35 (by decide) (Or.inl (by decide))
          have h0q66 : fr [14, 15, 17, 19, 20, 21, 22, 23, 24, 27, 28, 29, 30, 31, 1000, 35] q q66 := fr_tr fr_rf g0q66 (by decide)
          have bgq66 : bg q q66 := bg_fr bg_rf g0q66 (by decide)
          have nlq66 : q66 30 = 0 → NL q66 := fun _ => pq66_1
          have f14 := qkm_14 hqq66
          refine lv_lload_n hx hb dX11_readLine_36 rfl (lv_at hl 0 rfl) ?_
          refine lv_ldc2 (v := 1718579044) hx hb S.2.2.2.1 (S.2.2.2.2 _ gm_1456) dX11_readLine_37 ?_
          refine W.lcmp hx hb dX11_readLine_40 ?_
          refine lv_topi (fun x67 ex67 => ?_)
          have ix67 := iv_top x67
          have ax67 : x67.toInt = 0 → lg50.toInt = (1718579044 : Int) := lc_eq ex67
          have bx67 : x67.toInt ≠ 0 → lg50.toInt ≠ (1718579044 : Int) := lc_ne ex67
          refine lv_if_ne (tgt := 48) hx hb dX11_readLine_41 (by decide) (fun c68 => ?_) (fun c68 => ?_)
          · skip
            have rlc68 : x67.toInt ≠ (0 : Int) := iv_ne c68
            exact J48 q66 H locs ls lg50 hqq66 h0q66 (show (q66 29 = 0 ∧ q66 27 = q66 26 ∧ q66 28 = q66 26) ∨ (1 ≤ q66 29 ∧ q66 27 < q66 28 ∧ q66 28 ≤ q66 26) by omega) (show q66 30 = 0 → NL q66 by exact nlq66) (show q66 30 = 0 → q66 29 = 3 → q66 31 = 7237492 → q66 27 + 3 ≤ q66 28 by omega) (show q66 30 = 0 → MB1 q66 (q66 14) (q66 15) by exact (fun z => MB1_mv (mb0 (by omega)) bgq66 (by omega) (by omega) (by omega) (by omega) (by omega) (by omega) (by omega))) (show q 27 < q66 27 ∧ q66 14 ≤ 4 by omega) (show lg50.toInt = 7168368 → q66 14 ≤ 3 ∧ q66 30 = 0 by omega) (show lg50.toInt = 482854658917 → q66 19 ≤ 7 by omega) (show lg50.toInt = 499851162725 → q66 30 = 0 by omega) hH hS (lv_sub hl [1, 0] rfl)
          · skip
            have rlc68 : x67.toInt = (0 : Int) := congrArg Int32.toInt c68
            have ir69 : IV x67 0 0 := iv_eL c68 (iv_c (by decide) : IV 0 0 0)
            have ir69a := ir69.1; have ir69b := ir69.2
            refine lv_aload_n hx hb dX11_readLine_44 rfl (lv_at hl 1 rfl) ?_
            refine th_callVM (n := 0) (As := []) S hK hH hS (th_A.sub (by decide)) (m_X11_readFood l D cT T q66 hT hqq66 a0 t0 (show (q66 29 = 0 ∧ q66 27 = q66 26 ∧ q66 28 = q66 26) ∨ (1 ≤ q66 29 ∧ q66 27 < q66 28 ∧ q66 28 ≤ q66 26) by omega) (show q66 13 = 1 - q66 10 by omega) (show q66 30 = 0 → NL q66 by exact nlq66) (show q66 30 = 0 → q66 29 = 3 → q66 31 = 7237492 → q66 27 + 3 ≤ q66 28 by omega) (show q66 17 ≤ 2 by omega)) gm_1511 gm_1508 gm_1510 gm_55 gm_124 (by decide +kernel) ⟨rfl, rfl, Nat.le_of_ble_eq_true rfl, Nat.le_of_ble_eq_true rfl⟩ t0 km_0 rfl rfl hl.1 rfl (Nat.le_of_ble_eq_true rfl) dX11_readLine_45 ⟨Nat.zero_le _, Nat.zero_le _⟩ (fun wq70 q70 H locs hEq70 hH hS hF1 => ?_)
            obtain ⟨rfl, hqq70, g0q70, pq70_0, pq70_1, pq70_2, pq70_3, pq70_4⟩ := hEq70
            show W p l e (rmk 7 151) s m [.ref a0].toArray below meth c H locs 0 0 (MQ below (th_QM D cT T (fun v q2 => v = none ∧ qkm q2 ∧ fr [14, 15, 17, 19, 20, 21, 22, 23, 24, 27, 28, 29, 30, 31, 1000, 35] q q2 ∧ ((q2 29 = 0 ∧ q2 27 = q2 26 ∧ q2 28 = q2 26) ∨ (1 ≤ q2 29 ∧ q2 27 < q2 28 ∧ q2 28 ≤ q2 26)) ∧ (q2 30 = 0 → NL q2) ∧ (q2 30 = 0 → q2 29 = 3 → q2 31 = 7237492 → q2 27 + 3 ≤ q2 28) ∧ (q 27 ≤ q2 27) ∧ (q2 30 = 0 → MB1 q2 (q2 14) (q2 15)) ∧ (q2 30 = 0 → q 27 < q2 27)) [0, 3, 4, 5, 6, 7, 8, 9, 10, 11, 12, 13, 14, 15, 16, 17, 18, 19, 20, 21, 22, 23, 24, 25, 26, 27, 28, 29, 30, 31]) [.ref a0].toArray s 0 0 (th_A T [0, 3, 4, 5, 6, 7, 8, 9, 10, 11, 12, 13, 14, 15, 16, 17, 18, 19, 20, 21, 22, 23, 24, 25, 26, 27, 28, 29, 30, 31])) (F0 m 48 ls [])
            have pq70_0 : (q70 29 = 0 ∧ q70 27 = q70 26 ∧ q70 28 = q70 26) ∨ (1 ≤ q70 29 ∧ q70 27 < q70 28 ∧ q70 28 ≤ q70 26) := pq70_0
            have pq70_1 : q70 30 = 0 → NL q70 := pq70_1
            have pq70_2 : q70 30 = 0 → q70 29 = 3 → q70 31 = 7237492 → q70 27 + 3 ≤ q70 28 := pq70_2
            have pq70_3 : q66 27 ≤ q70 27 := pq70_3
            have pq70_4 : q70 30 = 0 → q66 30 = 0 := pq70_4
            have wq70_10 : q70 10 = q66 10 := g0q70 10 (by decide) (Or.inl (by decide))
            have wq70_13 : q70 13 = q66 13 := g0q70 13 (by decide) (Or.inl (by decide))
            have wq70_14 : q70 14 = q66 14 := g0q70 14 (by decide) (Or.inl (by decide))
            have wq70_15 : q70 15 = q66 15 := g0q70 15 (by decide) (Or.inl (by decide))
            have wq70_19 : q70 19 = q66 19 := g0q70 19 (by decide) (Or.inl (by decide))
            have wq70_20 : q70 20 = q66 20 := g0q70 20 (by decide) (Or.inl (by decide))
            have wq70_21 : q70 21 = q66 21 := g0q70 21 (by decide) (Or.inl (by decide))
            have wq70_22 : q70 22 = q66 22 := g0q70 22 (by decide) (Or.inl (by decide))
            have wq70_23 : q70 23 = q66 23 := g0q70 23 (by decide) (Or.inl (by decide))
            have wq70_24 : q70 24 = q66 24 := g0q70 24 (by decide) (Or.inl (by decide))
            have wq70_26 : q70 26 = q66 26 := g0q70 26 (by decide) (Or.inl (by decide))
            have wq70_35 : q70 35 = q66 35 := g0q70 35 (by decide) (Or.inl (by decide))
            have h0q70 : fr [14, 15, 17, 19, 20, 21, 22, 23, 24, 27, 28, 29, 30, 31, 1000, 35] q q70 := fr_tr h0q66 g0q70 (by decide)
            have bgq70 : bg q q70 := bg_fr bgq66 g0q70 (by decide)
            have nlq70 : q70 30 = 0 → NL q70 := pq70_1
            have f14 := qkm_14 hqq70
            exact J48 q70 H locs ls lg50 hqq70 h0q70 (show (q70 29 = 0 ∧ q70 27 = q70 26 ∧ q70 28 = q70 26) ∨ (1 ≤ q70 29 ∧ q70 27 < q70 28 ∧ q70 28 ≤ q70 26) by omega) (show q70 30 = 0 → NL q70 by exact nlq70) (show q70 30 = 0 → q70 29 = 3 → q70 31 = 7237492 → q70 27 + 3 ≤ q70 28 by omega) (show q70 30 = 0 → MB1 q70 (q70 14) (q70 15) by exact (fun z => MB1_mv (mb0 (by omega)) bgq70 (by omega) (by omega) (by omega) (by omega) (by omega) (by omega) (by omega))) (show q 27 < q70 27 ∧ q70 14 ≤ 4 by omega) (show lg50.toInt = 7168368 → q70 14 ≤ 3 ∧ q70 30 = 0 by omega) (show lg50.toInt = 482854658917 → q70 19 ≤ 7 by omega) (show lg50.toInt = 499851162725 → q70 30 = 0 by omega) hH hS (lv_sub hl [1, 0] rfl)
        · skip
          have rlc64 : x63.toInt = (0 : Int) := congrArg Int32.toInt c64
          have ir71 : IV x63 0 0 := iv_eL c64 (iv_c (by decide) : IV 0 0 0)
          have ir71a := ir71.1; have ir71b := ir71.2
          exact th_vretM S hK hH hS hr hlocks ⟨rfl, hq, fr_rf, (show (q 29 = 0 ∧ q 27 = q 26 ∧ q 28 = q 26) ∨ (1 ≤ q 29 ∧ q 27 < q 28 ∧ q 28 ≤ q 26) by omega), (show q 30 = 0 → NL q by exact hp2), (show q 30 = 0 → q 29 = 3 → q 31 = 7237492 → q 27 + 3 ≤ q 28 by omega), (show q 27 ≤ q 27 by omega), (show q 30 = 0 → MB1 q (q 14) (q 15) by exact mb0), (show q 30 = 0 → q 27 < q 27 by omega)⟩ dX11_readLine_31
      · skip
        have rlc61 : x60.toInt ≠ (0 : Int) := iv_ne c61
        have ir72 : IV x60 1 1 := iv_cutL ix60 (iv_c (by decide) : IV 0 0 0) c61 (by decide)
        have ir72a := ir72.1; have ir72b := ir72.2
        refine lv_aload_n hx hb dX11_readLine_20 rfl (lv_at hl 1 rfl) ?_
        refine th_callVM (n := 0) (As := []) S hK hH hS (th_A.sub (by decide)) (m_X11_misplaced l D cT T q hT hq a0 t0) gm_1503 gm_1500 gm_1502 gm_53 gm_124 (by decide +kernel) ⟨rfl, rfl, Nat.le_of_ble_eq_true rfl, Nat.le_of_ble_eq_true rfl⟩ t0 km_0 rfl rfl hl.1 rfl (Nat.le_of_ble_eq_true rfl) dX11_readLine_21 ⟨Nat.zero_le _, Nat.zero_le _⟩ (fun wq73 q73 H locs hEq73 hH hS hF1 => ?_)
        obtain ⟨rfl, hqq73, g0q73, pq73_0⟩ := hEq73
        show W p l e (rmk 7 151) s m [.ref a0].toArray below meth c H locs 0 0 (MQ below (th_QM D cT T (fun v q2 => v = none ∧ qkm q2 ∧ fr [14, 15, 17, 19, 20, 21, 22, 23, 24, 27, 28, 29, 30, 31, 1000, 35] q q2 ∧ ((q2 29 = 0 ∧ q2 27 = q2 26 ∧ q2 28 = q2 26) ∨ (1 ≤ q2 29 ∧ q2 27 < q2 28 ∧ q2 28 ≤ q2 26)) ∧ (q2 30 = 0 → NL q2) ∧ (q2 30 = 0 → q2 29 = 3 → q2 31 = 7237492 → q2 27 + 3 ≤ q2 28) ∧ (q 27 ≤ q2 27) ∧ (q2 30 = 0 → MB1 q2 (q2 14) (q2 15)) ∧ (q2 30 = 0 → q 27 < q2 27)) [0, 3, 4, 5, 6, 7, 8, 9, 10, 11, 12, 13, 14, 15, 16, 17, 18, 19, 20, 21, 22, 23, 24, 25, 26, 27, 28, 29, 30, 31]) [.ref a0].toArray s 0 0 (th_A T [0, 3, 4, 5, 6, 7, 8, 9, 10, 11, 12, 13, 14, 15, 16, 17, 18, 19, 20, 21, 22, 23, 24, 25, 26, 27, 28, 29, 30, 31])) (F0 m 24 ls [])
        have pq73_0 : q73 30 ≠ 0 := pq73_0
        have wq73_10 : q73 10 = q 10 := g0q73 10 (by decide) (Or.inl (by decide))
        have wq73_13 : q73 13 = q 13 := g0q73 13 (by decide) (Or.inl (by decide))
        have wq73_14 : q73 14 = q 14 := g0q73 14 (by decide) (Or.inl (by decide))
        have wq73_15 : q73 15 = q 15 := g0q73 15 (by decide) (Or.inl (by decide))
        have wq73_17 : q73 17 = q 17 := g0q73 17 (by decide) (Or.inl (by decide))
        have wq73_19 : q73 19 = q 19 := g0q73 19 (by decide) (Or.inl (by decide))
        have wq73_20 : q73 20 = q 20 := g0q73 20 (by decide) (Or.inl (by decide))
        have wq73_21 : q73 21 = q 21 := g0q73 21 (by decide) (Or.inl (by decide))
        have wq73_22 : q73 22 = q 22 := g0q73 22 (by decide) (Or.inl (by decide))
        have wq73_23 : q73 23 = q 23 := g0q73 23 (by decide) (Or.inl (by decide))
        have wq73_24 : q73 24 = q 24 := g0q73 24 (by decide) (Or.inl (by decide))
        have wq73_26 : q73 26 = q 26 := g0q73 26 (by decide) (Or.inl (by decide))
        have wq73_27 : q73 27 = q 27 := g0q73 27 (by decide) (Or.inl (by decide))
        have wq73_28 : q73 28 = q 28 := g0q73 28 (by decide) (Or.inl (by decide))
        have wq73_29 : q73 29 = q 29 := g0q73 29 (by decide) (Or.inl (by decide))
        have wq73_31 : q73 31 = q 31 := g0q73 31 (by decide) (Or.inl (by decide))
        have wq73_35 : q73 35 = q 35 := g0q73 35 (by decide) (Or.inl (by decide))
        have h0q73 : fr [14, 15, 17, 19, 20, 21, 22, 23, 24, 27, 28, 29, 30, 31, 1000, 35] q q73 := fr_tr fr_rf g0q73 (by decide)
        have bgq73 : bg q q73 := bg_fr bg_rf g0q73 (by decide)
        have txq73 : tx q q73 := tx_tr tx_rf (tx_bg (bg_fr bg_rf g0q73 (by decide)))
        refine lv_aload_n hx hb dX11_readLine_24 rfl (lv_at hl 1 rfl) ?_
        refine th_callVp (n := 0) (As := []) S hK hH hS (th_A.sub (by decide)) (m_X11_isGood l D cT T q73 hT hqq73 a0 t0) gm_1487 gm_1484 gm_1486 gm_49 gm_124 (by decide +kernel) ⟨rfl, rfl, Nat.le_of_ble_eq_true rfl, Nat.le_of_ble_eq_true rfl⟩ t0 km_0 rfl rfl hl.1 rfl (Nat.le_of_ble_eq_true rfl) dX11_readLine_25 ⟨Nat.zero_le _, Nat.zero_le _⟩ (fun x74 H locs ix74 ox74 hH hS hF1 => ?_)
        obtain ⟨ox74_0, ox74_1⟩ := ox74
        have ox74_0 : x74.toInt ≠ 0 → q73 30 = 0 := ox74_0
        have ox74_1 : x74.toInt = 0 → q73 30 ≠ 0 := ox74_1
        have l1x74 := ix74.1; have l2x74 := ix74.2
        refine lv_if_ne (tgt := 32) hx hb dX11_readLine_28 (by decide) (fun c75 => ?_) (fun c75 => ?_)
        · skip
          have rlc75 : x74.toInt ≠ (0 : Int) := iv_ne c75
          have ir76 : IV x74 1 1 := iv_cutL ix74 (iv_c (by decide) : IV 0 0 0) c75 (by decide)
          have ir76a := ir76.1; have ir76b := ir76.2
          exfalso; omega
        · skip
          have rlc75 : x74.toInt = (0 : Int) := congrArg Int32.toInt c75
          have ir77 : IV x74 0 0 := iv_eL c75 (iv_c (by decide) : IV 0 0 0)
          have ir77a := ir77.1; have ir77b := ir77.2
          exact th_vretM S hK hH hS hr hlocks ⟨rfl, hqq73, h0q73, (show (q73 29 = 0 ∧ q73 27 = q73 26 ∧ q73 28 = q73 26) ∨ (1 ≤ q73 29 ∧ q73 27 < q73 28 ∧ q73 28 ≤ q73 26) by omega), (show q73 30 = 0 → NL q73 by exact (fun z => NL_tx (hp2 (by omega)) txq73 (by omega) (by omega) (by omega))), (show q73 30 = 0 → q73 29 = 3 → q73 31 = 7237492 → q73 27 + 3 ≤ q73 28 by omega), (show q 27 ≤ q73 27 by omega), (show q73 30 = 0 → MB1 q73 (q73 14) (q73 15) by exact (fun z => MB1_mv (mb0 (by omega)) bgq73 (by omega) (by omega) (by omega) (by omega) (by omega) (by omega) (by omega))), (show q73 30 = 0 → q 27 < q73 27 by omega)⟩ dX11_readLine_31
  exact J0 s.heap [] ls hH va_S.rf hl
