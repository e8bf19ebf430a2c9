theorem dX11_readMap_0 : decode cX11_readMap 0 = .ok (.aload_n 0, 1) := by decide +kernel
theorem dX11_readMap_1 : decode cX11_readMap 1 = .ok (.getfield 24, 3) := by decide +kernel
theorem dX11_readMap_4 : decode cX11_readMap 4 = .ok (.aload_n 0, 1) := by decide +kernel
theorem dX11_readMap_5 : decode cX11_readMap 5 = .ok (.getfield 264, 3) := by decide +kernel
theorem dX11_readMap_8 : decode cX11_readMap 8 = .ok (.iaload, 1) := by decide +kernel
theorem dX11_readMap_9 : decode cX11_readMap 9 = .ok (.istore_n 1, 1) := by decide +kernel
theorem dX11_readMap_10 : decode cX11_readMap 10 = .ok (.iconst 4, 1) := by decide +kernel
theorem dX11_readMap_11 : decode cX11_readMap 11 = .ok (.aload_n 0, 1) := by decide +kernel
theorem dX11_readMap_12 : decode cX11_readMap 12 = .ok (.getfield 264, 3) := by decide +kernel
theorem dX11_readMap_15 : decode cX11_readMap 15 = .ok (.imul, 1) := by decide +kernel
theorem dX11_readMap_16 : decode cX11_readMap 16 = .ok (.iload_n 1, 1) := by decide +kernel
theorem dX11_readMap_17 : decode cX11_readMap 17 = .ok (.iadd, 1) := by decide +kernel
theorem dX11_readMap_18 : decode cX11_readMap 18 = .ok (.istore_n 2, 1) := by decide +kernel
theorem dX11_readMap_19 : decode cX11_readMap 19 = .ok (.aload_n 0, 1) := by decide +kernel
theorem dX11_readMap_20 : decode cX11_readMap 20 = .ok (.getfield 92, 3) := by decide +kernel
theorem dX11_readMap_23 : decode cX11_readMap 23 = .ok (.iload_n 2, 1) := by decide +kernel
theorem dX11_readMap_24 : decode cX11_readMap 24 = .ok (.aload_n 0, 1) := by decide +kernel
theorem dX11_readMap_25 : decode cX11_readMap 25 = .ok (.aload_n 0, 1) := by decide +kernel
theorem dX11_readMap_26 : decode cX11_readMap 26 = .ok (.invokevirtual 316, 3) := by decide +kernel
theorem dX11_readMap_29 : decode cX11_readMap 29 = .ok (.invokevirtual 312, 3) := by decide +kernel
theorem dX11_readMap_32 : decode cX11_readMap 32 = .ok (.lastore, 1) := by decide +kernel
theorem dX11_readMap_33 : decode cX11_readMap 33 = .ok (.aload_n 0, 1) := by decide +kernel
theorem dX11_readMap_34 : decode cX11_readMap 34 = .ok (.getfield 45, 3) := by decide +kernel
theorem dX11_readMap_37 : decode cX11_readMap 37 = .ok (.iload_n 2, 1) := by decide +kernel
theorem dX11_readMap_38 : decode cX11_readMap 38 = .ok (.aload_n 0, 1) := by decide +kernel
theorem dX11_readMap_39 : decode cX11_readMap 39 = .ok (.ldc2_w 165, 3) := by decide +kernel
theorem dX11_readMap_42 : decode cX11_readMap 42 = .ok (.iconst 1, 1) := by decide +kernel
theorem dX11_readMap_43 : decode cX11_readMap 43 = .ok (.bipush 9, 2) := by decide +kernel
theorem dX11_readMap_45 : decode cX11_readMap 45 = .ok (.invokevirtual 319, 3) := by decide +kernel
theorem dX11_readMap_48 : decode cX11_readMap 48 = .ok (.iastore, 1) := by decide +kernel
theorem dX11_readMap_49 : decode cX11_readMap 49 = .ok (.aload_n 0, 1) := by decide +kernel
theorem dX11_readMap_50 : decode cX11_readMap 50 = .ok (.aload_n 0, 1) := by decide +kernel
theorem dX11_readMap_51 : decode cX11_readMap 51 = .ok (.ldc2_w 167, 3) := by decide +kernel
theorem dX11_readMap_54 : decode cX11_readMap 54 = .ok (.invokevirtual 253, 3) := by decide +kernel
theorem dX11_readMap_57 : decode cX11_readMap 57 = .ok (.invokevirtual 256, 3) := by decide +kernel
theorem dX11_readMap_60 : decode cX11_readMap 60 = .ok (.aload_n 0, 1) := by decide +kernel
theorem dX11_readMap_61 : decode cX11_readMap 61 = .ok (.invokevirtual 243, 3) := by decide +kernel
theorem dX11_readMap_64 : decode cX11_readMap 64 = .ok (.ifCond .eq 8, 3) := by decide +kernel
theorem dX11_readMap_67 : decode cX11_readMap 67 = .ok (.aload_n 0, 1) := by decide +kernel
theorem dX11_readMap_68 : decode cX11_readMap 68 = .ok (.iload_n 1, 1) := by decide +kernel
theorem dX11_readMap_69 : decode cX11_readMap 69 = .ok (.invokevirtual 297, 3) := by decide +kernel
theorem dX11_readMap_72 : decode cX11_readMap 72 = .ok (.aload_n 0, 1) := by decide +kernel
theorem dX11_readMap_73 : decode cX11_readMap 73 = .ok (.getfield 48, 3) := by decide +kernel
theorem dX11_readMap_76 : decode cX11_readMap 76 = .ok (.iload_n 2, 1) := by decide +kernel
theorem dX11_readMap_77 : decode cX11_readMap 77 = .ok (.aload_n 0, 1) := by decide +kernel
theorem dX11_readMap_78 : decode cX11_readMap 78 = .ok (.invokevirtual 243, 3) := by decide +kernel
theorem dX11_readMap_81 : decode cX11_readMap 81 = .ok (.ifCond .eq 25, 3) := by decide +kernel
theorem dX11_readMap_84 : decode cX11_readMap 84 = .ok (.aload_n 0, 1) := by decide +kernel
theorem dX11_readMap_85 : decode cX11_readMap 85 = .ok (.ldc2_w 169, 3) := by decide +kernel
theorem dX11_readMap_88 : decode cX11_readMap 88 = .ok (.invokevirtual 253, 3) := by decide +kernel
theorem dX11_readMap_91 : decode cX11_readMap 91 = .ok (.ifCond .eq 15, 3) := by decide +kernel
theorem dX11_readMap_94 : decode cX11_readMap 94 = .ok (.aload_n 0, 1) := by decide +kernel
theorem dX11_readMap_95 : decode cX11_readMap 95 = .ok (.ldc2_w 169, 3) := by decide +kernel
theorem dX11_readMap_98 : decode cX11_readMap 98 = .ok (.iconst 0, 1) := by decide +kernel
theorem dX11_readMap_99 : decode cX11_readMap 99 = .ok (.iconst 3, 1) := by decide +kernel
theorem dX11_readMap_100 : decode cX11_readMap 100 = .ok (.invokevirtual 319, 3) := by decide +kernel
theorem dX11_readMap_103 : decode cX11_readMap 103 = .ok (.goto 4, 3) := by decide +kernel
theorem dX11_readMap_106 : decode cX11_readMap 106 = .ok (.iconst 0, 1) := by decide +kernel
theorem dX11_readMap_107 : decode cX11_readMap 107 = .ok (.iastore, 1) := by decide +kernel
theorem dX11_readMap_108 : decode cX11_readMap 108 = .ok (.aload_n 0, 1) := by decide +kernel
theorem dX11_readMap_109 : decode cX11_readMap 109 = .ok (.invokevirtual 243, 3) := by decide +kernel
theorem dX11_readMap_112 : decode cX11_readMap 112 = .ok (.ifCond .eq 32, 3) := by decide +kernel
theorem dX11_readMap_115 : decode cX11_readMap 115 = .ok (.aload_n 0, 1) := by decide +kernel
theorem dX11_readMap_116 : decode cX11_readMap 116 = .ok (.ldc2_w 171, 3) := by decide +kernel
theorem dX11_readMap_119 : decode cX11_readMap 119 = .ok (.invokevirtual 253, 3) := by decide +kernel
theorem dX11_readMap_122 : decode cX11_readMap 122 = .ok (.ifCond .eq 22, 3) := by decide +kernel
theorem dX11_readMap_125 : decode cX11_readMap 125 = .ok (.aload_n 0, 1) := by decide +kernel
theorem dX11_readMap_126 : decode cX11_readMap 126 = .ok (.getfield 51, 3) := by decide +kernel
theorem dX11_readMap_129 : decode cX11_readMap 129 = .ok (.aload_n 0, 1) := by decide +kernel
theorem dX11_readMap_130 : decode cX11_readMap 130 = .ok (.getfield 264, 3) := by decide +kernel
theorem dX11_readMap_133 : decode cX11_readMap 133 = .ok (.dup2, 1) := by decide +kernel
theorem dX11_readMap_134 : decode cX11_readMap 134 = .ok (.iaload, 1) := by decide +kernel
theorem dX11_readMap_135 : decode cX11_readMap 135 = .ok (.iconst 1, 1) := by decide +kernel
theorem dX11_readMap_136 : decode cX11_readMap 136 = .ok (.iload_n 1, 1) := by decide +kernel
theorem dX11_readMap_137 : decode cX11_readMap 137 = .ok (.ishl, 1) := by decide +kernel
theorem dX11_readMap_138 : decode cX11_readMap 138 = .ok (.ior, 1) := by decide +kernel
theorem dX11_readMap_139 : decode cX11_readMap 139 = .ok (.iastore, 1) := by decide +kernel
theorem dX11_readMap_140 : decode cX11_readMap 140 = .ok (.aload_n 0, 1) := by decide +kernel
theorem dX11_readMap_141 : decode cX11_readMap 141 = .ok (.invokevirtual 247, 3) := by decide +kernel
theorem dX11_readMap_144 : decode cX11_readMap 144 = .ok (.aload_n 0, 1) := by decide +kernel
theorem dX11_readMap_145 : decode cX11_readMap 145 = .ok (.getfield 54, 3) := by decide +kernel
theorem dX11_readMap_148 : decode cX11_readMap 148 = .ok (.iload_n 2, 1) := by decide +kernel
theorem dX11_readMap_149 : decode cX11_readMap 149 = .ok (.iconst 0, 1) := by decide +kernel
theorem dX11_readMap_150 : decode cX11_readMap 150 = .ok (.iastore, 1) := by decide +kernel
theorem dX11_readMap_151 : decode cX11_readMap 151 = .ok (.aload_n 0, 1) := by decide +kernel
theorem dX11_readMap_152 : decode cX11_readMap 152 = .ok (.getfield 69, 3) := by decide +kernel
theorem dX11_readMap_155 : decode cX11_readMap 155 = .ok (.iload_n 2, 1) := by decide +kernel
theorem dX11_readMap_156 : decode cX11_readMap 156 = .ok (.iconst 0, 1) := by decide +kernel
theorem dX11_readMap_157 : decode cX11_readMap 157 = .ok (.iastore, 1) := by decide +kernel
theorem dX11_readMap_158 : decode cX11_readMap 158 = .ok (.iconst 0, 1) := by decide +kernel
theorem dX11_readMap_159 : decode cX11_readMap 159 = .ok (.istore_n 3, 1) := by decide +kernel
theorem dX11_readMap_160 : decode cX11_readMap 160 = .ok (.iload_n 3, 1) := by decide +kernel
theorem dX11_readMap_161 : decode cX11_readMap 161 = .ok (.iconst 3, 1) := by decide +kernel
theorem dX11_readMap_162 : decode cX11_readMap 162 = .ok (.if_icmp .ge 20, 3) := by decide +kernel
theorem dX11_readMap_165 : decode cX11_readMap 165 = .ok (.aload_n 0, 1) := by decide +kernel
theorem dX11_readMap_166 : decode cX11_readMap 166 = .ok (.getfield 66, 3) := by decide +kernel
theorem dX11_readMap_169 : decode cX11_readMap 169 = .ok (.iconst 3, 1) := by decide +kernel
theorem dX11_readMap_170 : decode cX11_readMap 170 = .ok (.iload_n 2, 1) := by decide +kernel
theorem dX11_readMap_171 : decode cX11_readMap 171 = .ok (.imul, 1) := by decide +kernel
theorem dX11_readMap_172 : decode cX11_readMap 172 = .ok (.iload_n 3, 1) := by decide +kernel
theorem dX11_readMap_173 : decode cX11_readMap 173 = .ok (.iadd, 1) := by decide +kernel
theorem dX11_readMap_174 : decode cX11_readMap 174 = .ok (.iconst 1, 1) := by decide +kernel
theorem dX11_readMap_175 : decode cX11_readMap 175 = .ok (.iastore, 1) := by decide +kernel
theorem dX11_readMap_176 : decode cX11_readMap 176 = .ok (.iinc 3 1, 3) := by decide +kernel
theorem dX11_readMap_179 : decode cX11_readMap 179 = .ok (.goto (-19), 3) := by decide +kernel
theorem dX11_readMap_182 : decode cX11_readMap 182 = .ok (.aload_n 0, 1) := by decide +kernel
theorem dX11_readMap_183 : decode cX11_readMap 183 = .ok (.getfield 24, 3) := by decide +kernel
theorem dX11_readMap_186 : decode cX11_readMap 186 = .ok (.aload_n 0, 1) := by decide +kernel
theorem dX11_readMap_187 : decode cX11_readMap 187 = .ok (.getfield 264, 3) := by decide +kernel
theorem dX11_readMap_190 : decode cX11_readMap 190 = .ok (.dup2, 1) := by decide +kernel
theorem dX11_readMap_191 : decode cX11_readMap 191 = .ok (.iaload, 1) := by decide +kernel
theorem dX11_readMap_192 : decode cX11_readMap 192 = .ok (.iconst 1, 1) := by decide +kernel
theorem dX11_readMap_193 : decode cX11_readMap 193 = .ok (.iadd, 1) := by decide +kernel
theorem dX11_readMap_194 : decode cX11_readMap 194 = .ok (.iastore, 1) := by decide +kernel
theorem dX11_readMap_195 : decode cX11_readMap 195 = .ok (.return_, 1) := by decide +kernel
set_option maxHeartbeats 20000000 in
set_option maxRecDepth 100000 in
theorem m_X11_readMap (l : Launch) (D : va_G) (cT : Nat → ClassId) (T : Nat → Option Nat) (q : Nat → Int) (hT : tokm T) (hq : qkm q) (a0 : Nat) (t0 : T a0 = some 0) (hp0 : (q 29 = 0 ∧ q 27 = q 26 ∧ q 28 = q 26) ∨ (1 ≤ q 29 ∧ q 27 < q 28 ∧ q 28 ≤ q 26)) (hp1 : q 13 = 1 - q 10) (hp2 : q 30 = 0 → NL q) (hp3 : q 30 = 0 → q 29 = 3 → q 31 = 7237492 → q 27 + 3 ≤ q 28) (hp4 : q 30 = 0) (hp5 : MB1 q (q 14) (q 15)) (hp6 : q 14 ≤ 3) : th_MetM l D cT T q yX11_readMap cX11_readMap 4 none (rmk 6 128) [.ref a0] (fun v q2 => v = none ∧ qkm q2 ∧ fr [14, 20, 21, 22, 23, 24, 27, 28, 29, 30, 31, 1000, 35] q q2 ∧ ((q2 29 = 0 ∧ q2 27 = q2 26 ∧ q2 28 = q2 26) ∨ (1 ≤ q2 29 ∧ q2 27 < q2 28 ∧ q2 28 ≤ q2 26)) ∧ (q2 30 = 0 → NL q2) ∧ (q2 30 = 0 → q2 29 = 3 → q2 31 = 7237492 → q2 27 + 3 ≤ q2 28) ∧ (q 27 ≤ q2 27) ∧ (q2 30 = 0 → MB1 q2 (q2 14) (q2 15))) [0, 4, 8, 11, 12, 13, 14, 18, 19, 20, 21, 26, 28, 29, 30, 31] := by
  refine th_startM (by decide) (Nat.le_of_ble_eq_true rfl) ?_
  intro p e s m below meth c ls S hK hH hr hlocks hnm hl
  have hx := S.1
  have hb := S.2.1
  have c10 := qkm_10 hq; have c13 := qkm_13 hq; have c14 := qkm_14 hq; have c20 := qkm_20 hq; have c27 := qkm_27 hq
  have hl : lv_has ls 4 [(0, .ref a0)] := hl
  have J160 : ∀ (n : Nat) (q160 : Nat → Int) (H : Heap) (locs : List Loc) (ls : Array Slot) (v160_2 : Int32) (v160_3 : Int32), qkm q160 → fr [14, 20, 21, 22, 23, 24, 27, 28, 29, 30, 31, 1000, 35] q q160 → IV v160_2 0 7 → IV v160_3 0 3 → ((q160 29 = 0 ∧ q160 27 = q160 26 ∧ q160 28 = q160 26) ∨ (1 ≤ q160 29 ∧ q160 27 < q160 28 ∧ q160 28 ≤ q160 26)) → (q160 30 = 0 → NL q160) → (q160 30 = 0 → q160 29 = 3 → q160 31 = 7237492 → q160 27 + 3 ≤ q160 28) → (q160 14 = q 14 ∧ q 27 ≤ q160 27) → (q160 30 = 0 → MB1 q160 (q 14 + 1) (q 15)) → th_H D cT T (km q160) H → va_S (th_A T [0, 4, 8, 11, 12, 13, 14, 18, 19, 20, 21, 26, 28, 29, 30, 31]) s.heap H locs → lv_has ls 4 [(0, .ref a0), (2, .int v160_2), (3, .int v160_3)] → (3 + 1 - Int32.toInt v160_3).toNat < n → W p l e (rmk 6 128) s m [.ref a0].toArray below meth c H locs 0 0 (MQ below (th_QM D cT T (fun v q2 => v = none ∧ qkm q2 ∧ fr [14, 20, 21, 22, 23, 24, 27, 28, 29, 30, 31, 1000, 35] q q2 ∧ ((q2 29 = 0 ∧ q2 27 = q2 26 ∧ q2 28 = q2 26) ∨ (1 ≤ q2 29 ∧ q2 27 < q2 28 ∧ q2 28 ≤ q2 26)) ∧ (q2 30 = 0 → NL q2) ∧ (q2 30 = 0 → q2 29 = 3 → q2 31 = 7237492 → q2 27 + 3 ≤ q2 28) ∧ (q 27 ≤ q2 27) ∧ (q2 30 = 0 → MB1 q2 (q2 14) (q2 15))) [0, 4, 8, 11, 12, 13, 14, 18, 19, 20, 21, 26, 28, 29, 30, 31]) [.ref a0].toArray s 0 0 (th_A T [0, 4, 8, 11, 12, 13, 14, 18, 19, 20, 21, 26, 28, 29, 30, 31])) (F0 m 160 ls []) := by
    intro n
    induction n with
    | zero => intro q160 H locs ls v160_2 v160_3 hq160 h0160 iv160_2 iv160_3 v160_inv0 v160_inv1 v160_inv2 v160_inv3 v160_inv4 hH hS hl hn; exact absurd hn (Nat.not_lt_zero _)
    | succ n ih160 =>
      intro q160 H locs ls v160_2 v160_3 hq160 h0160 iv160_2 iv160_3 v160_inv0 v160_inv1 v160_inv2 v160_inv3 v160_inv4 hH hS hl hn160
      have w160_10 : q160 10 = q 10 := h0160 10 (by decide) (Or.inl (by decide))
      have w160_13 : q160 13 = q 13 := h0160 13 (by decide) (Or.inl (by decide))
      have w160_15 : q160 15 = q 15 := h0160 15 (by decide) (Or.inl (by decide))
      have w160_26 : q160 26 = q 26 := h0160 26 (by decide) (Or.inl (by decide))
      have l1v160_2 := iv160_2.1; have l2v160_2 := iv160_2.2
      have l1v160_3 := iv160_3.1; have l2v160_3 := iv160_3.2
      refine lv_iload_n hx hb dX11_readMap_160 rfl (lv_at hl 2 rfl) ?_
      refine lv_iconst (v := 3) hx hb dX11_readMap_161 (by decide) ?_
      refine lv_icmp_ge (tgt := 182) hx hb dX11_readMap_162 (by decide) (fun c1 => ?_) (fun c1 => ?_)
      · skip
        have rlc1 : (3 : Int) ≤ v160_3.toInt := iv_le c1
        have ir2 : IV v160_3 3 3 := iv_vR (iv_c (by decide) : IV 3 3 3) iv160_3 (iv_le c1) (by decide)
        have ir2a := ir2.1; have ir2b := ir2.2
        refine lv_aload_n hx hb dX11_readMap_182 rfl (lv_at hl 0 rfl) ?_
        refine th_get S hK hH inG11 t0 km_0 rfl 12 (by decide) gm_1242 rfl rfl dX11_readMap_183 (fun v3 hv3 fv3 => ?_)
        obtain ⟨rf4, rfl, trf4⟩ := th_V.ref hv3
        refine lv_aload_n hx hb dX11_readMap_186 rfl (lv_at hl 0 rfl) ?_
        refine th_get S hK hH inG11 t0 km_0 rfl 42 (by decide) gm_1272 rfl rfl dX11_readMap_187 (fun v5 hv5 fv5 => ?_)
        obtain ⟨x6, rfl, ix6⟩ := th_V.int hv5
        have kx6a : q160 13 ≤ x6.toInt := ix6.1
        have kx6b : x6.toInt ≤ q160 13 := ix6.2
        have bx6 := qkm_13 hq160
        have ix6 : IV x6 0 1 := iv_w ix6 (qkm_13 hq160)
        refine lv_dup2_11 hx hb dX11_readMap_190 rfl rfl ?_
        refine th_iald S hK hH trf4 km_4 (th_in (hi := 1) ix6 (by decide)) dX11_readMap_191 (fun v7 hv7 => ?_)
        obtain ⟨x8, rfl, ix8⟩ := th_bkB hv7 ix6 (by omega)
        have kx8a : q160 14 ≤ x8.toInt := ix8.1
        have kx8b : x8.toInt ≤ q160 14 := ix8.2
        have bx8 := qkm_14 hq160
        have ix8 : IV x8 0 4 := iv_w ix8 (qkm_14 hq160)
        refine lv_iconst (v := 1) hx hb dX11_readMap_192 (by decide) ?_
        refine lv_iadd hx hb dX11_readMap_193 ?_
        refine lv_topi (fun x9 ex9 => ?_)
        have ix9 : IV x9 1 5 := by rw [ex9]; exact iv_add ix8 (iv_c (by decide) : IV 1 1 1) (by decide)
        have ux9 : x9.toInt = x8.toInt + (1 : Int) := by rw [ex9]; exact iv_addE (by have z1 := (ix8).1; have z2 := (ix8).2; have z3 := ((iv_c (by decide) : IV 1 1 1)).1; have z4 := ((iv_c (by decide) : IV 1 1 1)).2; omega)
        obtain ⟨n10, en10⟩ : ∃ z : Int, z = Int32.toInt x9 := ⟨_, rfl⟩
        refine mst_4 S hK hH hS ⟨4, by decide, trf4⟩ hT trf4 en10 (qkm_10 hq160) ix6 (by omega) dX11_readMap_194 (fun q11 H locs eq11 hH hS hq1 => ?_)
        have hqq11 : qkm q11 := by rw [eq11]; exact qum_ok14 hq160 (by have z1 := (ix9).1; have z2 := (ix9).2; exact ⟨by omega, by omega⟩)
        have h0q11 : fr [14, 20, 21, 22, 23, 24, 27, 28, 29, 30, 31, 1000, 35] q q11 := by rw [eq11]; exact fr_up h0160 (by decide)
        have wq11_10 : q11 10 = q160 10 := by rw [eq11]; rfl
        have wq11_13 : q11 13 = q160 13 := by rw [eq11]; rfl
        have wq11_14 : q11 14 = n10 := by rw [eq11]; rfl
        have wq11_15 : q11 15 = q160 15 := by rw [eq11]; rfl
        have wq11_20 : q11 20 = q160 20 := by rw [eq11]; rfl
        have wq11_21 : q11 21 = q160 21 := by rw [eq11]; rfl
        have wq11_22 : q11 22 = q160 22 := by rw [eq11]; rfl
        have wq11_23 : q11 23 = q160 23 := by rw [eq11]; rfl
        have wq11_24 : q11 24 = q160 24 := by rw [eq11]; rfl
        have wq11_26 : q11 26 = q160 26 := by rw [eq11]; rfl
        have wq11_27 : q11 27 = q160 27 := by rw [eq11]; rfl
        have wq11_28 : q11 28 = q160 28 := by rw [eq11]; rfl
        have wq11_29 : q11 29 = q160 29 := by rw [eq11]; rfl
        have wq11_30 : q11 30 = q160 30 := by rw [eq11]; rfl
        have wq11_31 : q11 31 = q160 31 := by rw [eq11]; rfl
        have wq11_35 : q11 35 = q160 35 := by rw [eq11]; rfl
        have bgq11 : bg q160 q11 := bg_up bg_rf eq11 (by decide)
        have txq11 : tx q160 q11 := tx_tr tx_rf (tx_up eq11 (by omega))
        have f12 := fv3.kept (hq1 _ (th_ne t0 trf4 (by decide)))
        exact th_vretM S hK hH hS hr hlocks ⟨rfl, hqq11, h0q11, (show (q11 29 = 0 ∧ q11 27 = q11 26 ∧ q11 28 = q11 26) ∨ (1 ≤ q11 29 ∧ q11 27 < q11 28 ∧ q11 28 ≤ q11 26) by omega), (show q11 30 = 0 → NL q11 by exact (fun z => NL_tx (v160_inv1 (by omega)) txq11 (by omega) (by omega) (by omega))), (show q11 30 = 0 → q11 29 = 3 → q11 31 = 7237492 → q11 27 + 3 ≤ q11 28 by omega), (show q 27 ≤ q11 27 by omega), (show q11 30 = 0 → MB1 q11 (q11 14) (q11 15) by exact (fun z => MB1_mv (v160_inv4 (by omega)) bgq11 (by omega) (by omega) (by omega) (by omega) (by omega) (by omega) (by omega)))⟩ dX11_readMap_195
      · skip
        have rlc1 : v160_3.toInt < (3 : Int) := iv_nle c1
        have ir13 : IV v160_3 0 2 := iv_uL iv160_3 (iv_c (by decide) : IV 3 3 3) (iv_nle c1) (by decide)
        have ir13a := ir13.1; have ir13b := ir13.2
        refine lv_aload_n hx hb dX11_readMap_165 rfl (lv_at hl 0 rfl) ?_
        refine th_get S hK hH inG11 t0 km_0 rfl 26 (by decide) gm_1256 rfl rfl dX11_readMap_166 (fun v14 hv14 fv14 => ?_)
        obtain ⟨rf15, rfl, trf15⟩ := th_V.ref hv14
        refine lv_iconst (v := 3) hx hb dX11_readMap_169 (by decide) ?_
        refine lv_iload_n hx hb dX11_readMap_170 rfl (lv_at hl 1 rfl) ?_
        refine lv_imul hx hb dX11_readMap_171 ?_
        refine lv_topi (fun x16 ex16 => ?_)
        have ix16 : IV x16 0 21 := by rw [ex16]; exact iv_mul (iv_c (by decide) : IV 3 3 3) iv160_2 (by decide) (by decide)
        have ux16 : x16.toInt = (3 : Int) * v160_2.toInt := by rw [ex16]; exact iv_mulE (iv_corner ((iv_c (by decide) : IV 3 3 3)).1 ((iv_c (by decide) : IV 3 3 3)).2 (iv160_2).1 (iv160_2).2 (by decide))
        refine lv_iload_n hx hb dX11_readMap_172 rfl (lv_at hl 2 rfl) ?_
        refine lv_iadd hx hb dX11_readMap_173 ?_
        refine lv_topi (fun x17 ex17 => ?_)
        have ix17 : IV x17 0 23 := by rw [ex17]; exact iv_add ix16 ir13 (by decide)
        have ux17 : x17.toInt = x16.toInt + v160_3.toInt := by rw [ex17]; exact iv_addE (by have z1 := (ix16).1; have z2 := (ix16).2; have z3 := (ir13).1; have z4 := (ir13).2; omega)
        refine lv_iconst (v := 1) hx hb dX11_readMap_174 (by decide) ?_
        refine th_iast S hK hH hS ⟨18, by decide, trf15⟩ trf15 km_18 (th_in (hi := 23) ix17 (by decide)) (th_iv (iv_top _)) dX11_readMap_175 (fun H locs hH hS hq1 => ?_)
        refine th_iinc S dX11_readMap_176 hl (k := 2) rfl (by decide) ir13 (by decide) (fun x18 ls ex18 ix18 hl => ?_)
        have hl : lv_has ls 4 [(3, .int x18), (0, .ref a0), (2, .int v160_2)] := hl
        have ix18 : IV x18 1 3 := ix18
        refine lv_goto (tgt := 160) hx hb dX11_readMap_179 (by decide) ?_
        exact ih160 q160 H locs ls v160_2 x18 hq160 h0160 iv160_2 (iv_w ix18 (by decide)) (show (q160 29 = 0 ∧ q160 27 = q160 26 ∧ q160 28 = q160 26) ∨ (1 ≤ q160 29 ∧ q160 27 < q160 28 ∧ q160 28 ≤ q160 26) by omega) (show q160 30 = 0 → NL q160 by exact v160_inv1) (show q160 30 = 0 → q160 29 = 3 → q160 31 = 7237492 → q160 27 + 3 ≤ q160 28 by omega) (show q160 14 = q 14 ∧ q 27 ≤ q160 27 by omega) (show q160 30 = 0 → MB1 q160 (q 14 + 1) (q 15) by exact v160_inv4) hH hS (lv_sub hl [1, 2, 0] rfl) (th_up iv160_3 ex18 (by decide) hn160)
  have J144 : ∀ (q144 : Nat → Int) (H : Heap) (locs : List Loc) (ls : Array Slot) (v144_2 : Int32), qkm q144 → fr [14, 20, 21, 22, 23, 24, 27, 28, 29, 30, 31, 1000, 35] q q144 → IV v144_2 0 7 → ((q144 29 = 0 ∧ q144 27 = q144 26 ∧ q144 28 = q144 26) ∨ (1 ≤ q144 29 ∧ q144 27 < q144 28 ∧ q144 28 ≤ q144 26)) → (q144 30 = 0 → NL q144) → (q144 30 = 0 → q144 29 = 3 → q144 31 = 7237492 → q144 27 + 3 ≤ q144 28) → (q144 14 = q 14 ∧ q 27 ≤ q144 27) → (q144 30 = 0 → MB1 q144 (q 14 + 1) (q 15)) → th_H D cT T (km q144) H → va_S (th_A T [0, 4, 8, 11, 12, 13, 14, 18, 19, 20, 21, 26, 28, 29, 30, 31]) s.heap H locs → lv_has ls 4 [(0, .ref a0), (2, .int v144_2)] → W p l e (rmk 6 128) s m [.ref a0].toArray below meth c H locs 0 0 (MQ below (th_QM D cT T (fun v q2 => v = none ∧ qkm q2 ∧ fr [14, 20, 21, 22, 23, 24, 27, 28, 29, 30, 31, 1000, 35] q q2 ∧ ((q2 29 = 0 ∧ q2 27 = q2 26 ∧ q2 28 = q2 26) ∨ (1 ≤ q2 29 ∧ q2 27 < q2 28 ∧ q2 28 ≤ q2 26)) ∧ (q2 30 = 0 → NL q2) ∧ (q2 30 = 0 → q2 29 = 3 → q2 31 = 7237492 → q2 27 + 3 ≤ q2 28) ∧ (q 27 ≤ q2 27) ∧ (q2 30 = 0 → MB1 q2 (q2 14) (q2 15))) [0, 4, 8, 11, 12, 13, 14, 18, 19, 20, 21, 26, 28, 29, 30, 31]) [.ref a0].toArray s 0 0 (th_A T [0, 4, 8, 11, 12, 13, 14, 18, 19, 20, 21, 26, 28, 29, 30, 31])) (F0 m 144 ls []) := by
    intro q144 H locs ls v144_2 hq144 h0144 iv144_2 v144_inv0 v144_inv1 v144_inv2 v144_inv3 v144_inv4 hH hS hl
    have w144_10 : q144 10 = q 10 := h0144 10 (by decide) (Or.inl (by decide))
    have w144_13 : q144 13 = q 13 := h0144 13 (by decide) (Or.inl (by decide))
    have w144_15 : q144 15 = q 15 := h0144 15 (by decide) (Or.inl (by decide))
    have w144_26 : q144 26 = q 26 := h0144 26 (by decide) (Or.inl (by decide))
    have l1v144_2 := iv144_2.1; have l2v144_2 := iv144_2.2
    refine lv_aload_n hx hb dX11_readMap_144 rfl (lv_at hl 0 rfl) ?_
    refine th_get S hK hH inG11 t0 km_0 rfl 22 (by decide) gm_1252 rfl rfl dX11_readMap_145 (fun v19 hv19 fv19 => ?_)
    obtain ⟨rf20, rfl, trf20⟩ := th_V.ref hv19
    refine lv_iload_n hx hb dX11_readMap_148 rfl (lv_at hl 1 rfl) ?_
    refine lv_iconst (v := 0) hx hb dX11_readMap_149 (by decide) ?_
    refine th_iast S hK hH hS ⟨14, by decide, trf20⟩ trf20 km_14 (th_in (hi := 7) iv144_2 (by decide)) (th_iv (iv_top _)) dX11_readMap_150 (fun H locs hH hS hq1 => ?_)
    refine lv_aload_n hx hb dX11_readMap_151 rfl (lv_at hl 0 rfl) ?_
    refine th_get S hK hH inG11 t0 km_0 rfl 27 (by decide) gm_1257 rfl rfl dX11_readMap_152 (fun v21 hv21 fv21 => ?_)
    obtain ⟨rf22, rfl, trf22⟩ := th_V.ref hv21
    refine lv_iload_n hx hb dX11_readMap_155 rfl (lv_at hl 1 rfl) ?_
    refine lv_iconst (v := 0) hx hb dX11_readMap_156 (by decide) ?_
    refine th_iast S hK hH hS ⟨19, by decide, trf22⟩ trf22 km_19 (th_in (hi := 7) iv144_2 (by decide)) (th_iv (iv_top _)) dX11_readMap_157 (fun H locs hH hS hq1 => ?_)
    refine lv_iconst (v := 0) hx hb dX11_readMap_158 (by decide) ?_
    refine lv_istore_n (lv' := [(3, .int 0), (0, .ref a0), (2, .int v144_2)]) hx hb dX11_readMap_159 rfl hl (by decide) rfl (fun ls hl => ?_)
    exact J160 ((3 + 1 - Int32.toInt 0).toNat + 1) q144 H locs ls v144_2 0 hq144 h0144 iv144_2 (iv_w (iv_c (by decide) : IV 0 0 0) (by decide)) (show (q144 29 = 0 ∧ q144 27 = q144 26 ∧ q144 28 = q144 26) ∨ (1 ≤ q144 29 ∧ q144 27 < q144 28 ∧ q144 28 ≤ q144 26) by omega) (show q144 30 = 0 → NL q144 by exact v144_inv1) (show q144 30 = 0 → q144 29 = 3 → q144 31 = 7237492 → q144 27 + 3 ≤ q144 28 by omega) (show q144 14 = q 14 ∧ q 27 ≤ q144 27 by omega) (show q144 30 = 0 → MB1 q144 (q 14 + 1) (q 15) by exact v144_inv4) hH hS (lv_sub hl [1, 2, 0] rfl) (Nat.lt_succ_self _)
  have J72 : ∀ (q72 : Nat → Int) (H : Heap) (locs : List Loc) (ls : Array Slot) (v72_1 : Int32) (v72_2 : Int32), qkm q72 → fr [14, 20, 21, 22, 23, 24, 27, 28, 29, 30, 31, 1000, 35] q q72 → IV v72_1 0 3 → IV v72_2 0 7 → ((q72 29 = 0 ∧ q72 27 = q72 26 ∧ q72 28 = q72 26) ∨ (1 ≤ q72 29 ∧ q72 27 < q72 28 ∧ q72 28 ≤ q72 26)) → (q72 30 = 0 → NL q72) → (q72 30 = 0 → q72 29 = 3 → q72 31 = 7237492 → q72 27 + 3 ≤ q72 28) → (q72 14 = q 14 ∧ q 27 ≤ q72 27) → (q72 30 = 0 → MB1 q72 (q 14 + 1) (q 15)) → th_H D cT T (km q72) H → va_S (th_A T [0, 4, 8, 11, 12, 13, 14, 18, 19, 20, 21, 26, 28, 29, 30, 31]) s.heap H locs → lv_has ls 4 [(0, .ref a0), (1, .int v72_1), (2, .int v72_2)] → W p l e (rmk 6 128) s m [.ref a0].toArray below meth c H locs 0 0 (MQ below (th_QM D cT T (fun v q2 => v = none ∧ qkm q2 ∧ fr [14, 20, 21, 22, 23, 24, 27, 28, 29, 30, 31, 1000, 35] q q2 ∧ ((q2 29 = 0 ∧ q2 27 = q2 26 ∧ q2 28 = q2 26) ∨ (1 ≤ q2 29 ∧ q2 27 < q2 28 ∧ q2 28 ≤ q2 26)) ∧ (q2 30 = 0 → NL q2) ∧ (q2 30 = 0 → q2 29 = 3 → q2 31 = 7237492 → q2 27 + 3 ≤ q2 28) ∧ (q 27 ≤ q2 27) ∧ (q2 30 = 0 → MB1 q2 (q2 14) (q2 15))) [0, 4, 8, 11, 12, 13, 14, 18, 19, 20, 21, 26, 28, 29, 30, 31]) [.ref a0].toArray s 0 0 (th_A T [0, 4, 8, 11, 12, 13, 14, 18, 19, 20, 21, 26, 28, 29, 30, 31])) (F0 m 72 ls []) := by
    intro q72 H locs ls v72_1 v72_2 hq72 h072 iv72_1 iv72_2 v72_inv0 v72_inv1 v72_inv2 v72_inv3 v72_inv4 hH hS hl
    have w72_10 : q72 10 = q 10 := h072 10 (by decide) (Or.inl (by decide))
    have w72_13 : q72 13 = q 13 := h072 13 (by decide) (Or.inl (by decide))
    have w72_15 : q72 15 = q 15 := h072 15 (by decide) (Or.inl (by decide))
    have w72_26 : q72 26 = q 26 := h072 26 (by decide) (Or.inl (by decide))
    have l1v72_1 := iv72_1.1; have l2v72_1 := iv72_1.2
    have l1v72_2 := iv72_2.1; have l2v72_2 := iv72_2.2
    refine lv_aload_n hx hb dX11_readMap_72 rfl (lv_at hl 0 rfl) ?_
    refine th_get S hK hH inG11 t0 km_0 rfl 20 (by decide) gm_1250 rfl rfl dX11_readMap_73 (fun v23 hv23 fv23 => ?_)
    obtain ⟨rf24, rfl, trf24⟩ := th_V.ref hv23
    refine lv_iload_n hx hb dX11_readMap_76 rfl (lv_at hl 2 rfl) ?_
    refine lv_aload_n hx hb dX11_readMap_77 rfl (lv_at hl 0 rfl) ?_
    refine th_callVp (n := 0) (As := []) S hK hH hS (th_A.sub (by decide)) (m_X11_isGood l D cT T q72 hT hq72 a0 t0) gm_1487 gm_1484 gm_1486 gm_49 gm_124 (by decide +kernel) ⟨rfl, rfl, Nat.le_of_ble_eq_true rfl, Nat.le_of_ble_eq_true rfl⟩ t0 km_0 rfl rfl hl.1 rfl (Nat.le_of_ble_eq_true rfl) dX11_readMap_78 ⟨Nat.zero_le _, Nat.zero_le _⟩ (fun x25 H locs ix25 ox25 hH hS hF1 => ?_)
    obtain ⟨ox25_0, ox25_1⟩ := ox25
    have ox25_0 : x25.toInt ≠ 0 → q72 30 = 0 := ox25_0
    have ox25_1 : x25.toInt = 0 → q72 30 ≠ 0 := ox25_1
    have l1x25 := ix25.1; have l2x25 := ix25.2
    refine lv_if_eq (tgt := 106) hx hb dX11_readMap_81 (by decide) (fun c26 => ?_) (fun c26 => ?_)
    · skip
      have rlc26 : x25.toInt = (0 : Int) := congrArg Int32.toInt c26
      have ir27 : IV x25 0 0 := iv_eL c26 (iv_c (by decide) : IV 0 0 0)
      have ir27a := ir27.1; have ir27b := ir27.2
      refine lv_iconst (v := 0) hx hb dX11_readMap_106 (by decide) ?_
      refine th_iast S hK hH hS ⟨12, by decide, trf24⟩ trf24 km_12 (th_in (hi := 7) iv72_2 (by decide)) (th_iv (iv_top _)) dX11_readMap_107 (fun H locs hH hS hq1 => ?_)
      refine lv_aload_n hx hb dX11_readMap_108 rfl (lv_at hl 0 rfl) ?_
      refine th_callVp (n := 0) (As := []) S hK hH hS (th_A.sub (by decide)) (m_X11_isGood l D cT T q72 hT hq72 a0 t0) gm_1487 gm_1484 gm_1486 gm_49 gm_124 (by decide +kernel) ⟨rfl, rfl, Nat.le_of_ble_eq_true rfl, Nat.le_of_ble_eq_true rfl⟩ t0 km_0 rfl rfl hl.1 rfl (Nat.le_of_ble_eq_true rfl) dX11_readMap_109 ⟨Nat.zero_le _, Nat.zero_le _⟩ (fun x28 H locs ix28 ox28 hH hS hF1 => ?_)
      obtain ⟨ox28_0, ox28_1⟩ := ox28
      have ox28_0 : x28.toInt ≠ 0 → q72 30 = 0 := ox28_0
      have ox28_1 : x28.toInt = 0 → q72 30 ≠ 0 := ox28_1
      have l1x28 := ix28.1; have l2x28 := ix28.2
      refine lv_if_eq (tgt := 144) hx hb dX11_readMap_112 (by decide) (fun c29 => ?_) (fun c29 => ?_)
      · skip
        have rlc29 : x28.toInt = (0 : Int) := congrArg Int32.toInt c29
        have ir30 : IV x28 0 0 := iv_eL c29 (iv_c (by decide) : IV 0 0 0)
        have ir30a := ir30.1; have ir30b := ir30.2
        exact J144 q72 H locs ls v72_2 hq72 h072 iv72_2 (show (q72 29 = 0 ∧ q72 27 = q72 26 ∧ q72 28 = q72 26) ∨ (1 ≤ q72 29 ∧ q72 27 < q72 28 ∧ q72 28 ≤ q72 26) by omega) (show q72 30 = 0 → NL q72 by exact v72_inv1) (show q72 30 = 0 → q72 29 = 3 → q72 31 = 7237492 → q72 27 + 3 ≤ q72 28 by omega) (show q72 14 = q 14 ∧ q 27 ≤ q72 27 by omega) (show q72 30 = 0 → MB1 q72 (q 14 + 1) (q 15) by exact v72_inv4) hH hS (lv_sub hl [0, 2] rfl)
      · skip
        have rlc29 : x28.toInt ≠ (0 : Int) := iv_ne c29
        have ir31 : IV x28 1 1 := iv_cutL ix28 (iv_c (by decide) : IV 0 0 0) c29 (by decide)
        have ir31a := ir31.1; have ir31b := ir31.2
        refine lv_aload_n hx hb dX11_readMap_115 rfl (lv_at hl 0 rfl) ?_
        refine lv_ldc2 (v := 112628745921892) hx hb S.2.2.2.1 (S.2.2.2.2 _ gm_1461) dX11_readMap_116 ?_
        refine th_callVp (n := 1) (As := [.long 112628745921892]) S hK hH hS (th_A.sub (by decide)) (m_X11_isWord l D cT T q72 hT hq72 a0 t0 (112628745921892)) gm_1499 gm_1496 gm_1498 gm_52 gm_124 (by decide +kernel) ⟨rfl, rfl, Nat.le_of_ble_eq_true rfl, Nat.le_of_ble_eq_true rfl⟩ t0 km_0 rfl rfl hl.1 rfl (Nat.le_of_ble_eq_true rfl) dX11_readMap_119 ⟨Nat.zero_le _, Nat.zero_le _⟩ (fun x32 H locs ix32 ox32 hH hS hF1 => ?_)
        obtain ⟨ox32_0, ox32_1⟩ := ox32
        have ox32_0 : x32.toInt ≠ 0 → q72 29 = 3 ∧ q72 31 = (112628745921892 : Int) := ox32_0
        have ox32_1 : x32.toInt = 0 → q72 29 ≠ 3 ∨ q72 31 ≠ (112628745921892 : Int) := ox32_1
        have l1x32 := ix32.1; have l2x32 := ix32.2
        refine lv_if_eq (tgt := 144) hx hb dX11_readMap_122 (by decide) (fun c33 => ?_) (fun c33 => ?_)
        · skip
          have rlc33 : x32.toInt = (0 : Int) := congrArg Int32.toInt c33
          have ir34 : IV x32 0 0 := iv_eL c33 (iv_c (by decide) : IV 0 0 0)
          have ir34a := ir34.1; have ir34b := ir34.2
          exact J144 q72 H locs ls v72_2 hq72 h072 iv72_2 (show (q72 29 = 0 ∧ q72 27 = q72 26 ∧ q72 28 = q72 26) ∨ (1 ≤ q72 29 ∧ q72 27 < q72 28 ∧ q72 28 ≤ q72 26) by omega) (show q72 30 = 0 → NL q72 by exact v72_inv1) (show q72 30 = 0 → q72 29 = 3 → q72 31 = 7237492 → q72 27 + 3 ≤ q72 28 by omega) (show q72 14 = q 14 ∧ q 27 ≤ q72 27 by omega) (show q72 30 = 0 → MB1 q72 (q 14 + 1) (q 15) by exact v72_inv4) hH hS (lv_sub hl [0, 2] rfl)
        · skip
          have rlc33 : x32.toInt ≠ (0 : Int) := iv_ne c33
          have ir35 : IV x32 1 1 := iv_cutL ix32 (iv_c (by decide) : IV 0 0 0) c33 (by decide)
          have ir35a := ir35.1; have ir35b := ir35.2
          refine lv_aload_n hx hb dX11_readMap_125 rfl (lv_at hl 0 rfl) ?_
          refine th_get S hK hH inG11 t0 km_0 rfl 21 (by decide) gm_1251 rfl rfl dX11_readMap_126 (fun v36 hv36 fv36 => ?_)
          obtain ⟨rf37, rfl, trf37⟩ := th_V.ref hv36
          refine lv_aload_n hx hb dX11_readMap_129 rfl (lv_at hl 0 rfl) ?_
          refine th_get S hK hH inG11 t0 km_0 rfl 42 (by decide) gm_1272 rfl rfl dX11_readMap_130 (fun v38 hv38 fv38 => ?_)
          obtain ⟨x39, rfl, ix39⟩ := th_V.int hv38
          have kx39a : q72 13 ≤ x39.toInt := ix39.1
          have kx39b : x39.toInt ≤ q72 13 := ix39.2
          have bx39 := qkm_13 hq72
          have ix39 : IV x39 0 1 := iv_w ix39 (qkm_13 hq72)
          refine lv_dup2_11 hx hb dX11_readMap_133 rfl rfl ?_
          refine th_iald S hK hH trf37 km_13 (th_in (hi := 1) ix39 (by decide)) dX11_readMap_134 (fun v40 hv40 => ?_)
          obtain ⟨x41, rfl, ix41⟩ := th_V.int hv40
          refine lv_iconst (v := 1) hx hb dX11_readMap_135 (by decide) ?_
          refine lv_iload_n hx hb dX11_readMap_136 rfl (lv_at hl 1 rfl) ?_
          refine lv_ishl hx hb dX11_readMap_137 ?_
          refine lv_topi (fun x42 ex42 => ?_)
          have ix42 := iv_top x42
          have ix42 : IV x42 1 1073741824 := by rw [ex42]; exact iv_shl1 (iv_w iv72_1 (by decide))
          refine lv_ior hx hb dX11_readMap_138 ?_
          refine lv_topi (fun x43 ex43 => ?_)
          have ix43 := iv_top x43
          refine th_iast S hK hH hS ⟨13, by decide, trf37⟩ trf37 km_13 (th_in (hi := 1) ix39 (by decide)) (th_iv ix43) dX11_readMap_139 (fun H locs hH hS hq1 => ?_)
          refine lv_aload_n hx hb dX11_readMap_140 rfl (lv_at hl 0 rfl) ?_
          refine th_callVM (n := 0) (As := []) S hK hH hS (th_A.sub (by decide)) (m_X11_goOn l D cT T q72 hT hq72 a0 t0 (show q72 28 ≤ q72 26 by omega)) gm_1445 gm_1442 gm_1444 gm_47 gm_124 (by decide +kernel) ⟨rfl, rfl, Nat.le_of_ble_eq_true rfl, Nat.le_of_ble_eq_true rfl⟩ t0 km_0 rfl rfl hl.1 rfl (Nat.le_of_ble_eq_true rfl) dX11_readMap_141 ⟨Nat.zero_le _, Nat.zero_le _⟩ (fun wq44 q44 H locs hEq44 hH hS hF1 => ?_)
          obtain ⟨rfl, hqq44, g0q44, pq44_0, pq44_1, pq44_2, pq44_3, pq44_4⟩ := hEq44
          show W p l e (rmk 6 128) s m [.ref a0].toArray below meth c H locs 0 0 (MQ below (th_QM D cT T (fun v q2 => v = none ∧ qkm q2 ∧ fr [14, 20, 21, 22, 23, 24, 27, 28, 29, 30, 31, 1000, 35] q q2 ∧ ((q2 29 = 0 ∧ q2 27 = q2 26 ∧ q2 28 = q2 26) ∨ (1 ≤ q2 29 ∧ q2 27 < q2 28 ∧ q2 28 ≤ q2 26)) ∧ (q2 30 = 0 → NL q2) ∧ (q2 30 = 0 → q2 29 = 3 → q2 31 = 7237492 → q2 27 + 3 ≤ q2 28) ∧ (q 27 ≤ q2 27) ∧ (q2 30 = 0 → MB1 q2 (q2 14) (q2 15))) [0, 4, 8, 11, 12, 13, 14, 18, 19, 20, 21, 26, 28, 29, 30, 31]) [.ref a0].toArray s 0 0 (th_A T [0, 4, 8, 11, 12, 13, 14, 18, 19, 20, 21, 26, 28, 29, 30, 31])) (F0 m 144 ls [])
          have pq44_0 : (q44 29 = 0 ∧ q44 27 = q44 26 ∧ q44 28 = q44 26) ∨ (1 ≤ q44 29 ∧ q44 27 < q44 28 ∧ q44 28 ≤ q44 26) := pq44_0
          have pq44_1 : q44 29 = 3 → sg q44 (q44 28) < 97 ∨ 122 < sg q44 (q44 28) := pq44_1
          have pq44_2 : q44 29 = 3 → q44 31 = 7237492 → q44 27 + 3 ≤ q44 28 := pq44_2
          have pq44_3 : q72 28 ≤ q44 27 := pq44_3
          have pq44_4 : q44 29 = 3 → 97 ≤ sg q72 (q44 27) ∧ sg q72 (q44 27) ≤ 122 := pq44_4
          have wq44_10 : q44 10 = q72 10 := g0q44 10 (by decide) (Or.inl (by decide))
          have wq44_13 : q44 13 = q72 13 := g0q44 13 (by decide) (Or.inl (by decide))
          have wq44_14 : q44 14 = q72 14 := g0q44 14 (by decide) (Or.inl (by decide))
          have wq44_15 : q44 15 = q72 15 := g0q44 15 (by decide) (Or.inl (by decide))
          have wq44_20 : q44 20 = q72 20 := g0q44 20 (by decide) (Or.inl (by decide))
          have wq44_21 : q44 21 = q72 21 := g0q44 21 (by decide) (Or.inl (by decide))
          have wq44_22 : q44 22 = q72 22 := g0q44 22 (by decide) (Or.inl (by decide))
          have wq44_23 : q44 23 = q72 23 := g0q44 23 (by decide) (Or.inl (by decide))
          have wq44_24 : q44 24 = q72 24 := g0q44 24 (by decide) (Or.inl (by decide))
          have wq44_26 : q44 26 = q72 26 := g0q44 26 (by decide) (Or.inl (by decide))
          have wq44_30 : q44 30 = q72 30 := g0q44 30 (by decide) (Or.inl (by decide))
          have wq44_35 : q44 35 = q72 35 := g0q44 35 (by decide) (Or.inl (by decide))
          have h0q44 : fr [14, 20, 21, 22, 23, 24, 27, 28, 29, 30, 31, 1000, 35] q q44 := fr_tr h072 g0q44 (by decide)
          have bgq44 : bg q72 q44 := bg_fr bg_rf g0q44 (by decide)
          have nlq44 : q44 30 = 0 → NL q44 := fun _ => pq44_1
          exact J144 q44 H locs ls v72_2 hqq44 h0q44 iv72_2 (show (q44 29 = 0 ∧ q44 27 = q44 26 ∧ q44 28 = q44 26) ∨ (1 ≤ q44 29 ∧ q44 27 < q44 28 ∧ q44 28 ≤ q44 26) by omega) (show q44 30 = 0 → NL q44 by exact nlq44) (show q44 30 = 0 → q44 29 = 3 → q44 31 = 7237492 → q44 27 + 3 ≤ q44 28 by omega) (show q44 14 = q 14 ∧ q 27 ≤ q44 27 by omega) (show q44 30 = 0 → MB1 q44 (q 14 + 1) (q 15) by exact (fun z => MB1_mv (v72_inv4 (by omega)) bgq44 (by omega) (by omega) (by omega) (by omega) (by omega) (by omega) (by omega))) hH hS (lv_sub hl [0, 2] rfl)
    · skip
      have rlc26 : x25.toInt ≠ (0 : Int) := iv_ne c26
      have ir45 : IV x25 1 1 := iv_cutL ix25 (iv_c (by decide) : IV 0 0 0) c26 (by decide)
      have ir45a := ir45.1; have ir45b := ir45.2
      refine lv_aload_n hx hb dX11_readMap_84 rfl (lv_at hl 0 rfl) ?_
      refine lv_ldc2 (v := 26990) hx hb S.2.2.2.1 (S.2.2.2.2 _ gm_1460) dX11_readMap_85 ?_
      refine th_callVp (n := 1) (As := [.long 26990]) S hK hH hS (th_A.sub (by decide)) (m_X11_isWord l D cT T q72 hT hq72 a0 t0 (26990)) gm_1499 gm_1496 gm_1498 gm_52 gm_124 (by decide +kernel) ⟨rfl, rfl, Nat.le_of_ble_eq_true rfl, Nat.le_of_ble_eq_true rfl⟩ t0 km_0 rfl rfl hl.1 rfl (Nat.le_of_ble_eq_true rfl) dX11_readMap_88 ⟨Nat.zero_le _, Nat.zero_le _⟩ (fun x46 H locs ix46 ox46 hH hS hF1 => ?_)
      obtain ⟨ox46_0, ox46_1⟩ := ox46
      have ox46_0 : x46.toInt ≠ 0 → q72 29 = 3 ∧ q72 31 = (26990 : Int) := ox46_0
      have ox46_1 : x46.toInt = 0 → q72 29 ≠ 3 ∨ q72 31 ≠ (26990 : Int) := ox46_1
      have l1x46 := ix46.1; have l2x46 := ix46.2
      refine lv_if_eq (tgt := 106) hx hb dX11_readMap_91 (by decide) (fun c47 => ?_) (fun c47 => ?_)
      · skip
        have rlc47 : x46.toInt = (0 : Int) := congrArg Int32.toInt c47
        have ir48 : IV x46 0 0 := iv_eL c47 (iv_c (by decide) : IV 0 0 0)
        have ir48a := ir48.1; have ir48b := ir48.2
        refine lv_iconst (v := 0) hx hb dX11_readMap_106 (by decide) ?_
        refine th_iast S hK hH hS ⟨12, by decide, trf24⟩ trf24 km_12 (th_in (hi := 7) iv72_2 (by decide)) (th_iv (iv_top _)) dX11_readMap_107 (fun H locs hH hS hq1 => ?_)
        refine lv_aload_n hx hb dX11_readMap_108 rfl (lv_at hl 0 rfl) ?_
        refine th_callVp (n := 0) (As := []) S hK hH hS (th_A.sub (by decide)) (m_X11_isGood l D cT T q72 hT hq72 a0 t0) gm_1487 gm_1484 gm_1486 gm_49 gm_124 (by decide +kernel) ⟨rfl, rfl, Nat.le_of_ble_eq_true rfl, Nat.le_of_ble_eq_true rfl⟩ t0 km_0 rfl rfl hl.1 rfl (Nat.le_of_ble_eq_true rfl) dX11_readMap_109 ⟨Nat.zero_le _, Nat.zero_le _⟩ (fun x49 H locs ix49 ox49 hH hS hF1 => ?_)
        obtain ⟨ox49_0, ox49_1⟩ := ox49
        have ox49_0 : x49.toInt ≠ 0 → q72 30 = 0 := ox49_0
        have ox49_1 : x49.toInt = 0 → q72 30 ≠ 0 := ox49_1
        have l1x49 := ix49.1; have l2x49 := ix49.2
        refine lv_if_eq (tgt := 144) hx hb dX11_readMap_112 (by decide) (fun c50 => ?_) (fun c50 => ?_)
        · skip
          have rlc50 : x49.toInt = (0 : Int) := congrArg Int32.toInt c50
          have ir51 : IV x49 0 0 := iv_eL c50 (iv_c (by decide) : IV 0 0 0)
          have ir51a := ir51.1; have ir51b := ir51.2
          exact J144 q72 H locs ls v72_2 hq72 h072 iv72_2 (show (q72 29 = 0 ∧ q72 27 = q72 26 ∧ q72 28 = q72 26) ∨ (1 ≤ q72 29 ∧ q72 27 < q72 28 ∧ q72 28 ≤ q72 26) by omega) (show q72 30 = 0 → NL q72 by exact v72_inv1) (show q72 30 = 0 → q72 29 = 3 → q72 31 = 7237492 → q72 27 + 3 ≤ q72 28 by omega) (show q72 14 = q 14 ∧ q 27 ≤ q72 27 by omega) (show q72 30 = 0 → MB1 q72 (q 14 + 1) (q 15) by exact v72_inv4) hH hS (lv_sub hl [0, 2] rfl)
        · skip
          have rlc50 : x49.toInt ≠ (0 : Int) := iv_ne c50
          have ir52 : IV x49 1 1 := iv_cutL ix49 (iv_c (by decide) : IV 0 0 0) c50 (by decide)
          have ir52a := ir52.1; have ir52b := ir52.2
          refine lv_aload_n hx hb dX11_readMap_115 rfl (lv_at hl 0 rfl) ?_
          refine lv_ldc2 (v := 112628745921892) hx hb S.2.2.2.1 (S.2.2.2.2 _ gm_1461) dX11_readMap_116 ?_
          refine th_callVp (n := 1) (As := [.long 112628745921892]) S hK hH hS (th_A.sub (by decide)) (m_X11_isWord l D cT T q72 hT hq72 a0 t0 (112628745921892)) gm_1499 gm_1496 gm_1498 gm_52 gm_124 (by decide +kernel) ⟨rfl, rfl, Nat.le_of_ble_eq_true rfl, Nat.le_of_ble_eq_true rfl⟩ t0 km_0 rfl rfl hl.1 rfl (Nat.le_of_ble_eq_true rfl) dX11_readMap_119 ⟨Nat.zero_le _, Nat.zero_le _⟩ (fun x53 H locs ix53 ox53 hH hS hF1 => ?_)
          obtain ⟨ox53_0, ox53_1⟩ := ox53
          have ox53_0 : x53.toInt ≠ 0 → q72 29 = 3 ∧ q72 31 = (112628745921892 : Int) := ox53_0
          have ox53_1 : x53.toInt = 0 → q72 29 ≠ 3 ∨ q72 31 ≠ (112628745921892 : Int) := ox53_1
          have l1x53 := ix53.1; have l2x53 := ix53.2
          refine lv_if_eq (tgt := 144) hx hb dX11_readMap_122 (by decide) (fun c54 => ?_) (fun c54 => ?_)
          · skip
            have rlc54 : x53.toInt = (0 : Int) := congrArg Int32.toInt c54
            have ir55 : IV x53 0 0 := iv_eL c54 (iv_c (by decide) : IV 0 0 0)
            have ir55a := ir55.1; have ir55b := ir55.2
            exact J144 q72 H locs ls v72_2 hq72 h072 iv72_2 (show (q72 29 = 0 ∧ q72 27 = q72 26 ∧ q72 28 = q72 26) ∨ (1 ≤ q72 29 ∧ q72 27 < q72 28 ∧ q72 28 ≤ q72 26) by omega) (show q72 30 = 0 → NL q72 by exact v72_inv1) (show q72 30 = 0 → q72 29 = 3 → q72 31 = 7237492 → q72 27 + 3 ≤ q72 28 by omega) (show q72 14 = q 14 ∧ q 27 ≤ q72 27 by omega) (show q72 30 = 0 → MB1 q72 (q 14 + 1) (q 15) by exact v72_inv4) hH hS (lv_sub hl [0, 2] rfl)
          · skip
            have rlc54 : x53.toInt ≠ (0 : Int) := iv_ne c54
            have ir56 : IV x53 1 1 := iv_cutL ix53 (iv_c (by decide) : IV 0 0 0) c54 (by decide)
            have ir56a := ir56.1; have ir56b := ir56.2
            refine lv_aload_n hx hb dX11_readMap_125 rfl (lv_at hl 0 rfl) ?_
            refine th_get S hK hH inG11 t0 km_0 rfl 21 (by decide) gm_1251 rfl rfl dX11_readMap_126 (fun v57 hv57 fv57 => ?_)
            obtain ⟨rf58, rfl, trf58⟩ := th_V.ref hv57
            refine lv_aload_n hx hb dX11_readMap_129 rfl (lv_at hl 0 rfl) ?_
            refine th_get S hK hH inG11 t0 km_0 rfl 42 (by decide) gm_1272 rfl rfl dX11_readMap_130 (fun v59 hv59 fv59 => ?_)
            obtain ⟨x60, rfl, ix60⟩ := th_V.int hv59
            have kx60a : q72 13 ≤ x60.toInt := ix60.1
            have kx60b : x60.toInt ≤ q72 13 := ix60.2
            have bx60 := qkm_13 hq72
            have ix60 : IV x60 0 1 := iv_w ix60 (qkm_13 hq72)
            refine lv_dup2_11 hx hb dX11_readMap_133 rfl rfl ?_
            refine th_iald S hK hH trf58 km_13 (th_in (hi := 1) ix60 (by decide)) dX11_readMap_134 (fun v61 hv61 => ?_)
            obtain ⟨x62, rfl, ix62⟩ := th_V.int hv61
            refine lv_iconst (v := 1) hx hb dX11_readMap_135 (by decide) ?_
            refine lv_iload_n hx hb dX11_readMap_136 rfl (lv_at hl 1 rfl) ?_
            refine lv_ishl hx hb dX11_readMap_137 ?_
            refine lv_topi (fun x63 ex63 => ?_)
            have ix63 := iv_top x63
            have ix63 : IV x63 1 1073741824 := by rw [ex63]; exact iv_shl1 (iv_w iv72_1 (by decide))
            refine lv_ior hx hb dX11_readMap_138 ?_
            refine lv_topi (fun x64 ex64 => ?_)
            have ix64 := iv_top x64
            refine th_iast S hK hH hS ⟨13, by decide, trf58⟩ trf58 km_13 (th_in (hi := 1) ix60 (by decide)) (th_iv ix64) dX11_readMap_139 (fun H locs hH hS hq1 => ?_)
            refine lv_aload_n hx hb dX11_readMap_140 rfl (lv_at hl 0 rfl) ?_
            refine th_callVM (n := 0) (As := []) S hK hH hS (th_A.sub (by decide)) (m_X11_goOn l D cT T q72 hT hq72 a0 t0 (show q72 28 ≤ q72 26 by omega)) gm_1445 gm_1442 gm_1444 gm_47 gm_124 (by decide +kernel) ⟨rfl, rfl, Nat.le_of_ble_eq_true rfl, Nat.le_of_ble_eq_true rfl⟩ t0 km_0 rfl rfl hl.1 rfl (Nat.le_of_ble_eq_true rfl) dX11_readMap_141 ⟨Nat.zero_le _, Nat.zero_le _⟩ (fun wq65 q65 H locs hEq65 hH hS hF1 => ?_)
            obtain ⟨rfl, hqq65, g0q65, pq65_0, pq65_1, pq65_2, pq65_3, pq65_4⟩ := hEq65
            show W p l e (rmk 6 128) s m [.ref a0].toArray below meth c H locs 0 0 (MQ below (th_QM D cT T (fun v q2 => v = none ∧ qkm q2 ∧ fr [14, 20, 21, 22, 23, 24, 27, 28, 29, 30, 31, 1000, 35] q q2 ∧ ((q2 29 = 0 ∧ q2 27 = q2 26 ∧ q2 28 = q2 26) ∨ (1 ≤ q2 29 ∧ q2 27 < q2 28 ∧ q2 28 ≤ q2 26)) ∧ (q2 30 = 0 → NL q2) ∧ (q2 30 = 0 → q2 29 = 3 → q2 31 = 7237492 → q2 27 + 3 ≤ q2 28) ∧ (q 27 ≤ q2 27) ∧ (q2 30 = 0 → MB1 q2 (q2 14) (q2 15))) [0, 4, 8, 11, 12, 13, 14, 18, 19, 20, 21, 26, 28, 29, 30, 31]) [.ref a0].toArray s 0 0 (th_A T [0, 4, 8, 11, 12, 13, 14, 18, 19, 20, 21, 26, 28, 29, 30, 31])) (F0 m 144 ls [])
            have pq65_0 : (q65 29 = 0 ∧ q65 27 = q65 26 ∧ q65 28 = q65 26) ∨ (1 ≤ q65 29 ∧ q65 27 < q65 28 ∧ q65 28 ≤ q65 26) := pq65_0
            have pq65_1 : q65 29 = 3 → sg q65 (q65 28) < 97 ∨ 122 < sg q65 (q65 28) := pq65_1
            have pq65_2 : q65 29 = 3 → q65 31 = 7237492 → q65 27 + 3 ≤ q65 28 := pq65_2
            have pq65_3 : q72 28 ≤ q65 27 := pq65_3
            have pq65_4 : q65 29 = 3 → 97 ≤ sg q72 (q65 27) ∧ sg q72 (q65 27) ≤ 122 := pq65_4
            have wq65_10 : q65 10 = q72 10 := g0q65 10 (by decide) (Or.inl (by decide))
            have wq65_13 : q65 13 = q72 13 := g0q65 13 (by decide) (Or.inl (by decide))
            have wq65_14 : q65 14 = q72 14 := g0q65 14 (by decide) (Or.inl (by decide))
            have wq65_15 : q65 15 = q72 15 := g0q65 15 (by decide) (Or.inl (by decide))
            have wq65_20 : q65 20 = q72 20 := g0q65 20 (by decide) (Or.inl (by decide))
            have wq65_21 : q65 21 = q72 21 := g0q65 21 (by decide) (Or.inl (by decide))
            have wq65_22 : q65 22 = q72 22 := g0q65 22 (by decide) (Or.inl (by decide))
            have wq65_23 : q65 23 = q72 23 := g0q65 23 (by decide) (Or.inl (by decide))
            have wq65_24 : q65 24 = q72 24 := g0q65 24 (by decide) (Or.inl (by decide))
            have wq65_26 : q65 26 = q72 26 := g0q65 26 (by decide) (Or.inl (by decide))
            have wq65_30 : q65 30 = q72 30 := g0q65 30 (by decide) (Or.inl (by decide))
            have wq65_35 : q65 35 = q72 35 := g0q65 35 (by decide) (Or.inl (by decide))
            have h0q65 : fr [14, 20, 21, 22, 23, 24, 27, 28, 29, 30, 31, 1000, 35] q q65 := fr_tr h072 g0q65 (by decide)
            have bgq65 : bg q72 q65 := bg_fr bg_rf g0q65 (by decide)
            have nlq65 : q65 30 = 0 → NL q65 := fun _ => pq65_1
            exact J144 q65 H locs ls v72_2 hqq65 h0q65 iv72_2 (show (q65 29 = 0 ∧ q65 27 = q65 26 ∧ q65 28 = q65 26) ∨ (1 ≤ q65 29 ∧ q65 27 < q65 28 ∧ q65 28 ≤ q65 26) by omega) (show q65 30 = 0 → NL q65 by exact nlq65) (show q65 30 = 0 → q65 29 = 3 → q65 31 = 7237492 → q65 27 + 3 ≤ q65 28 by omega) (show q65 14 = q 14 ∧ q 27 ≤ q65 27 by omega) (show q65 30 = 0 → MB1 q65 (q 14 + 1) (q 15) by exact (fun z => MB1_mv (v72_inv4 (by omega)) bgq65 (by omega) (by omega) (by omega) (by omega) (by omega) (by omega) (by omega))) hH hS (lv_sub hl [0, 2] rfl)
      · skip
        have rlc47 : x46.toInt ≠ (0 : Int) := iv_ne c47
        have ir66 : IV x46 1 1 := iv_cutL ix46 (iv_c (by decide) : IV 0 0 0) c47 (by decide)
        have ir66a := ir66.1; have ir66b := ir66.2
        refine lv_aload_n hx hb dX11_readMap_94 rfl (lv_at hl 0 rfl) ?_
        refine lv_ldc2 (v := 26990) hx hb S.2.2.2.1 (S.2.2.2.2 _ gm_1460) dX11_readMap_95 ?_
        refine lv_iconst (v := 0) hx hb dX11_readMap_98 (by decide) ?_
        refine lv_iconst (v := 3) hx hb dX11_readMap_99 (by decide) ?_
        refine th_callVM (n := 3) (As := [.long 26990, .int 0, .int 3]) S hK hH hS (th_A.sub (by decide)) (m_X11_after l D cT T q72 hT hq72 a0 t0 (26990) (0) (iv_top _) (3) (iv_top _) (show (q72 29 = 0 ∧ q72 27 = q72 26 ∧ q72 28 = q72 26) ∨ (1 ≤ q72 29 ∧ q72 27 < q72 28 ∧ q72 28 ≤ q72 26) by omega)) gm_1539 gm_1536 gm_1538 gm_62 gm_124 (by decide +kernel) ⟨rfl, rfl, Nat.le_of_ble_eq_true rfl, Nat.le_of_ble_eq_true rfl⟩ t0 km_0 rfl rfl hl.1 rfl (Nat.le_of_ble_eq_true rfl) dX11_readMap_100 ⟨Nat.zero_le _, Nat.zero_le _⟩ (fun wq67 q67 H locs hEq67 hH hS hF1 => ?_)
        obtain ⟨x68, rfl, ix68, hqq67, g0q67, pq67_0, pq67_1, pq67_2, pq67_3, pq67_4⟩ := hEq67
        show W p l e (rmk 6 128) s m [.ref a0].toArray below meth c H locs 0 0 (MQ below (th_QM D cT T (fun v q2 => v = none ∧ qkm q2 ∧ fr [14, 20, 21, 22, 23, 24, 27, 28, 29, 30, 31, 1000, 35] q q2 ∧ ((q2 29 = 0 ∧ q2 27 = q2 26 ∧ q2 28 = q2 26) ∨ (1 ≤ q2 29 ∧ q2 27 < q2 28 ∧ q2 28 ≤ q2 26)) ∧ (q2 30 = 0 → NL q2) ∧ (q2 30 = 0 → q2 29 = 3 → q2 31 = 7237492 → q2 27 + 3 ≤ q2 28) ∧ (q 27 ≤ q2 27) ∧ (q2 30 = 0 → MB1 q2 (q2 14) (q2 15))) [0, 4, 8, 11, 12, 13, 14, 18, 19, 20, 21, 26, 28, 29, 30, 31]) [.ref a0].toArray s 0 0 (th_A T [0, 4, 8, 11, 12, 13, 14, 18, 19, 20, 21, 26, 28, 29, 30, 31])) (F0 m 103 ls [.int x68, .int v72_2, .ref rf24])
        have pq67_0 : (q67 29 = 0 ∧ q67 27 = q67 26 ∧ q67 28 = q67 26) ∨ (1 ≤ q67 29 ∧ q67 27 < q67 28 ∧ q67 28 ≤ q67 26) := pq67_0
        have pq67_1 : q67 30 = 0 → q67 29 = 3 → sg q67 (q67 28) < 97 ∨ 122 < sg q67 (q67 28) := pq67_1
        have pq67_2 : q67 30 = 0 → q67 29 = 3 → q67 31 = 7237492 → q67 27 + 3 ≤ q67 28 := pq67_2
        have pq67_3 : q72 27 ≤ q67 27 := pq67_3
        have pq67_4 : q67 30 = 0 → q72 30 = 0 ∧ q72 28 ≤ q67 27 ∧ q72 29 ≠ 0 := pq67_4
        have wq67_10 : q67 10 = q72 10 := g0q67 10 (by decide) (Or.inl (by decide))
        have wq67_13 : q67 13 = q72 13 := g0q67 13 (by decide) (Or.inl (by decide))
        have wq67_14 : q67 14 = q72 14 := g0q67 14 (by decide) (Or.inl (by decide))
        have wq67_15 : q67 15 = q72 15 := g0q67 15 (by decide) (Or.inl (by decide))
        have wq67_20 : q67 20 = q72 20 := g0q67 20 (by decide) (Or.inl (by decide))
        have wq67_21 : q67 21 = q72 21 := g0q67 21 (by decide) (Or.inl (by decide))
        have wq67_22 : q67 22 = q72 22 := g0q67 22 (by decide) (Or.inl (by decide))
        have wq67_23 : q67 23 = q72 23 := g0q67 23 (by decide) (Or.inl (by decide))
        have wq67_24 : q67 24 = q72 24 := g0q67 24 (by decide) (Or.inl (by decide))
        have wq67_26 : q67 26 = q72 26 := g0q67 26 (by decide) (Or.inl (by decide))
        have wq67_35 : q67 35 = q72 35 := g0q67 35 (by decide) (Or.inl (by decide))
        have h0q67 : fr [14, 20, 21, 22, 23, 24, 27, 28, 29, 30, 31, 1000, 35] q q67 := fr_tr h072 g0q67 (by decide)
        have bgq67 : bg q72 q67 := bg_fr bg_rf g0q67 (by decide)
        have nlq67 : q67 30 = 0 → NL q67 := pq67_1
        refine lv_goto (tgt := 107) hx hb dX11_readMap_103 (by decide) ?_
        refine th_iast S hK hH hS ⟨12, by decide, trf24⟩ trf24 km_12 (th_in (hi := 7) iv72_2 (by decide)) (th_iv ix68) dX11_readMap_107 (fun H locs hH hS hq1 => ?_)
        refine lv_aload_n hx hb dX11_readMap_108 rfl (lv_at hl 0 rfl) ?_
        refine th_callVp (n := 0) (As := []) S hK hH hS (th_A.sub (by decide)) (m_X11_isGood l D cT T q67 hT hqq67 a0 t0) gm_1487 gm_1484 gm_1486 gm_49 gm_124 (by decide +kernel) ⟨rfl, rfl, Nat.le_of_ble_eq_true rfl, Nat.le_of_ble_eq_true rfl⟩ t0 km_0 rfl rfl hl.1 rfl (Nat.le_of_ble_eq_true rfl) dX11_readMap_109 ⟨Nat.zero_le _, Nat.zero_le _⟩ (fun x69 H locs ix69 ox69 hH hS hF1 => ?_)
        obtain ⟨ox69_0, ox69_1⟩ := ox69
        have ox69_0 : x69.toInt ≠ 0 → q67 30 = 0 := ox69_0
        have ox69_1 : x69.toInt = 0 → q67 30 ≠ 0 := ox69_1
        have l1x69 := ix69.1; have l2x69 := ix69.2
        refine lv_if_eq (tgt := 144) hx hb dX11_readMap_112 (by decide) (fun c70 => ?_) (fun c70 => ?_)
        · skip
          have rlc70 : x69.toInt = (0 : Int) := congrArg Int32.toInt c70
          have ir71 : IV x69 0 0 := iv_eL c70 (iv_c (by decide) : IV 0 0 0)
          have ir71a := ir71.1; have ir71b := ir71.2
          exact J144 q67 H locs ls v72_2 hqq67 h0q67 iv72_2 (show (q67 29 = 0 ∧ q67 27 = q67 26 ∧ q67 28 = q67 26) ∨ (1 ≤ q67 29 ∧ q67 27 < q67 28 ∧ q67 28 ≤ q67 26) by omega) (show q67 30 = 0 → NL q67 by exact nlq67) (show q67 30 = 0 → q67 29 = 3 → q67 31 = 7237492 → q67 27 + 3 ≤ q67 28 by omega) (show q67 14 = q 14 ∧ q 27 ≤ q67 27 by omega) (show q67 30 = 0 → MB1 q67 (q 14 + 1) (q 15) by exact (fun z => MB1_mv (v72_inv4 (by omega)) bgq67 (by omega) (by omega) (by omega) (by omega) (by omega) (by omega) (by omega))) hH hS (lv_sub hl [0, 2] rfl)
        · skip
          have rlc70 : x69.toInt ≠ (0 : Int) := iv_ne c70
          have ir72 : IV x69 1 1 := iv_cutL ix69 (iv_c (by decide) : IV 0 0 0) c70 (by decide)
          have ir72a := ir72.1; have ir72b := ir72.2
          refine lv_aload_n hx hb dX11_readMap_115 rfl (lv_at hl 0 rfl) ?_
          refine lv_ldc2 (v := 112628745921892) hx hb S.2.2.2.1 (S.2.2.2.2 _ gm_1461) dX11_readMap_116 ?_
          refine th_callVp (n := 1) (As := [.long 112628745921892]) S hK hH hS (th_A.sub (by decide)) (m_X11_isWord l D cT T q67 hT hqq67 a0 t0 (112628745921892)) gm_1499 gm_1496 gm_1498 gm_52 gm_124 (by decide +kernel) ⟨rfl, rfl, Nat.le_of_ble_eq_true rfl, Nat.le_of_ble_eq_true rfl⟩ t0 km_0 rfl rfl hl.1 rfl (Nat.le_of_ble_eq_true rfl) dX11_readMap_119 ⟨Nat.zero_le _, Nat.zero_le _⟩ (fun x73 H locs ix73 ox73 hH hS hF1 => ?_)
          obtain ⟨ox73_0, ox73_1⟩ := ox73
          have ox73_0 : x73.toInt ≠ 0 → q67 29 = 3 ∧ q67 31 = (112628745921892 : Int) := ox73_0
          have ox73_1 : x73.toInt = 0 → q67 29 ≠ 3 ∨ q67 31 ≠ (112628745921892 : Int) := ox73_1
          have l1x73 := ix73.1; have l2x73 := ix73.2
          refine lv_if_eq (tgt := 144) hx hb dX11_readMap_122 (by decide) (fun c74 => ?_) (fun c74 => ?_)
          · skip
            have rlc74 : x73.toInt = (0 : Int) := congrArg Int32.toInt c74
            have ir75 : IV x73 0 0 := iv_eL c74 (iv_c (by decide) : IV 0 0 0)
            have ir75a := ir75.1; have ir75b := ir75.2
            exact J144 q67 H locs ls v72_2 hqq67 h0q67 iv72_2 (show (q67 29 = 0 ∧ q67 27 = q67 26 ∧ q67 28 = q67 26) ∨ (1 ≤ q67 29 ∧ q67 27 < q67 28 ∧ q67 28 ≤ q67 26) by omega) (show q67 30 = 0 → NL q67 by exact nlq67) (show q67 30 = 0 → q67 29 = 3 → q67 31 = 7237492 → q67 27 + 3 ≤ q67 28 by omega) (show q67 14 = q 14 ∧ q 27 ≤ q67 27 by omega) (show q67 30 = 0 → MB1 q67 (q 14 + 1) (q 15) by exact (fun z => MB1_mv (v72_inv4 (by omega)) bgq67 (by omega) (by omega) (by omega) (by omega) (by omega) (by omega) (by omega))) hH hS (lv_sub hl [0, 2] rfl)
          · skip
            have rlc74 : x73.toInt ≠ (0 : Int) := iv_ne c74
            have ir76 : IV x73 1 1 := iv_cutL ix73 (iv_c (by decide) : IV 0 0 0) c74 (by decide)
            have ir76a := ir76.1; have ir76b := ir76.2
            refine lv_aload_n hx hb dX11_readMap_125 rfl (lv_at hl 0 rfl) ?_
            refine th_get S hK hH inG11 t0 km_0 rfl 21 (by decide) gm_1251 rfl rfl dX11_readMap_126 (fun v77 hv77 fv77 => ?_)
            obtain ⟨rf78, rfl, trf78⟩ := th_V.ref hv77
            refine lv_aload_n hx hb dX11_readMap_129 rfl (lv_at hl 0 rfl) ?_
            refine th_get S hK hH inG11 t0 km_0 rfl 42 (by decide) gm_1272 rfl rfl dX11_readMap_130 (fun v79 hv79 fv79 => ?_)
            obtain ⟨x80, rfl, ix80⟩ := th_V.int hv79
            have kx80a : q67 13 ≤ x80.toInt := ix80.1
            have kx80b : x80.toInt ≤ q67 13 := ix80.2
            have bx80 := qkm_13 hqq67
            have ix80 : IV x80 0 1 := iv_w ix80 (qkm_13 hqq67)
            refine lv_dup2_11 hx hb dX11_readMap_133 rfl rfl ?_
            refine th_iald S hK hH trf78 km_13 (th_in (hi := 1) ix80 (by decide)) dX11_readMap_134 (fun v81 hv81 => ?_)
            obtain ⟨x82, rfl, ix82⟩ := th_V.int hv81
            refine lv_iconst (v := 1) hx hb dX11_readMap_135 (by decide) ?_
            refine lv_iload_n hx hb dX11_readMap_136 rfl (lv_at hl 1 rfl) ?_
            refine lv_ishl hx hb dX11_readMap_137 ?_
            refine lv_topi (fun x83 ex83 => ?_)
            have ix83 := iv_top x83
            have ix83 : IV x83 1 1073741824 := by rw [ex83]; exact iv_shl1 (iv_w iv72_1 (by decide))
            refine lv_ior hx hb dX11_readMap_138 ?_
            refine lv_topi (fun x84 ex84 => ?_)
            have ix84 := iv_top x84
            refine th_iast S hK hH hS ⟨13, by decide, trf78⟩ trf78 km_13 (th_in (hi := 1) ix80 (by decide)) (th_iv ix84) dX11_readMap_139 (fun H locs hH hS hq1 => ?_)
            refine lv_aload_n hx hb dX11_readMap_140 rfl (lv_at hl 0 rfl) ?_
            refine th_callVM (n := 0) (As := []) S hK hH hS (th_A.sub (by decide)) (m_X11_goOn l D cT T q67 hT hqq67 a0 t0 (show q67 28 ≤ q67 26 by omega)) gm_1445 gm_1442 gm_1444 gm_47 gm_124 (by decide +kernel) ⟨rfl, rfl, Nat.le_of_ble_eq_true rfl, Nat.le_of_ble_eq_true rfl⟩ t0 km_0 rfl rfl hl.1 rfl (Nat.le_of_ble_eq_true rfl) dX11_readMap_141 ⟨Nat.zero_le _, Nat.zero_le _⟩ (fun wq85 q85 H locs hEq85 hH hS hF1 => ?_)
            obtain ⟨rfl, hqq85, g0q85, pq85_0, pq85_1, pq85_2, pq85_3, pq85_4⟩ := hEq85
            show W p l e (rmk 6 128) s m [.ref a0].toArray below meth c H locs 0 0 (MQ below (th_QM D cT T (fun v q2 => v = none ∧ qkm q2 ∧ fr [14, 20, 21, 22, 23, 24, 27, 28, 29, 30, 31, 1000, 35] q q2 ∧ ((q2 29 = 0 ∧ q2 27 = q2 26 ∧ q2 28 = q2 26) ∨ (1 ≤ q2 29 ∧ q2 27 < q2 28 ∧ q2 28 ≤ q2 26)) ∧ (q2 30 = 0 → NL q2) ∧ (q2 30 = 0 → q2 29 = 3 → q2 31 = 7237492 → q2 27 + 3 ≤ q2 28) ∧ (q 27 ≤ q2 27) ∧ (q2 30 = 0 → MB1 q2 (q2 14) (q2 15))) [0, 4, 8, 11, 12, 13, 14, 18, 19, 20, 21, 26, 28, 29, 30, 31]) [.ref a0].toArray s 0 0 (th_A T [0, 4, 8, 11, 12, 13, 14, 18, 19, 20, 21, 26, 28, 29, 30, 31])) (F0 m 144 ls [])
            have pq85_0 : (q85 29 = 0 ∧ q85 27 = q85 26 ∧ q85 28 = q85 26) ∨ (1 ≤ q85 29 ∧ q85 27 < q85 28 ∧ q85 28 ≤ q85 26) := pq85_0
            have pq85_1 : q85 29 = 3 → sg q85 (q85 28) < 97 ∨ 122 < sg q85 (q85 28) := pq85_1
            have pq85_2 : q85 29 = 3 → q85 31 = 7237492 → q85 27 + 3 ≤ q85 28 := pq85_2
            have pq85_3 : q67 28 ≤ q85 27 := pq85_3
            have pq85_4 : q85 29 = 3 → 97 ≤ sg q67 (q85 27) ∧ sg q67 (q85 27) ≤ 122 := pq85_4
            have wq85_10 : q85 10 = q67 10 := g0q85 10 (by decide) (Or.inl (by decide))
            have wq85_13 : q85 13 = q67 13 := g0q85 13 (by decide) (Or.inl (by decide))
            have wq85_14 : q85 14 = q67 14 := g0q85 14 (by decide) (Or.inl (by decide))
            have wq85_15 : q85 15 = q67 15 := g0q85 15 (by decide) (Or.inl (by decide))
            have wq85_20 : q85 20 = q67 20 := g0q85 20 (by decide) (Or.inl (by decide))
            have wq85_21 : q85 21 = q67 21 := g0q85 21 (by decide) (Or.inl (by decide))
            have wq85_22 : q85 22 = q67 22 := g0q85 22 (by decide) (Or.inl (by decide))
            have wq85_23 : q85 23 = q67 23 := g0q85 23 (by decide) (Or.inl (by decide))
            have wq85_24 : q85 24 = q67 24 := g0q85 24 (by decide) (Or.inl (by decide))
            have wq85_26 : q85 26 = q67 26 := g0q85 26 (by decide) (Or.inl (by decide))
            have wq85_30 : q85 30 = q67 30 := g0q85 30 (by decide) (Or.inl (by decide))
            have wq85_35 : q85 35 = q67 35 := g0q85 35 (by decide) (Or.inl (by decide))
            have h0q85 : fr [14, 20, 21, 22, 23, 24, 27, 28, 29, 30, 31, 1000, 35] q q85 := fr_tr h0q67 g0q85 (by decide)
            have bgq85 : bg q72 q85 := bg_fr bgq67 g0q85 (by decide)
            have nlq85 : q85 30 = 0 → NL q85 := fun _ => pq85_1
            exact J144 q85 H locs ls v72_2 hqq85 h0q85 iv72_2 (show (q85 29 = 0 ∧ q85 27 = q85 26 ∧ q85 28 = q85 26) ∨ (1 ≤ q85 29 ∧ q85 27 < q85 28 ∧ q85 28 ≤ q85 26) by omega) (show q85 30 = 0 → NL q85 by exact nlq85) (show q85 30 = 0 → q85 29 = 3 → q85 31 = 7237492 → q85 27 + 3 ≤ q85 28 by omega) (show q85 14 = q 14 ∧ q 27 ≤ q85 27 by omega) (show q85 30 = 0 → MB1 q85 (q 14 + 1) (q 15) by exact (fun z => MB1_mv (v72_inv4 (by omega)) bgq85 (by omega) (by omega) (by omega) (by omega) (by omega) (by omega) (by omega))) hH hS (lv_sub hl [0, 2] rfl)
  have J0 : ∀ (H : Heap) (locs : List Loc) (ls : Array Slot), th_H D cT T (km q) H → va_S (th_A T [0, 4, 8, 11, 12, 13, 14, 18, 19, 20, 21, 26, 28, 29, 30, 31]) s.heap H locs → lv_has ls 4 [(0, .ref a0)] → W p l e (rmk 6 128) s m [.ref a0].toArray below meth c H locs 0 0 (MQ below (th_QM D cT T (fun v q2 => v = none ∧ qkm q2 ∧ fr [14, 20, 21, 22, 23, 24, 27, 28, 29, 30, 31, 1000, 35] q q2 ∧ ((q2 29 = 0 ∧ q2 27 = q2 26 ∧ q2 28 = q2 26) ∨ (1 ≤ q2 29 ∧ q2 27 < q2 28 ∧ q2 28 ≤ q2 26)) ∧ (q2 30 = 0 → NL q2) ∧ (q2 30 = 0 → q2 29 = 3 → q2 31 = 7237492 → q2 27 + 3 ≤ q2 28) ∧ (q 27 ≤ q2 27) ∧ (q2 30 = 0 → MB1 q2 (q2 14) (q2 15))) [0, 4, 8, 11, 12, 13, 14, 18, 19, 20, 21, 26, 28, 29, 30, 31]) [.ref a0].toArray s 0 0 (th_A T [0, 4, 8, 11, 12, 13, 14, 18, 19, 20, 21, 26, 28, 29, 30, 31])) (F0 m 0 ls []) := by
    intro H locs ls hH hS hl
    refine lv_aload_n hx hb dX11_readMap_0 rfl (lv_at hl 0 rfl) ?_
    refine th_get S hK hH inG11 t0 km_0 rfl 12 (by decide) gm_1242 rfl rfl dX11_readMap_1 (fun v86 hv86 fv86 => ?_)
    obtain ⟨rf87, rfl, trf87⟩ := th_V.ref hv86
    refine lv_aload_n hx hb dX11_readMap_4 rfl (lv_at hl 0 rfl) ?_
    refine th_get S hK hH inG11 t0 km_0 rfl 42 (by decide) gm_1272 rfl rfl dX11_readMap_5 (fun v88 hv88 fv88 => ?_)
    obtain ⟨x89, rfl, ix89⟩ := th_V.int hv88
    have kx89a : q 13 ≤ x89.toInt := ix89.1
    have kx89b : x89.toInt ≤ q 13 := ix89.2
    have bx89 := qkm_13 hq
    have ix89 : IV x89 0 1 := iv_w ix89 (qkm_13 hq)
    refine th_iald S hK hH trf87 km_4 (th_in (hi := 1) ix89 (by decide)) dX11_readMap_8 (fun v90 hv90 => ?_)
    obtain ⟨x91, rfl, ix91⟩ := th_bkB hv90 ix89 (by omega)
    have kx91a : q 14 ≤ x91.toInt := ix91.1
    have kx91b : x91.toInt ≤ q 14 := ix91.2
    have bx91 := qkm_14 hq
    have ix91 : IV x91 0 3 := iv_w ix91 ⟨by omega, by omega⟩
    refine lv_istore_n (lv' := [(1, .int x91), (0, .ref a0)]) hx hb dX11_readMap_9 rfl hl (by decide) rfl (fun ls hl => ?_)
    refine lv_iconst (v := 4) hx hb dX11_readMap_10 (by decide) ?_
    refine lv_aload_n hx hb dX11_readMap_11 rfl (lv_at hl 1 rfl) ?_
    refine th_get S hK hH inG11 t0 km_0 rfl 42 (by decide) gm_1272 rfl rfl dX11_readMap_12 (fun v92 hv92 fv92 => ?_)
    obtain ⟨x93, rfl, ix93⟩ := th_V.int hv92
    have kx93a : q 13 ≤ x93.toInt := ix93.1
    have kx93b : x93.toInt ≤ q 13 := ix93.2
    have bx93 := qkm_13 hq
    have ix93 : IV x93 0 1 := iv_w ix93 (qkm_13 hq)
    refine lv_imul hx hb dX11_readMap_15 ?_
    refine lv_topi (fun x94 ex94 => ?_)
    have ix94 : IV x94 0 4 := by rw [ex94]; exact iv_mul (iv_c (by decide) : IV 4 4 4) ix93 (by decide) (by decide)
    have ux94 : x94.toInt = (4 : Int) * x93.toInt := by rw [ex94]; exact iv_mulE (iv_corner ((iv_c (by decide) : IV 4 4 4)).1 ((iv_c (by decide) : IV 4 4 4)).2 (ix93).1 (ix93).2 (by decide))
    refine lv_iload_n hx hb dX11_readMap_16 rfl (lv_at hl 0 rfl) ?_
    refine lv_iadd hx hb dX11_readMap_17 ?_
    refine lv_topi (fun x95 ex95 => ?_)
    have ix95 : IV x95 0 7 := by rw [ex95]; exact iv_add ix94 ix91 (by decide)
    have ux95 : x95.toInt = x94.toInt + x91.toInt := by rw [ex95]; exact iv_addE (by have z1 := (ix94).1; have z2 := (ix94).2; have z3 := (ix91).1; have z4 := (ix91).2; omega)
    refine lv_istore_n (lv' := [(2, .int x95), (1, .int x91), (0, .ref a0)]) hx hb dX11_readMap_18 rfl hl (by decide) rfl (fun ls hl => ?_)
    refine lv_aload_n hx hb dX11_readMap_19 rfl (lv_at hl 2 rfl) ?_
    refine th_get S hK hH inG11 t0 km_0 rfl 34 (by decide) gm_1264 rfl rfl dX11_readMap_20 (fun v96 hv96 fv96 => ?_)
    obtain ⟨rf97, rfl, trf97⟩ := th_V.ref hv96
    refine lv_iload_n hx hb dX11_readMap_23 rfl (lv_at hl 0 rfl) ?_
    refine lv_aload_n hx hb dX11_readMap_24 rfl (lv_at hl 2 rfl) ?_
    refine lv_aload_n hx hb dX11_readMap_25 rfl (lv_at hl 2 rfl) ?_
    refine th_callVi (n := 0) (As := []) S hK hH hS (th_A.sub (by decide)) (m_X11_mapHere l D cT T q hT hq a0 t0) gm_1535 gm_1532 gm_1534 gm_61 gm_124 (by decide +kernel) ⟨rfl, rfl, Nat.le_of_ble_eq_true rfl, Nat.le_of_ble_eq_true rfl⟩ t0 km_0 rfl rfl hl.1 rfl (Nat.le_of_ble_eq_true rfl) dX11_readMap_26 ⟨Nat.zero_le _, Nat.zero_le _⟩ (fun x98 H locs ix98 hH hS hF1 => ?_)
    have l1x98 := ix98.1; have l2x98 := ix98.2
    have f99 := fv86.kept (hF1 _ fv86.lt (th_off t0 (by decide)))
    refine th_callVM (n := 1) (As := [.int x98]) S hK hH hS (th_A.sub (by decide)) (m_X11_fresh l D cT T q hT hq a0 t0 (x98) (iv_top _) (show (q 29 = 0 ∧ q 27 = q 26 ∧ q 28 = q 26) ∨ (1 ≤ q 29 ∧ q 27 < q 28 ∧ q 28 ≤ q 26) by omega)) gm_1523 gm_1520 gm_1522 gm_58 gm_124 (by decide +kernel) ⟨rfl, rfl, Nat.le_of_ble_eq_true rfl, Nat.le_of_ble_eq_true rfl⟩ t0 km_0 rfl rfl hl.1 rfl (Nat.le_of_ble_eq_true rfl) dX11_readMap_29 ⟨Nat.zero_le _, Nat.zero_le _⟩ (fun wq100 q100 H locs hEq100 hH hS hF1 => ?_)
    obtain ⟨⟨lg101, rfl⟩, hqq100, g0q100, pq100_0, pq100_1, pq100_2, pq100_3, pq100_4⟩ := hEq100
    show W p l e (rmk 6 128) s m [.ref a0].toArray below meth c H locs 0 0 (MQ below (th_QM D cT T (fun v q2 => v = none ∧ qkm q2 ∧ fr [14, 20, 21, 22, 23, 24, 27, 28, 29, 30, 31, 1000, 35] q q2 ∧ ((q2 29 = 0 ∧ q2 27 = q2 26 ∧ q2 28 = q2 26) ∨ (1 ≤ q2 29 ∧ q2 27 < q2 28 ∧ q2 28 ≤ q2 26)) ∧ (q2 30 = 0 → NL q2) ∧ (q2 30 = 0 → q2 29 = 3 → q2 31 = 7237492 → q2 27 + 3 ≤ q2 28) ∧ (q 27 ≤ q2 27) ∧ (q2 30 = 0 → MB1 q2 (q2 14) (q2 15))) [0, 4, 8, 11, 12, 13, 14, 18, 19, 20, 21, 26, 28, 29, 30, 31]) [.ref a0].toArray s 0 0 (th_A T [0, 4, 8, 11, 12, 13, 14, 18, 19, 20, 21, 26, 28, 29, 30, 31])) (F0 m 32 ls [.long lg101, .int x95, .ref rf97])
    have pq100_0 : (q100 29 = 0 ∧ q100 27 = q100 26 ∧ q100 28 = q100 26) ∨ (1 ≤ q100 29 ∧ q100 27 < q100 28 ∧ q100 28 ≤ q100 26) := pq100_0
    have pq100_1 : q100 30 = 0 → q100 29 = 3 → sg q100 (q100 28) < 97 ∨ 122 < sg q100 (q100 28) := pq100_1
    have pq100_2 : q100 30 = 0 → q100 29 = 3 → q100 31 = 7237492 → q100 27 + 3 ≤ q100 28 := pq100_2
    have pq100_3 : q 27 ≤ q100 27 := pq100_3
    have pq100_4 : q100 30 = 0 → q 30 = 0 ∧ q 28 ≤ q100 27 ∧ q 29 ≠ 0 := pq100_4
    have wq100_10 : q100 10 = q 10 := g0q100 10 (by decide) (Or.inl (by decide))
    have wq100_13 : q100 13 = q 13 := g0q100 13 (by decide) (Or.inl (by decide))
    have wq100_14 : q100 14 = q 14 := g0q100 14 (by decide) (Or.inl (by decide))
    have wq100_15 : q100 15 = q 15 := g0q100 15 (by decide) (Or.inl (by decide))
    have wq100_20 : q100 20 = q 20 := g0q100 20 (by decide) (Or.inl (by decide))
    have wq100_21 : q100 21 = q 21 := g0q100 21 (by decide) (Or.inl (by decide))
    have wq100_22 : q100 22 = q 22 := g0q100 22 (by decide) (Or.inl (by decide))
    have wq100_23 : q100 23 = q 23 := g0q100 23 (by decide) (Or.inl (by decide))
    have wq100_24 : q100 24 = q 24 := g0q100 24 (by decide) (Or.inl (by decide))
    have wq100_26 : q100 26 = q 26 := g0q100 26 (by decide) (Or.inl (by decide))
    have wq100_35 : q100 35 = q 35 := g0q100 35 (by decide) (Or.inl (by decide))
    have h0q100 : fr [14, 20, 21, 22, 23, 24, 27, 28, 29, 30, 31, 1000, 35] q q100 := fr_tr fr_rf g0q100 (by decide)
    have bgq100 : bg q q100 := bg_fr bg_rf g0q100 (by decide)
    have nlq100 : q100 30 = 0 → NL q100 := pq100_1
    refine th_last S hK hH hS ⟨26, by decide, trf97⟩ trf97 km_26 (th_in (hi := 7) ix95 (by decide)) (th_lg _) dX11_readMap_32 (fun H locs hH hS hq1 => ?_)
    refine lv_aload_n hx hb dX11_readMap_33 rfl (lv_at hl 2 rfl) ?_
    refine th_get S hK hH inG11 t0 km_0 rfl 19 (by decide) gm_1249 rfl rfl dX11_readMap_34 (fun v102 hv102 fv102 => ?_)
    obtain ⟨rf103, rfl, trf103⟩ := th_V.ref hv102
    refine lv_iload_n hx hb dX11_readMap_37 rfl (lv_at hl 0 rfl) ?_
    refine lv_aload_n hx hb dX11_readMap_38 rfl (lv_at hl 2 rfl) ?_
    refine lv_ldc2 (v := 495588568165) hx hb S.2.2.2.1 (S.2.2.2.2 _ gm_1458) dX11_readMap_39 ?_
    refine lv_iconst (v := 1) hx hb dX11_readMap_42 (by decide) ?_
    refine lv_bipush (v := 9) hx hb dX11_readMap_43 (by decide) ?_
    refine th_callVM (n := 3) (As := [.long 495588568165, .int 1, .int 9]) S hK hH hS (th_A.sub (by decide)) (m_X11_after l D cT T q100 hT hqq100 a0 t0 (495588568165) (1) (iv_top _) (9) (iv_top _) (show (q100 29 = 0 ∧ q100 27 = q100 26 ∧ q100 28 = q100 26) ∨ (1 ≤ q100 29 ∧ q100 27 < q100 28 ∧ q100 28 ≤ q100 26) by omega)) gm_1539 gm_1536 gm_1538 gm_62 gm_124 (by decide +kernel) ⟨rfl, rfl, Nat.le_of_ble_eq_true rfl, Nat.le_of_ble_eq_true rfl⟩ t0 km_0 rfl rfl hl.1 rfl (Nat.le_of_ble_eq_true rfl) dX11_readMap_45 ⟨Nat.zero_le _, Nat.zero_le _⟩ (fun wq104 q104 H locs hEq104 hH hS hF1 => ?_)
    obtain ⟨x105, rfl, ix105, hqq104, g0q104, pq104_0, pq104_1, pq104_2, pq104_3, pq104_4⟩ := hEq104
    show W p l e (rmk 6 128) s m [.ref a0].toArray below meth c H locs 0 0 (MQ below (th_QM D cT T (fun v q2 => v = none ∧ qkm q2 ∧ fr [14, 20, 21, 22, 23, 24, 27, 28, 29, 30, 31, 1000, 35] q q2 ∧ ((q2 29 = 0 ∧ q2 27 = q2 26 ∧ q2 28 = q2 26) ∨ (1 ≤ q2 29 ∧ q2 27 < q2 28 ∧ q2 28 ≤ q2 26)) ∧ (q2 30 = 0 → NL q2) ∧ (q2 30 = 0 → q2 29 = 3 → q2 31 = 7237492 → q2 27 + 3 ≤ q2 28) ∧ (q 27 ≤ q2 27) ∧ (q2 30 = 0 → MB1 q2 (q2 14) (q2 15))) [0, 4, 8, 11, 12, 13, 14, 18, 19, 20, 21, 26, 28, 29, 30, 31]) [.ref a0].toArray s 0 0 (th_A T [0, 4, 8, 11, 12, 13, 14, 18, 19, 20, 21, 26, 28, 29, 30, 31])) (F0 m 48 ls [.int x105, .int x95, .ref rf103])
    have pq104_0 : (q104 29 = 0 ∧ q104 27 = q104 26 ∧ q104 28 = q104 26) ∨ (1 ≤ q104 29 ∧ q104 27 < q104 28 ∧ q104 28 ≤ q104 26) := pq104_0
    have pq104_1 : q104 30 = 0 → q104 29 = 3 → sg q104 (q104 28) < 97 ∨ 122 < sg q104 (q104 28) := pq104_1
    have pq104_2 : q104 30 = 0 → q104 29 = 3 → q104 31 = 7237492 → q104 27 + 3 ≤ q104 28 := pq104_2
    have pq104_3 : q100 27 ≤ q104 27 := pq104_3
    have pq104_4 : q104 30 = 0 → q100 30 = 0 ∧ q100 28 ≤ q104 27 ∧ q100 29 ≠ 0 := pq104_4
    have wq104_10 : q104 10 = q100 10 := g0q104 10 (by decide) (Or.inl (by decide))
    have wq104_13 : q104 13 = q100 13 := g0q104 13 (by decide) (Or.inl (by decide))
    have wq104_14 : q104 14 = q100 14 := g0q104 14 (by decide) (Or.inl (by decide))
    have wq104_15 : q104 15 = q100 15 := g0q104 15 (by decide) (Or.inl (by decide))
    have wq104_20 : q104 20 = q100 20 := g0q104 20 (by decide) (Or.inl (by decide))
    have wq104_21 : q104 21 = q100 21 := g0q104 21 (by decide) (Or.inl (by decide))
    have wq104_22 : q104 22 = q100 22 := g0q104 22 (by decide) (Or.inl (by decide))
    have wq104_23 : q104 23 = q100 23 := g0q104 23 (by decide) (Or.inl (by decide))
    have wq104_24 : q104 24 = q100 24 := g0q104 24 (by decide) (Or.inl (by decide))
    have wq104_26 : q104 26 = q100 26 := g0q104 26 (by decide) (Or.inl (by decide))
    have wq104_35 : q104 35 = q100 35 := g0q104 35 (by decide) (Or.inl (by decide))
    have h0q104 : fr [14, 20, 21, 22, 23, 24, 27, 28, 29, 30, 31, 1000, 35] q q104 := fr_tr h0q100 g0q104 (by decide)
    have bgq104 : bg q q104 := bg_fr bgq100 g0q104 (by decide)
    have nlq104 : q104 30 = 0 → NL q104 := pq104_1
    refine th_iast S hK hH hS ⟨11, by decide, trf103⟩ trf103 km_11 (th_in (hi := 7) ix95 (by decide)) (th_iv ix105) dX11_readMap_48 (fun H locs hH hS hq1 => ?_)
    refine lv_aload_n hx hb dX11_readMap_49 rfl (lv_at hl 2 rfl) ?_
    refine lv_aload_n hx hb dX11_readMap_50 rfl (lv_at hl 2 rfl) ?_
    refine lv_ldc2 (v := 114853572732274) hx hb S.2.2.2.1 (S.2.2.2.2 _ gm_1459) dX11_readMap_51 ?_
    refine th_callVp (n := 1) (As := [.long 114853572732274]) S hK hH hS (th_A.sub (by decide)) (m_X11_isWord l D cT T q104 hT hqq104 a0 t0 (114853572732274)) gm_1499 gm_1496 gm_1498 gm_52 gm_124 (by decide +kernel) ⟨rfl, rfl, Nat.le_of_ble_eq_true rfl, Nat.le_of_ble_eq_true rfl⟩ t0 km_0 rfl rfl hl.1 rfl (Nat.le_of_ble_eq_true rfl) dX11_readMap_54 ⟨Nat.zero_le _, Nat.zero_le _⟩ (fun x106 H locs ix106 ox106 hH hS hF1 => ?_)
    obtain ⟨ox106_0, ox106_1⟩ := ox106
    have ox106_0 : x106.toInt ≠ 0 → q104 29 = 3 ∧ q104 31 = (114853572732274 : Int) := ox106_0
    have ox106_1 : x106.toInt = 0 → q104 29 ≠ 3 ∨ q104 31 ≠ (114853572732274 : Int) := ox106_1
    have l1x106 := ix106.1; have l2x106 := ix106.2
    refine th_callVM (n := 1) (As := [.int x106]) S hK hH hS (th_A.sub (by decide)) (m_X11_must l D cT T q104 hT hqq104 a0 t0 (x106) ix106 (show (q104 29 = 0 ∧ q104 27 = q104 26 ∧ q104 28 = q104 26) ∨ (1 ≤ q104 29 ∧ q104 27 < q104 28 ∧ q104 28 ≤ q104 26) by omega)) gm_1543 gm_1540 gm_1542 gm_63 gm_124 (by decide +kernel) ⟨rfl, rfl, Nat.le_of_ble_eq_true rfl, Nat.le_of_ble_eq_true rfl⟩ t0 km_0 rfl rfl hl.1 rfl (Nat.le_of_ble_eq_true rfl) dX11_readMap_57 ⟨Nat.zero_le _, Nat.zero_le _⟩ (fun wq107 q107 H locs hEq107 hH hS hF1 => ?_)
    obtain ⟨rfl, hqq107, g0q107, pq107_0, pq107_1, pq107_2, pq107_3, pq107_4⟩ := hEq107
    show W p l e (rmk 6 128) s m [.ref a0].toArray below meth c H locs 0 0 (MQ below (th_QM D cT T (fun v q2 => v = none ∧ qkm q2 ∧ fr [14, 20, 21, 22, 23, 24, 27, 28, 29, 30, 31, 1000, 35] q q2 ∧ ((q2 29 = 0 ∧ q2 27 = q2 26 ∧ q2 28 = q2 26) ∨ (1 ≤ q2 29 ∧ q2 27 < q2 28 ∧ q2 28 ≤ q2 26)) ∧ (q2 30 = 0 → NL q2) ∧ (q2 30 = 0 → q2 29 = 3 → q2 31 = 7237492 → q2 27 + 3 ≤ q2 28) ∧ (q 27 ≤ q2 27) ∧ (q2 30 = 0 → MB1 q2 (q2 14) (q2 15))) [0, 4, 8, 11, 12, 13, 14, 18, 19, 20, 21, 26, 28, 29, 30, 31]) [.ref a0].toArray s 0 0 (th_A T [0, 4, 8, 11, 12, 13, 14, 18, 19, 20, 21, 26, 28, 29, 30, 31])) (F0 m 60 ls [])
    have pq107_0 : (q107 29 = 0 ∧ q107 27 = q107 26 ∧ q107 28 = q107 26) ∨ (1 ≤ q107 29 ∧ q107 27 < q107 28 ∧ q107 28 ≤ q107 26) := pq107_0
    have pq107_1 : q107 30 = 0 → q107 29 = 3 → sg q107 (q107 28) < 97 ∨ 122 < sg q107 (q107 28) := pq107_1
    have pq107_2 : q107 30 = 0 → q107 29 = 3 → q107 31 = 7237492 → q107 27 + 3 ≤ q107 28 := pq107_2
    have pq107_3 : q104 27 ≤ q107 27 := pq107_3
    have pq107_4 : q107 30 = 0 → q104 30 = 0 ∧ x106.toInt ≠ 0 ∧ q104 28 ≤ q107 27 := pq107_4
    have wq107_10 : q107 10 = q104 10 := g0q107 10 (by decide) (Or.inl (by decide))
    have wq107_13 : q107 13 = q104 13 := g0q107 13 (by decide) (Or.inl (by decide))
    have wq107_14 : q107 14 = q104 14 := g0q107 14 (by decide) (Or.inl (by decide))
    have wq107_15 : q107 15 = q104 15 := g0q107 15 (by decide) (Or.inl (by decide))
    have wq107_20 : q107 20 = q104 20 := g0q107 20 (by decide) (Or.inl (by decide))
    have wq107_21 : q107 21 = q104 21 := g0q107 21 (by decide) (Or.inl (by decide))
    have wq107_22 : q107 22 = q104 22 := g0q107 22 (by decide) (Or.inl (by decide))
    have wq107_23 : q107 23 = q104 23 := g0q107 23 (by decide) (Or.inl (by decide))
    have wq107_24 : q107 24 = q104 24 := g0q107 24 (by decide) (Or.inl (by decide))
    have wq107_26 : q107 26 = q104 26 := g0q107 26 (by decide) (Or.inl (by decide))
    have wq107_35 : q107 35 = q104 35 := g0q107 35 (by decide) (Or.inl (by decide))
    have h0q107 : fr [14, 20, 21, 22, 23, 24, 27, 28, 29, 30, 31, 1000, 35] q q107 := fr_tr h0q104 g0q107 (by decide)
    have bgq107 : bg q q107 := bg_fr bgq104 g0q107 (by decide)
    have nlq107 : q107 30 = 0 → NL q107 := pq107_1
    refine lv_aload_n hx hb dX11_readMap_60 rfl (lv_at hl 2 rfl) ?_
    refine th_callVp (n := 0) (As := []) S hK hH hS (th_A.sub (by decide)) (m_X11_isGood l D cT T q107 hT hqq107 a0 t0) gm_1487 gm_1484 gm_1486 gm_49 gm_124 (by decide +kernel) ⟨rfl, rfl, Nat.le_of_ble_eq_true rfl, Nat.le_of_ble_eq_true rfl⟩ t0 km_0 rfl rfl hl.1 rfl (Nat.le_of_ble_eq_true rfl) dX11_readMap_61 ⟨Nat.zero_le _, Nat.zero_le _⟩ (fun x108 H locs ix108 ox108 hH hS hF1 => ?_)
    obtain ⟨ox108_0, ox108_1⟩ := ox108
    have ox108_0 : x108.toInt ≠ 0 → q107 30 = 0 := ox108_0
    have ox108_1 : x108.toInt = 0 → q107 30 ≠ 0 := ox108_1
    have l1x108 := ix108.1; have l2x108 := ix108.2
    refine lv_if_eq (tgt := 72) hx hb dX11_readMap_64 (by decide) (fun c109 => ?_) (fun c109 => ?_)
    · skip
      have rlc109 : x108.toInt = (0 : Int) := congrArg Int32.toInt c109
      have ir110 : IV x108 0 0 := iv_eL c109 (iv_c (by decide) : IV 0 0 0)
      have ir110a := ir110.1; have ir110b := ir110.2
      exact J72 q107 H locs ls x91 x95 hqq107 h0q107 ix91 ix95 (show (q107 29 = 0 ∧ q107 27 = q107 26 ∧ q107 28 = q107 26) ∨ (1 ≤ q107 29 ∧ q107 27 < q107 28 ∧ q107 28 ≤ q107 26) by omega) (show q107 30 = 0 → NL q107 by exact nlq107) (show q107 30 = 0 → q107 29 = 3 → q107 31 = 7237492 → q107 27 + 3 ≤ q107 28 by omega) (show q107 14 = q 14 ∧ q 27 ≤ q107 27 by omega) (show q107 30 = 0 → MB1 q107 (q 14 + 1) (q 15) by first | (intro z; exact absurd z (by omega)) | exact hM) hH hS (lv_sub hl [2, 1, 0] rfl)
    · skip
      have rlc109 : x108.toInt ≠ (0 : Int) := iv_ne c109
      have ir111 : IV x108 1 1 := iv_cutL ix108 (iv_c (by decide) : IV 0 0 0) c109 (by decide)
      have ir111a := ir111.1; have ir111b := ir111.2
      have hAC : AC q107 := AC_mv hp5.1 (by omega) (by omega) (by omega) (by omega)
      refine lv_aload_n hx hb dX11_readMap_67 rfl (lv_at hl 2 rfl) ?_
      refine lv_iload_n hx hb dX11_readMap_68 rfl (lv_at hl 1 rfl) ?_
      refine th_callVM (n := 1) (As := [.int x91]) S hK hH hS (th_A.sub (by decide)) (m_X11_readRule l D cT T q107 hT hqq107 a0 t0 (x91) (iv_w ix91 (by decide)) (show (q107 29 = 0 ∧ q107 27 = q107 26 ∧ q107 28 = q107 26) ∨ (1 ≤ q107 29 ∧ q107 27 < q107 28 ∧ q107 28 ≤ q107 26) by omega) (show q107 13 = 1 - q107 10 by omega) (show q107 30 = 0 → NL q107 by exact nlq107) (show q107 30 = 0 → q107 29 = 3 → q107 31 = 7237492 → q107 27 + 3 ≤ q107 28 by omega) (show q107 30 = 0 by omega) (show AC q107 by assumption)) gm_1547 gm_1544 gm_1546 gm_64 gm_124 (by decide +kernel) ⟨rfl, rfl, Nat.le_of_ble_eq_true rfl, Nat.le_of_ble_eq_true rfl⟩ t0 km_0 rfl rfl hl.1 rfl (Nat.le_of_ble_eq_true rfl) dX11_readMap_69 ⟨Nat.zero_le _, Nat.zero_le _⟩ (fun wq112 q112 H locs hEq112 hH hS hF1 => ?_)
      obtain ⟨rfl, hqq112, g0q112, pq112_0, pq112_1, pq112_2, pq112_3, pq112_4, pq112_5⟩ := hEq112
      show W p l e (rmk 6 128) s m [.ref a0].toArray below meth c H locs 0 0 (MQ below (th_QM D cT T (fun v q2 => v = none ∧ qkm q2 ∧ fr [14, 20, 21, 22, 23, 24, 27, 28, 29, 30, 31, 1000, 35] q q2 ∧ ((q2 29 = 0 ∧ q2 27 = q2 26 ∧ q2 28 = q2 26) ∨ (1 ≤ q2 29 ∧ q2 27 < q2 28 ∧ q2 28 ≤ q2 26)) ∧ (q2 30 = 0 → NL q2) ∧ (q2 30 = 0 → q2 29 = 3 → q2 31 = 7237492 → q2 27 + 3 ≤ q2 28) ∧ (q 27 ≤ q2 27) ∧ (q2 30 = 0 → MB1 q2 (q2 14) (q2 15))) [0, 4, 8, 11, 12, 13, 14, 18, 19, 20, 21, 26, 28, 29, 30, 31]) [.ref a0].toArray s 0 0 (th_A T [0, 4, 8, 11, 12, 13, 14, 18, 19, 20, 21, 26, 28, 29, 30, 31])) (F0 m 72 ls [])
      have pq112_0 : (q112 29 = 0 ∧ q112 27 = q112 26 ∧ q112 28 = q112 26) ∨ (1 ≤ q112 29 ∧ q112 27 < q112 28 ∧ q112 28 ≤ q112 26) := pq112_0
      have pq112_1 : q112 30 = 0 → NL q112 := pq112_1
      have pq112_2 : q112 30 = 0 → q112 29 = 3 → q112 31 = 7237492 → q112 27 + 3 ≤ q112 28 := pq112_2
      have pq112_3 : q107 27 ≤ q112 27 := pq112_3
      have pq112_4 : kq q107 q112 (q107 20) (5 * (q107 13).toNat + (x91.toInt).toNat) := pq112_4
      have pq112_5 : q112 30 = 0 → AC q112 ∧ q107 20 ≤ q112 20 ∧ rgood q112 (q107 13).toNat (x91.toInt).toNat (560 * ((q107 13).toNat : Int)) (q112 20) := pq112_5
      have wq112_10 : q112 10 = q107 10 := g0q112 10 (by decide) (Or.inl (by decide))
      have wq112_13 : q112 13 = q107 13 := g0q112 13 (by decide) (Or.inl (by decide))
      have wq112_14 : q112 14 = q107 14 := g0q112 14 (by decide) (Or.inl (by decide))
      have wq112_15 : q112 15 = q107 15 := g0q112 15 (by decide) (Or.inl (by decide))
      have wq112_26 : q112 26 = q107 26 := g0q112 26 (by decide) (Or.inl (by decide))
      have h0q112 : fr [14, 20, 21, 22, 23, 24, 27, 28, 29, 30, 31, 1000, 35] q q112 := fr_tr h0q107 g0q112 (by decide)
      have nlq112 : q112 30 = 0 → NL q112 := pq112_1
      have hM : q112 30 = 0 → MB1 q112 (q 14 + 1) (q 15) := fun z => by obtain ⟨E1, E2, E3⟩ := pq112_5 z; exact MB_map hp5 bgq107 pq112_4 E3 E1 E2 (by omega) (by omega) (by omega) (by omega) (by omega) (by omega) (by omega)
      exact J72 q112 H locs ls x91 x95 hqq112 h0q112 ix91 ix95 (show (q112 29 = 0 ∧ q112 27 = q112 26 ∧ q112 28 = q112 26) ∨ (1 ≤ q112 29 ∧ q112 27 < q112 28 ∧ q112 28 ≤ q112 26) by omega) (show q112 30 = 0 → NL q112 by exact nlq112) (show q112 30 = 0 → q112 29 = 3 → q112 31 = 7237492 → q112 27 + 3 ≤ q112 28 by omega) (show q112 14 = q 14 ∧ q 27 ≤ q112 27 by omega) (show q112 30 = 0 → MB1 q112 (q 14 + 1) (q 15) by first | (intro z; exact absurd z (by omega)) | exact hM) hH hS (lv_sub hl [2, 1, 0] rfl)
  exact J0 s.heap [] ls hH va_S.rf hl
