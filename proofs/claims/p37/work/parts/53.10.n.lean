theorem dX11_behindUnit_0 : decode cX11_behindUnit 0 = .ok (.aload_n 0, 1) := by decide +kernel
theorem dX11_behindUnit_1 : decode cX11_behindUnit 1 = .ok (.invokevirtual 356, 3) := by decide +kernel
theorem dX11_behindUnit_4 : decode cX11_behindUnit 4 = .ok (.istore_n 1, 1) := by decide +kernel
theorem dX11_behindUnit_5 : decode cX11_behindUnit 5 = .ok (.iload_n 1, 1) := by decide +kernel
theorem dX11_behindUnit_6 : decode cX11_behindUnit 6 = .ok (.iconst 4, 1) := by decide +kernel
theorem dX11_behindUnit_7 : decode cX11_behindUnit 7 = .ok (.if_icmp .ne 16, 3) := by decide +kernel
theorem dX11_behindUnit_10 : decode cX11_behindUnit 10 = .ok (.aload_n 0, 1) := by decide +kernel
theorem dX11_behindUnit_11 : decode cX11_behindUnit 11 = .ok (.invokevirtual 359, 3) := by decide +kernel
theorem dX11_behindUnit_14 : decode cX11_behindUnit 14 = .ok (.ifCond .eq 9, 3) := by decide +kernel
theorem dX11_behindUnit_17 : decode cX11_behindUnit 17 = .ok (.aload_n 0, 1) := by decide +kernel
theorem dX11_behindUnit_18 : decode cX11_behindUnit 18 = .ok (.invokevirtual 250, 3) := by decide +kernel
theorem dX11_behindUnit_21 : decode cX11_behindUnit 21 = .ok (.iconst 1, 1) := by decide +kernel
theorem dX11_behindUnit_22 : decode cX11_behindUnit 22 = .ok (.ireturn, 1) := by decide +kernel
theorem dX11_behindUnit_23 : decode cX11_behindUnit 23 = .ok (.aload_n 0, 1) := by decide +kernel
theorem dX11_behindUnit_24 : decode cX11_behindUnit 24 = .ok (.getfield 104, 3) := by decide +kernel
theorem dX11_behindUnit_27 : decode cX11_behindUnit 27 = .ok (.aload_n 0, 1) := by decide +kernel
theorem dX11_behindUnit_28 : decode cX11_behindUnit 28 = .ok (.getfield 335, 3) := by decide +kernel
theorem dX11_behindUnit_31 : decode cX11_behindUnit 31 = .ok (.iconst 1, 1) := by decide +kernel
theorem dX11_behindUnit_32 : decode cX11_behindUnit 32 = .ok (.isub, 1) := by decide +kernel
theorem dX11_behindUnit_33 : decode cX11_behindUnit 33 = .ok (.iaload, 1) := by decide +kernel
theorem dX11_behindUnit_34 : decode cX11_behindUnit 34 = .ok (.bipush 6, 2) := by decide +kernel
theorem dX11_behindUnit_36 : decode cX11_behindUnit 36 = .ok (.if_icmp .gt 68, 3) := by decide +kernel
theorem dX11_behindUnit_39 : decode cX11_behindUnit 39 = .ok (.aload_n 0, 1) := by decide +kernel
theorem dX11_behindUnit_40 : decode cX11_behindUnit 40 = .ok (.getfield 104, 3) := by decide +kernel
theorem dX11_behindUnit_43 : decode cX11_behindUnit 43 = .ok (.aload_n 0, 1) := by decide +kernel
theorem dX11_behindUnit_44 : decode cX11_behindUnit 44 = .ok (.getfield 335, 3) := by decide +kernel
theorem dX11_behindUnit_47 : decode cX11_behindUnit 47 = .ok (.iconst 1, 1) := by decide +kernel
theorem dX11_behindUnit_48 : decode cX11_behindUnit 48 = .ok (.isub, 1) := by decide +kernel
theorem dX11_behindUnit_49 : decode cX11_behindUnit 49 = .ok (.iaload, 1) := by decide +kernel
theorem dX11_behindUnit_50 : decode cX11_behindUnit 50 = .ok (.iload_n 1, 1) := by decide +kernel
theorem dX11_behindUnit_51 : decode cX11_behindUnit 51 = .ok (.if_icmp .lt 53, 3) := by decide +kernel
theorem dX11_behindUnit_54 : decode cX11_behindUnit 54 = .ok (.aload_n 0, 1) := by decide +kernel
theorem dX11_behindUnit_55 : decode cX11_behindUnit 55 = .ok (.dup, 1) := by decide +kernel
theorem dX11_behindUnit_56 : decode cX11_behindUnit 56 = .ok (.getfield 335, 3) := by decide +kernel
theorem dX11_behindUnit_59 : decode cX11_behindUnit 59 = .ok (.iconst 1, 1) := by decide +kernel
theorem dX11_behindUnit_60 : decode cX11_behindUnit 60 = .ok (.isub, 1) := by decide +kernel
theorem dX11_behindUnit_61 : decode cX11_behindUnit 61 = .ok (.putfield 335, 3) := by decide +kernel
theorem dX11_behindUnit_64 : decode cX11_behindUnit 64 = .ok (.aload_n 0, 1) := by decide +kernel
theorem dX11_behindUnit_65 : decode cX11_behindUnit 65 = .ok (.getfield 104, 3) := by decide +kernel
theorem dX11_behindUnit_68 : decode cX11_behindUnit 68 = .ok (.aload_n 0, 1) := by decide +kernel
theorem dX11_behindUnit_69 : decode cX11_behindUnit 69 = .ok (.getfield 335, 3) := by decide +kernel
theorem dX11_behindUnit_72 : decode cX11_behindUnit 72 = .ok (.iaload, 1) := by decide +kernel
theorem dX11_behindUnit_73 : decode cX11_behindUnit 73 = .ok (.iconst 3, 1) := by decide +kernel
theorem dX11_behindUnit_74 : decode cX11_behindUnit 74 = .ok (.if_icmp .ne 13, 3) := by decide +kernel
theorem dX11_behindUnit_77 : decode cX11_behindUnit 77 = .ok (.aload_n 0, 1) := by decide +kernel
theorem dX11_behindUnit_78 : decode cX11_behindUnit 78 = .ok (.dup, 1) := by decide +kernel
theorem dX11_behindUnit_79 : decode cX11_behindUnit 79 = .ok (.getfield 338, 3) := by decide +kernel
theorem dX11_behindUnit_82 : decode cX11_behindUnit 82 = .ok (.iconst 1, 1) := by decide +kernel
theorem dX11_behindUnit_83 : decode cX11_behindUnit 83 = .ok (.isub, 1) := by decide +kernel
theorem dX11_behindUnit_84 : decode cX11_behindUnit 84 = .ok (.putfield 338, 3) := by decide +kernel
theorem dX11_behindUnit_87 : decode cX11_behindUnit 87 = .ok (.aload_n 0, 1) := by decide +kernel
theorem dX11_behindUnit_88 : decode cX11_behindUnit 88 = .ok (.aload_n 0, 1) := by decide +kernel
theorem dX11_behindUnit_89 : decode cX11_behindUnit 89 = .ok (.getfield 107, 3) := by decide +kernel
theorem dX11_behindUnit_92 : decode cX11_behindUnit 92 = .ok (.aload_n 0, 1) := by decide +kernel
theorem dX11_behindUnit_93 : decode cX11_behindUnit 93 = .ok (.getfield 335, 3) := by decide +kernel
theorem dX11_behindUnit_96 : decode cX11_behindUnit 96 = .ok (.iaload, 1) := by decide +kernel
theorem dX11_behindUnit_97 : decode cX11_behindUnit 97 = .ok (.iconst 0, 1) := by decide +kernel
theorem dX11_behindUnit_98 : decode cX11_behindUnit 98 = .ok (.invokevirtual 353, 3) := by decide +kernel
theorem dX11_behindUnit_101 : decode cX11_behindUnit 101 = .ok (.goto (-78), 3) := by decide +kernel
theorem dX11_behindUnit_104 : decode cX11_behindUnit 104 = .ok (.iload_n 1, 1) := by decide +kernel
theorem dX11_behindUnit_105 : decode cX11_behindUnit 105 = .ok (.ifCond .le 42, 3) := by decide +kernel
theorem dX11_behindUnit_108 : decode cX11_behindUnit 108 = .ok (.aload_n 0, 1) := by decide +kernel
theorem dX11_behindUnit_109 : decode cX11_behindUnit 109 = .ok (.iload_n 1, 1) := by decide +kernel
theorem dX11_behindUnit_110 : decode cX11_behindUnit 110 = .ok (.iload_n 1, 1) := by decide +kernel
theorem dX11_behindUnit_111 : decode cX11_behindUnit 111 = .ok (.iconst 2, 1) := by decide +kernel
theorem dX11_behindUnit_112 : decode cX11_behindUnit 112 = .ok (.if_icmp .ne 8, 3) := by decide +kernel
theorem dX11_behindUnit_115 : decode cX11_behindUnit 115 = .ok (.bipush 38, 2) := by decide +kernel
theorem dX11_behindUnit_117 : decode cX11_behindUnit 117 = .ok (.goto 21, 3) := by decide +kernel
theorem dX11_behindUnit_120 : decode cX11_behindUnit 120 = .ok (.iload_n 1, 1) := by decide +kernel
theorem dX11_behindUnit_121 : decode cX11_behindUnit 121 = .ok (.iconst 1, 1) := by decide +kernel
theorem dX11_behindUnit_122 : decode cX11_behindUnit 122 = .ok (.if_icmp .ne 8, 3) := by decide +kernel
theorem dX11_behindUnit_125 : decode cX11_behindUnit 125 = .ok (.bipush 124, 2) := by decide +kernel
theorem dX11_behindUnit_127 : decode cX11_behindUnit 127 = .ok (.goto 11, 3) := by decide +kernel
theorem dX11_behindUnit_130 : decode cX11_behindUnit 130 = .ok (.aload_n 0, 1) := by decide +kernel
theorem dX11_behindUnit_131 : decode cX11_behindUnit 131 = .ok (.aload_n 0, 1) := by decide +kernel
theorem dX11_behindUnit_132 : decode cX11_behindUnit 132 = .ok (.getfield 208, 3) := by decide +kernel
theorem dX11_behindUnit_135 : decode cX11_behindUnit 135 = .ok (.invokevirtual 211, 3) := by decide +kernel
theorem dX11_behindUnit_138 : decode cX11_behindUnit 138 = .ok (.invokevirtual 341, 3) := by decide +kernel
theorem dX11_behindUnit_141 : decode cX11_behindUnit 141 = .ok (.aload_n 0, 1) := by decide +kernel
theorem dX11_behindUnit_142 : decode cX11_behindUnit 142 = .ok (.invokevirtual 247, 3) := by decide +kernel
theorem dX11_behindUnit_145 : decode cX11_behindUnit 145 = .ok (.iconst 1, 1) := by decide +kernel
theorem dX11_behindUnit_146 : decode cX11_behindUnit 146 = .ok (.ireturn, 1) := by decide +kernel
theorem dX11_behindUnit_147 : decode cX11_behindUnit 147 = .ok (.aload_n 0, 1) := by decide +kernel
theorem dX11_behindUnit_148 : decode cX11_behindUnit 148 = .ok (.dup, 1) := by decide +kernel
theorem dX11_behindUnit_149 : decode cX11_behindUnit 149 = .ok (.getfield 335, 3) := by decide +kernel
theorem dX11_behindUnit_152 : decode cX11_behindUnit 152 = .ok (.iconst 1, 1) := by decide +kernel
theorem dX11_behindUnit_153 : decode cX11_behindUnit 153 = .ok (.isub, 1) := by decide +kernel
theorem dX11_behindUnit_154 : decode cX11_behindUnit 154 = .ok (.putfield 335, 3) := by decide +kernel
theorem dX11_behindUnit_157 : decode cX11_behindUnit 157 = .ok (.aload_n 0, 1) := by decide +kernel
theorem dX11_behindUnit_158 : decode cX11_behindUnit 158 = .ok (.getfield 104, 3) := by decide +kernel
theorem dX11_behindUnit_161 : decode cX11_behindUnit 161 = .ok (.aload_n 0, 1) := by decide +kernel
theorem dX11_behindUnit_162 : decode cX11_behindUnit 162 = .ok (.getfield 335, 3) := by decide +kernel
theorem dX11_behindUnit_165 : decode cX11_behindUnit 165 = .ok (.iaload, 1) := by decide +kernel
theorem dX11_behindUnit_166 : decode cX11_behindUnit 166 = .ok (.bipush 7, 2) := by decide +kernel
theorem dX11_behindUnit_168 : decode cX11_behindUnit 168 = .ok (.if_icmp .ne 23, 3) := by decide +kernel
theorem dX11_behindUnit_171 : decode cX11_behindUnit 171 = .ok (.aload_n 0, 1) := by decide +kernel
theorem dX11_behindUnit_172 : decode cX11_behindUnit 172 = .ok (.dup, 1) := by decide +kernel
theorem dX11_behindUnit_173 : decode cX11_behindUnit 173 = .ok (.getfield 338, 3) := by decide +kernel
theorem dX11_behindUnit_176 : decode cX11_behindUnit 176 = .ok (.iconst 1, 1) := by decide +kernel
theorem dX11_behindUnit_177 : decode cX11_behindUnit 177 = .ok (.isub, 1) := by decide +kernel
theorem dX11_behindUnit_178 : decode cX11_behindUnit 178 = .ok (.putfield 338, 3) := by decide +kernel
theorem dX11_behindUnit_181 : decode cX11_behindUnit 181 = .ok (.aload_n 0, 1) := by decide +kernel
theorem dX11_behindUnit_182 : decode cX11_behindUnit 182 = .ok (.aload_n 0, 1) := by decide +kernel
theorem dX11_behindUnit_183 : decode cX11_behindUnit 183 = .ok (.bipush 41, 2) := by decide +kernel
theorem dX11_behindUnit_185 : decode cX11_behindUnit 185 = .ok (.invokevirtual 301, 3) := by decide +kernel
theorem dX11_behindUnit_188 : decode cX11_behindUnit 188 = .ok (.invokevirtual 256, 3) := by decide +kernel
theorem dX11_behindUnit_191 : decode cX11_behindUnit 191 = .ok (.iconst 0, 1) := by decide +kernel
theorem dX11_behindUnit_192 : decode cX11_behindUnit 192 = .ok (.ireturn, 1) := by decide +kernel
set_option maxHeartbeats 20000000 in
set_option maxRecDepth 100000 in
theorem m_X11_behindUnit (l : Launch) (D : va_G) (cT : Nat → ClassId) (T : Nat → Option Nat) (q : Nat → Int) (hT : tokm T) (hq : qkm q) (a0 : Nat) (t0 : T a0 = some 0) (hp0 : (q 29 = 0 ∧ q 27 = q 26 ∧ q 28 = q 26) ∨ (1 ≤ q 29 ∧ q 27 < q 28 ∧ q 28 ≤ q 26)) (hp1 : q 13 = 1 - q 10) (hp2 : q 30 = 0 → NL q) (hp3 : q 30 = 0 → q 29 = 3 → q 31 = 7237492 → q 27 + 3 ≤ q 28) (hp4 : q 30 = 0) (hp5 : 0 ≤ q 35) (hp6 : RS q 0) (hp7 : 1 ≤ q 21) : th_MetM l D cT T q yX11_behindUnit cX11_behindUnit 2 (some .boolean) (rmk 3 65) [.ref a0] (fun v q2 => ∃ r : Int32, v = some (.int r) ∧ IV r 0 1 ∧ qkm q2 ∧ fr [20, 21, 22, 23, 24, 27, 28, 29, 30, 31, 1000] q q2 ∧ ((q2 29 = 0 ∧ q2 27 = q2 26 ∧ q2 28 = q2 26) ∨ (1 ≤ q2 29 ∧ q2 27 < q2 28 ∧ q2 28 ≤ q2 26)) ∧ (q2 30 = 0 → NL q2) ∧ (q2 30 = 0 → q2 29 = 3 → q2 31 = 7237492 → q2 27 + 3 ≤ q2 28) ∧ (q 27 ≤ q2 27) ∧ (q2 30 = 0 → 2 * q 27 + q2 21 < 2 * q2 27 + q 21) ∧ (kp q q2 (q 35)) ∧ (q2 30 = 0 → r.toInt ≠ 0 → RS q2 1 ∧ 1 ≤ q2 21) ∧ (q2 30 = 0 → r.toInt = 0 → RS q2 0)) [0, 28, 29, 30, 31] := by
  refine th_startM (by decide) (Nat.le_of_ble_eq_true rfl) ?_
  intro p e s m below meth c ls S hK hH hr hlocks hnm hl
  have hx := S.1
  have hb := S.2.1
  have c10 := qkm_10 hq; have c13 := qkm_13 hq; have c20 := qkm_20 hq; have c21 := qkm_21 hq; have c22 := qkm_22 hq; have c26 := qkm_26 hq; have c27 := qkm_27 hq
  have hl : lv_has ls 2 [(0, .ref a0)] := hl
  have J23 : ∀ (n : Nat) (q23 : Nat → Int) (H : Heap) (locs : List Loc) (ls : Array Slot) (v23_1 : Int32), qkm q23 → fr [20, 21, 22, 23, 24, 27, 28, 29, 30, 31, 1000] q q23 → IV v23_1 0 6 → (RS q23 0) → (1 ≤ q23 21 ∧ q23 21 ≤ q 21) → (q23 23 = q 23 ∧ q23 24 = q 24 ∧ q23 27 = q 27 ∧ q23 28 = q 28 ∧ q23 29 = q 29 ∧ q23 30 = q 30 ∧ q23 31 = q 31) → (kp q q23 (q 35)) → ((v23_1.toInt ≠ 0 → q 29 = 3 ∨ q 29 = 5) ∧ (3 < v23_1.toInt → sg q (q 27) < 97) ∧ v23_1.toInt ≠ 3) → th_H D cT T (km q23) H → va_S (th_A T [0, 28, 29, 30, 31]) s.heap H locs → lv_has ls 2 [(0, .ref a0), (1, .int v23_1)] → (q23 21).toNat < n → W p l e (rmk 3 65) s m [.ref a0].toArray below meth c H locs 0 0 (MQ below (th_QM D cT T (fun v q2 => ∃ r : Int32, v = some (.int r) ∧ IV r 0 1 ∧ qkm q2 ∧ fr [20, 21, 22, 23, 24, 27, 28, 29, 30, 31, 1000] q q2 ∧ ((q2 29 = 0 ∧ q2 27 = q2 26 ∧ q2 28 = q2 26) ∨ (1 ≤ q2 29 ∧ q2 27 < q2 28 ∧ q2 28 ≤ q2 26)) ∧ (q2 30 = 0 → NL q2) ∧ (q2 30 = 0 → q2 29 = 3 → q2 31 = 7237492 → q2 27 + 3 ≤ q2 28) ∧ (q 27 ≤ q2 27) ∧ (q2 30 = 0 → 2 * q 27 + q2 21 < 2 * q2 27 + q 21) ∧ (kp q q2 (q 35)) ∧ (q2 30 = 0 → r.toInt ≠ 0 → RS q2 1 ∧ 1 ≤ q2 21) ∧ (q2 30 = 0 → r.toInt = 0 → RS q2 0)) [0, 28, 29, 30, 31]) [.ref a0].toArray s 0 0 (th_A T [0, 28, 29, 30, 31])) (F0 m 23 ls []) := by
    intro n
    induction n with
    | zero => intro q23 H locs ls v23_1 hq23 h023 iv23_1 v23_inv0 v23_inv1 v23_inv2 v23_inv3 v23_inv4 hH hS hl hn; exact absurd hn (Nat.not_lt_zero _)
    | succ n ih23 =>
      intro q23 H locs ls v23_1 hq23 h023 iv23_1 v23_inv0 v23_inv1 v23_inv2 v23_inv3 v23_inv4 hH hS hl hn23
      have w23_10 : q23 10 = q 10 := h023 10 (by decide) (Or.inl (by decide))
      have w23_13 : q23 13 = q 13 := h023 13 (by decide) (Or.inl (by decide))
      have w23_26 : q23 26 = q 26 := h023 26 (by decide) (Or.inl (by decide))
      have w23_35 : q23 35 = q 35 := h023 35 (by decide) (Or.inl (by decide))
      have d10 := qkm_10 hq23; have d13 := qkm_13 hq23; have d20 := qkm_20 hq23; have d21 := qkm_21 hq23; have d22 := qkm_22 hq23; have d26 := qkm_26 hq23; have d27 := qkm_27 hq23
      have hpil := RS_piled v23_inv0 (by decide)
      obtain ⟨hlo1, hlo2, hlo3⟩ := RS_lo v23_inv0
      obtain ⟨n0, hn0⟩ : ∃ n : Nat, (q23 21).toNat = n + 1 := ⟨(q23 21).toNat - 1, by omega⟩
      obtain ⟨ht1, ht2⟩ := RS_top v23_inv0 hn0
      have hr4 := v23_inv4.1; have hr5 := v23_inv4.2.1; have hr6 := v23_inv4.2.2
      have l1v23_1 := iv23_1.1; have l2v23_1 := iv23_1.2
      refine lv_aload_n hx hb dX11_behindUnit_23 rfl (lv_at hl 0 rfl) ?_
      refine th_get S hK hH inG11 t0 km_0 rfl 38 (by decide) gm_1268 rfl rfl dX11_behindUnit_24 (fun v1 hv1 fv1 => ?_)
      obtain ⟨rf2, rfl, trf2⟩ := th_V.ref hv1
      refine lv_aload_n hx hb dX11_behindUnit_27 rfl (lv_at hl 0 rfl) ?_
      refine th_get S hK hH inG11 t0 km_0 rfl 45 (by decide) gm_1275 rfl rfl dX11_behindUnit_28 (fun v3 hv3 fv3 => ?_)
      obtain ⟨x4, rfl, ix4⟩ := th_V.int hv3
      have kx4a : q23 21 ≤ x4.toInt := ix4.1
      have kx4b : x4.toInt ≤ q23 21 := ix4.2
      have bx4 := qkm_21 hq23
      have ix4 : IV x4 0 90 := iv_w ix4 (qkm_21 hq23)
      have ir5 : IV x4 1 90 := ⟨by omega, by omega⟩
      have ir5a := ir5.1; have ir5b := ir5.2
      refine lv_iconst (v := 1) hx hb dX11_behindUnit_31 (by decide) ?_
      refine lv_isub hx hb dX11_behindUnit_32 ?_
      refine lv_topi (fun x6 ex6 => ?_)
      have ix6 : IV x6 0 89 := by rw [ex6]; exact iv_sub ir5 (iv_c (by decide) : IV 1 1 1) (by decide)
      have ux6 : x6.toInt = x4.toInt - (1 : Int) := by rw [ex6]; exact iv_subE (by have z1 := (ir5).1; have z2 := (ir5).2; have z3 := ((iv_c (by decide) : IV 1 1 1)).1; have z4 := ((iv_c (by decide) : IV 1 1 1)).2; omega)
      refine th_iald S hK hH trf2 km_30 (th_in (hi := 89) ix6 (by decide)) dX11_behindUnit_33 (fun v7 hv7 => ?_)
      obtain ⟨x8, rfl, kx8⟩ := th_eaR hv7 (th_lt (th_in (hi := 89) ix6 (by decide)))
      have ix8 := iv_top x8
      have jx8 := th_nat (hi := 89) ix6
      have hx8 : x8.toInt = q23 (2200 + n0) := (kx8).trans (congrArg q23 (by omega))
      refine lv_bipush (v := 6) hx hb dX11_behindUnit_34 (by decide) ?_
      refine lv_icmp_gt (tgt := 104) hx hb dX11_behindUnit_36 (by decide) (fun c9 => ?_) (fun c9 => ?_)
      · skip
        have rlc9 : (6 : Int) < x8.toInt := iv_lt c9
        have ir10 : IV x8 7 2147483647 := iv_uR (iv_c (by decide) : IV 6 6 6) ix8 (iv_lt c9) (by decide)
        have ir10a := ir10.1; have ir10b := ir10.2
        refine lv_iload_n hx hb dX11_behindUnit_104 rfl (lv_at hl 1 rfl) ?_
        refine lv_if_le (tgt := 147) hx hb dX11_behindUnit_105 (by decide) (fun c11 => ?_) (fun c11 => ?_)
        · skip
          have rlc11 : v23_1.toInt ≤ (0 : Int) := iv_le c11
          have ir12 : IV v23_1 0 0 := iv_vL iv23_1 (iv_c (by decide) : IV 0 0 0) (iv_le c11) (by decide)
          have ir12a := ir12.1; have ir12b := ir12.2
          have h7 : 7 ≤ q23 (2200 + n0) := by omega
          refine lv_aload_n hx hb dX11_behindUnit_147 rfl (lv_at hl 0 rfl) ?_
          refine lv_dup hx hb dX11_behindUnit_148 rfl ?_
          refine th_get S hK hH inG11 t0 km_0 rfl 45 (by decide) gm_1275 rfl rfl dX11_behindUnit_149 (fun v13 hv13 fv13 => ?_)
          obtain ⟨x14, rfl, ix14⟩ := th_V.int hv13
          have kx14a : q23 21 ≤ x14.toInt := ix14.1
          have kx14b : x14.toInt ≤ q23 21 := ix14.2
          have bx14 := qkm_21 hq23
          have ix14 : IV x14 0 90 := iv_w ix14 (qkm_21 hq23)
          have ir15 : IV x14 1 90 := ⟨by omega, by omega⟩
          have ir15a := ir15.1; have ir15b := ir15.2
          refine lv_iconst (v := 1) hx hb dX11_behindUnit_152 (by decide) ?_
          refine lv_isub hx hb dX11_behindUnit_153 ?_
          refine lv_topi (fun x16 ex16 => ?_)
          have ix16 : IV x16 0 89 := by rw [ex16]; exact iv_sub ir15 (iv_c (by decide) : IV 1 1 1) (by decide)
          have ux16 : x16.toInt = x14.toInt - (1 : Int) := by rw [ex16]; exact iv_subE (by have z1 := (ir15).1; have z2 := (ir15).2; have z3 := ((iv_c (by decide) : IV 1 1 1)).1; have z4 := ((iv_c (by decide) : IV 1 1 1)).2; omega)
          obtain ⟨n18, en18⟩ : ∃ z : Int, z = Int32.toInt x16 := ⟨_, rfl⟩
          refine mput_21 S hK hH hS ⟨0, by decide, t0⟩ hT t0 en18 gm_1275 dX11_behindUnit_154 (fun q17 H locs eq17 hH hS hq1 => ?_)
          have hqq17 : qkm q17 := by rw [eq17]; exact qum_ok21 hq23 (iv_z en18 (iv_w ix16 (by decide)))
          have h0q17 : fr [20, 21, 22, 23, 24, 27, 28, 29, 30, 31, 1000] q q17 := by rw [eq17]; exact fr_up h023 (by decide)
          have wq17_10 : q17 10 = q23 10 := by rw [eq17]; rfl
          have wq17_13 : q17 13 = q23 13 := by rw [eq17]; rfl
          have wq17_20 : q17 20 = q23 20 := by rw [eq17]; rfl
          have wq17_21 : q17 21 = n18 := by rw [eq17]; rfl
          have wq17_22 : q17 22 = q23 22 := by rw [eq17]; rfl
          have wq17_23 : q17 23 = q23 23 := by rw [eq17]; rfl
          have wq17_24 : q17 24 = q23 24 := by rw [eq17]; rfl
          have wq17_26 : q17 26 = q23 26 := by rw [eq17]; rfl
          have wq17_27 : q17 27 = q23 27 := by rw [eq17]; rfl
          have wq17_28 : q17 28 = q23 28 := by rw [eq17]; rfl
          have wq17_29 : q17 29 = q23 29 := by rw [eq17]; rfl
          have wq17_30 : q17 30 = q23 30 := by rw [eq17]; rfl
          have wq17_31 : q17 31 = q23 31 := by rw [eq17]; rfl
          have wq17_35 : q17 35 = q23 35 := by rw [eq17]; rfl
          have bgq17 : bg q23 q17 := bg_up bg_rf eq17 (by decide)
          have txq17 : tx q q17 := tx_tr (tx_kp v23_inv3) (tx_up eq17 (by omega))
          refine lv_aload_n hx hb dX11_behindUnit_157 rfl (lv_at hl 0 rfl) ?_
          refine th_get S hK hH inG11 t0 km_0 rfl 38 (by decide) gm_1268 rfl rfl dX11_behindUnit_158 (fun v19 hv19 fv19 => ?_)
          obtain ⟨rf20, rfl, trf20⟩ := th_V.ref hv19
          refine lv_aload_n hx hb dX11_behindUnit_161 rfl (lv_at hl 0 rfl) ?_
          refine th_get S hK hH inG11 t0 km_0 rfl 45 (by decide) gm_1275 rfl rfl dX11_behindUnit_162 (fun v21 hv21 fv21 => ?_)
          obtain ⟨x22, rfl, ix22⟩ := th_V.int hv21
          have kx22a : q17 21 ≤ x22.toInt := ix22.1
          have kx22b : x22.toInt ≤ q17 21 := ix22.2
          have bx22 := qkm_21 hqq17
          have ix22 : IV x22 0 90 := iv_w ix22 (qkm_21 hqq17)
          have ir23 : IV x22 0 89 := ⟨by omega, by omega⟩
          have ir23a := ir23.1; have ir23b := ir23.2
          refine th_iald S hK hH trf20 km_30 (th_in (hi := 89) ir23 (by decide)) dX11_behindUnit_165 (fun v24 hv24 => ?_)
          obtain ⟨x25, rfl, kx25⟩ := th_eaR hv24 (th_lt (th_in (hi := 89) ir23 (by decide)))
          have ix25 := iv_top x25
          have jx25 := th_nat (hi := 89) ir23
          have hx25 : x25.toInt = q23 (2200 + n0) := (kx25).trans ((bgq17 _ (by omega)).trans (congrArg q23 (by omega)))
          refine lv_bipush (v := 7) hx hb dX11_behindUnit_166 (by decide) ?_
          refine lv_icmp_ne (tgt := 191) hx hb dX11_behindUnit_168 (by decide) (fun c26 => ?_) (fun c26 => ?_)
          · skip
            have rlc26 : x25.toInt ≠ (7 : Int) := iv_ne c26
            have hRS : RS q17 0 := RS_shut (a := x25.toInt) (z := q17 22) v23_inv0 (by omega) hn0 hx25 (by omega) (by omega) bgq17 (by omega) (by omega) (by omega) rfl (by omega) (by omega) (by omega) (by omega)
            have hkp : kp q q17 (q 35) := kp_tr v23_inv3 (kp_bg bgq17)
            refine lv_iconst (v := 0) hx hb dX11_behindUnit_191 (by decide) ?_
            exact th_zretM S hK hH hS hr hlocks (iv_w (iv_c (by decide) : IV 0 0 0) (by decide)) ⟨_, rfl, (iv_w (iv_c (by decide) : IV 0 0 0) (by decide)), hqq17, h0q17, (show (q17 29 = 0 ∧ q17 27 = q17 26 ∧ q17 28 = q17 26) ∨ (1 ≤ q17 29 ∧ q17 27 < q17 28 ∧ q17 28 ≤ q17 26) by omega), (show q17 30 = 0 → NL q17 by exact (fun z => NL_tx (hp2 (by omega)) txq17 (by omega) (by omega) (by omega))), (show q17 30 = 0 → q17 29 = 3 → q17 31 = 7237492 → q17 27 + 3 ≤ q17 28 by omega), (show q 27 ≤ q17 27 by omega), (show q17 30 = 0 → 2 * q 27 + q17 21 < 2 * q17 27 + q 21 by omega), (show kp q q17 (q 35) by exact hkp), (show q17 30 = 0 → (0 : Int) ≠ 0 → RS q17 1 ∧ 1 ≤ q17 21 by first | (intro z; exact absurd z (by omega)) | (intro _ z; exact absurd z (by omega)) | exact fun _ _ => ⟨hRS, by omega⟩), (show q17 30 = 0 → (0 : Int) = 0 → RS q17 0 by first | (intro z; exact absurd z (by omega)) | (intro _ z; exact absurd z (by omega)) | exact fun _ _ => hRS)⟩ dX11_behindUnit_192
          · skip
            have rlc26 : x25.toInt = (7 : Int) := congrArg Int32.toInt c26
            have ir27 : IV x25 7 7 := iv_eL c26 (iv_c (by decide) : IV 7 7 7)
            have ir27a := ir27.1; have ir27b := ir27.2
            refine lv_aload_n hx hb dX11_behindUnit_171 rfl (lv_at hl 0 rfl) ?_
            refine lv_dup hx hb dX11_behindUnit_172 rfl ?_
            refine th_get S hK hH inG11 t0 km_0 rfl 44 (by decide) gm_1274 rfl rfl dX11_behindUnit_173 (fun v28 hv28 fv28 => ?_)
            obtain ⟨x29, rfl, ix29⟩ := th_V.int hv28
            have kx29a : q17 22 ≤ x29.toInt := ix29.1
            have kx29b : x29.toInt ≤ q17 22 := ix29.2
            have bx29 := qkm_22 hqq17
            have ix29 : IV x29 0 7 := iv_w ix29 (qkm_22 hqq17)
            have hin := RS_in v23_inv0 hn0 (Or.inr (by omega))
            have ir30 : IV x29 1 7 := ⟨by omega, by omega⟩
            have ir30a := ir30.1; have ir30b := ir30.2
            refine lv_iconst (v := 1) hx hb dX11_behindUnit_176 (by decide) ?_
            refine lv_isub hx hb dX11_behindUnit_177 ?_
            refine lv_topi (fun x31 ex31 => ?_)
            have ix31 : IV x31 0 6 := by rw [ex31]; exact iv_sub ir30 (iv_c (by decide) : IV 1 1 1) (by decide)
            have ux31 : x31.toInt = x29.toInt - (1 : Int) := by rw [ex31]; exact iv_subE (by have z1 := (ir30).1; have z2 := (ir30).2; have z3 := ((iv_c (by decide) : IV 1 1 1)).1; have z4 := ((iv_c (by decide) : IV 1 1 1)).2; omega)
            obtain ⟨n33, en33⟩ : ∃ z : Int, z = Int32.toInt x31 := ⟨_, rfl⟩
            refine mput_22 S hK hH hS ⟨0, by decide, t0⟩ hT t0 en33 gm_1274 dX11_behindUnit_178 (fun q32 H locs eq32 hH hS hq1 => ?_)
            have hqq32 : qkm q32 := by rw [eq32]; exact qum_ok22 hqq17 (iv_z en33 (iv_w ix31 (by decide)))
            have h0q32 : fr [20, 21, 22, 23, 24, 27, 28, 29, 30, 31, 1000] q q32 := by rw [eq32]; exact fr_up h0q17 (by decide)
            have wq32_10 : q32 10 = q17 10 := by rw [eq32]; rfl
            have wq32_13 : q32 13 = q17 13 := by rw [eq32]; rfl
            have wq32_20 : q32 20 = q17 20 := by rw [eq32]; rfl
            have wq32_21 : q32 21 = q17 21 := by rw [eq32]; rfl
            have wq32_22 : q32 22 = n33 := by rw [eq32]; rfl
            have wq32_23 : q32 23 = q17 23 := by rw [eq32]; rfl
            have wq32_24 : q32 24 = q17 24 := by rw [eq32]; rfl
            have wq32_26 : q32 26 = q17 26 := by rw [eq32]; rfl
            have wq32_27 : q32 27 = q17 27 := by rw [eq32]; rfl
            have wq32_28 : q32 28 = q17 28 := by rw [eq32]; rfl
            have wq32_29 : q32 29 = q17 29 := by rw [eq32]; rfl
            have wq32_30 : q32 30 = q17 30 := by rw [eq32]; rfl
            have wq32_31 : q32 31 = q17 31 := by rw [eq32]; rfl
            have wq32_35 : q32 35 = q17 35 := by rw [eq32]; rfl
            have bgq32 : bg q23 q32 := bg_up bgq17 eq32 (by decide)
            have txq32 : tx q q32 := tx_tr txq17 (tx_up eq32 (by omega))
            refine lv_aload_n hx hb dX11_behindUnit_181 rfl (lv_at hl 0 rfl) ?_
            refine lv_aload_n hx hb dX11_behindUnit_182 rfl (lv_at hl 0 rfl) ?_
            refine lv_bipush (v := 41) hx hb dX11_behindUnit_183 (by decide) ?_
            refine th_callVp (n := 1) (As := [.int 41]) S hK hH hS (th_A.sub (by decide)) (m_X11_isSignHere l D cT T q32 hT hqq32 a0 t0 (41) (iv_top _)) gm_1563 gm_1560 gm_1562 gm_68 gm_124 (by decide +kernel) ⟨rfl, rfl, Nat.le_of_ble_eq_true rfl, Nat.le_of_ble_eq_true rfl⟩ t0 km_0 rfl rfl hl.1 rfl (Nat.le_of_ble_eq_true rfl) dX11_behindUnit_185 ⟨Nat.zero_le _, Nat.zero_le _⟩ (fun x34 H locs ix34 ox34 hH hS hF1 => ?_)
            have ox34 : x34.toInt ≠ 0 → q32 29 = 5 ∧ sg q32 (q32 27) = (41 : Int) := ox34
            have l1x34 := ix34.1; have l2x34 := ix34.2
            refine th_callVM (n := 1) (As := [.int x34]) S hK hH hS (th_A.sub (by decide)) (m_X11_must l D cT T q32 hT hqq32 a0 t0 (x34) ix34 (show (q32 29 = 0 ∧ q32 27 = q32 26 ∧ q32 28 = q32 26) ∨ (1 ≤ q32 29 ∧ q32 27 < q32 28 ∧ q32 28 ≤ q32 26) by omega)) gm_1543 gm_1540 gm_1542 gm_63 gm_124 (by decide +kernel) ⟨rfl, rfl, Nat.le_of_ble_eq_true rfl, Nat.le_of_ble_eq_true rfl⟩ t0 km_0 rfl rfl hl.1 rfl (Nat.le_of_ble_eq_true rfl) dX11_behindUnit_188 ⟨Nat.zero_le _, Nat.zero_le _⟩ (fun wq35 q35 H locs hEq35 hH hS hF1 => ?_)
            obtain ⟨rfl, hqq35, g0q35, pq35_0, pq35_1, pq35_2, pq35_3, pq35_4⟩ := hEq35
            show W p l e (rmk 3 65) s m [.ref a0].toArray below meth c H locs 0 0 (MQ below (th_QM D cT T (fun v q2 => ∃ r : Int32, v = some (.int r) ∧ IV r 0 1 ∧ qkm q2 ∧ fr [20, 21, 22, 23, 24, 27, 28, 29, 30, 31, 1000] q q2 ∧ ((q2 29 = 0 ∧ q2 27 = q2 26 ∧ q2 28 = q2 26) ∨ (1 ≤ q2 29 ∧ q2 27 < q2 28 ∧ q2 28 ≤ q2 26)) ∧ (q2 30 = 0 → NL q2) ∧ (q2 30 = 0 → q2 29 = 3 → q2 31 = 7237492 → q2 27 + 3 ≤ q2 28) ∧ (q 27 ≤ q2 27) ∧ (q2 30 = 0 → 2 * q 27 + q2 21 < 2 * q2 27 + q 21) ∧ (kp q q2 (q 35)) ∧ (q2 30 = 0 → r.toInt ≠ 0 → RS q2 1 ∧ 1 ≤ q2 21) ∧ (q2 30 = 0 → r.toInt = 0 → RS q2 0)) [0, 28, 29, 30, 31]) [.ref a0].toArray s 0 0 (th_A T [0, 28, 29, 30, 31])) (F0 m 191 ls [])
            have pq35_0 : (q35 29 = 0 ∧ q35 27 = q35 26 ∧ q35 28 = q35 26) ∨ (1 ≤ q35 29 ∧ q35 27 < q35 28 ∧ q35 28 ≤ q35 26) := pq35_0
            have pq35_1 : q35 30 = 0 → q35 29 = 3 → sg q35 (q35 28) < 97 ∨ 122 < sg q35 (q35 28) := pq35_1
            have pq35_2 : q35 30 = 0 → q35 29 = 3 → q35 31 = 7237492 → q35 27 + 3 ≤ q35 28 := pq35_2
            have pq35_3 : q32 27 ≤ q35 27 := pq35_3
            have pq35_4 : q35 30 = 0 → q32 30 = 0 ∧ x34.toInt ≠ 0 ∧ q32 28 ≤ q35 27 := pq35_4
            have wq35_10 : q35 10 = q32 10 := g0q35 10 (by decide) (Or.inl (by decide))
            have wq35_13 : q35 13 = q32 13 := g0q35 13 (by decide) (Or.inl (by decide))
            have wq35_20 : q35 20 = q32 20 := g0q35 20 (by decide) (Or.inl (by decide))
            have wq35_21 : q35 21 = q32 21 := g0q35 21 (by decide) (Or.inl (by decide))
            have wq35_22 : q35 22 = q32 22 := g0q35 22 (by decide) (Or.inl (by decide))
            have wq35_23 : q35 23 = q32 23 := g0q35 23 (by decide) (Or.inl (by decide))
            have wq35_24 : q35 24 = q32 24 := g0q35 24 (by decide) (Or.inl (by decide))
            have wq35_26 : q35 26 = q32 26 := g0q35 26 (by decide) (Or.inl (by decide))
            have wq35_35 : q35 35 = q32 35 := g0q35 35 (by decide) (Or.inl (by decide))
            have h0q35 : fr [20, 21, 22, 23, 24, 27, 28, 29, 30, 31, 1000] q q35 := fr_tr h0q32 g0q35 (by decide)
            have bgq35 : bg q23 q35 := bg_fr bgq32 g0q35 (by decide)
            have nlq35 : q35 30 = 0 → NL q35 := pq35_1
            have hRS : RS q35 0 := RS_shut (a := x25.toInt) (z := q35 22) v23_inv0 (by omega) hn0 hx25 (by omega) (by omega) bgq35 (by omega) (by omega) (by omega) rfl (by omega) (by omega) (by omega) (by omega)
            have hkp : kp q q35 (q 35) := kp_tr v23_inv3 (kp_bg bgq35)
            refine lv_iconst (v := 0) hx hb dX11_behindUnit_191 (by decide) ?_
            exact th_zretM S hK hH hS hr hlocks (iv_w (iv_c (by decide) : IV 0 0 0) (by decide)) ⟨_, rfl, (iv_w (iv_c (by decide) : IV 0 0 0) (by decide)), hqq35, h0q35, (show (q35 29 = 0 ∧ q35 27 = q35 26 ∧ q35 28 = q35 26) ∨ (1 ≤ q35 29 ∧ q35 27 < q35 28 ∧ q35 28 ≤ q35 26) by omega), (show q35 30 = 0 → NL q35 by exact nlq35), (show q35 30 = 0 → q35 29 = 3 → q35 31 = 7237492 → q35 27 + 3 ≤ q35 28 by omega), (show q 27 ≤ q35 27 by omega), (show q35 30 = 0 → 2 * q 27 + q35 21 < 2 * q35 27 + q 21 by omega), (show kp q q35 (q 35) by exact hkp), (show q35 30 = 0 → (0 : Int) ≠ 0 → RS q35 1 ∧ 1 ≤ q35 21 by first | (intro z; exact absurd z (by omega)) | (intro _ z; exact absurd z (by omega)) | exact fun _ _ => ⟨hRS, by omega⟩), (show q35 30 = 0 → (0 : Int) = 0 → RS q35 0 by first | (intro z; exact absurd z (by omega)) | (intro _ z; exact absurd z (by omega)) | exact fun _ _ => hRS)⟩ dX11_behindUnit_192
        · skip
          have rlc11 : (0 : Int) < v23_1.toInt := iv_nle c11
          have ir36 : IV v23_1 1 6 := iv_uR (iv_c (by decide) : IV 0 0 0) iv23_1 (iv_nle c11) (by decide)
          have ir36a := ir36.1; have ir36b := ir36.2
          refine lv_aload_n hx hb dX11_behindUnit_108 rfl (lv_at hl 0 rfl) ?_
          refine lv_iload_n hx hb dX11_behindUnit_109 rfl (lv_at hl 1 rfl) ?_
          refine lv_iload_n hx hb dX11_behindUnit_110 rfl (lv_at hl 1 rfl) ?_
          refine lv_iconst (v := 2) hx hb dX11_behindUnit_111 (by decide) ?_
          refine lv_icmp_ne (tgt := 120) hx hb dX11_behindUnit_112 (by decide) (fun c37 => ?_) (fun c37 => ?_)
          · skip
            have rlc37 : v23_1.toInt ≠ (2 : Int) := iv_ne c37
            refine lv_iload_n hx hb dX11_behindUnit_120 rfl (lv_at hl 1 rfl) ?_
            refine lv_iconst (v := 1) hx hb dX11_behindUnit_121 (by decide) ?_
            refine lv_icmp_ne (tgt := 130) hx hb dX11_behindUnit_122 (by decide) (fun c38 => ?_) (fun c38 => ?_)
            · skip
              have rlc38 : v23_1.toInt ≠ (1 : Int) := iv_ne c38
              have ir39 : IV v23_1 2 6 := iv_cutL ir36 (iv_c (by decide) : IV 1 1 1) c38 (by decide)
              have ir39a := ir39.1; have ir39b := ir39.2
              refine lv_aload_n hx hb dX11_behindUnit_130 rfl (lv_at hl 0 rfl) ?_
              refine lv_aload_n hx hb dX11_behindUnit_131 rfl (lv_at hl 0 rfl) ?_
              refine th_get S hK hH inG11 t0 km_0 rfl 6 (by decide) gm_1236 rfl rfl dX11_behindUnit_132 (fun v40 hv40 fv40 => ?_)
              obtain ⟨x41, rfl, ix41⟩ := th_V.int hv40
              have kx41a : q23 27 ≤ x41.toInt := ix41.1
              have kx41b : x41.toInt ≤ q23 27 := ix41.2
              have bx41 := qkm_27 hq23
              have ix41 : IV x41 0 1600 := iv_w ix41 (qkm_27 hq23)
              refine th_callVp (n := 1) (As := [.int x41]) S hK hH hS (th_A.sub (by decide)) (m_X11_sign l D cT T q23 hT hq23 a0 t0 (x41) (iv_w ix41 (by decide))) gm_1449 gm_1446 gm_1448 gm_48 gm_124 (by decide +kernel) ⟨rfl, rfl, Nat.le_of_ble_eq_true rfl, Nat.le_of_ble_eq_true rfl⟩ t0 km_0 rfl rfl hl.1 rfl (Nat.le_of_ble_eq_true rfl) dX11_behindUnit_135 ⟨Nat.zero_le _, Nat.zero_le _⟩ (fun x42 H locs ix42 ox42 hH hS hF1 => ?_)
              have ox42 : x42.toInt = sg q23 x41.toInt := ox42
              have l1x42 := ix42.1; have l2x42 := ix42.2
              have f43 := fv1.kept (hF1 _ fv1.lt (th_off t0 (by decide)))
              have hsx : x42.toInt = sg q (q 27) := sg_tx ox42 (tx_kp v23_inv3) (by omega) (by omega)
              have hsg : x42.toInt ≠ 126 ∧ (x42.toInt < 97 ∨ 122 < x42.toInt) := by omega
              refine th_callVM (n := 2) (As := [.int v23_1, .int x42]) S hK hH hS (th_A.sub (by decide)) (m_X11_pushE l D cT T q23 hT hq23 a0 t0 (v23_1) (iv_w ir39 (by decide)) (x42) (iv_top _) (show q23 21 ≤ 60 by omega)) gm_1555 gm_1552 gm_1554 gm_66 gm_124 (by decide +kernel) ⟨rfl, rfl, Nat.le_of_ble_eq_true rfl, Nat.le_of_ble_eq_true rfl⟩ t0 km_0 rfl rfl hl.1 rfl (Nat.le_of_ble_eq_true rfl) dX11_behindUnit_138 ⟨Nat.zero_le _, Nat.zero_le _⟩ (fun wq44 q44 H locs hEq44 hH hS hF1 => ?_)
              obtain ⟨rfl, hqq44, g0q44, pq44_0, pq44_1, pq44_2⟩ := hEq44
              show W p l e (rmk 3 65) s m [.ref a0].toArray below meth c H locs 0 0 (MQ below (th_QM D cT T (fun v q2 => ∃ r : Int32, v = some (.int r) ∧ IV r 0 1 ∧ qkm q2 ∧ fr [20, 21, 22, 23, 24, 27, 28, 29, 30, 31, 1000] q q2 ∧ ((q2 29 = 0 ∧ q2 27 = q2 26 ∧ q2 28 = q2 26) ∨ (1 ≤ q2 29 ∧ q2 27 < q2 28 ∧ q2 28 ≤ q2 26)) ∧ (q2 30 = 0 → NL q2) ∧ (q2 30 = 0 → q2 29 = 3 → q2 31 = 7237492 → q2 27 + 3 ≤ q2 28) ∧ (q 27 ≤ q2 27) ∧ (q2 30 = 0 → 2 * q 27 + q2 21 < 2 * q2 27 + q 21) ∧ (kp q q2 (q 35)) ∧ (q2 30 = 0 → r.toInt ≠ 0 → RS q2 1 ∧ 1 ≤ q2 21) ∧ (q2 30 = 0 → r.toInt = 0 → RS q2 0)) [0, 28, 29, 30, 31]) [.ref a0].toArray s 0 0 (th_A T [0, 28, 29, 30, 31])) (F0 m 141 ls [])
              have pq44_0 : q44 = pushq q23 v23_1.toInt x42.toInt := pq44_0
              have pq44_1 : q44 21 = q23 21 + 1 := pq44_1
              have pq44_2 : tx q23 q44 := pq44_2
              have wq44_10 : q44 10 = q23 10 := g0q44 10 (by decide) (Or.inl (by decide))
              have wq44_13 : q44 13 = q23 13 := g0q44 13 (by decide) (Or.inl (by decide))
              have wq44_20 : q44 20 = q23 20 := g0q44 20 (by decide) (Or.inl (by decide))
              have wq44_22 : q44 22 = q23 22 := g0q44 22 (by decide) (Or.inl (by decide))
              have wq44_23 : q44 23 = q23 23 := g0q44 23 (by decide) (Or.inl (by decide))
              have wq44_24 : q44 24 = q23 24 := g0q44 24 (by decide) (Or.inl (by decide))
              have wq44_26 : q44 26 = q23 26 := g0q44 26 (by decide) (Or.inl (by decide))
              have wq44_27 : q44 27 = q23 27 := g0q44 27 (by decide) (Or.inl (by decide))
              have wq44_28 : q44 28 = q23 28 := g0q44 28 (by decide) (Or.inl (by decide))
              have wq44_29 : q44 29 = q23 29 := g0q44 29 (by decide) (Or.inl (by decide))
              have wq44_30 : q44 30 = q23 30 := g0q44 30 (by decide) (Or.inl (by decide))
              have wq44_31 : q44 31 = q23 31 := g0q44 31 (by decide) (Or.inl (by decide))
              have wq44_35 : q44 35 = q23 35 := g0q44 35 (by decide) (Or.inl (by decide))
              have h0q44 : fr [20, 21, 22, 23, 24, 27, 28, 29, 30, 31, 1000] q q44 := fr_tr h023 g0q44 (by decide)
              have txq44 : tx q q44 := tx_tr (tx_kp v23_inv3) pq44_2
              refine lv_aload_n hx hb dX11_behindUnit_141 rfl (lv_at hl 0 rfl) ?_
              refine th_callVM (n := 0) (As := []) S hK hH hS (th_A.sub (by decide)) (m_X11_goOn l D cT T q44 hT hqq44 a0 t0 (show q44 28 ≤ q44 26 by omega)) gm_1445 gm_1442 gm_1444 gm_47 gm_124 (by decide +kernel) ⟨rfl, rfl, Nat.le_of_ble_eq_true rfl, Nat.le_of_ble_eq_true rfl⟩ t0 km_0 rfl rfl hl.1 rfl (Nat.le_of_ble_eq_true rfl) dX11_behindUnit_142 ⟨Nat.zero_le _, Nat.zero_le _⟩ (fun wq45 q45 H locs hEq45 hH hS hF1 => ?_)
              obtain ⟨rfl, hqq45, g0q45, pq45_0, pq45_1, pq45_2, pq45_3, pq45_4⟩ := hEq45
              show W p l e (rmk 3 65) s m [.ref a0].toArray below meth c H locs 0 0 (MQ below (th_QM D cT T (fun v q2 => ∃ r : Int32, v = some (.int r) ∧ IV r 0 1 ∧ qkm q2 ∧ fr [20, 21, 22, 23, 24, 27, 28, 29, 30, 31, 1000] q q2 ∧ ((q2 29 = 0 ∧ q2 27 = q2 26 ∧ q2 28 = q2 26) ∨ (1 ≤ q2 29 ∧ q2 27 < q2 28 ∧ q2 28 ≤ q2 26)) ∧ (q2 30 = 0 → NL q2) ∧ (q2 30 = 0 → q2 29 = 3 → q2 31 = 7237492 → q2 27 + 3 ≤ q2 28) ∧ (q 27 ≤ q2 27) ∧ (q2 30 = 0 → 2 * q 27 + q2 21 < 2 * q2 27 + q 21) ∧ (kp q q2 (q 35)) ∧ (q2 30 = 0 → r.toInt ≠ 0 → RS q2 1 ∧ 1 ≤ q2 21) ∧ (q2 30 = 0 → r.toInt = 0 → RS q2 0)) [0, 28, 29, 30, 31]) [.ref a0].toArray s 0 0 (th_A T [0, 28, 29, 30, 31])) (F0 m 145 ls [])
              have pq45_0 : (q45 29 = 0 ∧ q45 27 = q45 26 ∧ q45 28 = q45 26) ∨ (1 ≤ q45 29 ∧ q45 27 < q45 28 ∧ q45 28 ≤ q45 26) := pq45_0
              have pq45_1 : q45 29 = 3 → sg q45 (q45 28) < 97 ∨ 122 < sg q45 (q45 28) := pq45_1
              have pq45_2 : q45 29 = 3 → q45 31 = 7237492 → q45 27 + 3 ≤ q45 28 := pq45_2
              have pq45_3 : q44 28 ≤ q45 27 := pq45_3
              have pq45_4 : q45 29 = 3 → 97 ≤ sg q44 (q45 27) ∧ sg q44 (q45 27) ≤ 122 := pq45_4
              have wq45_10 : q45 10 = q44 10 := g0q45 10 (by decide) (Or.inl (by decide))
              have wq45_13 : q45 13 = q44 13 := g0q45 13 (by decide) (Or.inl (by decide))
              have wq45_20 : q45 20 = q44 20 := g0q45 20 (by decide) (Or.inl (by decide))
              have wq45_21 : q45 21 = q44 21 := g0q45 21 (by decide) (Or.inl (by decide))
              have wq45_22 : q45 22 = q44 22 := g0q45 22 (by decide) (Or.inl (by decide))
              have wq45_23 : q45 23 = q44 23 := g0q45 23 (by decide) (Or.inl (by decide))
              have wq45_24 : q45 24 = q44 24 := g0q45 24 (by decide) (Or.inl (by decide))
              have wq45_26 : q45 26 = q44 26 := g0q45 26 (by decide) (Or.inl (by decide))
              have wq45_30 : q45 30 = q44 30 := g0q45 30 (by decide) (Or.inl (by decide))
              have wq45_35 : q45 35 = q44 35 := g0q45 35 (by decide) (Or.inl (by decide))
              have h0q45 : fr [20, 21, 22, 23, 24, 27, 28, 29, 30, 31, 1000] q q45 := fr_tr h0q44 g0q45 (by decide)
              have bgq45 : bg q44 q45 := bg_fr bg_rf g0q45 (by decide)
              have nlq45 : q45 30 = 0 → NL q45 := fun _ => pq45_1
              have hRS : RS q45 1 := RS_two v23_inv0 (by omega) pq44_0 bgq45 (by omega) (by omega) (by omega) (by omega) (by omega) (by omega) (by omega) (by omega) (by omega) (by omega) hsg
              have hkp : kp q q45 (q 35) := kp_tr v23_inv3 (kp_tr (kp_push pq44_0 (by omega) (by omega)) (kp_bg bgq45))
              refine lv_iconst (v := 1) hx hb dX11_behindUnit_145 (by decide) ?_
              exact th_zretM S hK hH hS hr hlocks (iv_w (iv_c (by decide) : IV 1 1 1) (by decide)) ⟨_, rfl, (iv_w (iv_c (by decide) : IV 1 1 1) (by decide)), hqq45, h0q45, (show (q45 29 = 0 ∧ q45 27 = q45 26 ∧ q45 28 = q45 26) ∨ (1 ≤ q45 29 ∧ q45 27 < q45 28 ∧ q45 28 ≤ q45 26) by omega), (show q45 30 = 0 → NL q45 by exact nlq45), (show q45 30 = 0 → q45 29 = 3 → q45 31 = 7237492 → q45 27 + 3 ≤ q45 28 by omega), (show q 27 ≤ q45 27 by omega), (show q45 30 = 0 → 2 * q 27 + q45 21 < 2 * q45 27 + q 21 by omega), (show kp q q45 (q 35) by exact hkp), (show q45 30 = 0 → (1 : Int) ≠ 0 → RS q45 1 ∧ 1 ≤ q45 21 by first | (intro z; exact absurd z (by omega)) | (intro _ z; exact absurd z (by omega)) | exact fun _ _ => ⟨hRS, by omega⟩), (show q45 30 = 0 → (1 : Int) = 0 → RS q45 0 by first | (intro z; exact absurd z (by omega)) | (intro _ z; exact absurd z (by omega)) | exact fun _ _ => hRS)⟩ dX11_behindUnit_146
            · skip
              have rlc38 : v23_1.toInt = (1 : Int) := congrArg Int32.toInt c38
              have ir46 : IV v23_1 1 1 := iv_eL c38 (iv_c (by decide) : IV 1 1 1)
              have ir46a := ir46.1; have ir46b := ir46.2
              refine lv_bipush (v := 124) hx hb dX11_behindUnit_125 (by decide) ?_
              refine lv_goto (tgt := 138) hx hb dX11_behindUnit_127 (by decide) ?_
              have hsg : (124 : Int) ≠ 126 ∧ ((124 : Int) < 97 ∨ 122 < (124 : Int)) := by omega
              refine th_callVM (n := 2) (As := [.int v23_1, .int 124]) S hK hH hS (th_A.sub (by decide)) (m_X11_pushE l D cT T q23 hT hq23 a0 t0 (v23_1) (iv_w ir46 (by decide)) (124) (iv_top _) (show q23 21 ≤ 60 by omega)) gm_1555 gm_1552 gm_1554 gm_66 gm_124 (by decide +kernel) ⟨rfl, rfl, Nat.le_of_ble_eq_true rfl, Nat.le_of_ble_eq_true rfl⟩ t0 km_0 rfl rfl hl.1 rfl (Nat.le_of_ble_eq_true rfl) dX11_behindUnit_138 ⟨Nat.zero_le _, Nat.zero_le _⟩ (fun wq47 q47 H locs hEq47 hH hS hF1 => ?_)
              obtain ⟨rfl, hqq47, g0q47, pq47_0, pq47_1, pq47_2⟩ := hEq47
              show W p l e (rmk 3 65) s m [.ref a0].toArray below meth c H locs 0 0 (MQ below (th_QM D cT T (fun v q2 => ∃ r : Int32, v = some (.int r) ∧ IV r 0 1 ∧ qkm q2 ∧ fr [20, 21, 22, 23, 24, 27, 28, 29, 30, 31, 1000] q q2 ∧ ((q2 29 = 0 ∧ q2 27 = q2 26 ∧ q2 28 = q2 26) ∨ (1 ≤ q2 29 ∧ q2 27 < q2 28 ∧ q2 28 ≤ q2 26)) ∧ (q2 30 = 0 → NL q2) ∧ (q2 30 = 0 → q2 29 = 3 → q2 31 = 7237492 → q2 27 + 3 ≤ q2 28) ∧ (q 27 ≤ q2 27) ∧ (q2 30 = 0 → 2 * q 27 + q2 21 < 2 * q2 27 + q 21) ∧ (kp q q2 (q 35)) ∧ (q2 30 = 0 → r.toInt ≠ 0 → RS q2 1 ∧ 1 ≤ q2 21) ∧ (q2 30 = 0 → r.toInt = 0 → RS q2 0)) [0, 28, 29, 30, 31]) [.ref a0].toArray s 0 0 (th_A T [0, 28, 29, 30, 31])) (F0 m 141 ls [])
              have pq47_0 : q47 = pushq q23 v23_1.toInt (124 : Int) := pq47_0
              have pq47_1 : q47 21 = q23 21 + 1 := pq47_1
              have pq47_2 : tx q23 q47 := pq47_2
              have wq47_10 : q47 10 = q23 10 := g0q47 10 (by decide) (Or.inl (by decide))
              have wq47_13 : q47 13 = q23 13 := g0q47 13 (by decide) (Or.inl (by decide))
              have wq47_20 : q47 20 = q23 20 := g0q47 20 (by decide) (Or.inl (by decide))
              have wq47_22 : q47 22 = q23 22 := g0q47 22 (by decide) (Or.inl (by decide))
              have wq47_23 : q47 23 = q23 23 := g0q47 23 (by decide) (Or.inl (by decide))
              have wq47_24 : q47 24 = q23 24 := g0q47 24 (by decide) (Or.inl (by decide))
              have wq47_26 : q47 26 = q23 26 := g0q47 26 (by decide) (Or.inl (by decide))
              have wq47_27 : q47 27 = q23 27 := g0q47 27 (by decide) (Or.inl (by decide))
              have wq47_28 : q47 28 = q23 28 := g0q47 28 (by decide) (Or.inl (by decide))
              have wq47_29 : q47 29 = q23 29 := g0q47 29 (by decide) (Or.inl (by decide))
              have wq47_30 : q47 30 = q23 30 := g0q47 30 (by decide) (Or.inl (by decide))
              have wq47_31 : q47 31 = q23 31 := g0q47 31 (by decide) (Or.inl (by decide))
              have wq47_35 : q47 35 = q23 35 := g0q47 35 (by decide) (Or.inl (by decide))
              have h0q47 : fr [20, 21, 22, 23, 24, 27, 28, 29, 30, 31, 1000] q q47 := fr_tr h023 g0q47 (by decide)
              have txq47 : tx q q47 := tx_tr (tx_kp v23_inv3) pq47_2
              refine lv_aload_n hx hb dX11_behindUnit_141 rfl (lv_at hl 0 rfl) ?_
              refine th_callVM (n := 0) (As := []) S hK hH hS (th_A.sub (by decide)) (m_X11_goOn l D cT T q47 hT hqq47 a0 t0 (show q47 28 ≤ q47 26 by omega)) gm_1445 gm_1442 gm_1444 gm_47 gm_124 (by decide +kernel) ⟨rfl, rfl, Nat.le_of_ble_eq_true rfl, Nat.le_of_ble_eq_true rfl⟩ t0 km_0 rfl rfl hl.1 rfl (Nat.le_of_ble_eq_true rfl) dX11_behindUnit_142 ⟨Nat.zero_le _, Nat.zero_le _⟩ (fun wq48 q48 H locs hEq48 hH hS hF1 => ?_)
              obtain ⟨rfl, hqq48, g0q48, pq48_0, pq48_1, pq48_2, pq48_3, pq48_4⟩ := hEq48
              show W p l e (rmk 3 65) s m [.ref a0].toArray below meth c H locs 0 0 (MQ below (th_QM D cT T (fun v q2 => ∃ r : Int32, v = some (.int r) ∧ IV r 0 1 ∧ qkm q2 ∧ fr [20, 21, 22, 23, 24, 27, 28, 29, 30, 31, 1000] q q2 ∧ ((q2 29 = 0 ∧ q2 27 = q2 26 ∧ q2 28 = q2 26) ∨ (1 ≤ q2 29 ∧ q2 27 < q2 28 ∧ q2 28 ≤ q2 26)) ∧ (q2 30 = 0 → NL q2) ∧ (q2 30 = 0 → q2 29 = 3 → q2 31 = 7237492 → q2 27 + 3 ≤ q2 28) ∧ (q 27 ≤ q2 27) ∧ (q2 30 = 0 → 2 * q 27 + q2 21 < 2 * q2 27 + q 21) ∧ (kp q q2 (q 35)) ∧ (q2 30 = 0 → r.toInt ≠ 0 → RS q2 1 ∧ 1 ≤ q2 21) ∧ (q2 30 = 0 → r.toInt = 0 → RS q2 0)) [0, 28, 29, 30, 31]) [.ref a0].toArray s 0 0 (th_A T [0, 28, 29, 30, 31])) (F0 m 145 ls [])
              have pq48_0 : (q48 29 = 0 ∧ q48 27 = q48 26 ∧ q48 28 = q48 26) ∨ (1 ≤ q48 29 ∧ q48 27 < q48 28 ∧ q48 28 ≤ q48 26) := pq48_0
              have pq48_1 : q48 29 = 3 → sg q48 (q48 28) < 97 ∨ 122 < sg q48 (q48 28) := pq48_1
              have pq48_2 : q48 29 = 3 → q48 31 = 7237492 → q48 27 + 3 ≤ q48 28 := pq48_2
              have pq48_3 : q47 28 ≤ q48 27 := pq48_3
              have pq48_4 : q48 29 = 3 → 97 ≤ sg q47 (q48 27) ∧ sg q47 (q48 27) ≤ 122 := pq48_4
              have wq48_10 : q48 10 = q47 10 := g0q48 10 (by decide) (Or.inl (by decide))
              have wq48_13 : q48 13 = q47 13 := g0q48 13 (by decide) (Or.inl (by decide))
              have wq48_20 : q48 20 = q47 20 := g0q48 20 (by decide) (Or.inl (by decide))
              have wq48_21 : q48 21 = q47 21 := g0q48 21 (by decide) (Or.inl (by decide))
              have wq48_22 : q48 22 = q47 22 := g0q48 22 (by decide) (Or.inl (by decide))
              have wq48_23 : q48 23 = q47 23 := g0q48 23 (by decide) (Or.inl (by decide))
              have wq48_24 : q48 24 = q47 24 := g0q48 24 (by decide) (Or.inl (by decide))
              have wq48_26 : q48 26 = q47 26 := g0q48 26 (by decide) (Or.inl (by decide))
              have wq48_30 : q48 30 = q47 30 := g0q48 30 (by decide) (Or.inl (by decide))
              have wq48_35 : q48 35 = q47 35 := g0q48 35 (by decide) (Or.inl (by decide))
              have h0q48 : fr [20, 21, 22, 23, 24, 27, 28, 29, 30, 31, 1000] q q48 := fr_tr h0q47 g0q48 (by decide)
              have bgq48 : bg q47 q48 := bg_fr bg_rf g0q48 (by decide)
              have nlq48 : q48 30 = 0 → NL q48 := fun _ => pq48_1
              have hRS : RS q48 1 := RS_two v23_inv0 (by omega) pq47_0 bgq48 (by omega) (by omega) (by omega) (by omega) (by omega) (by omega) (by omega) (by omega) (by omega) (by omega) hsg
              have hkp : kp q q48 (q 35) := kp_tr v23_inv3 (kp_tr (kp_push pq47_0 (by omega) (by omega)) (kp_bg bgq48))
              refine lv_iconst (v := 1) hx hb dX11_behindUnit_145 (by decide) ?_
              exact th_zretM S hK hH hS hr hlocks (iv_w (iv_c (by decide) : IV 1 1 1) (by decide)) ⟨_, rfl, (iv_w (iv_c (by decide) : IV 1 1 1) (by decide)), hqq48, h0q48, (show (q48 29 = 0 ∧ q48 27 = q48 26 ∧ q48 28 = q48 26) ∨ (1 ≤ q48 29 ∧ q48 27 < q48 28 ∧ q48 28 ≤ q48 26) by omega), (show q48 30 = 0 → NL q48 by exact nlq48), (show q48 30 = 0 → q48 29 = 3 → q48 31 = 7237492 → q48 27 + 3 ≤ q48 28 by omega), (show q 27 ≤ q48 27 by omega), (show q48 30 = 0 → 2 * q 27 + q48 21 < 2 * q48 27 + q 21 by omega), (show kp q q48 (q 35) by exact hkp), (show q48 30 = 0 → (1 : Int) ≠ 0 → RS q48 1 ∧ 1 ≤ q48 21 by first | (intro z; exact absurd z (by omega)) | (intro _ z; exact absurd z (by omega)) | exact fun _ _ => ⟨hRS, by omega⟩), (show q48 30 = 0 → (1 : Int) = 0 → RS q48 0 by first | (intro z; exact absurd z (by omega)) | (intro _ z; exact absurd z (by omega)) | exact fun _ _ => hRS)⟩ dX11_behindUnit_146
          · skip
            have rlc37 : v23_1.toInt = (2 : Int) := congrArg Int32.toInt c37
            have ir49 : IV v23_1 2 2 := iv_eL c37 (iv_c (by decide) : IV 2 2 2)
            have ir49a := ir49.1; have ir49b := ir49.2
            refine lv_bipush (v := 38) hx hb dX11_behindUnit_115 (by decide) ?_
            refine lv_goto (tgt := 138) hx hb dX11_behindUnit_117 (by decide) ?_
            have hsg : (38 : Int) ≠ 126 ∧ ((38 : Int) < 97 ∨ 122 < (38 : Int)) := by omega
            refine th_callVM (n := 2) (As := [.int v23_1, .int 38]) S hK hH hS (th_A.sub (by decide)) (m_X11_pushE l D cT T q23 hT hq23 a0 t0 (v23_1) (iv_w ir49 (by decide)) (38) (iv_top _) (show q23 21 ≤ 60 by omega)) gm_1555 gm_1552 gm_1554 gm_66 gm_124 (by decide +kernel) ⟨rfl, rfl, Nat.le_of_ble_eq_true rfl, Nat.le_of_ble_eq_true rfl⟩ t0 km_0 rfl rfl hl.1 rfl (Nat.le_of_ble_eq_true rfl) dX11_behindUnit_138 ⟨Nat.zero_le _, Nat.zero_le _⟩ (fun wq50 q50 H locs hEq50 hH hS hF1 => ?_)
            obtain ⟨rfl, hqq50, g0q50, pq50_0, pq50_1, pq50_2⟩ := hEq50
            show W p l e (rmk 3 65) s m [.ref a0].toArray below meth c H locs 0 0 (MQ below (th_QM D cT T (fun v q2 => ∃ r : Int32, v = some (.int r) ∧ IV r 0 1 ∧ qkm q2 ∧ fr [20, 21, 22, 23, 24, 27, 28, 29, 30, 31, 1000] q q2 ∧ ((q2 29 = 0 ∧ q2 27 = q2 26 ∧ q2 28 = q2 26) ∨ (1 ≤ q2 29 ∧ q2 27 < q2 28 ∧ q2 28 ≤ q2 26)) ∧ (q2 30 = 0 → NL q2) ∧ (q2 30 = 0 → q2 29 = 3 → q2 31 = 7237492 → q2 27 + 3 ≤ q2 28) ∧ (q 27 ≤ q2 27) ∧ (q2 30 = 0 → 2 * q 27 + q2 21 < 2 * q2 27 + q 21) ∧ (kp q q2 (q 35)) ∧ (q2 30 = 0 → r.toInt ≠ 0 → RS q2 1 ∧ 1 ≤ q2 21) ∧ (q2 30 = 0 → r.toInt = 0 → RS q2 0)) [0, 28, 29, 30, 31]) [.ref a0].toArray s 0 0 (th_A T [0, 28, 29, 30, 31])) (F0 m 141 ls [])
            have pq50_0 : q50 = pushq q23 v23_1.toInt (38 : Int) := pq50_0
            have pq50_1 : q50 21 = q23 21 + 1 := pq50_1
            have pq50_2 : tx q23 q50 := pq50_2
            have wq50_10 : q50 10 = q23 10 := g0q50 10 (by decide) (Or.inl (by decide))
            have wq50_13 : q50 13 = q23 13 := g0q50 13 (by decide) (Or.inl (by decide))
            have wq50_20 : q50 20 = q23 20 := g0q50 20 (by decide) (Or.inl (by decide))
            have wq50_22 : q50 22 = q23 22 := g0q50 22 (by decide) (Or.inl (by decide))
            have wq50_23 : q50 23 = q23 23 := g0q50 23 (by decide) (Or.inl (by decide))
            have wq50_24 : q50 24 = q23 24 := g0q50 24 (by decide) (Or.inl (by decide))
            have wq50_26 : q50 26 = q23 26 := g0q50 26 (by decide) (Or.inl (by decide))
            have wq50_27 : q50 27 = q23 27 := g0q50 27 (by decide) (Or.inl (by decide))
            have wq50_28 : q50 28 = q23 28 := g0q50 28 (by decide) (Or.inl (by decide))
            have wq50_29 : q50 29 = q23 29 := g0q50 29 (by decide) (Or.inl (by decide))
            have wq50_30 : q50 30 = q23 30 := g0q50 30 (by decide) (Or.inl (by decide))
            have wq50_31 : q50 31 = q23 31 := g0q50 31 (by decide) (Or.inl (by decide))
            have wq50_35 : q50 35 = q23 35 := g0q50 35 (by decide) (Or.inl (by decide))
            have h0q50 : fr [20, 21, 22, 23, 24, 27, 28, 29, 30, 31, 1000] q q50 := fr_tr h023 g0q50 (by decide)
            have txq50 : tx q q50 := tx_tr (tx_kp v23_inv3) pq50_2
            refine lv_aload_n hx hb dX11_behindUnit_141 rfl (lv_at hl 0 rfl) ?_
            refine th_callVM (n := 0) (As := []) S hK hH hS (th_A.sub (by decide)) (m_X11_goOn l D cT T q50 hT hqq50 a0 t0 (show q50 28 ≤ q50 26 by omega)) gm_1445 gm_1442 gm_1444 gm_47 gm_124 (by decide +kernel) ⟨rfl, rfl, Nat.le_of_ble_eq_true rfl, Nat.le_of_ble_eq_true rfl⟩ t0 km_0 rfl rfl hl.1 rfl (Nat.le_of_ble_eq_true rfl) dX11_behindUnit_142 ⟨Nat.zero_le _, Nat.zero_le _⟩ (fun wq51 q51 H locs hEq51 hH hS hF1 => ?_)
            obtain ⟨rfl, hqq51, g0q51, pq51_0, pq51_1, pq51_2, pq51_3, pq51_4⟩ := hEq51
            show W p l e (rmk 3 65) s m [.ref a0].toArray below meth c H locs 0 0 (MQ below (th_QM D cT T (fun v q2 => ∃ r : Int32, v = some (.int r) ∧ IV r 0 1 ∧ qkm q2 ∧ fr [20, 21, 22, 23, 24, 27, 28, 29, 30, 31, 1000] q q2 ∧ ((q2 29 = 0 ∧ q2 27 = q2 26 ∧ q2 28 = q2 26) ∨ (1 ≤ q2 29 ∧ q2 27 < q2 28 ∧ q2 28 ≤ q2 26)) ∧ (q2 30 = 0 → NL q2) ∧ (q2 30 = 0 → q2 29 = 3 → q2 31 = 7237492 → q2 27 + 3 ≤ q2 28) ∧ (q 27 ≤ q2 27) ∧ (q2 30 = 0 → 2 * q 27 + q2 21 < 2 * q2 27 + q 21) ∧ (kp q q2 (q 35)) ∧ (q2 30 = 0 → r.toInt ≠ 0 → RS q2 1 ∧ 1 ≤ q2 21) ∧ (q2 30 = 0 → r.toInt = 0 → RS q2 0)) [0, 28, 29, 30, 31]) [.ref a0].toArray s 0 0 (th_A T [0, 28, 29, 30, 31])) (F0 m 145 ls [])
            have pq51_0 : (q51 29 = 0 ∧ q51 27 = q51 26 ∧ q51 28 = q51 26) ∨ (1 ≤ q51 29 ∧ q51 27 < q51 28 ∧ q51 28 ≤ q51 26) := pq51_0
            have pq51_1 : q51 29 = 3 → sg q51 (q51 28) < 97 ∨ 122 < sg q51 (q51 28) := pq51_1
            have pq51_2 : q51 29 = 3 → q51 31 = 7237492 → q51 27 + 3 ≤ q51 28 := pq51_2
            have pq51_3 : q50 28 ≤ q51 27 := pq51_3
            have pq51_4 : q51 29 = 3 → 97 ≤ sg q50 (q51 27) ∧ sg q50 (q51 27) ≤ 122 := pq51_4
            have wq51_10 : q51 10 = q50 10 := g0q51 10 (by decide) (Or.inl (by decide))
            have wq51_13 : q51 13 = q50 13 := g0q51 13 (by decide) (Or.inl (by decide))
            have wq51_20 : q51 20 = q50 20 := g0q51 20 (by decide) (Or.inl (by decide))
            have wq51_21 : q51 21 = q50 21 := g0q51 21 (by decide) (Or.inl (by decide))
            have wq51_22 : q51 22 = q50 22 := g0q51 22 (by decide) (Or.inl (by decide))
            have wq51_23 : q51 23 = q50 23 := g0q51 23 (by decide) (Or.inl (by decide))
            have wq51_24 : q51 24 = q50 24 := g0q51 24 (by decide) (Or.inl (by decide))
            have wq51_26 : q51 26 = q50 26 := g0q51 26 (by decide) (Or.inl (by decide))
            have wq51_30 : q51 30 = q50 30 := g0q51 30 (by decide) (Or.inl (by decide))
            have wq51_35 : q51 35 = q50 35 := g0q51 35 (by decide) (Or.inl (by decide))
            have h0q51 : fr [20, 21, 22, 23, 24, 27, 28, 29, 30, 31, 1000] q q51 := fr_tr h0q50 g0q51 (by decide)
            have bgq51 : bg q50 q51 := bg_fr bg_rf g0q51 (by decide)
            have nlq51 : q51 30 = 0 → NL q51 := fun _ => pq51_1
            have hRS : RS q51 1 := RS_two v23_inv0 (by omega) pq50_0 bgq51 (by omega) (by omega) (by omega) (by omega) (by omega) (by omega) (by omega) (by omega) (by omega) (by omega) hsg
            have hkp : kp q q51 (q 35) := kp_tr v23_inv3 (kp_tr (kp_push pq50_0 (by omega) (by omega)) (kp_bg bgq51))
            refine lv_iconst (v := 1) hx hb dX11_behindUnit_145 (by decide) ?_
            exact th_zretM S hK hH hS hr hlocks (iv_w (iv_c (by decide) : IV 1 1 1) (by decide)) ⟨_, rfl, (iv_w (iv_c (by decide) : IV 1 1 1) (by decide)), hqq51, h0q51, (show (q51 29 = 0 ∧ q51 27 = q51 26 ∧ q51 28 = q51 26) ∨ (1 ≤ q51 29 ∧ q51 27 < q51 28 ∧ q51 28 ≤ q51 26) by omega), (show q51 30 = 0 → NL q51 by exact nlq51), (show q51 30 = 0 → q51 29 = 3 → q51 31 = 7237492 → q51 27 + 3 ≤ q51 28 by omega), (show q 27 ≤ q51 27 by omega), (show q51 30 = 0 → 2 * q 27 + q51 21 < 2 * q51 27 + q 21 by omega), (show kp q q51 (q 35) by exact hkp), (show q51 30 = 0 → (1 : Int) ≠ 0 → RS q51 1 ∧ 1 ≤ q51 21 by first | (intro z; exact absurd z (by omega)) | (intro _ z; exact absurd z (by omega)) | exact fun _ _ => ⟨hRS, by omega⟩), (show q51 30 = 0 → (1 : Int) = 0 → RS q51 0 by first | (intro z; exact absurd z (by omega)) | (intro _ z; exact absurd z (by omega)) | exact fun _ _ => hRS)⟩ dX11_behindUnit_146
      · skip
        have rlc9 : x8.toInt ≤ (6 : Int) := iv_nlt c9
        have ir52 : IV x8 (-2147483648) 6 := iv_vL ix8 (iv_c (by decide) : IV 6 6 6) (iv_nlt c9) (by decide)
        have ir52a := ir52.1; have ir52b := ir52.2
        refine lv_aload_n hx hb dX11_behindUnit_39 rfl (lv_at hl 0 rfl) ?_
        refine th_getK S hK fv1 inG11 rfl (by decide) gm_1268 rfl dX11_behindUnit_40 ?_
        refine lv_aload_n hx hb dX11_behindUnit_43 rfl (lv_at hl 0 rfl) ?_
        refine th_get S hK hH inG11 t0 km_0 rfl 45 (by decide) gm_1275 rfl rfl dX11_behindUnit_44 (fun v54 hv54 fv54 => ?_)
        obtain ⟨x55, rfl, ix55⟩ := th_V.int hv54
        have kx55a : q23 21 ≤ x55.toInt := ix55.1
        have kx55b : x55.toInt ≤ q23 21 := ix55.2
        have bx55 := qkm_21 hq23
        have ix55 : IV x55 0 90 := iv_w ix55 (qkm_21 hq23)
        have ir56 : IV x55 1 90 := ⟨by omega, by omega⟩
        have ir56a := ir56.1; have ir56b := ir56.2
        refine lv_iconst (v := 1) hx hb dX11_behindUnit_47 (by decide) ?_
        refine lv_isub hx hb dX11_behindUnit_48 ?_
        refine lv_topi (fun x57 ex57 => ?_)
        have ix57 : IV x57 0 89 := by rw [ex57]; exact iv_sub ir56 (iv_c (by decide) : IV 1 1 1) (by decide)
        have ux57 : x57.toInt = x55.toInt - (1 : Int) := by rw [ex57]; exact iv_subE (by have z1 := (ir56).1; have z2 := (ir56).2; have z3 := ((iv_c (by decide) : IV 1 1 1)).1; have z4 := ((iv_c (by decide) : IV 1 1 1)).2; omega)
        refine th_iald S hK hH trf2 km_30 (th_in (hi := 89) ix57 (by decide)) dX11_behindUnit_49 (fun v58 hv58 => ?_)
        obtain ⟨x59, rfl, kx59⟩ := th_eaR hv58 (th_lt (th_in (hi := 89) ix57 (by decide)))
        have ix59 := iv_top x59
        have jx59 := th_nat (hi := 89) ix57
        have hx59 : x59.toInt = q23 (2200 + n0) := (kx59).trans (congrArg q23 (by omega))
        refine lv_iload_n hx hb dX11_behindUnit_50 rfl (lv_at hl 1 rfl) ?_
        refine lv_icmp_lt (tgt := 104) hx hb dX11_behindUnit_51 (by decide) (fun c60 => ?_) (fun c60 => ?_)
        · skip
          have rlc60 : x59.toInt < v23_1.toInt := iv_lt c60
          have ir61 : IV x59 (-2147483648) 5 := iv_uL ix59 iv23_1 (iv_lt c60) (by decide)
          have ir61a := ir61.1; have ir61b := ir61.2
          refine lv_iload_n hx hb dX11_behindUnit_104 rfl (lv_at hl 1 rfl) ?_
          refine lv_if_le (tgt := 147) hx hb dX11_behindUnit_105 (by decide) (fun c62 => ?_) (fun c62 => ?_)
          · skip
            have rlc62 : v23_1.toInt ≤ (0 : Int) := iv_le c62
            have ir63 : IV v23_1 0 0 := iv_vL iv23_1 (iv_c (by decide) : IV 0 0 0) (iv_le c62) (by decide)
            have ir63a := ir63.1; have ir63b := ir63.2
            have h7 : 7 ≤ q23 (2200 + n0) := by omega
            refine lv_aload_n hx hb dX11_behindUnit_147 rfl (lv_at hl 0 rfl) ?_
            refine lv_dup hx hb dX11_behindUnit_148 rfl ?_
            refine th_get S hK hH inG11 t0 km_0 rfl 45 (by decide) gm_1275 rfl rfl dX11_behindUnit_149 (fun v64 hv64 fv64 => ?_)
            obtain ⟨x65, rfl, ix65⟩ := th_V.int hv64
            have kx65a : q23 21 ≤ x65.toInt := ix65.1
            have kx65b : x65.toInt ≤ q23 21 := ix65.2
            have bx65 := qkm_21 hq23
            have ix65 : IV x65 0 90 := iv_w ix65 (qkm_21 hq23)
            have ir66 : IV x65 1 90 := ⟨by omega, by omega⟩
            have ir66a := ir66.1; have ir66b := ir66.2
            refine lv_iconst (v := 1) hx hb dX11_behindUnit_152 (by decide) ?_
            refine lv_isub hx hb dX11_behindUnit_153 ?_
            refine lv_topi (fun x67 ex67 => ?_)
            have ix67 : IV x67 0 89 := by rw [ex67]; exact iv_sub ir66 (iv_c (by decide) : IV 1 1 1) (by decide)
            have ux67 : x67.toInt = x65.toInt - (1 : Int) := by rw [ex67]; exact iv_subE (by have z1 := (ir66).1; have z2 := (ir66).2; have z3 := ((iv_c (by decide) : IV 1 1 1)).1; have z4 := ((iv_c (by decide) : IV 1 1 1)).2; omega)
            obtain ⟨n69, en69⟩ : ∃ z : Int, z = Int32.toInt x67 := ⟨_, rfl⟩
            refine mput_21 S hK hH hS ⟨0, by decide, t0⟩ hT t0 en69 gm_1275 dX11_behindUnit_154 (fun q68 H locs eq68 hH hS hq1 => ?_)
            have hqq68 : qkm q68 := by rw [eq68]; exact qum_ok21 hq23 (iv_z en69 (iv_w ix67 (by decide)))
            have h0q68 : fr [20, 21, 22, 23, 24, 27, 28, 29, 30, 31, 1000] q q68 := by rw [eq68]; exact fr_up h023 (by decide)
            have wq68_10 : q68 10 = q23 10 := by rw [eq68]; rfl
            have wq68_13 : q68 13 = q23 13 := by rw [eq68]; rfl
            have wq68_20 : q68 20 = q23 20 := by rw [eq68]; rfl
            have wq68_21 : q68 21 = n69 := by rw [eq68]; rfl
            have wq68_22 : q68 22 = q23 22 := by rw [eq68]; rfl
            have wq68_23 : q68 23 = q23 23 := by rw [eq68]; rfl
            have wq68_24 : q68 24 = q23 24 := by rw [eq68]; rfl
            have wq68_26 : q68 26 = q23 26 := by rw [eq68]; rfl
            have wq68_27 : q68 27 = q23 27 := by rw [eq68]; rfl
            have wq68_28 : q68 28 = q23 28 := by rw [eq68]; rfl
            have wq68_29 : q68 29 = q23 29 := by rw [eq68]; rfl
            have wq68_30 : q68 30 = q23 30 := by rw [eq68]; rfl
            have wq68_31 : q68 31 = q23 31 := by rw [eq68]; rfl
            have wq68_35 : q68 35 = q23 35 := by rw [eq68]; rfl
            have bgq68 : bg q23 q68 := bg_up bg_rf eq68 (by decide)
            have txq68 : tx q q68 := tx_tr (tx_kp v23_inv3) (tx_up eq68 (by omega))
            refine lv_aload_n hx hb dX11_behindUnit_157 rfl (lv_at hl 0 rfl) ?_
            refine th_get S hK hH inG11 t0 km_0 rfl 38 (by decide) gm_1268 rfl rfl dX11_behindUnit_158 (fun v70 hv70 fv70 => ?_)
            obtain ⟨rf71, rfl, trf71⟩ := th_V.ref hv70
            refine lv_aload_n hx hb dX11_behindUnit_161 rfl (lv_at hl 0 rfl) ?_
            refine th_get S hK hH inG11 t0 km_0 rfl 45 (by decide) gm_1275 rfl rfl dX11_behindUnit_162 (fun v72 hv72 fv72 => ?_)
            obtain ⟨x73, rfl, ix73⟩ := th_V.int hv72
            have kx73a : q68 21 ≤ x73.toInt := ix73.1
            have kx73b : x73.toInt ≤ q68 21 := ix73.2
            have bx73 := qkm_21 hqq68
            have ix73 : IV x73 0 90 := iv_w ix73 (qkm_21 hqq68)
            have ir74 : IV x73 0 89 := ⟨by omega, by omega⟩
            have ir74a := ir74.1; have ir74b := ir74.2
            refine th_iald S hK hH trf71 km_30 (th_in (hi := 89) ir74 (by decide)) dX11_behindUnit_165 (fun v75 hv75 => ?_)
            obtain ⟨x76, rfl, kx76⟩ := th_eaR hv75 (th_lt (th_in (hi := 89) ir74 (by decide)))
            have ix76 := iv_top x76
            have jx76 := th_nat (hi := 89) ir74
            have hx76 : x76.toInt = q23 (2200 + n0) := (kx76).trans ((bgq68 _ (by omega)).trans (congrArg q23 (by omega)))
            refine lv_bipush (v := 7) hx hb dX11_behindUnit_166 (by decide) ?_
            refine lv_icmp_ne (tgt := 191) hx hb dX11_behindUnit_168 (by decide) (fun c77 => ?_) (fun c77 => ?_)
            · skip
              have rlc77 : x76.toInt ≠ (7 : Int) := iv_ne c77
              have hRS : RS q68 0 := RS_shut (a := x76.toInt) (z := q68 22) v23_inv0 (by omega) hn0 hx76 (by omega) (by omega) bgq68 (by omega) (by omega) (by omega) rfl (by omega) (by omega) (by omega) (by omega)
              have hkp : kp q q68 (q 35) := kp_tr v23_inv3 (kp_bg bgq68)
              refine lv_iconst (v := 0) hx hb dX11_behindUnit_191 (by decide) ?_
              exact th_zretM S hK hH hS hr hlocks (iv_w (iv_c (by decide) : IV 0 0 0) (by decide)) ⟨_, rfl, (iv_w (iv_c (by decide) : IV 0 0 0) (by decide)), hqq68, h0q68, (show (q68 29 = 0 ∧ q68 27 = q68 26 ∧ q68 28 = q68 26) ∨ (1 ≤ q68 29 ∧ q68 27 < q68 28 ∧ q68 28 ≤ q68 26) by omega), (show q68 30 = 0 → NL q68 by exact (fun z => NL_tx (hp2 (by omega)) txq68 (by omega) (by omega) (by omega))), (show q68 30 = 0 → q68 29 = 3 → q68 31 = 7237492 → q68 27 + 3 ≤ q68 28 by omega), (show q 27 ≤ q68 27 by omega), (show q68 30 = 0 → 2 * q 27 + q68 21 < 2 * q68 27 + q 21 by omega), (show kp q q68 (q 35) by exact hkp), (show q68 30 = 0 → (0 : Int) ≠ 0 → RS q68 1 ∧ 1 ≤ q68 21 by first | (intro z; exact absurd z (by omega)) | (intro _ z; exact absurd z (by omega)) | exact fun _ _ => ⟨hRS, by omega⟩), (show q68 30 = 0 → (0 : Int) = 0 → RS q68 0 by first | (intro z; exact absurd z (by omega)) | (intro _ z; exact absurd z (by omega)) | exact fun _ _ => hRS)⟩ dX11_behindUnit_192
            · skip
              have rlc77 : x76.toInt = (7 : Int) := congrArg Int32.toInt c77
              have ir78 : IV x76 7 7 := iv_eL c77 (iv_c (by decide) : IV 7 7 7)
              have ir78a := ir78.1; have ir78b := ir78.2
              refine lv_aload_n hx hb dX11_behindUnit_171 rfl (lv_at hl 0 rfl) ?_
              refine lv_dup hx hb dX11_behindUnit_172 rfl ?_
              refine th_get S hK hH inG11 t0 km_0 rfl 44 (by decide) gm_1274 rfl rfl dX11_behindUnit_173 (fun v79 hv79 fv79 => ?_)
              obtain ⟨x80, rfl, ix80⟩ := th_V.int hv79
              have kx80a : q68 22 ≤ x80.toInt := ix80.1
              have kx80b : x80.toInt ≤ q68 22 := ix80.2
              have bx80 := qkm_22 hqq68
              have ix80 : IV x80 0 7 := iv_w ix80 (qkm_22 hqq68)
              have hin := RS_in v23_inv0 hn0 (Or.inr (by omega))
              have ir81 : IV x80 1 7 := ⟨by omega, by omega⟩
              have ir81a := ir81.1; have ir81b := ir81.2
              refine lv_iconst (v := 1) hx hb dX11_behindUnit_176 (by decide) ?_
              refine lv_isub hx hb dX11_behindUnit_177 ?_
              refine lv_topi (fun x82 ex82 => ?_)
              have ix82 : IV x82 0 6 := by rw [ex82]; exact iv_sub ir81 (iv_c (by decide) : IV 1 1 1) (by decide)
              have ux82 : x82.toInt = x80.toInt - (1 : Int) := by rw [ex82]; exact iv_subE (by have z1 := (ir81).1; have z2 := (ir81).2; have z3 := ((iv_c (by decide) : IV 1 1 1)).1; have z4 := ((iv_c (by decide) : IV 1 1 1)).2; omega)
              obtain ⟨n84, en84⟩ : ∃ z : Int, z = Int32.toInt x82 := ⟨_, rfl⟩
              refine mput_22 S hK hH hS ⟨0, by decide, t0⟩ hT t0 en84 gm_1274 dX11_behindUnit_178 (fun q83 H locs eq83 hH hS hq1 => ?_)
              have hqq83 : qkm q83 := by rw [eq83]; exact qum_ok22 hqq68 (iv_z en84 (iv_w ix82 (by decide)))
              have h0q83 : fr [20, 21, 22, 23, 24, 27, 28, 29, 30, 31, 1000] q q83 := by rw [eq83]; exact fr_up h0q68 (by decide)
              have wq83_10 : q83 10 = q68 10 := by rw [eq83]; rfl
              have wq83_13 : q83 13 = q68 13 := by rw [eq83]; rfl
              have wq83_20 : q83 20 = q68 20 := by rw [eq83]; rfl
              have wq83_21 : q83 21 = q68 21 := by rw [eq83]; rfl
              have wq83_22 : q83 22 = n84 := by rw [eq83]; rfl
              have wq83_23 : q83 23 = q68 23 := by rw [eq83]; rfl
              have wq83_24 : q83 24 = q68 24 := by rw [eq83]; rfl
              have wq83_26 : q83 26 = q68 26 := by rw [eq83]; rfl
              have wq83_27 : q83 27 = q68 27 := by rw [eq83]; rfl
              have wq83_28 : q83 28 = q68 28 := by rw [eq83]; rfl
              have wq83_29 : q83 29 = q68 29 := by rw [eq83]; rfl
              have wq83_30 : q83 30 = q68 30 := by rw [eq83]; rfl
              have wq83_31 : q83 31 = q68 31 := by rw [eq83]; rfl
              have wq83_35 : q83 35 = q68 35 := by rw [eq83]; rfl
              have bgq83 : bg q23 q83 := bg_up bgq68 eq83 (by decide)
              have txq83 : tx q q83 := tx_tr txq68 (tx_up eq83 (by omega))
              refine lv_aload_n hx hb dX11_behindUnit_181 rfl (lv_at hl 0 rfl) ?_
              refine lv_aload_n hx hb dX11_behindUnit_182 rfl (lv_at hl 0 rfl) ?_
              refine lv_bipush (v := 41) hx hb dX11_behindUnit_183 (by decide) ?_
              refine th_callVp (n := 1) (As := [.int 41]) S hK hH hS (th_A.sub (by decide)) (m_X11_isSignHere l D cT T q83 hT hqq83 a0 t0 (41) (iv_top _)) gm_1563 gm_1560 gm_1562 gm_68 gm_124 (by decide +kernel) ⟨rfl, rfl, Nat.le_of_ble_eq_true rfl, Nat.le_of_ble_eq_true rfl⟩ t0 km_0 rfl rfl hl.1 rfl (Nat.le_of_ble_eq_true rfl) dX11_behindUnit_185 ⟨Nat.zero_le _, Nat.zero_le _⟩ (fun x85 H locs ix85 ox85 hH hS hF1 => ?_)
              have ox85 : x85.toInt ≠ 0 → q83 29 = 5 ∧ sg q83 (q83 27) = (41 : Int) := ox85
              have l1x85 := ix85.1; have l2x85 := ix85.2
              refine th_callVM (n := 1) (As := [.int x85]) S hK hH hS (th_A.sub (by decide)) (m_X11_must l D cT T q83 hT hqq83 a0 t0 (x85) ix85 (show (q83 29 = 0 ∧ q83 27 = q83 26 ∧ q83 28 = q83 26) ∨ (1 ≤ q83 29 ∧ q83 27 < q83 28 ∧ q83 28 ≤ q83 26) by omega)) gm_1543 gm_1540 gm_1542 gm_63 gm_124 (by decide +kernel) ⟨rfl, rfl, Nat.le_of_ble_eq_true rfl, Nat.le_of_ble_eq_true rfl⟩ t0 km_0 rfl rfl hl.1 rfl (Nat.le_of_ble_eq_true rfl) dX11_behindUnit_188 ⟨Nat.zero_le _, Nat.zero_le _⟩ (fun wq86 q86 H locs hEq86 hH hS hF1 => ?_)
              obtain ⟨rfl, hqq86, g0q86, pq86_0, pq86_1, pq86_2, pq86_3, pq86_4⟩ := hEq86
              show W p l e (rmk 3 65) s m [.ref a0].toArray below meth c H locs 0 0 (MQ below (th_QM D cT T (fun v q2 => ∃ r : Int32, v = some (.int r) ∧ IV r 0 1 ∧ qkm q2 ∧ fr [20, 21, 22, 23, 24, 27, 28, 29, 30, 31, 1000] q q2 ∧ ((q2 29 = 0 ∧ q2 27 = q2 26 ∧ q2 28 = q2 26) ∨ (1 ≤ q2 29 ∧ q2 27 < q2 28 ∧ q2 28 ≤ q2 26)) ∧ (q2 30 = 0 → NL q2) ∧ (q2 30 = 0 → q2 29 = 3 → q2 31 = 7237492 → q2 27 + 3 ≤ q2 28) ∧ (q 27 ≤ q2 27) ∧ (q2 30 = 0 → 2 * q 27 + q2 21 < 2 * q2 27 + q 21) ∧ (kp q q2 (q 35)) ∧ (q2 30 = 0 → r.toInt ≠ 0 → RS q2 1 ∧ 1 ≤ q2 21) ∧ (q2 30 = 0 → r.toInt = 0 → RS q2 0)) [0, 28, 29, 30, 31]) [.ref a0].toArray s 0 0 (th_A T [0, 28, 29, 30, 31])) (F0 m 191 ls [])
              have pq86_0 : (q86 29 = 0 ∧ q86 27 = q86 26 ∧ q86 28 = q86 26) ∨ (1 ≤ q86 29 ∧ q86 27 < q86 28 ∧ q86 28 ≤ q86 26) := pq86_0
              have pq86_1 : q86 30 = 0 → q86 29 = 3 → sg q86 (q86 28) < 97 ∨ 122 < sg q86 (q86 28) := pq86_1
              have pq86_2 : q86 30 = 0 → q86 29 = 3 → q86 31 = 7237492 → q86 27 + 3 ≤ q86 28 := pq86_2
              have pq86_3 : q83 27 ≤ q86 27 := pq86_3
              have pq86_4 : q86 30 = 0 → q83 30 = 0 ∧ x85.toInt ≠ 0 ∧ q83 28 ≤ q86 27 := pq86_4
              have wq86_10 : q86 10 = q83 10 := g0q86 10 (by decide) (Or.inl (by decide))
              have wq86_13 : q86 13 = q83 13 := g0q86 13 (by decide) (Or.inl (by decide))
              have wq86_20 : q86 20 = q83 20 := g0q86 20 (by decide) (Or.inl (by decide))
              have wq86_21 : q86 21 = q83 21 := g0q86 21 (by decide) (Or.inl (by decide))
              have wq86_22 : q86 22 = q83 22 := g0q86 22 (by decide) (Or.inl (by decide))
              have wq86_23 : q86 23 = q83 23 := g0q86 23 (by decide) (Or.inl (by decide))
              have wq86_24 : q86 24 = q83 24 := g0q86 24 (by decide) (Or.inl (by decide))
              have wq86_26 : q86 26 = q83 26 := g0q86 26 (by decide) (Or.inl (by decide))
              have wq86_35 : q86 35 = q83 35 := g0q86 35 (by decide) (Or.inl (by decide))
              have h0q86 : fr [20, 21, 22, 23, 24, 27, 28, 29, 30, 31, 1000] q q86 := fr_tr h0q83 g0q86 (by decide)
              have bgq86 : bg q23 q86 := bg_fr bgq83 g0q86 (by decide)
              have nlq86 : q86 30 = 0 → NL q86 := pq86_1
              have hRS : RS q86 0 := RS_shut (a := x76.toInt) (z := q86 22) v23_inv0 (by omega) hn0 hx76 (by omega) (by omega) bgq86 (by omega) (by omega) (by omega) rfl (by omega) (by omega) (by omega) (by omega)
              have hkp : kp q q86 (q 35) := kp_tr v23_inv3 (kp_bg bgq86)
              refine lv_iconst (v := 0) hx hb dX11_behindUnit_191 (by decide) ?_
              exact th_zretM S hK hH hS hr hlocks (iv_w (iv_c (by decide) : IV 0 0 0) (by decide)) ⟨_, rfl, (iv_w (iv_c (by decide) : IV 0 0 0) (by decide)), hqq86, h0q86, (show (q86 29 = 0 ∧ q86 27 = q86 26 ∧ q86 28 = q86 26) ∨ (1 ≤ q86 29 ∧ q86 27 < q86 28 ∧ q86 28 ≤ q86 26) by omega), (show q86 30 = 0 → NL q86 by exact nlq86), (show q86 30 = 0 → q86 29 = 3 → q86 31 = 7237492 → q86 27 + 3 ≤ q86 28 by omega), (show q 27 ≤ q86 27 by omega), (show q86 30 = 0 → 2 * q 27 + q86 21 < 2 * q86 27 + q 21 by omega), (show kp q q86 (q 35) by exact hkp), (show q86 30 = 0 → (0 : Int) ≠ 0 → RS q86 1 ∧ 1 ≤ q86 21 by first | (intro z; exact absurd z (by omega)) | (intro _ z; exact absurd z (by omega)) | exact fun _ _ => ⟨hRS, by omega⟩), (show q86 30 = 0 → (0 : Int) = 0 → RS q86 0 by first | (intro z; exact absurd z (by omega)) | (intro _ z; exact absurd z (by omega)) | exact fun _ _ => hRS)⟩ dX11_behindUnit_192
          · skip
            have rlc62 : (0 : Int) < v23_1.toInt := iv_nle c62
            have ir87 : IV v23_1 1 6 := iv_uR (iv_c (by decide) : IV 0 0 0) iv23_1 (iv_nle c62) (by decide)
            have ir87a := ir87.1; have ir87b := ir87.2
            refine lv_aload_n hx hb dX11_behindUnit_108 rfl (lv_at hl 0 rfl) ?_
            refine lv_iload_n hx hb dX11_behindUnit_109 rfl (lv_at hl 1 rfl) ?_
            refine lv_iload_n hx hb dX11_behindUnit_110 rfl (lv_at hl 1 rfl) ?_
            refine lv_iconst (v := 2) hx hb dX11_behindUnit_111 (by decide) ?_
            refine lv_icmp_ne (tgt := 120) hx hb dX11_behindUnit_112 (by decide) (fun c88 => ?_) (fun c88 => ?_)
            · skip
              have rlc88 : v23_1.toInt ≠ (2 : Int) := iv_ne c88
              refine lv_iload_n hx hb dX11_behindUnit_120 rfl (lv_at hl 1 rfl) ?_
              refine lv_iconst (v := 1) hx hb dX11_behindUnit_121 (by decide) ?_
              refine lv_icmp_ne (tgt := 130) hx hb dX11_behindUnit_122 (by decide) (fun c89 => ?_) (fun c89 => ?_)
              · skip
                have rlc89 : v23_1.toInt ≠ (1 : Int) := iv_ne c89
                have ir90 : IV v23_1 2 6 := iv_cutL ir87 (iv_c (by decide) : IV 1 1 1) c89 (by decide)
                have ir90a := ir90.1; have ir90b := ir90.2
                refine lv_aload_n hx hb dX11_behindUnit_130 rfl (lv_at hl 0 rfl) ?_
                refine lv_aload_n hx hb dX11_behindUnit_131 rfl (lv_at hl 0 rfl) ?_
                refine th_get S hK hH inG11 t0 km_0 rfl 6 (by decide) gm_1236 rfl rfl dX11_behindUnit_132 (fun v91 hv91 fv91 => ?_)
                obtain ⟨x92, rfl, ix92⟩ := th_V.int hv91
                have kx92a : q23 27 ≤ x92.toInt := ix92.1
                have kx92b : x92.toInt ≤ q23 27 := ix92.2
                have bx92 := qkm_27 hq23
                have ix92 : IV x92 0 1600 := iv_w ix92 (qkm_27 hq23)
                refine th_callVp (n := 1) (As := [.int x92]) S hK hH hS (th_A.sub (by decide)) (m_X11_sign l D cT T q23 hT hq23 a0 t0 (x92) (iv_w ix92 (by decide))) gm_1449 gm_1446 gm_1448 gm_48 gm_124 (by decide +kernel) ⟨rfl, rfl, Nat.le_of_ble_eq_true rfl, Nat.le_of_ble_eq_true rfl⟩ t0 km_0 rfl rfl hl.1 rfl (Nat.le_of_ble_eq_true rfl) dX11_behindUnit_135 ⟨Nat.zero_le _, Nat.zero_le _⟩ (fun x93 H locs ix93 ox93 hH hS hF1 => ?_)
                have ox93 : x93.toInt = sg q23 x92.toInt := ox93
                have l1x93 := ix93.1; have l2x93 := ix93.2
                have f94 := fv1.kept (hF1 _ fv1.lt (th_off t0 (by decide)))
                have hsx : x93.toInt = sg q (q 27) := sg_tx ox93 (tx_kp v23_inv3) (by omega) (by omega)
                have hsg : x93.toInt ≠ 126 ∧ (x93.toInt < 97 ∨ 122 < x93.toInt) := by omega
                refine th_callVM (n := 2) (As := [.int v23_1, .int x93]) S hK hH hS (th_A.sub (by decide)) (m_X11_pushE l D cT T q23 hT hq23 a0 t0 (v23_1) (iv_w ir90 (by decide)) (x93) (iv_top _) (show q23 21 ≤ 60 by omega)) gm_1555 gm_1552 gm_1554 gm_66 gm_124 (by decide +kernel) ⟨rfl, rfl, Nat.le_of_ble_eq_true rfl, Nat.le_of_ble_eq_true rfl⟩ t0 km_0 rfl rfl hl.1 rfl (Nat.le_of_ble_eq_true rfl) dX11_behindUnit_138 ⟨Nat.zero_le _, Nat.zero_le _⟩ (fun wq95 q95 H locs hEq95 hH hS hF1 => ?_)
                obtain ⟨rfl, hqq95, g0q95, pq95_0, pq95_1, pq95_2⟩ := hEq95
                show W p l e (rmk 3 65) s m [.ref a0].toArray below meth c H locs 0 0 (MQ below (th_QM D cT T (fun v q2 => ∃ r : Int32, v = some (.int r) ∧ IV r 0 1 ∧ qkm q2 ∧ fr [20, 21, 22, 23, 24, 27, 28, 29, 30, 31, 1000] q q2 ∧ ((q2 29 = 0 ∧ q2 27 = q2 26 ∧ q2 28 = q2 26) ∨ (1 ≤ q2 29 ∧ q2 27 < q2 28 ∧ q2 28 ≤ q2 26)) ∧ (q2 30 = 0 → NL q2) ∧ (q2 30 = 0 → q2 29 = 3 → q2 31 = 7237492 → q2 27 + 3 ≤ q2 28) ∧ (q 27 ≤ q2 27) ∧ (q2 30 = 0 → 2 * q 27 + q2 21 < 2 * q2 27 + q 21) ∧ (kp q q2 (q 35)) ∧ (q2 30 = 0 → r.toInt ≠ 0 → RS q2 1 ∧ 1 ≤ q2 21) ∧ (q2 30 = 0 → r.toInt = 0 → RS q2 0)) [0, 28, 29, 30, 31]) [.ref a0].toArray s 0 0 (th_A T [0, 28, 29, 30, 31])) (F0 m 141 ls [])
                have pq95_0 : q95 = pushq q23 v23_1.toInt x93.toInt := pq95_0
                have pq95_1 : q95 21 = q23 21 + 1 := pq95_1
                have pq95_2 : tx q23 q95 := pq95_2
                have wq95_10 : q95 10 = q23 10 := g0q95 10 (by decide) (Or.inl (by decide))
                have wq95_13 : q95 13 = q23 13 := g0q95 13 (by decide) (Or.inl (by decide))
                have wq95_20 : q95 20 = q23 20 := g0q95 20 (by decide) (Or.inl (by decide))
                have wq95_22 : q95 22 = q23 22 := g0q95 22 (by decide) (Or.inl (by decide))
                have wq95_23 : q95 23 = q23 23 := g0q95 23 (by decide) (Or.inl (by decide))
                have wq95_24 : q95 24 = q23 24 := g0q95 24 (by decide) (Or.inl (by decide))
                have wq95_26 : q95 26 = q23 26 := g0q95 26 (by decide) (Or.inl (by decide))
                have wq95_27 : q95 27 = q23 27 := g0q95 27 (by decide) (Or.inl (by decide))
                have wq95_28 : q95 28 = q23 28 := g0q95 28 (by decide) (Or.inl (by decide))
                have wq95_29 : q95 29 = q23 29 := g0q95 29 (by decide) (Or.inl (by decide))
                have wq95_30 : q95 30 = q23 30 := g0q95 30 (by decide) (Or.inl (by decide))
                have wq95_31 : q95 31 = q23 31 := g0q95 31 (by decide) (Or.inl (by decide))
                have wq95_35 : q95 35 = q23 35 := g0q95 35 (by decide) (Or.inl (by decide))
                have h0q95 : fr [20, 21, 22, 23, 24, 27, 28, 29, 30, 31, 1000] q q95 := fr_tr h023 g0q95 (by decide)
                have txq95 : tx q q95 := tx_tr (tx_kp v23_inv3) pq95_2
                refine lv_aload_n hx hb dX11_behindUnit_141 rfl (lv_at hl 0 rfl) ?_
                refine th_callVM (n := 0) (As := []) S hK hH hS (th_A.sub (by decide)) (m_X11_goOn l D cT T q95 hT hqq95 a0 t0 (show q95 28 ≤ q95 26 by omega)) gm_1445 gm_1442 gm_1444 gm_47 gm_124 (by decide +kernel) ⟨rfl, rfl, Nat.le_of_ble_eq_true rfl, Nat.le_of_ble_eq_true rfl⟩ t0 km_0 rfl rfl hl.1 rfl (Nat.le_of_ble_eq_true rfl) dX11_behindUnit_142 ⟨Nat.zero_le _, Nat.zero_le _⟩ (fun wq96 q96 H locs hEq96 hH hS hF1 => ?_)
                obtain ⟨rfl, hqq96, g0q96, pq96_0, pq96_1, pq96_2, pq96_3, pq96_4⟩ := hEq96
                show W p l e (rmk 3 65) s m [.ref a0].toArray below meth c H locs 0 0 (MQ below (th_QM D cT T (fun v q2 => ∃ r : Int32, v = some (.int r) ∧ IV r 0 1 ∧ qkm q2 ∧ fr [20, 21, 22, 23, 24, 27, 28, 29, 30, 31, 1000] q q2 ∧ ((q2 29 = 0 ∧ q2 27 = q2 26 ∧ q2 28 = q2 26) ∨ (1 ≤ q2 29 ∧ q2 27 < q2 28 ∧ q2 28 ≤ q2 26)) ∧ (q2 30 = 0 → NL q2) ∧ (q2 30 = 0 → q2 29 = 3 → q2 31 = 7237492 → q2 27 + 3 ≤ q2 28) ∧ (q 27 ≤ q2 27) ∧ (q2 30 = 0 → 2 * q 27 + q2 21 < 2 * q2 27 + q 21) ∧ (kp q q2 (q 35)) ∧ (q2 30 = 0 → r.toInt ≠ 0 → RS q2 1 ∧ 1 ≤ q2 21) ∧ (q2 30 = 0 → r.toInt = 0 → RS q2 0)) [0, 28, 29, 30, 31]) [.ref a0].toArray s 0 0 (th_A T [0, 28, 29, 30, 31])) (F0 m 145 ls [])
                have pq96_0 : (q96 29 = 0 ∧ q96 27 = q96 26 ∧ q96 28 = q96 26) ∨ (1 ≤ q96 29 ∧ q96 27 < q96 28 ∧ q96 28 ≤ q96 26) := pq96_0
                have pq96_1 : q96 29 = 3 → sg q96 (q96 28) < 97 ∨ 122 < sg q96 (q96 28) := pq96_1
                have pq96_2 : q96 29 = 3 → q96 31 = 7237492 → q96 27 + 3 ≤ q96 28 := pq96_2
                have pq96_3 : q95 28 ≤ q96 27 := pq96_3
                have pq96_4 : q96 29 = 3 → 97 ≤ sg q95 (q96 27) ∧ sg q95 (q96 27) ≤ 122 := pq96_4
                have wq96_10 : q96 10 = q95 10 := g0q96 10 (by decide) (Or.inl (by decide))
                have wq96_13 : q96 13 = q95 13 := g0q96 13 (by decide) (Or.inl (by decide))
                have wq96_20 : q96 20 = q95 20 := g0q96 20 (by decide) (Or.inl (by decide))
                have wq96_21 : q96 21 = q95 21 := g0q96 21 (by decide) (Or.inl (by decide))
                have wq96_22 : q96 22 = q95 22 := g0q96 22 (by decide) (Or.inl (by decide))
                have wq96_23 : q96 23 = q95 23 := g0q96 23 (by decide) (Or.inl (by decide))
                have wq96_24 : q96 24 = q95 24 := g0q96 24 (by decide) (Or.inl (by decide))
                have wq96_26 : q96 26 = q95 26 := g0q96 26 (by decide) (Or.inl (by decide))
                have wq96_30 : q96 30 = q95 30 := g0q96 30 (by decide) (Or.inl (by decide))
                have wq96_35 : q96 35 = q95 35 := g0q96 35 (by decide) (Or.inl (by decide))
                have h0q96 : fr [20, 21, 22, 23, 24, 27, 28, 29, 30, 31, 1000] q q96 := fr_tr h0q95 g0q96 (by decide)
                have bgq96 : bg q95 q96 := bg_fr bg_rf g0q96 (by decide)
                have nlq96 : q96 30 = 0 → NL q96 := fun _ => pq96_1
                have hRS : RS q96 1 := RS_two v23_inv0 (by omega) pq95_0 bgq96 (by omega) (by omega) (by omega) (by omega) (by omega) (by omega) (by omega) (by omega) (by omega) (by omega) hsg
                have hkp : kp q q96 (q 35) := kp_tr v23_inv3 (kp_tr (kp_push pq95_0 (by omega) (by omega)) (kp_bg bgq96))
                refine lv_iconst (v := 1) hx hb dX11_behindUnit_145 (by decide) ?_
                exact th_zretM S hK hH hS hr hlocks (iv_w (iv_c (by decide) : IV 1 1 1) (by decide)) ⟨_, rfl, (iv_w (iv_c (by decide) : IV 1 1 1) (by decide)), hqq96, h0q96, (show (q96 29 = 0 ∧ q96 27 = q96 26 ∧ q96 28 = q96 26) ∨ (1 ≤ q96 29 ∧ q96 27 < q96 28 ∧ q96 28 ≤ q96 26) by omega), (show q96 30 = 0 → NL q96 by exact nlq96), (show q96 30 = 0 → q96 29 = 3 → q96 31 = 7237492 → q96 27 + 3 ≤ q96 28 by omega), (show q 27 ≤ q96 27 by omega), (show q96 30 = 0 → 2 * q 27 + q96 21 < 2 * q96 27 + q 21 by omega), (show kp q q96 (q 35) by exact hkp), (show q96 30 = 0 → (1 : Int) ≠ 0 → RS q96 1 ∧ 1 ≤ q96 21 by first | (intro z; exact absurd z (by omega)) | (intro _ z; exact absurd z (by omega)) | exact fun _ _ => ⟨hRS, by omega⟩), (show q96 30 = 0 → (1 : Int) = 0 → RS q96 0 by first | (intro z; exact absurd z (by omega)) | (intro _ z; exact absurd z (by omega)) | exact fun _ _ => hRS)⟩ dX11_behindUnit_146
              · skip
                have rlc89 : v23_1.toInt = (1 : Int) := congrArg Int32.toInt c89
                have ir97 : IV v23_1 1 1 := iv_eL c89 (iv_c (by decide) : IV 1 1 1)
                have ir97a := ir97.1; have ir97b := ir97.2
                refine lv_bipush (v := 124) hx hb dX11_behindUnit_125 (by decide) ?_
                refine lv_goto (tgt := 138) hx hb dX11_behindUnit_127 (by decide) ?_
                have hsg : (124 : Int) ≠ 126 ∧ ((124 : Int) < 97 ∨ 122 < (124 : Int)) := by omega
                refine th_callVM (n := 2) (As := [.int v23_1, .int 124]) S hK hH hS (th_A.sub (by decide)) (m_X11_pushE l D cT T q23 hT hq23 a0 t0 (v23_1) (iv_w ir97 (by decide)) (124) (iv_top _) (show q23 21 ≤ 60 by omega)) gm_1555 gm_1552 gm_1554 gm_66 gm_124 (by decide +kernel) ⟨rfl, rfl, Nat.le_of_ble_eq_true rfl, Nat.le_of_ble_eq_true rfl⟩ t0 km_0 rfl rfl hl.1 rfl (Nat.le_of_ble_eq_true rfl) dX11_behindUnit_138 ⟨Nat.zero_le _, Nat.zero_le _⟩ (fun wq98 q98 H locs hEq98 hH hS hF1 => ?_)
                obtain ⟨rfl, hqq98, g0q98, pq98_0, pq98_1, pq98_2⟩ := hEq98
                show W p l e (rmk 3 65) s m [.ref a0].toArray below meth c H locs 0 0 (MQ below (th_QM D cT T (fun v q2 => ∃ r : Int32, v = some (.int r) ∧ IV r 0 1 ∧ qkm q2 ∧ fr [20, 21, 22, 23, 24, 27, 28, 29, 30, 31, 1000] q q2 ∧ ((q2 29 = 0 ∧ q2 27 = q2 26 ∧ q2 28 = q2 26) ∨ (1 ≤ q2 29 ∧ q2 27 < q2 28 ∧ q2 28 ≤ q2 26)) ∧ (q2 30 = 0 → NL q2) ∧ (q2 30 = 0 → q2 29 = 3 → q2 31 = 7237492 → q2 27 + 3 ≤ q2 28) ∧ (q 27 ≤ q2 27) ∧ (q2 30 = 0 → 2 * q 27 + q2 21 < 2 * q2 27 + q 21) ∧ (kp q q2 (q 35)) ∧ (q2 30 = 0 → r.toInt ≠ 0 → RS q2 1 ∧ 1 ≤ q2 21) ∧ (q2 30 = 0 → r.toInt = 0 → RS q2 0)) [0, 28, 29, 30, 31]) [.ref a0].toArray s 0 0 (th_A T [0, 28, 29, 30, 31])) (F0 m 141 ls [])
                have pq98_0 : q98 = pushq q23 v23_1.toInt (124 : Int) := pq98_0
                have pq98_1 : q98 21 = q23 21 + 1 := pq98_1
                have pq98_2 : tx q23 q98 := pq98_2
                have wq98_10 : q98 10 = q23 10 := g0q98 10 (by decide) (Or.inl (by decide))
                have wq98_13 : q98 13 = q23 13 := g0q98 13 (by decide) (Or.inl (by decide))
                have wq98_20 : q98 20 = q23 20 := g0q98 20 (by decide) (Or.inl (by decide))
                have wq98_22 : q98 22 = q23 22 := g0q98 22 (by decide) (Or.inl (by decide))
                have wq98_23 : q98 23 = q23 23 := g0q98 23 (by decide) (Or.inl (by decide))
                have wq98_24 : q98 24 = q23 24 := g0q98 24 (by decide) (Or.inl (by decide))
                have wq98_26 : q98 26 = q23 26 := g0q98 26 (by decide) (Or.inl (by decide))
                have wq98_27 : q98 27 = q23 27 := g0q98 27 (by decide) (Or.inl (by decide))
                have wq98_28 : q98 28 = q23 28 := g0q98 28 (by decide) (Or.inl (by decide))
                have wq98_29 : q98 29 = q23 29 := g0q98 29 (by decide) (Or.inl (by decide))
                have wq98_30 : q98 30 = q23 30 := g0q98 30 (by decide) (Or.inl (by decide))
                have wq98_31 : q98 31 = q23 31 := g0q98 31 (by decide) (Or.inl (by decide))
                have wq98_35 : q98 35 = q23 35 := g0q98 35 (by decide) (Or.inl (by decide))
                have h0q98 : fr [20, 21, 22, 23, 24, 27, 28, 29, 30, 31, 1000] q q98 := fr_tr h023 g0q98 (by decide)
                have txq98 : tx q q98 := tx_tr (tx_kp v23_inv3) pq98_2
                refine lv_aload_n hx hb dX11_behindUnit_141 rfl (lv_at hl 0 rfl) ?_
                refine th_callVM (n := 0) (As := []) S hK hH hS (th_A.sub (by decide)) (m_X11_goOn l D cT T q98 hT hqq98 a0 t0 (show q98 28 ≤ q98 26 by omega)) gm_1445 gm_1442 gm_1444 gm_47 gm_124 (by decide +kernel) ⟨rfl, rfl, Nat.le_of_ble_eq_true rfl, Nat.le_of_ble_eq_true rfl⟩ t0 km_0 rfl rfl hl.1 rfl (Nat.le_of_ble_eq_true rfl) dX11_behindUnit_142 ⟨Nat.zero_le _, Nat.zero_le _⟩ (fun wq99 q99 H locs hEq99 hH hS hF1 => ?_)
                obtain ⟨rfl, hqq99, g0q99, pq99_0, pq99_1, pq99_2, pq99_3, pq99_4⟩ := hEq99
                show W p l e (rmk 3 65) s m [.ref a0].toArray below meth c H locs 0 0 (MQ below (th_QM D cT T (fun v q2 => ∃ r : Int32, v = some (.int r) ∧ IV r 0 1 ∧ qkm q2 ∧ fr [20, 21, 22, 23, 24, 27, 28, 29, 30, 31, 1000] q q2 ∧ ((q2 29 = 0 ∧ q2 27 = q2 26 ∧ q2 28 = q2 26) ∨ (1 ≤ q2 29 ∧ q2 27 < q2 28 ∧ q2 28 ≤ q2 26)) ∧ (q2 30 = 0 → NL q2) ∧ (q2 30 = 0 → q2 29 = 3 → q2 31 = 7237492 → q2 27 + 3 ≤ q2 28) ∧ (q 27 ≤ q2 27) ∧ (q2 30 = 0 → 2 * q 27 + q2 21 < 2 * q2 27 + q 21) ∧ (kp q q2 (q 35)) ∧ (q2 30 = 0 → r.toInt ≠ 0 → RS q2 1 ∧ 1 ≤ q2 21) ∧ (q2 30 = 0 → r.toInt = 0 → RS q2 0)) [0, 28, 29, 30, 31]) [.ref a0].toArray s 0 0 (th_A T [0, 28, 29, 30, 31])) (F0 m 145 ls [])
                have pq99_0 : (q99 29 = 0 ∧ q99 27 = q99 26 ∧ q99 28 = q99 26) ∨ (1 ≤ q99 29 ∧ q99 27 < q99 28 ∧ q99 28 ≤ q99 26) := pq99_0
                have pq99_1 : q99 29 = 3 → sg q99 (q99 28) < 97 ∨ 122 < sg q99 (q99 28) := pq99_1
                have pq99_2 : q99 29 = 3 → q99 31 = 7237492 → q99 27 + 3 ≤ q99 28 := pq99_2
                have pq99_3 : q98 28 ≤ q99 27 := pq99_3
                have pq99_4 : q99 29 = 3 → 97 ≤ sg q98 (q99 27) ∧ sg q98 (q99 27) ≤ 122 := pq99_4
                have wq99_10 : q99 10 = q98 10 := g0q99 10 (by decide) (Or.inl (by decide))
                have wq99_13 : q99 13 = q98 13 := g0q99 13 (by decide) (Or.inl (by decide))
                have wq99_20 : q99 20 = q98 20 := g0q99 20 (by decide) (Or.inl (by decide))
                have wq99_21 : q99 21 = q98 21 := g0q99 21 (by decide) (Or.inl (by decide))
                have wq99_22 : q99 22 = q98 22 := g0q99 22 (by decide) (Or.inl (by decide))
                have wq99_23 : q99 23 = q98 23 := g0q99 23 (by decide) (Or.inl (by decide))
                have wq99_24 : q99 24 = q98 24 := g0q99 24 (by decide) (Or.inl (by decide))
                have wq99_26 : q99 26 = q98 26 := g0q99 26 (by decide) (Or.inl (by decide))
                have wq99_30 : q99 30 = q98 30 := g0q99 30 (by decide) (Or.inl (by decide))
                have wq99_35 : q99 35 = q98 35 := g0q99 35 (by decide) (Or.inl (by decide))
                have h0q99 : fr [20, 21, 22, 23, 24, 27, 28, 29, 30, 31, 1000] q q99 := fr_tr h0q98 g0q99 (by decide)
                have bgq99 : bg q98 q99 := bg_fr bg_rf g0q99 (by decide)
                have nlq99 : q99 30 = 0 → NL q99 := fun _ => pq99_1
                have hRS : RS q99 1 := RS_two v23_inv0 (by omega) pq98_0 bgq99 (by omega) (by omega) (by omega) (by omega) (by omega) (by omega) (by omega) (by omega) (by omega) (by omega) hsg
                have hkp : kp q q99 (q 35) := kp_tr v23_inv3 (kp_tr (kp_push pq98_0 (by omega) (by omega)) (kp_bg bgq99))
                refine lv_iconst (v := 1) hx hb dX11_behindUnit_145 (by decide) ?_
                exact th_zretM S hK hH hS hr hlocks (iv_w (iv_c (by decide) : IV 1 1 1) (by decide)) ⟨_, rfl, (iv_w (iv_c (by decide) : IV 1 1 1) (by decide)), hqq99, h0q99, (show (q99 29 = 0 ∧ q99 27 = q99 26 ∧ q99 28 = q99 26) ∨ (1 ≤ q99 29 ∧ q99 27 < q99 28 ∧ q99 28 ≤ q99 26) by omega), (show q99 30 = 0 → NL q99 by exact nlq99), (show q99 30 = 0 → q99 29 = 3 → q99 31 = 7237492 → q99 27 + 3 ≤ q99 28 by omega), (show q 27 ≤ q99 27 by omega), (show q99 30 = 0 → 2 * q 27 + q99 21 < 2 * q99 27 + q 21 by omega), (show kp q q99 (q 35) by exact hkp), (show q99 30 = 0 → (1 : Int) ≠ 0 → RS q99 1 ∧ 1 ≤ q99 21 by first | (intro z; exact absurd z (by omega)) | (intro _ z; exact absurd z (by omega)) | exact fun _ _ => ⟨hRS, by omega⟩), (show q99 30 = 0 → (1 : Int) = 0 → RS q99 0 by first | (intro z; exact absurd z (by omega)) | (intro _ z; exact absurd z (by omega)) | exact fun _ _ => hRS)⟩ dX11_behindUnit_146
            · skip
              have rlc88 : v23_1.toInt = (2 : Int) := congrArg Int32.toInt c88
              have ir100 : IV v23_1 2 2 := iv_eL c88 (iv_c (by decide) : IV 2 2 2)
              have ir100a := ir100.1; have ir100b := ir100.2
              refine lv_bipush (v := 38) hx hb dX11_behindUnit_115 (by decide) ?_
              refine lv_goto (tgt := 138) hx hb dX11_behindUnit_117 (by decide) ?_
              have hsg : (38 : Int) ≠ 126 ∧ ((38 : Int) < 97 ∨ 122 < (38 : Int)) := by omega
              refine th_callVM (n := 2) (As := [.int v23_1, .int 38]) S hK hH hS (th_A.sub (by decide)) (m_X11_pushE l D cT T q23 hT hq23 a0 t0 (v23_1) (iv_w ir100 (by decide)) (38) (iv_top _) (show q23 21 ≤ 60 by omega)) gm_1555 gm_1552 gm_1554 gm_66 gm_124 (by decide +kernel) ⟨rfl, rfl, Nat.le_of_ble_eq_true rfl, Nat.le_of_ble_eq_true rfl⟩ t0 km_0 rfl rfl hl.1 rfl (Nat.le_of_ble_eq_true rfl) dX11_behindUnit_138 ⟨Nat.zero_le _, Nat.zero_le _⟩ (fun wq101 q101 H locs hEq101 hH hS hF1 => ?_)
              obtain ⟨rfl, hqq101, g0q101, pq101_0, pq101_1, pq101_2⟩ := hEq101
              show W p l e (rmk 3 65) s m [.ref a0].toArray below meth c H locs 0 0 (MQ below (th_QM D cT T (fun v q2 => ∃ r : Int32, v = some (.int r) ∧ IV r 0 1 ∧ qkm q2 ∧ fr [20, 21, 22, 23, 24, 27, 28, 29, 30, 31, 1000] q q2 ∧ ((q2 29 = 0 ∧ q2 27 = q2 26 ∧ q2 28 = q2 26) ∨ (1 ≤ q2 29 ∧ q2 27 < q2 28 ∧ q2 28 ≤ q2 26)) ∧ (q2 30 = 0 → NL q2) ∧ (q2 30 = 0 → q2 29 = 3 → q2 31 = 7237492 → q2 27 + 3 ≤ q2 28) ∧ (q 27 ≤ q2 27) ∧ (q2 30 = 0 → 2 * q 27 + q2 21 < 2 * q2 27 + q 21) ∧ (kp q q2 (q 35)) ∧ (q2 30 = 0 → r.toInt ≠ 0 → RS q2 1 ∧ 1 ≤ q2 21) ∧ (q2 30 = 0 → r.toInt = 0 → RS q2 0)) [0, 28, 29, 30, 31]) [.ref a0].toArray s 0 0 (th_A T [0, 28, 29, 30, 31])) (F0 m 141 ls [])
              have pq101_0 : q101 = pushq q23 v23_1.toInt (38 : Int) := pq101_0
              have pq101_1 : q101 21 = q23 21 + 1 := pq101_1
              have pq101_2 : tx q23 q101 := pq101_2
              have wq101_10 : q101 10 = q23 10 := g0q101 10 (by decide) (Or.inl (by decide))
              have wq101_13 : q101 13 = q23 13 := g0q101 13 (by decide) (Or.inl (by decide))
              have wq101_20 : q101 20 = q23 20 := g0q101 20 (by decide) (Or.inl (by decide))
              have wq101_22 : q101 22 = q23 22 := g0q101 22 (by decide) (Or.inl (by decide))
              have wq101_23 : q101 23 = q23 23 := g0q101 23 (by decide) (Or.inl (by decide))
              have wq101_24 : q101 24 = q23 24 := g0q101 24 (by decide) (Or.inl (by decide))
              have wq101_26 : q101 26 = q23 26 := g0q101 26 (by decide) (Or.inl (by decide))
              have wq101_27 : q101 27 = q23 27 := g0q101 27 (by decide) (Or.inl (by decide))
              have wq101_28 : q101 28 = q23 28 := g0q101 28 (by decide) (Or.inl (by decide))
              have wq101_29 : q101 29 = q23 29 := g0q101 29 (by decide) (Or.inl (by decide))
              have wq101_30 : q101 30 = q23 30 := g0q101 30 (by decide) (Or.inl (by decide))
              have wq101_31 : q101 31 = q23 31 := g0q101 31 (by decide) (Or.inl (by decide))
              have wq101_35 : q101 35 = q23 35 := g0q101 35 (by decide) (Or.inl (by decide))
              have h0q101 : fr [20, 21, 22, 23, 24, 27, 28, 29, 30, 31, 1000] q q101 := fr_tr h023 g0q101 (by decide)
              have txq101 : tx q q101 := tx_tr (tx_kp v23_inv3) pq101_2
              refine lv_aload_n hx hb dX11_behindUnit_141 rfl (lv_at hl 0 rfl) ?_
              refine th_callVM (n := 0) (As := []) S hK hH hS (th_A.sub (by decide)) (m_X11_goOn l D cT T q101 hT hqq101 a0 t0 (show q101 28 ≤ q101 26 by omega)) gm_1445 gm_1442 gm_1444 gm_47 gm_124 (by decide +kernel) ⟨rfl, rfl, Nat.le_of_ble_eq_true rfl, Nat.le_of_ble_eq_true rfl⟩ t0 km_0 rfl rfl hl.1 rfl (Nat.le_of_ble_eq_true rfl) dX11_behindUnit_142 ⟨Nat.zero_le _, Nat.zero_le _⟩ (fun wq102 q102 H locs hEq102 hH hS hF1 => ?_)
              obtain ⟨rfl, hqq102, g0q102, pq102_0, pq102_1, pq102_2, pq102_3, pq102_4⟩ := hEq102
              show W p l e (rmk 3 65) s m [.ref a0].toArray below meth c H locs 0 0 (MQ below (th_QM D cT T (fun v q2 => ∃ r : Int32, v = some (.int r) ∧ IV r 0 1 ∧ qkm q2 ∧ fr [20, 21, 22, 23, 24, 27, 28, 29, 30, 31, 1000] q q2 ∧ ((q2 29 = 0 ∧ q2 27 = q2 26 ∧ q2 28 = q2 26) ∨ (1 ≤ q2 29 ∧ q2 27 < q2 28 ∧ q2 28 ≤ q2 26)) ∧ (q2 30 = 0 → NL q2) ∧ (q2 30 = 0 → q2 29 = 3 → q2 31 = 7237492 → q2 27 + 3 ≤ q2 28) ∧ (q 27 ≤ q2 27) ∧ (q2 30 = 0 → 2 * q 27 + q2 21 < 2 * q2 27 + q 21) ∧ (kp q q2 (q 35)) ∧ (q2 30 = 0 → r.toInt ≠ 0 → RS q2 1 ∧ 1 ≤ q2 21) ∧ (q2 30 = 0 → r.toInt = 0 → RS q2 0)) [0, 28, 29, 30, 31]) [.ref a0].toArray s 0 0 (th_A T [0, 28, 29, 30, 31])) (F0 m 145 ls [])
              have pq102_0 : (q102 29 = 0 ∧ q102 27 = q102 26 ∧ q102 28 = q102 26) ∨ (1 ≤ q102 29 ∧ q102 27 < q102 28 ∧ q102 28 ≤ q102 26) := pq102_0
              have pq102_1 : q102 29 = 3 → sg q102 (q102 28) < 97 ∨ 122 < sg q102 (q102 28) := pq102_1
              have pq102_2 : q102 29 = 3 → q102 31 = 7237492 → q102 27 + 3 ≤ q102 28 := pq102_2
              have pq102_3 : q101 28 ≤ q102 27 := pq102_3
              have pq102_4 : q102 29 = 3 → 97 ≤ sg q101 (q102 27) ∧ sg q101 (q102 27) ≤ 122 := pq102_4
              have wq102_10 : q102 10 = q101 10 := g0q102 10 (by decide) (Or.inl (by decide))
              have wq102_13 : q102 13 = q101 13 := g0q102 13 (by decide) (Or.inl (by decide))
              have wq102_20 : q102 20 = q101 20 := g0q102 20 (by decide) (Or.inl (by decide))
              have wq102_21 : q102 21 = q101 21 := g0q102 21 (by decide) (Or.inl (by decide))
              have wq102_22 : q102 22 = q101 22 := g0q102 22 (by decide) (Or.inl (by decide))
              have wq102_23 : q102 23 = q101 23 := g0q102 23 (by decide) (Or.inl (by decide))
              have wq102_24 : q102 24 = q101 24 := g0q102 24 (by decide) (Or.inl (by decide))
              have wq102_26 : q102 26 = q101 26 := g0q102 26 (by decide) (Or.inl (by decide))
              have wq102_30 : q102 30 = q101 30 := g0q102 30 (by decide) (Or.inl (by decide))
              have wq102_35 : q102 35 = q101 35 := g0q102 35 (by decide) (Or.inl (by decide))
              have h0q102 : fr [20, 21, 22, 23, 24, 27, 28, 29, 30, 31, 1000] q q102 := fr_tr h0q101 g0q102 (by decide)
              have bgq102 : bg q101 q102 := bg_fr bg_rf g0q102 (by decide)
              have nlq102 : q102 30 = 0 → NL q102 := fun _ => pq102_1
              have hRS : RS q102 1 := RS_two v23_inv0 (by omega) pq101_0 bgq102 (by omega) (by omega) (by omega) (by omega) (by omega) (by omega) (by omega) (by omega) (by omega) (by omega) hsg
              have hkp : kp q q102 (q 35) := kp_tr v23_inv3 (kp_tr (kp_push pq101_0 (by omega) (by omega)) (kp_bg bgq102))
              refine lv_iconst (v := 1) hx hb dX11_behindUnit_145 (by decide) ?_
              exact th_zretM S hK hH hS hr hlocks (iv_w (iv_c (by decide) : IV 1 1 1) (by decide)) ⟨_, rfl, (iv_w (iv_c (by decide) : IV 1 1 1) (by decide)), hqq102, h0q102, (show (q102 29 = 0 ∧ q102 27 = q102 26 ∧ q102 28 = q102 26) ∨ (1 ≤ q102 29 ∧ q102 27 < q102 28 ∧ q102 28 ≤ q102 26) by omega), (show q102 30 = 0 → NL q102 by exact nlq102), (show q102 30 = 0 → q102 29 = 3 → q102 31 = 7237492 → q102 27 + 3 ≤ q102 28 by omega), (show q 27 ≤ q102 27 by omega), (show q102 30 = 0 → 2 * q 27 + q102 21 < 2 * q102 27 + q 21 by omega), (show kp q q102 (q 35) by exact hkp), (show q102 30 = 0 → (1 : Int) ≠ 0 → RS q102 1 ∧ 1 ≤ q102 21 by first | (intro z; exact absurd z (by omega)) | (intro _ z; exact absurd z (by omega)) | exact fun _ _ => ⟨hRS, by omega⟩), (show q102 30 = 0 → (1 : Int) = 0 → RS q102 0 by first | (intro z; exact absurd z (by omega)) | (intro _ z; exact absurd z (by omega)) | exact fun _ _ => hRS)⟩ dX11_behindUnit_146
        · skip
          have rlc60 : v23_1.toInt ≤ x59.toInt := iv_nlt c60
          have ir103 : IV x59 0 2147483647 := iv_vR iv23_1 ix59 (iv_nlt c60) (by decide)
          have ir103a := ir103.1; have ir103b := ir103.2
          obtain ⟨hl1, hl2, hl3⟩ := RS_low v23_inv0 hn0 (by omega) (by omega)
          refine lv_aload_n hx hb dX11_behindUnit_54 rfl (lv_at hl 0 rfl) ?_
          refine lv_dup hx hb dX11_behindUnit_55 rfl ?_
          refine th_get S hK hH inG11 t0 km_0 rfl 45 (by decide) gm_1275 rfl rfl dX11_behindUnit_56 (fun v104 hv104 fv104 => ?_)
          obtain ⟨x105, rfl, ix105⟩ := th_V.int hv104
          have kx105a : q23 21 ≤ x105.toInt := ix105.1
          have kx105b : x105.toInt ≤ q23 21 := ix105.2
          have bx105 := qkm_21 hq23
          have ix105 : IV x105 0 90 := iv_w ix105 (qkm_21 hq23)
          have ir106 : IV x105 1 90 := ⟨by omega, by omega⟩
          have ir106a := ir106.1; have ir106b := ir106.2
          refine lv_iconst (v := 1) hx hb dX11_behindUnit_59 (by decide) ?_
          refine lv_isub hx hb dX11_behindUnit_60 ?_
          refine lv_topi (fun x107 ex107 => ?_)
          have ix107 : IV x107 0 89 := by rw [ex107]; exact iv_sub ir106 (iv_c (by decide) : IV 1 1 1) (by decide)
          have ux107 : x107.toInt = x105.toInt - (1 : Int) := by rw [ex107]; exact iv_subE (by have z1 := (ir106).1; have z2 := (ir106).2; have z3 := ((iv_c (by decide) : IV 1 1 1)).1; have z4 := ((iv_c (by decide) : IV 1 1 1)).2; omega)
          obtain ⟨n109, en109⟩ : ∃ z : Int, z = Int32.toInt x107 := ⟨_, rfl⟩
          refine mput_21 S hK hH hS ⟨0, by decide, t0⟩ hT t0 en109 gm_1275 dX11_behindUnit_61 (fun q108 H locs eq108 hH hS hq1 => ?_)
          have hqq108 : qkm q108 := by rw [eq108]; exact qum_ok21 hq23 (iv_z en109 (iv_w ix107 (by decide)))
          have h0q108 : fr [20, 21, 22, 23, 24, 27, 28, 29, 30, 31, 1000] q q108 := by rw [eq108]; exact fr_up h023 (by decide)
          have wq108_10 : q108 10 = q23 10 := by rw [eq108]; rfl
          have wq108_13 : q108 13 = q23 13 := by rw [eq108]; rfl
          have wq108_20 : q108 20 = q23 20 := by rw [eq108]; rfl
          have wq108_21 : q108 21 = n109 := by rw [eq108]; rfl
          have wq108_22 : q108 22 = q23 22 := by rw [eq108]; rfl
          have wq108_23 : q108 23 = q23 23 := by rw [eq108]; rfl
          have wq108_24 : q108 24 = q23 24 := by rw [eq108]; rfl
          have wq108_26 : q108 26 = q23 26 := by rw [eq108]; rfl
          have wq108_27 : q108 27 = q23 27 := by rw [eq108]; rfl
          have wq108_28 : q108 28 = q23 28 := by rw [eq108]; rfl
          have wq108_29 : q108 29 = q23 29 := by rw [eq108]; rfl
          have wq108_30 : q108 30 = q23 30 := by rw [eq108]; rfl
          have wq108_31 : q108 31 = q23 31 := by rw [eq108]; rfl
          have wq108_35 : q108 35 = q23 35 := by rw [eq108]; rfl
          have bgq108 : bg q23 q108 := bg_up bg_rf eq108 (by decide)
          have txq108 : tx q q108 := tx_tr (tx_kp v23_inv3) (tx_up eq108 (by omega))
          refine lv_aload_n hx hb dX11_behindUnit_64 rfl (lv_at hl 0 rfl) ?_
          refine th_get S hK hH inG11 t0 km_0 rfl 38 (by decide) gm_1268 rfl rfl dX11_behindUnit_65 (fun v110 hv110 fv110 => ?_)
          obtain ⟨rf111, rfl, trf111⟩ := th_V.ref hv110
          refine lv_aload_n hx hb dX11_behindUnit_68 rfl (lv_at hl 0 rfl) ?_
          refine th_get S hK hH inG11 t0 km_0 rfl 45 (by decide) gm_1275 rfl rfl dX11_behindUnit_69 (fun v112 hv112 fv112 => ?_)
          obtain ⟨x113, rfl, ix113⟩ := th_V.int hv112
          have kx113a : q108 21 ≤ x113.toInt := ix113.1
          have kx113b : x113.toInt ≤ q108 21 := ix113.2
          have bx113 := qkm_21 hqq108
          have ix113 : IV x113 0 90 := iv_w ix113 (qkm_21 hqq108)
          have ir114 : IV x113 0 89 := ⟨by omega, by omega⟩
          have ir114a := ir114.1; have ir114b := ir114.2
          refine th_iald S hK hH trf111 km_30 (th_in (hi := 89) ir114 (by decide)) dX11_behindUnit_72 (fun v115 hv115 => ?_)
          obtain ⟨x116, rfl, kx116⟩ := th_eaR hv115 (th_lt (th_in (hi := 89) ir114 (by decide)))
          have ix116 := iv_top x116
          have jx116 := th_nat (hi := 89) ir114
          have hx116 : x116.toInt = q23 (2200 + n0) := (kx116).trans ((bgq108 _ (by omega)).trans (congrArg q23 (by omega)))
          refine lv_iconst (v := 3) hx hb dX11_behindUnit_73 (by decide) ?_
          refine lv_icmp_ne (tgt := 87) hx hb dX11_behindUnit_74 (by decide) (fun c117 => ?_) (fun c117 => ?_)
          · skip
            have rlc117 : x116.toInt ≠ (3 : Int) := iv_ne c117
            refine lv_aload_n hx hb dX11_behindUnit_87 rfl (lv_at hl 0 rfl) ?_
            refine lv_aload_n hx hb dX11_behindUnit_88 rfl (lv_at hl 0 rfl) ?_
            refine th_get S hK hH inG11 t0 km_0 rfl 39 (by decide) gm_1269 rfl rfl dX11_behindUnit_89 (fun v118 hv118 fv118 => ?_)
            obtain ⟨rf119, rfl, trf119⟩ := th_V.ref hv118
            refine lv_aload_n hx hb dX11_behindUnit_92 rfl (lv_at hl 0 rfl) ?_
            refine th_get S hK hH inG11 t0 km_0 rfl 45 (by decide) gm_1275 rfl rfl dX11_behindUnit_93 (fun v120 hv120 fv120 => ?_)
            obtain ⟨x121, rfl, ix121⟩ := th_V.int hv120
            have kx121a : q108 21 ≤ x121.toInt := ix121.1
            have kx121b : x121.toInt ≤ q108 21 := ix121.2
            have bx121 := qkm_21 hqq108
            have ix121 : IV x121 0 90 := iv_w ix121 (qkm_21 hqq108)
            have ir122 : IV x121 0 89 := ⟨by omega, by omega⟩
            have ir122a := ir122.1; have ir122b := ir122.2
            refine th_iald S hK hH trf119 km_31 (th_in (hi := 89) ir122 (by decide)) dX11_behindUnit_96 (fun v123 hv123 => ?_)
            obtain ⟨x124, rfl, kx124⟩ := th_eaR hv123 (th_lt (th_in (hi := 89) ir122 (by decide)))
            have ix124 := iv_top x124
            have jx124 := th_nat (hi := 89) ir122
            have hsx124 : x124.toInt = q23 (2300 + n0) := (kx124).trans ((bgq108 _ (by omega)).trans (congrArg q23 (by omega)))
            refine lv_iconst (v := 0) hx hb dX11_behindUnit_97 (by decide) ?_
            refine th_callVM (n := 2) (As := [.int x124, .int 0]) S hK hH hS (th_A.sub (by decide)) (m_X11_emit l D cT T q108 hT hqq108 a0 t0 (x124) ix124 (0) (iv_top _) (show 560 * q108 13 ≤ q108 20 ∧ q108 20 ≤ 560 * q108 13 + 559 by omega) (show q108 13 = 1 - q108 10 by omega)) gm_1571 gm_1568 gm_1570 gm_70 gm_124 (by decide +kernel) ⟨rfl, rfl, Nat.le_of_ble_eq_true rfl, Nat.le_of_ble_eq_true rfl⟩ t0 km_0 rfl rfl hl.1 rfl (Nat.le_of_ble_eq_true rfl) dX11_behindUnit_98 ⟨Nat.zero_le _, Nat.zero_le _⟩ (fun wq125 q125 H locs hEq125 hH hS hF1 => ?_)
            obtain ⟨rfl, hqq125, g0q125, pq125_0, pq125_1, pq125_2⟩ := hEq125
            show W p l e (rmk 3 65) s m [.ref a0].toArray below meth c H locs 0 0 (MQ below (th_QM D cT T (fun v q2 => ∃ r : Int32, v = some (.int r) ∧ IV r 0 1 ∧ qkm q2 ∧ fr [20, 21, 22, 23, 24, 27, 28, 29, 30, 31, 1000] q q2 ∧ ((q2 29 = 0 ∧ q2 27 = q2 26 ∧ q2 28 = q2 26) ∨ (1 ≤ q2 29 ∧ q2 27 < q2 28 ∧ q2 28 ≤ q2 26)) ∧ (q2 30 = 0 → NL q2) ∧ (q2 30 = 0 → q2 29 = 3 → q2 31 = 7237492 → q2 27 + 3 ≤ q2 28) ∧ (q 27 ≤ q2 27) ∧ (q2 30 = 0 → 2 * q 27 + q2 21 < 2 * q2 27 + q 21) ∧ (kp q q2 (q 35)) ∧ (q2 30 = 0 → r.toInt ≠ 0 → RS q2 1 ∧ 1 ≤ q2 21) ∧ (q2 30 = 0 → r.toInt = 0 → RS q2 0)) [0, 28, 29, 30, 31]) [.ref a0].toArray s 0 0 (th_A T [0, 28, 29, 30, 31])) (F0 m 101 ls [])
            have pq125_0 : q125 = emitq q108 x124.toInt := pq125_0
            have pq125_1 : q125 20 = q108 20 + 1 := pq125_1
            have pq125_2 : tx q108 q125 := pq125_2
            have wq125_10 : q125 10 = q108 10 := g0q125 10 (by decide) (Or.inl (by decide))
            have wq125_13 : q125 13 = q108 13 := g0q125 13 (by decide) (Or.inl (by decide))
            have wq125_21 : q125 21 = q108 21 := g0q125 21 (by decide) (Or.inl (by decide))
            have wq125_22 : q125 22 = q108 22 := g0q125 22 (by decide) (Or.inl (by decide))
            have wq125_23 : q125 23 = q108 23 := g0q125 23 (by decide) (Or.inl (by decide))
            have wq125_24 : q125 24 = q108 24 := g0q125 24 (by decide) (Or.inl (by decide))
            have wq125_26 : q125 26 = q108 26 := g0q125 26 (by decide) (Or.inl (by decide))
            have wq125_27 : q125 27 = q108 27 := g0q125 27 (by decide) (Or.inl (by decide))
            have wq125_28 : q125 28 = q108 28 := g0q125 28 (by decide) (Or.inl (by decide))
            have wq125_29 : q125 29 = q108 29 := g0q125 29 (by decide) (Or.inl (by decide))
            have wq125_30 : q125 30 = q108 30 := g0q125 30 (by decide) (Or.inl (by decide))
            have wq125_31 : q125 31 = q108 31 := g0q125 31 (by decide) (Or.inl (by decide))
            have wq125_35 : q125 35 = q108 35 := g0q125 35 (by decide) (Or.inl (by decide))
            have h0q125 : fr [20, 21, 22, 23, 24, 27, 28, 29, 30, 31, 1000] q q125 := fr_tr h0q108 g0q125 (by decide)
            have txq125 : tx q q125 := tx_tr txq108 pq125_2
            have hE : q125 = emitq q108 (q23 (2300 + n0)) := (pq125_0).trans (congrArg (emitq q108) hsx124)
            have hRS : RS q125 0 := RS_pop (a := x116.toInt) (z := q108 22) v23_inv0 (by omega) hn0 hx116 (by omega) (by omega) bgq108 (by omega) (by omega) (by omega) rfl (by omega) (by omega) (by omega) (by omega) ⟨hl2, by omega⟩ hE
            have hkp : kp q q125 (q 35) := kp_tr v23_inv3 (kp_tr (kp_bg bgq108) (kp_emit pq125_0 (by omega) (by omega) (by omega)))
            have c21 := qkm_21 hqq125
            refine lv_goto (tgt := 23) hx hb dX11_behindUnit_101 (by decide) ?_
            exact ih23 q125 H locs ls v23_1 hqq125 h0q125 iv23_1 (show RS q125 0 by first | assumption | exact hRS) (show 1 ≤ q125 21 ∧ q125 21 ≤ q 21 by omega) (show q125 23 = q 23 ∧ q125 24 = q 24 ∧ q125 27 = q 27 ∧ q125 28 = q 28 ∧ q125 29 = q 29 ∧ q125 30 = q 30 ∧ q125 31 = q 31 by omega) (show kp q q125 (q 35) by first | exact kp_bg bg_rf | exact hkp) (show (v23_1.toInt ≠ 0 → q 29 = 3 ∨ q 29 = 5) ∧ (3 < v23_1.toInt → sg q (q 27) < 97) ∧ v23_1.toInt ≠ 3 by omega) hH hS (lv_sub hl [0, 1] rfl) (show (q125 21).toNat < n by omega)
          · skip
            have rlc117 : x116.toInt = (3 : Int) := congrArg Int32.toInt c117
            have ir126 : IV x116 3 3 := iv_eL c117 (iv_c (by decide) : IV 3 3 3)
            have ir126a := ir126.1; have ir126b := ir126.2
            refine lv_aload_n hx hb dX11_behindUnit_77 rfl (lv_at hl 0 rfl) ?_
            refine lv_dup hx hb dX11_behindUnit_78 rfl ?_
            refine th_get S hK hH inG11 t0 km_0 rfl 44 (by decide) gm_1274 rfl rfl dX11_behindUnit_79 (fun v127 hv127 fv127 => ?_)
            obtain ⟨x128, rfl, ix128⟩ := th_V.int hv127
            have kx128a : q108 22 ≤ x128.toInt := ix128.1
            have kx128b : x128.toInt ≤ q108 22 := ix128.2
            have bx128 := qkm_22 hqq108
            have ix128 : IV x128 0 7 := iv_w ix128 (qkm_22 hqq108)
            have hin := RS_in v23_inv0 hn0 (Or.inl (by omega))
            have ir129 : IV x128 1 7 := ⟨by omega, by omega⟩
            have ir129a := ir129.1; have ir129b := ir129.2
            refine lv_iconst (v := 1) hx hb dX11_behindUnit_82 (by decide) ?_
            refine lv_isub hx hb dX11_behindUnit_83 ?_
            refine lv_topi (fun x130 ex130 => ?_)
            have ix130 : IV x130 0 6 := by rw [ex130]; exact iv_sub ir129 (iv_c (by decide) : IV 1 1 1) (by decide)
            have ux130 : x130.toInt = x128.toInt - (1 : Int) := by rw [ex130]; exact iv_subE (by have z1 := (ir129).1; have z2 := (ir129).2; have z3 := ((iv_c (by decide) : IV 1 1 1)).1; have z4 := ((iv_c (by decide) : IV 1 1 1)).2; omega)
            obtain ⟨n132, en132⟩ : ∃ z : Int, z = Int32.toInt x130 := ⟨_, rfl⟩
            refine mput_22 S hK hH hS ⟨0, by decide, t0⟩ hT t0 en132 gm_1274 dX11_behindUnit_84 (fun q131 H locs eq131 hH hS hq1 => ?_)
            have hqq131 : qkm q131 := by rw [eq131]; exact qum_ok22 hqq108 (iv_z en132 (iv_w ix130 (by decide)))
            have h0q131 : fr [20, 21, 22, 23, 24, 27, 28, 29, 30, 31, 1000] q q131 := by rw [eq131]; exact fr_up h0q108 (by decide)
            have wq131_10 : q131 10 = q108 10 := by rw [eq131]; rfl
            have wq131_13 : q131 13 = q108 13 := by rw [eq131]; rfl
            have wq131_20 : q131 20 = q108 20 := by rw [eq131]; rfl
            have wq131_21 : q131 21 = q108 21 := by rw [eq131]; rfl
            have wq131_22 : q131 22 = n132 := by rw [eq131]; rfl
            have wq131_23 : q131 23 = q108 23 := by rw [eq131]; rfl
            have wq131_24 : q131 24 = q108 24 := by rw [eq131]; rfl
            have wq131_26 : q131 26 = q108 26 := by rw [eq131]; rfl
            have wq131_27 : q131 27 = q108 27 := by rw [eq131]; rfl
            have wq131_28 : q131 28 = q108 28 := by rw [eq131]; rfl
            have wq131_29 : q131 29 = q108 29 := by rw [eq131]; rfl
            have wq131_30 : q131 30 = q108 30 := by rw [eq131]; rfl
            have wq131_31 : q131 31 = q108 31 := by rw [eq131]; rfl
            have wq131_35 : q131 35 = q108 35 := by rw [eq131]; rfl
            have bgq131 : bg q23 q131 := bg_up bgq108 eq131 (by decide)
            have txq131 : tx q q131 := tx_tr txq108 (tx_up eq131 (by omega))
            refine lv_aload_n hx hb dX11_behindUnit_87 rfl (lv_at hl 0 rfl) ?_
            refine lv_aload_n hx hb dX11_behindUnit_88 rfl (lv_at hl 0 rfl) ?_
            refine th_get S hK hH inG11 t0 km_0 rfl 39 (by decide) gm_1269 rfl rfl dX11_behindUnit_89 (fun v133 hv133 fv133 => ?_)
            obtain ⟨rf134, rfl, trf134⟩ := th_V.ref hv133
            refine lv_aload_n hx hb dX11_behindUnit_92 rfl (lv_at hl 0 rfl) ?_
            refine th_get S hK hH inG11 t0 km_0 rfl 45 (by decide) gm_1275 rfl rfl dX11_behindUnit_93 (fun v135 hv135 fv135 => ?_)
            obtain ⟨x136, rfl, ix136⟩ := th_V.int hv135
            have kx136a : q131 21 ≤ x136.toInt := ix136.1
            have kx136b : x136.toInt ≤ q131 21 := ix136.2
            have bx136 := qkm_21 hqq131
            have ix136 : IV x136 0 90 := iv_w ix136 (qkm_21 hqq131)
            have ir137 : IV x136 0 89 := ⟨by omega, by omega⟩
            have ir137a := ir137.1; have ir137b := ir137.2
            refine th_iald S hK hH trf134 km_31 (th_in (hi := 89) ir137 (by decide)) dX11_behindUnit_96 (fun v138 hv138 => ?_)
            obtain ⟨x139, rfl, kx139⟩ := th_eaR hv138 (th_lt (th_in (hi := 89) ir137 (by decide)))
            have ix139 := iv_top x139
            have jx139 := th_nat (hi := 89) ir137
            have hsx139 : x139.toInt = q23 (2300 + n0) := (kx139).trans ((bgq131 _ (by omega)).trans (congrArg q23 (by omega)))
            refine lv_iconst (v := 0) hx hb dX11_behindUnit_97 (by decide) ?_
            refine th_callVM (n := 2) (As := [.int x139, .int 0]) S hK hH hS (th_A.sub (by decide)) (m_X11_emit l D cT T q131 hT hqq131 a0 t0 (x139) ix139 (0) (iv_top _) (show 560 * q131 13 ≤ q131 20 ∧ q131 20 ≤ 560 * q131 13 + 559 by omega) (show q131 13 = 1 - q131 10 by omega)) gm_1571 gm_1568 gm_1570 gm_70 gm_124 (by decide +kernel) ⟨rfl, rfl, Nat.le_of_ble_eq_true rfl, Nat.le_of_ble_eq_true rfl⟩ t0 km_0 rfl rfl hl.1 rfl (Nat.le_of_ble_eq_true rfl) dX11_behindUnit_98 ⟨Nat.zero_le _, Nat.zero_le _⟩ (fun wq140 q140 H locs hEq140 hH hS hF1 => ?_)
            obtain ⟨rfl, hqq140, g0q140, pq140_0, pq140_1, pq140_2⟩ := hEq140
            show W p l e (rmk 3 65) s m [.ref a0].toArray below meth c H locs 0 0 (MQ below (th_QM D cT T (fun v q2 => ∃ r : Int32, v = some (.int r) ∧ IV r 0 1 ∧ qkm q2 ∧ fr [20, 21, 22, 23, 24, 27, 28, 29, 30, 31, 1000] q q2 ∧ ((q2 29 = 0 ∧ q2 27 = q2 26 ∧ q2 28 = q2 26) ∨ (1 ≤ q2 29 ∧ q2 27 < q2 28 ∧ q2 28 ≤ q2 26)) ∧ (q2 30 = 0 → NL q2) ∧ (q2 30 = 0 → q2 29 = 3 → q2 31 = 7237492 → q2 27 + 3 ≤ q2 28) ∧ (q 27 ≤ q2 27) ∧ (q2 30 = 0 → 2 * q 27 + q2 21 < 2 * q2 27 + q 21) ∧ (kp q q2 (q 35)) ∧ (q2 30 = 0 → r.toInt ≠ 0 → RS q2 1 ∧ 1 ≤ q2 21) ∧ (q2 30 = 0 → r.toInt = 0 → RS q2 0)) [0, 28, 29, 30, 31]) [.ref a0].toArray s 0 0 (th_A T [0, 28, 29, 30, 31])) (F0 m 101 ls [])
            have pq140_0 : q140 = emitq q131 x139.toInt := pq140_0
            have pq140_1 : q140 20 = q131 20 + 1 := pq140_1
            have pq140_2 : tx q131 q140 := pq140_2
            have wq140_10 : q140 10 = q131 10 := g0q140 10 (by decide) (Or.inl (by decide))
            have wq140_13 : q140 13 = q131 13 := g0q140 13 (by decide) (Or.inl (by decide))
            have wq140_21 : q140 21 = q131 21 := g0q140 21 (by decide) (Or.inl (by decide))
            have wq140_22 : q140 22 = q131 22 := g0q140 22 (by decide) (Or.inl (by decide))
            have wq140_23 : q140 23 = q131 23 := g0q140 23 (by decide) (Or.inl (by decide))
            have wq140_24 : q140 24 = q131 24 := g0q140 24 (by decide) (Or.inl (by decide))
            have wq140_26 : q140 26 = q131 26 := g0q140 26 (by decide) (Or.inl (by decide))
            have wq140_27 : q140 27 = q131 27 := g0q140 27 (by decide) (Or.inl (by decide))
            have wq140_28 : q140 28 = q131 28 := g0q140 28 (by decide) (Or.inl (by decide))
            have wq140_29 : q140 29 = q131 29 := g0q140 29 (by decide) (Or.inl (by decide))
            have wq140_30 : q140 30 = q131 30 := g0q140 30 (by decide) (Or.inl (by decide))
            have wq140_31 : q140 31 = q131 31 := g0q140 31 (by decide) (Or.inl (by decide))
            have wq140_35 : q140 35 = q131 35 := g0q140 35 (by decide) (Or.inl (by decide))
            have h0q140 : fr [20, 21, 22, 23, 24, 27, 28, 29, 30, 31, 1000] q q140 := fr_tr h0q131 g0q140 (by decide)
            have txq140 : tx q q140 := tx_tr txq131 pq140_2
            have hE : q140 = emitq q131 (q23 (2300 + n0)) := (pq140_0).trans (congrArg (emitq q131) hsx139)
            have hRS : RS q140 0 := RS_pop (a := x116.toInt) (z := q131 22) v23_inv0 (by omega) hn0 hx116 (by omega) (by omega) bgq131 (by omega) (by omega) (by omega) rfl (by omega) (by omega) (by omega) (by omega) ⟨hl2, by omega⟩ hE
            have hkp : kp q q140 (q 35) := kp_tr v23_inv3 (kp_tr (kp_bg bgq131) (kp_emit pq140_0 (by omega) (by omega) (by omega)))
            have c21 := qkm_21 hqq140
            refine lv_goto (tgt := 23) hx hb dX11_behindUnit_101 (by decide) ?_
            exact ih23 q140 H locs ls v23_1 hqq140 h0q140 iv23_1 (show RS q140 0 by first | assumption | exact hRS) (show 1 ≤ q140 21 ∧ q140 21 ≤ q 21 by omega) (show q140 23 = q 23 ∧ q140 24 = q 24 ∧ q140 27 = q 27 ∧ q140 28 = q 28 ∧ q140 29 = q 29 ∧ q140 30 = q 30 ∧ q140 31 = q 31 by omega) (show kp q q140 (q 35) by first | exact kp_bg bg_rf | exact hkp) (show (v23_1.toInt ≠ 0 → q 29 = 3 ∨ q 29 = 5) ∧ (3 < v23_1.toInt → sg q (q 27) < 97) ∧ v23_1.toInt ≠ 3 by omega) hH hS (lv_sub hl [0, 1] rfl) (show (q140 21).toNat < n by omega)
  have J0 : ∀ (H : Heap) (locs : List Loc) (ls : Array Slot), th_H D cT T (km q) H → va_S (th_A T [0, 28, 29, 30, 31]) s.heap H locs → lv_has ls 2 [(0, .ref a0)] → W p l e (rmk 3 65) s m [.ref a0].toArray below meth c H locs 0 0 (MQ below (th_QM D cT T (fun v q2 => ∃ r : Int32, v = some (.int r) ∧ IV r 0 1 ∧ qkm q2 ∧ fr [20, 21, 22, 23, 24, 27, 28, 29, 30, 31, 1000] q q2 ∧ ((q2 29 = 0 ∧ q2 27 = q2 26 ∧ q2 28 = q2 26) ∨ (1 ≤ q2 29 ∧ q2 27 < q2 28 ∧ q2 28 ≤ q2 26)) ∧ (q2 30 = 0 → NL q2) ∧ (q2 30 = 0 → q2 29 = 3 → q2 31 = 7237492 → q2 27 + 3 ≤ q2 28) ∧ (q 27 ≤ q2 27) ∧ (q2 30 = 0 → 2 * q 27 + q2 21 < 2 * q2 27 + q 21) ∧ (kp q q2 (q 35)) ∧ (q2 30 = 0 → r.toInt ≠ 0 → RS q2 1 ∧ 1 ≤ q2 21) ∧ (q2 30 = 0 → r.toInt = 0 → RS q2 0)) [0, 28, 29, 30, 31]) [.ref a0].toArray s 0 0 (th_A T [0, 28, 29, 30, 31])) (F0 m 0 ls []) := by
    intro H locs ls hH hS hl
    refine lv_aload_n hx hb dX11_behindUnit_0 rfl (lv_at hl 0 rfl) ?_
    refine th_callVp (n := 0) (As := []) S hK hH hS (th_A.sub (by decide)) (m_X11_rankHere l D cT T q hT hq a0 t0) gm_1579 gm_1576 gm_1578 gm_72 gm_124 (by decide +kernel) ⟨rfl, rfl, Nat.le_of_ble_eq_true rfl, Nat.le_of_ble_eq_true rfl⟩ t0 km_0 rfl rfl hl.1 rfl (Nat.le_of_ble_eq_true rfl) dX11_behindUnit_1 ⟨Nat.zero_le _, Nat.zero_le _⟩ (fun x141 H locs ix141 ox141 hH hS hF1 => ?_)
    obtain ⟨ox141_0, ox141_1, ox141_2⟩ := ox141
    have ox141_0 : x141.toInt ≠ 0 → q 29 = 3 ∨ q 29 = 5 := ox141_0
    have ox141_1 : 3 < x141.toInt → sg q (q 27) < 97 := ox141_1
    have ox141_2 : x141.toInt ≠ 3 := ox141_2
    have l1x141 := ix141.1; have l2x141 := ix141.2
    refine lv_istore_n (lv' := [(1, .int x141), (0, .ref a0)]) hx hb dX11_behindUnit_4 rfl hl (by decide) rfl (fun ls hl => ?_)
    refine lv_iload_n hx hb dX11_behindUnit_5 rfl (lv_at hl 0 rfl) ?_
    refine lv_iconst (v := 4) hx hb dX11_behindUnit_6 (by decide) ?_
    refine lv_icmp_ne (tgt := 23) hx hb dX11_behindUnit_7 (by decide) (fun c142 => ?_) (fun c142 => ?_)
    · skip
      have rlc142 : x141.toInt ≠ (4 : Int) := iv_ne c142
      exact J23 ((q 21).toNat + 1) q H locs ls x141 hq fr_rf ix141 (show RS q 0 by first | assumption | exact hRS) (show 1 ≤ q 21 ∧ q 21 ≤ q 21 by omega) (show q 23 = q 23 ∧ q 24 = q 24 ∧ q 27 = q 27 ∧ q 28 = q 28 ∧ q 29 = q 29 ∧ q 30 = q 30 ∧ q 31 = q 31 by omega) (show kp q q (q 35) by first | exact kp_bg bg_rf | exact hkp) (show (x141.toInt ≠ 0 → q 29 = 3 ∨ q 29 = 5) ∧ (3 < x141.toInt → sg q (q 27) < 97) ∧ x141.toInt ≠ 3 by omega) hH hS (lv_sub hl [1, 0] rfl) (Nat.lt_succ_self _)
    · skip
      have rlc142 : x141.toInt = (4 : Int) := congrArg Int32.toInt c142
      have ir143 : IV x141 4 4 := iv_eL c142 (iv_c (by decide) : IV 4 4 4)
      have ir143a := ir143.1; have ir143b := ir143.2
      refine lv_aload_n hx hb dX11_behindUnit_10 rfl (lv_at hl 1 rfl) ?_
      refine th_callVi (n := 0) (As := []) S hK hH hS (th_A.sub (by decide)) (m_X11_isCompared l D cT T q hT hq a0 t0 (show 1 ≤ q 21 by omega) (show PL q (q 21).toNat by exact RS_PL (by assumption))) gm_1583 gm_1580 gm_1582 gm_73 gm_124 (by decide +kernel) ⟨rfl, rfl, Nat.le_of_ble_eq_true rfl, Nat.le_of_ble_eq_true rfl⟩ t0 km_0 rfl rfl hl.1 rfl (Nat.le_of_ble_eq_true rfl) dX11_behindUnit_11 ⟨Nat.zero_le _, Nat.zero_le _⟩ (fun x144 H locs ix144 hH hS hF1 => ?_)
      have l1x144 := ix144.1; have l2x144 := ix144.2
      refine lv_if_eq (tgt := 23) hx hb dX11_behindUnit_14 (by decide) (fun c145 => ?_) (fun c145 => ?_)
      · skip
        have rlc145 : x144.toInt = (0 : Int) := congrArg Int32.toInt c145
        have ir146 : IV x144 0 0 := iv_eL c145 (iv_c (by decide) : IV 0 0 0)
        have ir146a := ir146.1; have ir146b := ir146.2
        exact J23 ((q 21).toNat + 1) q H locs ls x141 hq fr_rf (iv_w ir143 (by decide)) (show RS q 0 by first | assumption | exact hRS) (show 1 ≤ q 21 ∧ q 21 ≤ q 21 by omega) (show q 23 = q 23 ∧ q 24 = q 24 ∧ q 27 = q 27 ∧ q 28 = q 28 ∧ q 29 = q 29 ∧ q 30 = q 30 ∧ q 31 = q 31 by omega) (show kp q q (q 35) by first | exact kp_bg bg_rf | exact hkp) (show (x141.toInt ≠ 0 → q 29 = 3 ∨ q 29 = 5) ∧ (3 < x141.toInt → sg q (q 27) < 97) ∧ x141.toInt ≠ 3 by omega) hH hS (lv_sub hl [1, 0] rfl) (Nat.lt_succ_self _)
      · skip
        have rlc145 : x144.toInt ≠ (0 : Int) := iv_ne c145
        have ir147 : IV x144 1 1 := iv_cutL ix144 (iv_c (by decide) : IV 0 0 0) c145 (by decide)
        have ir147a := ir147.1; have ir147b := ir147.2
        refine lv_aload_n hx hb dX11_behindUnit_17 rfl (lv_at hl 1 rfl) ?_
        refine th_callVM (n := 0) (As := []) S hK hH hS (th_A.sub (by decide)) (m_X11_misplaced l D cT T q hT hq a0 t0) gm_1503 gm_1500 gm_1502 gm_53 gm_124 (by decide +kernel) ⟨rfl, rfl, Nat.le_of_ble_eq_true rfl, Nat.le_of_ble_eq_true rfl⟩ t0 km_0 rfl rfl hl.1 rfl (Nat.le_of_ble_eq_true rfl) dX11_behindUnit_18 ⟨Nat.zero_le _, Nat.zero_le _⟩ (fun wq148 q148 H locs hEq148 hH hS hF1 => ?_)
        obtain ⟨rfl, hqq148, g0q148, pq148_0⟩ := hEq148
        show W p l e (rmk 3 65) s m [.ref a0].toArray below meth c H locs 0 0 (MQ below (th_QM D cT T (fun v q2 => ∃ r : Int32, v = some (.int r) ∧ IV r 0 1 ∧ qkm q2 ∧ fr [20, 21, 22, 23, 24, 27, 28, 29, 30, 31, 1000] q q2 ∧ ((q2 29 = 0 ∧ q2 27 = q2 26 ∧ q2 28 = q2 26) ∨ (1 ≤ q2 29 ∧ q2 27 < q2 28 ∧ q2 28 ≤ q2 26)) ∧ (q2 30 = 0 → NL q2) ∧ (q2 30 = 0 → q2 29 = 3 → q2 31 = 7237492 → q2 27 + 3 ≤ q2 28) ∧ (q 27 ≤ q2 27) ∧ (q2 30 = 0 → 2 * q 27 + q2 21 < 2 * q2 27 + q 21) ∧ (kp q q2 (q 35)) ∧ (q2 30 = 0 → r.toInt ≠ 0 → RS q2 1 ∧ 1 ≤ q2 21) ∧ (q2 30 = 0 → r.toInt = 0 → RS q2 0)) [0, 28, 29, 30, 31]) [.ref a0].toArray s 0 0 (th_A T [0, 28, 29, 30, 31])) (F0 m 21 ls [])
        have pq148_0 : q148 30 ≠ 0 := pq148_0
        have wq148_10 : q148 10 = q 10 := g0q148 10 (by decide) (Or.inl (by decide))
        have wq148_13 : q148 13 = q 13 := g0q148 13 (by decide) (Or.inl (by decide))
        have wq148_20 : q148 20 = q 20 := g0q148 20 (by decide) (Or.inl (by decide))
        have wq148_21 : q148 21 = q 21 := g0q148 21 (by decide) (Or.inl (by decide))
        have wq148_22 : q148 22 = q 22 := g0q148 22 (by decide) (Or.inl (by decide))
        have wq148_23 : q148 23 = q 23 := g0q148 23 (by decide) (Or.inl (by decide))
        have wq148_24 : q148 24 = q 24 := g0q148 24 (by decide) (Or.inl (by decide))
        have wq148_26 : q148 26 = q 26 := g0q148 26 (by decide) (Or.inl (by decide))
        have wq148_27 : q148 27 = q 27 := g0q148 27 (by decide) (Or.inl (by decide))
        have wq148_28 : q148 28 = q 28 := g0q148 28 (by decide) (Or.inl (by decide))
        have wq148_29 : q148 29 = q 29 := g0q148 29 (by decide) (Or.inl (by decide))
        have wq148_31 : q148 31 = q 31 := g0q148 31 (by decide) (Or.inl (by decide))
        have wq148_35 : q148 35 = q 35 := g0q148 35 (by decide) (Or.inl (by decide))
        have h0q148 : fr [20, 21, 22, 23, 24, 27, 28, 29, 30, 31, 1000] q q148 := fr_tr fr_rf g0q148 (by decide)
        have bgq148 : bg q q148 := bg_fr bg_rf g0q148 (by decide)
        have txq148 : tx q q148 := tx_tr tx_rf (tx_bg (bg_fr bg_rf g0q148 (by decide)))
        have hkp : kp q q148 (q 35) := kp_bg bgq148
        refine lv_iconst (v := 1) hx hb dX11_behindUnit_21 (by decide) ?_
        exact th_zretM S hK hH hS hr hlocks (iv_w (iv_c (by decide) : IV 1 1 1) (by decide)) ⟨_, rfl, (iv_w (iv_c (by decide) : IV 1 1 1) (by decide)), hqq148, h0q148, (show (q148 29 = 0 ∧ q148 27 = q148 26 ∧ q148 28 = q148 26) ∨ (1 ≤ q148 29 ∧ q148 27 < q148 28 ∧ q148 28 ≤ q148 26) by omega), (show q148 30 = 0 → NL q148 by exact (fun z => NL_tx (hp2 (by omega)) txq148 (by omega) (by omega) (by omega))), (show q148 30 = 0 → q148 29 = 3 → q148 31 = 7237492 → q148 27 + 3 ≤ q148 28 by omega), (show q 27 ≤ q148 27 by omega), (show q148 30 = 0 → 2 * q 27 + q148 21 < 2 * q148 27 + q 21 by omega), (show kp q q148 (q 35) by exact hkp), (show q148 30 = 0 → (1 : Int) ≠ 0 → RS q148 1 ∧ 1 ≤ q148 21 by first | (intro z; exact absurd z (by omega)) | (intro _ z; exact absurd z (by omega)) | exact fun _ _ => ⟨hRS, by omega⟩), (show q148 30 = 0 → (1 : Int) = 0 → RS q148 0 by first | (intro z; exact absurd z (by omega)) | (intro _ z; exact absurd z (by omega)) | exact fun _ _ => hRS)⟩ dX11_behindUnit_22
  exact J0 s.heap [] ls hH va_S.rf hl
