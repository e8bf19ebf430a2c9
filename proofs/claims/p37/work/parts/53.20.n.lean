theorem dX11_isCompared_0 : decode cX11_isCompared 0 = .ok (.aload_n 0, 1) := by decide +kernel
theorem dX11_isCompared_1 : decode cX11_isCompared 1 = .ok (.getfield 335, 3) := by decide +kernel
theorem dX11_isCompared_4 : decode cX11_isCompared 4 = .ok (.iconst 1, 1) := by decide +kernel
theorem dX11_isCompared_5 : decode cX11_isCompared 5 = .ok (.isub, 1) := by decide +kernel
theorem dX11_isCompared_6 : decode cX11_isCompared 6 = .ok (.istore_n 1, 1) := by decide +kernel
theorem dX11_isCompared_7 : decode cX11_isCompared 7 = .ok (.aload_n 0, 1) := by decide +kernel
theorem dX11_isCompared_8 : decode cX11_isCompared 8 = .ok (.getfield 104, 3) := by decide +kernel
theorem dX11_isCompared_11 : decode cX11_isCompared 11 = .ok (.iload_n 1, 1) := by decide +kernel
theorem dX11_isCompared_12 : decode cX11_isCompared 12 = .ok (.iaload, 1) := by decide +kernel
theorem dX11_isCompared_13 : decode cX11_isCompared 13 = .ok (.iconst 5, 1) := by decide +kernel
theorem dX11_isCompared_14 : decode cX11_isCompared 14 = .ok (.if_icmp .eq 14, 3) := by decide +kernel
theorem dX11_isCompared_17 : decode cX11_isCompared 17 = .ok (.aload_n 0, 1) := by decide +kernel
theorem dX11_isCompared_18 : decode cX11_isCompared 18 = .ok (.getfield 104, 3) := by decide +kernel
theorem dX11_isCompared_21 : decode cX11_isCompared 21 = .ok (.iload_n 1, 1) := by decide +kernel
theorem dX11_isCompared_22 : decode cX11_isCompared 22 = .ok (.iaload, 1) := by decide +kernel
theorem dX11_isCompared_23 : decode cX11_isCompared 23 = .ok (.bipush 6, 2) := by decide +kernel
theorem dX11_isCompared_25 : decode cX11_isCompared 25 = .ok (.if_icmp .ne 9, 3) := by decide +kernel
theorem dX11_isCompared_28 : decode cX11_isCompared 28 = .ok (.iinc 1 (-1), 3) := by decide +kernel
theorem dX11_isCompared_31 : decode cX11_isCompared 31 = .ok (.goto (-24), 3) := by decide +kernel
theorem dX11_isCompared_34 : decode cX11_isCompared 34 = .ok (.aload_n 0, 1) := by decide +kernel
theorem dX11_isCompared_35 : decode cX11_isCompared 35 = .ok (.getfield 104, 3) := by decide +kernel
theorem dX11_isCompared_38 : decode cX11_isCompared 38 = .ok (.iload_n 1, 1) := by decide +kernel
theorem dX11_isCompared_39 : decode cX11_isCompared 39 = .ok (.iaload, 1) := by decide +kernel
theorem dX11_isCompared_40 : decode cX11_isCompared 40 = .ok (.iconst 4, 1) := by decide +kernel
theorem dX11_isCompared_41 : decode cX11_isCompared 41 = .ok (.if_icmp .ne 7, 3) := by decide +kernel
theorem dX11_isCompared_44 : decode cX11_isCompared 44 = .ok (.iconst 1, 1) := by decide +kernel
theorem dX11_isCompared_45 : decode cX11_isCompared 45 = .ok (.goto 4, 3) := by decide +kernel
theorem dX11_isCompared_48 : decode cX11_isCompared 48 = .ok (.iconst 0, 1) := by decide +kernel
theorem dX11_isCompared_49 : decode cX11_isCompared 49 = .ok (.ireturn, 1) := by decide +kernel
theorem dX11_behindUnit_0 : decode cX11_behindUnit 0 = .ok (.aload_n 0, 1) := by decide +kernel
theorem dX11_behindUnit_1 : decode cX11_behindUnit 1 = .ok (.invokevirtual 356, 3) := by decide +kernel
theorem dX11_behindUnit_4 : decode cX11_behindUnit 4 = .ok (.istore_n 1, 1) := by decide +kernel
theorem dX11_behindUnit_5 : decode cX11_behindUnit 5 = .ok (.iload_n 1, 1) := by decide +kernel
theorem dX11_behindUnit_6 : decode cX11_behindUnit 6 = .ok (.iconst 4, 1) := by decide +kernel
theorem dX11_behindUnit_7 : decode cX11_behindUnit 7 = .ok (.if_icmp .ne 16, 3) := by decide +kernel
theorem dX11_behindUnit_10 : decode cX11_behindUnit 10 = .ok (.aload_n 0, 1) := by decide +kernel
theorem dX11_behindUnit_11 : decode cX11_behindUnit 11 = .ok (.invokevirtual 359, 3) := by decide +kernel
theorem dX11_behindUnit_14 : decode cX11_behindUnit 14 = .ok (.ifCond .eq 9, 3) := by decide +kernel
theorem dX11_behindUnit_17 : decode cX11_behindUnit 17 = .ok (.aload_n 0, 1) := by decide +kernel
theorem dX11_behindUnit_18 : decode cX11_behindUnit 18 = .ok (.invokevirtual 250, 3) := by decide +kernel
theorem dX11_behindUnit_21 : decode cX11_behindUnit 21 = .ok (.iconst 1, 1) := by decide +kernel
theorem dX11_behindUnit_22 : decode cX11_behindUnit 22 = .ok (.ireturn, 1) := by decide +kernel
theorem dX11_behindUnit_23 : decode cX11_behindUnit 23 = .ok (.aload_n 0, 1) := by decide +kernel
theorem dX11_behindUnit_24 : decode cX11_behindUnit 24 = .ok (.getfield 104, 3) := by decide +kernel
theorem dX11_behindUnit_27 : decode cX11_behindUnit 27 = .ok (.aload_n 0, 1) := by decide +kernel
theorem dX11_behindUnit_28 : decode cX11_behindUnit 28 = .ok (.getfield 335, 3) := by decide +kernel
theorem dX11_behindUnit_31 : decode cX11_behindUnit 31 = .ok (.iconst 1, 1) := by decide +kernel
theorem dX11_behindUnit_32 : decode cX11_behindUnit 32 = .ok (.isub, 1) := by decide +kernel
theorem dX11_behindUnit_33 : decode cX11_behindUnit 33 = .ok (.iaload, 1) := by decide +kernel
theorem dX11_behindUnit_34 : decode cX11_behindUnit 34 = .ok (.bipush 6, 2) := by decide +kernel
theorem dX11_behindUnit_36 : decode cX11_behindUnit 36 = .ok (.if_icmp .gt 68, 3) := by decide +kernel
theorem dX11_behindUnit_39 : decode cX11_behindUnit 39 = .ok (.aload_n 0, 1) := by decide +kernel
theorem dX11_behindUnit_40 : decode cX11_behindUnit 40 = .ok (.getfield 104, 3) := by decide +kernel
theorem dX11_behindUnit_43 : decode cX11_behindUnit 43 = .ok (.aload_n 0, 1) := by decide +kernel
theorem dX11_behindUnit_44 : decode cX11_behindUnit 44 = .ok (.getfield 335, 3) := by decide +kernel
theorem dX11_behindUnit_47 : decode cX11_behindUnit 47 = .ok (.iconst 1, 1) := by decide +kernel
theorem dX11_behindUnit_48 : decode cX11_behindUnit 48 = .ok (.isub, 1) := by decide +kernel
theorem dX11_behindUnit_49 : decode cX11_behindUnit 49 = .ok (.iaload, 1) := by decide +kernel
theorem dX11_behindUnit_50 : decode cX11_behindUnit 50 = .ok (.iload_n 1, 1) := by decide +kernel
theorem dX11_behindUnit_51 : decode cX11_behindUnit 51 = .ok (.if_icmp .lt 53, 3) := by decide +kernel
theorem dX11_behindUnit_54 : decode cX11_behindUnit 54 = .ok (.aload_n 0, 1) := by decide +kernel
theorem dX11_behindUnit_55 : decode cX11_behindUnit 55 = .ok (.dup, 1) := by decide +kernel
theorem dX11_behindUnit_56 : decode cX11_behindUnit 56 = .ok (.getfield 335, 3) := by decide +kernel
theorem dX11_behindUnit_59 : decode cX11_behindUnit 59 = .ok (.iconst 1, 1) := by decide +kernel
theorem dX11_behindUnit_60 : decode cX11_behindUnit 60 = .ok (.isub, 1) := by decide +kernel
theorem dX11_behindUnit_61 : decode cX11_behindUnit 61 = .ok (.putfield 335, 3) := by decide +kernel
theorem dX11_behindUnit_64 : decode cX11_behindUnit 64 = .ok (.aload_n 0, 1) := by decide +kernel
theorem dX11_behindUnit_65 : decode cX11_behindUnit 65 = .ok (.getfield 104, 3) := by decide +kernel
theorem dX11_behindUnit_68 : decode cX11_behindUnit 68 = .ok (.aload_n 0, 1) := by decide +kernel
theorem dX11_behindUnit_69 : decode cX11_behindUnit 69 = .ok (.getfield 335, 3) := by decide +kernel
theorem dX11_behindUnit_72 : decode cX11_behindUnit 72 = .ok (.iaload, 1) := by decide +kernel
theorem dX11_behindUnit_73 : decode cX11_behindUnit 73 = .ok (.iconst 3, 1) := by decide +kernel
theorem dX11_behindUnit_74 : decode cX11_behindUnit 74 = .ok (.if_icmp .ne 13, 3) := by decide +kernel
theorem dX11_behindUnit_77 : decode cX11_behindUnit 77 = .ok (.aload_n 0, 1) := by decide +kernel
theorem dX11_behindUnit_78 : decode cX11_behindUnit 78 = .ok (.dup, 1) := by decide +kernel
theorem dX11_behindUnit_79 : decode cX11_behindUnit 79 = .ok (.getfield 338, 3) := by decide +kernel
theorem dX11_behindUnit_82 : decode cX11_behindUnit 82 = .ok (.iconst 1, 1) := by decide +kernel
theorem dX11_behindUnit_83 : decode cX11_behindUnit 83 = .ok (.isub, 1) := by decide +kernel
theorem dX11_behindUnit_84 : decode cX11_behindUnit 84 = .ok (.putfield 338, 3) := by decide +kernel
theorem dX11_behindUnit_87 : decode cX11_behindUnit 87 = .ok (.aload_n 0, 1) := by decide +kernel
theorem dX11_behindUnit_88 : decode cX11_behindUnit 88 = .ok (.aload_n 0, 1) := by decide +kernel
theorem dX11_behindUnit_89 : decode cX11_behindUnit 89 = .ok (.getfield 107, 3) := by decide +kernel
theorem dX11_behindUnit_92 : decode cX11_behindUnit 92 = .ok (.aload_n 0, 1) := by decide +kernel
theorem dX11_behindUnit_93 : decode cX11_behindUnit 93 = .ok (.getfield 335, 3) := by decide +kernel
theorem dX11_behindUnit_96 : decode cX11_behindUnit 96 = .ok (.iaload, 1) := by decide +kernel
theorem dX11_behindUnit_97 : decode cX11_behindUnit 97 = .ok (.iconst 0, 1) := by decide +kernel
theorem dX11_behindUnit_98 : decode cX11_behindUnit 98 = .ok (.invokevirtual 353, 3) := by decide +kernel
theorem dX11_behindUnit_101 : decode cX11_behindUnit 101 = .ok (.goto (-78), 3) := by decide +kernel
theorem dX11_behindUnit_104 : decode cX11_behindUnit 104 = .ok (.iload_n 1, 1) := by decide +kernel
theorem dX11_behindUnit_105 : decode cX11_behindUnit 105 = .ok (.ifCond .le 42, 3) := by decide +kernel
theorem dX11_behindUnit_108 : decode cX11_behindUnit 108 = .ok (.aload_n 0, 1) := by decide +kernel
theorem dX11_behindUnit_109 : decode cX11_behindUnit 109 = .ok (.iload_n 1, 1) := by decide +kernel
theorem dX11_behindUnit_110 : decode cX11_behindUnit 110 = .ok (.iload_n 1, 1) := by decide +kernel
theorem dX11_behindUnit_111 : decode cX11_behindUnit 111 = .ok (.iconst 2, 1) := by decide +kernel
theorem dX11_behindUnit_112 : decode cX11_behindUnit 112 = .ok (.if_icmp .ne 8, 3) := by decide +kernel
theorem dX11_behindUnit_115 : decode cX11_behindUnit 115 = .ok (.bipush 38, 2) := by decide +kernel
theorem dX11_behindUnit_117 : decode cX11_behindUnit 117 = .ok (.goto 21, 3) := by decide +kernel
theorem dX11_behindUnit_120 : decode cX11_behindUnit 120 = .ok (.iload_n 1, 1) := by decide +kernel
theorem dX11_behindUnit_121 : decode cX11_behindUnit 121 = .ok (.iconst 1, 1) := by decide +kernel
theorem dX11_behindUnit_122 : decode cX11_behindUnit 122 = .ok (.if_icmp .ne 8, 3) := by decide +kernel
theorem dX11_behindUnit_125 : decode cX11_behindUnit 125 = .ok (.bipush 124, 2) := by decide +kernel
theorem dX11_behindUnit_127 : decode cX11_behindUnit 127 = .ok (.goto 11, 3) := by decide +kernel
theorem dX11_behindUnit_130 : decode cX11_behindUnit 130 = .ok (.aload_n 0, 1) := by decide +kernel
theorem dX11_behindUnit_131 : decode cX11_behindUnit 131 = .ok (.aload_n 0, 1) := by decide +kernel
theorem dX11_behindUnit_132 : decode cX11_behindUnit 132 = .ok (.getfield 208, 3) := by decide +kernel
theorem dX11_behindUnit_135 : decode cX11_behindUnit 135 = .ok (.invokevirtual 211, 3) := by decide +kernel
theorem dX11_behindUnit_138 : decode cX11_behindUnit 138 = .ok (.invokevirtual 341, 3) := by decide +kernel
theorem dX11_behindUnit_141 : decode cX11_behindUnit 141 = .ok (.aload_n 0, 1) := by decide +kernel
theorem dX11_behindUnit_142 : decode cX11_behindUnit 142 = .ok (.invokevirtual 247, 3) := by decide +kernel
theorem dX11_behindUnit_145 : decode cX11_behindUnit 145 = .ok (.iconst 1, 1) := by decide +kernel
theorem dX11_behindUnit_146 : decode cX11_behindUnit 146 = .ok (.ireturn, 1) := by decide +kernel
theorem dX11_behindUnit_147 : decode cX11_behindUnit 147 = .ok (.aload_n 0, 1) := by decide +kernel
theorem dX11_behindUnit_148 : decode cX11_behindUnit 148 = .ok (.dup, 1) := by decide +kernel
theorem dX11_behindUnit_149 : decode cX11_behindUnit 149 = .ok (.getfield 335, 3) := by decide +kernel
theorem dX11_behindUnit_152 : decode cX11_behindUnit 152 = .ok (.iconst 1, 1) := by decide +kernel
theorem dX11_behindUnit_153 : decode cX11_behindUnit 153 = .ok (.isub, 1) := by decide +kernel
theorem dX11_behindUnit_154 : decode cX11_behindUnit 154 = .ok (.putfield 335, 3) := by decide +kernel
theorem dX11_behindUnit_157 : decode cX11_behindUnit 157 = .ok (.aload_n 0, 1) := by decide +kernel
theorem dX11_behindUnit_158 : decode cX11_behindUnit 158 = .ok (.getfield 104, 3) := by decide +kernel
theorem dX11_behindUnit_161 : decode cX11_behindUnit 161 = .ok (.aload_n 0, 1) := by decide +kernel
theorem dX11_behindUnit_162 : decode cX11_behindUnit 162 = .ok (.getfield 335, 3) := by decide +kernel
theorem dX11_behindUnit_165 : decode cX11_behindUnit 165 = .ok (.iaload, 1) := by decide +kernel
theorem dX11_behindUnit_166 : decode cX11_behindUnit 166 = .ok (.bipush 7, 2) := by decide +kernel
theorem dX11_behindUnit_168 : decode cX11_behindUnit 168 = .ok (.if_icmp .ne 23, 3) := by decide +kernel
theorem dX11_behindUnit_171 : decode cX11_behindUnit 171 = .ok (.aload_n 0, 1) := by decide +kernel
theorem dX11_behindUnit_172 : decode cX11_behindUnit 172 = .ok (.dup, 1) := by decide +kernel
theorem dX11_behindUnit_173 : decode cX11_behindUnit 173 = .ok (.getfield 338, 3) := by decide +kernel
theorem dX11_behindUnit_176 : decode cX11_behindUnit 176 = .ok (.iconst 1, 1) := by decide +kernel
theorem dX11_behindUnit_177 : decode cX11_behindUnit 177 = .ok (.isub, 1) := by decide +kernel
theorem dX11_behindUnit_178 : decode cX11_behindUnit 178 = .ok (.putfield 338, 3) := by decide +kernel
theorem dX11_behindUnit_181 : decode cX11_behindUnit 181 = .ok (.aload_n 0, 1) := by decide +kernel
theorem dX11_behindUnit_182 : decode cX11_behindUnit 182 = .ok (.aload_n 0, 1) := by decide +kernel
theorem dX11_behindUnit_183 : decode cX11_behindUnit 183 = .ok (.bipush 41, 2) := by decide +kernel
theorem dX11_behindUnit_185 : decode cX11_behindUnit 185 = .ok (.invokevirtual 301, 3) := by decide +kernel
theorem dX11_behindUnit_188 : decode cX11_behindUnit 188 = .ok (.invokevirtual 256, 3) := by decide +kernel
theorem dX11_behindUnit_191 : decode cX11_behindUnit 191 = .ok (.iconst 0, 1) := by decide +kernel
theorem dX11_behindUnit_192 : decode cX11_behindUnit 192 = .ok (.ireturn, 1) := by decide +kernel
set_option maxHeartbeats 20000000 in
set_option maxRecDepth 100000 in
theorem J7_X11_isCompared (l : Launch) (D : va_G) (cT : Nat → ClassId) (T : Nat → Option Nat) (q : Nat → Int) (hT : tokm T) (hq : qkm q) (a0 : Nat) (t0 : T a0 = some 0) (hp0 : 1 ≤ q 21) (hp1 : PL q (q 21).toNat) (p : Program) (e : Env) (s : State) (m : MethodId) (below : List Frame) (meth : Method) (c : Code) (S : CallFix p m c cX11_isCompared 2 s [.ref a0].toArray gw yX11_isCompared.cls) (hK : va_K D classes (th_tys cT) s) (hr : meth.sig.returnType = (some .boolean)) (hlocks : meth.locks = false) : ∀ (n : Nat) (H : Heap) (locs : List Loc) (ls : Array Slot) (v7_1 : Int32), IV v7_1 0 89 → th_H D cT T (km q) H → va_S (th_A T []) s.heap H locs → lv_has ls 2 [(0, .ref a0), (1, .int v7_1)] → (Int32.toInt v7_1 + 1 - 0).toNat < n → W p l e (rmk 0 0) s m [.ref a0].toArray below meth c H locs 0 0 (MQ below (th_Q D cT T (km q) (th_R T (some (.inl (0, 1)))) []) [.ref a0].toArray s 0 0 (th_A T [])) (F0 m 7 ls []) := by
    have hx := S.1
    have hb := S.2.1
    intro n
    induction n with
    | zero => intro H locs ls v7_1 iv7_1 hH hS hl hn; exact absurd hn (Nat.not_lt_zero _)
    | succ n ih7 =>
      intro H locs ls v7_1 iv7_1 hH hS hl hn7
      have l1v7_1 := iv7_1.1; have l2v7_1 := iv7_1.2
      refine lv_aload_n hx hb dX11_isCompared_7 rfl (lv_at hl 0 rfl) ?_
      refine th_get S hK hH inG11 t0 km_0 rfl 38 (by decide) gm_1268 rfl rfl dX11_isCompared_8 (fun v1 hv1 fv1 => ?_)
      obtain ⟨rf2, rfl, trf2⟩ := th_V.ref hv1
      refine lv_iload_n hx hb dX11_isCompared_11 rfl (lv_at hl 1 rfl) ?_
      refine th_iald S hK hH trf2 km_30 (th_in (hi := 89) iv7_1 (by decide)) dX11_isCompared_12 (fun v3 hv3 => ?_)
      obtain ⟨x4, rfl, kx4⟩ := th_eaR hv3 (th_lt (th_in (hi := 89) iv7_1 (by decide)))
      have ix4 := iv_top x4
      have jx4 := th_nat (hi := 89) iv7_1
      have hpx4 : x4.toInt ≠ 8 → 1 ≤ v7_1.toInt := fun z => by have z1 := PL_pos hp1 (by omega) kx4 z; omega
      refine lv_iconst (v := 5) hx hb dX11_isCompared_13 (by decide) ?_
      refine lv_icmp_eq (tgt := 28) hx hb dX11_isCompared_14 (by decide) (fun c5 => ?_) (fun c5 => ?_)
      · skip
        have rlc5 : x4.toInt = (5 : Int) := congrArg Int32.toInt c5
        have ir6 : IV x4 5 5 := iv_eL c5 (iv_c (by decide) : IV 5 5 5)
        have ir6a := ir6.1; have ir6b := ir6.2
        have ir7 : IV v7_1 1 89 := ⟨by omega, by omega⟩
        have ir7a := ir7.1; have ir7b := ir7.2
        refine th_iinc S dX11_isCompared_28 hl (k := 1) rfl (by decide) ir7 (by decide) (fun x8 ls ex8 ix8 hl => ?_)
        have hl : lv_has ls 2 [(1, .int x8), (0, .ref a0)] := hl
        have ix8 : IV x8 0 88 := ix8
        refine lv_goto (tgt := 7) hx hb dX11_isCompared_31 (by decide) ?_
        exact ih7 H locs ls x8 (iv_w ix8 (by decide)) hH hS (lv_sub hl [1, 0] rfl) (th_down iv7_1 ex8 (by decide) hn7)
      · skip
        have rlc5 : x4.toInt ≠ (5 : Int) := iv_ne c5
        clear rlc5
        refine lv_aload_n hx hb dX11_isCompared_17 rfl (lv_at hl 0 rfl) ?_
        refine th_getK S hK fv1 inG11 rfl (by decide) gm_1268 rfl dX11_isCompared_18 ?_
        refine lv_iload_n hx hb dX11_isCompared_21 rfl (lv_at hl 1 rfl) ?_
        refine th_iald S hK hH trf2 km_30 (th_in (hi := 89) iv7_1 (by decide)) dX11_isCompared_22 (fun v10 hv10 => ?_)
        obtain ⟨x11, rfl, kx11⟩ := th_eaR hv10 (th_lt (th_in (hi := 89) iv7_1 (by decide)))
        have ix11 := iv_top x11
        have jx11 := th_nat (hi := 89) iv7_1
        have hpx11 : x11.toInt ≠ 8 → 1 ≤ v7_1.toInt := fun z => by have z1 := PL_pos hp1 (by omega) kx11 z; omega
        refine lv_bipush (v := 6) hx hb dX11_isCompared_23 (by decide) ?_
        refine lv_icmp_ne (tgt := 34) hx hb dX11_isCompared_25 (by decide) (fun c12 => ?_) (fun c12 => ?_)
        · skip
          have rlc12 : x11.toInt ≠ (6 : Int) := iv_ne c12
          clear rlc12
          refine lv_aload_n hx hb dX11_isCompared_34 rfl (lv_at hl 0 rfl) ?_
          refine th_getK S hK fv1 inG11 rfl (by decide) gm_1268 rfl dX11_isCompared_35 ?_
          refine lv_iload_n hx hb dX11_isCompared_38 rfl (lv_at hl 1 rfl) ?_
          refine th_iald S hK hH trf2 km_30 (th_in (hi := 89) iv7_1 (by decide)) dX11_isCompared_39 (fun v14 hv14 => ?_)
          obtain ⟨x15, rfl, kx15⟩ := th_eaR hv14 (th_lt (th_in (hi := 89) iv7_1 (by decide)))
          have ix15 := iv_top x15
          have jx15 := th_nat (hi := 89) iv7_1
          refine lv_iconst (v := 4) hx hb dX11_isCompared_40 (by decide) ?_
          refine lv_icmp_ne (tgt := 48) hx hb dX11_isCompared_41 (by decide) (fun c16 => ?_) (fun c16 => ?_)
          · skip
            have rlc16 : x15.toInt ≠ (4 : Int) := iv_ne c16
            clear rlc16
            refine lv_iconst (v := 0) hx hb dX11_isCompared_48 (by decide) ?_
            exact th_zret S hK hH hS hr hlocks (iv_w (iv_c (by decide) : IV 0 0 0) (by decide)) (th_R.i (iv_w (iv_c (by decide) : IV 0 0 0) (by decide))) dX11_isCompared_49
          · skip
            have rlc16 : x15.toInt = (4 : Int) := congrArg Int32.toInt c16
            have ir17 : IV x15 4 4 := iv_eL c16 (iv_c (by decide) : IV 4 4 4)
            have ir17a := ir17.1; have ir17b := ir17.2
            refine lv_iconst (v := 1) hx hb dX11_isCompared_44 (by decide) ?_
            refine lv_goto (tgt := 49) hx hb dX11_isCompared_45 (by decide) ?_
            exact th_zret S hK hH hS hr hlocks (iv_w (iv_c (by decide) : IV 1 1 1) (by decide)) (th_R.i (iv_w (iv_c (by decide) : IV 1 1 1) (by decide))) dX11_isCompared_49
        · skip
          have rlc12 : x11.toInt = (6 : Int) := congrArg Int32.toInt c12
          have ir18 : IV x11 6 6 := iv_eL c12 (iv_c (by decide) : IV 6 6 6)
          have ir18a := ir18.1; have ir18b := ir18.2
          have ir19 : IV v7_1 1 89 := ⟨by omega, by omega⟩
          have ir19a := ir19.1; have ir19b := ir19.2
          refine th_iinc S dX11_isCompared_28 hl (k := 1) rfl (by decide) ir19 (by decide) (fun x20 ls ex20 ix20 hl => ?_)
          have hl : lv_has ls 2 [(1, .int x20), (0, .ref a0)] := hl
          have ix20 : IV x20 0 88 := ix20
          refine lv_goto (tgt := 7) hx hb dX11_isCompared_31 (by decide) ?_
          exact ih7 H locs ls x20 (iv_w ix20 (by decide)) hH hS (lv_sub hl [1, 0] rfl) (th_down iv7_1 ex20 (by decide) hn7)

set_option maxHeartbeats 20000000 in
set_option maxRecDepth 100000 in
theorem m_X11_isCompared (l : Launch) (D : va_G) (cT : Nat → ClassId) (T : Nat → Option Nat) (q : Nat → Int) (hT : tokm T) (hq : qkm q) (a0 : Nat) (t0 : T a0 = some 0) (hp0 : 1 ≤ q 21) (hp1 : PL q (q 21).toNat) : th_Met l D cT T (km q) yX11_isCompared cX11_isCompared 2 (some .boolean) (rmk 0 0) [.ref a0] (th_R T (some (.inl (0, 1)))) [] := by
  refine th_start (by decide) (Nat.le_of_ble_eq_true rfl) ?_
  intro p e s m below meth c ls S hK hH hr hlocks hnm hl
  have hx := S.1
  have hb := S.2.1
  have hl : lv_has ls 2 [(0, .ref a0)] := hl
  have J7 := J7_X11_isCompared l D cT T q hT hq a0 t0 hp0 hp1 p e s m below meth c S hK hr hlocks
  have J0 : ∀ (H : Heap) (locs : List Loc) (ls : Array Slot), th_H D cT T (km q) H → va_S (th_A T []) s.heap H locs → lv_has ls 2 [(0, .ref a0)] → W p l e (rmk 0 0) s m [.ref a0].toArray below meth c H locs 0 0 (MQ below (th_Q D cT T (km q) (th_R T (some (.inl (0, 1)))) []) [.ref a0].toArray s 0 0 (th_A T [])) (F0 m 0 ls []) := by
    intro H locs ls hH hS hl
    refine lv_aload_n hx hb dX11_isCompared_0 rfl (lv_at hl 0 rfl) ?_
    refine th_get S hK hH inG11 t0 km_0 rfl 45 (by decide) gm_1275 rfl rfl dX11_isCompared_1 (fun v21 hv21 fv21 => ?_)
    obtain ⟨x22, rfl, ix22⟩ := th_V.int hv21
    have kx22 : x22.toInt = q 21 := Int.le_antisymm ix22.2 ix22.1
    have bx22 := qkm_21 hq
    have ix22 : IV x22 1 90 := iv_w ix22 ⟨by omega, by omega⟩
    refine lv_iconst (v := 1) hx hb dX11_isCompared_4 (by decide) ?_
    refine lv_isub hx hb dX11_isCompared_5 ?_
    refine lv_topi (fun x23 ex23 => ?_)
    have ix23 : IV x23 0 89 := by rw [ex23]; exact iv_sub ix22 (iv_c (by decide) : IV 1 1 1) (by decide)
    have ux23 : x23.toInt = x22.toInt - (1 : Int) := by rw [ex23]; exact iv_subE (by have z1 := (ix22).1; have z2 := (ix22).2; have z3 := ((iv_c (by decide) : IV 1 1 1)).1; have z4 := ((iv_c (by decide) : IV 1 1 1)).2; omega)
    refine lv_istore_n (lv' := [(1, .int x23), (0, .ref a0)]) hx hb dX11_isCompared_6 rfl hl (by decide) rfl (fun ls hl => ?_)
    exact J7 ((Int32.toInt x23 + 1 - 0).toNat + 1) H locs ls x23 ix23 hH hS (lv_sub hl [1, 0] rfl) (Nat.lt_succ_self _)
  exact J0 s.heap [] ls hH va_S.rf hl

set_option maxHeartbeats 20000000 in
set_option maxRecDepth 100000 in
theorem J104_X11_behindUnit (l : Launch) (D : va_G) (cT : Nat → ClassId) (T : Nat → Option Nat) (q : Nat → Int) (hT : tokm T) (hq : qkm q) (a0 : Nat) (t0 : T a0 = some 0) (hp0 : TS q) (hp1 : q 13 = 1 - q 10) (hp2 : q 30 = 0) (hp3 : 0 ≤ q 35) (hp4 : RS q 0) (hp5 : 1 ≤ q 21) (p : Program) (e : Env) (s : State) (m : MethodId) (below : List Frame) (meth : Method) (c : Code) (S : CallFix p m c cX11_behindUnit 2 s [.ref a0].toArray gw yX11_behindUnit.cls) (hK : va_K D classes (th_tys cT) s) (hr : meth.sig.returnType = (some .boolean)) (hlocks : meth.locks = false) : ∀ (q104 : Nat → Int) (H : Heap) (locs : List Loc) (ls : Array Slot) (v104_1 : Int32), qkm q104 → fr [20, 21, 22, 23, 24, 27, 28, 29, 30, 31, 1000] q q104 → IV v104_1 0 6 → (RS q104 0) → (1 ≤ q104 21 ∧ q104 21 ≤ q 21) → (q104 23 = q 23 ∧ q104 24 = q 24 ∧ q104 27 = q 27 ∧ q104 28 = q 28 ∧ q104 29 = q 29 ∧ q104 30 = q 30 ∧ q104 31 = q 31) → (kp q q104 (q 35)) → ((v104_1.toInt ≠ 0 → q 29 = 3 ∨ q 29 = 5) ∧ (3 < v104_1.toInt → sg q (q 27) < 97) ∧ v104_1.toInt ≠ 3) → (v104_1.toInt = 0 → 7 ≤ q104 (2200 + ((q104 21).toNat - 1))) → th_H D cT T (km q104) H → va_S (th_A T [0, 28, 29, 30, 31]) s.heap H locs → lv_has ls 2 [(0, .ref a0), (1, .int v104_1)] → W p l e (rmk 3 65) s m [.ref a0].toArray below meth c H locs 0 0 (MQ below (th_QM D cT T (fun v q2 => ∃ r : Int32, v = some (.int r) ∧ IV r 0 1 ∧ qkm q2 ∧ fr [20, 21, 22, 23, 24, 27, 28, 29, 30, 31, 1000] q q2 ∧ (TS q2) ∧ (q 27 ≤ q2 27) ∧ (DM q q2) ∧ (kp q q2 (q 35)) ∧ (RU q2 r.toInt) ∧ (GD q q2)) [0, 28, 29, 30, 31]) [.ref a0].toArray s 0 0 (th_A T [0, 28, 29, 30, 31])) (F0 m 104 ls []) := by
    have hx := S.1
    have hb := S.2.1
    have c10 := qkm_10 hq; have c13 := qkm_13 hq; have c20 := qkm_20 hq; have c21 := qkm_21 hq; have c22 := qkm_22 hq; have c26 := qkm_26 hq; have c27 := qkm_27 hq; have le0 := TS_le hp0
    intro q104 H locs ls v104_1 hq104 h0104 iv104_1 v104_inv0 v104_inv1 v104_inv2 v104_inv3 v104_inv4 v104_inv5 hH hS hl
    have w104_10 : q104 10 = q 10 := h0104 10 (by decide) (Or.inl (by decide))
    have w104_13 : q104 13 = q 13 := h0104 13 (by decide) (Or.inl (by decide))
    have w104_26 : q104 26 = q 26 := h0104 26 (by decide) (Or.inl (by decide))
    have w104_35 : q104 35 = q 35 := h0104 35 (by decide) (Or.inl (by decide))
    have d10 := qkm_10 hq104; have d13 := qkm_13 hq104; have d20 := qkm_20 hq104; have d21 := qkm_21 hq104; have d22 := qkm_22 hq104; have d26 := qkm_26 hq104; have d27 := qkm_27 hq104
    have hpil := RS_piled v104_inv0 (by decide)
    obtain ⟨hlo1, hlo2, hlo3⟩ := RS_lo v104_inv0
    obtain ⟨n0, hn0⟩ : ∃ n : Nat, (q104 21).toNat = n + 1 := ⟨(q104 21).toNat - 1, by omega⟩
    obtain ⟨ht1, ht2⟩ := RS_top v104_inv0 hn0
    have gd104 : GD q q104 := GD_eq (by omega)
    rw [show (q104 21).toNat - 1 = n0 by omega] at v104_inv5
    obtain ⟨hr4, hr5, hr6⟩ := v104_inv4
    have l1v104_1 := iv104_1.1; have l2v104_1 := iv104_1.2
    refine lv_iload_n hx hb dX11_behindUnit_104 rfl (lv_at hl 1 rfl) ?_
    refine lv_if_le (tgt := 147) hx hb dX11_behindUnit_105 (by decide) (fun c1 => ?_) (fun c1 => ?_)
    · skip
      have rlc1 : v104_1.toInt ≤ (0 : Int) := iv_le c1
      have ir2 : IV v104_1 0 0 := iv_vL iv104_1 (iv_c (by decide) : IV 0 0 0) (iv_le c1) (by decide)
      have ir2a := ir2.1; have ir2b := ir2.2
      have h7 := v104_inv5 (by omega)
      refine lv_aload_n hx hb dX11_behindUnit_147 rfl (lv_at hl 0 rfl) ?_
      refine lv_dup hx hb dX11_behindUnit_148 rfl ?_
      refine th_get S hK hH inG11 t0 km_0 rfl 45 (by decide) gm_1275 rfl rfl dX11_behindUnit_149 (fun v3 hv3 fv3 => ?_)
      obtain ⟨x4, rfl, ix4⟩ := th_V.int hv3
      have kx4 : x4.toInt = q104 21 := Int.le_antisymm ix4.2 ix4.1
      have bx4 := qkm_21 hq104
      have ix4 : IV x4 0 90 := iv_w ix4 (qkm_21 hq104)
      have ir5 : IV x4 1 90 := ⟨by omega, by omega⟩
      have ir5a := ir5.1; have ir5b := ir5.2
      refine lv_iconst (v := 1) hx hb dX11_behindUnit_152 (by decide) ?_
      refine lv_isub hx hb dX11_behindUnit_153 ?_
      refine lv_topi (fun x6 ex6 => ?_)
      have ix6 : IV x6 0 89 := by rw [ex6]; exact iv_sub ir5 (iv_c (by decide) : IV 1 1 1) (by decide)
      have ux6 : x6.toInt = x4.toInt - (1 : Int) := by rw [ex6]; exact iv_subE (by have z1 := (ir5).1; have z2 := (ir5).2; have z3 := ((iv_c (by decide) : IV 1 1 1)).1; have z4 := ((iv_c (by decide) : IV 1 1 1)).2; omega)
      obtain ⟨n8, en8⟩ : ∃ z : Int, z = Int32.toInt x6 := ⟨_, rfl⟩
      refine mput_21 S hK hH hS ⟨0, by decide, t0⟩ hT t0 en8 gm_1275 dX11_behindUnit_154 (fun q7 H locs eq7 hH hS hq1 => ?_)
      have hqq7 : qkm q7 := by rw [eq7]; exact qum_ok21 hq104 (iv_z en8 (iv_w ix6 (by decide)))
      have h0q7 : fr [20, 21, 22, 23, 24, 27, 28, 29, 30, 31, 1000] q q7 := by rw [eq7]; exact fr_up h0104 (by decide)
      have wq7_10 : q7 10 = q104 10 := by rw [eq7]; rfl
      have wq7_13 : q7 13 = q104 13 := by rw [eq7]; rfl
      have wq7_20 : q7 20 = q104 20 := by rw [eq7]; rfl
      have wq7_21 : q7 21 = q104 21 - (1 : Int) := by rw [show q7 21 = n8 by rw [eq7]; rfl, en8, ux6, kx4]
      have wq7_22 : q7 22 = q104 22 := by rw [eq7]; rfl
      have wq7_23 : q7 23 = q104 23 := by rw [eq7]; rfl
      have wq7_24 : q7 24 = q104 24 := by rw [eq7]; rfl
      have wq7_26 : q7 26 = q104 26 := by rw [eq7]; rfl
      have wq7_27 : q7 27 = q104 27 := by rw [eq7]; rfl
      have wq7_28 : q7 28 = q104 28 := by rw [eq7]; rfl
      have wq7_29 : q7 29 = q104 29 := by rw [eq7]; rfl
      have wq7_30 : q7 30 = q104 30 := by rw [eq7]; rfl
      have wq7_31 : q7 31 = q104 31 := by rw [eq7]; rfl
      have wq7_35 : q7 35 = q104 35 := by rw [eq7]; rfl
      have bgq7 : bg q104 q7 := bg_up bg_rf eq7 (by decide)
      have gdq7 : GD q q7 := GD_tr gd104 (GD_eq wq7_30)
      have gbq7 : GD q104 q7 := GD_tr (GD_eq rfl) (GD_eq wq7_30)
      have txq7 : tx q q7 := tx_tr (tx_kp v104_inv3) (tx_up eq7 (by omega))
      clear en8
      clear ux6
      refine lv_aload_n hx hb dX11_behindUnit_157 rfl (lv_at hl 0 rfl) ?_
      refine th_get S hK hH inG11 t0 km_0 rfl 38 (by decide) gm_1268 rfl rfl dX11_behindUnit_158 (fun v9 hv9 fv9 => ?_)
      obtain ⟨rf10, rfl, trf10⟩ := th_V.ref hv9
      refine lv_aload_n hx hb dX11_behindUnit_161 rfl (lv_at hl 0 rfl) ?_
      refine th_get S hK hH inG11 t0 km_0 rfl 45 (by decide) gm_1275 rfl rfl dX11_behindUnit_162 (fun v11 hv11 fv11 => ?_)
      obtain ⟨x12, rfl, ix12⟩ := th_V.int hv11
      have kx12 : x12.toInt = q7 21 := Int.le_antisymm ix12.2 ix12.1
      have bx12 := qkm_21 hqq7
      have ix12 : IV x12 0 90 := iv_w ix12 (qkm_21 hqq7)
      have ir13 : IV x12 0 89 := ⟨by omega, by omega⟩
      have ir13a := ir13.1; have ir13b := ir13.2
      refine th_iald S hK hH trf10 km_30 (th_in (hi := 89) ir13 (by decide)) dX11_behindUnit_165 (fun v14 hv14 => ?_)
      obtain ⟨x15, rfl, kx15⟩ := th_eaR hv14 (th_lt (th_in (hi := 89) ir13 (by decide)))
      have ix15 := iv_top x15
      have jx15 := th_nat (hi := 89) ir13
      have hx15 : x15.toInt = q104 (2200 + n0) := (kx15).trans ((bgq7 _ (by omega)).trans (congrArg q104 (by omega)))
      refine lv_bipush (v := 7) hx hb dX11_behindUnit_166 (by decide) ?_
      refine lv_icmp_ne (tgt := 191) hx hb dX11_behindUnit_168 (by decide) (fun c16 => ?_) (fun c16 => ?_)
      · skip
        have rlc16 : x15.toInt ≠ (7 : Int) := iv_ne c16
        have hRS : RS q7 0 := RS_shut (a := x15.toInt) (z := q7 22) v104_inv0 (by omega) hn0 hx15 (by omega) (Or.inr ⟨by omega, by omega⟩) bgq7 (by omega) (by omega) (by omega) rfl (by omega) (by omega) (by omega) (by omega)
        have hkp : kp q q7 (q 35) := kp_tr v104_inv3 (kp_bg bgq7)
        have hRU : RU q7 (0 : Int) := RU_0 hRS rfl
        refine lv_iconst (v := 0) hx hb dX11_behindUnit_191 (by decide) ?_
        exact th_zretM S hK hH hS hr hlocks (iv_w (iv_c (by decide) : IV 0 0 0) (by decide)) ⟨_, rfl, (iv_w (iv_c (by decide) : IV 0 0 0) (by decide)), hqq7, h0q7, (show TS q7 by exact (TS_mv hp0 txq7 (by omega) (by omega) (by omega) (by omega) (by omega) (fun z => by omega))), (show q 27 ≤ q7 27 by omega), (show DM q q7 by exact fun _ => by omega), (show kp q q7 (q 35) by exact hkp), (show RU q7 (0 : Int) by exact hRU), (show GD q q7 by exact gdq7)⟩ dX11_behindUnit_192
      · skip
        have rlc16 : x15.toInt = (7 : Int) := congrArg Int32.toInt c16
        have ir17 : IV x15 7 7 := iv_eL c16 (iv_c (by decide) : IV 7 7 7)
        have ir17a := ir17.1; have ir17b := ir17.2
        refine lv_aload_n hx hb dX11_behindUnit_171 rfl (lv_at hl 0 rfl) ?_
        refine lv_dup hx hb dX11_behindUnit_172 rfl ?_
        refine th_get S hK hH inG11 t0 km_0 rfl 44 (by decide) gm_1274 rfl rfl dX11_behindUnit_173 (fun v18 hv18 fv18 => ?_)
        obtain ⟨x19, rfl, ix19⟩ := th_V.int hv18
        have kx19 : x19.toInt = q7 22 := Int.le_antisymm ix19.2 ix19.1
        have bx19 := qkm_22 hqq7
        have ix19 : IV x19 0 7 := iv_w ix19 (qkm_22 hqq7)
        have hin := RS_in v104_inv0 hn0 (Or.inr (by omega))
        have ir20 : IV x19 1 7 := ⟨by omega, by omega⟩
        have ir20a := ir20.1; have ir20b := ir20.2
        refine lv_iconst (v := 1) hx hb dX11_behindUnit_176 (by decide) ?_
        refine lv_isub hx hb dX11_behindUnit_177 ?_
        refine lv_topi (fun x21 ex21 => ?_)
        have ix21 : IV x21 0 6 := by rw [ex21]; exact iv_sub ir20 (iv_c (by decide) : IV 1 1 1) (by decide)
        have ux21 : x21.toInt = x19.toInt - (1 : Int) := by rw [ex21]; exact iv_subE (by have z1 := (ir20).1; have z2 := (ir20).2; have z3 := ((iv_c (by decide) : IV 1 1 1)).1; have z4 := ((iv_c (by decide) : IV 1 1 1)).2; omega)
        obtain ⟨n23, en23⟩ : ∃ z : Int, z = Int32.toInt x21 := ⟨_, rfl⟩
        refine mput_22 S hK hH hS ⟨0, by decide, t0⟩ hT t0 en23 gm_1274 dX11_behindUnit_178 (fun q22 H locs eq22 hH hS hq1 => ?_)
        have hqq22 : qkm q22 := by rw [eq22]; exact qum_ok22 hqq7 (iv_z en23 (iv_w ix21 (by decide)))
        have h0q22 : fr [20, 21, 22, 23, 24, 27, 28, 29, 30, 31, 1000] q q22 := by rw [eq22]; exact fr_up h0q7 (by decide)
        have wq22_10 : q22 10 = q7 10 := by rw [eq22]; rfl
        have wq22_13 : q22 13 = q7 13 := by rw [eq22]; rfl
        have wq22_20 : q22 20 = q7 20 := by rw [eq22]; rfl
        have wq22_21 : q22 21 = q7 21 := by rw [eq22]; rfl
        have wq22_22 : q22 22 = q7 22 - (1 : Int) := by rw [show q22 22 = n23 by rw [eq22]; rfl, en23, ux21, kx19]
        have wq22_23 : q22 23 = q7 23 := by rw [eq22]; rfl
        have wq22_24 : q22 24 = q7 24 := by rw [eq22]; rfl
        have wq22_26 : q22 26 = q7 26 := by rw [eq22]; rfl
        have wq22_27 : q22 27 = q7 27 := by rw [eq22]; rfl
        have wq22_28 : q22 28 = q7 28 := by rw [eq22]; rfl
        have wq22_29 : q22 29 = q7 29 := by rw [eq22]; rfl
        have wq22_30 : q22 30 = q7 30 := by rw [eq22]; rfl
        have wq22_31 : q22 31 = q7 31 := by rw [eq22]; rfl
        have wq22_35 : q22 35 = q7 35 := by rw [eq22]; rfl
        have bgq22 : bg q104 q22 := bg_up bgq7 eq22 (by decide)
        have gdq22 : GD q q22 := GD_tr gdq7 (GD_eq wq22_30)
        have gbq22 : GD q104 q22 := GD_tr gbq7 (GD_eq wq22_30)
        have txq22 : tx q q22 := tx_tr txq7 (tx_up eq22 (by omega))
        clear en23
        clear ux21
        refine lv_aload_n hx hb dX11_behindUnit_181 rfl (lv_at hl 0 rfl) ?_
        refine lv_aload_n hx hb dX11_behindUnit_182 rfl (lv_at hl 0 rfl) ?_
        refine lv_bipush (v := 41) hx hb dX11_behindUnit_183 (by decide) ?_
        refine th_callVp (n := 1) (As := [.int 41]) S hK hH hS (th_A.sub (by decide)) (m_X11_isSignHere l D cT T q22 hT hqq22 a0 t0 (41) (iv_top _)) gm_1563 gm_1560 gm_1562 gm_68 gm_124 (by decide +kernel) ⟨rfl, rfl, Nat.le_of_ble_eq_true rfl, Nat.le_of_ble_eq_true rfl⟩ t0 km_0 rfl rfl hl.1 rfl (Nat.le_of_ble_eq_true rfl) dX11_behindUnit_185 ⟨Nat.zero_le _, Nat.zero_le _⟩ (fun x24 H locs ix24 ox24 hH hS hF1 => ?_)
        have ox24 : x24.toInt ≠ 0 → q22 29 = 5 ∧ sg q22 (q22 27) = (41 : Int) := ox24
        have l1x24 := ix24.1; have l2x24 := ix24.2
        refine th_callVM (n := 1) (As := [.int x24]) S hK hH hS (th_A.sub (by decide)) (m_X11_must l D cT T q22 hT hqq22 a0 t0 (x24) ix24 (show TS q22 by exact (TS_mv hp0 txq22 (by omega) (by omega) (by omega) (by omega) (by omega) (fun z => by omega)))) gm_1543 gm_1540 gm_1542 gm_63 gm_124 (by decide +kernel) ⟨rfl, rfl, Nat.le_of_ble_eq_true rfl, Nat.le_of_ble_eq_true rfl⟩ t0 km_0 rfl rfl hl.1 rfl (Nat.le_of_ble_eq_true rfl) dX11_behindUnit_188 ⟨Nat.zero_le _, Nat.zero_le _⟩ (fun wq25 q25 H locs hEq25 hH hS hF1 => ?_)
        obtain ⟨rfl, hqq25, g0q25, pq25_0, pq25_1, pq25_2⟩ := hEq25
        show W p l e (rmk 3 65) s m [.ref a0].toArray below meth c H locs 0 0 (MQ below (th_QM D cT T (fun v q2 => ∃ r : Int32, v = some (.int r) ∧ IV r 0 1 ∧ qkm q2 ∧ fr [20, 21, 22, 23, 24, 27, 28, 29, 30, 31, 1000] q q2 ∧ (TS q2) ∧ (q 27 ≤ q2 27) ∧ (DM q q2) ∧ (kp q q2 (q 35)) ∧ (RU q2 r.toInt) ∧ (GD q q2)) [0, 28, 29, 30, 31]) [.ref a0].toArray s 0 0 (th_A T [0, 28, 29, 30, 31])) (F0 m 191 ls [])
        have pq25_0 : TS q25 := pq25_0
        have pq25_1 : q22 27 ≤ q25 27 := pq25_1
        have pq25_2 : GD q22 q25 := pq25_2
        have wq25_10 : q25 10 = q22 10 := g0q25 10 (by decide) (Or.inl (by decide))
        have wq25_13 : q25 13 = q22 13 := g0q25 13 (by decide) (Or.inl (by decide))
        have wq25_20 : q25 20 = q22 20 := g0q25 20 (by decide) (Or.inl (by decide))
        have wq25_21 : q25 21 = q22 21 := g0q25 21 (by decide) (Or.inl (by decide))
        have wq25_22 : q25 22 = q22 22 := g0q25 22 (by decide) (Or.inl (by decide))
        have wq25_23 : q25 23 = q22 23 := g0q25 23 (by decide) (Or.inl (by decide))
        have wq25_24 : q25 24 = q22 24 := g0q25 24 (by decide) (Or.inl (by decide))
        have wq25_26 : q25 26 = q22 26 := g0q25 26 (by decide) (Or.inl (by decide))
        have wq25_35 : q25 35 = q22 35 := g0q25 35 (by decide) (Or.inl (by decide))
        have h0q25 : fr [20, 21, 22, 23, 24, 27, 28, 29, 30, 31, 1000] q q25 := fr_tr h0q22 g0q25 (by decide)
        have bgq25 : bg q104 q25 := bg_fr bgq22 g0q25 (by decide)
        have gdq25 : GD q q25 := GD_tr gdq22 pq25_2
        have gbq25 : GD q104 q25 := GD_tr gbq22 pq25_2
        have hRS : RS q25 0 := RS_shut (a := x15.toInt) (z := q25 22) v104_inv0 (by omega) hn0 hx15 (by omega) (Or.inl ⟨by omega, by omega⟩) bgq25 (by omega) (by omega) (by omega) rfl (by omega) (by omega) (by omega) (by omega)
        have hkp : kp q q25 (q 35) := kp_tr v104_inv3 (kp_bg bgq25)
        have hRU : RU q25 (0 : Int) := RU_0 hRS rfl
        refine lv_iconst (v := 0) hx hb dX11_behindUnit_191 (by decide) ?_
        exact th_zretM S hK hH hS hr hlocks (iv_w (iv_c (by decide) : IV 0 0 0) (by decide)) ⟨_, rfl, (iv_w (iv_c (by decide) : IV 0 0 0) (by decide)), hqq25, h0q25, (show TS q25 by exact pq25_0), (show q 27 ≤ q25 27 by omega), (show DM q q25 by exact fun _ => by omega), (show kp q q25 (q 35) by exact hkp), (show RU q25 (0 : Int) by exact hRU), (show GD q q25 by exact gdq25)⟩ dX11_behindUnit_192
    · skip
      have rlc1 : (0 : Int) < v104_1.toInt := iv_nle c1
      have ir26 : IV v104_1 1 6 := iv_uR (iv_c (by decide) : IV 0 0 0) iv104_1 (iv_nle c1) (by decide)
      have ir26a := ir26.1; have ir26b := ir26.2
      have h29 := hr4 (by omega); clear hr4
      have hadv := TS_in hp0 (by omega)
      refine lv_aload_n hx hb dX11_behindUnit_108 rfl (lv_at hl 0 rfl) ?_
      refine lv_iload_n hx hb dX11_behindUnit_109 rfl (lv_at hl 1 rfl) ?_
      refine lv_iload_n hx hb dX11_behindUnit_110 rfl (lv_at hl 1 rfl) ?_
      refine lv_iconst (v := 2) hx hb dX11_behindUnit_111 (by decide) ?_
      refine lv_icmp_ne (tgt := 120) hx hb dX11_behindUnit_112 (by decide) (fun c27 => ?_) (fun c27 => ?_)
      · skip
        have rlc27 : v104_1.toInt ≠ (2 : Int) := iv_ne c27
        refine lv_iload_n hx hb dX11_behindUnit_120 rfl (lv_at hl 1 rfl) ?_
        refine lv_iconst (v := 1) hx hb dX11_behindUnit_121 (by decide) ?_
        refine lv_icmp_ne (tgt := 130) hx hb dX11_behindUnit_122 (by decide) (fun c28 => ?_) (fun c28 => ?_)
        · skip
          have rlc28 : v104_1.toInt ≠ (1 : Int) := iv_ne c28
          have ir29 : IV v104_1 2 6 := iv_cutL ir26 (iv_c (by decide) : IV 1 1 1) c28 (by decide)
          have ir29a := ir29.1; have ir29b := ir29.2
          refine lv_aload_n hx hb dX11_behindUnit_130 rfl (lv_at hl 0 rfl) ?_
          refine lv_aload_n hx hb dX11_behindUnit_131 rfl (lv_at hl 0 rfl) ?_
          refine th_get S hK hH inG11 t0 km_0 rfl 6 (by decide) gm_1236 rfl rfl dX11_behindUnit_132 (fun v30 hv30 fv30 => ?_)
          obtain ⟨x31, rfl, ix31⟩ := th_V.int hv30
          have kx31 : x31.toInt = q104 27 := Int.le_antisymm ix31.2 ix31.1
          have bx31 := qkm_27 hq104
          have ix31 : IV x31 0 1600 := iv_w ix31 (qkm_27 hq104)
          refine th_callVp (n := 1) (As := [.int x31]) S hK hH hS (th_A.sub (by decide)) (m_X11_sign l D cT T q104 hT hq104 a0 t0 (x31) (iv_w ix31 (by decide))) gm_1449 gm_1446 gm_1448 gm_48 gm_124 (by decide +kernel) ⟨rfl, rfl, Nat.le_of_ble_eq_true rfl, Nat.le_of_ble_eq_true rfl⟩ t0 km_0 rfl rfl hl.1 rfl (Nat.le_of_ble_eq_true rfl) dX11_behindUnit_135 ⟨Nat.zero_le _, Nat.zero_le _⟩ (fun x32 H locs ix32 ox32 hH hS hF1 => ?_)
          have ox32 : x32.toInt = sg q104 x31.toInt := ox32
          have l1x32 := ix32.1; have l2x32 := ix32.2
          have hsx : x32.toInt = sg q (q 27) := sg_tx ox32 (tx_kp v104_inv3) (by omega) (by omega)
          have h97 := hr5 (by omega); clear hr5
          have hsg : x32.toInt ≠ 126 ∧ (x32.toInt < 97 ∨ 122 < x32.toInt) := ⟨by omega, Or.inl (by omega)⟩
          refine th_callVM (n := 2) (As := [.int v104_1, .int x32]) S hK hH hS (th_A.sub (by decide)) (m_X11_pushE l D cT T q104 hT hq104 a0 t0 (v104_1) (iv_w ir29 (by decide)) (x32) (iv_top _) (show q104 21 ≤ 60 by omega)) gm_1555 gm_1552 gm_1554 gm_66 gm_124 (by decide +kernel) ⟨rfl, rfl, Nat.le_of_ble_eq_true rfl, Nat.le_of_ble_eq_true rfl⟩ t0 km_0 rfl rfl hl.1 rfl (Nat.le_of_ble_eq_true rfl) dX11_behindUnit_138 ⟨Nat.zero_le _, Nat.zero_le _⟩ (fun wq33 q33 H locs hEq33 hH hS hF1 => ?_)
          obtain ⟨rfl, hqq33, g0q33, pq33_0, pq33_1, pq33_2⟩ := hEq33
          show W p l e (rmk 3 65) s m [.ref a0].toArray below meth c H locs 0 0 (MQ below (th_QM D cT T (fun v q2 => ∃ r : Int32, v = some (.int r) ∧ IV r 0 1 ∧ qkm q2 ∧ fr [20, 21, 22, 23, 24, 27, 28, 29, 30, 31, 1000] q q2 ∧ (TS q2) ∧ (q 27 ≤ q2 27) ∧ (DM q q2) ∧ (kp q q2 (q 35)) ∧ (RU q2 r.toInt) ∧ (GD q q2)) [0, 28, 29, 30, 31]) [.ref a0].toArray s 0 0 (th_A T [0, 28, 29, 30, 31])) (F0 m 141 ls [])
          have pq33_0 : q33 = pushq q104 v104_1.toInt x32.toInt := pq33_0
          have pq33_1 : q33 21 = q104 21 + 1 := pq33_1
          have pq33_2 : tx q104 q33 := pq33_2
          have wq33_10 : q33 10 = q104 10 := g0q33 10 (by decide) (Or.inl (by decide))
          have wq33_13 : q33 13 = q104 13 := g0q33 13 (by decide) (Or.inl (by decide))
          have wq33_20 : q33 20 = q104 20 := g0q33 20 (by decide) (Or.inl (by decide))
          have wq33_22 : q33 22 = q104 22 := g0q33 22 (by decide) (Or.inl (by decide))
          have wq33_23 : q33 23 = q104 23 := g0q33 23 (by decide) (Or.inl (by decide))
          have wq33_24 : q33 24 = q104 24 := g0q33 24 (by decide) (Or.inl (by decide))
          have wq33_26 : q33 26 = q104 26 := g0q33 26 (by decide) (Or.inl (by decide))
          have wq33_27 : q33 27 = q104 27 := g0q33 27 (by decide) (Or.inl (by decide))
          have wq33_28 : q33 28 = q104 28 := g0q33 28 (by decide) (Or.inl (by decide))
          have wq33_29 : q33 29 = q104 29 := g0q33 29 (by decide) (Or.inl (by decide))
          have wq33_30 : q33 30 = q104 30 := g0q33 30 (by decide) (Or.inl (by decide))
          have wq33_31 : q33 31 = q104 31 := g0q33 31 (by decide) (Or.inl (by decide))
          have wq33_35 : q33 35 = q104 35 := g0q33 35 (by decide) (Or.inl (by decide))
          have h0q33 : fr [20, 21, 22, 23, 24, 27, 28, 29, 30, 31, 1000] q q33 := fr_tr h0104 g0q33 (by decide)
          have gdq33 : GD q q33 := GD_tr gd104 (GD_eq wq33_30)
          have txq33 : tx q q33 := tx_tr (tx_kp v104_inv3) pq33_2
          refine lv_aload_n hx hb dX11_behindUnit_141 rfl (lv_at hl 0 rfl) ?_
          have le33 := TS_le (TS_mv hp0 txq33 (by omega) (by omega) (by omega) (by omega) (by omega) (fun z => by omega))
          refine th_callVM (n := 0) (As := []) S hK hH hS (th_A.sub (by decide)) (m_X11_goOn l D cT T q33 hT hqq33 a0 t0 (show q33 28 ≤ q33 26 by exact (TS_le (TS_mv hp0 txq33 (by omega) (by omega) (by omega) (by omega) (by omega) (fun z => by omega))).2)) gm_1445 gm_1442 gm_1444 gm_47 gm_124 (by decide +kernel) ⟨rfl, rfl, Nat.le_of_ble_eq_true rfl, Nat.le_of_ble_eq_true rfl⟩ t0 km_0 rfl rfl hl.1 rfl (Nat.le_of_ble_eq_true rfl) dX11_behindUnit_142 ⟨Nat.zero_le _, Nat.zero_le _⟩ (fun wq34 q34 H locs hEq34 hH hS hF1 => ?_)
          obtain ⟨rfl, hqq34, g0q34, pq34_0, pq34_1, pq34_2⟩ := hEq34
          show W p l e (rmk 3 65) s m [.ref a0].toArray below meth c H locs 0 0 (MQ below (th_QM D cT T (fun v q2 => ∃ r : Int32, v = some (.int r) ∧ IV r 0 1 ∧ qkm q2 ∧ fr [20, 21, 22, 23, 24, 27, 28, 29, 30, 31, 1000] q q2 ∧ (TS q2) ∧ (q 27 ≤ q2 27) ∧ (DM q q2) ∧ (kp q q2 (q 35)) ∧ (RU q2 r.toInt) ∧ (GD q q2)) [0, 28, 29, 30, 31]) [.ref a0].toArray s 0 0 (th_A T [0, 28, 29, 30, 31])) (F0 m 145 ls [])
          have pq34_0 : TS q34 := pq34_0
          have pq34_1 : q33 28 ≤ q34 27 := pq34_1
          have pq34_2 : LX q33 q34 := pq34_2
          have wq34_10 : q34 10 = q33 10 := g0q34 10 (by decide) (Or.inl (by decide))
          have wq34_13 : q34 13 = q33 13 := g0q34 13 (by decide) (Or.inl (by decide))
          have wq34_20 : q34 20 = q33 20 := g0q34 20 (by decide) (Or.inl (by decide))
          have wq34_21 : q34 21 = q33 21 := g0q34 21 (by decide) (Or.inl (by decide))
          have wq34_22 : q34 22 = q33 22 := g0q34 22 (by decide) (Or.inl (by decide))
          have wq34_23 : q34 23 = q33 23 := g0q34 23 (by decide) (Or.inl (by decide))
          have wq34_24 : q34 24 = q33 24 := g0q34 24 (by decide) (Or.inl (by decide))
          have wq34_26 : q34 26 = q33 26 := g0q34 26 (by decide) (Or.inl (by decide))
          have wq34_30 : q34 30 = q33 30 := g0q34 30 (by decide) (Or.inl (by decide))
          have wq34_35 : q34 35 = q33 35 := g0q34 35 (by decide) (Or.inl (by decide))
          have h0q34 : fr [20, 21, 22, 23, 24, 27, 28, 29, 30, 31, 1000] q q34 := fr_tr h0q33 g0q34 (by decide)
          have bgq34 : bg q33 q34 := bg_fr bg_rf g0q34 (by decide)
          have gdq34 : GD q q34 := GD_tr gdq33 (GD_eq wq34_30)
          have gbq34 : GD q33 q34 := GD_tr (GD_eq rfl) (GD_eq wq34_30)
          have hRS : RS q34 1 := RS_two (by omega) v104_inv0 (by omega) pq33_0 bgq34 (by omega) (by omega) (by omega) (by omega) (by omega) (by omega) (by omega) (by omega) (by omega) (by omega) hsg
          have hkp : kp q q34 (q 35) := kp_tr v104_inv3 (kp_tr (kp_push pq33_0 (by omega) (by omega)) (kp_bg bgq34))
          have hRU : RU q34 (1 : Int) := RU_1 hRS (by omega) (by decide)
          refine lv_iconst (v := 1) hx hb dX11_behindUnit_145 (by decide) ?_
          exact th_zretM S hK hH hS hr hlocks (iv_w (iv_c (by decide) : IV 1 1 1) (by decide)) ⟨_, rfl, (iv_w (iv_c (by decide) : IV 1 1 1) (by decide)), hqq34, h0q34, (show TS q34 by exact pq34_0), (show q 27 ≤ q34 27 by omega), (show DM q q34 by exact fun _ => by omega), (show kp q q34 (q 35) by exact hkp), (show RU q34 (1 : Int) by exact hRU), (show GD q q34 by exact gdq34)⟩ dX11_behindUnit_146
        · skip
          have rlc28 : v104_1.toInt = (1 : Int) := congrArg Int32.toInt c28
          have ir35 : IV v104_1 1 1 := iv_eL c28 (iv_c (by decide) : IV 1 1 1)
          have ir35a := ir35.1; have ir35b := ir35.2
          refine lv_bipush (v := 124) hx hb dX11_behindUnit_125 (by decide) ?_
          refine lv_goto (tgt := 138) hx hb dX11_behindUnit_127 (by decide) ?_
          have hsg : (124 : Int) ≠ 126 ∧ ((124 : Int) < 97 ∨ 122 < (124 : Int)) := by decide
          refine th_callVM (n := 2) (As := [.int v104_1, .int 124]) S hK hH hS (th_A.sub (by decide)) (m_X11_pushE l D cT T q104 hT hq104 a0 t0 (v104_1) (iv_w ir35 (by decide)) (124) (iv_top _) (show q104 21 ≤ 60 by omega)) gm_1555 gm_1552 gm_1554 gm_66 gm_124 (by decide +kernel) ⟨rfl, rfl, Nat.le_of_ble_eq_true rfl, Nat.le_of_ble_eq_true rfl⟩ t0 km_0 rfl rfl hl.1 rfl (Nat.le_of_ble_eq_true rfl) dX11_behindUnit_138 ⟨Nat.zero_le _, Nat.zero_le _⟩ (fun wq36 q36 H locs hEq36 hH hS hF1 => ?_)
          obtain ⟨rfl, hqq36, g0q36, pq36_0, pq36_1, pq36_2⟩ := hEq36
          show W p l e (rmk 3 65) s m [.ref a0].toArray below meth c H locs 0 0 (MQ below (th_QM D cT T (fun v q2 => ∃ r : Int32, v = some (.int r) ∧ IV r 0 1 ∧ qkm q2 ∧ fr [20, 21, 22, 23, 24, 27, 28, 29, 30, 31, 1000] q q2 ∧ (TS q2) ∧ (q 27 ≤ q2 27) ∧ (DM q q2) ∧ (kp q q2 (q 35)) ∧ (RU q2 r.toInt) ∧ (GD q q2)) [0, 28, 29, 30, 31]) [.ref a0].toArray s 0 0 (th_A T [0, 28, 29, 30, 31])) (F0 m 141 ls [])
          have pq36_0 : q36 = pushq q104 v104_1.toInt (124 : Int) := pq36_0
          have pq36_1 : q36 21 = q104 21 + 1 := pq36_1
          have pq36_2 : tx q104 q36 := pq36_2
          have wq36_10 : q36 10 = q104 10 := g0q36 10 (by decide) (Or.inl (by decide))
          have wq36_13 : q36 13 = q104 13 := g0q36 13 (by decide) (Or.inl (by decide))
          have wq36_20 : q36 20 = q104 20 := g0q36 20 (by decide) (Or.inl (by decide))
          have wq36_22 : q36 22 = q104 22 := g0q36 22 (by decide) (Or.inl (by decide))
          have wq36_23 : q36 23 = q104 23 := g0q36 23 (by decide) (Or.inl (by decide))
          have wq36_24 : q36 24 = q104 24 := g0q36 24 (by decide) (Or.inl (by decide))
          have wq36_26 : q36 26 = q104 26 := g0q36 26 (by decide) (Or.inl (by decide))
          have wq36_27 : q36 27 = q104 27 := g0q36 27 (by decide) (Or.inl (by decide))
          have wq36_28 : q36 28 = q104 28 := g0q36 28 (by decide) (Or.inl (by decide))
          have wq36_29 : q36 29 = q104 29 := g0q36 29 (by decide) (Or.inl (by decide))
          have wq36_30 : q36 30 = q104 30 := g0q36 30 (by decide) (Or.inl (by decide))
          have wq36_31 : q36 31 = q104 31 := g0q36 31 (by decide) (Or.inl (by decide))
          have wq36_35 : q36 35 = q104 35 := g0q36 35 (by decide) (Or.inl (by decide))
          have h0q36 : fr [20, 21, 22, 23, 24, 27, 28, 29, 30, 31, 1000] q q36 := fr_tr h0104 g0q36 (by decide)
          have gdq36 : GD q q36 := GD_tr gd104 (GD_eq wq36_30)
          have txq36 : tx q q36 := tx_tr (tx_kp v104_inv3) pq36_2
          refine lv_aload_n hx hb dX11_behindUnit_141 rfl (lv_at hl 0 rfl) ?_
          have le36 := TS_le (TS_mv hp0 txq36 (by omega) (by omega) (by omega) (by omega) (by omega) (fun z => by omega))
          refine th_callVM (n := 0) (As := []) S hK hH hS (th_A.sub (by decide)) (m_X11_goOn l D cT T q36 hT hqq36 a0 t0 (show q36 28 ≤ q36 26 by exact (TS_le (TS_mv hp0 txq36 (by omega) (by omega) (by omega) (by omega) (by omega) (fun z => by omega))).2)) gm_1445 gm_1442 gm_1444 gm_47 gm_124 (by decide +kernel) ⟨rfl, rfl, Nat.le_of_ble_eq_true rfl, Nat.le_of_ble_eq_true rfl⟩ t0 km_0 rfl rfl hl.1 rfl (Nat.le_of_ble_eq_true rfl) dX11_behindUnit_142 ⟨Nat.zero_le _, Nat.zero_le _⟩ (fun wq37 q37 H locs hEq37 hH hS hF1 => ?_)
          obtain ⟨rfl, hqq37, g0q37, pq37_0, pq37_1, pq37_2⟩ := hEq37
          show W p l e (rmk 3 65) s m [.ref a0].toArray below meth c H locs 0 0 (MQ below (th_QM D cT T (fun v q2 => ∃ r : Int32, v = some (.int r) ∧ IV r 0 1 ∧ qkm q2 ∧ fr [20, 21, 22, 23, 24, 27, 28, 29, 30, 31, 1000] q q2 ∧ (TS q2) ∧ (q 27 ≤ q2 27) ∧ (DM q q2) ∧ (kp q q2 (q 35)) ∧ (RU q2 r.toInt) ∧ (GD q q2)) [0, 28, 29, 30, 31]) [.ref a0].toArray s 0 0 (th_A T [0, 28, 29, 30, 31])) (F0 m 145 ls [])
          have pq37_0 : TS q37 := pq37_0
          have pq37_1 : q36 28 ≤ q37 27 := pq37_1
          have pq37_2 : LX q36 q37 := pq37_2
          have wq37_10 : q37 10 = q36 10 := g0q37 10 (by decide) (Or.inl (by decide))
          have wq37_13 : q37 13 = q36 13 := g0q37 13 (by decide) (Or.inl (by decide))
          have wq37_20 : q37 20 = q36 20 := g0q37 20 (by decide) (Or.inl (by decide))
          have wq37_21 : q37 21 = q36 21 := g0q37 21 (by decide) (Or.inl (by decide))
          have wq37_22 : q37 22 = q36 22 := g0q37 22 (by decide) (Or.inl (by decide))
          have wq37_23 : q37 23 = q36 23 := g0q37 23 (by decide) (Or.inl (by decide))
          have wq37_24 : q37 24 = q36 24 := g0q37 24 (by decide) (Or.inl (by decide))
          have wq37_26 : q37 26 = q36 26 := g0q37 26 (by decide) (Or.inl (by decide))
          have wq37_30 : q37 30 = q36 30 := g0q37 30 (by decide) (Or.inl (by decide))
          have wq37_35 : q37 35 = q36 35 := g0q37 35 (by decide) (Or.inl (by decide))
          have h0q37 : fr [20, 21, 22, 23, 24, 27, 28, 29, 30, 31, 1000] q q37 := fr_tr h0q36 g0q37 (by decide)
          have bgq37 : bg q36 q37 := bg_fr bg_rf g0q37 (by decide)
          have gdq37 : GD q q37 := GD_tr gdq36 (GD_eq wq37_30)
          have gbq37 : GD q36 q37 := GD_tr (GD_eq rfl) (GD_eq wq37_30)
          have hRS : RS q37 1 := RS_two (by omega) v104_inv0 (by omega) pq36_0 bgq37 (by omega) (by omega) (by omega) (by omega) (by omega) (by omega) (by omega) (by omega) (by omega) (by omega) hsg
          have hkp : kp q q37 (q 35) := kp_tr v104_inv3 (kp_tr (kp_push pq36_0 (by omega) (by omega)) (kp_bg bgq37))
          have hRU : RU q37 (1 : Int) := RU_1 hRS (by omega) (by decide)
          refine lv_iconst (v := 1) hx hb dX11_behindUnit_145 (by decide) ?_
          exact th_zretM S hK hH hS hr hlocks (iv_w (iv_c (by decide) : IV 1 1 1) (by decide)) ⟨_, rfl, (iv_w (iv_c (by decide) : IV 1 1 1) (by decide)), hqq37, h0q37, (show TS q37 by exact pq37_0), (show q 27 ≤ q37 27 by omega), (show DM q q37 by exact fun _ => by omega), (show kp q q37 (q 35) by exact hkp), (show RU q37 (1 : Int) by exact hRU), (show GD q q37 by exact gdq37)⟩ dX11_behindUnit_146
      · skip
        have rlc27 : v104_1.toInt = (2 : Int) := congrArg Int32.toInt c27
        have ir38 : IV v104_1 2 2 := iv_eL c27 (iv_c (by decide) : IV 2 2 2)
        have ir38a := ir38.1; have ir38b := ir38.2
        refine lv_bipush (v := 38) hx hb dX11_behindUnit_115 (by decide) ?_
        refine lv_goto (tgt := 138) hx hb dX11_behindUnit_117 (by decide) ?_
        have hsg : (38 : Int) ≠ 126 ∧ ((38 : Int) < 97 ∨ 122 < (38 : Int)) := by decide
        refine th_callVM (n := 2) (As := [.int v104_1, .int 38]) S hK hH hS (th_A.sub (by decide)) (m_X11_pushE l D cT T q104 hT hq104 a0 t0 (v104_1) (iv_w ir38 (by decide)) (38) (iv_top _) (show q104 21 ≤ 60 by omega)) gm_1555 gm_1552 gm_1554 gm_66 gm_124 (by decide +kernel) ⟨rfl, rfl, Nat.le_of_ble_eq_true rfl, Nat.le_of_ble_eq_true rfl⟩ t0 km_0 rfl rfl hl.1 rfl (Nat.le_of_ble_eq_true rfl) dX11_behindUnit_138 ⟨Nat.zero_le _, Nat.zero_le _⟩ (fun wq39 q39 H locs hEq39 hH hS hF1 => ?_)
        obtain ⟨rfl, hqq39, g0q39, pq39_0, pq39_1, pq39_2⟩ := hEq39
        show W p l e (rmk 3 65) s m [.ref a0].toArray below meth c H locs 0 0 (MQ below (th_QM D cT T (fun v q2 => ∃ r : Int32, v = some (.int r) ∧ IV r 0 1 ∧ qkm q2 ∧ fr [20, 21, 22, 23, 24, 27, 28, 29, 30, 31, 1000] q q2 ∧ (TS q2) ∧ (q 27 ≤ q2 27) ∧ (DM q q2) ∧ (kp q q2 (q 35)) ∧ (RU q2 r.toInt) ∧ (GD q q2)) [0, 28, 29, 30, 31]) [.ref a0].toArray s 0 0 (th_A T [0, 28, 29, 30, 31])) (F0 m 141 ls [])
        have pq39_0 : q39 = pushq q104 v104_1.toInt (38 : Int) := pq39_0
        have pq39_1 : q39 21 = q104 21 + 1 := pq39_1
        have pq39_2 : tx q104 q39 := pq39_2
        have wq39_10 : q39 10 = q104 10 := g0q39 10 (by decide) (Or.inl (by decide))
        have wq39_13 : q39 13 = q104 13 := g0q39 13 (by decide) (Or.inl (by decide))
        have wq39_20 : q39 20 = q104 20 := g0q39 20 (by decide) (Or.inl (by decide))
        have wq39_22 : q39 22 = q104 22 := g0q39 22 (by decide) (Or.inl (by decide))
        have wq39_23 : q39 23 = q104 23 := g0q39 23 (by decide) (Or.inl (by decide))
        have wq39_24 : q39 24 = q104 24 := g0q39 24 (by decide) (Or.inl (by decide))
        have wq39_26 : q39 26 = q104 26 := g0q39 26 (by decide) (Or.inl (by decide))
        have wq39_27 : q39 27 = q104 27 := g0q39 27 (by decide) (Or.inl (by decide))
        have wq39_28 : q39 28 = q104 28 := g0q39 28 (by decide) (Or.inl (by decide))
        have wq39_29 : q39 29 = q104 29 := g0q39 29 (by decide) (Or.inl (by decide))
        have wq39_30 : q39 30 = q104 30 := g0q39 30 (by decide) (Or.inl (by decide))
        have wq39_31 : q39 31 = q104 31 := g0q39 31 (by decide) (Or.inl (by decide))
        have wq39_35 : q39 35 = q104 35 := g0q39 35 (by decide) (Or.inl (by decide))
        have h0q39 : fr [20, 21, 22, 23, 24, 27, 28, 29, 30, 31, 1000] q q39 := fr_tr h0104 g0q39 (by decide)
        have gdq39 : GD q q39 := GD_tr gd104 (GD_eq wq39_30)
        have txq39 : tx q q39 := tx_tr (tx_kp v104_inv3) pq39_2
        refine lv_aload_n hx hb dX11_behindUnit_141 rfl (lv_at hl 0 rfl) ?_
        have le39 := TS_le (TS_mv hp0 txq39 (by omega) (by omega) (by omega) (by omega) (by omega) (fun z => by omega))
        refine th_callVM (n := 0) (As := []) S hK hH hS (th_A.sub (by decide)) (m_X11_goOn l D cT T q39 hT hqq39 a0 t0 (show q39 28 ≤ q39 26 by exact (TS_le (TS_mv hp0 txq39 (by omega) (by omega) (by omega) (by omega) (by omega) (fun z => by omega))).2)) gm_1445 gm_1442 gm_1444 gm_47 gm_124 (by decide +kernel) ⟨rfl, rfl, Nat.le_of_ble_eq_true rfl, Nat.le_of_ble_eq_true rfl⟩ t0 km_0 rfl rfl hl.1 rfl (Nat.le_of_ble_eq_true rfl) dX11_behindUnit_142 ⟨Nat.zero_le _, Nat.zero_le _⟩ (fun wq40 q40 H locs hEq40 hH hS hF1 => ?_)
        obtain ⟨rfl, hqq40, g0q40, pq40_0, pq40_1, pq40_2⟩ := hEq40
        show W p l e (rmk 3 65) s m [.ref a0].toArray below meth c H locs 0 0 (MQ below (th_QM D cT T (fun v q2 => ∃ r : Int32, v = some (.int r) ∧ IV r 0 1 ∧ qkm q2 ∧ fr [20, 21, 22, 23, 24, 27, 28, 29, 30, 31, 1000] q q2 ∧ (TS q2) ∧ (q 27 ≤ q2 27) ∧ (DM q q2) ∧ (kp q q2 (q 35)) ∧ (RU q2 r.toInt) ∧ (GD q q2)) [0, 28, 29, 30, 31]) [.ref a0].toArray s 0 0 (th_A T [0, 28, 29, 30, 31])) (F0 m 145 ls [])
        have pq40_0 : TS q40 := pq40_0
        have pq40_1 : q39 28 ≤ q40 27 := pq40_1
        have pq40_2 : LX q39 q40 := pq40_2
        have wq40_10 : q40 10 = q39 10 := g0q40 10 (by decide) (Or.inl (by decide))
        have wq40_13 : q40 13 = q39 13 := g0q40 13 (by decide) (Or.inl (by decide))
        have wq40_20 : q40 20 = q39 20 := g0q40 20 (by decide) (Or.inl (by decide))
        have wq40_21 : q40 21 = q39 21 := g0q40 21 (by decide) (Or.inl (by decide))
        have wq40_22 : q40 22 = q39 22 := g0q40 22 (by decide) (Or.inl (by decide))
        have wq40_23 : q40 23 = q39 23 := g0q40 23 (by decide) (Or.inl (by decide))
        have wq40_24 : q40 24 = q39 24 := g0q40 24 (by decide) (Or.inl (by decide))
        have wq40_26 : q40 26 = q39 26 := g0q40 26 (by decide) (Or.inl (by decide))
        have wq40_30 : q40 30 = q39 30 := g0q40 30 (by decide) (Or.inl (by decide))
        have wq40_35 : q40 35 = q39 35 := g0q40 35 (by decide) (Or.inl (by decide))
        have h0q40 : fr [20, 21, 22, 23, 24, 27, 28, 29, 30, 31, 1000] q q40 := fr_tr h0q39 g0q40 (by decide)
        have bgq40 : bg q39 q40 := bg_fr bg_rf g0q40 (by decide)
        have gdq40 : GD q q40 := GD_tr gdq39 (GD_eq wq40_30)
        have gbq40 : GD q39 q40 := GD_tr (GD_eq rfl) (GD_eq wq40_30)
        have hRS : RS q40 1 := RS_two (by omega) v104_inv0 (by omega) pq39_0 bgq40 (by omega) (by omega) (by omega) (by omega) (by omega) (by omega) (by omega) (by omega) (by omega) (by omega) hsg
        have hkp : kp q q40 (q 35) := kp_tr v104_inv3 (kp_tr (kp_push pq39_0 (by omega) (by omega)) (kp_bg bgq40))
        have hRU : RU q40 (1 : Int) := RU_1 hRS (by omega) (by decide)
        refine lv_iconst (v := 1) hx hb dX11_behindUnit_145 (by decide) ?_
        exact th_zretM S hK hH hS hr hlocks (iv_w (iv_c (by decide) : IV 1 1 1) (by decide)) ⟨_, rfl, (iv_w (iv_c (by decide) : IV 1 1 1) (by decide)), hqq40, h0q40, (show TS q40 by exact pq40_0), (show q 27 ≤ q40 27 by omega), (show DM q q40 by exact fun _ => by omega), (show kp q q40 (q 35) by exact hkp), (show RU q40 (1 : Int) by exact hRU), (show GD q q40 by exact gdq40)⟩ dX11_behindUnit_146

