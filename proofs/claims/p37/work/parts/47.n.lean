theorem dX11_image_0 : decode cX11_image 0 = .ok (.iload_n 1, 1) := by decide +kernel
theorem dX11_image_1 : decode cX11_image 1 = .ok (.iconst 0, 1) := by decide +kernel
theorem dX11_image_2 : decode cX11_image 2 = .ok (.iconst 2, 1) := by decide +kernel
theorem dX11_image_3 : decode cX11_image 3 = .ok (.invokestatic 387, 3) := by decide +kernel
theorem dX11_image_6 : decode cX11_image 6 = .ok (.ifCond .ne 5, 3) := by decide +kernel
theorem dX11_image_9 : decode cX11_image 9 = .ok (.iconst (-1), 1) := by decide +kernel
theorem dX11_image_10 : decode cX11_image 10 = .ok (.ireturn, 1) := by decide +kernel
theorem dX11_image_11 : decode cX11_image 11 = .ok (.iconst 0, 1) := by decide +kernel
theorem dX11_image_12 : decode cX11_image 12 = .ok (.istore_n 2, 1) := by decide +kernel
theorem dX11_image_13 : decode cX11_image 13 = .ok (.iload_n 2, 1) := by decide +kernel
theorem dX11_image_14 : decode cX11_image 14 = .ok (.bipush 43, 2) := by decide +kernel
theorem dX11_image_16 : decode cX11_image 16 = .ok (.if_icmp .ge 26, 3) := by decide +kernel
theorem dX11_image_19 : decode cX11_image 19 = .ok (.aload_n 0, 1) := by decide +kernel
theorem dX11_image_20 : decode cX11_image 20 = .ok (.getfield 143, 3) := by decide +kernel
theorem dX11_image_23 : decode cX11_image 23 = .ok (.bipush 43, 2) := by decide +kernel
theorem dX11_image_25 : decode cX11_image 25 = .ok (.iload_n 1, 1) := by decide +kernel
theorem dX11_image_26 : decode cX11_image 26 = .ok (.imul, 1) := by decide +kernel
theorem dX11_image_27 : decode cX11_image 27 = .ok (.iload_n 2, 1) := by decide +kernel
theorem dX11_image_28 : decode cX11_image 28 = .ok (.iadd, 1) := by decide +kernel
theorem dX11_image_29 : decode cX11_image 29 = .ok (.aload_n 0, 1) := by decide +kernel
theorem dX11_image_30 : decode cX11_image 30 = .ok (.getfield 113, 3) := by decide +kernel
theorem dX11_image_33 : decode cX11_image 33 = .ok (.iload_n 2, 1) := by decide +kernel
theorem dX11_image_34 : decode cX11_image 34 = .ok (.iaload, 1) := by decide +kernel
theorem dX11_image_35 : decode cX11_image 35 = .ok (.iastore, 1) := by decide +kernel
theorem dX11_image_36 : decode cX11_image 36 = .ok (.iinc 2 1, 3) := by decide +kernel
theorem dX11_image_39 : decode cX11_image 39 = .ok (.goto (-26), 3) := by decide +kernel
theorem dX11_image_42 : decode cX11_image 42 = .ok (.aload_n 0, 1) := by decide +kernel
theorem dX11_image_43 : decode cX11_image 43 = .ok (.getfield 146, 3) := by decide +kernel
theorem dX11_image_46 : decode cX11_image 46 = .ok (.iload_n 1, 1) := by decide +kernel
theorem dX11_image_47 : decode cX11_image 47 = .ok (.iconst 1, 1) := by decide +kernel
theorem dX11_image_48 : decode cX11_image 48 = .ok (.bastore, 1) := by decide +kernel
theorem dX11_image_49 : decode cX11_image 49 = .ok (.aload_n 0, 1) := by decide +kernel
theorem dX11_image_50 : decode cX11_image 50 = .ok (.getfield 113, 3) := by decide +kernel
theorem dX11_image_53 : decode cX11_image 53 = .ok (.bipush 40, 2) := by decide +kernel
theorem dX11_image_55 : decode cX11_image 55 = .ok (.iaload, 1) := by decide +kernel
theorem dX11_image_56 : decode cX11_image 56 = .ok (.ireturn, 1) := by decide +kernel
theorem dX11_about_0 : decode cX11_about 0 = .ok (.iload_n 1, 1) := by decide +kernel
theorem dX11_about_1 : decode cX11_about 1 = .ok (.tableswitch 182 0 14 #[75, 80, 90, 100, 110, 118, 126, 134, 142, 147, 152, 157, 162, 167, 177], 75) := by decide +kernel
theorem dX11_about_76 : decode cX11_about 76 = .ok (.aload_n 0, 1) := by decide +kernel
theorem dX11_about_77 : decode cX11_about 77 = .ok (.invokevirtual 384, 3) := by decide +kernel
theorem dX11_about_80 : decode cX11_about 80 = .ok (.ireturn, 1) := by decide +kernel
theorem dX11_about_81 : decode cX11_about 81 = .ok (.aload_n 0, 1) := by decide +kernel
theorem dX11_about_82 : decode cX11_about 82 = .ok (.getfield 20, 3) := by decide +kernel
theorem dX11_about_85 : decode cX11_about 85 = .ok (.aload_n 0, 1) := by decide +kernel
theorem dX11_about_86 : decode cX11_about 86 = .ok (.getfield 273, 3) := by decide +kernel
theorem dX11_about_89 : decode cX11_about 89 = .ok (.iaload, 1) := by decide +kernel
theorem dX11_about_90 : decode cX11_about 90 = .ok (.ireturn, 1) := by decide +kernel
theorem dX11_about_91 : decode cX11_about 91 = .ok (.aload_n 0, 1) := by decide +kernel
theorem dX11_about_92 : decode cX11_about 92 = .ok (.getfield 27, 3) := by decide +kernel
theorem dX11_about_95 : decode cX11_about 95 = .ok (.aload_n 0, 1) := by decide +kernel
theorem dX11_about_96 : decode cX11_about 96 = .ok (.getfield 273, 3) := by decide +kernel
theorem dX11_about_99 : decode cX11_about 99 = .ok (.iaload, 1) := by decide +kernel
theorem dX11_about_100 : decode cX11_about 100 = .ok (.ireturn, 1) := by decide +kernel
theorem dX11_about_101 : decode cX11_about 101 = .ok (.aload_n 0, 1) := by decide +kernel
theorem dX11_about_102 : decode cX11_about 102 = .ok (.getfield 33, 3) := by decide +kernel
theorem dX11_about_105 : decode cX11_about 105 = .ok (.aload_n 0, 1) := by decide +kernel
theorem dX11_about_106 : decode cX11_about 106 = .ok (.getfield 273, 3) := by decide +kernel
theorem dX11_about_109 : decode cX11_about 109 = .ok (.iaload, 1) := by decide +kernel
theorem dX11_about_110 : decode cX11_about 110 = .ok (.ireturn, 1) := by decide +kernel
theorem dX11_about_111 : decode cX11_about 111 = .ok (.aload_n 0, 1) := by decide +kernel
theorem dX11_about_112 : decode cX11_about 112 = .ok (.getfield 113, 3) := by decide +kernel
theorem dX11_about_115 : decode cX11_about 115 = .ok (.bipush 40, 2) := by decide +kernel
theorem dX11_about_117 : decode cX11_about 117 = .ok (.iaload, 1) := by decide +kernel
theorem dX11_about_118 : decode cX11_about 118 = .ok (.ireturn, 1) := by decide +kernel
theorem dX11_about_119 : decode cX11_about 119 = .ok (.aload_n 0, 1) := by decide +kernel
theorem dX11_about_120 : decode cX11_about 120 = .ok (.getfield 113, 3) := by decide +kernel
theorem dX11_about_123 : decode cX11_about 123 = .ok (.bipush 41, 2) := by decide +kernel
theorem dX11_about_125 : decode cX11_about 125 = .ok (.iaload, 1) := by decide +kernel
theorem dX11_about_126 : decode cX11_about 126 = .ok (.ireturn, 1) := by decide +kernel
theorem dX11_about_127 : decode cX11_about 127 = .ok (.aload_n 0, 1) := by decide +kernel
theorem dX11_about_128 : decode cX11_about 128 = .ok (.getfield 113, 3) := by decide +kernel
theorem dX11_about_131 : decode cX11_about 131 = .ok (.bipush 42, 2) := by decide +kernel
theorem dX11_about_133 : decode cX11_about 133 = .ok (.iaload, 1) := by decide +kernel
theorem dX11_about_134 : decode cX11_about 134 = .ok (.ireturn, 1) := by decide +kernel
theorem dX11_about_135 : decode cX11_about 135 = .ok (.aload_n 0, 1) := by decide +kernel
theorem dX11_about_136 : decode cX11_about 136 = .ok (.getfield 113, 3) := by decide +kernel
theorem dX11_about_139 : decode cX11_about 139 = .ok (.bipush 39, 2) := by decide +kernel
theorem dX11_about_141 : decode cX11_about 141 = .ok (.iaload, 1) := by decide +kernel
theorem dX11_about_142 : decode cX11_about 142 = .ok (.ireturn, 1) := by decide +kernel
theorem dX11_about_143 : decode cX11_about 143 = .ok (.aload_n 0, 1) := by decide +kernel
theorem dX11_about_144 : decode cX11_about 144 = .ok (.getfield 395, 3) := by decide +kernel
theorem dX11_about_147 : decode cX11_about 147 = .ok (.ireturn, 1) := by decide +kernel
theorem dX11_about_148 : decode cX11_about 148 = .ok (.aload_n 0, 1) := by decide +kernel
theorem dX11_about_149 : decode cX11_about 149 = .ok (.getfield 398, 3) := by decide +kernel
theorem dX11_about_152 : decode cX11_about 152 = .ok (.ireturn, 1) := by decide +kernel
theorem dX11_about_153 : decode cX11_about 153 = .ok (.aload_n 0, 1) := by decide +kernel
theorem dX11_about_154 : decode cX11_about 154 = .ok (.getfield 401, 3) := by decide +kernel
theorem dX11_about_157 : decode cX11_about 157 = .ok (.ireturn, 1) := by decide +kernel
theorem dX11_about_158 : decode cX11_about 158 = .ok (.aload_n 0, 1) := by decide +kernel
theorem dX11_about_159 : decode cX11_about 159 = .ok (.getfield 501, 3) := by decide +kernel
theorem dX11_about_162 : decode cX11_about 162 = .ok (.ireturn, 1) := by decide +kernel
theorem dX11_about_163 : decode cX11_about 163 = .ok (.aload_n 0, 1) := by decide +kernel
theorem dX11_about_164 : decode cX11_about 164 = .ok (.getfield 270, 3) := by decide +kernel
theorem dX11_about_167 : decode cX11_about 167 = .ok (.ireturn, 1) := by decide +kernel
theorem dX11_about_168 : decode cX11_about 168 = .ok (.aload_n 0, 1) := by decide +kernel
theorem dX11_about_169 : decode cX11_about 169 = .ok (.getfield 36, 3) := by decide +kernel
theorem dX11_about_172 : decode cX11_about 172 = .ok (.aload_n 0, 1) := by decide +kernel
theorem dX11_about_173 : decode cX11_about 173 = .ok (.getfield 273, 3) := by decide +kernel
theorem dX11_about_176 : decode cX11_about 176 = .ok (.iaload, 1) := by decide +kernel
theorem dX11_about_177 : decode cX11_about 177 = .ok (.ireturn, 1) := by decide +kernel
theorem dX11_about_178 : decode cX11_about 178 = .ok (.aload_n 0, 1) := by decide +kernel
theorem dX11_about_179 : decode cX11_about 179 = .ok (.getfield 404, 3) := by decide +kernel
theorem dX11_about_182 : decode cX11_about 182 = .ok (.ireturn, 1) := by decide +kernel
theorem dX11_about_183 : decode cX11_about 183 = .ok (.iconst (-1), 1) := by decide +kernel
theorem dX11_about_184 : decode cX11_about 184 = .ok (.ireturn, 1) := by decide +kernel
theorem dX11_feed_0 : decode cX11_feed 0 = .ok (.aload_n 0, 1) := by decide +kernel
theorem dX11_feed_1 : decode cX11_feed 1 = .ok (.getfield 270, 3) := by decide +kernel
theorem dX11_feed_4 : decode cX11_feed 4 = .ok (.bipush 20, 2) := by decide +kernel
theorem dX11_feed_6 : decode cX11_feed 6 = .ok (.iadd, 1) := by decide +kernel
theorem dX11_feed_7 : decode cX11_feed 7 = .ok (.sipush 1600, 3) := by decide +kernel
theorem dX11_feed_10 : decode cX11_feed 10 = .ok (.if_icmp .le 5, 3) := by decide +kernel
theorem dX11_feed_13 : decode cX11_feed 13 = .ok (.iconst (-1), 1) := by decide +kernel
theorem dX11_feed_14 : decode cX11_feed 14 = .ok (.ireturn, 1) := by decide +kernel
theorem dX11_feed_15 : decode cX11_feed 15 = .ok (.iconst 0, 1) := by decide +kernel
theorem dX11_feed_16 : decode cX11_feed 16 = .ok (.istore 6, 2) := by decide +kernel
theorem dX11_feed_18 : decode cX11_feed 18 = .ok (.iload 6, 2) := by decide +kernel
theorem dX11_feed_20 : decode cX11_feed 20 = .ok (.bipush 20, 2) := by decide +kernel
theorem dX11_feed_22 : decode cX11_feed 22 = .ok (.if_icmp .ge 83, 3) := by decide +kernel
theorem dX11_feed_25 : decode cX11_feed 25 = .ok (.iload 6, 2) := by decide +kernel
theorem dX11_feed_27 : decode cX11_feed 27 = .ok (.iconst 4, 1) := by decide +kernel
theorem dX11_feed_28 : decode cX11_feed 28 = .ok (.if_icmp .ge 7, 3) := by decide +kernel
theorem dX11_feed_31 : decode cX11_feed 31 = .ok (.iload_n 1, 1) := by decide +kernel
theorem dX11_feed_32 : decode cX11_feed 32 = .ok (.goto 39, 3) := by decide +kernel
theorem dX11_feed_35 : decode cX11_feed 35 = .ok (.iload 6, 2) := by decide +kernel
theorem dX11_feed_37 : decode cX11_feed 37 = .ok (.bipush 8, 2) := by decide +kernel
theorem dX11_feed_39 : decode cX11_feed 39 = .ok (.if_icmp .ge 7, 3) := by decide +kernel
theorem dX11_feed_42 : decode cX11_feed 42 = .ok (.iload_n 2, 1) := by decide +kernel
theorem dX11_feed_43 : decode cX11_feed 43 = .ok (.goto 28, 3) := by decide +kernel
theorem dX11_feed_46 : decode cX11_feed 46 = .ok (.iload 6, 2) := by decide +kernel
theorem dX11_feed_48 : decode cX11_feed 48 = .ok (.bipush 12, 2) := by decide +kernel
theorem dX11_feed_50 : decode cX11_feed 50 = .ok (.if_icmp .ge 7, 3) := by decide +kernel
theorem dX11_feed_53 : decode cX11_feed 53 = .ok (.iload_n 3, 1) := by decide +kernel
theorem dX11_feed_54 : decode cX11_feed 54 = .ok (.goto 17, 3) := by decide +kernel
theorem dX11_feed_57 : decode cX11_feed 57 = .ok (.iload 6, 2) := by decide +kernel
theorem dX11_feed_59 : decode cX11_feed 59 = .ok (.bipush 16, 2) := by decide +kernel
theorem dX11_feed_61 : decode cX11_feed 61 = .ok (.if_icmp .ge 8, 3) := by decide +kernel
theorem dX11_feed_64 : decode cX11_feed 64 = .ok (.iload 4, 2) := by decide +kernel
theorem dX11_feed_66 : decode cX11_feed 66 = .ok (.goto 5, 3) := by decide +kernel
theorem dX11_feed_69 : decode cX11_feed 69 = .ok (.iload 5, 2) := by decide +kernel
theorem dX11_feed_71 : decode cX11_feed 71 = .ok (.istore 7, 2) := by decide +kernel
theorem dX11_feed_73 : decode cX11_feed 73 = .ok (.aload_n 0, 1) := by decide +kernel
theorem dX11_feed_74 : decode cX11_feed 74 = .ok (.getfield 7, 3) := by decide +kernel
theorem dX11_feed_77 : decode cX11_feed 77 = .ok (.aload_n 0, 1) := by decide +kernel
theorem dX11_feed_78 : decode cX11_feed 78 = .ok (.getfield 270, 3) := by decide +kernel
theorem dX11_feed_81 : decode cX11_feed 81 = .ok (.iload 6, 2) := by decide +kernel
theorem dX11_feed_83 : decode cX11_feed 83 = .ok (.iadd, 1) := by decide +kernel
theorem dX11_feed_84 : decode cX11_feed 84 = .ok (.iload 7, 2) := by decide +kernel
theorem dX11_feed_86 : decode cX11_feed 86 = .ok (.bipush 24, 2) := by decide +kernel
theorem dX11_feed_88 : decode cX11_feed 88 = .ok (.bipush 8, 2) := by decide +kernel
theorem dX11_feed_90 : decode cX11_feed 90 = .ok (.iload 6, 2) := by decide +kernel
theorem dX11_feed_92 : decode cX11_feed 92 = .ok (.iconst 3, 1) := by decide +kernel
theorem dX11_feed_93 : decode cX11_feed 93 = .ok (.iand, 1) := by decide +kernel
theorem dX11_feed_94 : decode cX11_feed 94 = .ok (.imul, 1) := by decide +kernel
theorem dX11_feed_95 : decode cX11_feed 95 = .ok (.isub, 1) := by decide +kernel
theorem dX11_feed_96 : decode cX11_feed 96 = .ok (.ishr, 1) := by decide +kernel
theorem dX11_feed_97 : decode cX11_feed 97 = .ok (.i2b, 1) := by decide +kernel
theorem dX11_feed_98 : decode cX11_feed 98 = .ok (.bastore, 1) := by decide +kernel
theorem dX11_feed_99 : decode cX11_feed 99 = .ok (.iinc 6 1, 3) := by decide +kernel
theorem dX11_feed_102 : decode cX11_feed 102 = .ok (.goto (-84), 3) := by decide +kernel
theorem dX11_feed_105 : decode cX11_feed 105 = .ok (.aload_n 0, 1) := by decide +kernel
theorem dX11_feed_106 : decode cX11_feed 106 = .ok (.dup, 1) := by decide +kernel
theorem dX11_feed_107 : decode cX11_feed 107 = .ok (.getfield 270, 3) := by decide +kernel
theorem dX11_feed_110 : decode cX11_feed 110 = .ok (.bipush 20, 2) := by decide +kernel
theorem dX11_feed_112 : decode cX11_feed 112 = .ok (.iadd, 1) := by decide +kernel
theorem dX11_feed_113 : decode cX11_feed 113 = .ok (.putfield 270, 3) := by decide +kernel
theorem dX11_feed_116 : decode cX11_feed 116 = .ok (.aload_n 0, 1) := by decide +kernel
theorem dX11_feed_117 : decode cX11_feed 117 = .ok (.getfield 270, 3) := by decide +kernel
theorem dX11_feed_120 : decode cX11_feed 120 = .ok (.ireturn, 1) := by decide +kernel
theorem dX11_end_0 : decode cX11_end 0 = .ok (.iload_n 1, 1) := by decide +kernel
theorem dX11_end_1 : decode cX11_end 1 = .ok (.ifCond .lt 11, 3) := by decide +kernel
theorem dX11_end_4 : decode cX11_end 4 = .ok (.iload_n 1, 1) := by decide +kernel
theorem dX11_end_5 : decode cX11_end 5 = .ok (.aload_n 0, 1) := by decide +kernel
theorem dX11_end_6 : decode cX11_end 6 = .ok (.getfield 270, 3) := by decide +kernel
theorem dX11_end_9 : decode cX11_end 9 = .ok (.if_icmp .le 5, 3) := by decide +kernel
theorem dX11_end_12 : decode cX11_end 12 = .ok (.iconst (-1), 1) := by decide +kernel
theorem dX11_end_13 : decode cX11_end 13 = .ok (.ireturn, 1) := by decide +kernel
theorem dX11_end_14 : decode cX11_end 14 = .ok (.aload_n 0, 1) := by decide +kernel
theorem dX11_end_15 : decode cX11_end 15 = .ok (.iload_n 1, 1) := by decide +kernel
theorem dX11_end_16 : decode cX11_end 16 = .ok (.putfield 270, 3) := by decide +kernel
theorem dX11_end_19 : decode cX11_end 19 = .ok (.iload_n 1, 1) := by decide +kernel
theorem dX11_end_20 : decode cX11_end 20 = .ok (.ireturn, 1) := by decide +kernel
set_option maxRecDepth 100000 in
theorem m_X11_image (l : Launch) (D : va_G) (cT : Nat → ClassId) (T : Nat → Option Nat) (q : Nat → Int) (hq : qkm q) (a0 : Nat) (t0 : T a0 = some 0) (y1 : Int32) (j1 : IV y1 (-2147483648) 2147483647) : th_Met l D cT T (km q) yX11_image cX11_image 3 (some .int) (rmk 1 22) [.ref a0, .int y1] (th_R T (some (.inl (-2147483648, 2147483647)))) [43, 44] := by
  refine th_start (by decide) (Nat.le_of_ble_eq_true rfl) ?_
  intro p e s m below meth c ls S hK hH hr hlocks hnm hl
  have hx := S.1
  have hb := S.2.1
  have hl : lv_has ls 3 [(0, .ref a0), (1, .int y1)] := hl
  have J13 : ∀ (n : Nat) (H : Heap) (locs : List Loc) (ls : Array Slot) (v13_2 : Int32), IV v13_2 0 43 → IV y1 0 2 → th_H D cT T (km q) H → va_S (th_A T [43, 44]) s.heap H locs → lv_has ls 3 [(0, .ref a0), (1, .int y1), (2, .int v13_2)] → (43 + 1 - Int32.toInt v13_2).toNat < n → W p l e (rmk 1 22) s m [.ref a0, .int y1].toArray below meth c H locs 0 0 (MQ below (th_Q D cT T (km q) (th_R T (some (.inl (-2147483648, 2147483647)))) [43, 44]) [.ref a0, .int y1].toArray s 0 0 (th_A T [43, 44])) (F0 m 13 ls []) := by
    intro n
    induction n with
    | zero => intro H locs ls v13_2 iv13_2 f13_y1 hH hS hl hn; exact absurd hn (Nat.not_lt_zero _)
    | succ n ih13 =>
      intro H locs ls v13_2 iv13_2 f13_y1 hH hS hl hn13
      have l1v13_2 := iv13_2.1; have l2v13_2 := iv13_2.2
      refine lv_iload_n hx hb dX11_image_13 rfl (lv_at hl 2 rfl) ?_
      refine lv_bipush (v := 43) hx hb dX11_image_14 (by decide) ?_
      refine lv_icmp_ge (tgt := 42) hx hb dX11_image_16 (by decide) (fun c1 => ?_) (fun c1 => ?_)
      · skip
        have rlc1 : (43 : Int) ≤ v13_2.toInt := iv_le c1
        have ir2 : IV v13_2 43 43 := iv_vR (iv_c (by decide) : IV 43 43 43) iv13_2 (iv_le c1) (by decide)
        have ir2a := ir2.1; have ir2b := ir2.2
        refine lv_aload_n hx hb dX11_image_42 rfl (lv_at hl 0 rfl) ?_
        refine th_get S hK hH inG11 t0 km_0 rfl 68 (by decide) gm_1298 rfl rfl dX11_image_43 (fun v3 hv3 fv3 => ?_)
        obtain ⟨rf4, rfl, trf4⟩ := th_V.ref hv3
        refine lv_iload_n hx hb dX11_image_46 rfl (lv_at hl 1 rfl) ?_
        refine lv_iconst (v := 1) hx hb dX11_image_47 (by decide) ?_
        refine th_zast S hK hH hS ⟨44, by decide, trf4⟩ trf4 km_44 (th_in (hi := 2) f13_y1 (by decide)) (fun z => th_iv (iv_nbool z)) dX11_image_48 (fun H locs hH hS hq1 => ?_)
        refine lv_aload_n hx hb dX11_image_49 rfl (lv_at hl 0 rfl) ?_
        refine th_get S hK hH inG11 t0 km_0 rfl 52 (by decide) gm_1282 rfl rfl dX11_image_50 (fun v5 hv5 fv5 => ?_)
        obtain ⟨rf6, rfl, trf6⟩ := th_V.ref hv5
        refine lv_bipush (v := 40) hx hb dX11_image_53 (by decide) ?_
        refine th_iald S hK hH trf6 km_33 (th_in (hi := 40) (iv_w (iv_c (by decide) : IV 40 40 40) (by decide)) (by decide)) dX11_image_55 (fun v7 hv7 => ?_)
        obtain ⟨x8, rfl, ix8⟩ := th_V.int hv7
        exact th_iret S hK hH hS hr hlocks (th_R.i ix8) dX11_image_56
      · skip
        have rlc1 : v13_2.toInt < (43 : Int) := iv_nle c1
        have ir9 : IV v13_2 0 42 := iv_uL iv13_2 (iv_c (by decide) : IV 43 43 43) (iv_nle c1) (by decide)
        have ir9a := ir9.1; have ir9b := ir9.2
        refine lv_aload_n hx hb dX11_image_19 rfl (lv_at hl 0 rfl) ?_
        refine th_get S hK hH inG11 t0 km_0 rfl 67 (by decide) gm_1297 rfl rfl dX11_image_20 (fun v10 hv10 fv10 => ?_)
        obtain ⟨rf11, rfl, trf11⟩ := th_V.ref hv10
        refine lv_bipush (v := 43) hx hb dX11_image_23 (by decide) ?_
        refine lv_iload_n hx hb dX11_image_25 rfl (lv_at hl 1 rfl) ?_
        refine lv_imul hx hb dX11_image_26 ?_
        refine lv_topi (fun x12 ex12 => ?_)
        have ix12 : IV x12 0 86 := by rw [ex12]; exact iv_mul (iv_c (by decide) : IV 43 43 43) f13_y1 (by decide) (by decide)
        have ux12 : x12.toInt = (43 : Int) * y1.toInt := by rw [ex12]; exact iv_mulE (iv_corner ((iv_c (by decide) : IV 43 43 43)).1 ((iv_c (by decide) : IV 43 43 43)).2 (f13_y1).1 (f13_y1).2 (by decide))
        refine lv_iload_n hx hb dX11_image_27 rfl (lv_at hl 2 rfl) ?_
        refine lv_iadd hx hb dX11_image_28 ?_
        refine lv_topi (fun x13 ex13 => ?_)
        have ix13 : IV x13 0 128 := by rw [ex13]; exact iv_add ix12 ir9 (by decide)
        have ux13 : x13.toInt = x12.toInt + v13_2.toInt := by rw [ex13]; exact iv_addE (by have z1 := (ix12).1; have z2 := (ix12).2; have z3 := (ir9).1; have z4 := (ir9).2; omega)
        refine lv_aload_n hx hb dX11_image_29 rfl (lv_at hl 0 rfl) ?_
        refine th_get S hK hH inG11 t0 km_0 rfl 52 (by decide) gm_1282 rfl rfl dX11_image_30 (fun v14 hv14 fv14 => ?_)
        obtain ⟨rf15, rfl, trf15⟩ := th_V.ref hv14
        refine lv_iload_n hx hb dX11_image_33 rfl (lv_at hl 2 rfl) ?_
        refine th_iald S hK hH trf15 km_33 (th_in (hi := 42) ir9 (by decide)) dX11_image_34 (fun v16 hv16 => ?_)
        obtain ⟨x17, rfl, ix17⟩ := th_V.int hv16
        refine th_iast S hK hH hS ⟨43, by decide, trf11⟩ trf11 km_43 (th_in (hi := 128) ix13 (by decide)) (th_iv ix17) dX11_image_35 (fun H locs hH hS hq1 => ?_)
        have f18 := fv14.kept (hq1 _ (th_ne t0 trf11 (by decide)))
        refine th_iinc S dX11_image_36 hl (k := 2) rfl (by decide) ir9 (by decide) (fun x19 ls ex19 ix19 hl => ?_)
        have hl : lv_has ls 3 [(2, .int x19), (0, .ref a0), (1, .int y1)] := hl
        have ix19 : IV x19 1 43 := ix19
        refine lv_goto (tgt := 13) hx hb dX11_image_39 (by decide) ?_
        exact ih13 H locs ls x19 (iv_w ix19 (by decide)) f13_y1 hH hS (lv_sub hl [1, 2, 0] rfl) (th_up iv13_2 ex19 (by decide) hn13)
  have J0 : ∀ (H : Heap) (locs : List Loc) (ls : Array Slot), th_H D cT T (km q) H → va_S (th_A T [43, 44]) s.heap H locs → lv_has ls 3 [(0, .ref a0), (1, .int y1)] → W p l e (rmk 1 22) s m [.ref a0, .int y1].toArray below meth c H locs 0 0 (MQ below (th_Q D cT T (km q) (th_R T (some (.inl (-2147483648, 2147483647)))) [43, 44]) [.ref a0, .int y1].toArray s 0 0 (th_A T [43, 44])) (F0 m 0 ls []) := by
    intro H locs ls hH hS hl
    refine lv_iload_n hx hb dX11_image_0 rfl (lv_at hl 1 rfl) ?_
    refine lv_iconst (v := 0) hx hb dX11_image_1 (by decide) ?_
    refine lv_iconst (v := 2) hx hb dX11_image_2 (by decide) ?_
    refine th_callSp (n := 3) (As := [.int y1, .int 0, .int 2]) S hK hH hS (th_A.sub (by decide)) (m_X11_isIn l D cT T q hq (y1) j1 (0) (iv_top _) (2) (iv_top _)) gm_1618 gm_1616 gm_1617 gm_124 (by decide +kernel) ⟨rfl, rfl, Nat.le_of_ble_eq_true rfl, Nat.le_of_ble_eq_true rfl⟩ rfl hl.1 rfl (Nat.le_of_ble_eq_true rfl) dX11_image_3 ⟨Nat.zero_le _, Nat.zero_le _⟩ (fun x20 H locs ix20 ox20 hH hS hF1 => ?_)
    obtain ⟨ox20_0, ox20_1⟩ := ox20
    have ox20_0 : x20.toInt ≠ 0 → (0 : Int) ≤ y1.toInt ∧ y1.toInt ≤ (2 : Int) := ox20_0
    have ox20_1 : x20.toInt = 0 → y1.toInt < (0 : Int) ∨ (2 : Int) < y1.toInt := ox20_1
    refine lv_if_ne (tgt := 11) hx hb dX11_image_6 (by decide) (fun c21 => ?_) (fun c21 => ?_)
    · skip
      have rlc21 : x20.toInt ≠ (0 : Int) := iv_ne c21
      have ir22 : IV x20 1 1 := iv_cutL ix20 (iv_c (by decide) : IV 0 0 0) c21 (by decide)
      have ir22a := ir22.1; have ir22b := ir22.2
      have ir23 : IV y1 0 2 := ((fun z => by have z1 := iv_ne z; have z2 : x20.toInt ≠ 0 := z1; have z4 := ((iv_c (by decide) : IV 0 0 0)).1; have z5 := ((iv_c (by decide) : IV 2 2 2)).2; exact ⟨by omega, by omega⟩) : ¬ x20 = 0 → IV y1 0 2) c21
      have ir23a := ir23.1; have ir23b := ir23.2
      refine lv_iconst (v := 0) hx hb dX11_image_11 (by decide) ?_
      refine lv_istore_n (lv' := [(2, .int 0), (0, .ref a0), (1, .int y1)]) hx hb dX11_image_12 rfl hl (by decide) rfl (fun ls hl => ?_)
      exact J13 ((43 + 1 - Int32.toInt 0).toNat + 1) H locs ls 0 (iv_w (iv_c (by decide) : IV 0 0 0) (by decide)) ir23 hH hS (lv_sub hl [1, 2, 0] rfl) (Nat.lt_succ_self _)
    · skip
      have rlc21 : x20.toInt = (0 : Int) := congrArg Int32.toInt c21
      have ir24 : IV x20 0 0 := iv_eL c21 (iv_c (by decide) : IV 0 0 0)
      have ir24a := ir24.1; have ir24b := ir24.2
      refine lv_iconst (v := (-1)) hx hb dX11_image_9 (by decide) ?_
      exact th_iret S hK hH hS hr hlocks (th_R.i (iv_top _)) dX11_image_10
  exact J0 s.heap [] ls hH va_S.rf hl

set_option maxRecDepth 100000 in
theorem m_X11_about (l : Launch) (D : va_G) (cT : Nat → ClassId) (T : Nat → Option Nat) (q : Nat → Int) (hq : qkm q) (a0 : Nat) (t0 : T a0 = some 0) (y1 : Int32) (j1 : IV y1 (-2147483648) 2147483647) : th_Met l D cT T (km q) yX11_about cX11_about 2 (some .int) (rmk 1 20) [.ref a0, .int y1] (th_R T (some (.inl (-2147483648, 2147483647)))) [] := by
  refine th_start (by decide) (Nat.le_of_ble_eq_true rfl) ?_
  intro p e s m below meth c ls S hK hH hr hlocks hnm hl
  have hx := S.1
  have hb := S.2.1
  have hl : lv_has ls 2 [(0, .ref a0), (1, .int y1)] := hl
  have J0 : ∀ (H : Heap) (locs : List Loc) (ls : Array Slot), th_H D cT T (km q) H → va_S (th_A T []) s.heap H locs → lv_has ls 2 [(0, .ref a0), (1, .int y1)] → W p l e (rmk 1 20) s m [.ref a0, .int y1].toArray below meth c H locs 0 0 (MQ below (th_Q D cT T (km q) (th_R T (some (.inl (-2147483648, 2147483647)))) []) [.ref a0, .int y1].toArray s 0 0 (th_A T [])) (F0 m 0 ls []) := by
    intro H locs ls hH hS hl
    refine lv_iload_n hx hb dX11_about_0 rfl (lv_at hl 1 rfl) ?_
    by_cases c1 : y1.toInt < 0 ∨ 14 < y1.toInt
    · refine lv_tableOut (tgt := 183) hx hb dX11_about_1 c1 (by decide) ?_
      refine lv_iconst (v := (-1)) hx hb dX11_about_183 (by decide) ?_
      exact th_iret S hK hH hS hr hlocks (th_R.i (iv_top _)) dX11_about_184
    · rcases (show y1.toInt = 0 ∨ y1.toInt = 1 ∨ y1.toInt = 2 ∨ y1.toInt = 3 ∨ y1.toInt = 4 ∨ y1.toInt = 5 ∨ y1.toInt = 6 ∨ y1.toInt = 7 ∨ y1.toInt = 8 ∨ y1.toInt = 9 ∨ y1.toInt = 10 ∨ y1.toInt = 11 ∨ y1.toInt = 12 ∨ y1.toInt = 13 ∨ y1.toInt = 14 by omega) with c1b | c1b | c1b | c1b | c1b | c1b | c1b | c1b | c1b | c1b | c1b | c1b | c1b | c1b | c1b
      · refine lv_tableIn (tgt := 76) (off := 75) hx hb dX11_about_1 (by omega) (by omega) (by rw [c1b]; rfl) (by decide) ?_
        refine lv_aload_n hx hb dX11_about_76 rfl (lv_at hl 0 rfl) ?_
        refine th_callVp (n := 0) (As := []) S hK hH hS (th_A.sub (by decide)) (m_X11_many l D cT T q hq a0 t0) gm_1229 gm_1226 gm_1228 gm_46 gm_124 (by decide +kernel) ⟨rfl, rfl, Nat.le_of_ble_eq_true rfl, Nat.le_of_ble_eq_true rfl⟩ t0 km_0 rfl rfl hl.1 rfl (Nat.le_of_ble_eq_true rfl) dX11_about_77 ⟨Nat.zero_le _, Nat.zero_le _⟩ (fun x2 H locs ix2 ox2 hH hS hF1 => ?_)
        have ox2 : x2.toInt = q 11 := ox2
        exact th_iret S hK hH hS hr hlocks (th_R.i (iv_top _)) dX11_about_80
      · refine lv_tableIn (tgt := 81) (off := 80) hx hb dX11_about_1 (by omega) (by omega) (by rw [c1b]; rfl) (by decide) ?_
        refine lv_aload_n hx hb dX11_about_81 rfl (lv_at hl 0 rfl) ?_
        refine th_get S hK hH inG11 t0 km_0 rfl 11 (by decide) gm_1241 rfl rfl dX11_about_82 (fun v3 hv3 fv3 => ?_)
        obtain ⟨rf4, rfl, trf4⟩ := th_V.ref hv3
        refine lv_aload_n hx hb dX11_about_85 rfl (lv_at hl 0 rfl) ?_
        refine th_get S hK hH inG11 t0 km_0 rfl 41 (by decide) gm_1271 rfl rfl dX11_about_86 (fun v5 hv5 fv5 => ?_)
        obtain ⟨x6, rfl, ix6⟩ := th_V.int hv5
        have kx6a : q 10 ≤ x6.toInt := ix6.1
        have kx6b : x6.toInt ≤ q 10 := ix6.2
        have ix6 : IV x6 0 1 := iv_w ix6 (qkm_10 hq)
        refine th_iald S hK hH trf4 km_3 (th_in (hi := 1) ix6 (by decide)) dX11_about_89 (fun v7 hv7 => ?_)
        obtain ⟨x8, rfl, ix8⟩ := th_bkA hv7 ix6 (by omega)
        have kx8a : q 16 ≤ x8.toInt := ix8.1
        have kx8b : x8.toInt ≤ q 16 := ix8.2
        have ix8 : IV x8 0 3 := iv_w ix8 (qkm_16 hq)
        exact th_iret S hK hH hS hr hlocks (th_R.i (iv_top _)) dX11_about_90
      · refine lv_tableIn (tgt := 91) (off := 90) hx hb dX11_about_1 (by omega) (by omega) (by rw [c1b]; rfl) (by decide) ?_
        refine lv_aload_n hx hb dX11_about_91 rfl (lv_at hl 0 rfl) ?_
        refine th_get S hK hH inG11 t0 km_0 rfl 13 (by decide) gm_1243 rfl rfl dX11_about_92 (fun v9 hv9 fv9 => ?_)
        obtain ⟨rf10, rfl, trf10⟩ := th_V.ref hv9
        refine lv_aload_n hx hb dX11_about_95 rfl (lv_at hl 0 rfl) ?_
        refine th_get S hK hH inG11 t0 km_0 rfl 41 (by decide) gm_1271 rfl rfl dX11_about_96 (fun v11 hv11 fv11 => ?_)
        obtain ⟨x12, rfl, ix12⟩ := th_V.int hv11
        have kx12a : q 10 ≤ x12.toInt := ix12.1
        have kx12b : x12.toInt ≤ q 10 := ix12.2
        have ix12 : IV x12 0 1 := iv_w ix12 (qkm_10 hq)
        refine th_iald S hK hH trf10 km_5 (th_in (hi := 1) ix12 (by decide)) dX11_about_99 (fun v13 hv13 => ?_)
        obtain ⟨x14, rfl, ix14⟩ := th_bkA hv13 ix12 (by omega)
        have kx14a : q 18 ≤ x14.toInt := ix14.1
        have kx14b : x14.toInt ≤ q 18 := ix14.2
        have ix14 : IV x14 0 8 := iv_w ix14 (qkm_18 hq)
        exact th_iret S hK hH hS hr hlocks (th_R.i (iv_top _)) dX11_about_100
      · refine lv_tableIn (tgt := 101) (off := 100) hx hb dX11_about_1 (by omega) (by omega) (by rw [c1b]; rfl) (by decide) ?_
        refine lv_aload_n hx hb dX11_about_101 rfl (lv_at hl 0 rfl) ?_
        refine th_get S hK hH inG11 t0 km_0 rfl 15 (by decide) gm_1245 rfl rfl dX11_about_102 (fun v15 hv15 fv15 => ?_)
        obtain ⟨rf16, rfl, trf16⟩ := th_V.ref hv15
        refine lv_aload_n hx hb dX11_about_105 rfl (lv_at hl 0 rfl) ?_
        refine th_get S hK hH inG11 t0 km_0 rfl 41 (by decide) gm_1271 rfl rfl dX11_about_106 (fun v17 hv17 fv17 => ?_)
        obtain ⟨x18, rfl, ix18⟩ := th_V.int hv17
        have kx18a : q 10 ≤ x18.toInt := ix18.1
        have kx18b : x18.toInt ≤ q 10 := ix18.2
        have ix18 : IV x18 0 1 := iv_w ix18 (qkm_10 hq)
        refine th_iald S hK hH trf16 km_7 (th_in (hi := 1) ix18 (by decide)) dX11_about_109 (fun v19 hv19 => ?_)
        obtain ⟨x20, rfl, ix20⟩ := th_V.int hv19
        exact th_iret S hK hH hS hr hlocks (th_R.i ix20) dX11_about_110
      · refine lv_tableIn (tgt := 111) (off := 110) hx hb dX11_about_1 (by omega) (by omega) (by rw [c1b]; rfl) (by decide) ?_
        refine lv_aload_n hx hb dX11_about_111 rfl (lv_at hl 0 rfl) ?_
        refine th_get S hK hH inG11 t0 km_0 rfl 52 (by decide) gm_1282 rfl rfl dX11_about_112 (fun v21 hv21 fv21 => ?_)
        obtain ⟨rf22, rfl, trf22⟩ := th_V.ref hv21
        refine lv_bipush (v := 40) hx hb dX11_about_115 (by decide) ?_
        refine th_iald S hK hH trf22 km_33 (th_in (hi := 40) (iv_w (iv_c (by decide) : IV 40 40 40) (by decide)) (by decide)) dX11_about_117 (fun v23 hv23 => ?_)
        obtain ⟨x24, rfl, ix24⟩ := th_V.int hv23
        exact th_iret S hK hH hS hr hlocks (th_R.i ix24) dX11_about_118
      · refine lv_tableIn (tgt := 119) (off := 118) hx hb dX11_about_1 (by omega) (by omega) (by rw [c1b]; rfl) (by decide) ?_
        refine lv_aload_n hx hb dX11_about_119 rfl (lv_at hl 0 rfl) ?_
        refine th_get S hK hH inG11 t0 km_0 rfl 52 (by decide) gm_1282 rfl rfl dX11_about_120 (fun v25 hv25 fv25 => ?_)
        obtain ⟨rf26, rfl, trf26⟩ := th_V.ref hv25
        refine lv_bipush (v := 41) hx hb dX11_about_123 (by decide) ?_
        refine th_iald S hK hH trf26 km_33 (th_in (hi := 41) (iv_w (iv_c (by decide) : IV 41 41 41) (by decide)) (by decide)) dX11_about_125 (fun v27 hv27 => ?_)
        obtain ⟨x28, rfl, ix28⟩ := th_V.int hv27
        exact th_iret S hK hH hS hr hlocks (th_R.i ix28) dX11_about_126
      · refine lv_tableIn (tgt := 127) (off := 126) hx hb dX11_about_1 (by omega) (by omega) (by rw [c1b]; rfl) (by decide) ?_
        refine lv_aload_n hx hb dX11_about_127 rfl (lv_at hl 0 rfl) ?_
        refine th_get S hK hH inG11 t0 km_0 rfl 52 (by decide) gm_1282 rfl rfl dX11_about_128 (fun v29 hv29 fv29 => ?_)
        obtain ⟨rf30, rfl, trf30⟩ := th_V.ref hv29
        refine lv_bipush (v := 42) hx hb dX11_about_131 (by decide) ?_
        refine th_iald S hK hH trf30 km_33 (th_in (hi := 42) (iv_w (iv_c (by decide) : IV 42 42 42) (by decide)) (by decide)) dX11_about_133 (fun v31 hv31 => ?_)
        obtain ⟨x32, rfl, ix32⟩ := th_V.int hv31
        exact th_iret S hK hH hS hr hlocks (th_R.i ix32) dX11_about_134
      · refine lv_tableIn (tgt := 135) (off := 134) hx hb dX11_about_1 (by omega) (by omega) (by rw [c1b]; rfl) (by decide) ?_
        refine lv_aload_n hx hb dX11_about_135 rfl (lv_at hl 0 rfl) ?_
        refine th_get S hK hH inG11 t0 km_0 rfl 52 (by decide) gm_1282 rfl rfl dX11_about_136 (fun v33 hv33 fv33 => ?_)
        obtain ⟨rf34, rfl, trf34⟩ := th_V.ref hv33
        refine lv_bipush (v := 39) hx hb dX11_about_139 (by decide) ?_
        refine th_iald S hK hH trf34 km_33 (th_in (hi := 39) (iv_w (iv_c (by decide) : IV 39 39 39) (by decide)) (by decide)) dX11_about_141 (fun v35 hv35 => ?_)
        obtain ⟨x36, rfl, ix36⟩ := th_V.int hv35
        exact th_iret S hK hH hS hr hlocks (th_R.i ix36) dX11_about_142
      · refine lv_tableIn (tgt := 143) (off := 142) hx hb dX11_about_1 (by omega) (by omega) (by rw [c1b]; rfl) (by decide) ?_
        refine lv_aload_n hx hb dX11_about_143 rfl (lv_at hl 0 rfl) ?_
        refine th_get S hK hH inG11 t0 km_0 rfl 54 (by decide) gm_1284 rfl rfl dX11_about_144 (fun v37 hv37 fv37 => ?_)
        obtain ⟨x38, rfl, ix38⟩ := th_V.int hv37
        have kx38a : q 7 ≤ x38.toInt := ix38.1
        have kx38b : x38.toInt ≤ q 7 := ix38.2
        have ix38 : IV x38 0 40 := iv_w ix38 (qkm_7 hq)
        exact th_iret S hK hH hS hr hlocks (th_R.i (iv_top _)) dX11_about_147
      · refine lv_tableIn (tgt := 148) (off := 147) hx hb dX11_about_1 (by omega) (by omega) (by rw [c1b]; rfl) (by decide) ?_
        refine lv_aload_n hx hb dX11_about_148 rfl (lv_at hl 0 rfl) ?_
        refine th_get S hK hH inG11 t0 km_0 rfl 55 (by decide) gm_1285 rfl rfl dX11_about_149 (fun v39 hv39 fv39 => ?_)
        obtain ⟨x40, rfl, ix40⟩ := th_V.int hv39
        have kx40a : q 8 ≤ x40.toInt := ix40.1
        have kx40b : x40.toInt ≤ q 8 := ix40.2
        have ix40 : IV x40 0 40 := iv_w ix40 (qkm_8 hq)
        exact th_iret S hK hH hS hr hlocks (th_R.i (iv_top _)) dX11_about_152
      · refine lv_tableIn (tgt := 153) (off := 152) hx hb dX11_about_1 (by omega) (by omega) (by rw [c1b]; rfl) (by decide) ?_
        refine lv_aload_n hx hb dX11_about_153 rfl (lv_at hl 0 rfl) ?_
        refine th_get S hK hH inG11 t0 km_0 rfl 65 (by decide) gm_1295 rfl rfl dX11_about_154 (fun v41 hv41 fv41 => ?_)
        obtain ⟨x42, rfl, ix42⟩ := th_V.int hv41
        exact th_iret S hK hH hS hr hlocks (th_R.i (iv_top _)) dX11_about_157
      · refine lv_tableIn (tgt := 158) (off := 157) hx hb dX11_about_1 (by omega) (by omega) (by rw [c1b]; rfl) (by decide) ?_
        refine lv_aload_n hx hb dX11_about_158 rfl (lv_at hl 0 rfl) ?_
        refine th_get S hK hH inG11 t0 km_0 rfl 66 (by decide) gm_1296 rfl rfl dX11_about_159 (fun v43 hv43 fv43 => ?_)
        obtain ⟨x44, rfl, ix44⟩ := th_V.int hv43
        have kx44a : q 9 ≤ x44.toInt := ix44.1
        have kx44b : x44.toInt ≤ q 9 := ix44.2
        have ix44 : IV x44 0 100000 := iv_w ix44 (qkm_9 hq)
        exact th_iret S hK hH hS hr hlocks (th_R.i (iv_top _)) dX11_about_162
      · refine lv_tableIn (tgt := 163) (off := 162) hx hb dX11_about_1 (by omega) (by omega) (by rw [c1b]; rfl) (by decide) ?_
        refine lv_aload_n hx hb dX11_about_163 rfl (lv_at hl 0 rfl) ?_
        refine th_get S hK hH inG11 t0 km_0 rfl 2 (by decide) gm_1232 rfl rfl dX11_about_164 (fun v45 hv45 fv45 => ?_)
        obtain ⟨x46, rfl, ix46⟩ := th_V.int hv45
        exact th_iret S hK hH hS hr hlocks (th_R.i (iv_top _)) dX11_about_167
      · refine lv_tableIn (tgt := 168) (off := 167) hx hb dX11_about_1 (by omega) (by omega) (by rw [c1b]; rfl) (by decide) ?_
        refine lv_aload_n hx hb dX11_about_168 rfl (lv_at hl 0 rfl) ?_
        refine th_get S hK hH inG11 t0 km_0 rfl 16 (by decide) gm_1246 rfl rfl dX11_about_169 (fun v47 hv47 fv47 => ?_)
        obtain ⟨rf48, rfl, trf48⟩ := th_V.ref hv47
        refine lv_aload_n hx hb dX11_about_172 rfl (lv_at hl 0 rfl) ?_
        refine th_get S hK hH inG11 t0 km_0 rfl 41 (by decide) gm_1271 rfl rfl dX11_about_173 (fun v49 hv49 fv49 => ?_)
        obtain ⟨x50, rfl, ix50⟩ := th_V.int hv49
        have kx50a : q 10 ≤ x50.toInt := ix50.1
        have kx50b : x50.toInt ≤ q 10 := ix50.2
        have ix50 : IV x50 0 1 := iv_w ix50 (qkm_10 hq)
        refine th_iald S hK hH trf48 km_8 (th_in (hi := 1) ix50 (by decide)) dX11_about_176 (fun v51 hv51 => ?_)
        obtain ⟨x52, rfl, ix52⟩ := th_bkA hv51 ix50 (by omega)
        have kx52a : q 25 ≤ x52.toInt := ix52.1
        have kx52b : x52.toInt ≤ q 25 := ix52.2
        have ix52 : IV x52 0 90 := iv_w ix52 (qkm_25 hq)
        exact th_iret S hK hH hS hr hlocks (th_R.i (iv_top _)) dX11_about_177
      · refine lv_tableIn (tgt := 178) (off := 177) hx hb dX11_about_1 (by omega) (by omega) (by rw [c1b]; rfl) (by decide) ?_
        refine lv_aload_n hx hb dX11_about_178 rfl (lv_at hl 0 rfl) ?_
        refine th_get S hK hH inG11 t0 km_0 rfl 59 (by decide) gm_1289 rfl rfl dX11_about_179 (fun v53 hv53 fv53 => ?_)
        obtain ⟨x54, rfl, ix54⟩ := th_V.int hv53
        exact th_iret S hK hH hS hr hlocks (th_R.i (iv_top _)) dX11_about_182
  exact J0 s.heap [] ls hH va_S.rf hl

set_option maxRecDepth 100000 in
theorem m_X11_feed (l : Launch) (D : va_G) (cT : Nat → ClassId) (T : Nat → Option Nat) (q : Nat → Int) (hq : qkm q) (a0 : Nat) (t0 : T a0 = some 0) (y1 : Int32) (j1 : IV y1 (-2147483648) 2147483647) (y2 : Int32) (j2 : IV y2 (-2147483648) 2147483647) (y3 : Int32) (j3 : IV y3 (-2147483648) 2147483647) (y4 : Int32) (j4 : IV y4 (-2147483648) 2147483647) (y5 : Int32) (j5 : IV y5 (-2147483648) 2147483647) : th_Met l D cT T (km q) yX11_feed cX11_feed 8 (some .int) (rmk 0 0) [.ref a0, .int y1, .int y2, .int y3, .int y4, .int y5] (th_R T (some (.inl (-1, 1600)))) [0, 1] := by
  refine th_start (by decide) (Nat.le_of_ble_eq_true rfl) ?_
  intro p e s m below meth c ls S hK hH hr hlocks hnm hl
  have hx := S.1
  have hb := S.2.1
  have hl : lv_has ls 8 [(0, .ref a0), (1, .int y1), (2, .int y2), (3, .int y3), (4, .int y4), (5, .int y5)] := hl
  have J18 : ∀ (n : Nat) (H : Heap) (locs : List Loc) (ls : Array Slot) (v18_6 : Int32) (u18_a0_2 : Int32), IV v18_6 0 20 → IV u18_a0_2 0 1580 → th_fa D H a0 11 2 (.int u18_a0_2) → th_H D cT T (km q) H → va_S (th_A T [0, 1]) s.heap H locs → lv_has ls 8 [(0, .ref a0), (1, .int y1), (2, .int y2), (3, .int y3), (4, .int y4), (5, .int y5), (6, .int v18_6)] → (20 + 1 - Int32.toInt v18_6).toNat < n → W p l e (rmk 0 0) s m [.ref a0, .int y1, .int y2, .int y3, .int y4, .int y5].toArray below meth c H locs 0 0 (MQ below (th_Q D cT T (km q) (th_R T (some (.inl (-1, 1600)))) [0, 1]) [.ref a0, .int y1, .int y2, .int y3, .int y4, .int y5].toArray s 0 0 (th_A T [0, 1])) (F0 m 18 ls []) := by
    intro n
    induction n with
    | zero => intro H locs ls v18_6 u18_a0_2 iv18_6 iu18_a0_2 gu18_a0_2 hH hS hl hn; exact absurd hn (Nat.not_lt_zero _)
    | succ n ih18 =>
      intro H locs ls v18_6 u18_a0_2 iv18_6 iu18_a0_2 gu18_a0_2 hH hS hl hn18
      have J71 : ∀ (H : Heap) (locs : List Loc) (ls : Array Slot) (w71_0 : Int32) (u71_a0_2 : Int32), IV w71_0 (-2147483648) 2147483647 → IV u71_a0_2 0 1580 → th_fa D H a0 11 2 (.int u71_a0_2) → IV v18_6 0 19 → th_H D cT T (km q) H → va_S (th_A T [0, 1]) s.heap H locs → lv_has ls 8 [(0, .ref a0), (1, .int y1), (2, .int y2), (3, .int y3), (4, .int y4), (5, .int y5), (6, .int v18_6)] → W p l e (rmk 0 0) s m [.ref a0, .int y1, .int y2, .int y3, .int y4, .int y5].toArray below meth c H locs 0 0 (MQ below (th_Q D cT T (km q) (th_R T (some (.inl (-1, 1600)))) [0, 1]) [.ref a0, .int y1, .int y2, .int y3, .int y4, .int y5].toArray s 0 0 (th_A T [0, 1])) (F0 m 71 ls [.int w71_0]) := by
        intro H locs ls w71_0 u71_a0_2 iw71_0 iu71_a0_2 gu71_a0_2 f71_v18_6 hH hS hl
        refine lv_istore (lv' := [(7, .int w71_0), (0, .ref a0), (1, .int y1), (2, .int y2), (3, .int y3), (4, .int y4), (5, .int y5), (6, .int v18_6)]) hx hb dX11_feed_71 hl (by decide) rfl (fun ls hl => ?_)
        refine lv_aload_n hx hb dX11_feed_73 rfl (lv_at hl 1 rfl) ?_
        refine th_get S hK hH inG11 t0 km_0 rfl 0 (by decide) gm_1230 rfl rfl dX11_feed_74 (fun v1 hv1 fv1 => ?_)
        obtain ⟨rf2, rfl, trf2⟩ := th_V.ref hv1
        refine lv_aload_n hx hb dX11_feed_77 rfl (lv_at hl 1 rfl) ?_
        refine th_getK S hK gu71_a0_2 inG11 rfl (by decide) gm_1232 rfl dX11_feed_78 ?_
        refine lv_iload hx hb dX11_feed_81 (lv_at hl 7 rfl) ?_
        refine lv_iadd hx hb dX11_feed_83 ?_
        refine lv_topi (fun x4 ex4 => ?_)
        have ix4 : IV x4 0 1599 := by rw [ex4]; exact iv_add iu71_a0_2 f71_v18_6 (by decide)
        have ux4 : x4.toInt = u71_a0_2.toInt + v18_6.toInt := by rw [ex4]; exact iv_addE (by have z1 := (iu71_a0_2).1; have z2 := (iu71_a0_2).2; have z3 := (f71_v18_6).1; have z4 := (f71_v18_6).2; omega)
        refine lv_iload hx hb dX11_feed_84 (lv_at hl 0 rfl) ?_
        refine lv_bipush (v := 24) hx hb dX11_feed_86 (by decide) ?_
        refine lv_bipush (v := 8) hx hb dX11_feed_88 (by decide) ?_
        refine lv_iload hx hb dX11_feed_90 (lv_at hl 7 rfl) ?_
        refine lv_iconst (v := 3) hx hb dX11_feed_92 (by decide) ?_
        refine lv_iand hx hb dX11_feed_93 ?_
        refine lv_topi (fun x5 ex5 => ?_)
        have ix5 : IV x5 0 3 := by rw [ex5]; exact iv_and (h2 := 3) (iv_w (iv_c (by decide) : IV 3 3 3) (by decide)) (by decide)
        refine lv_imul hx hb dX11_feed_94 ?_
        refine lv_topi (fun x6 ex6 => ?_)
        have ix6 : IV x6 0 24 := by rw [ex6]; exact iv_mul (iv_c (by decide) : IV 8 8 8) ix5 (by decide) (by decide)
        have ux6 : x6.toInt = (8 : Int) * x5.toInt := by rw [ex6]; exact iv_mulE (iv_corner ((iv_c (by decide) : IV 8 8 8)).1 ((iv_c (by decide) : IV 8 8 8)).2 (ix5).1 (ix5).2 (by decide))
        refine lv_isub hx hb dX11_feed_95 ?_
        refine lv_topi (fun x7 ex7 => ?_)
        have ix7 : IV x7 0 24 := by rw [ex7]; exact iv_sub (iv_c (by decide) : IV 24 24 24) ix6 (by decide)
        have ux7 : x7.toInt = (24 : Int) - x6.toInt := by rw [ex7]; exact iv_subE (by have z1 := ((iv_c (by decide) : IV 24 24 24)).1; have z2 := ((iv_c (by decide) : IV 24 24 24)).2; have z3 := (ix6).1; have z4 := (ix6).2; omega)
        refine lv_ishr hx hb dX11_feed_96 ?_
        refine lv_topi (fun x8 ex8 => ?_)
        have ix8 := iv_top x8
        refine lv_i2b (v := _) hx hb dX11_feed_97 rfl ?_
        refine lv_topi (fun x9 ex9 => ?_)
        have ix9 : IV x9 (-128) 127 := by rw [ex9]; exact iv_byte _
        refine th_bast S hK hH hS ⟨1, by decide, trf2⟩ trf2 km_1 (th_in (hi := 1599) ix4 (by decide)) (fun z => th_iv (iv_nbyte z)) dX11_feed_98 (fun H locs hH hS hq1 => ?_)
        have f10 := gu71_a0_2.kept (hq1 _ (th_ne t0 trf2 (by decide)))
        refine th_iinc S dX11_feed_99 hl (k := 7) rfl (by decide) f71_v18_6 (by decide) (fun x11 ls ex11 ix11 hl => ?_)
        have hl : lv_has ls 8 [(6, .int x11), (7, .int w71_0), (0, .ref a0), (1, .int y1), (2, .int y2), (3, .int y3), (4, .int y4), (5, .int y5)] := hl
        have ix11 : IV x11 1 20 := ix11
        refine lv_goto (tgt := 18) hx hb dX11_feed_102 (by decide) ?_
        exact ih18 H locs ls x11 u71_a0_2 (iv_w ix11 (by decide)) iu71_a0_2 f10 hH hS (lv_sub hl [2, 3, 4, 5, 6, 7, 0] rfl) (th_up iv18_6 ex11 (by decide) hn18)
      have l1v18_6 := iv18_6.1; have l2v18_6 := iv18_6.2
      refine lv_iload hx hb dX11_feed_18 (lv_at hl 6 rfl) ?_
      refine lv_bipush (v := 20) hx hb dX11_feed_20 (by decide) ?_
      refine lv_icmp_ge (tgt := 105) hx hb dX11_feed_22 (by decide) (fun c12 => ?_) (fun c12 => ?_)
      · skip
        have rlc12 : (20 : Int) ≤ v18_6.toInt := iv_le c12
        have ir13 : IV v18_6 20 20 := iv_vR (iv_c (by decide) : IV 20 20 20) iv18_6 (iv_le c12) (by decide)
        have ir13a := ir13.1; have ir13b := ir13.2
        refine lv_aload_n hx hb dX11_feed_105 rfl (lv_at hl 0 rfl) ?_
        refine lv_dup hx hb dX11_feed_106 rfl ?_
        refine th_getK S hK gu18_a0_2 inG11 rfl (by decide) gm_1232 rfl dX11_feed_107 ?_
        refine lv_bipush (v := 20) hx hb dX11_feed_110 (by decide) ?_
        refine lv_iadd hx hb dX11_feed_112 ?_
        refine lv_topi (fun x15 ex15 => ?_)
        have ix15 : IV x15 20 1600 := by rw [ex15]; exact iv_add iu18_a0_2 (iv_c (by decide) : IV 20 20 20) (by decide)
        have ux15 : x15.toInt = u18_a0_2.toInt + (20 : Int) := by rw [ex15]; exact iv_addE (by have z1 := (iu18_a0_2).1; have z2 := (iu18_a0_2).2; have z3 := ((iv_c (by decide) : IV 20 20 20)).1; have z4 := ((iv_c (by decide) : IV 20 20 20)).2; omega)
        refine th_put S hK hH hS ⟨0, by decide, t0⟩ inG11 tyX11 tyX11_ok nmX11 t0 km_0 rfl 2 (by decide) gm_1232 rfl rfl rfl rfl (th_iv (iv_w ix15 (by decide))) (fun vs h => nmR_set h.2.2 (by decide) rfl) (ty := .int) (by decide +kernel) rfl rfl dX11_feed_113 (fun H locs hH hS hq1 hp1 => ?_)
        have f16 := hp1.1
        refine lv_aload_n hx hb dX11_feed_116 rfl (lv_at hl 0 rfl) ?_
        refine th_getK S hK f16 inG11 rfl (by decide) gm_1232 rfl dX11_feed_117 ?_
        exact th_iret S hK hH hS hr hlocks (th_R.i (iv_w ix15 (by decide))) dX11_feed_120
      · skip
        have rlc12 : v18_6.toInt < (20 : Int) := iv_nle c12
        have ir18 : IV v18_6 0 19 := iv_uL iv18_6 (iv_c (by decide) : IV 20 20 20) (iv_nle c12) (by decide)
        have ir18a := ir18.1; have ir18b := ir18.2
        refine lv_iload hx hb dX11_feed_25 (lv_at hl 6 rfl) ?_
        refine lv_iconst (v := 4) hx hb dX11_feed_27 (by decide) ?_
        refine lv_icmp_ge (tgt := 35) hx hb dX11_feed_28 (by decide) (fun c19 => ?_) (fun c19 => ?_)
        · skip
          have rlc19 : (4 : Int) ≤ v18_6.toInt := iv_le c19
          have ir20 : IV v18_6 4 19 := iv_vR (iv_c (by decide) : IV 4 4 4) ir18 (iv_le c19) (by decide)
          have ir20a := ir20.1; have ir20b := ir20.2
          refine lv_iload hx hb dX11_feed_35 (lv_at hl 6 rfl) ?_
          refine lv_bipush (v := 8) hx hb dX11_feed_37 (by decide) ?_
          refine lv_icmp_ge (tgt := 46) hx hb dX11_feed_39 (by decide) (fun c21 => ?_) (fun c21 => ?_)
          · skip
            have rlc21 : (8 : Int) ≤ v18_6.toInt := iv_le c21
            have ir22 : IV v18_6 8 19 := iv_vR (iv_c (by decide) : IV 8 8 8) ir20 (iv_le c21) (by decide)
            have ir22a := ir22.1; have ir22b := ir22.2
            refine lv_iload hx hb dX11_feed_46 (lv_at hl 6 rfl) ?_
            refine lv_bipush (v := 12) hx hb dX11_feed_48 (by decide) ?_
            refine lv_icmp_ge (tgt := 57) hx hb dX11_feed_50 (by decide) (fun c23 => ?_) (fun c23 => ?_)
            · skip
              have rlc23 : (12 : Int) ≤ v18_6.toInt := iv_le c23
              have ir24 : IV v18_6 12 19 := iv_vR (iv_c (by decide) : IV 12 12 12) ir22 (iv_le c23) (by decide)
              have ir24a := ir24.1; have ir24b := ir24.2
              refine lv_iload hx hb dX11_feed_57 (lv_at hl 6 rfl) ?_
              refine lv_bipush (v := 16) hx hb dX11_feed_59 (by decide) ?_
              refine lv_icmp_ge (tgt := 69) hx hb dX11_feed_61 (by decide) (fun c25 => ?_) (fun c25 => ?_)
              · skip
                have rlc25 : (16 : Int) ≤ v18_6.toInt := iv_le c25
                have ir26 : IV v18_6 16 19 := iv_vR (iv_c (by decide) : IV 16 16 16) ir24 (iv_le c25) (by decide)
                have ir26a := ir26.1; have ir26b := ir26.2
                refine lv_iload hx hb dX11_feed_69 (lv_at hl 5 rfl) ?_
                exact J71 H locs ls y5 u18_a0_2 j5 iu18_a0_2 gu18_a0_2 (iv_w ir26 (by decide)) hH hS (lv_sub hl [0, 1, 2, 3, 4, 5, 6] rfl)
              · skip
                have rlc25 : v18_6.toInt < (16 : Int) := iv_nle c25
                have ir27 : IV v18_6 12 15 := iv_uL ir24 (iv_c (by decide) : IV 16 16 16) (iv_nle c25) (by decide)
                have ir27a := ir27.1; have ir27b := ir27.2
                refine lv_iload hx hb dX11_feed_64 (lv_at hl 4 rfl) ?_
                refine lv_goto (tgt := 71) hx hb dX11_feed_66 (by decide) ?_
                exact J71 H locs ls y4 u18_a0_2 j4 iu18_a0_2 gu18_a0_2 (iv_w ir27 (by decide)) hH hS (lv_sub hl [0, 1, 2, 3, 4, 5, 6] rfl)
            · skip
              have rlc23 : v18_6.toInt < (12 : Int) := iv_nle c23
              have ir28 : IV v18_6 8 11 := iv_uL ir22 (iv_c (by decide) : IV 12 12 12) (iv_nle c23) (by decide)
              have ir28a := ir28.1; have ir28b := ir28.2
              refine lv_iload_n hx hb dX11_feed_53 rfl (lv_at hl 3 rfl) ?_
              refine lv_goto (tgt := 71) hx hb dX11_feed_54 (by decide) ?_
              exact J71 H locs ls y3 u18_a0_2 j3 iu18_a0_2 gu18_a0_2 (iv_w ir28 (by decide)) hH hS (lv_sub hl [0, 1, 2, 3, 4, 5, 6] rfl)
          · skip
            have rlc21 : v18_6.toInt < (8 : Int) := iv_nle c21
            have ir29 : IV v18_6 4 7 := iv_uL ir20 (iv_c (by decide) : IV 8 8 8) (iv_nle c21) (by decide)
            have ir29a := ir29.1; have ir29b := ir29.2
            refine lv_iload_n hx hb dX11_feed_42 rfl (lv_at hl 2 rfl) ?_
            refine lv_goto (tgt := 71) hx hb dX11_feed_43 (by decide) ?_
            exact J71 H locs ls y2 u18_a0_2 j2 iu18_a0_2 gu18_a0_2 (iv_w ir29 (by decide)) hH hS (lv_sub hl [0, 1, 2, 3, 4, 5, 6] rfl)
        · skip
          have rlc19 : v18_6.toInt < (4 : Int) := iv_nle c19
          have ir30 : IV v18_6 0 3 := iv_uL ir18 (iv_c (by decide) : IV 4 4 4) (iv_nle c19) (by decide)
          have ir30a := ir30.1; have ir30b := ir30.2
          refine lv_iload_n hx hb dX11_feed_31 rfl (lv_at hl 1 rfl) ?_
          refine lv_goto (tgt := 71) hx hb dX11_feed_32 (by decide) ?_
          exact J71 H locs ls y1 u18_a0_2 j1 iu18_a0_2 gu18_a0_2 (iv_w ir30 (by decide)) hH hS (lv_sub hl [0, 1, 2, 3, 4, 5, 6] rfl)
  have J0 : ∀ (H : Heap) (locs : List Loc) (ls : Array Slot), th_H D cT T (km q) H → va_S (th_A T [0, 1]) s.heap H locs → lv_has ls 8 [(0, .ref a0), (1, .int y1), (2, .int y2), (3, .int y3), (4, .int y4), (5, .int y5)] → W p l e (rmk 0 0) s m [.ref a0, .int y1, .int y2, .int y3, .int y4, .int y5].toArray below meth c H locs 0 0 (MQ below (th_Q D cT T (km q) (th_R T (some (.inl (-1, 1600)))) [0, 1]) [.ref a0, .int y1, .int y2, .int y3, .int y4, .int y5].toArray s 0 0 (th_A T [0, 1])) (F0 m 0 ls []) := by
    intro H locs ls hH hS hl
    refine lv_aload_n hx hb dX11_feed_0 rfl (lv_at hl 0 rfl) ?_
    refine th_get S hK hH inG11 t0 km_0 rfl 2 (by decide) gm_1232 rfl rfl dX11_feed_1 (fun v31 hv31 fv31 => ?_)
    obtain ⟨x32, rfl, ix32⟩ := th_V.int hv31
    refine lv_bipush (v := 20) hx hb dX11_feed_4 (by decide) ?_
    refine lv_iadd hx hb dX11_feed_6 ?_
    refine lv_topi (fun x33 ex33 => ?_)
    have ix33 : IV x33 20 1620 := by rw [ex33]; exact iv_add ix32 (iv_c (by decide) : IV 20 20 20) (by decide)
    have ux33 : x33.toInt = x32.toInt + (20 : Int) := by rw [ex33]; exact iv_addE (by have z1 := (ix32).1; have z2 := (ix32).2; have z3 := ((iv_c (by decide) : IV 20 20 20)).1; have z4 := ((iv_c (by decide) : IV 20 20 20)).2; omega)
    refine lv_sipush (v := 1600) hx hb dX11_feed_7 (by decide) ?_
    refine lv_icmp_le (tgt := 15) hx hb dX11_feed_10 (by decide) (fun c34 => ?_) (fun c34 => ?_)
    · skip
      have rlc34 : x33.toInt ≤ (1600 : Int) := iv_le c34
      have ir35 : IV x33 20 1600 := iv_vL ix33 (iv_c (by decide) : IV 1600 1600 1600) (iv_le c34) (by decide)
      have ir35a := ir35.1; have ir35b := ir35.2
      have z1 := ir35.1; have z2 := ir35.2; have z3 := (ix32).1; have z4 := (ix32).2
      have ir36 : IV x32 0 1580 := ⟨by omega, by omega⟩
      refine lv_iconst (v := 0) hx hb dX11_feed_15 (by decide) ?_
      refine lv_istore (lv' := [(6, .int 0), (0, .ref a0), (1, .int y1), (2, .int y2), (3, .int y3), (4, .int y4), (5, .int y5)]) hx hb dX11_feed_16 hl (by decide) rfl (fun ls hl => ?_)
      exact J18 ((20 + 1 - Int32.toInt 0).toNat + 1) H locs ls 0 x32 (iv_w (iv_c (by decide) : IV 0 0 0) (by decide)) ir36 fv31 hH hS (lv_sub hl [1, 2, 3, 4, 5, 6, 0] rfl) (Nat.lt_succ_self _)
    · skip
      have rlc34 : (1600 : Int) < x33.toInt := iv_nle c34
      have ir37 : IV x33 1601 1620 := iv_uR (iv_c (by decide) : IV 1600 1600 1600) ix33 (iv_nle c34) (by decide)
      have ir37a := ir37.1; have ir37b := ir37.2
      have z1 := ir37.1; have z2 := ir37.2; have z3 := (ix32).1; have z4 := (ix32).2
      have ir38 : IV x32 1581 1600 := ⟨by omega, by omega⟩
      refine lv_iconst (v := (-1)) hx hb dX11_feed_13 (by decide) ?_
      exact th_iret S hK hH hS hr hlocks (th_R.i (iv_w (iv_c (by decide) : IV (-1) (-1) (-1)) (by decide))) dX11_feed_14
  exact J0 s.heap [] ls hH va_S.rf hl

set_option maxRecDepth 100000 in
theorem m_X11_end (l : Launch) (D : va_G) (cT : Nat → ClassId) (T : Nat → Option Nat) (q : Nat → Int) (hq : qkm q) (a0 : Nat) (t0 : T a0 = some 0) (y1 : Int32) (j1 : IV y1 (-2147483648) 2147483647) : th_Met l D cT T (km q) yX11_end cX11_end 2 (some .int) (rmk 0 0) [.ref a0, .int y1] (th_R T (some (.inl (-1, 1600)))) [0] := by
  refine th_start (by decide) (Nat.le_of_ble_eq_true rfl) ?_
  intro p e s m below meth c ls S hK hH hr hlocks hnm hl
  have hx := S.1
  have hb := S.2.1
  have hl : lv_has ls 2 [(0, .ref a0), (1, .int y1)] := hl
  have J12 : ∀ (H : Heap) (locs : List Loc) (ls : Array Slot), th_H D cT T (km q) H → va_S (th_A T [0]) s.heap H locs → lv_has ls 2 [] → W p l e (rmk 0 0) s m [.ref a0, .int y1].toArray below meth c H locs 0 0 (MQ below (th_Q D cT T (km q) (th_R T (some (.inl (-1, 1600)))) [0]) [.ref a0, .int y1].toArray s 0 0 (th_A T [0])) (F0 m 12 ls []) := by
    intro H locs ls hH hS hl
    refine lv_iconst (v := (-1)) hx hb dX11_end_12 (by decide) ?_
    exact th_iret S hK hH hS hr hlocks (th_R.i (iv_w (iv_c (by decide) : IV (-1) (-1) (-1)) (by decide))) dX11_end_13
  have J0 : ∀ (H : Heap) (locs : List Loc) (ls : Array Slot), th_H D cT T (km q) H → va_S (th_A T [0]) s.heap H locs → lv_has ls 2 [(0, .ref a0), (1, .int y1)] → W p l e (rmk 0 0) s m [.ref a0, .int y1].toArray below meth c H locs 0 0 (MQ below (th_Q D cT T (km q) (th_R T (some (.inl (-1, 1600)))) [0]) [.ref a0, .int y1].toArray s 0 0 (th_A T [0])) (F0 m 0 ls []) := by
    intro H locs ls hH hS hl
    refine lv_iload_n hx hb dX11_end_0 rfl (lv_at hl 1 rfl) ?_
    refine lv_if_lt (tgt := 12) hx hb dX11_end_1 (by decide) (fun c1 => ?_) (fun c1 => ?_)
    · skip
      have rlc1 : y1.toInt < (0 : Int) := iv_lt c1
      have ir2 : IV y1 (-2147483648) (-1) := iv_uL j1 (iv_c (by decide) : IV 0 0 0) (iv_lt c1) (by decide)
      have ir2a := ir2.1; have ir2b := ir2.2
      exact J12 H locs ls  hH hS (lv_sub hl [] rfl)
    · skip
      have rlc1 : (0 : Int) ≤ y1.toInt := iv_nlt c1
      have ir3 : IV y1 0 2147483647 := iv_vR (iv_c (by decide) : IV 0 0 0) j1 (iv_nlt c1) (by decide)
      have ir3a := ir3.1; have ir3b := ir3.2
      refine lv_iload_n hx hb dX11_end_4 rfl (lv_at hl 1 rfl) ?_
      refine lv_aload_n hx hb dX11_end_5 rfl (lv_at hl 0 rfl) ?_
      refine th_get S hK hH inG11 t0 km_0 rfl 2 (by decide) gm_1232 rfl rfl dX11_end_6 (fun v4 hv4 fv4 => ?_)
      obtain ⟨x5, rfl, ix5⟩ := th_V.int hv4
      refine lv_icmp_le (tgt := 14) hx hb dX11_end_9 (by decide) (fun c6 => ?_) (fun c6 => ?_)
      · skip
        have rlc6 : y1.toInt ≤ x5.toInt := iv_le c6
        have ir7 : IV y1 0 1600 := iv_vL ir3 ix5 (iv_le c6) (by decide)
        have ir7a := ir7.1; have ir7b := ir7.2
        refine lv_aload_n hx hb dX11_end_14 rfl (lv_at hl 0 rfl) ?_
        refine lv_iload_n hx hb dX11_end_15 rfl (lv_at hl 1 rfl) ?_
        refine th_put S hK hH hS ⟨0, by decide, t0⟩ inG11 tyX11 tyX11_ok nmX11 t0 km_0 rfl 2 (by decide) gm_1232 rfl rfl rfl rfl (th_iv ir7) (fun vs h => nmR_set h.2.2 (by decide) rfl) (ty := .int) (by decide +kernel) rfl rfl dX11_end_16 (fun H locs hH hS hq1 hp1 => ?_)
        have f8 := hp1.1
        refine lv_iload_n hx hb dX11_end_19 rfl (lv_at hl 1 rfl) ?_
        exact th_iret S hK hH hS hr hlocks (th_R.i (iv_w ir7 (by decide))) dX11_end_20
      · skip
        have rlc6 : x5.toInt < y1.toInt := iv_nle c6
        have ir9 : IV y1 1 2147483647 := iv_uR ix5 ir3 (iv_nle c6) (by decide)
        have ir9a := ir9.1; have ir9b := ir9.2
        exact J12 H locs ls  hH hS (lv_sub hl [] rfl)
  exact J0 s.heap [] ls hH va_S.rf hl
