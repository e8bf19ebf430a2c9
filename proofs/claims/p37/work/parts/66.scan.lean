theorem gm_2 : Cond.selects RX8 yX8_scanWord yX8_scanWord ∈ gw := gw_mem 2 (by decide +kernel) (by decide +kernel)
theorem gm_4 : Cond.selects RX8 yX8_scanNumber yX8_scanNumber ∈ gw := gw_mem 4 (by decide +kernel) (by decide +kernel)
theorem gm_564 : Cond.methodLink RX8 40 yX8_scanWord ∈ gw := gw_mem 564 (by decide +kernel) (by decide +kernel)
theorem gm_566 : Cond.instanceMethod yX8_scanWord ∈ gw := gw_mem 566 (by decide +kernel) (by decide +kernel)
theorem gm_567 : Cond.code yX8_scanWord cX8_scanWord 5 (some .int) ∈ gw := gw_mem 567 (by decide +kernel) (by decide +kernel)
theorem gm_568 : Cond.methodLink RX8 58 yX8_kindOfWord ∈ gw := gw_mem 568 (by decide +kernel) (by decide +kernel)
theorem gm_569 : Cond.static yX8_kindOfWord ∈ gw := gw_mem 569 (by decide +kernel) (by decide +kernel)
theorem gm_570 : Cond.code yX8_kindOfWord cX8_kindOfWord 7 (some .int) ∈ gw := gw_mem 570 (by decide +kernel) (by decide +kernel)
theorem gm_572 : Cond.methodLink RX8 70 yJ0_length_8abf5 ∈ gw := gw_mem 572 (by decide +kernel) (by decide +kernel)
theorem gm_582 : Cond.methodLink RX8 73 yJ0_charAt_5068e ∈ gw := gw_mem 582 (by decide +kernel) (by decide +kernel)
theorem gm_583 : Cond.instanceMethod yJ0_charAt_5068e ∈ gw := gw_mem 583 (by decide +kernel) (by decide +kernel)
theorem gm_584 : Cond.selects RJ0 yJ0_charAt_5068e yJ0_charAt_5068e ∈ gw := gw_mem 584 (by decide +kernel) (by decide +kernel)
theorem gm_585 : Cond.code yJ0_charAt_5068e cJ0_charAt_5068e 2 (some .char) ∈ gw := gw_mem 585 (by decide +kernel) (by decide +kernel)
theorem gm_627 : Cond.methodLink RX8 44 yX8_scanNumber ∈ gw := gw_mem 627 (by decide +kernel) (by decide +kernel)
theorem gm_629 : Cond.instanceMethod yX8_scanNumber ∈ gw := gw_mem 629 (by decide +kernel) (by decide +kernel)
theorem gm_630 : Cond.code yX8_scanNumber cX8_scanNumber 4 (some .int) ∈ gw := gw_mem 630 (by decide +kernel) (by decide +kernel)
theorem gm_632 : Cond.methodLink RX8 49 yJ0_indexOf_0f7a4 ∈ gw := gw_mem 632 (by decide +kernel) (by decide +kernel)
theorem gm_633 : Cond.instanceMethod yJ0_indexOf_0f7a4 ∈ gw := gw_mem 633 (by decide +kernel) (by decide +kernel)
theorem gm_634 : Cond.selects RJ0 yJ0_indexOf_0f7a4 yJ0_indexOf_0f7a4 ∈ gw := gw_mem 634 (by decide +kernel) (by decide +kernel)
theorem gm_635 : Cond.code yJ0_indexOf_0f7a4 cJ0_indexOf_0f7a4 2 (some .int) ∈ gw := gw_mem 635 (by decide +kernel) (by decide +kernel)
theorem dX8_kindOfWord_0 : decode cX8_kindOfWord 0 = .ok (.lconst 0, 1) := by decide +kernel
theorem dX8_kindOfWord_1 : decode cX8_kindOfWord 1 = .ok (.lstore_n 2, 1) := by decide +kernel
theorem dX8_kindOfWord_2 : decode cX8_kindOfWord 2 = .ok (.sipush 128, 3) := by decide +kernel
theorem dX8_kindOfWord_5 : decode cX8_kindOfWord 5 = .ok (.istore 4, 2) := by decide +kernel
theorem dX8_kindOfWord_7 : decode cX8_kindOfWord 7 = .ok (.iconst 0, 1) := by decide +kernel
theorem dX8_kindOfWord_8 : decode cX8_kindOfWord 8 = .ok (.istore 5, 2) := by decide +kernel
theorem dX8_kindOfWord_10 : decode cX8_kindOfWord 10 = .ok (.iload 5, 2) := by decide +kernel
theorem dX8_kindOfWord_12 : decode cX8_kindOfWord 12 = .ok (.ldc 68, 2) := by decide +kernel
theorem dX8_kindOfWord_14 : decode cX8_kindOfWord 14 = .ok (.invokevirtual 70, 3) := by decide +kernel
theorem dX8_kindOfWord_17 : decode cX8_kindOfWord 17 = .ok (.if_icmp .ge 51, 3) := by decide +kernel
theorem dX8_kindOfWord_20 : decode cX8_kindOfWord 20 = .ok (.ldc 68, 2) := by decide +kernel
theorem dX8_kindOfWord_22 : decode cX8_kindOfWord 22 = .ok (.iload 5, 2) := by decide +kernel
theorem dX8_kindOfWord_24 : decode cX8_kindOfWord 24 = .ok (.invokevirtual 73, 3) := by decide +kernel
theorem dX8_kindOfWord_27 : decode cX8_kindOfWord 27 = .ok (.istore 6, 2) := by decide +kernel
theorem dX8_kindOfWord_29 : decode cX8_kindOfWord 29 = .ok (.iload 6, 2) := by decide +kernel
theorem dX8_kindOfWord_31 : decode cX8_kindOfWord 31 = .ok (.bipush 32, 2) := by decide +kernel
theorem dX8_kindOfWord_33 : decode cX8_kindOfWord 33 = .ok (.if_icmp .eq 15, 3) := by decide +kernel
theorem dX8_kindOfWord_36 : decode cX8_kindOfWord 36 = .ok (.lload_n 2, 1) := by decide +kernel
theorem dX8_kindOfWord_37 : decode cX8_kindOfWord 37 = .ok (.bipush 8, 2) := by decide +kernel
theorem dX8_kindOfWord_39 : decode cX8_kindOfWord 39 = .ok (.lshl, 1) := by decide +kernel
theorem dX8_kindOfWord_40 : decode cX8_kindOfWord 40 = .ok (.iload 6, 2) := by decide +kernel
theorem dX8_kindOfWord_42 : decode cX8_kindOfWord 42 = .ok (.i2l, 1) := by decide +kernel
theorem dX8_kindOfWord_43 : decode cX8_kindOfWord 43 = .ok (.lor, 1) := by decide +kernel
theorem dX8_kindOfWord_44 : decode cX8_kindOfWord 44 = .ok (.lstore_n 2, 1) := by decide +kernel
theorem dX8_kindOfWord_45 : decode cX8_kindOfWord 45 = .ok (.goto 17, 3) := by decide +kernel
theorem dX8_kindOfWord_48 : decode cX8_kindOfWord 48 = .ok (.lload_n 2, 1) := by decide +kernel
theorem dX8_kindOfWord_49 : decode cX8_kindOfWord 49 = .ok (.lload_n 0, 1) := by decide +kernel
theorem dX8_kindOfWord_50 : decode cX8_kindOfWord 50 = .ok (.lcmp, 1) := by decide +kernel
theorem dX8_kindOfWord_51 : decode cX8_kindOfWord 51 = .ok (.ifCond .ne 6, 3) := by decide +kernel
theorem dX8_kindOfWord_54 : decode cX8_kindOfWord 54 = .ok (.iload 4, 2) := by decide +kernel
theorem dX8_kindOfWord_56 : decode cX8_kindOfWord 56 = .ok (.ireturn, 1) := by decide +kernel
theorem dX8_kindOfWord_57 : decode cX8_kindOfWord 57 = .ok (.lconst 0, 1) := by decide +kernel
theorem dX8_kindOfWord_58 : decode cX8_kindOfWord 58 = .ok (.lstore_n 2, 1) := by decide +kernel
theorem dX8_kindOfWord_59 : decode cX8_kindOfWord 59 = .ok (.iinc 4 1, 3) := by decide +kernel
theorem dX8_kindOfWord_62 : decode cX8_kindOfWord 62 = .ok (.iinc 5 1, 3) := by decide +kernel
theorem dX8_kindOfWord_65 : decode cX8_kindOfWord 65 = .ok (.goto (-55), 3) := by decide +kernel
theorem dX8_kindOfWord_68 : decode cX8_kindOfWord 68 = .ok (.iconst 2, 1) := by decide +kernel
theorem dX8_kindOfWord_69 : decode cX8_kindOfWord 69 = .ok (.ireturn, 1) := by decide +kernel
theorem dX8_scanWord_0 : decode cX8_scanWord 0 = .ok (.lconst 0, 1) := by decide +kernel
theorem dX8_scanWord_1 : decode cX8_scanWord 1 = .ok (.lstore_n 2, 1) := by decide +kernel
theorem dX8_scanWord_2 : decode cX8_scanWord 2 = .ok (.iconst 0, 1) := by decide +kernel
theorem dX8_scanWord_3 : decode cX8_scanWord 3 = .ok (.istore 4, 2) := by decide +kernel
theorem dX8_scanWord_5 : decode cX8_scanWord 5 = .ok (.iload 4, 2) := by decide +kernel
theorem dX8_scanWord_7 : decode cX8_scanWord 7 = .ok (.bipush 8, 2) := by decide +kernel
theorem dX8_scanWord_9 : decode cX8_scanWord 9 = .ok (.if_icmp .ge 40, 3) := by decide +kernel
theorem dX8_scanWord_12 : decode cX8_scanWord 12 = .ok (.aload_n 0, 1) := by decide +kernel
theorem dX8_scanWord_13 : decode cX8_scanWord 13 = .ok (.iload_n 1, 1) := by decide +kernel
theorem dX8_scanWord_14 : decode cX8_scanWord 14 = .ok (.iload 4, 2) := by decide +kernel
theorem dX8_scanWord_16 : decode cX8_scanWord 16 = .ok (.iadd, 1) := by decide +kernel
theorem dX8_scanWord_17 : decode cX8_scanWord 17 = .ok (.invokevirtual 33, 3) := by decide +kernel
theorem dX8_scanWord_20 : decode cX8_scanWord 20 = .ok (.ifCond .eq 29, 3) := by decide +kernel
theorem dX8_scanWord_23 : decode cX8_scanWord 23 = .ok (.lload_n 2, 1) := by decide +kernel
theorem dX8_scanWord_24 : decode cX8_scanWord 24 = .ok (.bipush 8, 2) := by decide +kernel
theorem dX8_scanWord_26 : decode cX8_scanWord 26 = .ok (.lshl, 1) := by decide +kernel
theorem dX8_scanWord_27 : decode cX8_scanWord 27 = .ok (.aload_n 0, 1) := by decide +kernel
theorem dX8_scanWord_28 : decode cX8_scanWord 28 = .ok (.getfield 9, 3) := by decide +kernel
theorem dX8_scanWord_31 : decode cX8_scanWord 31 = .ok (.iload_n 1, 1) := by decide +kernel
theorem dX8_scanWord_32 : decode cX8_scanWord 32 = .ok (.iload 4, 2) := by decide +kernel
theorem dX8_scanWord_34 : decode cX8_scanWord 34 = .ok (.iadd, 1) := by decide +kernel
theorem dX8_scanWord_35 : decode cX8_scanWord 35 = .ok (.baload, 1) := by decide +kernel
theorem dX8_scanWord_36 : decode cX8_scanWord 36 = .ok (.sipush 255, 3) := by decide +kernel
theorem dX8_scanWord_39 : decode cX8_scanWord 39 = .ok (.iand, 1) := by decide +kernel
theorem dX8_scanWord_40 : decode cX8_scanWord 40 = .ok (.i2l, 1) := by decide +kernel
theorem dX8_scanWord_41 : decode cX8_scanWord 41 = .ok (.lor, 1) := by decide +kernel
theorem dX8_scanWord_42 : decode cX8_scanWord 42 = .ok (.lstore_n 2, 1) := by decide +kernel
theorem dX8_scanWord_43 : decode cX8_scanWord 43 = .ok (.iinc 4 1, 3) := by decide +kernel
theorem dX8_scanWord_46 : decode cX8_scanWord 46 = .ok (.goto (-41), 3) := by decide +kernel
theorem dX8_scanWord_49 : decode cX8_scanWord 49 = .ok (.aload_n 0, 1) := by decide +kernel
theorem dX8_scanWord_50 : decode cX8_scanWord 50 = .ok (.lload_n 2, 1) := by decide +kernel
theorem dX8_scanWord_51 : decode cX8_scanWord 51 = .ok (.invokestatic 58, 3) := by decide +kernel
theorem dX8_scanWord_54 : decode cX8_scanWord 54 = .ok (.iload_n 1, 1) := by decide +kernel
theorem dX8_scanWord_55 : decode cX8_scanWord 55 = .ok (.lload_n 2, 1) := by decide +kernel
theorem dX8_scanWord_56 : decode cX8_scanWord 56 = .ok (.invokevirtual 54, 3) := by decide +kernel
theorem dX8_scanWord_59 : decode cX8_scanWord 59 = .ok (.iconst 1, 1) := by decide +kernel
theorem dX8_scanWord_60 : decode cX8_scanWord 60 = .ok (.iload 4, 2) := by decide +kernel
theorem dX8_scanWord_62 : decode cX8_scanWord 62 = .ok (.invokestatic 62, 3) := by decide +kernel
theorem dX8_scanWord_65 : decode cX8_scanWord 65 = .ok (.ireturn, 1) := by decide +kernel
theorem dX8_scan_0 : decode cX8_scan 0 = .ok (.aload_n 0, 1) := by decide +kernel
theorem dX8_scan_1 : decode cX8_scan 1 = .ok (.iconst 0, 1) := by decide +kernel
theorem dX8_scan_2 : decode cX8_scan 2 = .ok (.putfield 30, 3) := by decide +kernel
theorem dX8_scan_5 : decode cX8_scan 5 = .ok (.iconst 0, 1) := by decide +kernel
theorem dX8_scan_6 : decode cX8_scan 6 = .ok (.istore_n 1, 1) := by decide +kernel
theorem dX8_scan_7 : decode cX8_scan 7 = .ok (.iconst 0, 1) := by decide +kernel
theorem dX8_scan_8 : decode cX8_scan 8 = .ok (.istore_n 2, 1) := by decide +kernel
theorem dX8_scan_9 : decode cX8_scan 9 = .ok (.iload_n 2, 1) := by decide +kernel
theorem dX8_scan_10 : decode cX8_scan 10 = .ok (.sipush 1600, 3) := by decide +kernel
theorem dX8_scan_13 : decode cX8_scan 13 = .ok (.if_icmp .ge 129, 3) := by decide +kernel
theorem dX8_scan_16 : decode cX8_scan 16 = .ok (.iload_n 1, 1) := by decide +kernel
theorem dX8_scan_17 : decode cX8_scan 17 = .ok (.aload_n 0, 1) := by decide +kernel
theorem dX8_scan_18 : decode cX8_scan 18 = .ok (.getfield 26, 3) := by decide +kernel
theorem dX8_scan_21 : decode cX8_scan 21 = .ok (.if_icmp .ge 121, 3) := by decide +kernel
theorem dX8_scan_24 : decode cX8_scan 24 = .ok (.aload_n 0, 1) := by decide +kernel
theorem dX8_scan_25 : decode cX8_scan 25 = .ok (.getfield 9, 3) := by decide +kernel
theorem dX8_scan_28 : decode cX8_scan 28 = .ok (.iload_n 1, 1) := by decide +kernel
theorem dX8_scan_29 : decode cX8_scan 29 = .ok (.baload, 1) := by decide +kernel
theorem dX8_scan_30 : decode cX8_scan 30 = .ok (.sipush 255, 3) := by decide +kernel
theorem dX8_scan_33 : decode cX8_scan 33 = .ok (.iand, 1) := by decide +kernel
theorem dX8_scan_34 : decode cX8_scan 34 = .ok (.istore_n 3, 1) := by decide +kernel
theorem dX8_scan_35 : decode cX8_scan 35 = .ok (.iload_n 3, 1) := by decide +kernel
theorem dX8_scan_36 : decode cX8_scan 36 = .ok (.bipush 32, 2) := by decide +kernel
theorem dX8_scan_38 : decode cX8_scan 38 = .ok (.if_icmp .eq 9, 3) := by decide +kernel
theorem dX8_scan_41 : decode cX8_scan 41 = .ok (.iload_n 3, 1) := by decide +kernel
theorem dX8_scan_42 : decode cX8_scan 42 = .ok (.bipush 10, 2) := by decide +kernel
theorem dX8_scan_44 : decode cX8_scan 44 = .ok (.if_icmp .ne 9, 3) := by decide +kernel
theorem dX8_scan_47 : decode cX8_scan 47 = .ok (.iinc 1 1, 3) := by decide +kernel
theorem dX8_scan_50 : decode cX8_scan 50 = .ok (.goto 86, 3) := by decide +kernel
theorem dX8_scan_53 : decode cX8_scan 53 = .ok (.aload_n 0, 1) := by decide +kernel
theorem dX8_scan_54 : decode cX8_scan 54 = .ok (.iload_n 1, 1) := by decide +kernel
theorem dX8_scan_55 : decode cX8_scan 55 = .ok (.invokevirtual 33, 3) := by decide +kernel
theorem dX8_scan_58 : decode cX8_scan 58 = .ok (.ifCond .eq 28, 3) := by decide +kernel
theorem dX8_scan_61 : decode cX8_scan 61 = .ok (.iload_n 1, 1) := by decide +kernel
theorem dX8_scan_62 : decode cX8_scan 62 = .ok (.ifCond .le 13, 3) := by decide +kernel
theorem dX8_scan_65 : decode cX8_scan 65 = .ok (.aload_n 0, 1) := by decide +kernel
theorem dX8_scan_66 : decode cX8_scan 66 = .ok (.iload_n 1, 1) := by decide +kernel
theorem dX8_scan_67 : decode cX8_scan 67 = .ok (.iconst 1, 1) := by decide +kernel
theorem dX8_scan_68 : decode cX8_scan 68 = .ok (.isub, 1) := by decide +kernel
theorem dX8_scan_69 : decode cX8_scan 69 = .ok (.invokevirtual 37, 3) := by decide +kernel
theorem dX8_scan_72 : decode cX8_scan 72 = .ok (.ifCond .ne 14, 3) := by decide +kernel
theorem dX8_scan_75 : decode cX8_scan 75 = .ok (.iload_n 1, 1) := by decide +kernel
theorem dX8_scan_76 : decode cX8_scan 76 = .ok (.aload_n 0, 1) := by decide +kernel
theorem dX8_scan_77 : decode cX8_scan 77 = .ok (.iload_n 1, 1) := by decide +kernel
theorem dX8_scan_78 : decode cX8_scan 78 = .ok (.invokevirtual 40, 3) := by decide +kernel
theorem dX8_scan_81 : decode cX8_scan 81 = .ok (.iadd, 1) := by decide +kernel
theorem dX8_scan_82 : decode cX8_scan 82 = .ok (.istore_n 1, 1) := by decide +kernel
theorem dX8_scan_83 : decode cX8_scan 83 = .ok (.goto 53, 3) := by decide +kernel
theorem dX8_scan_86 : decode cX8_scan 86 = .ok (.aload_n 0, 1) := by decide +kernel
theorem dX8_scan_87 : decode cX8_scan 87 = .ok (.iload_n 1, 1) := by decide +kernel
theorem dX8_scan_88 : decode cX8_scan 88 = .ok (.invokevirtual 37, 3) := by decide +kernel
theorem dX8_scan_91 : decode cX8_scan 91 = .ok (.ifCond .eq 14, 3) := by decide +kernel
theorem dX8_scan_94 : decode cX8_scan 94 = .ok (.iload_n 1, 1) := by decide +kernel
theorem dX8_scan_95 : decode cX8_scan 95 = .ok (.aload_n 0, 1) := by decide +kernel
theorem dX8_scan_96 : decode cX8_scan 96 = .ok (.iload_n 1, 1) := by decide +kernel
theorem dX8_scan_97 : decode cX8_scan 97 = .ok (.invokevirtual 44, 3) := by decide +kernel
theorem dX8_scan_100 : decode cX8_scan 100 = .ok (.iadd, 1) := by decide +kernel
theorem dX8_scan_101 : decode cX8_scan 101 = .ok (.istore_n 1, 1) := by decide +kernel
theorem dX8_scan_102 : decode cX8_scan 102 = .ok (.goto 34, 3) := by decide +kernel
theorem dX8_scan_105 : decode cX8_scan 105 = .ok (.ldc 47, 2) := by decide +kernel
theorem dX8_scan_107 : decode cX8_scan 107 = .ok (.iload_n 3, 1) := by decide +kernel
theorem dX8_scan_108 : decode cX8_scan 108 = .ok (.i2c, 1) := by decide +kernel
theorem dX8_scan_109 : decode cX8_scan 109 = .ok (.invokevirtual 49, 3) := by decide +kernel
theorem dX8_scan_112 : decode cX8_scan 112 = .ok (.ifCond .lt 16, 3) := by decide +kernel
theorem dX8_scan_115 : decode cX8_scan 115 = .ok (.aload_n 0, 1) := by decide +kernel
theorem dX8_scan_116 : decode cX8_scan 116 = .ok (.iload_n 3, 1) := by decide +kernel
theorem dX8_scan_117 : decode cX8_scan 117 = .ok (.iload_n 1, 1) := by decide +kernel
theorem dX8_scan_118 : decode cX8_scan 118 = .ok (.lconst 0, 1) := by decide +kernel
theorem dX8_scan_119 : decode cX8_scan 119 = .ok (.invokevirtual 54, 3) := by decide +kernel
theorem dX8_scan_122 : decode cX8_scan 122 = .ok (.iinc 1 1, 3) := by decide +kernel
theorem dX8_scan_125 : decode cX8_scan 125 = .ok (.goto 11, 3) := by decide +kernel
theorem dX8_scan_128 : decode cX8_scan 128 = .ok (.aload_n 0, 1) := by decide +kernel
theorem dX8_scan_129 : decode cX8_scan 129 = .ok (.iconst 1, 1) := by decide +kernel
theorem dX8_scan_130 : decode cX8_scan 130 = .ok (.iload_n 1, 1) := by decide +kernel
theorem dX8_scan_131 : decode cX8_scan 131 = .ok (.lconst 0, 1) := by decide +kernel
theorem dX8_scan_132 : decode cX8_scan 132 = .ok (.invokevirtual 54, 3) := by decide +kernel
theorem dX8_scan_135 : decode cX8_scan 135 = .ok (.return_, 1) := by decide +kernel
theorem dX8_scan_136 : decode cX8_scan 136 = .ok (.iinc 2 1, 3) := by decide +kernel
theorem dX8_scan_139 : decode cX8_scan 139 = .ok (.goto (-130), 3) := by decide +kernel
theorem dX8_scan_142 : decode cX8_scan 142 = .ok (.aload_n 0, 1) := by decide +kernel
theorem dX8_scan_143 : decode cX8_scan 143 = .ok (.iconst 0, 1) := by decide +kernel
theorem dX8_scan_144 : decode cX8_scan 144 = .ok (.aload_n 0, 1) := by decide +kernel
theorem dX8_scan_145 : decode cX8_scan 145 = .ok (.getfield 26, 3) := by decide +kernel
theorem dX8_scan_148 : decode cX8_scan 148 = .ok (.lconst 0, 1) := by decide +kernel
theorem dX8_scan_149 : decode cX8_scan 149 = .ok (.invokevirtual 54, 3) := by decide +kernel
theorem dX8_scan_152 : decode cX8_scan 152 = .ok (.return_, 1) := by decide +kernel
/-! the class's methods that read the constant texts -/
def st_T (adK adV : Nat → Nat) (T : Nat → Option Nat) (U : State) : Prop := st_S adK adV (fun q => T q ≠ none) U U.heap ∧ vk_R "HungryMaps$Tape" 68 "food map place likes border taste winter draw scale year eaten cold size worth holes hunger in folded on or and not " (adK 0) U ∧ vk_R "HungryMaps$Tape" 47 ";()<>=+-*/%" (adK 1) U
theorem st_T.at {adK adV : Nat → Nat} {T : Nat → Option Nat} {s : State} (h : st_T adK adV T s) (wk : List Nat) : st_S adK adV (th_A T wk) s s.heap := h.1.narrow (fun q ⟨k, _, hk⟩ => by rw [hk]; exact fun z => by cases z)
theorem st_T.go {adK adV : Nat → Nat} {T : Nat → Option Nat} {s U : State} {H : Heap} {locs : List Loc} {wk : List Nat} (h : st_T adK adV T s) (hS : va_S (th_A T wk) s.heap H locs) (hU : U.heap = H) (hW : s.WarmedH U.vm) : st_T adK adV T U :=
  ⟨by rw [hU]; exact (h.1.kept (fun a ha hn => hS.2.1 a ha (fun ⟨k, _, hk⟩ => hn (by rw [hk]; exact fun z => by cases z)))).moved hW.alike, h.2.1.warm hW, h.2.2.warm hW⟩
def th_MetS (l : Launch) (D : va_G) (cT : Nat → ClassId) (T : Nat → Option Nat) (Ks : Nat → th_K) (adK adV : Nat → Nat) (y : MethodName) (bytes : ByteArray) (maxL : Nat) (ret : Option FieldType) (rm : Room) (vs : List Value) (post : Option Value → Prop) (wk : List Nat) : Prop :=
  Met l y (Cond.code y bytes maxL ret :: gw) rm (va_Pc vs (fun U => th_W D cT T Ks U ∧ st_T adK adV T U)) (th_Q D cT T Ks post wk) 0 0 (th_A T wk)
theorem st_T.same {adK adV : Nat → Nat} {T : Nat → Option Nat} {s U : State} (hv : U.vm = s.vm) (hh : U.heap = s.heap) (h : st_T adK adV T s) : st_T adK adV T U := ⟨by rw [hh]; exact h.1.moved (by rw [hv]; exact Vm.Alike.refl _), h.2.1.same hv, h.2.2.same hv⟩
theorem th_blindS {D : va_G} {cT : Nat → ClassId} {T : Nat → Option Nat} {Ks : Nat → th_K} {adK adV : Nat → Nat} {vs : List Value} : FrameBlind (va_Pc vs (fun U => th_W D cT T Ks U ∧ st_T adK adV T U)) :=
  fun a U g mk h => ⟨h.1, ⟨h.2.1.1, va_K.moved (u := U) (U := U.calling g mk a) (Vm.Alike.refl U.vm) h.2.1.2⟩, st_T.same (s := U) (U := U.calling g mk a) rfl rfl h.2.2⟩
section SCS
variable {p : Program} {l : Launch} {e : Env} {R : Room} {s : State} {m : MethodId} {args : Array Value} {below : List Frame} {meth : Method} {c : Code} {H : Heap} {locs : List Loc} {cells slots : Nat} {Q : State → Prop}
variable {cc bytes : ByteArray} {pc nL maxL n index ci N k i : Nat} {ls : Array Slot} {rest st0 As vs : List Value} {D : va_G} {cT : Nat → ClassId} {T : Nat → Option Nat} {Ks : Nat → th_K} {b : Nat} {own C : String} {y : MethodName} {ret : Option FieldType} {rm : Room} {post : Option Value → Prop} {wk wk2 : List Nat} {fs : List th_F} {Rf : List Value → Prop} {Tf : u_T} {adK adV : Nat → Nat}
theorem th_startS (hy : plainName y.cls = true) (hlen : (lg_sl vs).length ≤ maxL)
    (body : ∀ (p : Program) (e : Env) (s : State) (m : MethodId) (below : List Frame) (meth : Method) (c : Code) (ls : Array Slot), CallFix p m c bytes maxL s vs.toArray gw y.cls → va_K D classes (th_tys cT) s → th_H D cT T Ks s.heap → st_T adK adV T s → meth.sig.returnType = ret → meth.locks = false → meth.name = y.name → lv_has ls maxL (lv_args 0 vs) →
      W p l e rm s m vs.toArray below meth c s.heap [] 0 0 (MQ below (th_Q D cT T Ks post wk) vs.toArray s 0 0 (th_A T wk)) (F0 m 0 ls [])) : th_MetS l D cT T Ks adK adV y bytes maxL ret rm vs post wk := by
  refine Met.ofW (cc := bytes) (maxL := maxL) (ret := ret) hy rfl ?_
  intro p e s m args below meth c s₁ B hml hv
  obtain ⟨rfl, ⟨hH, hK⟩, hE⟩ := hv
  have hts := atoms_spec (ws := Cond.code y bytes maxL ret :: gw) B.pre
  rw [lg_entry_eq]
  exact body p e s m below meth c _ ⟨B.exec, B.bytes, hml, findClass_of_methodNamed B.named, fun w hw => hts w (List.mem_cons_of_mem _ hw)⟩ hK hH hE B.returns B.notSynchronized (name_of_methodNamed B.named B.method).1 (lv_entry vs hlen)
theorem th_preS (hK : va_K D classes (th_tys cT) s) (hH : th_H D cT T Ks H) (hE : st_T adK adV T s) (hS : va_S (th_A T wk2) s.heap H locs) : ∀ U : State, U.heap = H → s.WarmedH U.vm → va_Pc vs (fun U => th_W D cT T Ks U ∧ st_T adK adV T U) vs.toArray U :=
  fun U hU hW => ⟨rfl, ⟨by rw [hU]; exact hH, va_K.moved hW.alike hK⟩, hE.go hS hU hW⟩
/-- invokevirtual of a method that reads the texts -/
theorem th_callVS (S : CallFix p m c cc nL s args gw own) (hK : va_K D classes (th_tys cT) s) (hH : th_H D cT T Ks H) (hE : st_T adK adV T s) (hS : va_S (th_A T wk2) s.heap H locs) (hwk : ∀ q, th_A T wk q → th_A T wk2 q) (hM : th_MetS l D cT T Ks adK adV y bytes maxL ret rm (.ref b :: As) post wk)
    (hcode : Cond.code y bytes maxL ret ∈ gw) (hlink : Cond.methodLink own index y ∈ gw) (hinst : Cond.instanceMethod y ∈ gw) (hsel : Cond.selects C y y ∈ gw) (hini : Cond.initialized y.cls ∈ gw)
    (hd : y.cls ≠ "java/lang/invoke/MethodHandle" ∧ y.cls ≠ "java/lang/invoke/VarHandle" ∧ (parseMethodDescriptor y.desc).map (fun d => d.parameters.length) = some n) (hR : rm.cells = 0 ∧ rm.slots = 0 ∧ rm.frames + 1 ≤ R.frames ∧ 8 + (maxL + 11) + rm.locals ≤ R.locals)
    (ha : T b = some k) (hk : Ks k = .inl (ci, fs, Rf)) (hc : classes[ci]? = some (C, Tf, N)) (hn : As.length = n) (hl : ls.size = nL) (hst : st0 = As.reverse ++ .ref b :: rest) (hrest : (rest.map fun v => v.category).sum ≤ 8) (hdg : decode cc pc = .ok (.invokevirtual index, 3)) (hcs : cells ≤ R.cells ∧ slots ≤ R.slots)
    (kk : ∀ (v : Option Value) (H1 : Heap) (locs1 : List Loc), post v → th_H D cT T Ks H1 → va_S (th_A T wk2) s.heap H1 locs1 → (∀ q : Nat, q < H.size → ¬ th_A T wk q → H1[q]? = H[q]?) → W p l e R s m args below meth c H1 locs1 cells slots Q (F0 m (pc + 3) ls (v.toList ++ rest))) : W p l e R s m args below meth c H locs cells slots Q (F0 m pc ls st0) := by
  have hts := S.2.2.2.2
  have h1 := hH b k ha
  rw [hk] at h1
  obtain ⟨ws, h2, -⟩ := h1
  have hP : va_P D classes [(b, .inr (ci, ws))] H := fun i q hq => by
    cases i with
    | zero => cases hq; exact h2
    | succ i => simp at hq
  exact th_back (va_runV (As := As) (rest := rest) S hM ⟨th_callB S hcode hlink hini hd hR, hts _ hinst, hts _ hsel⟩ ⟨th_blindS, va_recv hK hP hc (q0 := 0) rfl, th_preS hK hH hE hS⟩ rfl hn hl (by rw [hst]) (lv_room hrest) hdg hcs) hS hwk kk
theorem th_callSS (S : CallFix p m c cc nL s args gw own) (hK : va_K D classes (th_tys cT) s) (hH : th_H D cT T Ks H) (hE : st_T adK adV T s) (hS : va_S (th_A T wk2) s.heap H locs) (hwk : ∀ q, th_A T wk q → th_A T wk2 q) (hM : th_MetS l D cT T Ks adK adV y bytes maxL ret rm As post wk)
    (hcode : Cond.code y bytes maxL ret ∈ gw) (hlink : Cond.methodLink own index y ∈ gw) (hstat : Cond.static y ∈ gw) (hini : Cond.initialized y.cls ∈ gw)
    (hd : y.cls ≠ "java/lang/invoke/MethodHandle" ∧ y.cls ≠ "java/lang/invoke/VarHandle" ∧ (parseMethodDescriptor y.desc).map (fun d => d.parameters.length) = some n) (hR : rm.cells = 0 ∧ rm.slots = 0 ∧ rm.frames + 1 ≤ R.frames ∧ 8 + (maxL + 11) + rm.locals ≤ R.locals)
    (hn : As.length = n) (hl : ls.size = nL) (hst : st0 = As.reverse ++ rest) (hrest : (rest.map fun v => v.category).sum ≤ 8) (hdg : decode cc pc = .ok (.invokestatic index, 3)) (hcs : cells ≤ R.cells ∧ slots ≤ R.slots)
    (kk : ∀ (v : Option Value) (H1 : Heap) (locs1 : List Loc), post v → th_H D cT T Ks H1 → va_S (th_A T wk2) s.heap H1 locs1 → (∀ q : Nat, q < H.size → ¬ th_A T wk q → H1[q]? = H[q]?) → W p l e R s m args below meth c H1 locs1 cells slots Q (F0 m (pc + 3) ls (v.toList ++ rest))) : W p l e R s m args below meth c H locs cells slots Q (F0 m pc ls st0) := by
  have hts := S.2.2.2.2
  exact th_back (va_runS (As := As) (rest := rest) S hM ⟨th_callB S hcode hlink hini hd hR, hts _ hstat⟩ ⟨th_blindS, th_preS hK hH hE hS⟩ rfl hn hl (by rw [hst]) (lv_room hrest) hdg hcs) hS hwk kk
end SCS
theorem ch_in {x : Int32} (h : IV x 0 115) : ¬ x < 0 ∧ x < nI (sl_len.getD 0 0) ∧ vp_in x (sl_len.getD 0 0) := by
  obtain ⟨h1, h2⟩ := h
  have e0 : (0 : Int32).toInt = 0 := by decide
  have e1 : (nI (sl_len.getD 0 0)).toInt = 116 := by decide
  exact ⟨fun z => by have := iv_lt z; omega, Int32.lt_iff_toInt_lt.mpr (by omega), th_in (hi := 115) ⟨h1, h2⟩ (by decide)⟩
set_option maxRecDepth 100000 in
theorem m_X8_kindOfWord (l : Launch) (D : va_G) (cT : Nat → ClassId) (T : Nat → Option Nat) (q : Nat → Int) (adK adV : Nat → Nat) (hq : qok q) (y0 : Int64) : th_MetS l D cT T (kd q) adK adV yX8_kindOfWord cX8_kindOfWord 7 (some .int) (rmk 4 85) [.long y0] (th_R T (some (.inl (-2147483648, 2147483647)))) [] := by
  refine th_startS (by decide) (Nat.le_of_ble_eq_true rfl) ?_
  intro p e s m below meth c ls S hK hH hE hr hlocks hnm hl
  have hx := S.1
  have hb := S.2.1
  have hl : lv_has ls 7 [(0, .long y0)] := hl
  have J10 : ∀ (n : Nat) (H : Heap) (locs : List Loc) (ls : Array Slot) (v10_2 : Int64) (v10_4 : Int32) (v10_5 : Int32), IV v10_4 (-2147483648) 2147483647 → IV v10_5 0 127 → th_H D cT T (kd q) H → va_S (th_A T []) s.heap H locs → lv_has ls 7 [(0, .long y0), (2, .long v10_2), (4, .int v10_4), (5, .int v10_5)] → (127 + 1 - v10_5.toInt).toNat < n → W p l e (rmk 4 85) s m [.long y0].toArray below meth c H locs 0 0 (MQ below (th_Q D cT T (kd q) (th_R T (some (.inl (-2147483648, 2147483647)))) []) [.long y0].toArray s 0 0 (th_A T [])) (F0 m 10 ls []) := by
    intro n
    induction n with
    | zero => intro H locs ls v10_2 v10_4 v10_5 iv10_4 iv10_5 hH hS hl hn; exact absurd hn (Nat.not_lt_zero _)
    | succ n ih10 =>
      intro H locs ls v10_2 v10_4 v10_5 iv10_4 iv10_5 hH hS hl hn10
      have J62 : ∀ (H : Heap) (locs : List Loc) (ls : Array Slot) (v62_2 : Int64) (v62_4 : Int32), IV v62_4 (-2147483648) 2147483647 → IV v10_5 0 115 → th_H D cT T (kd q) H → va_S (th_A T []) s.heap H locs → lv_has ls 7 [(0, .long y0), (2, .long v62_2), (4, .int v62_4), (5, .int v10_5)] → W p l e (rmk 4 85) s m [.long y0].toArray below meth c H locs 0 0 (MQ below (th_Q D cT T (kd q) (th_R T (some (.inl (-2147483648, 2147483647)))) []) [.long y0].toArray s 0 0 (th_A T [])) (F0 m 62 ls []) := by
        intro H locs ls v62_2 v62_4 iv62_4 f62_v10_5 hH hS hl
        refine th_iinc S dX8_kindOfWord_62 hl (k := 3) rfl (by decide) f62_v10_5 (by decide) (fun x1 ls ex1 ix1 hl => ?_)
        have hl : lv_has ls 7 [(5, .int x1), (0, .long y0), (2, .long v62_2), (4, .int v62_4)] := hl
        have ix1 : IV x1 1 116 := ix1
        refine lv_goto (tgt := 10) hx hb dX8_kindOfWord_65 (by decide) ?_
        exact ih10 H locs ls v62_2 v62_4 x1 iv62_4 (iv_w ix1 (by decide)) hH hS (lv_sub hl [1, 2, 3, 0] rfl) (th_up iv10_5 ex1 (by decide) hn10)
      refine lv_iload hx hb dX8_kindOfWord_10 (lv_at hl 3 rfl) ?_
      refine va_ldcS hx hb S.2.2.2.1 hE.2.1 dX8_kindOfWord_12 ?_
      refine th_callVJ (n := 0) (i := 0) (As := []) S (hE.at _) hS (by decide) (s_J0_length_8abf5 l adK adV 0 (by decide)) gm_575 gm_572 gm_573 gm_574 gm_125 (by decide +kernel) ⟨rfl, rfl, Nat.le_of_ble_eq_true rfl, Nat.le_of_ble_eq_true rfl⟩ rfl hl.1 rfl (Nat.le_of_ble_eq_true rfl) dX8_kindOfWord_14 ⟨Nat.zero_le _, Nat.zero_le _⟩ (fun v H locs hv hS hk => ?_)
      have hH := hH.same (fun a k ha => hk a (hH.dom ha))
      subst hv
      refine lv_topi (fun x2 ex2 => ?_)
      have ix2 : IV x2 116 116 := by rw [ex2]; exact ⟨by decide, by decide⟩
      show W p l e (rmk 4 85) s m [.long y0].toArray below meth c H locs 0 0 (MQ below (th_Q D cT T (kd q) (th_R T (some (.inl (-2147483648, 2147483647)))) []) [.long y0].toArray s 0 0 (th_A T [])) (F0 m 17 ls [.int x2, .int v10_5])
      refine lv_icmp_ge (tgt := 68) hx hb dX8_kindOfWord_17 (by decide) (fun c3 => ?_) (fun c3 => ?_)
      · skip
        have ir4 : IV v10_5 116 127 := iv_vR ix2 iv10_5 (iv_le c3) (by decide)
        refine lv_iconst (v := 2) hx hb dX8_kindOfWord_68 (by decide) ?_
        exact th_iret S hK hH hS hr hlocks (th_R.i (iv_top _)) dX8_kindOfWord_69
      · skip
        have ir5 : IV v10_5 0 115 := iv_uL iv10_5 ix2 (iv_nle c3) (by decide)
        refine va_ldcS hx hb S.2.2.2.1 hE.2.1 dX8_kindOfWord_20 ?_
        refine lv_iload hx hb dX8_kindOfWord_22 (lv_at hl 3 rfl) ?_
        have h6 := ch_in ir5
        refine th_callVJ (n := 1) (i := 0) (As := [.int v10_5]) S (hE.at _) hS (by decide) (s_J0_charAt_5068e l adK adV 0 (by decide) v10_5 h6.1 h6.2.1 h6.2.2) gm_585 gm_582 gm_583 gm_584 gm_125 (by decide +kernel) ⟨rfl, rfl, Nat.le_of_ble_eq_true rfl, Nat.le_of_ble_eq_true rfl⟩ rfl hl.1 rfl (Nat.le_of_ble_eq_true rfl) dX8_kindOfWord_24 ⟨Nat.zero_le _, Nat.zero_le _⟩ (fun v H locs hv hS hk => ?_)
        have hH := hH.same (fun a k ha => hk a (hH.dom ha))
        obtain ⟨x7, rfl, ix7⟩ := hv
        show W p l e (rmk 4 85) s m [.long y0].toArray below meth c H locs 0 0 (MQ below (th_Q D cT T (kd q) (th_R T (some (.inl (-2147483648, 2147483647)))) []) [.long y0].toArray s 0 0 (th_A T [])) (F0 m 27 ls [.int x7])
        refine lv_istore (lv' := [(6, .int x7), (0, .long y0), (2, .long v10_2), (4, .int v10_4), (5, .int v10_5)]) hx hb dX8_kindOfWord_27 hl (by decide) rfl (fun ls hl => ?_)
        refine lv_iload hx hb dX8_kindOfWord_29 (lv_at hl 0 rfl) ?_
        refine lv_bipush (v := 32) hx hb dX8_kindOfWord_31 (by decide) ?_
        refine lv_icmp_eq (tgt := 48) hx hb dX8_kindOfWord_33 (by decide) (fun c8 => ?_) (fun c8 => ?_)
        · skip
          have ir9 : IV x7 32 32 := iv_eL c8 (iv_c (by decide) : IV 32 32 32)
          refine lv_lload_n hx hb dX8_kindOfWord_48 rfl (lv_at hl 2 rfl) ?_
          refine lv_lload_n hx hb dX8_kindOfWord_49 rfl (lv_at hl 1 rfl) ?_
          refine W.lcmp hx hb dX8_kindOfWord_50 ?_
          refine lv_topi (fun x10 ex10 => ?_)
          have ix10 := iv_top x10
          refine lv_if_ne (tgt := 57) hx hb dX8_kindOfWord_51 (by decide) (fun c11 => ?_) (fun c11 => ?_)
          · skip
            refine lv_lconst (v := 0) hx hb dX8_kindOfWord_57 (by decide) ?_
            refine lv_lstore_n (lv' := [(2, .long 0), (6, .int x7), (0, .long y0), (4, .int v10_4), (5, .int v10_5)]) hx hb dX8_kindOfWord_58 rfl hl (by decide) rfl (fun ls hl => ?_)
            obtain ⟨x12, ex12⟩ : ∃ z : Int32, z = v10_4 + Int32.ofInt 1 := ⟨_, rfl⟩
            refine lv_iinc (v := x12) (lv' := [(4, .int x12), (2, .long 0), (6, .int x7), (0, .long y0), (5, .int v10_5)]) hx hb dX8_kindOfWord_59 hl (k := 3) rfl (by rw [ex12]) (by decide) rfl (fun ls hl => ?_)
            have ix12 := iv_top x12
            exact J62 H locs ls 0 x12 ix12 ir5 hH hS (lv_sub hl [3, 1, 0, 4] rfl)
          · skip
            have ir13 : IV x10 0 0 := iv_eL c11 (iv_c (by decide) : IV 0 0 0)
            refine lv_iload hx hb dX8_kindOfWord_54 (lv_at hl 3 rfl) ?_
            exact th_iret S hK hH hS hr hlocks (th_R.i iv10_4) dX8_kindOfWord_56
        · skip
          refine lv_lload_n hx hb dX8_kindOfWord_36 rfl (lv_at hl 2 rfl) ?_
          refine lv_bipush (v := 8) hx hb dX8_kindOfWord_37 (by decide) ?_
          refine lv_lshl (v := _) hx hb dX8_kindOfWord_39 rfl ?_
          refine lv_topl (fun lg14 elg14 => ?_)
          refine lv_iload hx hb dX8_kindOfWord_40 (lv_at hl 0 rfl) ?_
          refine lv_i2l (v := _) hx hb dX8_kindOfWord_42 rfl ?_
          refine lv_topl (fun lg15 elg15 => ?_)
          refine lv_lor hx hb dX8_kindOfWord_43 ?_
          refine lv_topl (fun lg16 elg16 => ?_)
          refine lv_lstore_n (lv' := [(2, .long lg16), (6, .int x7), (0, .long y0), (4, .int v10_4), (5, .int v10_5)]) hx hb dX8_kindOfWord_44 rfl hl (by decide) rfl (fun ls hl => ?_)
          refine lv_goto (tgt := 62) hx hb dX8_kindOfWord_45 (by decide) ?_
          exact J62 H locs ls lg16 v10_4 iv10_4 ir5 hH hS (lv_sub hl [2, 0, 3, 4] rfl)
  have J0 : ∀ (H : Heap) (locs : List Loc) (ls : Array Slot), th_H D cT T (kd q) H → va_S (th_A T []) s.heap H locs → lv_has ls 7 [(0, .long y0)] → W p l e (rmk 4 85) s m [.long y0].toArray below meth c H locs 0 0 (MQ below (th_Q D cT T (kd q) (th_R T (some (.inl (-2147483648, 2147483647)))) []) [.long y0].toArray s 0 0 (th_A T [])) (F0 m 0 ls []) := by
    intro H locs ls hH hS hl
    refine lv_lconst (v := 0) hx hb dX8_kindOfWord_0 (by decide) ?_
    refine lv_lstore_n (lv' := [(2, .long 0), (0, .long y0)]) hx hb dX8_kindOfWord_1 rfl hl (by decide) rfl (fun ls hl => ?_)
    refine lv_sipush (v := 128) hx hb dX8_kindOfWord_2 (by decide) ?_
    refine lv_istore (lv' := [(4, .int 128), (2, .long 0), (0, .long y0)]) hx hb dX8_kindOfWord_5 hl (by decide) rfl (fun ls hl => ?_)
    refine lv_iconst (v := 0) hx hb dX8_kindOfWord_7 (by decide) ?_
    refine lv_istore (lv' := [(5, .int 0), (4, .int 128), (2, .long 0), (0, .long y0)]) hx hb dX8_kindOfWord_8 hl (by decide) rfl (fun ls hl => ?_)
    exact J10 ((127 + 1 - Int32.toInt 0).toNat + 1) H locs ls 0 128 0 (iv_top _) (iv_w (iv_c (by decide) : IV 0 0 0) (by decide)) hH hS (lv_sub hl [3, 2, 1, 0] rfl) (Nat.lt_succ_self _)
  exact J0 s.heap [] ls hH va_S.rf hl

set_option maxRecDepth 100000 in
theorem m_X8_scanWord (l : Launch) (D : va_G) (cT : Nat → ClassId) (T : Nat → Option Nat) (q : Nat → Int) (adK adV : Nat → Nat) (hq : qok q) (a0 : Nat) (t0 : T a0 = some 1) (y1 : Int32) (j1 : IV y1 0 1599) : th_MetS l D cT T (kd q) adK adV yX8_scanWord cX8_scanWord 5 (some .int) (rmk 5 111) [.ref a0, .int y1] (th_R T (some (.inl (1, 8)))) [1, 12, 13, 14] := by
  refine th_startS (by decide) (Nat.le_of_ble_eq_true rfl) ?_
  intro p e s m below meth c ls S hK hH hE hr hlocks hnm hl
  have hx := S.1
  have hb := S.2.1
  have hl : lv_has ls 5 [(0, .ref a0), (1, .int y1)] := hl
  have J49 : ∀ (H : Heap) (locs : List Loc) (ls : Array Slot) (v49_2 : Int64) (v49_4 : Int32), IV v49_4 0 8 → th_H D cT T (kd q) H → va_S (th_A T [1, 12, 13, 14]) s.heap H locs → lv_has ls 5 [(0, .ref a0), (1, .int y1), (2, .long v49_2), (4, .int v49_4)] → W p l e (rmk 5 111) s m [.ref a0, .int y1].toArray below meth c H locs 0 0 (MQ below (th_Q D cT T (kd q) (th_R T (some (.inl (1, 8)))) [1, 12, 13, 14]) [.ref a0, .int y1].toArray s 0 0 (th_A T [1, 12, 13, 14])) (F0 m 49 ls []) := by
    intro H locs ls v49_2 v49_4 iv49_4 hH hS hl
    refine lv_aload_n hx hb dX8_scanWord_49 rfl (lv_at hl 0 rfl) ?_
    refine lv_lload_n hx hb dX8_scanWord_50 rfl (lv_at hl 2 rfl) ?_
    refine th_callSS (n := 1) (As := [.long v49_2]) S hK hH hE hS (th_A.sub (by decide)) (m_X8_kindOfWord l D cT T q adK adV hq (v49_2)) gm_570 gm_568 gm_569 gm_114 (by decide +kernel) ⟨rfl, rfl, Nat.le_of_ble_eq_true rfl, Nat.le_of_ble_eq_true rfl⟩ rfl hl.1 rfl (Nat.le_of_ble_eq_true rfl) dX8_scanWord_51 ⟨Nat.zero_le _, Nat.zero_le _⟩ (fun v H locs hv hH hS hF1 => ?_)
    obtain ⟨wx1, rfl, hwx1⟩ := hv
    obtain ⟨x1, rfl, ix1⟩ := th_V.int hwx1
    show W p l e (rmk 5 111) s m [.ref a0, .int y1].toArray below meth c H locs 0 0 (MQ below (th_Q D cT T (kd q) (th_R T (some (.inl (1, 8)))) [1, 12, 13, 14]) [.ref a0, .int y1].toArray s 0 0 (th_A T [1, 12, 13, 14])) (F0 m 54 ls [.int x1, .ref a0])
    refine lv_iload_n hx hb dX8_scanWord_54 rfl (lv_at hl 1 rfl) ?_
    refine lv_lload_n hx hb dX8_scanWord_55 rfl (lv_at hl 2 rfl) ?_
    refine th_callVv (n := 3) (As := [.int x1, .int y1, .long v49_2]) S hK hH hS (th_A.sub (by decide)) (m_X8_addToken l D cT T q hq a0 t0 (x1) ix1 (y1) (iv_top _) (v49_2)) gm_623 gm_620 gm_622 gm_3 gm_114 (by decide +kernel) ⟨rfl, rfl, Nat.le_of_ble_eq_true rfl, Nat.le_of_ble_eq_true rfl⟩ t0 kd_1 rfl rfl hl.1 rfl (Nat.le_of_ble_eq_true rfl) dX8_scanWord_56 ⟨Nat.zero_le _, Nat.zero_le _⟩ (fun H locs hH hS hF1 => ?_)
    refine lv_iconst (v := 1) hx hb dX8_scanWord_59 (by decide) ?_
    refine lv_iload hx hb dX8_scanWord_60 (lv_at hl 3 rfl) ?_
    refine va_mmax hx hb (S.2.2.1.trans hl.1.symm) S.2.2.2.1 (S.2.2.2.2 _ gm_624) (S.2.2.2.2 _ gm_625) (S.2.2.2.2 _ gm_129) (S.2.2.2.2 _ gm_626) (Nat.le_of_ble_eq_true rfl) (Nat.le_of_ble_eq_true rfl) (Nat.zero_le _) (Nat.zero_le _) dX8_scanWord_62 ?_
    refine lv_topi (fun x2 ex2 => ?_)
    have ix2 : IV x2 1 8 := by rw [ex2]; exact iv_max (iv_c (by decide) : IV 1 1 1) iv49_4 (by decide)
    exact th_iret S hK hH hS hr hlocks (th_R.i ix2) dX8_scanWord_65
  have J5 : ∀ (n : Nat) (H : Heap) (locs : List Loc) (ls : Array Slot) (v5_2 : Int64) (v5_4 : Int32), IV v5_4 0 8 → th_H D cT T (kd q) H → va_S (th_A T [1, 12, 13, 14]) s.heap H locs → lv_has ls 5 [(0, .ref a0), (1, .int y1), (2, .long v5_2), (4, .int v5_4)] → (8 + 1 - v5_4.toInt).toNat < n → W p l e (rmk 5 111) s m [.ref a0, .int y1].toArray below meth c H locs 0 0 (MQ below (th_Q D cT T (kd q) (th_R T (some (.inl (1, 8)))) [1, 12, 13, 14]) [.ref a0, .int y1].toArray s 0 0 (th_A T [1, 12, 13, 14])) (F0 m 5 ls []) := by
    intro n
    induction n with
    | zero => intro H locs ls v5_2 v5_4 iv5_4 hH hS hl hn; exact absurd hn (Nat.not_lt_zero _)
    | succ n ih5 =>
      intro H locs ls v5_2 v5_4 iv5_4 hH hS hl hn5
      refine lv_iload hx hb dX8_scanWord_5 (lv_at hl 3 rfl) ?_
      refine lv_bipush (v := 8) hx hb dX8_scanWord_7 (by decide) ?_
      refine lv_icmp_ge (tgt := 49) hx hb dX8_scanWord_9 (by decide) (fun c3 => ?_) (fun c3 => ?_)
      · skip
        have ir4 : IV v5_4 8 8 := iv_vR (iv_c (by decide) : IV 8 8 8) iv5_4 (iv_le c3) (by decide)
        exact J49 H locs ls v5_2 v5_4 (iv_w ir4 (by decide)) hH hS (lv_sub hl [0, 1, 2, 3] rfl)
      · skip
        have ir5 : IV v5_4 0 7 := iv_uL iv5_4 (iv_c (by decide) : IV 8 8 8) (iv_nle c3) (by decide)
        refine lv_aload_n hx hb dX8_scanWord_12 rfl (lv_at hl 0 rfl) ?_
        refine lv_iload_n hx hb dX8_scanWord_13 rfl (lv_at hl 1 rfl) ?_
        refine lv_iload hx hb dX8_scanWord_14 (lv_at hl 3 rfl) ?_
        refine lv_iadd hx hb dX8_scanWord_16 ?_
        refine lv_topi (fun x6 ex6 => ?_)
        have ix6 : IV x6 0 1606 := by rw [ex6]; exact iv_add j1 ir5 (by decide)
        refine th_callVg (n := 1) (As := [.int x6]) S hK hH hS (th_A.sub (by decide)) (m_X8_isLetter l D cT T q hq a0 t0 (x6) (iv_top _)) gm_559 gm_556 gm_558 gm_0 gm_114 (by decide +kernel) ⟨rfl, rfl, Nat.le_of_ble_eq_true rfl, Nat.le_of_ble_eq_true rfl⟩ t0 kd_1 rfl rfl hl.1 rfl (Nat.le_of_ble_eq_true rfl) dX8_scanWord_17 ⟨Nat.zero_le _, Nat.zero_le _⟩ (fun x7 H locs ix7 ox7 hH hS hF1 => ?_)
        refine lv_if_eq (tgt := 49) hx hb dX8_scanWord_20 (by decide) (fun c8 => ?_) (fun c8 => ?_)
        · skip
          have ir9 : IV x7 0 0 := iv_eL c8 (iv_c (by decide) : IV 0 0 0)
          exact J49 H locs ls v5_2 v5_4 (iv_w ir5 (by decide)) hH hS (lv_sub hl [0, 1, 2, 3] rfl)
        · skip
          have ir10 : IV x7 1 1 := iv_cutL ix7 (iv_c (by decide) : IV 0 0 0) c8 (by decide)
          have ir11 : IV x6 0 1599 := ox7 c8
          refine lv_lload_n hx hb dX8_scanWord_23 rfl (lv_at hl 2 rfl) ?_
          refine lv_bipush (v := 8) hx hb dX8_scanWord_24 (by decide) ?_
          refine lv_lshl (v := _) hx hb dX8_scanWord_26 rfl ?_
          refine lv_topl (fun lg12 elg12 => ?_)
          refine lv_aload_n hx hb dX8_scanWord_27 rfl (lv_at hl 0 rfl) ?_
          refine th_get S hK hH inG8 t0 kd_1 rfl 0 (by decide) gm_148 rfl rfl dX8_scanWord_28 (fun v13 hv13 fv13 => ?_)
          obtain ⟨rf14, rfl, trf14⟩ := th_V.ref hv13
          refine lv_iload_n hx hb dX8_scanWord_31 rfl (lv_at hl 1 rfl) ?_
          refine lv_iload hx hb dX8_scanWord_32 (lv_at hl 3 rfl) ?_
          refine lv_iadd hx hb dX8_scanWord_34 ?_
          refine lv_topi (fun x15 ex15 => ?_)
          have zx15 : x6 = x15 := ex6.trans ex15.symm
          subst zx15
          refine th_bald S hK hH trf14 kd_11 (th_in (hi := 1599) ir11 (by decide)) dX8_scanWord_35 (fun v16 hv16 => ?_)
          obtain ⟨x17, rfl, ix17⟩ := th_V.int hv16
          refine lv_sipush (v := 255) hx hb dX8_scanWord_36 (by decide) ?_
          refine lv_iand hx hb dX8_scanWord_39 ?_
          refine lv_topi (fun x18 ex18 => ?_)
          have ix18 : IV x18 0 255 := by rw [ex18]; exact iv_and (h2 := 255) (iv_w (iv_c (by decide) : IV 255 255 255) (by decide)) (by decide)
          refine lv_i2l (v := _) hx hb dX8_scanWord_40 rfl ?_
          refine lv_topl (fun lg19 elg19 => ?_)
          refine lv_lor hx hb dX8_scanWord_41 ?_
          refine lv_topl (fun lg20 elg20 => ?_)
          refine lv_lstore_n (lv' := [(2, .long lg20), (0, .ref a0), (1, .int y1), (4, .int v5_4)]) hx hb dX8_scanWord_42 rfl hl (by decide) rfl (fun ls hl => ?_)
          refine th_iinc S dX8_scanWord_43 hl (k := 3) rfl (by decide) ir5 (by decide) (fun x21 ls ex21 ix21 hl => ?_)
          have hl : lv_has ls 5 [(4, .int x21), (2, .long lg20), (0, .ref a0), (1, .int y1)] := hl
          have ix21 : IV x21 1 8 := ix21
          refine lv_goto (tgt := 5) hx hb dX8_scanWord_46 (by decide) ?_
          exact ih5 H locs ls lg20 x21 (iv_w ix21 (by decide)) hH hS (lv_sub hl [2, 3, 1, 0] rfl) (th_up iv5_4 ex21 (by decide) hn5)
  have J0 : ∀ (H : Heap) (locs : List Loc) (ls : Array Slot), th_H D cT T (kd q) H → va_S (th_A T [1, 12, 13, 14]) s.heap H locs → lv_has ls 5 [(0, .ref a0), (1, .int y1)] → W p l e (rmk 5 111) s m [.ref a0, .int y1].toArray below meth c H locs 0 0 (MQ below (th_Q D cT T (kd q) (th_R T (some (.inl (1, 8)))) [1, 12, 13, 14]) [.ref a0, .int y1].toArray s 0 0 (th_A T [1, 12, 13, 14])) (F0 m 0 ls []) := by
    intro H locs ls hH hS hl
    refine lv_lconst (v := 0) hx hb dX8_scanWord_0 (by decide) ?_
    refine lv_lstore_n (lv' := [(2, .long 0), (0, .ref a0), (1, .int y1)]) hx hb dX8_scanWord_1 rfl hl (by decide) rfl (fun ls hl => ?_)
    refine lv_iconst (v := 0) hx hb dX8_scanWord_2 (by decide) ?_
    refine lv_istore (lv' := [(4, .int 0), (2, .long 0), (0, .ref a0), (1, .int y1)]) hx hb dX8_scanWord_3 hl (by decide) rfl (fun ls hl => ?_)
    exact J5 ((8 + 1 - Int32.toInt 0).toNat + 1) H locs ls 0 0 (iv_w (iv_c (by decide) : IV 0 0 0) (by decide)) hH hS (lv_sub hl [2, 3, 1, 0] rfl) (Nat.lt_succ_self _)
  exact J0 s.heap [] ls hH va_S.rf hl

set_option maxRecDepth 100000 in
theorem m_X8_scan (l : Launch) (D : va_G) (cT : Nat → ClassId) (T : Nat → Option Nat) (q : Nat → Int) (adK adV : Nat → Nat) (hq : qok q) (a0 : Nat) (t0 : T a0 = some 1) : th_MetS l D cT T (kd q) adK adV yX8_scan cX8_scan 4 none (rmk 6 135) [.ref a0] (th_R T none) [1, 12, 13, 14] := by
  refine th_startS (by decide) (Nat.le_of_ble_eq_true rfl) ?_
  intro p e s m below meth c ls S hK hH hE hr hlocks hnm hl
  have hx := S.1
  have hb := S.2.1
  have hl : lv_has ls 4 [(0, .ref a0)] := hl
  have J142 : ∀ (H : Heap) (locs : List Loc) (ls : Array Slot), th_H D cT T (kd q) H → va_S (th_A T [1, 12, 13, 14]) s.heap H locs → lv_has ls 4 [(0, .ref a0)] → W p l e (rmk 6 135) s m [.ref a0].toArray below meth c H locs 0 0 (MQ below (th_Q D cT T (kd q) (th_R T none) [1, 12, 13, 14]) [.ref a0].toArray s 0 0 (th_A T [1, 12, 13, 14])) (F0 m 142 ls []) := by
    intro H locs ls hH hS hl
    refine lv_aload_n hx hb dX8_scan_142 rfl (lv_at hl 0 rfl) ?_
    refine lv_iconst (v := 0) hx hb dX8_scan_143 (by decide) ?_
    refine lv_aload_n hx hb dX8_scan_144 rfl (lv_at hl 0 rfl) ?_
    refine th_get S hK hH inG8 t0 kd_1 rfl 4 (by decide) gm_155 rfl rfl dX8_scan_145 (fun v1 hv1 fv1 => ?_)
    obtain ⟨x2, rfl, ix2⟩ := th_V.int hv1
    refine lv_lconst (v := 0) hx hb dX8_scan_148 (by decide) ?_
    refine th_callVv (n := 3) (As := [.int 0, .int x2, .long 0]) S hK hH hS (th_A.sub (by decide)) (m_X8_addToken l D cT T q hq a0 t0 (0) (iv_top _) (x2) (iv_top _) (0)) gm_623 gm_620 gm_622 gm_3 gm_114 (by decide +kernel) ⟨rfl, rfl, Nat.le_of_ble_eq_true rfl, Nat.le_of_ble_eq_true rfl⟩ t0 kd_1 rfl rfl hl.1 rfl (Nat.le_of_ble_eq_true rfl) dX8_scan_149 ⟨Nat.zero_le _, Nat.zero_le _⟩ (fun H locs hH hS hF1 => ?_)
    exact th_vret S hK hH hS hr hlocks rfl dX8_scan_152
  have J9 : ∀ (n : Nat) (H : Heap) (locs : List Loc) (ls : Array Slot) (v9_1 : Int32) (v9_2 : Int32), IV v9_1 0 100000 → IV v9_2 0 1600 → th_H D cT T (kd q) H → va_S (th_A T [1, 12, 13, 14]) s.heap H locs → lv_has ls 4 [(0, .ref a0), (1, .int v9_1), (2, .int v9_2)] → (1600 + 1 - v9_2.toInt).toNat < n → W p l e (rmk 6 135) s m [.ref a0].toArray below meth c H locs 0 0 (MQ below (th_Q D cT T (kd q) (th_R T none) [1, 12, 13, 14]) [.ref a0].toArray s 0 0 (th_A T [1, 12, 13, 14])) (F0 m 9 ls []) := by
    intro n
    induction n with
    | zero => intro H locs ls v9_1 v9_2 iv9_1 iv9_2 hH hS hl hn; exact absurd hn (Nat.not_lt_zero _)
    | succ n ih9 =>
      intro H locs ls v9_1 v9_2 iv9_1 iv9_2 hH hS hl hn9
      have J136 : ∀ (H : Heap) (locs : List Loc) (ls : Array Slot) (v136_1 : Int32), IV v136_1 1 1607 → IV v9_2 0 1599 → th_H D cT T (kd q) H → va_S (th_A T [1, 12, 13, 14]) s.heap H locs → lv_has ls 4 [(0, .ref a0), (1, .int v136_1), (2, .int v9_2)] → W p l e (rmk 6 135) s m [.ref a0].toArray below meth c H locs 0 0 (MQ below (th_Q D cT T (kd q) (th_R T none) [1, 12, 13, 14]) [.ref a0].toArray s 0 0 (th_A T [1, 12, 13, 14])) (F0 m 136 ls []) := by
        intro H locs ls v136_1 iv136_1 f136_v9_2 hH hS hl
        refine th_iinc S dX8_scan_136 hl (k := 2) rfl (by decide) f136_v9_2 (by decide) (fun x3 ls ex3 ix3 hl => ?_)
        have hl : lv_has ls 4 [(2, .int x3), (0, .ref a0), (1, .int v136_1)] := hl
        have ix3 : IV x3 1 1600 := ix3
        refine lv_goto (tgt := 9) hx hb dX8_scan_139 (by decide) ?_
        exact ih9 H locs ls v136_1 x3 (iv_w iv136_1 (by decide)) (iv_w ix3 (by decide)) hH hS (lv_sub hl [1, 2, 0] rfl) (th_up iv9_2 ex3 (by decide) hn9)
      have J86 : ∀ (H : Heap) (locs : List Loc) (ls : Array Slot) (v86_3 : Int32) (u86_a0_4 : Int32), IV v86_3 0 255 → ¬ v86_3 = 10 → ¬ v86_3 = 32 → IV u86_a0_4 1 1600 → th_fa D H a0 8 4 (.int u86_a0_4) → IV v9_1 0 1599 → IV v9_2 0 1599 → th_H D cT T (kd q) H → va_S (th_A T [1, 12, 13, 14]) s.heap H locs → lv_has ls 4 [(0, .ref a0), (1, .int v9_1), (2, .int v9_2), (3, .int v86_3)] → W p l e (rmk 6 135) s m [.ref a0].toArray below meth c H locs 0 0 (MQ below (th_Q D cT T (kd q) (th_R T none) [1, 12, 13, 14]) [.ref a0].toArray s 0 0 (th_A T [1, 12, 13, 14])) (F0 m 86 ls []) := by
        intro H locs ls v86_3 u86_a0_4 iv86_3 d86_3_10 d86_3_32 iu86_a0_4 gu86_a0_4 f86_v9_1 f86_v9_2 hH hS hl
        refine lv_aload_n hx hb dX8_scan_86 rfl (lv_at hl 0 rfl) ?_
        refine lv_iload_n hx hb dX8_scan_87 rfl (lv_at hl 1 rfl) ?_
        refine th_callVg (n := 1) (As := [.int v9_1]) S hK hH hS (th_A.sub (by decide)) (m_X8_isDigit l D cT T q hq a0 t0 (v9_1) (iv_top _)) gm_563 gm_560 gm_562 gm_1 gm_114 (by decide +kernel) ⟨rfl, rfl, Nat.le_of_ble_eq_true rfl, Nat.le_of_ble_eq_true rfl⟩ t0 kd_1 rfl rfl hl.1 rfl (Nat.le_of_ble_eq_true rfl) dX8_scan_88 ⟨Nat.zero_le _, Nat.zero_le _⟩ (fun x4 H locs ix4 ox4 hH hS hF1 => ?_)
        have f5 := gu86_a0_4.kept (hF1 _ gu86_a0_4.lt (th_off t0 (by decide)))
        refine lv_if_eq (tgt := 105) hx hb dX8_scan_91 (by decide) (fun c6 => ?_) (fun c6 => ?_)
        · skip
          have ir7 : IV x4 0 0 := iv_eL c6 (iv_c (by decide) : IV 0 0 0)
          refine va_ldcS hx hb S.2.2.2.1 hE.2.2 dX8_scan_105 ?_
          refine lv_iload_n hx hb dX8_scan_107 rfl (lv_at hl 3 rfl) ?_
          refine lv_i2c (v := _) hx hb dX8_scan_108 rfl ?_
          refine lv_topi (fun x8 ex8 => ?_)
          have ix8 := iv_top x8
          refine th_callVJ (n := 1) (i := 1) (As := [.int x8]) S (hE.at _) hS (by decide) (s_J0_indexOf_0f7a4 l adK adV 1 (by decide) x8) gm_635 gm_632 gm_633 gm_634 gm_125 (by decide +kernel) ⟨rfl, rfl, Nat.le_of_ble_eq_true rfl, Nat.le_of_ble_eq_true rfl⟩ rfl hl.1 rfl (Nat.le_of_ble_eq_true rfl) dX8_scan_109 ⟨Nat.zero_le _, Nat.zero_le _⟩ (fun v H locs hv hS hk => ?_)
          have hH := hH.same (fun a k ha => hk a (hH.dom ha))
          obtain ⟨x9, rfl, ix9⟩ := hv
          show W p l e (rmk 6 135) s m [.ref a0].toArray below meth c H locs 0 0 (MQ below (th_Q D cT T (kd q) (th_R T none) [1, 12, 13, 14]) [.ref a0].toArray s 0 0 (th_A T [1, 12, 13, 14])) (F0 m 112 ls [.int x9])
          have f10 := f5.kept (hk _ f5.lt)
          refine lv_if_lt (tgt := 128) hx hb dX8_scan_112 (by decide) (fun c11 => ?_) (fun c11 => ?_)
          · skip
            have ir12 : IV x9 (-2147483648) (-1) := iv_uL ix9 (iv_c (by decide) : IV 0 0 0) (iv_lt c11) (by decide)
            refine lv_aload_n hx hb dX8_scan_128 rfl (lv_at hl 0 rfl) ?_
            refine lv_iconst (v := 1) hx hb dX8_scan_129 (by decide) ?_
            refine lv_iload_n hx hb dX8_scan_130 rfl (lv_at hl 1 rfl) ?_
            refine lv_lconst (v := 0) hx hb dX8_scan_131 (by decide) ?_
            refine th_callVv (n := 3) (As := [.int 1, .int v9_1, .long 0]) S hK hH hS (th_A.sub (by decide)) (m_X8_addToken l D cT T q hq a0 t0 (1) (iv_top _) (v9_1) (iv_top _) (0)) gm_623 gm_620 gm_622 gm_3 gm_114 (by decide +kernel) ⟨rfl, rfl, Nat.le_of_ble_eq_true rfl, Nat.le_of_ble_eq_true rfl⟩ t0 kd_1 rfl rfl hl.1 rfl (Nat.le_of_ble_eq_true rfl) dX8_scan_132 ⟨Nat.zero_le _, Nat.zero_le _⟩ (fun H locs hH hS hF1 => ?_)
            exact th_vret S hK hH hS hr hlocks rfl dX8_scan_135
          · skip
            have ir13 : IV x9 0 2147483647 := iv_vR (iv_c (by decide) : IV 0 0 0) ix9 (iv_nlt c11) (by decide)
            refine lv_aload_n hx hb dX8_scan_115 rfl (lv_at hl 0 rfl) ?_
            refine lv_iload_n hx hb dX8_scan_116 rfl (lv_at hl 3 rfl) ?_
            refine lv_iload_n hx hb dX8_scan_117 rfl (lv_at hl 1 rfl) ?_
            refine lv_lconst (v := 0) hx hb dX8_scan_118 (by decide) ?_
            refine th_callVv (n := 3) (As := [.int v86_3, .int v9_1, .long 0]) S hK hH hS (th_A.sub (by decide)) (m_X8_addToken l D cT T q hq a0 t0 (v86_3) (iv_top _) (v9_1) (iv_top _) (0)) gm_623 gm_620 gm_622 gm_3 gm_114 (by decide +kernel) ⟨rfl, rfl, Nat.le_of_ble_eq_true rfl, Nat.le_of_ble_eq_true rfl⟩ t0 kd_1 rfl rfl hl.1 rfl (Nat.le_of_ble_eq_true rfl) dX8_scan_119 ⟨Nat.zero_le _, Nat.zero_le _⟩ (fun H locs hH hS hF1 => ?_)
            refine th_iinc S dX8_scan_122 hl (k := 1) rfl (by decide) f86_v9_1 (by decide) (fun x14 ls ex14 ix14 hl => ?_)
            have hl : lv_has ls 4 [(1, .int x14), (0, .ref a0), (2, .int v9_2), (3, .int v86_3)] := hl
            have ix14 : IV x14 1 1600 := ix14
            refine lv_goto (tgt := 136) hx hb dX8_scan_125 (by decide) ?_
            exact J136 H locs ls x14 (iv_w ix14 (by decide)) f86_v9_2 hH hS (lv_sub hl [1, 0, 2] rfl)
        · skip
          have ir15 : IV x4 1 1 := iv_cutL ix4 (iv_c (by decide) : IV 0 0 0) c6 (by decide)
          have ir16 : IV v9_1 0 1599 := ox4 c6
          refine lv_iload_n hx hb dX8_scan_94 rfl (lv_at hl 1 rfl) ?_
          refine lv_aload_n hx hb dX8_scan_95 rfl (lv_at hl 0 rfl) ?_
          refine lv_iload_n hx hb dX8_scan_96 rfl (lv_at hl 1 rfl) ?_
          refine th_callVi (n := 1) (As := [.int v9_1]) S hK hH hS (th_A.sub (by decide)) (m_X8_scanNumber l D cT T q hq a0 t0 (v9_1) ir16) gm_630 gm_627 gm_629 gm_4 gm_114 (by decide +kernel) ⟨rfl, rfl, Nat.le_of_ble_eq_true rfl, Nat.le_of_ble_eq_true rfl⟩ t0 kd_1 rfl rfl hl.1 rfl (Nat.le_of_ble_eq_true rfl) dX8_scan_97 ⟨Nat.zero_le _, Nat.zero_le _⟩ (fun x17 H locs ix17 hH hS hF1 => ?_)
          refine lv_iadd hx hb dX8_scan_100 ?_
          refine lv_topi (fun x18 ex18 => ?_)
          have ix18 : IV x18 1 1603 := by rw [ex18]; exact iv_add ir16 ix17 (by decide)
          refine lv_istore_n (lv' := [(1, .int x18), (0, .ref a0), (2, .int v9_2), (3, .int v86_3)]) hx hb dX8_scan_101 rfl hl (by decide) rfl (fun ls hl => ?_)
          refine lv_goto (tgt := 136) hx hb dX8_scan_102 (by decide) ?_
          exact J136 H locs ls x18 (iv_w ix18 (by decide)) f86_v9_2 hH hS (lv_sub hl [1, 0, 2] rfl)
      have J75 : ∀ (H : Heap) (locs : List Loc) (ls : Array Slot) (u75_a0_4 : Int32), IV u75_a0_4 1 1600 → th_fa D H a0 8 4 (.int u75_a0_4) → IV v9_1 0 1599 → IV v9_2 0 1599 → th_H D cT T (kd q) H → va_S (th_A T [1, 12, 13, 14]) s.heap H locs → lv_has ls 4 [(0, .ref a0), (1, .int v9_1), (2, .int v9_2)] → W p l e (rmk 6 135) s m [.ref a0].toArray below meth c H locs 0 0 (MQ below (th_Q D cT T (kd q) (th_R T none) [1, 12, 13, 14]) [.ref a0].toArray s 0 0 (th_A T [1, 12, 13, 14])) (F0 m 75 ls []) := by
        intro H locs ls u75_a0_4 iu75_a0_4 gu75_a0_4 f75_v9_1 f75_v9_2 hH hS hl
        refine lv_iload_n hx hb dX8_scan_75 rfl (lv_at hl 1 rfl) ?_
        refine lv_aload_n hx hb dX8_scan_76 rfl (lv_at hl 0 rfl) ?_
        refine lv_iload_n hx hb dX8_scan_77 rfl (lv_at hl 1 rfl) ?_
        refine th_callVS (n := 1) (As := [.int v9_1]) S hK hH hE hS (th_A.sub (by decide)) (m_X8_scanWord l D cT T q adK adV hq a0 t0 (v9_1) f75_v9_1) gm_567 gm_564 gm_566 gm_2 gm_114 (by decide +kernel) ⟨rfl, rfl, Nat.le_of_ble_eq_true rfl, Nat.le_of_ble_eq_true rfl⟩ t0 kd_1 rfl rfl hl.1 rfl (Nat.le_of_ble_eq_true rfl) dX8_scan_78 ⟨Nat.zero_le _, Nat.zero_le _⟩ (fun v H locs hv hH hS hF1 => ?_)
        obtain ⟨wx19, rfl, hwx19⟩ := hv
        obtain ⟨x19, rfl, ix19⟩ := th_V.int hwx19
        show W p l e (rmk 6 135) s m [.ref a0].toArray below meth c H locs 0 0 (MQ below (th_Q D cT T (kd q) (th_R T none) [1, 12, 13, 14]) [.ref a0].toArray s 0 0 (th_A T [1, 12, 13, 14])) (F0 m 81 ls [.int x19, .int v9_1])
        refine lv_iadd hx hb dX8_scan_81 ?_
        refine lv_topi (fun x20 ex20 => ?_)
        have ix20 : IV x20 1 1607 := by rw [ex20]; exact iv_add f75_v9_1 ix19 (by decide)
        refine lv_istore_n (lv' := [(1, .int x20), (0, .ref a0), (2, .int v9_2)]) hx hb dX8_scan_82 rfl hl (by decide) rfl (fun ls hl => ?_)
        refine lv_goto (tgt := 136) hx hb dX8_scan_83 (by decide) ?_
        exact J136 H locs ls x20 ix20 f75_v9_2 hH hS (lv_sub hl [1, 0, 2] rfl)
      have J47 : ∀ (H : Heap) (locs : List Loc) (ls : Array Slot) (u47_a0_4 : Int32), IV u47_a0_4 1 1600 → th_fa D H a0 8 4 (.int u47_a0_4) → IV v9_1 0 1599 → IV v9_2 0 1599 → th_H D cT T (kd q) H → va_S (th_A T [1, 12, 13, 14]) s.heap H locs → lv_has ls 4 [(0, .ref a0), (1, .int v9_1), (2, .int v9_2)] → W p l e (rmk 6 135) s m [.ref a0].toArray below meth c H locs 0 0 (MQ below (th_Q D cT T (kd q) (th_R T none) [1, 12, 13, 14]) [.ref a0].toArray s 0 0 (th_A T [1, 12, 13, 14])) (F0 m 47 ls []) := by
        intro H locs ls u47_a0_4 iu47_a0_4 gu47_a0_4 f47_v9_1 f47_v9_2 hH hS hl
        refine th_iinc S dX8_scan_47 hl (k := 1) rfl (by decide) f47_v9_1 (by decide) (fun x21 ls ex21 ix21 hl => ?_)
        have hl : lv_has ls 4 [(1, .int x21), (0, .ref a0), (2, .int v9_2)] := hl
        have ix21 : IV x21 1 1600 := ix21
        refine lv_goto (tgt := 136) hx hb dX8_scan_50 (by decide) ?_
        exact J136 H locs ls x21 (iv_w ix21 (by decide)) f47_v9_2 hH hS (lv_sub hl [1, 0, 2] rfl)
      refine lv_iload_n hx hb dX8_scan_9 rfl (lv_at hl 2 rfl) ?_
      refine lv_sipush (v := 1600) hx hb dX8_scan_10 (by decide) ?_
      refine lv_icmp_ge (tgt := 142) hx hb dX8_scan_13 (by decide) (fun c22 => ?_) (fun c22 => ?_)
      · skip
        have ir23 : IV v9_2 1600 1600 := iv_vR (iv_c (by decide) : IV 1600 1600 1600) iv9_2 (iv_le c22) (by decide)
        exact J142 H locs ls  hH hS (lv_sub hl [0] rfl)
      · skip
        have ir24 : IV v9_2 0 1599 := iv_uL iv9_2 (iv_c (by decide) : IV 1600 1600 1600) (iv_nle c22) (by decide)
        refine lv_iload_n hx hb dX8_scan_16 rfl (lv_at hl 1 rfl) ?_
        refine lv_aload_n hx hb dX8_scan_17 rfl (lv_at hl 0 rfl) ?_
        refine th_get S hK hH inG8 t0 kd_1 rfl 4 (by decide) gm_155 rfl rfl dX8_scan_18 (fun v25 hv25 fv25 => ?_)
        obtain ⟨x26, rfl, ix26⟩ := th_V.int hv25
        refine lv_icmp_ge (tgt := 142) hx hb dX8_scan_21 (by decide) (fun c27 => ?_) (fun c27 => ?_)
        · skip
          exact J142 H locs ls  hH hS (lv_sub hl [0] rfl)
        · skip
          have ir28 : IV v9_1 0 1599 := iv_uL iv9_1 ix26 (iv_nle c27) (by decide)
          have ir29 : IV x26 1 1600 := iv_uR iv9_1 ix26 (iv_nle c27) (by decide)
          refine lv_aload_n hx hb dX8_scan_24 rfl (lv_at hl 0 rfl) ?_
          refine th_get S hK hH inG8 t0 kd_1 rfl 0 (by decide) gm_148 rfl rfl dX8_scan_25 (fun v30 hv30 fv30 => ?_)
          obtain ⟨rf31, rfl, trf31⟩ := th_V.ref hv30
          refine lv_iload_n hx hb dX8_scan_28 rfl (lv_at hl 1 rfl) ?_
          refine th_bald S hK hH trf31 kd_11 (th_in (hi := 1599) ir28 (by decide)) dX8_scan_29 (fun v32 hv32 => ?_)
          obtain ⟨x33, rfl, ix33⟩ := th_V.int hv32
          refine lv_sipush (v := 255) hx hb dX8_scan_30 (by decide) ?_
          refine lv_iand hx hb dX8_scan_33 ?_
          refine lv_topi (fun x34 ex34 => ?_)
          have ix34 : IV x34 0 255 := by rw [ex34]; exact iv_and (h2 := 255) (iv_w (iv_c (by decide) : IV 255 255 255) (by decide)) (by decide)
          refine lv_istore_n (lv' := [(3, .int x34), (0, .ref a0), (1, .int v9_1), (2, .int v9_2)]) hx hb dX8_scan_34 rfl hl (by decide) rfl (fun ls hl => ?_)
          refine lv_iload_n hx hb dX8_scan_35 rfl (lv_at hl 0 rfl) ?_
          refine lv_bipush (v := 32) hx hb dX8_scan_36 (by decide) ?_
          refine lv_icmp_eq (tgt := 47) hx hb dX8_scan_38 (by decide) (fun c35 => ?_) (fun c35 => ?_)
          · skip
            have ir36 : IV x34 32 32 := iv_eL c35 (iv_c (by decide) : IV 32 32 32)
            exact J47 H locs ls x26 ir29 fv25 ir28 ir24 hH hS (lv_sub hl [1, 2, 3] rfl)
          · skip
            refine lv_iload_n hx hb dX8_scan_41 rfl (lv_at hl 0 rfl) ?_
            refine lv_bipush (v := 10) hx hb dX8_scan_42 (by decide) ?_
            refine lv_icmp_ne (tgt := 53) hx hb dX8_scan_44 (by decide) (fun c37 => ?_) (fun c37 => ?_)
            · skip
              refine lv_aload_n hx hb dX8_scan_53 rfl (lv_at hl 1 rfl) ?_
              refine lv_iload_n hx hb dX8_scan_54 rfl (lv_at hl 2 rfl) ?_
              refine th_callVg (n := 1) (As := [.int v9_1]) S hK hH hS (th_A.sub (by decide)) (m_X8_isLetter l D cT T q hq a0 t0 (v9_1) (iv_top _)) gm_559 gm_556 gm_558 gm_0 gm_114 (by decide +kernel) ⟨rfl, rfl, Nat.le_of_ble_eq_true rfl, Nat.le_of_ble_eq_true rfl⟩ t0 kd_1 rfl rfl hl.1 rfl (Nat.le_of_ble_eq_true rfl) dX8_scan_55 ⟨Nat.zero_le _, Nat.zero_le _⟩ (fun x38 H locs ix38 ox38 hH hS hF1 => ?_)
              have f39 := fv25.kept (hF1 _ fv25.lt (th_off t0 (by decide)))
              refine lv_if_eq (tgt := 86) hx hb dX8_scan_58 (by decide) (fun c40 => ?_) (fun c40 => ?_)
              · skip
                have ir41 : IV x38 0 0 := iv_eL c40 (iv_c (by decide) : IV 0 0 0)
                exact J86 H locs ls x34 x26 ix34 c37 c35 ir29 f39 ir28 ir24 hH hS (lv_sub hl [1, 2, 3, 0] rfl)
              · skip
                have ir42 : IV x38 1 1 := iv_cutL ix38 (iv_c (by decide) : IV 0 0 0) c40 (by decide)
                have ir43 : IV v9_1 0 1599 := ox38 c40
                refine lv_iload_n hx hb dX8_scan_61 rfl (lv_at hl 2 rfl) ?_
                refine lv_if_le (tgt := 75) hx hb dX8_scan_62 (by decide) (fun c44 => ?_) (fun c44 => ?_)
                · skip
                  have ir45 : IV v9_1 0 0 := iv_vL ir43 (iv_c (by decide) : IV 0 0 0) (iv_le c44) (by decide)
                  exact J75 H locs ls x26 ir29 f39 (iv_w ir45 (by decide)) ir24 hH hS (lv_sub hl [1, 2, 3] rfl)
                · skip
                  have ir46 : IV v9_1 1 1599 := iv_uR (iv_c (by decide) : IV 0 0 0) ir43 (iv_nle c44) (by decide)
                  refine lv_aload_n hx hb dX8_scan_65 rfl (lv_at hl 1 rfl) ?_
                  refine lv_iload_n hx hb dX8_scan_66 rfl (lv_at hl 2 rfl) ?_
                  refine lv_iconst (v := 1) hx hb dX8_scan_67 (by decide) ?_
                  refine lv_isub hx hb dX8_scan_68 ?_
                  refine lv_topi (fun x47 ex47 => ?_)
                  have ix47 : IV x47 0 1598 := by rw [ex47]; exact iv_sub ir46 (iv_c (by decide) : IV 1 1 1) (by decide)
                  refine th_callVg (n := 1) (As := [.int x47]) S hK hH hS (th_A.sub (by decide)) (m_X8_isDigit l D cT T q hq a0 t0 (x47) (iv_top _)) gm_563 gm_560 gm_562 gm_1 gm_114 (by decide +kernel) ⟨rfl, rfl, Nat.le_of_ble_eq_true rfl, Nat.le_of_ble_eq_true rfl⟩ t0 kd_1 rfl rfl hl.1 rfl (Nat.le_of_ble_eq_true rfl) dX8_scan_69 ⟨Nat.zero_le _, Nat.zero_le _⟩ (fun x48 H locs ix48 ox48 hH hS hF1 => ?_)
                  have f49 := f39.kept (hF1 _ f39.lt (th_off t0 (by decide)))
                  refine lv_if_ne (tgt := 86) hx hb dX8_scan_72 (by decide) (fun c50 => ?_) (fun c50 => ?_)
                  · skip
                    have ir51 : IV x48 1 1 := iv_cutL ix48 (iv_c (by decide) : IV 0 0 0) c50 (by decide)
                    exact J86 H locs ls x34 x26 ix34 c37 c35 ir29 f49 (iv_w ir46 (by decide)) ir24 hH hS (lv_sub hl [1, 2, 3, 0] rfl)
                  · skip
                    have ir52 : IV x48 0 0 := iv_eL c50 (iv_c (by decide) : IV 0 0 0)
                    exact J75 H locs ls x26 ir29 f49 (iv_w ir46 (by decide)) ir24 hH hS (lv_sub hl [1, 2, 3] rfl)
            · skip
              have ir53 : IV x34 10 10 := iv_eL c37 (iv_c (by decide) : IV 10 10 10)
              exact J47 H locs ls x26 ir29 fv25 ir28 ir24 hH hS (lv_sub hl [1, 2, 3] rfl)
  have J0 : ∀ (H : Heap) (locs : List Loc) (ls : Array Slot), th_H D cT T (kd q) H → va_S (th_A T [1, 12, 13, 14]) s.heap H locs → lv_has ls 4 [(0, .ref a0)] → W p l e (rmk 6 135) s m [.ref a0].toArray below meth c H locs 0 0 (MQ below (th_Q D cT T (kd q) (th_R T none) [1, 12, 13, 14]) [.ref a0].toArray s 0 0 (th_A T [1, 12, 13, 14])) (F0 m 0 ls []) := by
    intro H locs ls hH hS hl
    refine lv_aload_n hx hb dX8_scan_0 rfl (lv_at hl 0 rfl) ?_
    refine lv_iconst (v := 0) hx hb dX8_scan_1 (by decide) ?_
    refine th_put S hK hH hS ⟨1, by decide, t0⟩ inG8 tyX8 tyX8_ok nmX8 t0 kd_1 rfl 5 (by decide) gm_158 rfl rfl rfl rfl (th_iv (iv_w (iv_c (by decide) : IV 0 0 0) (by decide))) (fun _ _ => trivial) (ty := .int) (by decide +kernel) rfl rfl dX8_scan_2 (fun H locs hH hS hq1 hp1 => ?_)
    refine lv_iconst (v := 0) hx hb dX8_scan_5 (by decide) ?_
    refine lv_istore_n (lv' := [(1, .int 0), (0, .ref a0)]) hx hb dX8_scan_6 rfl hl (by decide) rfl (fun ls hl => ?_)
    refine lv_iconst (v := 0) hx hb dX8_scan_7 (by decide) ?_
    refine lv_istore_n (lv' := [(2, .int 0), (1, .int 0), (0, .ref a0)]) hx hb dX8_scan_8 rfl hl (by decide) rfl (fun ls hl => ?_)
    exact J9 ((1600 + 1 - Int32.toInt 0).toNat + 1) H locs ls 0 0 (iv_w (iv_c (by decide) : IV 0 0 0) (by decide)) (iv_w (iv_c (by decide) : IV 0 0 0) (by decide)) hH hS (lv_sub hl [2, 1, 0] rfl) (Nat.lt_succ_self _)
  exact J0 s.heap [] ls hH va_S.rf hl
