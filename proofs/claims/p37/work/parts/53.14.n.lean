theorem dX11_wordHere_0 : decode cX11_wordHere 0 = .ok (.aload_n 0, 1) := by decide +kernel
theorem dX11_wordHere_1 : decode cX11_wordHere 1 = .ok (.ldc2_w 165, 3) := by decide +kernel
theorem dX11_wordHere_4 : decode cX11_wordHere 4 = .ok (.invokevirtual 253, 3) := by decide +kernel
theorem dX11_wordHere_7 : decode cX11_wordHere 7 = .ok (.ifCond .eq 6, 3) := by decide +kernel
theorem dX11_wordHere_10 : decode cX11_wordHere 10 = .ok (.bipush 115, 2) := by decide +kernel
theorem dX11_wordHere_12 : decode cX11_wordHere 12 = .ok (.ireturn, 1) := by decide +kernel
theorem dX11_wordHere_13 : decode cX11_wordHere 13 = .ok (.aload_n 0, 1) := by decide +kernel
theorem dX11_wordHere_14 : decode cX11_wordHere 14 = .ok (.ldc2_w 191, 3) := by decide +kernel
theorem dX11_wordHere_17 : decode cX11_wordHere 17 = .ok (.invokevirtual 253, 3) := by decide +kernel
theorem dX11_wordHere_20 : decode cX11_wordHere 20 = .ok (.ifCond .eq 6, 3) := by decide +kernel
theorem dX11_wordHere_23 : decode cX11_wordHere 23 = .ok (.bipush 121, 2) := by decide +kernel
theorem dX11_wordHere_25 : decode cX11_wordHere 25 = .ok (.ireturn, 1) := by decide +kernel
theorem dX11_wordHere_26 : decode cX11_wordHere 26 = .ok (.aload_n 0, 1) := by decide +kernel
theorem dX11_wordHere_27 : decode cX11_wordHere 27 = .ok (.ldc2_w 193, 3) := by decide +kernel
theorem dX11_wordHere_30 : decode cX11_wordHere 30 = .ok (.invokevirtual 253, 3) := by decide +kernel
theorem dX11_wordHere_33 : decode cX11_wordHere 33 = .ok (.ifCond .eq 6, 3) := by decide +kernel
theorem dX11_wordHere_36 : decode cX11_wordHere 36 = .ok (.bipush 101, 2) := by decide +kernel
theorem dX11_wordHere_38 : decode cX11_wordHere 38 = .ok (.ireturn, 1) := by decide +kernel
theorem dX11_wordHere_39 : decode cX11_wordHere 39 = .ok (.aload_n 0, 1) := by decide +kernel
theorem dX11_wordHere_40 : decode cX11_wordHere 40 = .ok (.ldc2_w 195, 3) := by decide +kernel
theorem dX11_wordHere_43 : decode cX11_wordHere 43 = .ok (.invokevirtual 253, 3) := by decide +kernel
theorem dX11_wordHere_46 : decode cX11_wordHere 46 = .ok (.ifCond .eq 6, 3) := by decide +kernel
theorem dX11_wordHere_49 : decode cX11_wordHere 49 = .ok (.bipush 99, 2) := by decide +kernel
theorem dX11_wordHere_51 : decode cX11_wordHere 51 = .ok (.ireturn, 1) := by decide +kernel
theorem dX11_wordHere_52 : decode cX11_wordHere 52 = .ok (.aload_n 0, 1) := by decide +kernel
theorem dX11_wordHere_53 : decode cX11_wordHere 53 = .ok (.ldc2_w 175, 3) := by decide +kernel
theorem dX11_wordHere_56 : decode cX11_wordHere 56 = .ok (.invokevirtual 253, 3) := by decide +kernel
theorem dX11_wordHere_59 : decode cX11_wordHere 59 = .ok (.ifCond .eq 6, 3) := by decide +kernel
theorem dX11_wordHere_62 : decode cX11_wordHere 62 = .ok (.bipush 122, 2) := by decide +kernel
theorem dX11_wordHere_64 : decode cX11_wordHere 64 = .ok (.ireturn, 1) := by decide +kernel
theorem dX11_wordHere_65 : decode cX11_wordHere 65 = .ok (.aload_n 0, 1) := by decide +kernel
theorem dX11_wordHere_66 : decode cX11_wordHere 66 = .ok (.ldc2_w 177, 3) := by decide +kernel
theorem dX11_wordHere_69 : decode cX11_wordHere 69 = .ok (.invokevirtual 253, 3) := by decide +kernel
theorem dX11_wordHere_72 : decode cX11_wordHere 72 = .ok (.ifCond .eq 6, 3) := by decide +kernel
theorem dX11_wordHere_75 : decode cX11_wordHere 75 = .ok (.bipush 119, 2) := by decide +kernel
theorem dX11_wordHere_77 : decode cX11_wordHere 77 = .ok (.ireturn, 1) := by decide +kernel
theorem dX11_wordHere_78 : decode cX11_wordHere 78 = .ok (.aload_n 0, 1) := by decide +kernel
theorem dX11_wordHere_79 : decode cX11_wordHere 79 = .ok (.ldc2_w 197, 3) := by decide +kernel
theorem dX11_wordHere_82 : decode cX11_wordHere 82 = .ok (.invokevirtual 253, 3) := by decide +kernel
theorem dX11_wordHere_85 : decode cX11_wordHere 85 = .ok (.ifCond .eq 8, 3) := by decide +kernel
theorem dX11_wordHere_88 : decode cX11_wordHere 88 = .ok (.bipush 104, 2) := by decide +kernel
theorem dX11_wordHere_90 : decode cX11_wordHere 90 = .ok (.goto 4, 3) := by decide +kernel
theorem dX11_wordHere_93 : decode cX11_wordHere 93 = .ok (.iconst 0, 1) := by decide +kernel
theorem dX11_wordHere_94 : decode cX11_wordHere 94 = .ok (.ireturn, 1) := by decide +kernel
theorem dX11_emit_0 : decode cX11_emit 0 = .ok (.aload_n 0, 1) := by decide +kernel
theorem dX11_emit_1 : decode cX11_emit 1 = .ok (.getfield 98, 3) := by decide +kernel
theorem dX11_emit_4 : decode cX11_emit 4 = .ok (.aload_n 0, 1) := by decide +kernel
theorem dX11_emit_5 : decode cX11_emit 5 = .ok (.getfield 267, 3) := by decide +kernel
theorem dX11_emit_8 : decode cX11_emit 8 = .ok (.iload_n 1, 1) := by decide +kernel
theorem dX11_emit_9 : decode cX11_emit 9 = .ok (.iastore, 1) := by decide +kernel
theorem dX11_emit_10 : decode cX11_emit 10 = .ok (.aload_n 0, 1) := by decide +kernel
theorem dX11_emit_11 : decode cX11_emit 11 = .ok (.getfield 101, 3) := by decide +kernel
theorem dX11_emit_14 : decode cX11_emit 14 = .ok (.aload_n 0, 1) := by decide +kernel
theorem dX11_emit_15 : decode cX11_emit 15 = .ok (.getfield 267, 3) := by decide +kernel
theorem dX11_emit_18 : decode cX11_emit 18 = .ok (.iload_n 2, 1) := by decide +kernel
theorem dX11_emit_19 : decode cX11_emit 19 = .ok (.iastore, 1) := by decide +kernel
theorem dX11_emit_20 : decode cX11_emit 20 = .ok (.aload_n 0, 1) := by decide +kernel
theorem dX11_emit_21 : decode cX11_emit 21 = .ok (.dup, 1) := by decide +kernel
theorem dX11_emit_22 : decode cX11_emit 22 = .ok (.getfield 267, 3) := by decide +kernel
theorem dX11_emit_25 : decode cX11_emit 25 = .ok (.iconst 1, 1) := by decide +kernel
theorem dX11_emit_26 : decode cX11_emit 26 = .ok (.iadd, 1) := by decide +kernel
theorem dX11_emit_27 : decode cX11_emit 27 = .ok (.putfield 267, 3) := by decide +kernel
theorem dX11_emit_30 : decode cX11_emit 30 = .ok (.return_, 1) := by decide +kernel
set_option maxHeartbeats 20000000 in
set_option maxRecDepth 100000 in
theorem m_X11_wordHere (l : Launch) (D : va_G) (cT : Nat → ClassId) (T : Nat → Option Nat) (q : Nat → Int) (hT : tokm T) (hq : qkm q) (a0 : Nat) (t0 : T a0 = some 0) : th_Met l D cT T (km q) yX11_wordHere cX11_wordHere 1 (some .int) (rmk 1 22) [.ref a0] (th_RP 0 122 (fun r => (r.toInt ≠ 0 → q 29 = 3 ∧ 97 ≤ r.toInt))) [] := by
  refine th_start (by decide) (Nat.le_of_ble_eq_true rfl) ?_
  intro p e s m below meth c ls S hK hH hr hlocks hnm hl
  have hx := S.1
  have hb := S.2.1
  have hl : lv_has ls 1 [(0, .ref a0)] := hl
  have J0 : ∀ (H : Heap) (locs : List Loc) (ls : Array Slot), th_H D cT T (km q) H → va_S (th_A T []) s.heap H locs → lv_has ls 1 [(0, .ref a0)] → W p l e (rmk 1 22) s m [.ref a0].toArray below meth c H locs 0 0 (MQ below (th_Q D cT T (km q) (th_RP 0 122 (fun r => (r.toInt ≠ 0 → q 29 = 3 ∧ 97 ≤ r.toInt))) []) [.ref a0].toArray s 0 0 (th_A T [])) (F0 m 0 ls []) := by
    intro H locs ls hH hS hl
    refine lv_aload_n hx hb dX11_wordHere_0 rfl (lv_at hl 0 rfl) ?_
    refine lv_ldc2 (v := 495588568165) hx hb S.2.2.2.1 (S.2.2.2.2 _ gm_1458) dX11_wordHere_1 ?_
    refine th_callVp (n := 1) (As := [.long 495588568165]) S hK hH hS (th_A.sub (by decide)) (m_X11_isWord l D cT T q hT hq a0 t0 (495588568165)) gm_1499 gm_1496 gm_1498 gm_52 gm_124 (by decide +kernel) ⟨rfl, rfl, Nat.le_of_ble_eq_true rfl, Nat.le_of_ble_eq_true rfl⟩ t0 km_0 rfl rfl hl.1 rfl (Nat.le_of_ble_eq_true rfl) dX11_wordHere_4 ⟨Nat.zero_le _, Nat.zero_le _⟩ (fun x1 H locs ix1 ox1 hH hS hF1 => ?_)
    obtain ⟨ox1_0, ox1_1⟩ := ox1
    have ox1_0 : x1.toInt ≠ 0 → q 29 = 3 ∧ q 31 = (495588568165 : Int) := ox1_0
    have ox1_1 : x1.toInt = 0 → q 29 ≠ 3 ∨ q 31 ≠ (495588568165 : Int) := ox1_1
    refine lv_if_eq (tgt := 13) hx hb dX11_wordHere_7 (by decide) (fun c2 => ?_) (fun c2 => ?_)
    · skip
      have rlc2 : x1.toInt = (0 : Int) := congrArg Int32.toInt c2
      clear ox1_0
      clear ox1_1
      have ir3 : IV x1 0 0 := iv_eL c2 (iv_c (by decide) : IV 0 0 0)
      have ir3a := ir3.1; have ir3b := ir3.2
      refine lv_aload_n hx hb dX11_wordHere_13 rfl (lv_at hl 0 rfl) ?_
      refine lv_ldc2 (v := 2036687218) hx hb S.2.2.2.1 (S.2.2.2.2 _ gm_1471) dX11_wordHere_14 ?_
      refine th_callVp (n := 1) (As := [.long 2036687218]) S hK hH hS (th_A.sub (by decide)) (m_X11_isWord l D cT T q hT hq a0 t0 (2036687218)) gm_1499 gm_1496 gm_1498 gm_52 gm_124 (by decide +kernel) ⟨rfl, rfl, Nat.le_of_ble_eq_true rfl, Nat.le_of_ble_eq_true rfl⟩ t0 km_0 rfl rfl hl.1 rfl (Nat.le_of_ble_eq_true rfl) dX11_wordHere_17 ⟨Nat.zero_le _, Nat.zero_le _⟩ (fun x4 H locs ix4 ox4 hH hS hF1 => ?_)
      obtain ⟨ox4_0, ox4_1⟩ := ox4
      have ox4_0 : x4.toInt ≠ 0 → q 29 = 3 ∧ q 31 = (2036687218 : Int) := ox4_0
      have ox4_1 : x4.toInt = 0 → q 29 ≠ 3 ∨ q 31 ≠ (2036687218 : Int) := ox4_1
      refine lv_if_eq (tgt := 26) hx hb dX11_wordHere_20 (by decide) (fun c5 => ?_) (fun c5 => ?_)
      · skip
        have rlc5 : x4.toInt = (0 : Int) := congrArg Int32.toInt c5
        clear ox4_0
        clear ox4_1
        have ir6 : IV x4 0 0 := iv_eL c5 (iv_c (by decide) : IV 0 0 0)
        have ir6a := ir6.1; have ir6b := ir6.2
        refine lv_aload_n hx hb dX11_wordHere_26 rfl (lv_at hl 0 rfl) ?_
        refine lv_ldc2 (v := 435426714990) hx hb S.2.2.2.1 (S.2.2.2.2 _ gm_1472) dX11_wordHere_27 ?_
        refine th_callVp (n := 1) (As := [.long 435426714990]) S hK hH hS (th_A.sub (by decide)) (m_X11_isWord l D cT T q hT hq a0 t0 (435426714990)) gm_1499 gm_1496 gm_1498 gm_52 gm_124 (by decide +kernel) ⟨rfl, rfl, Nat.le_of_ble_eq_true rfl, Nat.le_of_ble_eq_true rfl⟩ t0 km_0 rfl rfl hl.1 rfl (Nat.le_of_ble_eq_true rfl) dX11_wordHere_30 ⟨Nat.zero_le _, Nat.zero_le _⟩ (fun x7 H locs ix7 ox7 hH hS hF1 => ?_)
        obtain ⟨ox7_0, ox7_1⟩ := ox7
        have ox7_0 : x7.toInt ≠ 0 → q 29 = 3 ∧ q 31 = (435426714990 : Int) := ox7_0
        have ox7_1 : x7.toInt = 0 → q 29 ≠ 3 ∨ q 31 ≠ (435426714990 : Int) := ox7_1
        refine lv_if_eq (tgt := 39) hx hb dX11_wordHere_33 (by decide) (fun c8 => ?_) (fun c8 => ?_)
        · skip
          have rlc8 : x7.toInt = (0 : Int) := congrArg Int32.toInt c8
          clear ox7_0
          clear ox7_1
          have ir9 : IV x7 0 0 := iv_eL c8 (iv_c (by decide) : IV 0 0 0)
          have ir9a := ir9.1; have ir9b := ir9.2
          refine lv_aload_n hx hb dX11_wordHere_39 rfl (lv_at hl 0 rfl) ?_
          refine lv_ldc2 (v := 1668246628) hx hb S.2.2.2.1 (S.2.2.2.2 _ gm_1473) dX11_wordHere_40 ?_
          refine th_callVp (n := 1) (As := [.long 1668246628]) S hK hH hS (th_A.sub (by decide)) (m_X11_isWord l D cT T q hT hq a0 t0 (1668246628)) gm_1499 gm_1496 gm_1498 gm_52 gm_124 (by decide +kernel) ⟨rfl, rfl, Nat.le_of_ble_eq_true rfl, Nat.le_of_ble_eq_true rfl⟩ t0 km_0 rfl rfl hl.1 rfl (Nat.le_of_ble_eq_true rfl) dX11_wordHere_43 ⟨Nat.zero_le _, Nat.zero_le _⟩ (fun x10 H locs ix10 ox10 hH hS hF1 => ?_)
          obtain ⟨ox10_0, ox10_1⟩ := ox10
          have ox10_0 : x10.toInt ≠ 0 → q 29 = 3 ∧ q 31 = (1668246628 : Int) := ox10_0
          have ox10_1 : x10.toInt = 0 → q 29 ≠ 3 ∨ q 31 ≠ (1668246628 : Int) := ox10_1
          refine lv_if_eq (tgt := 52) hx hb dX11_wordHere_46 (by decide) (fun c11 => ?_) (fun c11 => ?_)
          · skip
            have rlc11 : x10.toInt = (0 : Int) := congrArg Int32.toInt c11
            clear ox10_0
            clear ox10_1
            have ir12 : IV x10 0 0 := iv_eL c11 (iv_c (by decide) : IV 0 0 0)
            have ir12a := ir12.1; have ir12b := ir12.2
            refine lv_aload_n hx hb dX11_wordHere_52 rfl (lv_at hl 0 rfl) ?_
            refine lv_ldc2 (v := 1936292453) hx hb S.2.2.2.1 (S.2.2.2.2 _ gm_1463) dX11_wordHere_53 ?_
            refine th_callVp (n := 1) (As := [.long 1936292453]) S hK hH hS (th_A.sub (by decide)) (m_X11_isWord l D cT T q hT hq a0 t0 (1936292453)) gm_1499 gm_1496 gm_1498 gm_52 gm_124 (by decide +kernel) ⟨rfl, rfl, Nat.le_of_ble_eq_true rfl, Nat.le_of_ble_eq_true rfl⟩ t0 km_0 rfl rfl hl.1 rfl (Nat.le_of_ble_eq_true rfl) dX11_wordHere_56 ⟨Nat.zero_le _, Nat.zero_le _⟩ (fun x13 H locs ix13 ox13 hH hS hF1 => ?_)
            obtain ⟨ox13_0, ox13_1⟩ := ox13
            have ox13_0 : x13.toInt ≠ 0 → q 29 = 3 ∧ q 31 = (1936292453 : Int) := ox13_0
            have ox13_1 : x13.toInt = 0 → q 29 ≠ 3 ∨ q 31 ≠ (1936292453 : Int) := ox13_1
            refine lv_if_eq (tgt := 65) hx hb dX11_wordHere_59 (by decide) (fun c14 => ?_) (fun c14 => ?_)
            · skip
              have rlc14 : x13.toInt = (0 : Int) := congrArg Int32.toInt c14
              clear ox13_0
              clear ox13_1
              have ir15 : IV x13 0 0 := iv_eL c14 (iv_c (by decide) : IV 0 0 0)
              have ir15a := ir15.1; have ir15b := ir15.2
              refine lv_aload_n hx hb dX11_wordHere_65 rfl (lv_at hl 0 rfl) ?_
              refine lv_ldc2 (v := 512970880104) hx hb S.2.2.2.1 (S.2.2.2.2 _ gm_1464) dX11_wordHere_66 ?_
              refine th_callVp (n := 1) (As := [.long 512970880104]) S hK hH hS (th_A.sub (by decide)) (m_X11_isWord l D cT T q hT hq a0 t0 (512970880104)) gm_1499 gm_1496 gm_1498 gm_52 gm_124 (by decide +kernel) ⟨rfl, rfl, Nat.le_of_ble_eq_true rfl, Nat.le_of_ble_eq_true rfl⟩ t0 km_0 rfl rfl hl.1 rfl (Nat.le_of_ble_eq_true rfl) dX11_wordHere_69 ⟨Nat.zero_le _, Nat.zero_le _⟩ (fun x16 H locs ix16 ox16 hH hS hF1 => ?_)
              obtain ⟨ox16_0, ox16_1⟩ := ox16
              have ox16_0 : x16.toInt ≠ 0 → q 29 = 3 ∧ q 31 = (512970880104 : Int) := ox16_0
              have ox16_1 : x16.toInt = 0 → q 29 ≠ 3 ∨ q 31 ≠ (512970880104 : Int) := ox16_1
              refine lv_if_eq (tgt := 78) hx hb dX11_wordHere_72 (by decide) (fun c17 => ?_) (fun c17 => ?_)
              · skip
                have rlc17 : x16.toInt = (0 : Int) := congrArg Int32.toInt c17
                clear ox16_0
                clear ox16_1
                have ir18 : IV x16 0 0 := iv_eL c17 (iv_c (by decide) : IV 0 0 0)
                have ir18a := ir18.1; have ir18b := ir18.2
                refine lv_aload_n hx hb dX11_wordHere_78 rfl (lv_at hl 0 rfl) ?_
                refine lv_ldc2 (v := 448545973619) hx hb S.2.2.2.1 (S.2.2.2.2 _ gm_1474) dX11_wordHere_79 ?_
                refine th_callVp (n := 1) (As := [.long 448545973619]) S hK hH hS (th_A.sub (by decide)) (m_X11_isWord l D cT T q hT hq a0 t0 (448545973619)) gm_1499 gm_1496 gm_1498 gm_52 gm_124 (by decide +kernel) ⟨rfl, rfl, Nat.le_of_ble_eq_true rfl, Nat.le_of_ble_eq_true rfl⟩ t0 km_0 rfl rfl hl.1 rfl (Nat.le_of_ble_eq_true rfl) dX11_wordHere_82 ⟨Nat.zero_le _, Nat.zero_le _⟩ (fun x19 H locs ix19 ox19 hH hS hF1 => ?_)
                obtain ⟨ox19_0, ox19_1⟩ := ox19
                have ox19_0 : x19.toInt ≠ 0 → q 29 = 3 ∧ q 31 = (448545973619 : Int) := ox19_0
                have ox19_1 : x19.toInt = 0 → q 29 ≠ 3 ∨ q 31 ≠ (448545973619 : Int) := ox19_1
                refine lv_if_eq (tgt := 93) hx hb dX11_wordHere_85 (by decide) (fun c20 => ?_) (fun c20 => ?_)
                · skip
                  have rlc20 : x19.toInt = (0 : Int) := congrArg Int32.toInt c20
                  clear ox19_0
                  clear ox19_1
                  have ir21 : IV x19 0 0 := iv_eL c20 (iv_c (by decide) : IV 0 0 0)
                  have ir21a := ir21.1; have ir21b := ir21.2
                  refine lv_iconst (v := 0) hx hb dX11_wordHere_93 (by decide) ?_
                  exact th_iret S hK hH hS hr hlocks (th_RP.i (iv_w (iv_c (by decide) : IV 0 0 0) (by decide)) (show (0 : Int) ≠ 0 → q 29 = 3 ∧ 97 ≤ (0 : Int) by first | assumption | (first | omega | (intro z; omega)))) dX11_wordHere_94
                · skip
                  have rlc20 : x19.toInt ≠ (0 : Int) := iv_ne c20
                  have ox19_0r := ox19_0 rlc20
                  clear ox19_0
                  clear ox19_1
                  have ir22 : IV x19 1 1 := iv_cutL ix19 (iv_c (by decide) : IV 0 0 0) c20 (by decide)
                  have ir22a := ir22.1; have ir22b := ir22.2
                  clear rlc20
                  refine lv_bipush (v := 104) hx hb dX11_wordHere_88 (by decide) ?_
                  refine lv_goto (tgt := 94) hx hb dX11_wordHere_90 (by decide) ?_
                  exact th_iret S hK hH hS hr hlocks (th_RP.i (iv_w (iv_c (by decide) : IV 104 104 104) (by decide)) (show (104 : Int) ≠ 0 → q 29 = 3 ∧ 97 ≤ (104 : Int) by first | assumption | (first | omega | (intro z; omega)))) dX11_wordHere_94
              · skip
                have rlc17 : x16.toInt ≠ (0 : Int) := iv_ne c17
                have ox16_0r := ox16_0 rlc17
                clear ox16_0
                clear ox16_1
                have ir23 : IV x16 1 1 := iv_cutL ix16 (iv_c (by decide) : IV 0 0 0) c17 (by decide)
                have ir23a := ir23.1; have ir23b := ir23.2
                clear rlc17
                refine lv_bipush (v := 119) hx hb dX11_wordHere_75 (by decide) ?_
                exact th_iret S hK hH hS hr hlocks (th_RP.i (iv_w (iv_c (by decide) : IV 119 119 119) (by decide)) (show (119 : Int) ≠ 0 → q 29 = 3 ∧ 97 ≤ (119 : Int) by first | assumption | (first | omega | (intro z; omega)))) dX11_wordHere_77
            · skip
              have rlc14 : x13.toInt ≠ (0 : Int) := iv_ne c14
              have ox13_0r := ox13_0 rlc14
              clear ox13_0
              clear ox13_1
              have ir24 : IV x13 1 1 := iv_cutL ix13 (iv_c (by decide) : IV 0 0 0) c14 (by decide)
              have ir24a := ir24.1; have ir24b := ir24.2
              clear rlc14
              refine lv_bipush (v := 122) hx hb dX11_wordHere_62 (by decide) ?_
              exact th_iret S hK hH hS hr hlocks (th_RP.i (iv_w (iv_c (by decide) : IV 122 122 122) (by decide)) (show (122 : Int) ≠ 0 → q 29 = 3 ∧ 97 ≤ (122 : Int) by first | assumption | (first | omega | (intro z; omega)))) dX11_wordHere_64
          · skip
            have rlc11 : x10.toInt ≠ (0 : Int) := iv_ne c11
            have ox10_0r := ox10_0 rlc11
            clear ox10_0
            clear ox10_1
            have ir25 : IV x10 1 1 := iv_cutL ix10 (iv_c (by decide) : IV 0 0 0) c11 (by decide)
            have ir25a := ir25.1; have ir25b := ir25.2
            clear rlc11
            refine lv_bipush (v := 99) hx hb dX11_wordHere_49 (by decide) ?_
            exact th_iret S hK hH hS hr hlocks (th_RP.i (iv_w (iv_c (by decide) : IV 99 99 99) (by decide)) (show (99 : Int) ≠ 0 → q 29 = 3 ∧ 97 ≤ (99 : Int) by first | assumption | (first | omega | (intro z; omega)))) dX11_wordHere_51
        · skip
          have rlc8 : x7.toInt ≠ (0 : Int) := iv_ne c8
          have ox7_0r := ox7_0 rlc8
          clear ox7_0
          clear ox7_1
          have ir26 : IV x7 1 1 := iv_cutL ix7 (iv_c (by decide) : IV 0 0 0) c8 (by decide)
          have ir26a := ir26.1; have ir26b := ir26.2
          clear rlc8
          refine lv_bipush (v := 101) hx hb dX11_wordHere_36 (by decide) ?_
          exact th_iret S hK hH hS hr hlocks (th_RP.i (iv_w (iv_c (by decide) : IV 101 101 101) (by decide)) (show (101 : Int) ≠ 0 → q 29 = 3 ∧ 97 ≤ (101 : Int) by first | assumption | (first | omega | (intro z; omega)))) dX11_wordHere_38
      · skip
        have rlc5 : x4.toInt ≠ (0 : Int) := iv_ne c5
        have ox4_0r := ox4_0 rlc5
        clear ox4_0
        clear ox4_1
        have ir27 : IV x4 1 1 := iv_cutL ix4 (iv_c (by decide) : IV 0 0 0) c5 (by decide)
        have ir27a := ir27.1; have ir27b := ir27.2
        clear rlc5
        refine lv_bipush (v := 121) hx hb dX11_wordHere_23 (by decide) ?_
        exact th_iret S hK hH hS hr hlocks (th_RP.i (iv_w (iv_c (by decide) : IV 121 121 121) (by decide)) (show (121 : Int) ≠ 0 → q 29 = 3 ∧ 97 ≤ (121 : Int) by first | assumption | (first | omega | (intro z; omega)))) dX11_wordHere_25
    · skip
      have rlc2 : x1.toInt ≠ (0 : Int) := iv_ne c2
      have ox1_0r := ox1_0 rlc2
      clear ox1_0
      clear ox1_1
      have ir28 : IV x1 1 1 := iv_cutL ix1 (iv_c (by decide) : IV 0 0 0) c2 (by decide)
      have ir28a := ir28.1; have ir28b := ir28.2
      clear rlc2
      refine lv_bipush (v := 115) hx hb dX11_wordHere_10 (by decide) ?_
      exact th_iret S hK hH hS hr hlocks (th_RP.i (iv_w (iv_c (by decide) : IV 115 115 115) (by decide)) (show (115 : Int) ≠ 0 → q 29 = 3 ∧ 97 ≤ (115 : Int) by first | assumption | (first | omega | (intro z; omega)))) dX11_wordHere_12
  exact J0 s.heap [] ls hH va_S.rf hl

set_option maxHeartbeats 20000000 in
set_option maxRecDepth 100000 in
theorem m_X11_emit (l : Launch) (D : va_G) (cT : Nat → ClassId) (T : Nat → Option Nat) (q : Nat → Int) (hT : tokm T) (hq : qkm q) (a0 : Nat) (t0 : T a0 = some 0) (y1 : Int32) (j1 : IV y1 (-2147483648) 2147483647) (y2 : Int32) (j2 : IV y2 (-2147483648) 2147483647) (hp0 : 560 * q 13 ≤ q 20 ∧ q 20 ≤ 560 * q 13 + 559) (hp1 : q 13 = 1 - q 10) : th_MetM l D cT T q yX11_emit cX11_emit 3 none (rmk 0 0) [.ref a0, .int y1, .int y2] (fun v q2 => v = none ∧ qkm q2 ∧ fr [20, 1000] q q2 ∧ (q2 = emitq q y1.toInt) ∧ (q2 20 = q 20 + 1) ∧ (tx q q2)) [0, 28, 29] := by
  refine th_startM (by decide) (Nat.le_of_ble_eq_true rfl) ?_
  intro p e s m below meth c ls S hK hH hr hlocks hnm hl
  have hx := S.1
  have hb := S.2.1
  have b13 := qkm_13 hq; have b10 := qkm_10 hq; have b20 := qkm_20 hq
  have hl : lv_has ls 3 [(0, .ref a0), (1, .int y1), (2, .int y2)] := hl
  have J0 : ∀ (H : Heap) (locs : List Loc) (ls : Array Slot), th_H D cT T (km q) H → va_S (th_A T [0, 28, 29]) s.heap H locs → lv_has ls 3 [(0, .ref a0), (1, .int y1), (2, .int y2)] → W p l e (rmk 0 0) s m [.ref a0, .int y1, .int y2].toArray below meth c H locs 0 0 (MQ below (th_QM D cT T (fun v q2 => v = none ∧ qkm q2 ∧ fr [20, 1000] q q2 ∧ (q2 = emitq q y1.toInt) ∧ (q2 20 = q 20 + 1) ∧ (tx q q2)) [0, 28, 29]) [.ref a0, .int y1, .int y2].toArray s 0 0 (th_A T [0, 28, 29])) (F0 m 0 ls []) := by
    intro H locs ls hH hS hl
    refine lv_aload_n hx hb dX11_emit_0 rfl (lv_at hl 0 rfl) ?_
    refine th_get S hK hH inG11 t0 km_0 rfl 36 (by decide) gm_1266 rfl rfl dX11_emit_1 (fun v1 hv1 fv1 => ?_)
    obtain ⟨rf2, rfl, trf2⟩ := th_V.ref hv1
    refine lv_aload_n hx hb dX11_emit_4 rfl (lv_at hl 0 rfl) ?_
    refine th_get S hK hH inG11 t0 km_0 rfl 43 (by decide) gm_1273 rfl rfl dX11_emit_5 (fun v3 hv3 fv3 => ?_)
    obtain ⟨x4, rfl, ix4⟩ := th_V.int hv3
    have kx4 : x4.toInt = q 20 := Int.le_antisymm ix4.2 ix4.1
    have bx4 := qkm_20 hq
    have ix4 : IV x4 0 1119 := iv_w ix4 ⟨by omega, by omega⟩
    refine lv_iload_n hx hb dX11_emit_8 rfl (lv_at hl 1 rfl) ?_
    obtain ⟨n5, en5⟩ : ∃ z : Int, z = Int32.toInt y1 := ⟨_, rfl⟩
    have jq6 := th_nat (hi := 1119) ix4
    refine mst_28 S hK hH hS ⟨28, by decide, trf2⟩ hT trf2 en5 (th_in (hi := 1119) ix4 (by decide)) dX11_emit_9 (fun q6 H locs eq6 hH hS hq1 => ?_)
    have hqq6 : qkm q6 := by rw [eq6]; exact qkm_big28 hq (by omega) (by omega)
    have h0q6 : fr [20, 1000] q q6 := by rw [eq6]; exact fr_upB fr_rf (by omega) (by decide)
    have wq6_10 : q6 10 = q 10 := by rw [eq6]; exact if_neg (by omega)
    have wq6_13 : q6 13 = q 13 := by rw [eq6]; exact if_neg (by omega)
    have wq6_20 : q6 20 = q 20 := by rw [eq6]; exact if_neg (by omega)
    refine lv_aload_n hx hb dX11_emit_10 rfl (lv_at hl 0 rfl) ?_
    refine th_get S hK hH inG11 t0 km_0 rfl 37 (by decide) gm_1267 rfl rfl dX11_emit_11 (fun v7 hv7 fv7 => ?_)
    obtain ⟨rf8, rfl, trf8⟩ := th_V.ref hv7
    refine lv_aload_n hx hb dX11_emit_14 rfl (lv_at hl 0 rfl) ?_
    refine th_get S hK hH inG11 t0 km_0 rfl 43 (by decide) gm_1273 rfl rfl dX11_emit_15 (fun v9 hv9 fv9 => ?_)
    obtain ⟨x10, rfl, ix10⟩ := th_V.int hv9
    have kx10 : x10.toInt = q6 20 := Int.le_antisymm ix10.2 ix10.1
    have bx10 := qkm_20 hqq6
    have ix10 : IV x10 0 1119 := iv_w ix10 ⟨by omega, by omega⟩
    refine lv_iload_n hx hb dX11_emit_18 rfl (lv_at hl 2 rfl) ?_
    refine th_iast S hK hH hS ⟨29, by decide, trf8⟩ trf8 km_29 (th_in (hi := 1119) ix10 (by decide)) (th_iv j2) dX11_emit_19 (fun H locs hH hS hq1 => ?_)
    refine lv_aload_n hx hb dX11_emit_20 rfl (lv_at hl 0 rfl) ?_
    refine lv_dup hx hb dX11_emit_21 rfl ?_
    refine th_get S hK hH inG11 t0 km_0 rfl 43 (by decide) gm_1273 rfl rfl dX11_emit_22 (fun v11 hv11 fv11 => ?_)
    obtain ⟨x12, rfl, ix12⟩ := th_V.int hv11
    have kx12 : x12.toInt = q6 20 := Int.le_antisymm ix12.2 ix12.1
    have bx12 := qkm_20 hqq6
    have ix12 : IV x12 0 1119 := iv_w ix12 ⟨by omega, by omega⟩
    refine lv_iconst (v := 1) hx hb dX11_emit_25 (by decide) ?_
    refine lv_iadd hx hb dX11_emit_26 ?_
    refine lv_topi (fun x13 ex13 => ?_)
    have ix13 : IV x13 1 1120 := by rw [ex13]; exact iv_add ix12 (iv_c (by decide) : IV 1 1 1) (by decide)
    have ux13 : x13.toInt = x12.toInt + (1 : Int) := by rw [ex13]; exact iv_addE (by have z1 := (ix12).1; have z2 := (ix12).2; have z3 := ((iv_c (by decide) : IV 1 1 1)).1; have z4 := ((iv_c (by decide) : IV 1 1 1)).2; omega)
    obtain ⟨n15, en15⟩ : ∃ z : Int, z = Int32.toInt x13 := ⟨_, rfl⟩
    refine mput_20 S hK hH hS ⟨0, by decide, t0⟩ hT t0 en15 gm_1273 dX11_emit_27 (fun q14 H locs eq14 hH hS hq1 => ?_)
    have hqq14 : qkm q14 := by rw [eq14]; exact qum_ok20 hqq6 (iv_z en15 (iv_w ix13 (by decide)))
    have h0q14 : fr [20, 1000] q q14 := by rw [eq14]; exact fr_up h0q6 (by decide)
    have wq14_10 : q14 10 = q6 10 := by rw [eq14]; rfl
    have wq14_13 : q14 13 = q6 13 := by rw [eq14]; rfl
    have wq14_20 : q14 20 = q6 20 + (1 : Int) := by rw [show q14 20 = n15 by rw [eq14]; rfl, en15, ux13, kx12]
    have hE := emitq_of (c := y1.toInt) eq6 eq14 (by omega) (by omega) (by omega)
    exact th_vretM S hK hH hS hr hlocks ⟨rfl, hqq14, h0q14, (show q14 = emitq q y1.toInt by exact hE), (show q14 20 = q 20 + 1 by omega), (show tx q q14 by exact tx_kp (f := 0) (kp_emit hE (by omega) (by omega) (by decide)))⟩ dX11_emit_30
  exact J0 s.heap [] ls hH va_S.rf hl
