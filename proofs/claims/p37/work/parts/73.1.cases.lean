set_option maxHeartbeats 4000000 in
set_option maxRecDepth 100000 in
theorem law_c7 {p : Program} {l : Launch} {e : Env} {s : State} {m : MethodId} {below : List Frame} {meth : Method} {c : Code} {b L i : Nat} {xs : Nat → Int32} {D : va_G} {cT : Nat → ClassId} {a am : Nat} {adK adV : Nat → Nat} {ls : Array Slot} (S : CallFix p m c code 4 s #[Value.ref b] gw RL) (hK : va_K D classes (th_tys cT) s) (hX : va_X b L xs s s.heap) (hbl : b < s.heap.size) (hL : L ≤ 3072) (hi : i + 6 ≤ L) (hl : lv_has ls 4 [(3, .int (nI i)), (2, .ref am), (1, .ref a), (0, .ref b)]) (hE : st_S adK adV (fun q => s.heap.size ≤ q) s s.heap ∧ vk_R "HungryMaps$Tape" 68 "food map place likes border taste winter draw scale year eaten cold size worth holes hunger in folded on or and not " (adK 0) s ∧ vk_R "HungryMaps$Tape" 47 ";()<>=+-*/%" (adK 1) s) {T Tm : Nat → Option Nat} {q qq : Nat → Int} {H : Heap} {locs : List Loc} (hI : LI D cT s a am T q Tm qq H locs) (hnext : ∀ (T : Nat → Option Nat) (q : Nat → Int) (Tm : Nat → Option Nat) (qq : Nat → Int) (H : Heap) (locs : List Loc), LI D cT s a am T q Tm qq H locs → W p l e room_1 s m #[Value.ref b] below meth c H locs 223 21033 (lw_Z below #[Value.ref b] s) (F0 m 1368 ls [])) : W p l e room_1 s m #[Value.ref b] below meth c H locs 223 21033 (lw_Z below #[Value.ref b] s) (F0 m 427 ls []) := by
  have hx := S.1; have hb := S.2.1
  have hbA : ¬ (fun q : Nat => s.heap.size ≤ q) b := Nat.not_le.mpr hbl
  refine lv_aload_n hx hb dL_law_427 rfl (lv_at hl 2 rfl) ?_
  refine lv_aload_n hx hb dL_law_428 rfl (lv_at hl 3 rfl) ?_
  refine lv_iload_n hx hb dL_law_429 rfl (lv_at hl 0 rfl) ?_
  refine lv_iconst (v := 1) hx hb dL_law_430 (by decide) ?_
  refine lv_iadd hx hb dL_law_431 ?_
  refine lv_topi (fun j1 ej1 => ?_)
  have ej1 : j1 = nI (i + 1) := ej1.trans (nI_add i 1)
  subst ej1
  refine va_sld hx hb hX hbl hbA hI.1.2.2.2.2.2.2 (nI_in (by omega) (by omega)) dL_law_432 ?_
  refine lv_topi (fun y2 ey2 => ?_)
  clear ey2
  refine lv_aload_n hx hb dL_law_433 rfl (lv_at hl 3 rfl) ?_
  refine lv_iload_n hx hb dL_law_434 rfl (lv_at hl 0 rfl) ?_
  refine lv_iconst (v := 2) hx hb dL_law_435 (by decide) ?_
  refine lv_iadd hx hb dL_law_436 ?_
  refine lv_topi (fun j3 ej3 => ?_)
  have ej3 : j3 = nI (i + 2) := ej3.trans (nI_add i 2)
  subst ej3
  refine va_sld hx hb hX hbl hbA hI.1.2.2.2.2.2.2 (nI_in (by omega) (by omega)) dL_law_437 ?_
  refine lv_topi (fun y4 ey4 => ?_)
  clear ey4
  refine lw_C (n := 2) (As := [.int y2, .int y4]) S hK hI (m_X10_taste l D cT T q hI.1.2.2.1.2.1.1 a hI.1.2.2.1.2.2 (y2) (iv_top _) (y4) (iv_top _)) th_R_int gm_870 gm_867 gm_868 gm_869 gm_113 (by decide +kernel) ⟨rfl, rfl, Nat.le_of_ble_eq_true rfl, Nat.le_of_ble_eq_true rfl⟩ rfl hl.1 rfl (Nat.le_of_ble_eq_true rfl) dL_law_438 ⟨Nat.le_of_ble_eq_true rfl, Nat.le_of_ble_eq_true rfl⟩ (fun x5 H locs Ix5 => ?_)
  refine lv_pop (pc := 441) hx hb dL_law_441 rfl ?_
  refine lv_aload_n hx hb dL_law_442 rfl (lv_at hl 1 rfl) ?_
  refine lv_aload_n hx hb dL_law_443 rfl (lv_at hl 3 rfl) ?_
  refine lv_iload_n hx hb dL_law_444 rfl (lv_at hl 0 rfl) ?_
  refine lv_iconst (v := 1) hx hb dL_law_445 (by decide) ?_
  refine lv_iadd hx hb dL_law_446 ?_
  refine lv_topi (fun j6 ej6 => ?_)
  have ej6 : j6 = nI (i + 1) := ej6.trans (nI_add i 1)
  subst ej6
  refine va_sld hx hb hX hbl hbA Ix5.1.2.2.2.2.2.2 (nI_in (by omega) (by omega)) dL_law_447 ?_
  refine lv_topi (fun y7 ey7 => ?_)
  clear ey7
  refine lv_aload_n hx hb dL_law_448 rfl (lv_at hl 3 rfl) ?_
  refine lv_iload_n hx hb dL_law_449 rfl (lv_at hl 0 rfl) ?_
  refine lv_iconst (v := 2) hx hb dL_law_450 (by decide) ?_
  refine lv_iadd hx hb dL_law_451 ?_
  refine lv_topi (fun j8 ej8 => ?_)
  have ej8 : j8 = nI (i + 2) := ej8.trans (nI_add i 2)
  subst ej8
  refine va_sld hx hb hX hbl hbA Ix5.1.2.2.2.2.2.2 (nI_in (by omega) (by omega)) dL_law_452 ?_
  refine lv_topi (fun y9 ey9 => ?_)
  clear ey9
  refine lw_M (n := 2) (As := [.int y7, .int y9]) S hK Ix5 (m_X11_taste l D cT Tm qq Ix5.1.2.2.2.1.1 Ix5.1.2.2.2.1.2.1 am Ix5.1.2.2.2.1.2.2.2 (y7) (iv_top _) (y9) (iv_top _)) th_R_int gm_1676 gm_1673 gm_1674 gm_1675 gm_124 (by decide +kernel) ⟨rfl, rfl, Nat.le_of_ble_eq_true rfl, Nat.le_of_ble_eq_true rfl⟩ rfl hl.1 rfl (Nat.le_of_ble_eq_true rfl) dL_law_453 ⟨Nat.le_of_ble_eq_true rfl, Nat.le_of_ble_eq_true rfl⟩ (fun x10 H locs Ix10 => ?_)
  refine lv_pop (pc := 456) hx hb dL_law_456 rfl ?_
  refine lv_goto (tgt := 1368) hx hb dL_law_457 (by decide) ?_
  exact hnext T q Tm qq H locs Ix10

set_option maxHeartbeats 4000000 in
set_option maxRecDepth 100000 in
theorem law_c8 {p : Program} {l : Launch} {e : Env} {s : State} {m : MethodId} {below : List Frame} {meth : Method} {c : Code} {b L i : Nat} {xs : Nat → Int32} {D : va_G} {cT : Nat → ClassId} {a am : Nat} {adK adV : Nat → Nat} {ls : Array Slot} (S : CallFix p m c code 4 s #[Value.ref b] gw RL) (hK : va_K D classes (th_tys cT) s) (hX : va_X b L xs s s.heap) (hbl : b < s.heap.size) (hL : L ≤ 3072) (hi : i + 6 ≤ L) (hl : lv_has ls 4 [(3, .int (nI i)), (2, .ref am), (1, .ref a), (0, .ref b)]) (hE : st_S adK adV (fun q => s.heap.size ≤ q) s s.heap ∧ vk_R "HungryMaps$Tape" 68 "food map place likes border taste winter draw scale year eaten cold size worth holes hunger in folded on or and not " (adK 0) s ∧ vk_R "HungryMaps$Tape" 47 ";()<>=+-*/%" (adK 1) s) {T Tm : Nat → Option Nat} {q qq : Nat → Int} {H : Heap} {locs : List Loc} (hI : LI D cT s a am T q Tm qq H locs) (hnext : ∀ (T : Nat → Option Nat) (q : Nat → Int) (Tm : Nat → Option Nat) (qq : Nat → Int) (H : Heap) (locs : List Loc), LI D cT s a am T q Tm qq H locs → W p l e room_1 s m #[Value.ref b] below meth c H locs 223 21033 (lw_Z below #[Value.ref b] s) (F0 m 1368 ls [])) : W p l e room_1 s m #[Value.ref b] below meth c H locs 223 21033 (lw_Z below #[Value.ref b] s) (F0 m 460 ls []) := by
  have hx := S.1; have hb := S.2.1
  have hbA : ¬ (fun q : Nat => s.heap.size ≤ q) b := Nat.not_le.mpr hbl
  refine lv_aload_n hx hb dL_law_460 rfl (lv_at hl 2 rfl) ?_
  refine lv_aload_n hx hb dL_law_461 rfl (lv_at hl 3 rfl) ?_
  refine lv_iload_n hx hb dL_law_462 rfl (lv_at hl 0 rfl) ?_
  refine lv_iconst (v := 1) hx hb dL_law_463 (by decide) ?_
  refine lv_iadd hx hb dL_law_464 ?_
  refine lv_topi (fun j1 ej1 => ?_)
  have ej1 : j1 = nI (i + 1) := ej1.trans (nI_add i 1)
  subst ej1
  refine va_sld hx hb hX hbl hbA hI.1.2.2.2.2.2.2 (nI_in (by omega) (by omega)) dL_law_465 ?_
  refine lv_topi (fun y2 ey2 => ?_)
  clear ey2
  refine lv_aload_n hx hb dL_law_466 rfl (lv_at hl 3 rfl) ?_
  refine lv_iload_n hx hb dL_law_467 rfl (lv_at hl 0 rfl) ?_
  refine lv_iconst (v := 2) hx hb dL_law_468 (by decide) ?_
  refine lv_iadd hx hb dL_law_469 ?_
  refine lv_topi (fun j3 ej3 => ?_)
  have ej3 : j3 = nI (i + 2) := ej3.trans (nI_add i 2)
  subst ej3
  refine va_sld hx hb hX hbl hbA hI.1.2.2.2.2.2.2 (nI_in (by omega) (by omega)) dL_law_470 ?_
  refine lv_topi (fun y4 ey4 => ?_)
  clear ey4
  refine lw_C (n := 2) (As := [.int y2, .int y4]) S hK hI (m_X10_likes l D cT T q hI.1.2.2.1.2.1.1 a hI.1.2.2.1.2.2 (y2) (iv_top _) (y4) (iv_top _)) th_R_int gm_879 gm_876 gm_877 gm_878 gm_113 (by decide +kernel) ⟨rfl, rfl, Nat.le_of_ble_eq_true rfl, Nat.le_of_ble_eq_true rfl⟩ rfl hl.1 rfl (Nat.le_of_ble_eq_true rfl) dL_law_471 ⟨Nat.le_of_ble_eq_true rfl, Nat.le_of_ble_eq_true rfl⟩ (fun x5 H locs Ix5 => ?_)
  refine lv_pop (pc := 474) hx hb dL_law_474 rfl ?_
  refine lv_aload_n hx hb dL_law_475 rfl (lv_at hl 1 rfl) ?_
  refine lv_aload_n hx hb dL_law_476 rfl (lv_at hl 3 rfl) ?_
  refine lv_iload_n hx hb dL_law_477 rfl (lv_at hl 0 rfl) ?_
  refine lv_iconst (v := 1) hx hb dL_law_478 (by decide) ?_
  refine lv_iadd hx hb dL_law_479 ?_
  refine lv_topi (fun j6 ej6 => ?_)
  have ej6 : j6 = nI (i + 1) := ej6.trans (nI_add i 1)
  subst ej6
  refine va_sld hx hb hX hbl hbA Ix5.1.2.2.2.2.2.2 (nI_in (by omega) (by omega)) dL_law_480 ?_
  refine lv_topi (fun y7 ey7 => ?_)
  clear ey7
  refine lv_aload_n hx hb dL_law_481 rfl (lv_at hl 3 rfl) ?_
  refine lv_iload_n hx hb dL_law_482 rfl (lv_at hl 0 rfl) ?_
  refine lv_iconst (v := 2) hx hb dL_law_483 (by decide) ?_
  refine lv_iadd hx hb dL_law_484 ?_
  refine lv_topi (fun j8 ej8 => ?_)
  have ej8 : j8 = nI (i + 2) := ej8.trans (nI_add i 2)
  subst ej8
  refine va_sld hx hb hX hbl hbA Ix5.1.2.2.2.2.2.2 (nI_in (by omega) (by omega)) dL_law_485 ?_
  refine lv_topi (fun y9 ey9 => ?_)
  clear ey9
  refine lw_M (n := 2) (As := [.int y7, .int y9]) S hK Ix5 (m_X11_likes l D cT Tm qq Ix5.1.2.2.2.1.1 Ix5.1.2.2.2.1.2.1 am Ix5.1.2.2.2.1.2.2.2 (y7) (iv_top _) (y9) (iv_top _)) th_R_int gm_1685 gm_1682 gm_1683 gm_1684 gm_124 (by decide +kernel) ⟨rfl, rfl, Nat.le_of_ble_eq_true rfl, Nat.le_of_ble_eq_true rfl⟩ rfl hl.1 rfl (Nat.le_of_ble_eq_true rfl) dL_law_486 ⟨Nat.le_of_ble_eq_true rfl, Nat.le_of_ble_eq_true rfl⟩ (fun x10 H locs Ix10 => ?_)
  refine lv_pop (pc := 489) hx hb dL_law_489 rfl ?_
  refine lv_goto (tgt := 1368) hx hb dL_law_490 (by decide) ?_
  exact hnext T q Tm qq H locs Ix10

set_option maxHeartbeats 4000000 in
set_option maxRecDepth 100000 in
theorem law_c9 {p : Program} {l : Launch} {e : Env} {s : State} {m : MethodId} {below : List Frame} {meth : Method} {c : Code} {b L i : Nat} {xs : Nat → Int32} {D : va_G} {cT : Nat → ClassId} {a am : Nat} {adK adV : Nat → Nat} {ls : Array Slot} (S : CallFix p m c code 4 s #[Value.ref b] gw RL) (hK : va_K D classes (th_tys cT) s) (hX : va_X b L xs s s.heap) (hbl : b < s.heap.size) (hL : L ≤ 3072) (hi : i + 6 ≤ L) (hl : lv_has ls 4 [(3, .int (nI i)), (2, .ref am), (1, .ref a), (0, .ref b)]) (hE : st_S adK adV (fun q => s.heap.size ≤ q) s s.heap ∧ vk_R "HungryMaps$Tape" 68 "food map place likes border taste winter draw scale year eaten cold size worth holes hunger in folded on or and not " (adK 0) s ∧ vk_R "HungryMaps$Tape" 47 ";()<>=+-*/%" (adK 1) s) {T Tm : Nat → Option Nat} {q qq : Nat → Int} {H : Heap} {locs : List Loc} (hI : LI D cT s a am T q Tm qq H locs) (hnext : ∀ (T : Nat → Option Nat) (q : Nat → Int) (Tm : Nat → Option Nat) (qq : Nat → Int) (H : Heap) (locs : List Loc), LI D cT s a am T q Tm qq H locs → W p l e room_1 s m #[Value.ref b] below meth c H locs 223 21033 (lw_Z below #[Value.ref b] s) (F0 m 1368 ls [])) : W p l e room_1 s m #[Value.ref b] below meth c H locs 223 21033 (lw_Z below #[Value.ref b] s) (F0 m 493 ls []) := by
  have hx := S.1; have hb := S.2.1
  have hbA : ¬ (fun q : Nat => s.heap.size ≤ q) b := Nat.not_le.mpr hbl
  refine lv_aload_n hx hb dL_law_493 rfl (lv_at hl 2 rfl) ?_
  refine lv_aload_n hx hb dL_law_494 rfl (lv_at hl 3 rfl) ?_
  refine lv_iload_n hx hb dL_law_495 rfl (lv_at hl 0 rfl) ?_
  refine lv_iconst (v := 1) hx hb dL_law_496 (by decide) ?_
  refine lv_iadd hx hb dL_law_497 ?_
  refine lv_topi (fun j1 ej1 => ?_)
  have ej1 : j1 = nI (i + 1) := ej1.trans (nI_add i 1)
  subst ej1
  refine va_sld hx hb hX hbl hbA hI.1.2.2.2.2.2.2 (nI_in (by omega) (by omega)) dL_law_498 ?_
  refine lv_topi (fun y2 ey2 => ?_)
  clear ey2
  refine lv_aload_n hx hb dL_law_499 rfl (lv_at hl 3 rfl) ?_
  refine lv_iload_n hx hb dL_law_500 rfl (lv_at hl 0 rfl) ?_
  refine lv_iconst (v := 2) hx hb dL_law_501 (by decide) ?_
  refine lv_iadd hx hb dL_law_502 ?_
  refine lv_topi (fun j3 ej3 => ?_)
  have ej3 : j3 = nI (i + 2) := ej3.trans (nI_add i 2)
  subst ej3
  refine va_sld hx hb hX hbl hbA hI.1.2.2.2.2.2.2 (nI_in (by omega) (by omega)) dL_law_503 ?_
  refine lv_topi (fun y4 ey4 => ?_)
  clear ey4
  refine lw_C (n := 2) (As := [.int y2, .int y4]) S hK hI (m_X10_trough l D cT T q hI.1.2.2.1.2.1.1 a hI.1.2.2.1.2.2 (y2) (iv_top _) (y4) (iv_top _)) th_R_int gm_883 gm_880 gm_881 gm_882 gm_113 (by decide +kernel) ⟨rfl, rfl, Nat.le_of_ble_eq_true rfl, Nat.le_of_ble_eq_true rfl⟩ rfl hl.1 rfl (Nat.le_of_ble_eq_true rfl) dL_law_504 ⟨Nat.le_of_ble_eq_true rfl, Nat.le_of_ble_eq_true rfl⟩ (fun x5 H locs Ix5 => ?_)
  refine lv_pop (pc := 507) hx hb dL_law_507 rfl ?_
  refine lv_aload_n hx hb dL_law_508 rfl (lv_at hl 1 rfl) ?_
  refine lv_aload_n hx hb dL_law_509 rfl (lv_at hl 3 rfl) ?_
  refine lv_iload_n hx hb dL_law_510 rfl (lv_at hl 0 rfl) ?_
  refine lv_iconst (v := 1) hx hb dL_law_511 (by decide) ?_
  refine lv_iadd hx hb dL_law_512 ?_
  refine lv_topi (fun j6 ej6 => ?_)
  have ej6 : j6 = nI (i + 1) := ej6.trans (nI_add i 1)
  subst ej6
  refine va_sld hx hb hX hbl hbA Ix5.1.2.2.2.2.2.2 (nI_in (by omega) (by omega)) dL_law_513 ?_
  refine lv_topi (fun y7 ey7 => ?_)
  clear ey7
  refine lv_aload_n hx hb dL_law_514 rfl (lv_at hl 3 rfl) ?_
  refine lv_iload_n hx hb dL_law_515 rfl (lv_at hl 0 rfl) ?_
  refine lv_iconst (v := 2) hx hb dL_law_516 (by decide) ?_
  refine lv_iadd hx hb dL_law_517 ?_
  refine lv_topi (fun j8 ej8 => ?_)
  have ej8 : j8 = nI (i + 2) := ej8.trans (nI_add i 2)
  subst ej8
  refine va_sld hx hb hX hbl hbA Ix5.1.2.2.2.2.2.2 (nI_in (by omega) (by omega)) dL_law_518 ?_
  refine lv_topi (fun y9 ey9 => ?_)
  clear ey9
  refine lw_M (n := 2) (As := [.int y7, .int y9]) S hK Ix5 (m_X11_trough l D cT Tm qq Ix5.1.2.2.2.1.1 Ix5.1.2.2.2.1.2.1 am Ix5.1.2.2.2.1.2.2.2 (y7) (iv_top _) (y9) (iv_top _)) th_R_int gm_1689 gm_1686 gm_1687 gm_1688 gm_124 (by decide +kernel) ⟨rfl, rfl, Nat.le_of_ble_eq_true rfl, Nat.le_of_ble_eq_true rfl⟩ rfl hl.1 rfl (Nat.le_of_ble_eq_true rfl) dL_law_519 ⟨Nat.le_of_ble_eq_true rfl, Nat.le_of_ble_eq_true rfl⟩ (fun x10 H locs Ix10 => ?_)
  refine lv_pop (pc := 522) hx hb dL_law_522 rfl ?_
  refine lv_goto (tgt := 1368) hx hb dL_law_523 (by decide) ?_
  exact hnext T q Tm qq H locs Ix10

set_option maxHeartbeats 4000000 in
set_option maxRecDepth 100000 in
theorem law_c10 {p : Program} {l : Launch} {e : Env} {s : State} {m : MethodId} {below : List Frame} {meth : Method} {c : Code} {b L i : Nat} {xs : Nat → Int32} {D : va_G} {cT : Nat → ClassId} {a am : Nat} {adK adV : Nat → Nat} {ls : Array Slot} (S : CallFix p m c code 4 s #[Value.ref b] gw RL) (hK : va_K D classes (th_tys cT) s) (hX : va_X b L xs s s.heap) (hbl : b < s.heap.size) (hL : L ≤ 3072) (hi : i + 6 ≤ L) (hl : lv_has ls 4 [(3, .int (nI i)), (2, .ref am), (1, .ref a), (0, .ref b)]) (hE : st_S adK adV (fun q => s.heap.size ≤ q) s s.heap ∧ vk_R "HungryMaps$Tape" 68 "food map place likes border taste winter draw scale year eaten cold size worth holes hunger in folded on or and not " (adK 0) s ∧ vk_R "HungryMaps$Tape" 47 ";()<>=+-*/%" (adK 1) s) {T Tm : Nat → Option Nat} {q qq : Nat → Int} {H : Heap} {locs : List Loc} (hI : LI D cT s a am T q Tm qq H locs) (hnext : ∀ (T : Nat → Option Nat) (q : Nat → Int) (Tm : Nat → Option Nat) (qq : Nat → Int) (H : Heap) (locs : List Loc), LI D cT s a am T q Tm qq H locs → W p l e room_1 s m #[Value.ref b] below meth c H locs 223 21033 (lw_Z below #[Value.ref b] s) (F0 m 1368 ls [])) : W p l e room_1 s m #[Value.ref b] below meth c H locs 223 21033 (lw_Z below #[Value.ref b] s) (F0 m 526 ls []) := by
  have hx := S.1; have hb := S.2.1
  have hbA : ¬ (fun q : Nat => s.heap.size ≤ q) b := Nat.not_le.mpr hbl
  refine lv_aload_n hx hb dL_law_526 rfl (lv_at hl 2 rfl) ?_
  refine lv_aload_n hx hb dL_law_527 rfl (lv_at hl 3 rfl) ?_
  refine lv_iload_n hx hb dL_law_528 rfl (lv_at hl 0 rfl) ?_
  refine lv_iconst (v := 1) hx hb dL_law_529 (by decide) ?_
  refine lv_iadd hx hb dL_law_530 ?_
  refine lv_topi (fun j1 ej1 => ?_)
  have ej1 : j1 = nI (i + 1) := ej1.trans (nI_add i 1)
  subst ej1
  refine va_sld hx hb hX hbl hbA hI.1.2.2.2.2.2.2 (nI_in (by omega) (by omega)) dL_law_531 ?_
  refine lv_topi (fun y2 ey2 => ?_)
  clear ey2
  refine lv_aload_n hx hb dL_law_532 rfl (lv_at hl 3 rfl) ?_
  refine lv_iload_n hx hb dL_law_533 rfl (lv_at hl 0 rfl) ?_
  refine lv_iconst (v := 2) hx hb dL_law_534 (by decide) ?_
  refine lv_iadd hx hb dL_law_535 ?_
  refine lv_topi (fun j3 ej3 => ?_)
  have ej3 : j3 = nI (i + 2) := ej3.trans (nI_add i 2)
  subst ej3
  refine va_sld hx hb hX hbl hbA hI.1.2.2.2.2.2.2 (nI_in (by omega) (by omega)) dL_law_536 ?_
  refine lv_topi (fun y4 ey4 => ?_)
  clear ey4
  refine lv_aload_n hx hb dL_law_537 rfl (lv_at hl 3 rfl) ?_
  refine lv_iload_n hx hb dL_law_538 rfl (lv_at hl 0 rfl) ?_
  refine lv_iconst (v := 3) hx hb dL_law_539 (by decide) ?_
  refine lv_iadd hx hb dL_law_540 ?_
  refine lv_topi (fun j5 ej5 => ?_)
  have ej5 : j5 = nI (i + 3) := ej5.trans (nI_add i 3)
  subst ej5
  refine va_sld hx hb hX hbl hbA hI.1.2.2.2.2.2.2 (nI_in (by omega) (by omega)) dL_law_541 ?_
  refine lv_topi (fun y6 ey6 => ?_)
  clear ey6
  refine lw_X (n := 3) (As := [.int y2, .int y4, .int y6]) S hK hI (m_X10_give l D cT T q hI.1.2.2.1.1.tok hI.1.2.2.1.2.1 a hI.1.2.2.1.2.2 (y2) (iv_top _) (y4) (iv_top _) (y6) (iv_top _)) th_R_int gm_887 gm_884 gm_885 gm_886 gm_113 (by decide +kernel) ⟨rfl, rfl, Nat.le_of_ble_eq_true rfl, Nat.le_of_ble_eq_true rfl⟩ rfl hl.1 rfl (Nat.le_of_ble_eq_true rfl) dL_law_542 ⟨Nat.le_of_ble_eq_true rfl, Nat.le_of_ble_eq_true rfl⟩ (fun x7 qx7 H locs Ix7 => ?_)
  refine lv_pop (pc := 545) hx hb dL_law_545 rfl ?_
  refine lv_aload_n hx hb dL_law_546 rfl (lv_at hl 1 rfl) ?_
  refine lv_aload_n hx hb dL_law_547 rfl (lv_at hl 3 rfl) ?_
  refine lv_iload_n hx hb dL_law_548 rfl (lv_at hl 0 rfl) ?_
  refine lv_iconst (v := 1) hx hb dL_law_549 (by decide) ?_
  refine lv_iadd hx hb dL_law_550 ?_
  refine lv_topi (fun j8 ej8 => ?_)
  have ej8 : j8 = nI (i + 1) := ej8.trans (nI_add i 1)
  subst ej8
  refine va_sld hx hb hX hbl hbA Ix7.1.2.2.2.2.2.2 (nI_in (by omega) (by omega)) dL_law_551 ?_
  refine lv_topi (fun y9 ey9 => ?_)
  clear ey9
  refine lv_aload_n hx hb dL_law_552 rfl (lv_at hl 3 rfl) ?_
  refine lv_iload_n hx hb dL_law_553 rfl (lv_at hl 0 rfl) ?_
  refine lv_iconst (v := 2) hx hb dL_law_554 (by decide) ?_
  refine lv_iadd hx hb dL_law_555 ?_
  refine lv_topi (fun j10 ej10 => ?_)
  have ej10 : j10 = nI (i + 2) := ej10.trans (nI_add i 2)
  subst ej10
  refine va_sld hx hb hX hbl hbA Ix7.1.2.2.2.2.2.2 (nI_in (by omega) (by omega)) dL_law_556 ?_
  refine lv_topi (fun y11 ey11 => ?_)
  clear ey11
  refine lv_aload_n hx hb dL_law_557 rfl (lv_at hl 3 rfl) ?_
  refine lv_iload_n hx hb dL_law_558 rfl (lv_at hl 0 rfl) ?_
  refine lv_iconst (v := 3) hx hb dL_law_559 (by decide) ?_
  refine lv_iadd hx hb dL_law_560 ?_
  refine lv_topi (fun j12 ej12 => ?_)
  have ej12 : j12 = nI (i + 3) := ej12.trans (nI_add i 3)
  subst ej12
  refine va_sld hx hb hX hbl hbA Ix7.1.2.2.2.2.2.2 (nI_in (by omega) (by omega)) dL_law_561 ?_
  refine lv_topi (fun y13 ey13 => ?_)
  clear ey13
  refine lw_MM (n := 3) (As := [.int y9, .int y11, .int y13]) S hK Ix7 (m_X11_give l D cT Tm qq Ix7.1.2.2.2.1.1 Ix7.1.2.2.2.1.2.1 am Ix7.1.2.2.2.1.2.2.2 (y9) (iv_top _) (y11) (iv_top _) (y13) (iv_top _) Ix7.1.2.2.2.1.2.2.1) (fun v q2 h => by obtain ⟨r, rfl, _, h1, h2, h3⟩ := h; exact ⟨⟨r, rfl⟩, h1, h3, h2 9 (by decide) (Or.inl (by decide))⟩) gm_1693 gm_1690 gm_1691 gm_1692 gm_124 (by decide +kernel) ⟨rfl, rfl, Nat.le_of_ble_eq_true rfl, Nat.le_of_ble_eq_true rfl⟩ rfl hl.1 rfl (Nat.le_of_ble_eq_true rfl) dL_law_562 ⟨Nat.le_of_ble_eq_true rfl, Nat.le_of_ble_eq_true rfl⟩ (fun x14 qx14 H locs Ix14 => ?_)
  refine lv_pop (pc := 565) hx hb dL_law_565 rfl ?_
  refine lv_goto (tgt := 1368) hx hb dL_law_566 (by decide) ?_
  exact hnext T qx7 Tm qx14 H locs Ix14

set_option maxHeartbeats 4000000 in
set_option maxRecDepth 100000 in
theorem law_c11 {p : Program} {l : Launch} {e : Env} {s : State} {m : MethodId} {below : List Frame} {meth : Method} {c : Code} {b L i : Nat} {xs : Nat → Int32} {D : va_G} {cT : Nat → ClassId} {a am : Nat} {adK adV : Nat → Nat} {ls : Array Slot} (S : CallFix p m c code 4 s #[Value.ref b] gw RL) (hK : va_K D classes (th_tys cT) s) (hX : va_X b L xs s s.heap) (hbl : b < s.heap.size) (hL : L ≤ 3072) (hi : i + 6 ≤ L) (hl : lv_has ls 4 [(3, .int (nI i)), (2, .ref am), (1, .ref a), (0, .ref b)]) (hE : st_S adK adV (fun q => s.heap.size ≤ q) s s.heap ∧ vk_R "HungryMaps$Tape" 68 "food map place likes border taste winter draw scale year eaten cold size worth holes hunger in folded on or and not " (adK 0) s ∧ vk_R "HungryMaps$Tape" 47 ";()<>=+-*/%" (adK 1) s) {T Tm : Nat → Option Nat} {q qq : Nat → Int} {H : Heap} {locs : List Loc} (hI : LI D cT s a am T q Tm qq H locs) (hnext : ∀ (T : Nat → Option Nat) (q : Nat → Int) (Tm : Nat → Option Nat) (qq : Nat → Int) (H : Heap) (locs : List Loc), LI D cT s a am T q Tm qq H locs → W p l e room_1 s m #[Value.ref b] below meth c H locs 223 21033 (lw_Z below #[Value.ref b] s) (F0 m 1368 ls [])) : W p l e room_1 s m #[Value.ref b] below meth c H locs 223 21033 (lw_Z below #[Value.ref b] s) (F0 m 569 ls []) := by
  have hx := S.1; have hb := S.2.1
  have hbA : ¬ (fun q : Nat => s.heap.size ≤ q) b := Nat.not_le.mpr hbl
  refine lv_aload_n hx hb dL_law_569 rfl (lv_at hl 2 rfl) ?_
  refine lv_aload_n hx hb dL_law_570 rfl (lv_at hl 3 rfl) ?_
  refine lv_iload_n hx hb dL_law_571 rfl (lv_at hl 0 rfl) ?_
  refine lv_iconst (v := 1) hx hb dL_law_572 (by decide) ?_
  refine lv_iadd hx hb dL_law_573 ?_
  refine lv_topi (fun j1 ej1 => ?_)
  have ej1 : j1 = nI (i + 1) := ej1.trans (nI_add i 1)
  subst ej1
  refine va_sld hx hb hX hbl hbA hI.1.2.2.2.2.2.2 (nI_in (by omega) (by omega)) dL_law_574 ?_
  refine lv_topi (fun y2 ey2 => ?_)
  clear ey2
  refine lw_X (n := 1) (As := [.int y2]) S hK hI (m_X10_fold l D cT T q hI.1.2.2.1.1.tok hI.1.2.2.1.2.1 a hI.1.2.2.1.2.2 (y2) (iv_top _)) th_R_int gm_896 gm_893 gm_894 gm_895 gm_113 (by decide +kernel) ⟨rfl, rfl, Nat.le_of_ble_eq_true rfl, Nat.le_of_ble_eq_true rfl⟩ rfl hl.1 rfl (Nat.le_of_ble_eq_true rfl) dL_law_575 ⟨Nat.le_of_ble_eq_true rfl, Nat.le_of_ble_eq_true rfl⟩ (fun x3 qx3 H locs Ix3 => ?_)
  refine lv_pop (pc := 578) hx hb dL_law_578 rfl ?_
  refine lv_aload_n hx hb dL_law_579 rfl (lv_at hl 1 rfl) ?_
  refine lv_aload_n hx hb dL_law_580 rfl (lv_at hl 3 rfl) ?_
  refine lv_iload_n hx hb dL_law_581 rfl (lv_at hl 0 rfl) ?_
  refine lv_iconst (v := 1) hx hb dL_law_582 (by decide) ?_
  refine lv_iadd hx hb dL_law_583 ?_
  refine lv_topi (fun j4 ej4 => ?_)
  have ej4 : j4 = nI (i + 1) := ej4.trans (nI_add i 1)
  subst ej4
  refine va_sld hx hb hX hbl hbA Ix3.1.2.2.2.2.2.2 (nI_in (by omega) (by omega)) dL_law_584 ?_
  refine lv_topi (fun y5 ey5 => ?_)
  clear ey5
  refine lw_MM (n := 1) (As := [.int y5]) S hK Ix3 (m_X11_fold l D cT Tm qq Ix3.1.2.2.2.1.1 Ix3.1.2.2.2.1.2.1 am Ix3.1.2.2.2.1.2.2.2 (y5) (iv_top _) Ix3.1.2.2.2.1.2.2.1) (fun v q2 h => by obtain ⟨r, rfl, _, h1, h2, h3⟩ := h; exact ⟨⟨r, rfl⟩, h1, h3, h2 9 (by decide) (Or.inl (by decide))⟩) gm_1701 gm_1698 gm_1699 gm_1700 gm_124 (by decide +kernel) ⟨rfl, rfl, Nat.le_of_ble_eq_true rfl, Nat.le_of_ble_eq_true rfl⟩ rfl hl.1 rfl (Nat.le_of_ble_eq_true rfl) dL_law_585 ⟨Nat.le_of_ble_eq_true rfl, Nat.le_of_ble_eq_true rfl⟩ (fun x6 qx6 H locs Ix6 => ?_)
  refine lv_pop (pc := 588) hx hb dL_law_588 rfl ?_
  refine lv_goto (tgt := 1368) hx hb dL_law_589 (by decide) ?_
  exact hnext T qx3 Tm qx6 H locs Ix6

set_option maxHeartbeats 4000000 in
set_option maxRecDepth 100000 in
theorem law_c12 {p : Program} {l : Launch} {e : Env} {s : State} {m : MethodId} {below : List Frame} {meth : Method} {c : Code} {b L i : Nat} {xs : Nat → Int32} {D : va_G} {cT : Nat → ClassId} {a am : Nat} {adK adV : Nat → Nat} {ls : Array Slot} (S : CallFix p m c code 4 s #[Value.ref b] gw RL) (hK : va_K D classes (th_tys cT) s) (hX : va_X b L xs s s.heap) (hbl : b < s.heap.size) (hL : L ≤ 3072) (hi : i + 6 ≤ L) (hl : lv_has ls 4 [(3, .int (nI i)), (2, .ref am), (1, .ref a), (0, .ref b)]) (hE : st_S adK adV (fun q => s.heap.size ≤ q) s s.heap ∧ vk_R "HungryMaps$Tape" 68 "food map place likes border taste winter draw scale year eaten cold size worth holes hunger in folded on or and not " (adK 0) s ∧ vk_R "HungryMaps$Tape" 47 ";()<>=+-*/%" (adK 1) s) {T Tm : Nat → Option Nat} {q qq : Nat → Int} {H : Heap} {locs : List Loc} (hI : LI D cT s a am T q Tm qq H locs) (hnext : ∀ (T : Nat → Option Nat) (q : Nat → Int) (Tm : Nat → Option Nat) (qq : Nat → Int) (H : Heap) (locs : List Loc), LI D cT s a am T q Tm qq H locs → W p l e room_1 s m #[Value.ref b] below meth c H locs 223 21033 (lw_Z below #[Value.ref b] s) (F0 m 1368 ls [])) : W p l e room_1 s m #[Value.ref b] below meth c H locs 223 21033 (lw_Z below #[Value.ref b] s) (F0 m 592 ls []) := by
  have hx := S.1; have hb := S.2.1
  have hbA : ¬ (fun q : Nat => s.heap.size ≤ q) b := Nat.not_le.mpr hbl
  refine lv_aload_n hx hb dL_law_592 rfl (lv_at hl 2 rfl) ?_
  refine lv_aload_n hx hb dL_law_593 rfl (lv_at hl 3 rfl) ?_
  refine lv_iload_n hx hb dL_law_594 rfl (lv_at hl 0 rfl) ?_
  refine lv_iconst (v := 1) hx hb dL_law_595 (by decide) ?_
  refine lv_iadd hx hb dL_law_596 ?_
  refine lv_topi (fun j1 ej1 => ?_)
  have ej1 : j1 = nI (i + 1) := ej1.trans (nI_add i 1)
  subst ej1
  refine va_sld hx hb hX hbl hbA hI.1.2.2.2.2.2.2 (nI_in (by omega) (by omega)) dL_law_597 ?_
  refine lv_topi (fun y2 ey2 => ?_)
  clear ey2
  refine lv_aload_n hx hb dL_law_598 rfl (lv_at hl 3 rfl) ?_
  refine lv_iload_n hx hb dL_law_599 rfl (lv_at hl 0 rfl) ?_
  refine lv_iconst (v := 2) hx hb dL_law_600 (by decide) ?_
  refine lv_iadd hx hb dL_law_601 ?_
  refine lv_topi (fun j3 ej3 => ?_)
  have ej3 : j3 = nI (i + 2) := ej3.trans (nI_add i 2)
  subst ej3
  refine va_sld hx hb hX hbl hbA hI.1.2.2.2.2.2.2 (nI_in (by omega) (by omega)) dL_law_602 ?_
  refine lv_topi (fun y4 ey4 => ?_)
  clear ey4
  refine lw_X (n := 2) (As := [.int y2, .int y4]) S hK hI (m_X10_put l D cT T q hI.1.2.2.1.1.tok hI.1.2.2.1.2.1 a hI.1.2.2.1.2.2 (y2) (iv_top _) (y4) (iv_top _)) th_R_int gm_900 gm_897 gm_898 gm_899 gm_113 (by decide +kernel) ⟨rfl, rfl, Nat.le_of_ble_eq_true rfl, Nat.le_of_ble_eq_true rfl⟩ rfl hl.1 rfl (Nat.le_of_ble_eq_true rfl) dL_law_603 ⟨Nat.le_of_ble_eq_true rfl, Nat.le_of_ble_eq_true rfl⟩ (fun x5 qx5 H locs Ix5 => ?_)
  refine lv_pop (pc := 606) hx hb dL_law_606 rfl ?_
  refine lv_aload_n hx hb dL_law_607 rfl (lv_at hl 1 rfl) ?_
  refine lv_aload_n hx hb dL_law_608 rfl (lv_at hl 3 rfl) ?_
  refine lv_iload_n hx hb dL_law_609 rfl (lv_at hl 0 rfl) ?_
  refine lv_iconst (v := 1) hx hb dL_law_610 (by decide) ?_
  refine lv_iadd hx hb dL_law_611 ?_
  refine lv_topi (fun j6 ej6 => ?_)
  have ej6 : j6 = nI (i + 1) := ej6.trans (nI_add i 1)
  subst ej6
  refine va_sld hx hb hX hbl hbA Ix5.1.2.2.2.2.2.2 (nI_in (by omega) (by omega)) dL_law_612 ?_
  refine lv_topi (fun y7 ey7 => ?_)
  clear ey7
  refine lv_aload_n hx hb dL_law_613 rfl (lv_at hl 3 rfl) ?_
  refine lv_iload_n hx hb dL_law_614 rfl (lv_at hl 0 rfl) ?_
  refine lv_iconst (v := 2) hx hb dL_law_615 (by decide) ?_
  refine lv_iadd hx hb dL_law_616 ?_
  refine lv_topi (fun j8 ej8 => ?_)
  have ej8 : j8 = nI (i + 2) := ej8.trans (nI_add i 2)
  subst ej8
  refine va_sld hx hb hX hbl hbA Ix5.1.2.2.2.2.2.2 (nI_in (by omega) (by omega)) dL_law_617 ?_
  refine lv_topi (fun y9 ey9 => ?_)
  clear ey9
  refine lw_MM (n := 2) (As := [.int y7, .int y9]) S hK Ix5 (m_X11_put l D cT Tm qq Ix5.1.2.2.2.1.1 Ix5.1.2.2.2.1.2.1 am Ix5.1.2.2.2.1.2.2.2 (y7) (iv_top _) (y9) (iv_top _) Ix5.1.2.2.2.1.2.2.1) (fun v q2 h => by obtain ⟨r, rfl, _, h1, h2, h3⟩ := h; exact ⟨⟨r, rfl⟩, h1, h3, h2 9 (by decide) (Or.inl (by decide))⟩) gm_1705 gm_1702 gm_1703 gm_1704 gm_124 (by decide +kernel) ⟨rfl, rfl, Nat.le_of_ble_eq_true rfl, Nat.le_of_ble_eq_true rfl⟩ rfl hl.1 rfl (Nat.le_of_ble_eq_true rfl) dL_law_618 ⟨Nat.le_of_ble_eq_true rfl, Nat.le_of_ble_eq_true rfl⟩ (fun x10 qx10 H locs Ix10 => ?_)
  refine lv_pop (pc := 621) hx hb dL_law_621 rfl ?_
  refine lv_goto (tgt := 1368) hx hb dL_law_622 (by decide) ?_
  exact hnext T qx5 Tm qx10 H locs Ix10

set_option maxHeartbeats 4000000 in
set_option maxRecDepth 100000 in
theorem law_c13 {p : Program} {l : Launch} {e : Env} {s : State} {m : MethodId} {below : List Frame} {meth : Method} {c : Code} {b L i : Nat} {xs : Nat → Int32} {D : va_G} {cT : Nat → ClassId} {a am : Nat} {adK adV : Nat → Nat} {ls : Array Slot} (S : CallFix p m c code 4 s #[Value.ref b] gw RL) (hK : va_K D classes (th_tys cT) s) (hX : va_X b L xs s s.heap) (hbl : b < s.heap.size) (hL : L ≤ 3072) (hi : i + 6 ≤ L) (hl : lv_has ls 4 [(3, .int (nI i)), (2, .ref am), (1, .ref a), (0, .ref b)]) (hE : st_S adK adV (fun q => s.heap.size ≤ q) s s.heap ∧ vk_R "HungryMaps$Tape" 68 "food map place likes border taste winter draw scale year eaten cold size worth holes hunger in folded on or and not " (adK 0) s ∧ vk_R "HungryMaps$Tape" 47 ";()<>=+-*/%" (adK 1) s) {T Tm : Nat → Option Nat} {q qq : Nat → Int} {H : Heap} {locs : List Loc} (hI : LI D cT s a am T q Tm qq H locs) (hnext : ∀ (T : Nat → Option Nat) (q : Nat → Int) (Tm : Nat → Option Nat) (qq : Nat → Int) (H : Heap) (locs : List Loc), LI D cT s a am T q Tm qq H locs → W p l e room_1 s m #[Value.ref b] below meth c H locs 223 21033 (lw_Z below #[Value.ref b] s) (F0 m 1368 ls [])) : W p l e room_1 s m #[Value.ref b] below meth c H locs 223 21033 (lw_Z below #[Value.ref b] s) (F0 m 625 ls []) := by
  have hx := S.1; have hb := S.2.1
  have hbA : ¬ (fun q : Nat => s.heap.size ≤ q) b := Nat.not_le.mpr hbl
  refine lv_aload_n hx hb dL_law_625 rfl (lv_at hl 2 rfl) ?_
  refine lw_X (n := 0) (As := []) S hK hI (m_X10_year l D cT T q hI.1.2.2.1.1.tok hI.1.2.2.1.2.1 a hI.1.2.2.1.2.2 ) th_R_int gm_904 gm_901 gm_902 gm_903 gm_113 (by decide +kernel) ⟨rfl, rfl, Nat.le_of_ble_eq_true rfl, Nat.le_of_ble_eq_true rfl⟩ rfl hl.1 rfl (Nat.le_of_ble_eq_true rfl) dL_law_626 ⟨Nat.le_of_ble_eq_true rfl, Nat.le_of_ble_eq_true rfl⟩ (fun x1 qx1 H locs Ix1 => ?_)
  refine lv_pop (pc := 629) hx hb dL_law_629 rfl ?_
  refine lv_aload_n hx hb dL_law_630 rfl (lv_at hl 1 rfl) ?_
  refine lw_MM (n := 0) (As := []) S hK Ix1 (m_X11_year l D cT Tm qq Ix1.1.2.2.2.1.1 Ix1.1.2.2.2.1.2.1 am Ix1.1.2.2.2.1.2.2.2  Ix1.1.2.2.2.1.2.2.1) (fun v q2 h => by obtain ⟨r, rfl, _, h1, h2, h3⟩ := h; exact ⟨⟨r, rfl⟩, h1, h3, h2 9 (by decide) (Or.inl (by decide))⟩) gm_1709 gm_1706 gm_1707 gm_1708 gm_124 (by decide +kernel) ⟨rfl, rfl, Nat.le_of_ble_eq_true rfl, Nat.le_of_ble_eq_true rfl⟩ rfl hl.1 rfl (Nat.le_of_ble_eq_true rfl) dL_law_631 ⟨Nat.le_of_ble_eq_true rfl, Nat.le_of_ble_eq_true rfl⟩ (fun x2 qx2 H locs Ix2 => ?_)
  refine lv_pop (pc := 634) hx hb dL_law_634 rfl ?_
  refine lv_goto (tgt := 1368) hx hb dL_law_635 (by decide) ?_
  exact hnext T qx1 Tm qx2 H locs Ix2
