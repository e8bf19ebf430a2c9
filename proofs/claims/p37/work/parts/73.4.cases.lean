set_option maxHeartbeats 4000000 in
set_option maxRecDepth 100000 in
theorem law_c28 {p : Program} {l : Launch} {e : Env} {s : State} {m : MethodId} {below : List Frame} {meth : Method} {c : Code} {b L i : Nat} {xs : Nat → Int32} {D : va_G} {cT : Nat → ClassId} {a am : Nat} {adK adV : Nat → Nat} {ls : Array Slot} (S : CallFix p m c code 4 s #[Value.ref b] gw RL) (hK : va_K D classes (th_tys cT) s) (hX : va_X b L xs s s.heap) (hbl : b < s.heap.size) (hL : L ≤ 3072) (hi : i + 6 ≤ L) (hl : lv_has ls 4 [(3, .int (nI i)), (2, .ref am), (1, .ref a), (0, .ref b)]) (hE : st_S adK adV (fun q => s.heap.size ≤ q) s s.heap ∧ vk_R "HungryMaps$Tape" 68 "food map place likes border taste winter draw scale year eaten cold size worth holes hunger in folded on or and not " (adK 0) s ∧ vk_R "HungryMaps$Tape" 47 ";()<>=+-*/%" (adK 1) s) {T Tm : Nat → Option Nat} {q qq : Nat → Int} {H : Heap} {locs : List Loc} (hI : LI D cT s a am T q Tm qq H locs) (hnext : ∀ (T : Nat → Option Nat) (q : Nat → Int) (Tm : Nat → Option Nat) (qq : Nat → Int) (H : Heap) (locs : List Loc), LI D cT s a am T q Tm qq H locs → W p l e room_1 s m #[Value.ref b] below meth c H locs 223 21033 (lw_Z below #[Value.ref b] s) (F0 m 1368 ls [])) : W p l e room_1 s m #[Value.ref b] below meth c H locs 223 21033 (lw_Z below #[Value.ref b] s) (F0 m 960 ls []) := by
  have hx := S.1; have hb := S.2.1
  have hbA : ¬ (fun q : Nat => s.heap.size ≤ q) b := Nat.not_le.mpr hbl
  refine lv_aload_n hx hb dL_law_960 rfl (lv_at hl 2 rfl) ?_
  refine lv_aload_n hx hb dL_law_961 rfl (lv_at hl 3 rfl) ?_
  refine lv_iload_n hx hb dL_law_962 rfl (lv_at hl 0 rfl) ?_
  refine lv_iconst (v := 1) hx hb dL_law_963 (by decide) ?_
  refine lv_iadd hx hb dL_law_964 ?_
  refine lv_topi (fun j1 ej1 => ?_)
  have ej1 : j1 = nI (i + 1) := ej1.trans (nI_add i 1)
  subst ej1
  refine va_sld hx hb hX hbl hbA hI.1.2.2.2.2.2.2 (nI_in (by omega) (by omega)) dL_law_965 ?_
  refine lv_topi (fun y2 ey2 => ?_)
  clear ey2
  refine lw_C (n := 1) (As := [.int y2]) S hK hI (m_X10_drawers l D cT T q hI.1.2.2.1.2.1.1 a hI.1.2.2.1.2.2 (y2) (iv_top _)) th_R_int gm_1089 gm_1086 gm_1087 gm_1088 gm_113 (by decide +kernel) ⟨rfl, rfl, Nat.le_of_ble_eq_true rfl, Nat.le_of_ble_eq_true rfl⟩ rfl hl.1 rfl (Nat.le_of_ble_eq_true rfl) dL_law_966 ⟨Nat.le_of_ble_eq_true rfl, Nat.le_of_ble_eq_true rfl⟩ (fun x3 H locs Ix3 => ?_)
  refine lv_pop (pc := 969) hx hb dL_law_969 rfl ?_
  refine lv_aload_n hx hb dL_law_970 rfl (lv_at hl 1 rfl) ?_
  refine lv_aload_n hx hb dL_law_971 rfl (lv_at hl 3 rfl) ?_
  refine lv_iload_n hx hb dL_law_972 rfl (lv_at hl 0 rfl) ?_
  refine lv_iconst (v := 1) hx hb dL_law_973 (by decide) ?_
  refine lv_iadd hx hb dL_law_974 ?_
  refine lv_topi (fun j4 ej4 => ?_)
  have ej4 : j4 = nI (i + 1) := ej4.trans (nI_add i 1)
  subst ej4
  refine va_sld hx hb hX hbl hbA Ix3.1.2.2.2.2.2.2 (nI_in (by omega) (by omega)) dL_law_975 ?_
  refine lv_topi (fun y5 ey5 => ?_)
  clear ey5
  refine lw_M (n := 1) (As := [.int y5]) S hK Ix3 (m_X11_drawers l D cT Tm qq Ix3.1.2.2.2.1.1 Ix3.1.2.2.2.1.2.1 am Ix3.1.2.2.2.1.2.2.2 (y5) (iv_top _)) th_R_int gm_1832 gm_1829 gm_1830 gm_1831 gm_124 (by decide +kernel) ⟨rfl, rfl, Nat.le_of_ble_eq_true rfl, Nat.le_of_ble_eq_true rfl⟩ rfl hl.1 rfl (Nat.le_of_ble_eq_true rfl) dL_law_976 ⟨Nat.le_of_ble_eq_true rfl, Nat.le_of_ble_eq_true rfl⟩ (fun x6 H locs Ix6 => ?_)
  refine lv_pop (pc := 979) hx hb dL_law_979 rfl ?_
  refine lv_goto (tgt := 1368) hx hb dL_law_980 (by decide) ?_
  exact hnext T q Tm qq H locs Ix6

set_option maxHeartbeats 4000000 in
set_option maxRecDepth 100000 in
theorem law_c29 {p : Program} {l : Launch} {e : Env} {s : State} {m : MethodId} {below : List Frame} {meth : Method} {c : Code} {b L i : Nat} {xs : Nat → Int32} {D : va_G} {cT : Nat → ClassId} {a am : Nat} {adK adV : Nat → Nat} {ls : Array Slot} (S : CallFix p m c code 4 s #[Value.ref b] gw RL) (hK : va_K D classes (th_tys cT) s) (hX : va_X b L xs s s.heap) (hbl : b < s.heap.size) (hL : L ≤ 3072) (hi : i + 6 ≤ L) (hl : lv_has ls 4 [(3, .int (nI i)), (2, .ref am), (1, .ref a), (0, .ref b)]) (hE : st_S adK adV (fun q => s.heap.size ≤ q) s s.heap ∧ vk_R "HungryMaps$Tape" 68 "food map place likes border taste winter draw scale year eaten cold size worth holes hunger in folded on or and not " (adK 0) s ∧ vk_R "HungryMaps$Tape" 47 ";()<>=+-*/%" (adK 1) s) {T Tm : Nat → Option Nat} {q qq : Nat → Int} {H : Heap} {locs : List Loc} (hI : LI D cT s a am T q Tm qq H locs) (hnext : ∀ (T : Nat → Option Nat) (q : Nat → Int) (Tm : Nat → Option Nat) (qq : Nat → Int) (H : Heap) (locs : List Loc), LI D cT s a am T q Tm qq H locs → W p l e room_1 s m #[Value.ref b] below meth c H locs 223 21033 (lw_Z below #[Value.ref b] s) (F0 m 1368 ls [])) : W p l e room_1 s m #[Value.ref b] below meth c H locs 223 21033 (lw_Z below #[Value.ref b] s) (F0 m 983 ls []) := by
  have hx := S.1; have hb := S.2.1
  have hbA : ¬ (fun q : Nat => s.heap.size ≤ q) b := Nat.not_le.mpr hbl
  refine lv_aload_n hx hb dL_law_983 rfl (lv_at hl 2 rfl) ?_
  refine lw_C (n := 0) (As := []) S hK hI (m_X10_least l D cT T q hI.1.2.2.1.2.1.1 a hI.1.2.2.1.2.2 ) th_R_int gm_1109 gm_1106 gm_1107 gm_1108 gm_113 (by decide +kernel) ⟨rfl, rfl, Nat.le_of_ble_eq_true rfl, Nat.le_of_ble_eq_true rfl⟩ rfl hl.1 rfl (Nat.le_of_ble_eq_true rfl) dL_law_984 ⟨Nat.le_of_ble_eq_true rfl, Nat.le_of_ble_eq_true rfl⟩ (fun x1 H locs Ix1 => ?_)
  refine lv_pop (pc := 987) hx hb dL_law_987 rfl ?_
  refine lv_aload_n hx hb dL_law_988 rfl (lv_at hl 1 rfl) ?_
  refine lw_MM (n := 0) (As := []) S hK Ix1 (m_X11_least l D cT Tm qq Ix1.1.2.2.2.1.1 Ix1.1.2.2.2.1.2.1 am Ix1.1.2.2.2.1.2.2.2 ) (fun v q2 h => by obtain ⟨r, rfl, _, h1, h2⟩ := h; exact ⟨⟨r, rfl⟩, h1, by rw [h2 7 (by decide) (Or.inl (by decide)), h2 8 (by decide) (Or.inl (by decide))]; exact Ix1.1.2.2.2.1.2.2.1, h2 9 (by decide) (Or.inl (by decide))⟩) gm_1848 gm_1845 gm_1846 gm_1847 gm_124 (by decide +kernel) ⟨rfl, rfl, Nat.le_of_ble_eq_true rfl, Nat.le_of_ble_eq_true rfl⟩ rfl hl.1 rfl (Nat.le_of_ble_eq_true rfl) dL_law_989 ⟨Nat.le_of_ble_eq_true rfl, Nat.le_of_ble_eq_true rfl⟩ (fun x2 qx2 H locs Ix2 => ?_)
  refine lv_pop (pc := 992) hx hb dL_law_992 rfl ?_
  refine lv_goto (tgt := 1368) hx hb dL_law_993 (by decide) ?_
  exact hnext T q Tm qx2 H locs Ix2

set_option maxHeartbeats 4000000 in
set_option maxRecDepth 100000 in
theorem law_c30 {p : Program} {l : Launch} {e : Env} {s : State} {m : MethodId} {below : List Frame} {meth : Method} {c : Code} {b L i : Nat} {xs : Nat → Int32} {D : va_G} {cT : Nat → ClassId} {a am : Nat} {adK adV : Nat → Nat} {ls : Array Slot} (S : CallFix p m c code 4 s #[Value.ref b] gw RL) (hK : va_K D classes (th_tys cT) s) (hX : va_X b L xs s s.heap) (hbl : b < s.heap.size) (hL : L ≤ 3072) (hi : i + 6 ≤ L) (hl : lv_has ls 4 [(3, .int (nI i)), (2, .ref am), (1, .ref a), (0, .ref b)]) (hE : st_S adK adV (fun q => s.heap.size ≤ q) s s.heap ∧ vk_R "HungryMaps$Tape" 68 "food map place likes border taste winter draw scale year eaten cold size worth holes hunger in folded on or and not " (adK 0) s ∧ vk_R "HungryMaps$Tape" 47 ";()<>=+-*/%" (adK 1) s) {T Tm : Nat → Option Nat} {q qq : Nat → Int} {H : Heap} {locs : List Loc} (hI : LI D cT s a am T q Tm qq H locs) (hnext : ∀ (T : Nat → Option Nat) (q : Nat → Int) (Tm : Nat → Option Nat) (qq : Nat → Int) (H : Heap) (locs : List Loc), LI D cT s a am T q Tm qq H locs → W p l e room_1 s m #[Value.ref b] below meth c H locs 223 21033 (lw_Z below #[Value.ref b] s) (F0 m 1368 ls [])) : W p l e room_1 s m #[Value.ref b] below meth c H locs 223 21033 (lw_Z below #[Value.ref b] s) (F0 m 996 ls []) := by
  have hx := S.1; have hb := S.2.1
  have hbA : ¬ (fun q : Nat => s.heap.size ≤ q) b := Nat.not_le.mpr hbl
  refine lv_aload_n hx hb dL_law_996 rfl (lv_at hl 2 rfl) ?_
  refine lw_C (n := 0) (As := []) S hK hI (m_X10_bites l D cT T q hI.1.2.2.1.2.1.1 a hI.1.2.2.1.2.2 ) th_R_int gm_1114 gm_1111 gm_1112 gm_1113 gm_113 (by decide +kernel) ⟨rfl, rfl, Nat.le_of_ble_eq_true rfl, Nat.le_of_ble_eq_true rfl⟩ rfl hl.1 rfl (Nat.le_of_ble_eq_true rfl) dL_law_997 ⟨Nat.le_of_ble_eq_true rfl, Nat.le_of_ble_eq_true rfl⟩ (fun x1 H locs Ix1 => ?_)
  refine lv_pop (pc := 1000) hx hb dL_law_1000 rfl ?_
  refine lv_aload_n hx hb dL_law_1001 rfl (lv_at hl 1 rfl) ?_
  refine lw_M (n := 0) (As := []) S hK Ix1 (m_X11_bites l D cT Tm qq Ix1.1.2.2.2.1.1 Ix1.1.2.2.2.1.2.1 am Ix1.1.2.2.2.1.2.2.2 ) th_R_int gm_1852 gm_1849 gm_1850 gm_1851 gm_124 (by decide +kernel) ⟨rfl, rfl, Nat.le_of_ble_eq_true rfl, Nat.le_of_ble_eq_true rfl⟩ rfl hl.1 rfl (Nat.le_of_ble_eq_true rfl) dL_law_1002 ⟨Nat.le_of_ble_eq_true rfl, Nat.le_of_ble_eq_true rfl⟩ (fun x2 H locs Ix2 => ?_)
  refine lv_pop (pc := 1005) hx hb dL_law_1005 rfl ?_
  refine lv_goto (tgt := 1368) hx hb dL_law_1006 (by decide) ?_
  exact hnext T q Tm qq H locs Ix2

set_option maxHeartbeats 4000000 in
set_option maxRecDepth 100000 in
theorem law_c31 {p : Program} {l : Launch} {e : Env} {s : State} {m : MethodId} {below : List Frame} {meth : Method} {c : Code} {b L i : Nat} {xs : Nat → Int32} {D : va_G} {cT : Nat → ClassId} {a am : Nat} {adK adV : Nat → Nat} {ls : Array Slot} (S : CallFix p m c code 4 s #[Value.ref b] gw RL) (hK : va_K D classes (th_tys cT) s) (hX : va_X b L xs s s.heap) (hbl : b < s.heap.size) (hL : L ≤ 3072) (hi : i + 6 ≤ L) (hl : lv_has ls 4 [(3, .int (nI i)), (2, .ref am), (1, .ref a), (0, .ref b)]) (hE : st_S adK adV (fun q => s.heap.size ≤ q) s s.heap ∧ vk_R "HungryMaps$Tape" 68 "food map place likes border taste winter draw scale year eaten cold size worth holes hunger in folded on or and not " (adK 0) s ∧ vk_R "HungryMaps$Tape" 47 ";()<>=+-*/%" (adK 1) s) {T Tm : Nat → Option Nat} {q qq : Nat → Int} {H : Heap} {locs : List Loc} (hI : LI D cT s a am T q Tm qq H locs) (hnext : ∀ (T : Nat → Option Nat) (q : Nat → Int) (Tm : Nat → Option Nat) (qq : Nat → Int) (H : Heap) (locs : List Loc), LI D cT s a am T q Tm qq H locs → W p l e room_1 s m #[Value.ref b] below meth c H locs 223 21033 (lw_Z below #[Value.ref b] s) (F0 m 1368 ls [])) : W p l e room_1 s m #[Value.ref b] below meth c H locs 223 21033 (lw_Z below #[Value.ref b] s) (F0 m 1009 ls []) := by
  have hx := S.1; have hb := S.2.1
  have hbA : ¬ (fun q : Nat => s.heap.size ≤ q) b := Nat.not_le.mpr hbl
  refine lv_aload_n hx hb dL_law_1009 rfl (lv_at hl 2 rfl) ?_
  refine lv_aload_n hx hb dL_law_1010 rfl (lv_at hl 3 rfl) ?_
  refine lv_iload_n hx hb dL_law_1011 rfl (lv_at hl 0 rfl) ?_
  refine lv_iconst (v := 1) hx hb dL_law_1012 (by decide) ?_
  refine lv_iadd hx hb dL_law_1013 ?_
  refine lv_topi (fun j1 ej1 => ?_)
  have ej1 : j1 = nI (i + 1) := ej1.trans (nI_add i 1)
  subst ej1
  refine va_sld hx hb hX hbl hbA hI.1.2.2.2.2.2.2 (nI_in (by omega) (by omega)) dL_law_1014 ?_
  refine lv_topi (fun y2 ey2 => ?_)
  clear ey2
  refine lv_aload_n hx hb dL_law_1015 rfl (lv_at hl 3 rfl) ?_
  refine lv_iload_n hx hb dL_law_1016 rfl (lv_at hl 0 rfl) ?_
  refine lv_iconst (v := 2) hx hb dL_law_1017 (by decide) ?_
  refine lv_iadd hx hb dL_law_1018 ?_
  refine lv_topi (fun j3 ej3 => ?_)
  have ej3 : j3 = nI (i + 2) := ej3.trans (nI_add i 2)
  subst ej3
  refine va_sld hx hb hX hbl hbA hI.1.2.2.2.2.2.2 (nI_in (by omega) (by omega)) dL_law_1019 ?_
  refine lv_topi (fun y4 ey4 => ?_)
  clear ey4
  refine lv_aload_n hx hb dL_law_1020 rfl (lv_at hl 3 rfl) ?_
  refine lv_iload_n hx hb dL_law_1021 rfl (lv_at hl 0 rfl) ?_
  refine lv_iconst (v := 3) hx hb dL_law_1022 (by decide) ?_
  refine lv_iadd hx hb dL_law_1023 ?_
  refine lv_topi (fun j5 ej5 => ?_)
  have ej5 : j5 = nI (i + 3) := ej5.trans (nI_add i 3)
  subst ej5
  refine va_sld hx hb hX hbl hbA hI.1.2.2.2.2.2.2 (nI_in (by omega) (by omega)) dL_law_1024 ?_
  refine lv_topi (fun y6 ey6 => ?_)
  clear ey6
  refine lw_C (n := 3) (As := [.int y2, .int y4, .int y6]) S hK hI (m_X10_odds l D cT T q hI.1.2.2.1.2.1.1 a hI.1.2.2.1.2.2 (y2) (iv_top _) (y4) (iv_top _) (y6) (iv_top _)) th_R_int gm_1119 gm_1116 gm_1117 gm_1118 gm_113 (by decide +kernel) ⟨rfl, rfl, Nat.le_of_ble_eq_true rfl, Nat.le_of_ble_eq_true rfl⟩ rfl hl.1 rfl (Nat.le_of_ble_eq_true rfl) dL_law_1025 ⟨Nat.le_of_ble_eq_true rfl, Nat.le_of_ble_eq_true rfl⟩ (fun x7 H locs Ix7 => ?_)
  refine lv_pop (pc := 1028) hx hb dL_law_1028 rfl ?_
  refine lv_aload_n hx hb dL_law_1029 rfl (lv_at hl 1 rfl) ?_
  refine lv_aload_n hx hb dL_law_1030 rfl (lv_at hl 3 rfl) ?_
  refine lv_iload_n hx hb dL_law_1031 rfl (lv_at hl 0 rfl) ?_
  refine lv_iconst (v := 1) hx hb dL_law_1032 (by decide) ?_
  refine lv_iadd hx hb dL_law_1033 ?_
  refine lv_topi (fun j8 ej8 => ?_)
  have ej8 : j8 = nI (i + 1) := ej8.trans (nI_add i 1)
  subst ej8
  refine va_sld hx hb hX hbl hbA Ix7.1.2.2.2.2.2.2 (nI_in (by omega) (by omega)) dL_law_1034 ?_
  refine lv_topi (fun y9 ey9 => ?_)
  clear ey9
  refine lv_aload_n hx hb dL_law_1035 rfl (lv_at hl 3 rfl) ?_
  refine lv_iload_n hx hb dL_law_1036 rfl (lv_at hl 0 rfl) ?_
  refine lv_iconst (v := 2) hx hb dL_law_1037 (by decide) ?_
  refine lv_iadd hx hb dL_law_1038 ?_
  refine lv_topi (fun j10 ej10 => ?_)
  have ej10 : j10 = nI (i + 2) := ej10.trans (nI_add i 2)
  subst ej10
  refine va_sld hx hb hX hbl hbA Ix7.1.2.2.2.2.2.2 (nI_in (by omega) (by omega)) dL_law_1039 ?_
  refine lv_topi (fun y11 ey11 => ?_)
  clear ey11
  refine lv_aload_n hx hb dL_law_1040 rfl (lv_at hl 3 rfl) ?_
  refine lv_iload_n hx hb dL_law_1041 rfl (lv_at hl 0 rfl) ?_
  refine lv_iconst (v := 3) hx hb dL_law_1042 (by decide) ?_
  refine lv_iadd hx hb dL_law_1043 ?_
  refine lv_topi (fun j12 ej12 => ?_)
  have ej12 : j12 = nI (i + 3) := ej12.trans (nI_add i 3)
  subst ej12
  refine va_sld hx hb hX hbl hbA Ix7.1.2.2.2.2.2.2 (nI_in (by omega) (by omega)) dL_law_1044 ?_
  refine lv_topi (fun y13 ey13 => ?_)
  clear ey13
  refine lw_M (n := 3) (As := [.int y9, .int y11, .int y13]) S hK Ix7 (m_X11_odds l D cT Tm qq Ix7.1.2.2.2.1.1 Ix7.1.2.2.2.1.2.1 am Ix7.1.2.2.2.1.2.2.2 (y9) (iv_top _) (y11) (iv_top _) (y13) (iv_top _)) th_R_int gm_1856 gm_1853 gm_1854 gm_1855 gm_124 (by decide +kernel) ⟨rfl, rfl, Nat.le_of_ble_eq_true rfl, Nat.le_of_ble_eq_true rfl⟩ rfl hl.1 rfl (Nat.le_of_ble_eq_true rfl) dL_law_1045 ⟨Nat.le_of_ble_eq_true rfl, Nat.le_of_ble_eq_true rfl⟩ (fun x14 H locs Ix14 => ?_)
  refine lv_pop (pc := 1048) hx hb dL_law_1048 rfl ?_
  refine lv_goto (tgt := 1368) hx hb dL_law_1049 (by decide) ?_
  exact hnext T q Tm qq H locs Ix14

set_option maxHeartbeats 4000000 in
set_option maxRecDepth 100000 in
theorem law_c32 {p : Program} {l : Launch} {e : Env} {s : State} {m : MethodId} {below : List Frame} {meth : Method} {c : Code} {b L i : Nat} {xs : Nat → Int32} {D : va_G} {cT : Nat → ClassId} {a am : Nat} {adK adV : Nat → Nat} {ls : Array Slot} (S : CallFix p m c code 4 s #[Value.ref b] gw RL) (hK : va_K D classes (th_tys cT) s) (hX : va_X b L xs s s.heap) (hbl : b < s.heap.size) (hL : L ≤ 3072) (hi : i + 6 ≤ L) (hl : lv_has ls 4 [(3, .int (nI i)), (2, .ref am), (1, .ref a), (0, .ref b)]) (hE : st_S adK adV (fun q => s.heap.size ≤ q) s s.heap ∧ vk_R "HungryMaps$Tape" 68 "food map place likes border taste winter draw scale year eaten cold size worth holes hunger in folded on or and not " (adK 0) s ∧ vk_R "HungryMaps$Tape" 47 ";()<>=+-*/%" (adK 1) s) {T Tm : Nat → Option Nat} {q qq : Nat → Int} {H : Heap} {locs : List Loc} (hI : LI D cT s a am T q Tm qq H locs) (hnext : ∀ (T : Nat → Option Nat) (q : Nat → Int) (Tm : Nat → Option Nat) (qq : Nat → Int) (H : Heap) (locs : List Loc), LI D cT s a am T q Tm qq H locs → W p l e room_1 s m #[Value.ref b] below meth c H locs 223 21033 (lw_Z below #[Value.ref b] s) (F0 m 1368 ls [])) : W p l e room_1 s m #[Value.ref b] below meth c H locs 223 21033 (lw_Z below #[Value.ref b] s) (F0 m 1052 ls []) := by
  have hx := S.1; have hb := S.2.1
  have hbA : ¬ (fun q : Nat => s.heap.size ≤ q) b := Nat.not_le.mpr hbl
  refine lv_aload_n hx hb dL_law_1052 rfl (lv_at hl 2 rfl) ?_
  refine lv_aload_n hx hb dL_law_1053 rfl (lv_at hl 3 rfl) ?_
  refine lv_iload_n hx hb dL_law_1054 rfl (lv_at hl 0 rfl) ?_
  refine lv_iconst (v := 1) hx hb dL_law_1055 (by decide) ?_
  refine lv_iadd hx hb dL_law_1056 ?_
  refine lv_topi (fun j1 ej1 => ?_)
  have ej1 : j1 = nI (i + 1) := ej1.trans (nI_add i 1)
  subst ej1
  refine va_sld hx hb hX hbl hbA hI.1.2.2.2.2.2.2 (nI_in (by omega) (by omega)) dL_law_1057 ?_
  refine lv_topi (fun y2 ey2 => ?_)
  clear ey2
  refine lw_C (n := 1) (As := [.int y2]) S hK hI (m_X10_lies l D cT T q hI.1.2.2.1.2.1.1 a hI.1.2.2.1.2.2 (y2) (iv_top _)) th_R_int gm_1132 gm_1129 gm_1130 gm_1131 gm_113 (by decide +kernel) ⟨rfl, rfl, Nat.le_of_ble_eq_true rfl, Nat.le_of_ble_eq_true rfl⟩ rfl hl.1 rfl (Nat.le_of_ble_eq_true rfl) dL_law_1058 ⟨Nat.le_of_ble_eq_true rfl, Nat.le_of_ble_eq_true rfl⟩ (fun x3 H locs Ix3 => ?_)
  refine lv_pop (pc := 1061) hx hb dL_law_1061 rfl ?_
  refine lv_aload_n hx hb dL_law_1062 rfl (lv_at hl 1 rfl) ?_
  refine lv_aload_n hx hb dL_law_1063 rfl (lv_at hl 3 rfl) ?_
  refine lv_iload_n hx hb dL_law_1064 rfl (lv_at hl 0 rfl) ?_
  refine lv_iconst (v := 1) hx hb dL_law_1065 (by decide) ?_
  refine lv_iadd hx hb dL_law_1066 ?_
  refine lv_topi (fun j4 ej4 => ?_)
  have ej4 : j4 = nI (i + 1) := ej4.trans (nI_add i 1)
  subst ej4
  refine va_sld hx hb hX hbl hbA Ix3.1.2.2.2.2.2.2 (nI_in (by omega) (by omega)) dL_law_1067 ?_
  refine lv_topi (fun y5 ey5 => ?_)
  clear ey5
  refine lw_M (n := 1) (As := [.int y5]) S hK Ix3 (m_X11_lies l D cT Tm qq Ix3.1.2.2.2.1.1 Ix3.1.2.2.2.1.2.1 am Ix3.1.2.2.2.1.2.2.2 (y5) (iv_top _)) th_R_int gm_1800 gm_1797 gm_1798 gm_1799 gm_124 (by decide +kernel) ⟨rfl, rfl, Nat.le_of_ble_eq_true rfl, Nat.le_of_ble_eq_true rfl⟩ rfl hl.1 rfl (Nat.le_of_ble_eq_true rfl) dL_law_1068 ⟨Nat.le_of_ble_eq_true rfl, Nat.le_of_ble_eq_true rfl⟩ (fun x6 H locs Ix6 => ?_)
  refine lv_pop (pc := 1071) hx hb dL_law_1071 rfl ?_
  refine lv_goto (tgt := 1368) hx hb dL_law_1072 (by decide) ?_
  exact hnext T q Tm qq H locs Ix6

set_option maxHeartbeats 4000000 in
set_option maxRecDepth 100000 in
theorem law_c33 {p : Program} {l : Launch} {e : Env} {s : State} {m : MethodId} {below : List Frame} {meth : Method} {c : Code} {b L i : Nat} {xs : Nat → Int32} {D : va_G} {cT : Nat → ClassId} {a am : Nat} {adK adV : Nat → Nat} {ls : Array Slot} (S : CallFix p m c code 4 s #[Value.ref b] gw RL) (hK : va_K D classes (th_tys cT) s) (hX : va_X b L xs s s.heap) (hbl : b < s.heap.size) (hL : L ≤ 3072) (hi : i + 6 ≤ L) (hl : lv_has ls 4 [(3, .int (nI i)), (2, .ref am), (1, .ref a), (0, .ref b)]) (hE : st_S adK adV (fun q => s.heap.size ≤ q) s s.heap ∧ vk_R "HungryMaps$Tape" 68 "food map place likes border taste winter draw scale year eaten cold size worth holes hunger in folded on or and not " (adK 0) s ∧ vk_R "HungryMaps$Tape" 47 ";()<>=+-*/%" (adK 1) s) {T Tm : Nat → Option Nat} {q qq : Nat → Int} {H : Heap} {locs : List Loc} (hI : LI D cT s a am T q Tm qq H locs) (hnext : ∀ (T : Nat → Option Nat) (q : Nat → Int) (Tm : Nat → Option Nat) (qq : Nat → Int) (H : Heap) (locs : List Loc), LI D cT s a am T q Tm qq H locs → W p l e room_1 s m #[Value.ref b] below meth c H locs 223 21033 (lw_Z below #[Value.ref b] s) (F0 m 1368 ls [])) : W p l e room_1 s m #[Value.ref b] below meth c H locs 223 21033 (lw_Z below #[Value.ref b] s) (F0 m 1075 ls []) := by
  have hx := S.1; have hb := S.2.1
  have hbA : ¬ (fun q : Nat => s.heap.size ≤ q) b := Nat.not_le.mpr hbl
  refine lv_aload_n hx hb dL_law_1075 rfl (lv_at hl 2 rfl) ?_
  refine lv_aload_n hx hb dL_law_1076 rfl (lv_at hl 3 rfl) ?_
  refine lv_iload_n hx hb dL_law_1077 rfl (lv_at hl 0 rfl) ?_
  refine lv_iconst (v := 1) hx hb dL_law_1078 (by decide) ?_
  refine lv_iadd hx hb dL_law_1079 ?_
  refine lv_topi (fun j1 ej1 => ?_)
  have ej1 : j1 = nI (i + 1) := ej1.trans (nI_add i 1)
  subst ej1
  refine va_sld hx hb hX hbl hbA hI.1.2.2.2.2.2.2 (nI_in (by omega) (by omega)) dL_law_1080 ?_
  refine lv_topi (fun y2 ey2 => ?_)
  clear ey2
  refine lv_aload_n hx hb dL_law_1081 rfl (lv_at hl 3 rfl) ?_
  refine lv_iload_n hx hb dL_law_1082 rfl (lv_at hl 0 rfl) ?_
  refine lv_iconst (v := 2) hx hb dL_law_1083 (by decide) ?_
  refine lv_iadd hx hb dL_law_1084 ?_
  refine lv_topi (fun j3 ej3 => ?_)
  have ej3 : j3 = nI (i + 2) := ej3.trans (nI_add i 2)
  subst ej3
  refine va_sld hx hb hX hbl hbA hI.1.2.2.2.2.2.2 (nI_in (by omega) (by omega)) dL_law_1085 ?_
  refine lv_topi (fun y4 ey4 => ?_)
  clear ey4
  refine lv_aload_n hx hb dL_law_1086 rfl (lv_at hl 3 rfl) ?_
  refine lv_iload_n hx hb dL_law_1087 rfl (lv_at hl 0 rfl) ?_
  refine lv_iconst (v := 3) hx hb dL_law_1088 (by decide) ?_
  refine lv_iadd hx hb dL_law_1089 ?_
  refine lv_topi (fun j5 ej5 => ?_)
  have ej5 : j5 = nI (i + 3) := ej5.trans (nI_add i 3)
  subst ej5
  refine va_sld hx hb hX hbl hbA hI.1.2.2.2.2.2.2 (nI_in (by omega) (by omega)) dL_law_1090 ?_
  refine lv_topi (fun y6 ey6 => ?_)
  clear ey6
  refine lv_aload_n hx hb dL_law_1091 rfl (lv_at hl 3 rfl) ?_
  refine lv_iload_n hx hb dL_law_1092 rfl (lv_at hl 0 rfl) ?_
  refine lv_iconst (v := 4) hx hb dL_law_1093 (by decide) ?_
  refine lv_iadd hx hb dL_law_1094 ?_
  refine lv_topi (fun j7 ej7 => ?_)
  have ej7 : j7 = nI (i + 4) := ej7.trans (nI_add i 4)
  subst ej7
  refine va_sld hx hb hX hbl hbA hI.1.2.2.2.2.2.2 (nI_in (by omega) (by omega)) dL_law_1095 ?_
  refine lv_topi (fun y8 ey8 => ?_)
  clear ey8
  refine lv_aload_n hx hb dL_law_1096 rfl (lv_at hl 3 rfl) ?_
  refine lv_iload_n hx hb dL_law_1097 rfl (lv_at hl 0 rfl) ?_
  refine lv_iconst (v := 5) hx hb dL_law_1098 (by decide) ?_
  refine lv_iadd hx hb dL_law_1099 ?_
  refine lv_topi (fun j9 ej9 => ?_)
  have ej9 : j9 = nI (i + 5) := ej9.trans (nI_add i 5)
  subst ej9
  refine va_sld hx hb hX hbl hbA hI.1.2.2.2.2.2.2 (nI_in (by omega) (by omega)) dL_law_1100 ?_
  refine lv_topi (fun y10 ey10 => ?_)
  clear ey10
  have Jz11 : ∀ z11 : Int32, IV z11 0 1 → W p l e room_1 s m #[Value.ref b] below meth c H locs 223 21033 (lw_Z below #[Value.ref b] s) (F0 m 1109 ls [.int z11, .int y8, .int y6, .int y4, .int y2, .ref a]) := by
    intro z11 iz11
    refine lw_C (n := 5) (As := [.int y2, .int y4, .int y6, .int y8, .int z11]) S hK hI (m_X10_trial l D cT T q hI.1.2.2.1.2.1.1 a hI.1.2.2.1.2.2 (y2) (iv_top _) (y4) (iv_top _) (y6) (iv_top _) (y8) (iv_top _) (z11) iz11) th_R_int gm_1136 gm_1133 gm_1134 gm_1135 gm_113 (by decide +kernel) ⟨rfl, rfl, Nat.le_of_ble_eq_true rfl, Nat.le_of_ble_eq_true rfl⟩ rfl hl.1 rfl (Nat.le_of_ble_eq_true rfl) dL_law_1109 ⟨Nat.le_of_ble_eq_true rfl, Nat.le_of_ble_eq_true rfl⟩ (fun x12 H locs Ix12 => ?_)
    refine lv_pop (pc := 1112) hx hb dL_law_1112 rfl ?_
    refine lv_aload_n hx hb dL_law_1113 rfl (lv_at hl 1 rfl) ?_
    refine lv_aload_n hx hb dL_law_1114 rfl (lv_at hl 3 rfl) ?_
    refine lv_iload_n hx hb dL_law_1115 rfl (lv_at hl 0 rfl) ?_
    refine lv_iconst (v := 1) hx hb dL_law_1116 (by decide) ?_
    refine lv_iadd hx hb dL_law_1117 ?_
    refine lv_topi (fun j13 ej13 => ?_)
    have ej13 : j13 = nI (i + 1) := ej13.trans (nI_add i 1)
    subst ej13
    refine va_sld hx hb hX hbl hbA Ix12.1.2.2.2.2.2.2 (nI_in (by omega) (by omega)) dL_law_1118 ?_
    refine lv_topi (fun y14 ey14 => ?_)
    clear ey14
    refine lv_aload_n hx hb dL_law_1119 rfl (lv_at hl 3 rfl) ?_
    refine lv_iload_n hx hb dL_law_1120 rfl (lv_at hl 0 rfl) ?_
    refine lv_iconst (v := 2) hx hb dL_law_1121 (by decide) ?_
    refine lv_iadd hx hb dL_law_1122 ?_
    refine lv_topi (fun j15 ej15 => ?_)
    have ej15 : j15 = nI (i + 2) := ej15.trans (nI_add i 2)
    subst ej15
    refine va_sld hx hb hX hbl hbA Ix12.1.2.2.2.2.2.2 (nI_in (by omega) (by omega)) dL_law_1123 ?_
    refine lv_topi (fun y16 ey16 => ?_)
    clear ey16
    refine lv_aload_n hx hb dL_law_1124 rfl (lv_at hl 3 rfl) ?_
    refine lv_iload_n hx hb dL_law_1125 rfl (lv_at hl 0 rfl) ?_
    refine lv_iconst (v := 3) hx hb dL_law_1126 (by decide) ?_
    refine lv_iadd hx hb dL_law_1127 ?_
    refine lv_topi (fun j17 ej17 => ?_)
    have ej17 : j17 = nI (i + 3) := ej17.trans (nI_add i 3)
    subst ej17
    refine va_sld hx hb hX hbl hbA Ix12.1.2.2.2.2.2.2 (nI_in (by omega) (by omega)) dL_law_1128 ?_
    refine lv_topi (fun y18 ey18 => ?_)
    clear ey18
    refine lv_aload_n hx hb dL_law_1129 rfl (lv_at hl 3 rfl) ?_
    refine lv_iload_n hx hb dL_law_1130 rfl (lv_at hl 0 rfl) ?_
    refine lv_iconst (v := 4) hx hb dL_law_1131 (by decide) ?_
    refine lv_iadd hx hb dL_law_1132 ?_
    refine lv_topi (fun j19 ej19 => ?_)
    have ej19 : j19 = nI (i + 4) := ej19.trans (nI_add i 4)
    subst ej19
    refine va_sld hx hb hX hbl hbA Ix12.1.2.2.2.2.2.2 (nI_in (by omega) (by omega)) dL_law_1133 ?_
    refine lv_topi (fun y20 ey20 => ?_)
    clear ey20
    refine lv_aload_n hx hb dL_law_1134 rfl (lv_at hl 3 rfl) ?_
    refine lv_iload_n hx hb dL_law_1135 rfl (lv_at hl 0 rfl) ?_
    refine lv_iconst (v := 5) hx hb dL_law_1136 (by decide) ?_
    refine lv_iadd hx hb dL_law_1137 ?_
    refine lv_topi (fun j21 ej21 => ?_)
    have ej21 : j21 = nI (i + 5) := ej21.trans (nI_add i 5)
    subst ej21
    refine va_sld hx hb hX hbl hbA Ix12.1.2.2.2.2.2.2 (nI_in (by omega) (by omega)) dL_law_1138 ?_
    refine lv_topi (fun y22 ey22 => ?_)
    clear ey22
    have Jz23 : ∀ z23 : Int32, IV z23 0 1 → W p l e room_1 s m #[Value.ref b] below meth c H locs 223 21033 (lw_Z below #[Value.ref b] s) (F0 m 1147 ls [.int z23, .int y20, .int y18, .int y16, .int y14, .ref am]) := by
      intro z23 iz23
      refine lw_M (n := 5) (As := [.int y14, .int y16, .int y18, .int y20, .int z23]) S hK Ix12 (m_X11_trial l D cT Tm qq Ix12.1.2.2.2.1.1 Ix12.1.2.2.2.1.2.1 am Ix12.1.2.2.2.1.2.2.2 (y14) (iv_top _) (y16) (iv_top _) (y18) (iv_top _) (y20) (iv_top _) (z23) iz23) th_R_int gm_1863 gm_1860 gm_1861 gm_1862 gm_124 (by decide +kernel) ⟨rfl, rfl, Nat.le_of_ble_eq_true rfl, Nat.le_of_ble_eq_true rfl⟩ rfl hl.1 rfl (Nat.le_of_ble_eq_true rfl) dL_law_1147 ⟨Nat.le_of_ble_eq_true rfl, Nat.le_of_ble_eq_true rfl⟩ (fun x24 H locs Ix24 => ?_)
      refine lv_pop (pc := 1150) hx hb dL_law_1150 rfl ?_
      refine lv_goto (tgt := 1368) hx hb dL_law_1151 (by decide) ?_
      exact hnext T q Tm qq H locs Ix24
    refine lv_if_eq (tgt := 1146) hx hb dL_law_1139 (by decide) (fun cc => ?_) (fun cc => ?_)
    · refine lv_iconst (v := 0) hx hb dL_law_1146 (by decide) ?_
      exact Jz23 0 (by exact ⟨by decide, by decide⟩)
    · refine lv_iconst (v := 1) hx hb dL_law_1142 (by decide) ?_
      refine lv_goto (tgt := 1147) hx hb dL_law_1143 (by decide) ?_
      exact Jz23 1 (by exact ⟨by decide, by decide⟩)
  refine lv_if_eq (tgt := 1108) hx hb dL_law_1101 (by decide) (fun cc => ?_) (fun cc => ?_)
  · refine lv_iconst (v := 0) hx hb dL_law_1108 (by decide) ?_
    exact Jz11 0 (by exact ⟨by decide, by decide⟩)
  · refine lv_iconst (v := 1) hx hb dL_law_1104 (by decide) ?_
    refine lv_goto (tgt := 1109) hx hb dL_law_1105 (by decide) ?_
    exact Jz11 1 (by exact ⟨by decide, by decide⟩)

set_option maxHeartbeats 4000000 in
set_option maxRecDepth 100000 in
theorem law_c34 {p : Program} {l : Launch} {e : Env} {s : State} {m : MethodId} {below : List Frame} {meth : Method} {c : Code} {b L i : Nat} {xs : Nat → Int32} {D : va_G} {cT : Nat → ClassId} {a am : Nat} {adK adV : Nat → Nat} {ls : Array Slot} (S : CallFix p m c code 4 s #[Value.ref b] gw RL) (hK : va_K D classes (th_tys cT) s) (hX : va_X b L xs s s.heap) (hbl : b < s.heap.size) (hL : L ≤ 3072) (hi : i + 6 ≤ L) (hl : lv_has ls 4 [(3, .int (nI i)), (2, .ref am), (1, .ref a), (0, .ref b)]) (hE : st_S adK adV (fun q => s.heap.size ≤ q) s s.heap ∧ vk_R "HungryMaps$Tape" 68 "food map place likes border taste winter draw scale year eaten cold size worth holes hunger in folded on or and not " (adK 0) s ∧ vk_R "HungryMaps$Tape" 47 ";()<>=+-*/%" (adK 1) s) {T Tm : Nat → Option Nat} {q qq : Nat → Int} {H : Heap} {locs : List Loc} (hI : LI D cT s a am T q Tm qq H locs) (hnext : ∀ (T : Nat → Option Nat) (q : Nat → Int) (Tm : Nat → Option Nat) (qq : Nat → Int) (H : Heap) (locs : List Loc), LI D cT s a am T q Tm qq H locs → W p l e room_1 s m #[Value.ref b] below meth c H locs 223 21033 (lw_Z below #[Value.ref b] s) (F0 m 1368 ls [])) : W p l e room_1 s m #[Value.ref b] below meth c H locs 223 21033 (lw_Z below #[Value.ref b] s) (F0 m 1154 ls []) := by
  have hx := S.1; have hb := S.2.1
  have hbA : ¬ (fun q : Nat => s.heap.size ≤ q) b := Nat.not_le.mpr hbl
  refine lv_aload_n hx hb dL_law_1154 rfl (lv_at hl 2 rfl) ?_
  refine lv_aload_n hx hb dL_law_1155 rfl (lv_at hl 3 rfl) ?_
  refine lv_iload_n hx hb dL_law_1156 rfl (lv_at hl 0 rfl) ?_
  refine lv_iconst (v := 1) hx hb dL_law_1157 (by decide) ?_
  refine lv_iadd hx hb dL_law_1158 ?_
  refine lv_topi (fun j1 ej1 => ?_)
  have ej1 : j1 = nI (i + 1) := ej1.trans (nI_add i 1)
  subst ej1
  refine va_sld hx hb hX hbl hbA hI.1.2.2.2.2.2.2 (nI_in (by omega) (by omega)) dL_law_1159 ?_
  refine lv_topi (fun y2 ey2 => ?_)
  clear ey2
  refine lw_C (n := 1) (As := [.int y2]) S hK hI (m_X10_untell l D cT T q hI.1.2.2.1.2.1.1 a hI.1.2.2.1.2.2 (y2) (iv_top _)) th_R_int gm_1150 gm_1147 gm_1148 gm_1149 gm_113 (by decide +kernel) ⟨rfl, rfl, Nat.le_of_ble_eq_true rfl, Nat.le_of_ble_eq_true rfl⟩ rfl hl.1 rfl (Nat.le_of_ble_eq_true rfl) dL_law_1160 ⟨Nat.le_of_ble_eq_true rfl, Nat.le_of_ble_eq_true rfl⟩ (fun x3 H locs Ix3 => ?_)
  refine lv_pop (pc := 1163) hx hb dL_law_1163 rfl ?_
  refine lv_aload_n hx hb dL_law_1164 rfl (lv_at hl 1 rfl) ?_
  refine lv_aload_n hx hb dL_law_1165 rfl (lv_at hl 3 rfl) ?_
  refine lv_iload_n hx hb dL_law_1166 rfl (lv_at hl 0 rfl) ?_
  refine lv_iconst (v := 1) hx hb dL_law_1167 (by decide) ?_
  refine lv_iadd hx hb dL_law_1168 ?_
  refine lv_topi (fun j4 ej4 => ?_)
  have ej4 : j4 = nI (i + 1) := ej4.trans (nI_add i 1)
  subst ej4
  refine va_sld hx hb hX hbl hbA Ix3.1.2.2.2.2.2.2 (nI_in (by omega) (by omega)) dL_law_1169 ?_
  refine lv_topi (fun y5 ey5 => ?_)
  clear ey5
  refine lw_M (n := 1) (As := [.int y5]) S hK Ix3 (m_X11_untell l D cT Tm qq Ix3.1.2.2.2.1.1 Ix3.1.2.2.2.1.2.1 am Ix3.1.2.2.2.1.2.2.2 (y5) (iv_top _)) th_R_int gm_1867 gm_1864 gm_1865 gm_1866 gm_124 (by decide +kernel) ⟨rfl, rfl, Nat.le_of_ble_eq_true rfl, Nat.le_of_ble_eq_true rfl⟩ rfl hl.1 rfl (Nat.le_of_ble_eq_true rfl) dL_law_1170 ⟨Nat.le_of_ble_eq_true rfl, Nat.le_of_ble_eq_true rfl⟩ (fun x6 H locs Ix6 => ?_)
  refine lv_pop (pc := 1173) hx hb dL_law_1173 rfl ?_
  refine lv_goto (tgt := 1368) hx hb dL_law_1174 (by decide) ?_
  exact hnext T q Tm qq H locs Ix6
