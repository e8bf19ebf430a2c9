set_option maxHeartbeats 4000000 in
set_option maxRecDepth 100000 in
theorem law_c21 {p : Program} {l : Launch} {e : Env} {s : State} {m : MethodId} {below : List Frame} {meth : Method} {c : Code} {b L i : Nat} {xs : Nat → Int32} {D : va_G} {cT : Nat → ClassId} {a am : Nat} {adK adV : Nat → Nat} {ls : Array Slot} (S : CallFix p m c code 4 s #[Value.ref b] gw RL) (hK : va_K D classes (th_tys cT) s) (hX : va_X b L xs s s.heap) (hbl : b < s.heap.size) (hL : L ≤ 3072) (hi : i + 6 ≤ L) (hl : lv_has ls 4 [(3, .int (nI i)), (2, .ref am), (1, .ref a), (0, .ref b)]) (hE : st_S adK adV (fun q => s.heap.size ≤ q) s s.heap ∧ vk_R "HungryMaps$Tape" 68 "food map place likes border taste winter draw scale year eaten cold size worth holes hunger in folded on or and not " (adK 0) s ∧ vk_R "HungryMaps$Tape" 47 ";()<>=+-*/%" (adK 1) s) {T Tm : Nat → Option Nat} {q qq : Nat → Int} {H : Heap} {locs : List Loc} (hI : LI D cT s a am T q Tm qq H locs) (hnext : ∀ (T : Nat → Option Nat) (q : Nat → Int) (Tm : Nat → Option Nat) (qq : Nat → Int) (H : Heap) (locs : List Loc), LI D cT s a am T q Tm qq H locs → W p l e room_1 s m #[Value.ref b] below meth c H locs 223 21033 (lw_Z below #[Value.ref b] s) (F0 m 1368 ls [])) : W p l e room_1 s m #[Value.ref b] below meth c H locs 223 21033 (lw_Z below #[Value.ref b] s) (F0 m 789 ls []) := by
  have hx := S.1; have hb := S.2.1
  have hbA : ¬ (fun q : Nat => s.heap.size ≤ q) b := Nat.not_le.mpr hbl
  refine lv_aload_n hx hb dL_law_789 rfl (lv_at hl 2 rfl) ?_
  refine lv_aload_n hx hb dL_law_790 rfl (lv_at hl 3 rfl) ?_
  refine lv_iload_n hx hb dL_law_791 rfl (lv_at hl 0 rfl) ?_
  refine lv_iconst (v := 1) hx hb dL_law_792 (by decide) ?_
  refine lv_iadd hx hb dL_law_793 ?_
  refine lv_topi (fun j1 ej1 => ?_)
  have ej1 : j1 = nI (i + 1) := ej1.trans (nI_add i 1)
  subst ej1
  refine va_sld hx hb hX hbl hbA hI.1.2.2.2.2.2.2 (nI_in (by omega) (by omega)) dL_law_794 ?_
  refine lv_topi (fun y2 ey2 => ?_)
  clear ey2
  refine lw_C (n := 1) (As := [.int y2]) S hK hI (m_X10_doom l D cT T q hI.1.2.2.1.2.1.1 a hI.1.2.2.1.2.2 (y2) (iv_top _)) th_R_int gm_990 gm_987 gm_988 gm_989 gm_113 (by decide +kernel) ⟨rfl, rfl, Nat.le_of_ble_eq_true rfl, Nat.le_of_ble_eq_true rfl⟩ rfl hl.1 rfl (Nat.le_of_ble_eq_true rfl) dL_law_795 ⟨Nat.le_of_ble_eq_true rfl, Nat.le_of_ble_eq_true rfl⟩ (fun x3 H locs Ix3 => ?_)
  refine lv_pop (pc := 798) hx hb dL_law_798 rfl ?_
  refine lv_aload_n hx hb dL_law_799 rfl (lv_at hl 1 rfl) ?_
  refine lv_aload_n hx hb dL_law_800 rfl (lv_at hl 3 rfl) ?_
  refine lv_iload_n hx hb dL_law_801 rfl (lv_at hl 0 rfl) ?_
  refine lv_iconst (v := 1) hx hb dL_law_802 (by decide) ?_
  refine lv_iadd hx hb dL_law_803 ?_
  refine lv_topi (fun j4 ej4 => ?_)
  have ej4 : j4 = nI (i + 1) := ej4.trans (nI_add i 1)
  subst ej4
  refine va_sld hx hb hX hbl hbA Ix3.1.2.2.2.2.2.2 (nI_in (by omega) (by omega)) dL_law_804 ?_
  refine lv_topi (fun y5 ey5 => ?_)
  clear ey5
  refine lw_M (n := 1) (As := [.int y5]) S hK Ix3 (m_X11_doom l D cT Tm qq Ix3.1.2.2.2.1.1 Ix3.1.2.2.2.1.2.1 am Ix3.1.2.2.2.1.2.2.2 (y5) (iv_top _)) th_R_int gm_1776 gm_1773 gm_1774 gm_1775 gm_124 (by decide +kernel) ⟨rfl, rfl, Nat.le_of_ble_eq_true rfl, Nat.le_of_ble_eq_true rfl⟩ rfl hl.1 rfl (Nat.le_of_ble_eq_true rfl) dL_law_805 ⟨Nat.le_of_ble_eq_true rfl, Nat.le_of_ble_eq_true rfl⟩ (fun x6 H locs Ix6 => ?_)
  refine lv_pop (pc := 808) hx hb dL_law_808 rfl ?_
  refine lv_goto (tgt := 1368) hx hb dL_law_809 (by decide) ?_
  exact hnext T q Tm qq H locs Ix6

set_option maxHeartbeats 4000000 in
set_option maxRecDepth 100000 in
theorem law_c22 {p : Program} {l : Launch} {e : Env} {s : State} {m : MethodId} {below : List Frame} {meth : Method} {c : Code} {b L i : Nat} {xs : Nat → Int32} {D : va_G} {cT : Nat → ClassId} {a am : Nat} {adK adV : Nat → Nat} {ls : Array Slot} (S : CallFix p m c code 4 s #[Value.ref b] gw RL) (hK : va_K D classes (th_tys cT) s) (hX : va_X b L xs s s.heap) (hbl : b < s.heap.size) (hL : L ≤ 3072) (hi : i + 6 ≤ L) (hl : lv_has ls 4 [(3, .int (nI i)), (2, .ref am), (1, .ref a), (0, .ref b)]) (hE : st_S adK adV (fun q => s.heap.size ≤ q) s s.heap ∧ vk_R "HungryMaps$Tape" 68 "food map place likes border taste winter draw scale year eaten cold size worth holes hunger in folded on or and not " (adK 0) s ∧ vk_R "HungryMaps$Tape" 47 ";()<>=+-*/%" (adK 1) s) {T Tm : Nat → Option Nat} {q qq : Nat → Int} {H : Heap} {locs : List Loc} (hI : LI D cT s a am T q Tm qq H locs) (hnext : ∀ (T : Nat → Option Nat) (q : Nat → Int) (Tm : Nat → Option Nat) (qq : Nat → Int) (H : Heap) (locs : List Loc), LI D cT s a am T q Tm qq H locs → W p l e room_1 s m #[Value.ref b] below meth c H locs 223 21033 (lw_Z below #[Value.ref b] s) (F0 m 1368 ls [])) : W p l e room_1 s m #[Value.ref b] below meth c H locs 223 21033 (lw_Z below #[Value.ref b] s) (F0 m 812 ls []) := by
  have hx := S.1; have hb := S.2.1
  have hbA : ¬ (fun q : Nat => s.heap.size ≤ q) b := Nat.not_le.mpr hbl
  refine lv_aload_n hx hb dL_law_812 rfl (lv_at hl 2 rfl) ?_
  refine lw_C (n := 0) (As := []) S hK hI (m_X10_bitten l D cT T q hI.1.2.2.1.2.1.1 a hI.1.2.2.1.2.2 ) th_R_int gm_1006 gm_1003 gm_1004 gm_1005 gm_113 (by decide +kernel) ⟨rfl, rfl, Nat.le_of_ble_eq_true rfl, Nat.le_of_ble_eq_true rfl⟩ rfl hl.1 rfl (Nat.le_of_ble_eq_true rfl) dL_law_813 ⟨Nat.le_of_ble_eq_true rfl, Nat.le_of_ble_eq_true rfl⟩ (fun x1 H locs Ix1 => ?_)
  refine lv_pop (pc := 816) hx hb dL_law_816 rfl ?_
  refine lv_aload_n hx hb dL_law_817 rfl (lv_at hl 1 rfl) ?_
  refine lw_M (n := 0) (As := []) S hK Ix1 (m_X11_bitten l D cT Tm qq Ix1.1.2.2.2.1.1 Ix1.1.2.2.2.1.2.1 am Ix1.1.2.2.2.1.2.2.2 ) th_R_int gm_1784 gm_1781 gm_1782 gm_1783 gm_124 (by decide +kernel) ⟨rfl, rfl, Nat.le_of_ble_eq_true rfl, Nat.le_of_ble_eq_true rfl⟩ rfl hl.1 rfl (Nat.le_of_ble_eq_true rfl) dL_law_818 ⟨Nat.le_of_ble_eq_true rfl, Nat.le_of_ble_eq_true rfl⟩ (fun x2 H locs Ix2 => ?_)
  refine lv_pop (pc := 821) hx hb dL_law_821 rfl ?_
  refine lv_goto (tgt := 1368) hx hb dL_law_822 (by decide) ?_
  exact hnext T q Tm qq H locs Ix2

set_option maxHeartbeats 4000000 in
set_option maxRecDepth 100000 in
theorem law_c23 {p : Program} {l : Launch} {e : Env} {s : State} {m : MethodId} {below : List Frame} {meth : Method} {c : Code} {b L i : Nat} {xs : Nat → Int32} {D : va_G} {cT : Nat → ClassId} {a am : Nat} {adK adV : Nat → Nat} {ls : Array Slot} (S : CallFix p m c code 4 s #[Value.ref b] gw RL) (hK : va_K D classes (th_tys cT) s) (hX : va_X b L xs s s.heap) (hbl : b < s.heap.size) (hL : L ≤ 3072) (hi : i + 6 ≤ L) (hl : lv_has ls 4 [(3, .int (nI i)), (2, .ref am), (1, .ref a), (0, .ref b)]) (hE : st_S adK adV (fun q => s.heap.size ≤ q) s s.heap ∧ vk_R "HungryMaps$Tape" 68 "food map place likes border taste winter draw scale year eaten cold size worth holes hunger in folded on or and not " (adK 0) s ∧ vk_R "HungryMaps$Tape" 47 ";()<>=+-*/%" (adK 1) s) {T Tm : Nat → Option Nat} {q qq : Nat → Int} {H : Heap} {locs : List Loc} (hI : LI D cT s a am T q Tm qq H locs) (hnext : ∀ (T : Nat → Option Nat) (q : Nat → Int) (Tm : Nat → Option Nat) (qq : Nat → Int) (H : Heap) (locs : List Loc), LI D cT s a am T q Tm qq H locs → W p l e room_1 s m #[Value.ref b] below meth c H locs 223 21033 (lw_Z below #[Value.ref b] s) (F0 m 1368 ls [])) : W p l e room_1 s m #[Value.ref b] below meth c H locs 223 21033 (lw_Z below #[Value.ref b] s) (F0 m 825 ls []) := by
  have hx := S.1; have hb := S.2.1
  have hbA : ¬ (fun q : Nat => s.heap.size ≤ q) b := Nat.not_le.mpr hbl
  refine lv_aload_n hx hb dL_law_825 rfl (lv_at hl 2 rfl) ?_
  refine lw_C (n := 0) (As := []) S hK hI (m_X10_gone l D cT T q hI.1.2.2.1.2.1.1 a hI.1.2.2.1.2.2 ) th_R_int gm_1010 gm_1007 gm_1008 gm_1009 gm_113 (by decide +kernel) ⟨rfl, rfl, Nat.le_of_ble_eq_true rfl, Nat.le_of_ble_eq_true rfl⟩ rfl hl.1 rfl (Nat.le_of_ble_eq_true rfl) dL_law_826 ⟨Nat.le_of_ble_eq_true rfl, Nat.le_of_ble_eq_true rfl⟩ (fun x1 H locs Ix1 => ?_)
  refine lv_pop (pc := 829) hx hb dL_law_829 rfl ?_
  refine lv_aload_n hx hb dL_law_830 rfl (lv_at hl 1 rfl) ?_
  refine lw_M (n := 0) (As := []) S hK Ix1 (m_X11_gone l D cT Tm qq Ix1.1.2.2.2.1.1 Ix1.1.2.2.2.1.2.1 am Ix1.1.2.2.2.1.2.2.2 ) th_R_int gm_1788 gm_1785 gm_1786 gm_1787 gm_124 (by decide +kernel) ⟨rfl, rfl, Nat.le_of_ble_eq_true rfl, Nat.le_of_ble_eq_true rfl⟩ rfl hl.1 rfl (Nat.le_of_ble_eq_true rfl) dL_law_831 ⟨Nat.le_of_ble_eq_true rfl, Nat.le_of_ble_eq_true rfl⟩ (fun x2 H locs Ix2 => ?_)
  refine lv_pop (pc := 834) hx hb dL_law_834 rfl ?_
  refine lv_goto (tgt := 1368) hx hb dL_law_835 (by decide) ?_
  exact hnext T q Tm qq H locs Ix2

set_option maxHeartbeats 4000000 in
set_option maxRecDepth 100000 in
theorem law_c24 {p : Program} {l : Launch} {e : Env} {s : State} {m : MethodId} {below : List Frame} {meth : Method} {c : Code} {b L i : Nat} {xs : Nat → Int32} {D : va_G} {cT : Nat → ClassId} {a am : Nat} {adK adV : Nat → Nat} {ls : Array Slot} (S : CallFix p m c code 4 s #[Value.ref b] gw RL) (hK : va_K D classes (th_tys cT) s) (hX : va_X b L xs s s.heap) (hbl : b < s.heap.size) (hL : L ≤ 3072) (hi : i + 6 ≤ L) (hl : lv_has ls 4 [(3, .int (nI i)), (2, .ref am), (1, .ref a), (0, .ref b)]) (hE : st_S adK adV (fun q => s.heap.size ≤ q) s s.heap ∧ vk_R "HungryMaps$Tape" 68 "food map place likes border taste winter draw scale year eaten cold size worth holes hunger in folded on or and not " (adK 0) s ∧ vk_R "HungryMaps$Tape" 47 ";()<>=+-*/%" (adK 1) s) {T Tm : Nat → Option Nat} {q qq : Nat → Int} {H : Heap} {locs : List Loc} (hI : LI D cT s a am T q Tm qq H locs) (hnext : ∀ (T : Nat → Option Nat) (q : Nat → Int) (Tm : Nat → Option Nat) (qq : Nat → Int) (H : Heap) (locs : List Loc), LI D cT s a am T q Tm qq H locs → W p l e room_1 s m #[Value.ref b] below meth c H locs 223 21033 (lw_Z below #[Value.ref b] s) (F0 m 1368 ls [])) : W p l e room_1 s m #[Value.ref b] below meth c H locs 223 21033 (lw_Z below #[Value.ref b] s) (F0 m 838 ls []) := by
  have hx := S.1; have hb := S.2.1
  have hbA : ¬ (fun q : Nat => s.heap.size ≤ q) b := Nat.not_le.mpr hbl
  refine lv_aload_n hx hb dL_law_838 rfl (lv_at hl 2 rfl) ?_
  refine lv_aload_n hx hb dL_law_839 rfl (lv_at hl 3 rfl) ?_
  refine lv_iload_n hx hb dL_law_840 rfl (lv_at hl 0 rfl) ?_
  refine lv_iconst (v := 1) hx hb dL_law_841 (by decide) ?_
  refine lv_iadd hx hb dL_law_842 ?_
  refine lv_topi (fun j1 ej1 => ?_)
  have ej1 : j1 = nI (i + 1) := ej1.trans (nI_add i 1)
  subst ej1
  refine va_sld hx hb hX hbl hbA hI.1.2.2.2.2.2.2 (nI_in (by omega) (by omega)) dL_law_843 ?_
  refine lv_topi (fun y2 ey2 => ?_)
  clear ey2
  refine lw_C (n := 1) (As := [.int y2]) S hK hI (m_X10_land l D cT T q hI.1.2.2.1.2.1.1 a hI.1.2.2.1.2.2 (y2) (iv_top _)) th_R_int gm_1015 gm_1012 gm_1013 gm_1014 gm_113 (by decide +kernel) ⟨rfl, rfl, Nat.le_of_ble_eq_true rfl, Nat.le_of_ble_eq_true rfl⟩ rfl hl.1 rfl (Nat.le_of_ble_eq_true rfl) dL_law_844 ⟨Nat.le_of_ble_eq_true rfl, Nat.le_of_ble_eq_true rfl⟩ (fun x3 H locs Ix3 => ?_)
  refine lv_pop (pc := 847) hx hb dL_law_847 rfl ?_
  refine lv_aload_n hx hb dL_law_848 rfl (lv_at hl 1 rfl) ?_
  refine lv_aload_n hx hb dL_law_849 rfl (lv_at hl 3 rfl) ?_
  refine lv_iload_n hx hb dL_law_850 rfl (lv_at hl 0 rfl) ?_
  refine lv_iconst (v := 1) hx hb dL_law_851 (by decide) ?_
  refine lv_iadd hx hb dL_law_852 ?_
  refine lv_topi (fun j4 ej4 => ?_)
  have ej4 : j4 = nI (i + 1) := ej4.trans (nI_add i 1)
  subst ej4
  refine va_sld hx hb hX hbl hbA Ix3.1.2.2.2.2.2.2 (nI_in (by omega) (by omega)) dL_law_853 ?_
  refine lv_topi (fun y5 ey5 => ?_)
  clear ey5
  refine lw_M (n := 1) (As := [.int y5]) S hK Ix3 (m_X11_land l D cT Tm qq Ix3.1.2.2.2.1.1 Ix3.1.2.2.2.1.2.1 am Ix3.1.2.2.2.1.2.2.2 (y5) (iv_top _)) th_R_int gm_1792 gm_1789 gm_1790 gm_1791 gm_124 (by decide +kernel) ⟨rfl, rfl, Nat.le_of_ble_eq_true rfl, Nat.le_of_ble_eq_true rfl⟩ rfl hl.1 rfl (Nat.le_of_ble_eq_true rfl) dL_law_854 ⟨Nat.le_of_ble_eq_true rfl, Nat.le_of_ble_eq_true rfl⟩ (fun x6 H locs Ix6 => ?_)
  refine lv_pop (pc := 857) hx hb dL_law_857 rfl ?_
  refine lv_goto (tgt := 1368) hx hb dL_law_858 (by decide) ?_
  exact hnext T q Tm qq H locs Ix6

set_option maxHeartbeats 4000000 in
set_option maxRecDepth 100000 in
theorem law_c25 {p : Program} {l : Launch} {e : Env} {s : State} {m : MethodId} {below : List Frame} {meth : Method} {c : Code} {b L i : Nat} {xs : Nat → Int32} {D : va_G} {cT : Nat → ClassId} {a am : Nat} {adK adV : Nat → Nat} {ls : Array Slot} (S : CallFix p m c code 4 s #[Value.ref b] gw RL) (hK : va_K D classes (th_tys cT) s) (hX : va_X b L xs s s.heap) (hbl : b < s.heap.size) (hL : L ≤ 3072) (hi : i + 6 ≤ L) (hl : lv_has ls 4 [(3, .int (nI i)), (2, .ref am), (1, .ref a), (0, .ref b)]) (hE : st_S adK adV (fun q => s.heap.size ≤ q) s s.heap ∧ vk_R "HungryMaps$Tape" 68 "food map place likes border taste winter draw scale year eaten cold size worth holes hunger in folded on or and not " (adK 0) s ∧ vk_R "HungryMaps$Tape" 47 ";()<>=+-*/%" (adK 1) s) {T Tm : Nat → Option Nat} {q qq : Nat → Int} {H : Heap} {locs : List Loc} (hI : LI D cT s a am T q Tm qq H locs) (hnext : ∀ (T : Nat → Option Nat) (q : Nat → Int) (Tm : Nat → Option Nat) (qq : Nat → Int) (H : Heap) (locs : List Loc), LI D cT s a am T q Tm qq H locs → W p l e room_1 s m #[Value.ref b] below meth c H locs 223 21033 (lw_Z below #[Value.ref b] s) (F0 m 1368 ls [])) : W p l e room_1 s m #[Value.ref b] below meth c H locs 223 21033 (lw_Z below #[Value.ref b] s) (F0 m 861 ls []) := by
  have hx := S.1; have hb := S.2.1
  have hbA : ¬ (fun q : Nat => s.heap.size ≤ q) b := Nat.not_le.mpr hbl
  refine lv_aload_n hx hb dL_law_861 rfl (lv_at hl 2 rfl) ?_
  refine lv_aload_n hx hb dL_law_862 rfl (lv_at hl 3 rfl) ?_
  refine lv_iload_n hx hb dL_law_863 rfl (lv_at hl 0 rfl) ?_
  refine lv_iconst (v := 1) hx hb dL_law_864 (by decide) ?_
  refine lv_iadd hx hb dL_law_865 ?_
  refine lv_topi (fun j1 ej1 => ?_)
  have ej1 : j1 = nI (i + 1) := ej1.trans (nI_add i 1)
  subst ej1
  refine va_sld hx hb hX hbl hbA hI.1.2.2.2.2.2.2 (nI_in (by omega) (by omega)) dL_law_866 ?_
  refine lv_topi (fun y2 ey2 => ?_)
  clear ey2
  refine lv_aload_n hx hb dL_law_867 rfl (lv_at hl 3 rfl) ?_
  refine lv_iload_n hx hb dL_law_868 rfl (lv_at hl 0 rfl) ?_
  refine lv_iconst (v := 2) hx hb dL_law_869 (by decide) ?_
  refine lv_iadd hx hb dL_law_870 ?_
  refine lv_topi (fun j3 ej3 => ?_)
  have ej3 : j3 = nI (i + 2) := ej3.trans (nI_add i 2)
  subst ej3
  refine va_sld hx hb hX hbl hbA hI.1.2.2.2.2.2.2 (nI_in (by omega) (by omega)) dL_law_871 ?_
  refine lv_topi (fun y4 ey4 => ?_)
  clear ey4
  have hI2 := hI.loose
  refine lw_C (n := 2) (As := [.int y2, .int y4]) S hK hI2 (m_X10_ration l D cT T (qup q 6 (-2147483647)) hI2.1.2.2.1.2.1.1 hI2.1.2.2.1.1.tok rfl a hI2.1.2.2.1.2.2 (y2) (iv_top _) (y4) (iv_top _)) th_R_int gm_1023 gm_1020 gm_1021 gm_1022 gm_113 (by decide +kernel) ⟨rfl, rfl, Nat.le_of_ble_eq_true rfl, Nat.le_of_ble_eq_true rfl⟩ rfl hl.1 rfl (Nat.le_of_ble_eq_true rfl) dL_law_872 ⟨Nat.le_of_ble_eq_true rfl, Nat.le_of_ble_eq_true rfl⟩ (fun x5 H locs Ix5 => ?_)
  refine lv_pop (pc := 875) hx hb dL_law_875 rfl ?_
  refine lv_aload_n hx hb dL_law_876 rfl (lv_at hl 1 rfl) ?_
  refine lv_aload_n hx hb dL_law_877 rfl (lv_at hl 3 rfl) ?_
  refine lv_iload_n hx hb dL_law_878 rfl (lv_at hl 0 rfl) ?_
  refine lv_iconst (v := 1) hx hb dL_law_879 (by decide) ?_
  refine lv_iadd hx hb dL_law_880 ?_
  refine lv_topi (fun j6 ej6 => ?_)
  have ej6 : j6 = nI (i + 1) := ej6.trans (nI_add i 1)
  subst ej6
  refine va_sld hx hb hX hbl hbA Ix5.1.2.2.2.2.2.2 (nI_in (by omega) (by omega)) dL_law_881 ?_
  refine lv_topi (fun y7 ey7 => ?_)
  clear ey7
  refine lv_aload_n hx hb dL_law_882 rfl (lv_at hl 3 rfl) ?_
  refine lv_iload_n hx hb dL_law_883 rfl (lv_at hl 0 rfl) ?_
  refine lv_iconst (v := 2) hx hb dL_law_884 (by decide) ?_
  refine lv_iadd hx hb dL_law_885 ?_
  refine lv_topi (fun j8 ej8 => ?_)
  have ej8 : j8 = nI (i + 2) := ej8.trans (nI_add i 2)
  subst ej8
  refine va_sld hx hb hX hbl hbA Ix5.1.2.2.2.2.2.2 (nI_in (by omega) (by omega)) dL_law_886 ?_
  refine lv_topi (fun y9 ey9 => ?_)
  clear ey9
  refine lw_MM (n := 2) (As := [.int y7, .int y9]) S hK Ix5 (m_X11_ration l D cT Tm qq Ix5.1.2.2.2.1.1 Ix5.1.2.2.2.1.2.1 am Ix5.1.2.2.2.1.2.2.2 (y7) (iv_top _) (y9) (iv_top _)) (fun v q2 h => by obtain ⟨r, rfl, _, h1, h2⟩ := h; exact ⟨⟨r, rfl⟩, h1, by rw [h2 7 (by decide) (Or.inl (by decide)), h2 8 (by decide) (Or.inl (by decide))]; exact Ix5.1.2.2.2.1.2.2.1, h2 9 (by decide) (Or.inl (by decide))⟩) gm_1804 gm_1801 gm_1802 gm_1803 gm_124 (by decide +kernel) ⟨rfl, rfl, Nat.le_of_ble_eq_true rfl, Nat.le_of_ble_eq_true rfl⟩ rfl hl.1 rfl (Nat.le_of_ble_eq_true rfl) dL_law_887 ⟨Nat.le_of_ble_eq_true rfl, Nat.le_of_ble_eq_true rfl⟩ (fun x10 qx10 H locs Ix10 => ?_)
  refine lv_pop (pc := 890) hx hb dL_law_890 rfl ?_
  refine lv_goto (tgt := 1368) hx hb dL_law_891 (by decide) ?_
  exact hnext T (qup q 6 (-2147483647)) Tm qx10 H locs Ix10

set_option maxHeartbeats 4000000 in
set_option maxRecDepth 100000 in
theorem law_c26 {p : Program} {l : Launch} {e : Env} {s : State} {m : MethodId} {below : List Frame} {meth : Method} {c : Code} {b L i : Nat} {xs : Nat → Int32} {D : va_G} {cT : Nat → ClassId} {a am : Nat} {adK adV : Nat → Nat} {ls : Array Slot} (S : CallFix p m c code 4 s #[Value.ref b] gw RL) (hK : va_K D classes (th_tys cT) s) (hX : va_X b L xs s s.heap) (hbl : b < s.heap.size) (hL : L ≤ 3072) (hi : i + 6 ≤ L) (hl : lv_has ls 4 [(3, .int (nI i)), (2, .ref am), (1, .ref a), (0, .ref b)]) (hE : st_S adK adV (fun q => s.heap.size ≤ q) s s.heap ∧ vk_R "HungryMaps$Tape" 68 "food map place likes border taste winter draw scale year eaten cold size worth holes hunger in folded on or and not " (adK 0) s ∧ vk_R "HungryMaps$Tape" 47 ";()<>=+-*/%" (adK 1) s) {T Tm : Nat → Option Nat} {q qq : Nat → Int} {H : Heap} {locs : List Loc} (hI : LI D cT s a am T q Tm qq H locs) (hnext : ∀ (T : Nat → Option Nat) (q : Nat → Int) (Tm : Nat → Option Nat) (qq : Nat → Int) (H : Heap) (locs : List Loc), LI D cT s a am T q Tm qq H locs → W p l e room_1 s m #[Value.ref b] below meth c H locs 223 21033 (lw_Z below #[Value.ref b] s) (F0 m 1368 ls [])) : W p l e room_1 s m #[Value.ref b] below meth c H locs 223 21033 (lw_Z below #[Value.ref b] s) (F0 m 894 ls []) := by
  have hx := S.1; have hb := S.2.1
  have hbA : ¬ (fun q : Nat => s.heap.size ≤ q) b := Nat.not_le.mpr hbl
  refine lv_aload_n hx hb dL_law_894 rfl (lv_at hl 2 rfl) ?_
  refine lv_aload_n hx hb dL_law_895 rfl (lv_at hl 3 rfl) ?_
  refine lv_iload_n hx hb dL_law_896 rfl (lv_at hl 0 rfl) ?_
  refine lv_iconst (v := 1) hx hb dL_law_897 (by decide) ?_
  refine lv_iadd hx hb dL_law_898 ?_
  refine lv_topi (fun j1 ej1 => ?_)
  have ej1 : j1 = nI (i + 1) := ej1.trans (nI_add i 1)
  subst ej1
  refine va_sld hx hb hX hbl hbA hI.1.2.2.2.2.2.2 (nI_in (by omega) (by omega)) dL_law_899 ?_
  refine lv_topi (fun y2 ey2 => ?_)
  clear ey2
  refine lv_aload_n hx hb dL_law_900 rfl (lv_at hl 3 rfl) ?_
  refine lv_iload_n hx hb dL_law_901 rfl (lv_at hl 0 rfl) ?_
  refine lv_iconst (v := 2) hx hb dL_law_902 (by decide) ?_
  refine lv_iadd hx hb dL_law_903 ?_
  refine lv_topi (fun j3 ej3 => ?_)
  have ej3 : j3 = nI (i + 2) := ej3.trans (nI_add i 2)
  subst ej3
  refine va_sld hx hb hX hbl hbA hI.1.2.2.2.2.2.2 (nI_in (by omega) (by omega)) dL_law_904 ?_
  refine lv_topi (fun y4 ey4 => ?_)
  clear ey4
  refine lw_C (n := 2) (As := [.int y2, .int y4]) S hK hI (m_X10_keep l D cT T q hI.1.2.2.1.2.1.1 a hI.1.2.2.1.2.2 (y2) (iv_top _) (y4) (iv_top _)) th_R_int gm_1063 gm_1060 gm_1061 gm_1062 gm_113 (by decide +kernel) ⟨rfl, rfl, Nat.le_of_ble_eq_true rfl, Nat.le_of_ble_eq_true rfl⟩ rfl hl.1 rfl (Nat.le_of_ble_eq_true rfl) dL_law_905 ⟨Nat.le_of_ble_eq_true rfl, Nat.le_of_ble_eq_true rfl⟩ (fun x5 H locs Ix5 => ?_)
  refine lv_pop (pc := 908) hx hb dL_law_908 rfl ?_
  refine lv_aload_n hx hb dL_law_909 rfl (lv_at hl 1 rfl) ?_
  refine lv_aload_n hx hb dL_law_910 rfl (lv_at hl 3 rfl) ?_
  refine lv_iload_n hx hb dL_law_911 rfl (lv_at hl 0 rfl) ?_
  refine lv_iconst (v := 1) hx hb dL_law_912 (by decide) ?_
  refine lv_iadd hx hb dL_law_913 ?_
  refine lv_topi (fun j6 ej6 => ?_)
  have ej6 : j6 = nI (i + 1) := ej6.trans (nI_add i 1)
  subst ej6
  refine va_sld hx hb hX hbl hbA Ix5.1.2.2.2.2.2.2 (nI_in (by omega) (by omega)) dL_law_914 ?_
  refine lv_topi (fun y7 ey7 => ?_)
  clear ey7
  refine lv_aload_n hx hb dL_law_915 rfl (lv_at hl 3 rfl) ?_
  refine lv_iload_n hx hb dL_law_916 rfl (lv_at hl 0 rfl) ?_
  refine lv_iconst (v := 2) hx hb dL_law_917 (by decide) ?_
  refine lv_iadd hx hb dL_law_918 ?_
  refine lv_topi (fun j8 ej8 => ?_)
  have ej8 : j8 = nI (i + 2) := ej8.trans (nI_add i 2)
  subst ej8
  refine va_sld hx hb hX hbl hbA Ix5.1.2.2.2.2.2.2 (nI_in (by omega) (by omega)) dL_law_919 ?_
  refine lv_topi (fun y9 ey9 => ?_)
  clear ey9
  refine lw_MM (n := 2) (As := [.int y7, .int y9]) S hK Ix5 (m_X11_keep l D cT Tm qq Ix5.1.2.2.2.1.1 Ix5.1.2.2.2.1.2.1 am Ix5.1.2.2.2.1.2.2.2 (y7) (iv_top _) (y9) (iv_top _)) (fun v q2 h => by obtain ⟨r, rfl, _, h1, h2⟩ := h; exact ⟨⟨r, rfl⟩, h1, by rw [h2 7 (by decide) (Or.inl (by decide)), h2 8 (by decide) (Or.inl (by decide))]; exact Ix5.1.2.2.2.1.2.2.1, h2 9 (by decide) (Or.inl (by decide))⟩) gm_1824 gm_1821 gm_1822 gm_1823 gm_124 (by decide +kernel) ⟨rfl, rfl, Nat.le_of_ble_eq_true rfl, Nat.le_of_ble_eq_true rfl⟩ rfl hl.1 rfl (Nat.le_of_ble_eq_true rfl) dL_law_920 ⟨Nat.le_of_ble_eq_true rfl, Nat.le_of_ble_eq_true rfl⟩ (fun x10 qx10 H locs Ix10 => ?_)
  refine lv_pop (pc := 923) hx hb dL_law_923 rfl ?_
  refine lv_goto (tgt := 1368) hx hb dL_law_924 (by decide) ?_
  exact hnext T q Tm qx10 H locs Ix10

set_option maxHeartbeats 4000000 in
set_option maxRecDepth 100000 in
theorem law_c27 {p : Program} {l : Launch} {e : Env} {s : State} {m : MethodId} {below : List Frame} {meth : Method} {c : Code} {b L i : Nat} {xs : Nat → Int32} {D : va_G} {cT : Nat → ClassId} {a am : Nat} {adK adV : Nat → Nat} {ls : Array Slot} (S : CallFix p m c code 4 s #[Value.ref b] gw RL) (hK : va_K D classes (th_tys cT) s) (hX : va_X b L xs s s.heap) (hbl : b < s.heap.size) (hL : L ≤ 3072) (hi : i + 6 ≤ L) (hl : lv_has ls 4 [(3, .int (nI i)), (2, .ref am), (1, .ref a), (0, .ref b)]) (hE : st_S adK adV (fun q => s.heap.size ≤ q) s s.heap ∧ vk_R "HungryMaps$Tape" 68 "food map place likes border taste winter draw scale year eaten cold size worth holes hunger in folded on or and not " (adK 0) s ∧ vk_R "HungryMaps$Tape" 47 ";()<>=+-*/%" (adK 1) s) {T Tm : Nat → Option Nat} {q qq : Nat → Int} {H : Heap} {locs : List Loc} (hI : LI D cT s a am T q Tm qq H locs) (hnext : ∀ (T : Nat → Option Nat) (q : Nat → Int) (Tm : Nat → Option Nat) (qq : Nat → Int) (H : Heap) (locs : List Loc), LI D cT s a am T q Tm qq H locs → W p l e room_1 s m #[Value.ref b] below meth c H locs 223 21033 (lw_Z below #[Value.ref b] s) (F0 m 1368 ls [])) : W p l e room_1 s m #[Value.ref b] below meth c H locs 223 21033 (lw_Z below #[Value.ref b] s) (F0 m 927 ls []) := by
  have hx := S.1; have hb := S.2.1
  have hbA : ¬ (fun q : Nat => s.heap.size ≤ q) b := Nat.not_le.mpr hbl
  refine lv_aload_n hx hb dL_law_927 rfl (lv_at hl 2 rfl) ?_
  refine lv_aload_n hx hb dL_law_928 rfl (lv_at hl 3 rfl) ?_
  refine lv_iload_n hx hb dL_law_929 rfl (lv_at hl 0 rfl) ?_
  refine lv_iconst (v := 1) hx hb dL_law_930 (by decide) ?_
  refine lv_iadd hx hb dL_law_931 ?_
  refine lv_topi (fun j1 ej1 => ?_)
  have ej1 : j1 = nI (i + 1) := ej1.trans (nI_add i 1)
  subst ej1
  refine va_sld hx hb hX hbl hbA hI.1.2.2.2.2.2.2 (nI_in (by omega) (by omega)) dL_law_932 ?_
  refine lv_topi (fun y2 ey2 => ?_)
  clear ey2
  refine lv_aload_n hx hb dL_law_933 rfl (lv_at hl 3 rfl) ?_
  refine lv_iload_n hx hb dL_law_934 rfl (lv_at hl 0 rfl) ?_
  refine lv_iconst (v := 2) hx hb dL_law_935 (by decide) ?_
  refine lv_iadd hx hb dL_law_936 ?_
  refine lv_topi (fun j3 ej3 => ?_)
  have ej3 : j3 = nI (i + 2) := ej3.trans (nI_add i 2)
  subst ej3
  refine va_sld hx hb hX hbl hbA hI.1.2.2.2.2.2.2 (nI_in (by omega) (by omega)) dL_law_937 ?_
  refine lv_topi (fun y4 ey4 => ?_)
  clear ey4
  refine lw_C (n := 2) (As := [.int y2, .int y4]) S hK hI (m_X10_folds l D cT T q hI.1.2.2.1.2.1.1 a hI.1.2.2.1.2.2 (y2) (iv_top _) (y4) (iv_top _)) th_R_int gm_1080 gm_1077 gm_1078 gm_1079 gm_113 (by decide +kernel) ⟨rfl, rfl, Nat.le_of_ble_eq_true rfl, Nat.le_of_ble_eq_true rfl⟩ rfl hl.1 rfl (Nat.le_of_ble_eq_true rfl) dL_law_938 ⟨Nat.le_of_ble_eq_true rfl, Nat.le_of_ble_eq_true rfl⟩ (fun x5 H locs Ix5 => ?_)
  refine lv_pop (pc := 941) hx hb dL_law_941 rfl ?_
  refine lv_aload_n hx hb dL_law_942 rfl (lv_at hl 1 rfl) ?_
  refine lv_aload_n hx hb dL_law_943 rfl (lv_at hl 3 rfl) ?_
  refine lv_iload_n hx hb dL_law_944 rfl (lv_at hl 0 rfl) ?_
  refine lv_iconst (v := 1) hx hb dL_law_945 (by decide) ?_
  refine lv_iadd hx hb dL_law_946 ?_
  refine lv_topi (fun j6 ej6 => ?_)
  have ej6 : j6 = nI (i + 1) := ej6.trans (nI_add i 1)
  subst ej6
  refine va_sld hx hb hX hbl hbA Ix5.1.2.2.2.2.2.2 (nI_in (by omega) (by omega)) dL_law_947 ?_
  refine lv_topi (fun y7 ey7 => ?_)
  clear ey7
  refine lv_aload_n hx hb dL_law_948 rfl (lv_at hl 3 rfl) ?_
  refine lv_iload_n hx hb dL_law_949 rfl (lv_at hl 0 rfl) ?_
  refine lv_iconst (v := 2) hx hb dL_law_950 (by decide) ?_
  refine lv_iadd hx hb dL_law_951 ?_
  refine lv_topi (fun j8 ej8 => ?_)
  have ej8 : j8 = nI (i + 2) := ej8.trans (nI_add i 2)
  subst ej8
  refine va_sld hx hb hX hbl hbA Ix5.1.2.2.2.2.2.2 (nI_in (by omega) (by omega)) dL_law_952 ?_
  refine lv_topi (fun y9 ey9 => ?_)
  clear ey9
  refine lw_M (n := 2) (As := [.int y7, .int y9]) S hK Ix5 (m_X11_folds l D cT Tm qq Ix5.1.2.2.2.1.1 Ix5.1.2.2.2.1.2.1 am Ix5.1.2.2.2.1.2.2.2 (y7) (iv_top _) (y9) (iv_top _)) th_R_int gm_1828 gm_1825 gm_1826 gm_1827 gm_124 (by decide +kernel) ⟨rfl, rfl, Nat.le_of_ble_eq_true rfl, Nat.le_of_ble_eq_true rfl⟩ rfl hl.1 rfl (Nat.le_of_ble_eq_true rfl) dL_law_953 ⟨Nat.le_of_ble_eq_true rfl, Nat.le_of_ble_eq_true rfl⟩ (fun x10 H locs Ix10 => ?_)
  refine lv_pop (pc := 956) hx hb dL_law_956 rfl ?_
  refine lv_goto (tgt := 1368) hx hb dL_law_957 (by decide) ?_
  exact hnext T q Tm qq H locs Ix10
