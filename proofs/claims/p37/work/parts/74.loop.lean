set_option maxHeartbeats 4000000 in
set_option maxRecDepth 100000 in
theorem law_next {p : Program} {l : Launch} {e : Env} {s : State} {m : MethodId} {below : List Frame} {meth : Method} {c : Code} {b i : Nat} {a am : Nat} {ls : Array Slot} {H : Heap} {locs : List Loc} (S : CallFix p m c code 4 s #[Value.ref b] gw RL) (hl : lv_has ls 4 [(3, .int (nI i)), (2, .ref am), (1, .ref a), (0, .ref b)])
    (kk : ∀ ls : Array Slot, lv_has ls 4 [(3, .int (nI (i + 6))), (2, .ref am), (1, .ref a), (0, .ref b)] → W p l e room_1 s m #[Value.ref b] below meth c H locs 223 21033 (lw_Z below #[Value.ref b] s) (F0 m 18 ls [])) : W p l e room_1 s m #[Value.ref b] below meth c H locs 223 21033 (lw_Z below #[Value.ref b] s) (F0 m 1368 ls []) := by
  have hx := S.1; have hb := S.2.1
  refine lv_iinc (k := 0) (v := nI (i + 6)) (lv' := [(3, .int (nI (i + 6))), (2, .ref am), (1, .ref a), (0, .ref b)]) hx hb dL_law_1368 hl rfl (nI_add i 6) (by decide) rfl (fun ls' hl' => ?_)
  refine lv_goto (tgt := 18) hx hb dL_law_1371 (by decide) ?_
  exact kk ls' hl'

theorem nI_sub6 {L : Nat} (h : L ≤ 3072) : (Int32.ofNat L - 6 : Int32).toInt = (L : Int) - 6 := by
  have h1 : (nI L).toInt = (L : Int) := nI_toInt (by omega)
  have h2 : (6 : Int32).toInt = 6 := by decide
  show (nI L - 6 : Int32).toInt = (L : Int) - 6
  rw [Int32.toInt_sub, h1, h2, Int.bmod_eq_of_le (by omega) (by omega)]
set_option maxHeartbeats 4000000 in
set_option maxRecDepth 100000 in
theorem law_sw {p : Program} {l : Launch} {e : Env} {s : State} {m : MethodId} {below : List Frame} {meth : Method} {c : Code} {b L i : Nat} {ls : Array Slot} {xs : Nat → Int32} {D : va_G} {cT : Nat → ClassId} {a am : Nat} {adK adV : Nat → Nat} (S : CallFix p m c code 4 s #[Value.ref b] gw RL) (hK : va_K D classes (th_tys cT) s) (hX : va_X b L xs s s.heap) (hbl : b < s.heap.size) (hL : L ≤ 3072) (hi : i + 6 ≤ L) (hl : lv_has ls 4 [(3, .int (nI i)), (2, .ref am), (1, .ref a), (0, .ref b)]) (hE : st_S adK adV (fun q => s.heap.size ≤ q) s s.heap ∧ vk_R "HungryMaps$Tape" 68 "food map place likes border taste winter draw scale year eaten cold size worth holes hunger in folded on or and not " (adK 0) s ∧ vk_R "HungryMaps$Tape" 47 ";()<>=+-*/%" (adK 1) s) {T Tm : Nat → Option Nat} {q qq : Nat → Int} {H : Heap} {locs : List Loc} (hI : LI D cT s a am T q Tm qq H locs) (hnext : ∀ (T : Nat → Option Nat) (q : Nat → Int) (Tm : Nat → Option Nat) (qq : Nat → Int) (H : Heap) (locs : List Loc), LI D cT s a am T q Tm qq H locs → W p l e room_1 s m #[Value.ref b] below meth c H locs 223 21033 (lw_Z below #[Value.ref b] s) (F0 m 1368 ls [])) {x : Int32} : W p l e room_1 s m #[Value.ref b] below meth c H locs 223 21033 (lw_Z below #[Value.ref b] s) (F0 m 33 ls [.int x]) := by
  have hx := S.1; have hb := S.2.1
  by_cases cn : x.toInt < 0 ∨ 41 < x.toInt
  · refine lv_tableOut (tgt := 1368) hx hb dL_law_33 cn (by decide) ?_
    exact hnext T q Tm qq H locs hI
  · rcases (show x.toInt = 0 ∨ x.toInt = 1 ∨ x.toInt = 2 ∨ x.toInt = 3 ∨ x.toInt = 4 ∨ x.toInt = 5 ∨ x.toInt = 6 ∨ x.toInt = 7 ∨ x.toInt = 8 ∨ x.toInt = 9 ∨ x.toInt = 10 ∨ x.toInt = 11 ∨ x.toInt = 12 ∨ x.toInt = 13 ∨ x.toInt = 14 ∨ x.toInt = 15 ∨ x.toInt = 16 ∨ x.toInt = 17 ∨ x.toInt = 18 ∨ x.toInt = 19 ∨ x.toInt = 20 ∨ x.toInt = 21 ∨ x.toInt = 22 ∨ x.toInt = 23 ∨ x.toInt = 24 ∨ x.toInt = 25 ∨ x.toInt = 26 ∨ x.toInt = 27 ∨ x.toInt = 28 ∨ x.toInt = 29 ∨ x.toInt = 30 ∨ x.toInt = 31 ∨ x.toInt = 32 ∨ x.toInt = 33 ∨ x.toInt = 34 ∨ x.toInt = 35 ∨ x.toInt = 36 ∨ x.toInt = 37 ∨ x.toInt = 38 ∨ x.toInt = 39 ∨ x.toInt = 40 ∨ x.toInt = 41 by omega) with cb | cb | cb | cb | cb | cb | cb | cb | cb | cb | cb | cb | cb | cb | cb | cb | cb | cb | cb | cb | cb | cb | cb | cb | cb | cb | cb | cb | cb | cb | cb | cb | cb | cb | cb | cb | cb | cb | cb | cb | cb | cb
    · refine lv_tableIn (tgt := 216) (off := 183) hx hb dL_law_33 (by omega) (by omega) (by rw [cb]; rfl) (by decide) ?_
      exact law_c0 S hK hX hbl hL hi hl hE hI hnext
    · refine lv_tableIn (tgt := 279) (off := 246) hx hb dL_law_33 (by omega) (by omega) (by rw [cb]; rfl) (by decide) ?_
      exact law_c1 S hK hX hbl hL hi hl hE hI hnext
    · refine lv_tableIn (tgt := 302) (off := 269) hx hb dL_law_33 (by omega) (by omega) (by rw [cb]; rfl) (by decide) ?_
      exact law_c2 S hK hX hbl hL hi hl hE hI hnext
    · refine lv_tableIn (tgt := 315) (off := 282) hx hb dL_law_33 (by omega) (by omega) (by rw [cb]; rfl) (by decide) ?_
      exact law_c3 S hK hX hbl hL hi hl hE hI hnext
    · refine lv_tableIn (tgt := 338) (off := 305) hx hb dL_law_33 (by omega) (by omega) (by rw [cb]; rfl) (by decide) ?_
      exact law_c4 S hK hX hbl hL hi hl hE hI hnext
    · refine lv_tableIn (tgt := 361) (off := 328) hx hb dL_law_33 (by omega) (by omega) (by rw [cb]; rfl) (by decide) ?_
      exact law_c5 S hK hX hbl hL hi hl hE hI hnext
    · refine lv_tableIn (tgt := 394) (off := 361) hx hb dL_law_33 (by omega) (by omega) (by rw [cb]; rfl) (by decide) ?_
      exact law_c6 S hK hX hbl hL hi hl hE hI hnext
    · refine lv_tableIn (tgt := 427) (off := 394) hx hb dL_law_33 (by omega) (by omega) (by rw [cb]; rfl) (by decide) ?_
      exact law_c7 S hK hX hbl hL hi hl hE hI hnext
    · refine lv_tableIn (tgt := 460) (off := 427) hx hb dL_law_33 (by omega) (by omega) (by rw [cb]; rfl) (by decide) ?_
      exact law_c8 S hK hX hbl hL hi hl hE hI hnext
    · refine lv_tableIn (tgt := 493) (off := 460) hx hb dL_law_33 (by omega) (by omega) (by rw [cb]; rfl) (by decide) ?_
      exact law_c9 S hK hX hbl hL hi hl hE hI hnext
    · refine lv_tableIn (tgt := 526) (off := 493) hx hb dL_law_33 (by omega) (by omega) (by rw [cb]; rfl) (by decide) ?_
      exact law_c10 S hK hX hbl hL hi hl hE hI hnext
    · refine lv_tableIn (tgt := 569) (off := 536) hx hb dL_law_33 (by omega) (by omega) (by rw [cb]; rfl) (by decide) ?_
      exact law_c11 S hK hX hbl hL hi hl hE hI hnext
    · refine lv_tableIn (tgt := 592) (off := 559) hx hb dL_law_33 (by omega) (by omega) (by rw [cb]; rfl) (by decide) ?_
      exact law_c12 S hK hX hbl hL hi hl hE hI hnext
    · refine lv_tableIn (tgt := 625) (off := 592) hx hb dL_law_33 (by omega) (by omega) (by rw [cb]; rfl) (by decide) ?_
      exact law_c13 S hK hX hbl hL hi hl hE hI hnext
    · refine lv_tableIn (tgt := 638) (off := 605) hx hb dL_law_33 (by omega) (by omega) (by rw [cb]; rfl) (by decide) ?_
      exact law_c14 S hK hX hbl hL hi hl hE hI hnext
    · refine lv_tableIn (tgt := 651) (off := 618) hx hb dL_law_33 (by omega) (by omega) (by rw [cb]; rfl) (by decide) ?_
      exact law_c15 S hK hX hbl hL hi hl hE hI hnext
    · refine lv_tableIn (tgt := 664) (off := 631) hx hb dL_law_33 (by omega) (by omega) (by rw [cb]; rfl) (by decide) ?_
      exact law_c16 S hK hX hbl hL hi hl hE hI hnext
    · refine lv_tableIn (tgt := 677) (off := 644) hx hb dL_law_33 (by omega) (by omega) (by rw [cb]; rfl) (by decide) ?_
      exact law_c17 S hK hX hbl hL hi hl hE hI hnext
    · refine lv_tableIn (tgt := 710) (off := 677) hx hb dL_law_33 (by omega) (by omega) (by rw [cb]; rfl) (by decide) ?_
      exact law_c18 S hK hX hbl hL hi hl hE hI hnext
    · refine lv_tableIn (tgt := 733) (off := 700) hx hb dL_law_33 (by omega) (by omega) (by rw [cb]; rfl) (by decide) ?_
      exact law_c19 S hK hX hbl hL hi hl hE hI hnext
    · refine lv_tableIn (tgt := 756) (off := 723) hx hb dL_law_33 (by omega) (by omega) (by rw [cb]; rfl) (by decide) ?_
      exact law_c20 S hK hX hbl hL hi hl hE hI hnext
    · refine lv_tableIn (tgt := 789) (off := 756) hx hb dL_law_33 (by omega) (by omega) (by rw [cb]; rfl) (by decide) ?_
      exact law_c21 S hK hX hbl hL hi hl hE hI hnext
    · refine lv_tableIn (tgt := 812) (off := 779) hx hb dL_law_33 (by omega) (by omega) (by rw [cb]; rfl) (by decide) ?_
      exact law_c22 S hK hX hbl hL hi hl hE hI hnext
    · refine lv_tableIn (tgt := 825) (off := 792) hx hb dL_law_33 (by omega) (by omega) (by rw [cb]; rfl) (by decide) ?_
      exact law_c23 S hK hX hbl hL hi hl hE hI hnext
    · refine lv_tableIn (tgt := 838) (off := 805) hx hb dL_law_33 (by omega) (by omega) (by rw [cb]; rfl) (by decide) ?_
      exact law_c24 S hK hX hbl hL hi hl hE hI hnext
    · refine lv_tableIn (tgt := 861) (off := 828) hx hb dL_law_33 (by omega) (by omega) (by rw [cb]; rfl) (by decide) ?_
      exact law_c25 S hK hX hbl hL hi hl hE hI hnext
    · refine lv_tableIn (tgt := 894) (off := 861) hx hb dL_law_33 (by omega) (by omega) (by rw [cb]; rfl) (by decide) ?_
      exact law_c26 S hK hX hbl hL hi hl hE hI hnext
    · refine lv_tableIn (tgt := 927) (off := 894) hx hb dL_law_33 (by omega) (by omega) (by rw [cb]; rfl) (by decide) ?_
      exact law_c27 S hK hX hbl hL hi hl hE hI hnext
    · refine lv_tableIn (tgt := 960) (off := 927) hx hb dL_law_33 (by omega) (by omega) (by rw [cb]; rfl) (by decide) ?_
      exact law_c28 S hK hX hbl hL hi hl hE hI hnext
    · refine lv_tableIn (tgt := 983) (off := 950) hx hb dL_law_33 (by omega) (by omega) (by rw [cb]; rfl) (by decide) ?_
      exact law_c29 S hK hX hbl hL hi hl hE hI hnext
    · refine lv_tableIn (tgt := 996) (off := 963) hx hb dL_law_33 (by omega) (by omega) (by rw [cb]; rfl) (by decide) ?_
      exact law_c30 S hK hX hbl hL hi hl hE hI hnext
    · refine lv_tableIn (tgt := 1009) (off := 976) hx hb dL_law_33 (by omega) (by omega) (by rw [cb]; rfl) (by decide) ?_
      exact law_c31 S hK hX hbl hL hi hl hE hI hnext
    · refine lv_tableIn (tgt := 1052) (off := 1019) hx hb dL_law_33 (by omega) (by omega) (by rw [cb]; rfl) (by decide) ?_
      exact law_c32 S hK hX hbl hL hi hl hE hI hnext
    · refine lv_tableIn (tgt := 1075) (off := 1042) hx hb dL_law_33 (by omega) (by omega) (by rw [cb]; rfl) (by decide) ?_
      exact law_c33 S hK hX hbl hL hi hl hE hI hnext
    · refine lv_tableIn (tgt := 1154) (off := 1121) hx hb dL_law_33 (by omega) (by omega) (by rw [cb]; rfl) (by decide) ?_
      exact law_c34 S hK hX hbl hL hi hl hE hI hnext
    · refine lv_tableIn (tgt := 1177) (off := 1144) hx hb dL_law_33 (by omega) (by omega) (by rw [cb]; rfl) (by decide) ?_
      exact law_c35 S hK hX hbl hL hi hl hE hI hnext
    · refine lv_tableIn (tgt := 1200) (off := 1167) hx hb dL_law_33 (by omega) (by omega) (by rw [cb]; rfl) (by decide) ?_
      exact law_c36 S hK hX hbl hL hi hl hE hI hnext
    · refine lv_tableIn (tgt := 1223) (off := 1190) hx hb dL_law_33 (by omega) (by omega) (by rw [cb]; rfl) (by decide) ?_
      exact law_c37 S hK hX hbl hL hi hl hE hI hnext
    · refine lv_tableIn (tgt := 1256) (off := 1223) hx hb dL_law_33 (by omega) (by omega) (by rw [cb]; rfl) (by decide) ?_
      exact law_c38 S hK hX hbl hL hi hl hE hI hnext
    · refine lv_tableIn (tgt := 1299) (off := 1266) hx hb dL_law_33 (by omega) (by omega) (by rw [cb]; rfl) (by decide) ?_
      exact law_c39 S hK hX hbl hL hi hl hE hI hnext
    · refine lv_tableIn (tgt := 1322) (off := 1289) hx hb dL_law_33 (by omega) (by omega) (by rw [cb]; rfl) (by decide) ?_
      exact law_c40 S hK hX hbl hL hi hl hE hI hnext
    · refine lv_tableIn (tgt := 1345) (off := 1312) hx hb dL_law_33 (by omega) (by omega) (by rw [cb]; rfl) (by decide) ?_
      exact law_c41 S hK hX hbl hL hi hl hE hI hnext
set_option maxHeartbeats 4000000 in
set_option maxRecDepth 100000 in
theorem law_loop {p : Program} {l : Launch} {e : Env} {s : State} {m : MethodId} {below : List Frame} {meth : Method} {c : Code} {b L : Nat} {xs : Nat → Int32} {D : va_G} {cT : Nat → ClassId} {a am : Nat} {adK adV : Nat → Nat} (S : CallFix p m c code 4 s #[Value.ref b] gw RL) (hK : va_K D classes (th_tys cT) s) (hX : va_X b L xs s s.heap) (hbl : b < s.heap.size) (hL : L ≤ 3072) (hE : st_S adK adV (fun q => s.heap.size ≤ q) s s.heap ∧ vk_R "HungryMaps$Tape" 68 "food map place likes border taste winter draw scale year eaten cold size worth holes hunger in folded on or and not " (adK 0) s ∧ vk_R "HungryMaps$Tape" 47 ";()<>=+-*/%" (adK 1) s) (hr : meth.sig.returnType = ret) (hlocks : meth.locks = false) (n : Nat) : ∀ (i : Nat), L + 6 ≤ i + n → i ≤ L → ∀ (ls : Array Slot) (hl : lv_has ls 4 [(3, .int (nI i)), (2, .ref am), (1, .ref a), (0, .ref b)]) (T : Nat → Option Nat) (q : Nat → Int) (Tm : Nat → Option Nat) (qq : Nat → Int) (H : Heap) (locs : List Loc), LI D cT s a am T q Tm qq H locs → W p l e room_1 s m #[Value.ref b] below meth c H locs 223 21033 (lw_Z below #[Value.ref b] s) (F0 m 18 ls []) := by
  induction n with
  | zero => intro i h1 h2; omega
  | succ n ih =>
    intro i h1 h2 ls hl T q Tm qq H locs hI
    have hx := S.1; have hb := S.2.1
    have hbA : ¬ (fun q : Nat => s.heap.size ≤ q) b := Nat.not_le.mpr hbl
    refine lv_iload_n hx hb dL_law_18 rfl (lv_at hl 0 rfl) ?_
    refine lv_aload_n hx hb dL_law_19 rfl (lv_at hl 3 rfl) ?_
    refine va_slen hx hb hX hbl hbA hI.1.2.2.2.2.2.2 dL_law_20 ?_
    refine lv_bipush (v := 6) hx hb dL_law_21 (by decide) ?_
    refine lv_isub hx hb dL_law_23 ?_
    refine lv_topi (fun z ez => ?_)
    have ez : z.toInt = (L : Int) - 6 := by rw [ez]; exact nI_sub6 hL
    have ei : (nI i).toInt = (i : Int) := nI_toInt (by omega)
    refine lv_icmp_gt (tgt := 1374) hx hb dL_law_24 (by decide) (fun cc => ?_) (fun cc => ?_)
    · refine lv_iconst (v := 1) hx hb dL_law_1374 (by decide) ?_
      refine va_forget (fun q hq => hI.1.2.2.2.2.2.2.2.2 q hq) ?_
      refine W.widen (k := 600000) (n := 7302249) (by omega) (by omega) ?_
      exact lw_ret hx hb hr hlocks dL_law_1375
    · have hi : i + 6 ≤ L := by
        have : ¬ z.toInt < (nI i).toInt := fun h => cc (Int32.lt_iff_toInt_lt.mpr h)
        omega
      refine lv_aload_n hx hb dL_law_27 rfl (lv_at hl 3 rfl) ?_
      refine lv_iload_n hx hb dL_law_28 rfl (lv_at hl 0 rfl) ?_
      refine va_sld hx hb hX hbl hbA hI.1.2.2.2.2.2.2 (nI_in (by omega) (by omega)) dL_law_29 ?_
      refine lv_bipush (v := 63) hx hb dL_law_30 (by decide) ?_
      refine lv_iand hx hb dL_law_32 ?_
      refine lv_topi (fun x ex => ?_)
      exact law_sw S hK hX hbl hL hi hl hE hI (fun T q Tm qq H locs hI => law_next S hl (fun ls hl => ih (i + 6) (by omega) (by omega) ls hl T q Tm qq H locs hI))
