set_option maxHeartbeats 4000000 in
set_option maxRecDepth 100000 in
theorem k_X3_init_k5 (l : Launch) (D : va_G) (cT : Nat → ClassId) (T : Nat → Option Nat) (a sz : Nat) : th_MetC l D cT T (kd qz) [0, 2, 3, 4, 5, 7, 8, 46] yX3_init cX3_init 2 (rmc 2 83 1845 32) 3 [.null, .int 0, .int 0, .int 0] [] a sz 5 [30, 10, 29] 83 1845 := by
  refine th_startC (by decide) (Nat.le_of_ble_eq_true rfl) ⟨rfl, rfl⟩ ?_
  intro p e s m below meth c ls S hK hO hH0 hsz hn hR0 hr hlocks hnm hl
  have hx := S.1; have hb := S.2.1
  have hown := S.2.2.2.1; have hts := S.2.2.2.2
  have hA : ∀ q, s.heap.size ≤ q → th_cA a sz q := fun q h => Or.inr (by omega)
  have gr0 : th_grow [0, 2, 3, 4, 5, 7, 8, 46] T T sz [] := th_grow.rf (fun b hb => hH0.free (by omega))
  have hl : lv_has ls 2 [(0, .ref a)] := hl
  have hla0 : a < sz := by have := hR0.lt; have h2 : a < s.heap.size := this; omega
  suffices main : ∀ (H : Heap) (locs : List Loc), th_H D cT T (kd qz) H → va_at D classes (a, .inr (3, [.null, .int 0, .int 0, .int 0])) H → va_S (th_cA a sz) s.heap H locs → sz ≤ H.size → W p l e (rmc 2 83 1845 32) s m [.ref a].toArray below meth c H locs 0 0 (MQ below (th_QC D cT T (kd qz) [0, 2, 3, 4, 5, 7, 8, 46] a 5 sz [30, 10, 29]) [.ref a].toArray s 83 1845 (th_cA a sz)) (F0 m 0 ls []) from main s.heap [] hH0 hR0 va_S.rf (by omega)
  intro H locs hH hR hS hsz0
  refine lv_aload_n hx hb dX3_init_0 rfl (lv_at hl 0 rfl) ?_
  refine W.objInit hx hb hown (hts _ gm_381) (hts _ gm_140) (hts _ gm_141) rfl (hl.1.trans S.2.2.1.symm) rfl dX3_init_1 (Nat.le_of_ble_eq_true rfl) (Nat.le_of_ble_eq_true rfl) ?_
  refine W.eq (g2 := F0 m 4 ls []) rfl ?_
  refine lv_aload_n hx hb dX3_init_4 rfl (lv_at hl 0 rfl) ?_
  refine lv_bipush (v := 41) hx hb dX3_init_5 (by decide) ?_
  refine th_anew (N := 41) S hK hO hH hS gm_382 (by decide) (by decide) (by decide) (by decide) (by decide) dX3_init_7 (fun h1 H eh1 hH hnB hB hS zh1 kh1 => ?_)
  have neh1 : a ≠ h1 := by omega
  have hR : va_at D classes (a, .inr (3, [.null, .int 0, .int 0, .int 0])) H := hR.kept (kh1 a (by omega))
  have hsz0 : sz ≤ H.size := by omega
  refine th_putRF (ty := .array (.object "HungryMaps$State")) (v := .ref h1) S hK hH hS (Or.inl rfl) hn hR inG3 tyX3 tyX3_ok nmX3 rfl 0 (by decide) gm_385 rfl rfl hnm rfl (by decide +kernel) rfl rfl (Nat.le_of_ble_eq_true rfl) dX3_init_10 (fun H locs hR hH hS zp kp => ?_)
  have hR : va_at D classes (a, .inr (3, [.ref h1, .int 0, .int 0, .int 0])) H := hR
  have hB : H[h1]? = some (arrV (cT 4) 41 (fun _ => Value.null)) := (kp _ (Ne.symm neh1)).trans hB
  have hsz0 : sz ≤ H.size := by omega
  refine lv_aload_n hx hb dX3_init_13 rfl (lv_at hl 0 rfl) ?_
  refine lv_iconst (v := 0) hx hb dX3_init_14 (by decide) ?_
  refine th_putR (ty := .int) (v := .int 0) S hK hH hS (Or.inl rfl) hn hR inG3 tyX3 tyX3_ok nmX3 rfl 1 (by decide) gm_386 rfl rfl (by decide +kernel) rfl rfl (Nat.le_of_ble_eq_true rfl) dX3_init_15 (fun H locs hR hH hS zp kp => ?_)
  have hR : va_at D classes (a, .inr (3, [.ref h1, .int 0, .int 0, .int 0])) H := hR
  have hB : H[h1]? = some (arrV (cT 4) 41 (fun _ => Value.null)) := (kp _ (Ne.symm neh1)).trans hB
  have hsz0 : sz ≤ H.size := by omega
  refine lv_aload_n hx hb dX3_init_18 rfl (lv_at hl 0 rfl) ?_
  refine lv_iconst (v := 0) hx hb dX3_init_19 (by decide) ?_
  refine th_putR (ty := .int) (v := .int 0) S hK hH hS (Or.inl rfl) hn hR inG3 tyX3 tyX3_ok nmX3 rfl 2 (by decide) gm_387 rfl rfl (by decide +kernel) rfl rfl (Nat.le_of_ble_eq_true rfl) dX3_init_20 (fun H locs hR hH hS zp kp => ?_)
  have hR : va_at D classes (a, .inr (3, [.ref h1, .int 0, .int 0, .int 0])) H := hR
  have hB : H[h1]? = some (arrV (cT 4) 41 (fun _ => Value.null)) := (kp _ (Ne.symm neh1)).trans hB
  have hsz0 : sz ≤ H.size := by omega
  refine lv_aload_n hx hb dX3_init_23 rfl (lv_at hl 0 rfl) ?_
  refine lv_iconst (v := 0) hx hb dX3_init_24 (by decide) ?_
  refine th_putR (ty := .int) (v := .int 0) S hK hH hS (Or.inl rfl) hn hR inG3 tyX3 tyX3_ok nmX3 rfl 3 (by decide) gm_389 rfl rfl (by decide +kernel) rfl rfl (Nat.le_of_ble_eq_true rfl) dX3_init_25 (fun H locs hR hH hS zp kp => ?_)
  have hR : va_at D classes (a, .inr (3, [.ref h1, .int 0, .int 0, .int 0])) H := hR
  have hB : H[h1]? = some (arrV (cT 4) 41 (fun _ => Value.null)) := (kp _ (Ne.symm neh1)).trans hB
  have hsz0 : sz ≤ H.size := by omega
  refine lv_iconst (v := 0) hx hb dX3_init_28 (by decide) ?_
  refine lv_istore_n (lv' := [(1, .int (nI 0)), (0, .ref a)]) hx hb dX3_init_29 rfl hl (by decide) rfl (fun ls hl => ?_)
  have loop : ∀ (k i : Nat) (Tc : Nat → Option Nat) (H : Heap) (locs : List Loc) (ls : Array Slot) (gv : Nat → Value), i + k = 41 → th_grow [0, 2, 3, 4, 5, 7, 8, 46] T Tc sz [10, 29] → (∀ b j, T b = some j → Tc b = some j) → Tc a = none → Tc h1 = none → va_at D classes (a, .inr (3, [.ref h1, .int 0, .int 0, .int 0])) H → H[h1]? = some (arrV (cT 4) 41 gv) → (∀ j, j < i → th_V Tc (.inr 11) (gv j)) → th_H D cT Tc (kd qz) H → va_S (th_cA a sz) s.heap H locs → sz ≤ H.size → lv_has ls 2 [(1, .int (nI i)), (0, .ref a)] → W p l e (rmc 2 83 1845 32) s m [.ref a].toArray below meth c H locs (1 + 2 * i) (41 + 44 * i) (MQ below (th_QC D cT T (kd qz) [0, 2, 3, 4, 5, 7, 8, 46] a 5 sz [30, 10, 29]) [.ref a].toArray s 83 1845 (th_cA a sz)) (F0 m 30 ls []) := by
    intro k
    induction k with
    | zero =>
      intro i Tc H locs ls gv hi gr mo hn hnB hR hB hg hH hS hsz0 hl
      refine lv_iload_n hx hb dX3_init_30 rfl (lv_at hl 0 rfl) ?_
      refine lv_aload_n hx hb dX3_init_31 rfl (lv_at hl 1 rfl) ?_
      refine th_getR (v := .ref h1) S hK hR inG3 rfl 0 (by decide) gm_385 rfl rfl dX3_init_32 ?_
      refine th_alenR (N := 41) (v := 41) S hK hB rfl dX3_init_35 ?_
      refine lv_icmp_ge (tgt := 58) hx hb dX3_init_36 (by decide) (fun cc => ?_) (fun cc => ?_)
      · skip
        have hi2 : i = 41 := by omega
        subst hi2
        have hH := th_typeA (k := 30) hH hnB hB kd_30 (fun j hj => hg j hj)
        obtain ⟨Td, eTd⟩ : ∃ t, t = th_new Tc h1 30 := ⟨_, rfl⟩
        rw [← eTd] at hH
        have mod : ∀ b j, Tc b = some j → Td b = some j := by rw [eTd]; exact th_new_sub hnB
        have grd : th_grow [0, 2, 3, 4, 5, 7, 8, 46] T Td sz [30, 10, 29] := by rw [eTd]; exact gr.new (by omega) (by decide)
        have fraw : Td h1 = some 30 := by rw [eTd]; exact th_new_self
        have hn : Td a = none := by rw [eTd]; exact (th_new_ne neh1).trans hn
        have ho : th_Ol (th_new Td a 5) [.inr 31, .inl (0, 40), .inl (qz 1, qz 1), .inl (qz 2, qz 2)] [.ref h1, .int 0, .int 0, .int 0] := (th_Ol.cons (⟨h1, rfl, th_new_sub hn _ _ fraw⟩) (th_Ol.cons (⟨_, rfl, by decide, by decide⟩) (th_Ol.cons (⟨_, rfl, by decide, by decide⟩) (th_Ol.cons (⟨_, rfl, by decide, by decide⟩) th_Ol.nil))))
        have hH := th_type (k := 5) (ci := 3) hH hn hR kd_5 ⟨ho.1, ho.2, trivial⟩
        refine W.widen (k := 83) (n := 1845) (by decide) (by decide) ?_
        exact th_vretC S hK hH hS hr hlocks ((grd.sub (by decide)).fin) dX3_init_58
      · exact absurd (show (41 : Int32) ≤ nI i by rw [show i = 41 by omega]; decide) cc
    | succ k ih =>
      intro i Tc H locs ls gv hi gr mo hn hnB hR hB hg hH hS hsz0 hl
      refine lv_iload_n hx hb dX3_init_30 rfl (lv_at hl 0 rfl) ?_
      refine lv_aload_n hx hb dX3_init_31 rfl (lv_at hl 1 rfl) ?_
      refine th_getR (v := .ref h1) S hK hR inG3 rfl 0 (by decide) gm_385 rfl rfl dX3_init_32 ?_
      refine th_alenR (N := 41) (v := 41) S hK hB rfl dX3_init_35 ?_
      refine lv_icmp_ge (tgt := 58) hx hb dX3_init_36 (by decide) (fun cc => ?_) (fun cc => ?_)
      · exact absurd cc (by rw [show (41 : Int32) = nI 41 from by decide]; exact nI_ge (by omega) (by decide))
      · skip
        refine lv_aload_n hx hb dX3_init_39 rfl (lv_at hl 1 rfl) ?_
        refine th_getR (v := .ref h1) S hK hR inG3 rfl 0 (by decide) gm_385 rfl rfl dX3_init_40 ?_
        refine lv_iload_n hx hb dX3_init_43 rfl (lv_at hl 0 rfl) ?_
        refine th_newo (ci := 7) (fs := [.null]) S hK hH hS inG7 tyX7 tyX7_ok gm_382 gm_220 gm_118 rfl (fun j hj => by have : j < 1 := hj; rcases (show j = 0 by omega) with rfl <;> rfl) (by show 1 + 2 * i + 1 ≤ 83; omega) (by show 41 + 44 * i + 1 ≤ 1845; omega) dX3_init_44 (fun h2 H eh2 hH nh2 rh2 hS zh2 kh2 => ?_)
        have neh2 : a ≠ h2 := by omega
        have hR : va_at D classes (a, .inr (3, [.ref h1, .int 0, .int 0, .int 0])) H := hR.kept (kh2 a (by omega))
        have lraw : h1 < h2 := by have := (Array.getElem?_eq_some_iff.mp hB).1; omega
        have hB : H[h1]? = some (arrV (cT 4) 41 gv) := (kh2 _ lraw).trans hB
        have hsz0 : sz ≤ H.size := by omega
        refine lv_dup hx hb dX3_init_47 rfl ?_
        refine th_callCN (n := 0) (host := RX10) (As := []) S hK hO hH hS hA (Or.inr (by omega)) rfl nh2 rh2 (k_X7_init_k10 l D cT Tc h2 H.size) gm_223 (by decide +kernel) gm_222 gm_118 rfl (by decide +kernel) ⟨rfl, rfl, Nat.le_of_ble_eq_true rfl, Nat.le_of_ble_eq_true rfl⟩ rfl hl.1 rfl (Nat.le_of_ble_eq_true rfl) dX3_init_48 ⟨by show 1 + 2 * i + 1 + 1 ≤ 83; omega, by show 41 + 44 * i + 1 + 43 ≤ 1845; omega⟩ (fun T3 H locs x4 hH2 hS zx4 kx4 => ?_)
        have mo5 : ∀ b j, Tc b = some j → T3 b = some j := x4.mono hH (Nat.le_refl _) nh2
        have gr6 : th_grow [0, 2, 3, 4, 5, 7, 8, 46] T T3 sz [10, 29, 10, 29] := gr.ext x4 hsz0 (by omega) (by decide)
        have hR : va_at D classes (a, .inr (3, [.ref h1, .int 0, .int 0, .int 0])) H := hR.kept (kx4 a (by omega) neh2)
        have lraw2 : h1 ≠ h2 := by omega
        have lraw3 := (Array.getElem?_eq_some_iff.mp hB).1
        have hB : H[h1]? = some (arrV (cT 4) 41 gv) := (kx4 _ lraw3 lraw2).trans hB
        have hsz0 : sz ≤ H.size := by omega
        have hH := hH2; clear hH2
        have hn : T3 a = none := (x4.2.1 a (by omega) neh2).trans hn
        have hnB : T3 h1 = none := (x4.2.1 _ lraw3 lraw2).trans hnB
        refine th_aastR (k := 10) S hK hH hS (Or.inr (by omega)) hnB hB x4.1 kd_10 (nI_in (by omega) (by decide)) dX3_init_51 (fun H locs hB hH hS zp kp => ?_)
        have hR : va_at D classes (a, .inr (3, [.ref h1, .int 0, .int 0, .int 0])) H := hR.kept (kp a neh1)
        rw [nI_clamp (show i < 2 ^ 31 by omega)] at hB
        refine lv_iinc (v := nI (i + 1)) (lv' := [(1, .int (nI (i + 1))), (0, .ref a)]) hx hb dX3_init_52 hl (k := 0) rfl (nI_1 i) (by decide) rfl (fun ls hl => ?_)
        refine lv_goto (tgt := 30) hx hb dX3_init_55 (by decide) ?_
        refine W.widen (k := 1 + 2 * (i + 1)) (n := 41 + 44 * (i + 1)) (by omega) (by omega) ?_
        exact ih (i + 1) T3 H locs ls _ (by omega) (gr6.sub (by decide)) (fun b j hb => mo5 _ _ (mo _ _ hb)) hn hnB hR hB (fun j hj => by
          by_cases z : j = i
          · rw [z]; simp only [updV, if_true]; exact ⟨h2, rfl, x4.1⟩
          · simp only [updV, if_neg z]; exact (hg j (by omega)).mono mo5) hH hS (by omega) hl
  exact loop 41 0 T H locs ls _ (by omega) (gr0.sub (by decide)) (fun _ _ h => h) hn hnB hR hB (fun j hj => absurd hj (Nat.not_lt_zero _)) hH hS hsz0 hl

set_option maxHeartbeats 4000000 in
set_option maxRecDepth 100000 in
theorem k_X1_init_k6 (l : Launch) (D : va_G) (cT : Nat → ClassId) (T : Nat → Option Nat) (a sz : Nat) (b0 : Nat) (u0 : T b0 = some 4) : th_MetC l D cT T (kd qz) [0, 2, 3, 4, 5, 7, 8, 46] yX1_init cX1_init 3 (rmc 2 17 360 32) 1 [.null, .null, .int 0] [.ref b0] a sz 6 [31, 10, 29] 17 360 := by
  refine th_startC (by decide) (Nat.le_of_ble_eq_true rfl) ⟨rfl, rfl⟩ ?_
  intro p e s m below meth c ls S hK hO hH0 hsz hn hR0 hr hlocks hnm hl
  have hx := S.1; have hb := S.2.1
  have hown := S.2.2.2.1; have hts := S.2.2.2.2
  have hA : ∀ q, s.heap.size ≤ q → th_cA a sz q := fun q h => Or.inr (by omega)
  have gr0 : th_grow [0, 2, 3, 4, 5, 7, 8, 46] T T sz [] := th_grow.rf (fun b hb => hH0.free (by omega))
  have hl : lv_has ls 3 [(0, .ref a), (1, .ref b0)] := hl
  have hla0 : a < sz := by have := hR0.lt; have h2 : a < s.heap.size := this; omega
  suffices main : ∀ (H : Heap) (locs : List Loc), th_H D cT T (kd qz) H → va_at D classes (a, .inr (1, [.null, .null, .int 0])) H → va_S (th_cA a sz) s.heap H locs → sz ≤ H.size → W p l e (rmc 2 17 360 32) s m [.ref a, .ref b0].toArray below meth c H locs 0 0 (MQ below (th_QC D cT T (kd qz) [0, 2, 3, 4, 5, 7, 8, 46] a 6 sz [31, 10, 29]) [.ref a, .ref b0].toArray s 17 360 (th_cA a sz)) (F0 m 0 ls []) from main s.heap [] hH0 hR0 va_S.rf (by omega)
  intro H locs hH hR hS hsz0
  refine lv_aload_n hx hb dX1_init_0 rfl (lv_at hl 0 rfl) ?_
  refine W.objInit hx hb hown (hts _ gm_405) (hts _ gm_140) (hts _ gm_141) rfl (hl.1.trans S.2.2.1.symm) rfl dX1_init_1 (Nat.le_of_ble_eq_true rfl) (Nat.le_of_ble_eq_true rfl) ?_
  refine W.eq (g2 := F0 m 4 ls []) rfl ?_
  refine lv_aload_n hx hb dX1_init_4 rfl (lv_at hl 0 rfl) ?_
  refine lv_bipush (v := 8) hx hb dX1_init_5 (by decide) ?_
  refine th_anew (N := 8) S hK hO hH hS gm_406 (by decide) (by decide) (by decide) (by decide) (by decide) dX1_init_7 (fun h1 H eh1 hH hnB hB hS zh1 kh1 => ?_)
  have neh1 : a ≠ h1 := by omega
  have hR : va_at D classes (a, .inr (1, [.null, .null, .int 0])) H := hR.kept (kh1 a (by omega))
  have hsz0 : sz ≤ H.size := by omega
  refine th_putRF (ty := .array (.object "HungryMaps$State")) (v := .ref h1) S hK hH hS (Or.inl rfl) hn hR inG1 tyX1 tyX1_ok nmX1 rfl 1 (by decide) gm_409 rfl rfl hnm rfl (by decide +kernel) rfl rfl (Nat.le_of_ble_eq_true rfl) dX1_init_10 (fun H locs hR hH hS zp kp => ?_)
  have hR : va_at D classes (a, .inr (1, [.null, .ref h1, .int 0])) H := hR
  have hB : H[h1]? = some (arrV (cT 4) 8 (fun _ => Value.null)) := (kp _ (Ne.symm neh1)).trans hB
  have hsz0 : sz ≤ H.size := by omega
  refine lv_aload_n hx hb dX1_init_13 rfl (lv_at hl 0 rfl) ?_
  refine lv_iconst (v := (-1)) hx hb dX1_init_14 (by decide) ?_
  refine th_putR (ty := .int) (v := .int (-1)) S hK hH hS (Or.inl rfl) hn hR inG1 tyX1 tyX1_ok nmX1 rfl 2 (by decide) gm_410 rfl rfl (by decide +kernel) rfl rfl (Nat.le_of_ble_eq_true rfl) dX1_init_15 (fun H locs hR hH hS zp kp => ?_)
  have hR : va_at D classes (a, .inr (1, [.null, .ref h1, .int (-1)])) H := hR
  have hB : H[h1]? = some (arrV (cT 4) 8 (fun _ => Value.null)) := (kp _ (Ne.symm neh1)).trans hB
  have hsz0 : sz ≤ H.size := by omega
  refine lv_aload_n hx hb dX1_init_18 rfl (lv_at hl 0 rfl) ?_
  refine lv_aload_n hx hb dX1_init_19 rfl (lv_at hl 1 rfl) ?_
  refine th_putRF (ty := .object "HungryMaps$Engine") (v := .ref b0) S hK hH hS (Or.inl rfl) hn hR inG1 tyX1 tyX1_ok nmX1 rfl 0 (by decide) gm_408 rfl rfl hnm rfl (by decide +kernel) rfl rfl (Nat.le_of_ble_eq_true rfl) dX1_init_20 (fun H locs hR hH hS zp kp => ?_)
  have hR : va_at D classes (a, .inr (1, [.ref b0, .ref h1, .int (-1)])) H := hR
  have hB : H[h1]? = some (arrV (cT 4) 8 (fun _ => Value.null)) := (kp _ (Ne.symm neh1)).trans hB
  have hsz0 : sz ≤ H.size := by omega
  refine lv_iconst (v := 0) hx hb dX1_init_23 (by decide) ?_
  refine lv_istore_n (lv' := [(2, .int (nI 0)), (0, .ref a), (1, .ref b0)]) hx hb dX1_init_24 rfl hl (by decide) rfl (fun ls hl => ?_)
  have loop : ∀ (k i : Nat) (Tc : Nat → Option Nat) (H : Heap) (locs : List Loc) (ls : Array Slot) (gv : Nat → Value), i + k = 8 → th_grow [0, 2, 3, 4, 5, 7, 8, 46] T Tc sz [10, 29] → (∀ b j, T b = some j → Tc b = some j) → Tc a = none → Tc h1 = none → va_at D classes (a, .inr (1, [.ref b0, .ref h1, .int (-1)])) H → H[h1]? = some (arrV (cT 4) 8 gv) → (∀ j, j < i → th_V Tc (.inr 11) (gv j)) → th_H D cT Tc (kd qz) H → va_S (th_cA a sz) s.heap H locs → sz ≤ H.size → lv_has ls 3 [(2, .int (nI i)), (0, .ref a), (1, .ref b0)] → W p l e (rmc 2 17 360 32) s m [.ref a, .ref b0].toArray below meth c H locs (1 + 2 * i) (8 + 44 * i) (MQ below (th_QC D cT T (kd qz) [0, 2, 3, 4, 5, 7, 8, 46] a 6 sz [31, 10, 29]) [.ref a, .ref b0].toArray s 17 360 (th_cA a sz)) (F0 m 25 ls []) := by
    intro k
    induction k with
    | zero =>
      intro i Tc H locs ls gv hi gr mo hn hnB hR hB hg hH hS hsz0 hl
      refine lv_iload_n hx hb dX1_init_25 rfl (lv_at hl 0 rfl) ?_
      refine lv_aload_n hx hb dX1_init_26 rfl (lv_at hl 1 rfl) ?_
      refine th_getR (v := .ref h1) S hK hR inG1 rfl 1 (by decide) gm_409 rfl rfl dX1_init_27 ?_
      refine th_alenR (N := 8) (v := 8) S hK hB rfl dX1_init_30 ?_
      refine lv_icmp_ge (tgt := 53) hx hb dX1_init_31 (by decide) (fun cc => ?_) (fun cc => ?_)
      · skip
        have hi2 : i = 8 := by omega
        subst hi2
        have hH := th_typeA (k := 31) hH hnB hB kd_31 (fun j hj => hg j hj)
        obtain ⟨Td, eTd⟩ : ∃ t, t = th_new Tc h1 31 := ⟨_, rfl⟩
        rw [← eTd] at hH
        have mod : ∀ b j, Tc b = some j → Td b = some j := by rw [eTd]; exact th_new_sub hnB
        have grd : th_grow [0, 2, 3, 4, 5, 7, 8, 46] T Td sz [31, 10, 29] := by rw [eTd]; exact gr.new (by omega) (by decide)
        have fraw : Td h1 = some 31 := by rw [eTd]; exact th_new_self
        have hn : Td a = none := by rw [eTd]; exact (th_new_ne neh1).trans hn
        have ho : th_Ol (th_new Td a 6) [.inr 5, .inr 32, .inl (-2147483648, 2147483647)] [.ref b0, .ref h1, .int (-1)] := (th_Ol.cons (⟨b0, rfl, th_new_sub hn _ _ (mod _ _ (mo _ _ u0))⟩) (th_Ol.cons (⟨h1, rfl, th_new_sub hn _ _ fraw⟩) (th_Ol.cons (⟨_, rfl, by decide, by decide⟩) th_Ol.nil)))
        have hH := th_type (k := 6) (ci := 1) hH hn hR kd_6 ⟨ho.1, ho.2, trivial⟩
        refine W.widen (k := 17) (n := 360) (by decide) (by decide) ?_
        exact th_vretC S hK hH hS hr hlocks ((grd.sub (by decide)).fin) dX1_init_53
      · exact absurd (show (8 : Int32) ≤ nI i by rw [show i = 8 by omega]; decide) cc
    | succ k ih =>
      intro i Tc H locs ls gv hi gr mo hn hnB hR hB hg hH hS hsz0 hl
      refine lv_iload_n hx hb dX1_init_25 rfl (lv_at hl 0 rfl) ?_
      refine lv_aload_n hx hb dX1_init_26 rfl (lv_at hl 1 rfl) ?_
      refine th_getR (v := .ref h1) S hK hR inG1 rfl 1 (by decide) gm_409 rfl rfl dX1_init_27 ?_
      refine th_alenR (N := 8) (v := 8) S hK hB rfl dX1_init_30 ?_
      refine lv_icmp_ge (tgt := 53) hx hb dX1_init_31 (by decide) (fun cc => ?_) (fun cc => ?_)
      · exact absurd cc (by rw [show (8 : Int32) = nI 8 from by decide]; exact nI_ge (by omega) (by decide))
      · skip
        refine lv_aload_n hx hb dX1_init_34 rfl (lv_at hl 1 rfl) ?_
        refine th_getR (v := .ref h1) S hK hR inG1 rfl 1 (by decide) gm_409 rfl rfl dX1_init_35 ?_
        refine lv_iload_n hx hb dX1_init_38 rfl (lv_at hl 0 rfl) ?_
        refine th_newo (ci := 7) (fs := [.null]) S hK hH hS inG7 tyX7 tyX7_ok gm_406 gm_220 gm_118 rfl (fun j hj => by have : j < 1 := hj; rcases (show j = 0 by omega) with rfl <;> rfl) (by show 1 + 2 * i + 1 ≤ 17; omega) (by show 8 + 44 * i + 1 ≤ 360; omega) dX1_init_39 (fun h2 H eh2 hH nh2 rh2 hS zh2 kh2 => ?_)
        have neh2 : a ≠ h2 := by omega
        have hR : va_at D classes (a, .inr (1, [.ref b0, .ref h1, .int (-1)])) H := hR.kept (kh2 a (by omega))
        have lraw : h1 < h2 := by have := (Array.getElem?_eq_some_iff.mp hB).1; omega
        have hB : H[h1]? = some (arrV (cT 4) 8 gv) := (kh2 _ lraw).trans hB
        have hsz0 : sz ≤ H.size := by omega
        refine lv_dup hx hb dX1_init_42 rfl ?_
        refine th_callCN (n := 0) (host := RX10) (As := []) S hK hO hH hS hA (Or.inr (by omega)) rfl nh2 rh2 (k_X7_init_k10 l D cT Tc h2 H.size) gm_223 (by decide +kernel) gm_222 gm_118 rfl (by decide +kernel) ⟨rfl, rfl, Nat.le_of_ble_eq_true rfl, Nat.le_of_ble_eq_true rfl⟩ rfl hl.1 rfl (Nat.le_of_ble_eq_true rfl) dX1_init_43 ⟨by show 1 + 2 * i + 1 + 1 ≤ 17; omega, by show 8 + 44 * i + 1 + 43 ≤ 360; omega⟩ (fun T3 H locs x4 hH2 hS zx4 kx4 => ?_)
        have mo5 : ∀ b j, Tc b = some j → T3 b = some j := x4.mono hH (Nat.le_refl _) nh2
        have gr6 : th_grow [0, 2, 3, 4, 5, 7, 8, 46] T T3 sz [10, 29, 10, 29] := gr.ext x4 hsz0 (by omega) (by decide)
        have hR : va_at D classes (a, .inr (1, [.ref b0, .ref h1, .int (-1)])) H := hR.kept (kx4 a (by omega) neh2)
        have lraw2 : h1 ≠ h2 := by omega
        have lraw3 := (Array.getElem?_eq_some_iff.mp hB).1
        have hB : H[h1]? = some (arrV (cT 4) 8 gv) := (kx4 _ lraw3 lraw2).trans hB
        have hsz0 : sz ≤ H.size := by omega
        have hH := hH2; clear hH2
        have hn : T3 a = none := (x4.2.1 a (by omega) neh2).trans hn
        have hnB : T3 h1 = none := (x4.2.1 _ lraw3 lraw2).trans hnB
        refine th_aastR (k := 10) S hK hH hS (Or.inr (by omega)) hnB hB x4.1 kd_10 (nI_in (by omega) (by decide)) dX1_init_46 (fun H locs hB hH hS zp kp => ?_)
        have hR : va_at D classes (a, .inr (1, [.ref b0, .ref h1, .int (-1)])) H := hR.kept (kp a neh1)
        rw [nI_clamp (show i < 2 ^ 31 by omega)] at hB
        refine lv_iinc (v := nI (i + 1)) (lv' := [(2, .int (nI (i + 1))), (0, .ref a), (1, .ref b0)]) hx hb dX1_init_47 hl (k := 0) rfl (nI_1 i) (by decide) rfl (fun ls hl => ?_)
        refine lv_goto (tgt := 25) hx hb dX1_init_50 (by decide) ?_
        refine W.widen (k := 1 + 2 * (i + 1)) (n := 8 + 44 * (i + 1)) (by omega) (by omega) ?_
        exact ih (i + 1) T3 H locs ls _ (by omega) (gr6.sub (by decide)) (fun b j hb => mo5 _ _ (mo _ _ hb)) hn hnB hR hB (fun j hj => by
          by_cases z : j = i
          · rw [z]; simp only [updV, if_true]; exact ⟨h2, rfl, x4.1⟩
          · simp only [updV, if_neg z]; exact (hg j (by omega)).mono mo5) hH hS (by omega) hl
  exact loop 8 0 T H locs ls _ (by omega) (gr0.sub (by decide)) (fun _ _ h => h) hn hnB hR hB (fun j hj => absurd hj (Nat.not_lt_zero _)) hH hS hsz0 hl

set_option maxHeartbeats 4000000 in
set_option maxRecDepth 100000 in
theorem k_X5_init_k7 (l : Launch) (D : va_G) (cT : Nat → ClassId) (T : Nat → Option Nat) (a sz : Nat) (b0 : Nat) (u0 : T b0 = some 4) : th_MetC l D cT T (kd qz) [0, 2, 3, 4, 5, 7, 8, 46] yX5_init cX5_init 3 (rmc 2 17 249 32) 5 [.null, .null, .int 0, .null, .null, .null, .null, .null, .null, .int 0, .int 0, .int 0, .int 0] [.ref b0] a sz 7 [32, 10, 29, 38, 38, 37, 36, 35, 34] 17 249 := by
  refine th_startC (by decide) (Nat.le_of_ble_eq_true rfl) ⟨rfl, rfl⟩ ?_
  intro p e s m below meth c ls S hK hO hH0 hsz hn hR0 hr hlocks hnm hl
  have hx := S.1; have hb := S.2.1
  have hown := S.2.2.2.1; have hts := S.2.2.2.2
  have hA : ∀ q, s.heap.size ≤ q → th_cA a sz q := fun q h => Or.inr (by omega)
  have gr0 : th_grow [0, 2, 3, 4, 5, 7, 8, 46] T T sz [] := th_grow.rf (fun b hb => hH0.free (by omega))
  have hl : lv_has ls 3 [(0, .ref a), (1, .ref b0)] := hl
  have hla0 : a < sz := by have := hR0.lt; have h2 : a < s.heap.size := this; omega
  suffices main : ∀ (H : Heap) (locs : List Loc), th_H D cT T (kd qz) H → va_at D classes (a, .inr (5, [.null, .null, .int 0, .null, .null, .null, .null, .null, .null, .int 0, .int 0, .int 0, .int 0])) H → va_S (th_cA a sz) s.heap H locs → sz ≤ H.size → W p l e (rmc 2 17 249 32) s m [.ref a, .ref b0].toArray below meth c H locs 0 0 (MQ below (th_QC D cT T (kd qz) [0, 2, 3, 4, 5, 7, 8, 46] a 7 sz [32, 10, 29, 38, 38, 37, 36, 35, 34]) [.ref a, .ref b0].toArray s 17 249 (th_cA a sz)) (F0 m 0 ls []) from main s.heap [] hH0 hR0 va_S.rf (by omega)
  intro H locs hH hR hS hsz0
  refine lv_aload_n hx hb dX5_init_0 rfl (lv_at hl 0 rfl) ?_
  refine W.objInit hx hb hown (hts _ gm_424) (hts _ gm_140) (hts _ gm_141) rfl (hl.1.trans S.2.2.1.symm) rfl dX5_init_1 (Nat.le_of_ble_eq_true rfl) (Nat.le_of_ble_eq_true rfl) ?_
  refine W.eq (g2 := F0 m 4 ls []) rfl ?_
  refine lv_aload_n hx hb dX5_init_4 rfl (lv_at hl 0 rfl) ?_
  refine lv_iconst (v := 4) hx hb dX5_init_5 (by decide) ?_
  refine th_newa (atype := .int) (t := 0) (N := 4) S hK hH hS 34 gm_174 rfl kd_34 (fun T2 j hj => ⟨0, rfl, by decide, by decide⟩) (by decide) (by decide) (by decide) (by decide) (by decide) dX5_init_6 (fun h1 H eh1 hH nh1 hS zh1 kh1 => ?_)
  have neh1 : a ≠ h1 := by omega
  have hR : va_at D classes (a, .inr (5, [.null, .null, .int 0, .null, .null, .null, .null, .null, .null, .int 0, .int 0, .int 0, .int 0])) H := hR.kept (kh1 a (by omega))
  have hsz0 : sz ≤ H.size := by omega
  obtain ⟨T2, eT2⟩ : ∃ t, t = th_new T h1 34 := ⟨_, rfl⟩
  rw [← eT2] at hH
  have mo3 : ∀ b j, T b = some j → T2 b = some j := by rw [eT2]; exact th_new_sub nh1
  have gr4 : th_grow [0, 2, 3, 4, 5, 7, 8, 46] T T2 sz [34] := by rw [eT2]; exact gr0.new (by omega) (by decide)
  have fh1 : T2 h1 = some 34 := by rw [eT2]; exact th_new_self
  have hn : T2 a = none := by rw [eT2]; exact (th_new_ne neh1).trans hn
  refine th_putRF (ty := .array .int) (v := .ref h1) S hK hH hS (Or.inl rfl) hn hR inG5 tyX5 tyX5_ok nmX5 rfl 1 (by decide) gm_428 rfl rfl hnm rfl (by decide +kernel) rfl rfl (Nat.le_of_ble_eq_true rfl) dX5_init_8 (fun H locs hR hH hS zp kp => ?_)
  have hR : va_at D classes (a, .inr (5, [.null, .ref h1, .int 0, .null, .null, .null, .null, .null, .null, .int 0, .int 0, .int 0, .int 0])) H := hR
  have hsz0 : sz ≤ H.size := by omega
  refine lv_aload_n hx hb dX5_init_11 rfl (lv_at hl 0 rfl) ?_
  refine lv_iconst (v := 0) hx hb dX5_init_12 (by decide) ?_
  refine th_putR (ty := .int) (v := .int 0) S hK hH hS (Or.inl rfl) hn hR inG5 tyX5 tyX5_ok nmX5 rfl 2 (by decide) gm_430 rfl rfl (by decide +kernel) rfl rfl (Nat.le_of_ble_eq_true rfl) dX5_init_13 (fun H locs hR hH hS zp kp => ?_)
  have hR : va_at D classes (a, .inr (5, [.null, .ref h1, .int 0, .null, .null, .null, .null, .null, .null, .int 0, .int 0, .int 0, .int 0])) H := hR
  have hsz0 : sz ≤ H.size := by omega
  refine lv_aload_n hx hb dX5_init_16 rfl (lv_at hl 0 rfl) ?_
  refine lv_iconst (v := 5) hx hb dX5_init_17 (by decide) ?_
  refine th_anew (N := 5) S hK hO hH hS gm_425 (by decide) (by decide) (by decide) (by decide) (by decide) dX5_init_18 (fun h5 H eh5 hH hnB hB hS zh5 kh5 => ?_)
  have neh5 : a ≠ h5 := by omega
  have hR : va_at D classes (a, .inr (5, [.null, .ref h1, .int 0, .null, .null, .null, .null, .null, .null, .int 0, .int 0, .int 0, .int 0])) H := hR.kept (kh5 a (by omega))
  have hsz0 : sz ≤ H.size := by omega
  refine th_putRF (ty := .array (.object "HungryMaps$State")) (v := .ref h5) S hK hH hS (Or.inl rfl) hn hR inG5 tyX5 tyX5_ok nmX5 rfl 3 (by decide) gm_432 rfl rfl hnm rfl (by decide +kernel) rfl rfl (Nat.le_of_ble_eq_true rfl) dX5_init_21 (fun H locs hR hH hS zp kp => ?_)
  have hR : va_at D classes (a, .inr (5, [.null, .ref h1, .int 0, .ref h5, .null, .null, .null, .null, .null, .int 0, .int 0, .int 0, .int 0])) H := hR
  have hB : H[h5]? = some (arrV (cT 4) 5 (fun _ => Value.null)) := (kp _ (Ne.symm neh5)).trans hB
  have hsz0 : sz ≤ H.size := by omega
  refine lv_aload_n hx hb dX5_init_24 rfl (lv_at hl 0 rfl) ?_
  refine lv_iconst (v := 4) hx hb dX5_init_25 (by decide) ?_
  refine th_newa (atype := .int) (t := 0) (N := 4) S hK hH hS 35 gm_174 rfl kd_35 (fun T2 j hj => ⟨0, rfl, by decide, by decide⟩) (by decide) (by decide) (by decide) (by decide) (by decide) dX5_init_26 (fun h6 H eh6 hH nh6 hS zh6 kh6 => ?_)
  have neh6 : a ≠ h6 := by omega
  have hR : va_at D classes (a, .inr (5, [.null, .ref h1, .int 0, .ref h5, .null, .null, .null, .null, .null, .int 0, .int 0, .int 0, .int 0])) H := hR.kept (kh6 a (by omega))
  have lraw : h5 < h6 := by have := (Array.getElem?_eq_some_iff.mp hB).1; omega
  have hB : H[h5]? = some (arrV (cT 4) 5 (fun _ => Value.null)) := (kh6 _ lraw).trans hB
  have hsz0 : sz ≤ H.size := by omega
  obtain ⟨T7, eT7⟩ : ∃ t, t = th_new T2 h6 35 := ⟨_, rfl⟩
  rw [← eT7] at hH
  have mo8 : ∀ b j, T2 b = some j → T7 b = some j := by rw [eT7]; exact th_new_sub nh6
  have gr9 : th_grow [0, 2, 3, 4, 5, 7, 8, 46] T T7 sz [35, 34] := by rw [eT7]; exact gr4.new (by omega) (by decide)
  have fh6 : T7 h6 = some 35 := by rw [eT7]; exact th_new_self
  have hn : T7 a = none := by rw [eT7]; exact (th_new_ne neh6).trans hn
  have hnB : T7 h5 = none := by rw [eT7]; exact (th_new_ne (by omega)).trans hnB
  refine th_putRF (ty := .array .int) (v := .ref h6) S hK hH hS (Or.inl rfl) hn hR inG5 tyX5 tyX5_ok nmX5 rfl 4 (by decide) gm_433 rfl rfl hnm rfl (by decide +kernel) rfl rfl (Nat.le_of_ble_eq_true rfl) dX5_init_28 (fun H locs hR hH hS zp kp => ?_)
  have hR : va_at D classes (a, .inr (5, [.null, .ref h1, .int 0, .ref h5, .ref h6, .null, .null, .null, .null, .int 0, .int 0, .int 0, .int 0])) H := hR
  have hB : H[h5]? = some (arrV (cT 4) 5 (fun _ => Value.null)) := (kp _ (Ne.symm neh5)).trans hB
  have hsz0 : sz ≤ H.size := by omega
  refine lv_aload_n hx hb dX5_init_31 rfl (lv_at hl 0 rfl) ?_
  refine lv_iconst (v := 4) hx hb dX5_init_32 (by decide) ?_
  refine th_newa (atype := .int) (t := 0) (N := 4) S hK hH hS 36 gm_174 rfl kd_36 (fun T2 j hj => ⟨0, rfl, by decide, by decide⟩) (by decide) (by decide) (by decide) (by decide) (by decide) dX5_init_33 (fun h10 H eh10 hH nh10 hS zh10 kh10 => ?_)
  have neh10 : a ≠ h10 := by omega
  have hR : va_at D classes (a, .inr (5, [.null, .ref h1, .int 0, .ref h5, .ref h6, .null, .null, .null, .null, .int 0, .int 0, .int 0, .int 0])) H := hR.kept (kh10 a (by omega))
  have lraw : h5 < h10 := by have := (Array.getElem?_eq_some_iff.mp hB).1; omega
  have hB : H[h5]? = some (arrV (cT 4) 5 (fun _ => Value.null)) := (kh10 _ lraw).trans hB
  have hsz0 : sz ≤ H.size := by omega
  obtain ⟨T11, eT11⟩ : ∃ t, t = th_new T7 h10 36 := ⟨_, rfl⟩
  rw [← eT11] at hH
  have mo12 : ∀ b j, T7 b = some j → T11 b = some j := by rw [eT11]; exact th_new_sub nh10
  have gr13 : th_grow [0, 2, 3, 4, 5, 7, 8, 46] T T11 sz [36, 35, 34] := by rw [eT11]; exact gr9.new (by omega) (by decide)
  have fh10 : T11 h10 = some 36 := by rw [eT11]; exact th_new_self
  have hn : T11 a = none := by rw [eT11]; exact (th_new_ne neh10).trans hn
  have hnB : T11 h5 = none := by rw [eT11]; exact (th_new_ne (by omega)).trans hnB
  refine th_putRF (ty := .array .int) (v := .ref h10) S hK hH hS (Or.inl rfl) hn hR inG5 tyX5 tyX5_ok nmX5 rfl 5 (by decide) gm_434 rfl rfl hnm rfl (by decide +kernel) rfl rfl (Nat.le_of_ble_eq_true rfl) dX5_init_35 (fun H locs hR hH hS zp kp => ?_)
  have hR : va_at D classes (a, .inr (5, [.null, .ref h1, .int 0, .ref h5, .ref h6, .ref h10, .null, .null, .null, .int 0, .int 0, .int 0, .int 0])) H := hR
  have hB : H[h5]? = some (arrV (cT 4) 5 (fun _ => Value.null)) := (kp _ (Ne.symm neh5)).trans hB
  have hsz0 : sz ≤ H.size := by omega
  refine lv_aload_n hx hb dX5_init_38 rfl (lv_at hl 0 rfl) ?_
  refine lv_iconst (v := 4) hx hb dX5_init_39 (by decide) ?_
  refine th_newa (atype := .int) (t := 0) (N := 4) S hK hH hS 37 gm_174 rfl kd_37 (fun T2 j hj => ⟨0, rfl, by decide, by decide⟩) (by decide) (by decide) (by decide) (by decide) (by decide) dX5_init_40 (fun h14 H eh14 hH nh14 hS zh14 kh14 => ?_)
  have neh14 : a ≠ h14 := by omega
  have hR : va_at D classes (a, .inr (5, [.null, .ref h1, .int 0, .ref h5, .ref h6, .ref h10, .null, .null, .null, .int 0, .int 0, .int 0, .int 0])) H := hR.kept (kh14 a (by omega))
  have lraw : h5 < h14 := by have := (Array.getElem?_eq_some_iff.mp hB).1; omega
  have hB : H[h5]? = some (arrV (cT 4) 5 (fun _ => Value.null)) := (kh14 _ lraw).trans hB
  have hsz0 : sz ≤ H.size := by omega
  obtain ⟨T15, eT15⟩ : ∃ t, t = th_new T11 h14 37 := ⟨_, rfl⟩
  rw [← eT15] at hH
  have mo16 : ∀ b j, T11 b = some j → T15 b = some j := by rw [eT15]; exact th_new_sub nh14
  have gr17 : th_grow [0, 2, 3, 4, 5, 7, 8, 46] T T15 sz [37, 36, 35, 34] := by rw [eT15]; exact gr13.new (by omega) (by decide)
  have fh14 : T15 h14 = some 37 := by rw [eT15]; exact th_new_self
  have hn : T15 a = none := by rw [eT15]; exact (th_new_ne neh14).trans hn
  have hnB : T15 h5 = none := by rw [eT15]; exact (th_new_ne (by omega)).trans hnB
  refine th_putRF (ty := .array .int) (v := .ref h14) S hK hH hS (Or.inl rfl) hn hR inG5 tyX5 tyX5_ok nmX5 rfl 6 (by decide) gm_435 rfl rfl hnm rfl (by decide +kernel) rfl rfl (Nat.le_of_ble_eq_true rfl) dX5_init_42 (fun H locs hR hH hS zp kp => ?_)
  have hR : va_at D classes (a, .inr (5, [.null, .ref h1, .int 0, .ref h5, .ref h6, .ref h10, .ref h14, .null, .null, .int 0, .int 0, .int 0, .int 0])) H := hR
  have hB : H[h5]? = some (arrV (cT 4) 5 (fun _ => Value.null)) := (kp _ (Ne.symm neh5)).trans hB
  have hsz0 : sz ≤ H.size := by omega
  refine lv_aload_n hx hb dX5_init_45 rfl (lv_at hl 0 rfl) ?_
  refine lv_iconst (v := 4) hx hb dX5_init_46 (by decide) ?_
  refine th_newa (atype := .int) (t := 0) (N := 4) S hK hH hS 38 gm_174 rfl kd_38 (fun T2 j hj => ⟨0, rfl, by decide, by decide⟩) (by decide) (by decide) (by decide) (by decide) (by decide) dX5_init_47 (fun h18 H eh18 hH nh18 hS zh18 kh18 => ?_)
  have neh18 : a ≠ h18 := by omega
  have hR : va_at D classes (a, .inr (5, [.null, .ref h1, .int 0, .ref h5, .ref h6, .ref h10, .ref h14, .null, .null, .int 0, .int 0, .int 0, .int 0])) H := hR.kept (kh18 a (by omega))
  have lraw : h5 < h18 := by have := (Array.getElem?_eq_some_iff.mp hB).1; omega
  have hB : H[h5]? = some (arrV (cT 4) 5 (fun _ => Value.null)) := (kh18 _ lraw).trans hB
  have hsz0 : sz ≤ H.size := by omega
  obtain ⟨T19, eT19⟩ : ∃ t, t = th_new T15 h18 38 := ⟨_, rfl⟩
  rw [← eT19] at hH
  have mo20 : ∀ b j, T15 b = some j → T19 b = some j := by rw [eT19]; exact th_new_sub nh18
  have gr21 : th_grow [0, 2, 3, 4, 5, 7, 8, 46] T T19 sz [38, 37, 36, 35, 34] := by rw [eT19]; exact gr17.new (by omega) (by decide)
  have fh18 : T19 h18 = some 38 := by rw [eT19]; exact th_new_self
  have hn : T19 a = none := by rw [eT19]; exact (th_new_ne neh18).trans hn
  have hnB : T19 h5 = none := by rw [eT19]; exact (th_new_ne (by omega)).trans hnB
  refine th_putRF (ty := .array .int) (v := .ref h18) S hK hH hS (Or.inl rfl) hn hR inG5 tyX5 tyX5_ok nmX5 rfl 7 (by decide) gm_436 rfl rfl hnm rfl (by decide +kernel) rfl rfl (Nat.le_of_ble_eq_true rfl) dX5_init_49 (fun H locs hR hH hS zp kp => ?_)
  have hR : va_at D classes (a, .inr (5, [.null, .ref h1, .int 0, .ref h5, .ref h6, .ref h10, .ref h14, .ref h18, .null, .int 0, .int 0, .int 0, .int 0])) H := hR
  have hB : H[h5]? = some (arrV (cT 4) 5 (fun _ => Value.null)) := (kp _ (Ne.symm neh5)).trans hB
  have hsz0 : sz ≤ H.size := by omega
  refine lv_aload_n hx hb dX5_init_52 rfl (lv_at hl 0 rfl) ?_
  refine lv_iconst (v := 4) hx hb dX5_init_53 (by decide) ?_
  refine th_newa (atype := .int) (t := 0) (N := 4) S hK hH hS 38 gm_174 rfl kd_38 (fun T2 j hj => ⟨0, rfl, by decide, by decide⟩) (by decide) (by decide) (by decide) (by decide) (by decide) dX5_init_54 (fun h22 H eh22 hH nh22 hS zh22 kh22 => ?_)
  have neh22 : a ≠ h22 := by omega
  have hR : va_at D classes (a, .inr (5, [.null, .ref h1, .int 0, .ref h5, .ref h6, .ref h10, .ref h14, .ref h18, .null, .int 0, .int 0, .int 0, .int 0])) H := hR.kept (kh22 a (by omega))
  have lraw : h5 < h22 := by have := (Array.getElem?_eq_some_iff.mp hB).1; omega
  have hB : H[h5]? = some (arrV (cT 4) 5 (fun _ => Value.null)) := (kh22 _ lraw).trans hB
  have hsz0 : sz ≤ H.size := by omega
  obtain ⟨T23, eT23⟩ : ∃ t, t = th_new T19 h22 38 := ⟨_, rfl⟩
  rw [← eT23] at hH
  have mo24 : ∀ b j, T19 b = some j → T23 b = some j := by rw [eT23]; exact th_new_sub nh22
  have gr25 : th_grow [0, 2, 3, 4, 5, 7, 8, 46] T T23 sz [38, 38, 37, 36, 35, 34] := by rw [eT23]; exact gr21.new (by omega) (by decide)
  have fh22 : T23 h22 = some 38 := by rw [eT23]; exact th_new_self
  have hn : T23 a = none := by rw [eT23]; exact (th_new_ne neh22).trans hn
  have hnB : T23 h5 = none := by rw [eT23]; exact (th_new_ne (by omega)).trans hnB
  refine th_putRF (ty := .array .int) (v := .ref h22) S hK hH hS (Or.inl rfl) hn hR inG5 tyX5 tyX5_ok nmX5 rfl 8 (by decide) gm_437 rfl rfl hnm rfl (by decide +kernel) rfl rfl (Nat.le_of_ble_eq_true rfl) dX5_init_56 (fun H locs hR hH hS zp kp => ?_)
  have hR : va_at D classes (a, .inr (5, [.null, .ref h1, .int 0, .ref h5, .ref h6, .ref h10, .ref h14, .ref h18, .ref h22, .int 0, .int 0, .int 0, .int 0])) H := hR
  have hB : H[h5]? = some (arrV (cT 4) 5 (fun _ => Value.null)) := (kp _ (Ne.symm neh5)).trans hB
  have hsz0 : sz ≤ H.size := by omega
  refine lv_aload_n hx hb dX5_init_59 rfl (lv_at hl 0 rfl) ?_
  refine lv_iconst (v := 0) hx hb dX5_init_60 (by decide) ?_
  refine th_putR (ty := .int) (v := .int 0) S hK hH hS (Or.inl rfl) hn hR inG5 tyX5 tyX5_ok nmX5 rfl 9 (by decide) gm_438 rfl rfl (by decide +kernel) rfl rfl (Nat.le_of_ble_eq_true rfl) dX5_init_61 (fun H locs hR hH hS zp kp => ?_)
  have hR : va_at D classes (a, .inr (5, [.null, .ref h1, .int 0, .ref h5, .ref h6, .ref h10, .ref h14, .ref h18, .ref h22, .int 0, .int 0, .int 0, .int 0])) H := hR
  have hB : H[h5]? = some (arrV (cT 4) 5 (fun _ => Value.null)) := (kp _ (Ne.symm neh5)).trans hB
  have hsz0 : sz ≤ H.size := by omega
  refine lv_aload_n hx hb dX5_init_64 rfl (lv_at hl 0 rfl) ?_
  refine lv_iconst (v := 0) hx hb dX5_init_65 (by decide) ?_
  refine th_putR (ty := .int) (v := .int 0) S hK hH hS (Or.inl rfl) hn hR inG5 tyX5 tyX5_ok nmX5 rfl 10 (by decide) gm_439 rfl rfl (by decide +kernel) rfl rfl (Nat.le_of_ble_eq_true rfl) dX5_init_66 (fun H locs hR hH hS zp kp => ?_)
  have hR : va_at D classes (a, .inr (5, [.null, .ref h1, .int 0, .ref h5, .ref h6, .ref h10, .ref h14, .ref h18, .ref h22, .int 0, .int 0, .int 0, .int 0])) H := hR
  have hB : H[h5]? = some (arrV (cT 4) 5 (fun _ => Value.null)) := (kp _ (Ne.symm neh5)).trans hB
  have hsz0 : sz ≤ H.size := by omega
  refine lv_aload_n hx hb dX5_init_69 rfl (lv_at hl 0 rfl) ?_
  refine lv_iconst (v := 0) hx hb dX5_init_70 (by decide) ?_
  refine th_putR (ty := .int) (v := .int 0) S hK hH hS (Or.inl rfl) hn hR inG5 tyX5 tyX5_ok nmX5 rfl 11 (by decide) gm_440 rfl rfl (by decide +kernel) rfl rfl (Nat.le_of_ble_eq_true rfl) dX5_init_71 (fun H locs hR hH hS zp kp => ?_)
  have hR : va_at D classes (a, .inr (5, [.null, .ref h1, .int 0, .ref h5, .ref h6, .ref h10, .ref h14, .ref h18, .ref h22, .int 0, .int 0, .int 0, .int 0])) H := hR
  have hB : H[h5]? = some (arrV (cT 4) 5 (fun _ => Value.null)) := (kp _ (Ne.symm neh5)).trans hB
  have hsz0 : sz ≤ H.size := by omega
  refine lv_aload_n hx hb dX5_init_74 rfl (lv_at hl 0 rfl) ?_
  refine lv_iconst (v := (-1)) hx hb dX5_init_75 (by decide) ?_
  refine th_putR (ty := .int) (v := .int (-1)) S hK hH hS (Or.inl rfl) hn hR inG5 tyX5 tyX5_ok nmX5 rfl 12 (by decide) gm_441 rfl rfl (by decide +kernel) rfl rfl (Nat.le_of_ble_eq_true rfl) dX5_init_76 (fun H locs hR hH hS zp kp => ?_)
  have hR : va_at D classes (a, .inr (5, [.null, .ref h1, .int 0, .ref h5, .ref h6, .ref h10, .ref h14, .ref h18, .ref h22, .int 0, .int 0, .int 0, .int (-1)])) H := hR
  have hB : H[h5]? = some (arrV (cT 4) 5 (fun _ => Value.null)) := (kp _ (Ne.symm neh5)).trans hB
  have hsz0 : sz ≤ H.size := by omega
  refine lv_aload_n hx hb dX5_init_79 rfl (lv_at hl 0 rfl) ?_
  refine lv_aload_n hx hb dX5_init_80 rfl (lv_at hl 1 rfl) ?_
  refine th_putRF (ty := .object "HungryMaps$Engine") (v := .ref b0) S hK hH hS (Or.inl rfl) hn hR inG5 tyX5 tyX5_ok nmX5 rfl 0 (by decide) gm_427 rfl rfl hnm rfl (by decide +kernel) rfl rfl (Nat.le_of_ble_eq_true rfl) dX5_init_81 (fun H locs hR hH hS zp kp => ?_)
  have hR : va_at D classes (a, .inr (5, [.ref b0, .ref h1, .int 0, .ref h5, .ref h6, .ref h10, .ref h14, .ref h18, .ref h22, .int 0, .int 0, .int 0, .int (-1)])) H := hR
  have hB : H[h5]? = some (arrV (cT 4) 5 (fun _ => Value.null)) := (kp _ (Ne.symm neh5)).trans hB
  have hsz0 : sz ≤ H.size := by omega
  refine lv_iconst (v := 0) hx hb dX5_init_84 (by decide) ?_
  refine lv_istore_n (lv' := [(2, .int (nI 0)), (0, .ref a), (1, .ref b0)]) hx hb dX5_init_85 rfl hl (by decide) rfl (fun ls hl => ?_)
  have loop : ∀ (k i : Nat) (Tc : Nat → Option Nat) (H : Heap) (locs : List Loc) (ls : Array Slot) (gv : Nat → Value), i + k = 5 → th_grow [0, 2, 3, 4, 5, 7, 8, 46] T Tc sz [10, 29, 38, 38, 37, 36, 35, 34] → (∀ b j, T23 b = some j → Tc b = some j) → Tc a = none → Tc h5 = none → va_at D classes (a, .inr (5, [.ref b0, .ref h1, .int 0, .ref h5, .ref h6, .ref h10, .ref h14, .ref h18, .ref h22, .int 0, .int 0, .int 0, .int (-1)])) H → H[h5]? = some (arrV (cT 4) 5 gv) → (∀ j, j < i → th_V Tc (.inr 11) (gv j)) → th_H D cT Tc (kd qz) H → va_S (th_cA a sz) s.heap H locs → sz ≤ H.size → lv_has ls 3 [(2, .int (nI i)), (0, .ref a), (1, .ref b0)] → W p l e (rmc 2 17 249 32) s m [.ref a, .ref b0].toArray below meth c H locs (7 + 2 * i) (29 + 44 * i) (MQ below (th_QC D cT T (kd qz) [0, 2, 3, 4, 5, 7, 8, 46] a 7 sz [32, 10, 29, 38, 38, 37, 36, 35, 34]) [.ref a, .ref b0].toArray s 17 249 (th_cA a sz)) (F0 m 86 ls []) := by
    intro k
    induction k with
    | zero =>
      intro i Tc H locs ls gv hi gr mo hn hnB hR hB hg hH hS hsz0 hl
      refine lv_iload_n hx hb dX5_init_86 rfl (lv_at hl 0 rfl) ?_
      refine lv_aload_n hx hb dX5_init_87 rfl (lv_at hl 1 rfl) ?_
      refine th_getR (v := .ref h5) S hK hR inG5 rfl 3 (by decide) gm_432 rfl rfl dX5_init_88 ?_
      refine th_alenR (N := 5) (v := 5) S hK hB rfl dX5_init_91 ?_
      refine lv_icmp_ge (tgt := 114) hx hb dX5_init_92 (by decide) (fun cc => ?_) (fun cc => ?_)
      · skip
        have hi2 : i = 5 := by omega
        subst hi2
        have hH := th_typeA (k := 32) hH hnB hB kd_32 (fun j hj => hg j hj)
        obtain ⟨Td, eTd⟩ : ∃ t, t = th_new Tc h5 32 := ⟨_, rfl⟩
        rw [← eTd] at hH
        have mod : ∀ b j, Tc b = some j → Td b = some j := by rw [eTd]; exact th_new_sub hnB
        have grd : th_grow [0, 2, 3, 4, 5, 7, 8, 46] T Td sz [32, 10, 29, 38, 38, 37, 36, 35, 34] := by rw [eTd]; exact gr.new (by omega) (by decide)
        have fraw : Td h5 = some 32 := by rw [eTd]; exact th_new_self
        have hn : Td a = none := by rw [eTd]; exact (th_new_ne neh5).trans hn
        have ho : th_Ol (th_new Td a 7) [.inr 5, .inr 35, .inl (-2147483648, 2147483647), .inr 33, .inr 36, .inr 37, .inr 38, .inr 39, .inr 39, .inl (0, 2), .inl (-2147483648, 2147483647), .inl (qz 6, 25), .inl (-2147483648, 2147483647)] [.ref b0, .ref h1, .int 0, .ref h5, .ref h6, .ref h10, .ref h14, .ref h18, .ref h22, .int 0, .int 0, .int 0, .int (-1)] := (th_Ol.cons (⟨b0, rfl, th_new_sub hn _ _ (mod _ _ (mo _ _ (mo24 _ _ (mo20 _ _ (mo16 _ _ (mo12 _ _ (mo8 _ _ (mo3 _ _ u0))))))))⟩) (th_Ol.cons (⟨h1, rfl, th_new_sub hn _ _ (mod _ _ (mo _ _ (mo24 _ _ (mo20 _ _ (mo16 _ _ (mo12 _ _ (mo8 _ _ fh1)))))))⟩) (th_Ol.cons (⟨_, rfl, by decide, by decide⟩) (th_Ol.cons (⟨h5, rfl, th_new_sub hn _ _ fraw⟩) (th_Ol.cons (⟨h6, rfl, th_new_sub hn _ _ (mod _ _ (mo _ _ (mo24 _ _ (mo20 _ _ (mo16 _ _ (mo12 _ _ fh6))))))⟩) (th_Ol.cons (⟨h10, rfl, th_new_sub hn _ _ (mod _ _ (mo _ _ (mo24 _ _ (mo20 _ _ (mo16 _ _ fh10)))))⟩) (th_Ol.cons (⟨h14, rfl, th_new_sub hn _ _ (mod _ _ (mo _ _ (mo24 _ _ (mo20 _ _ fh14))))⟩) (th_Ol.cons (⟨h18, rfl, th_new_sub hn _ _ (mod _ _ (mo _ _ (mo24 _ _ fh18)))⟩) (th_Ol.cons (⟨h22, rfl, th_new_sub hn _ _ (mod _ _ (mo _ _ fh22))⟩) (th_Ol.cons (⟨_, rfl, by decide, by decide⟩) (th_Ol.cons (⟨_, rfl, by decide, by decide⟩) (th_Ol.cons (⟨_, rfl, by decide, by decide⟩) (th_Ol.cons (⟨_, rfl, by decide, by decide⟩) th_Ol.nil)))))))))))))
        have hH := th_type (k := 7) (ci := 5) hH hn hR kd_7 ⟨ho.1, ho.2, trivial⟩
        refine W.widen (k := 17) (n := 249) (by decide) (by decide) ?_
        exact th_vretC S hK hH hS hr hlocks ((grd.sub (by decide)).fin) dX5_init_114
      · exact absurd (show (5 : Int32) ≤ nI i by rw [show i = 5 by omega]; decide) cc
    | succ k ih =>
      intro i Tc H locs ls gv hi gr mo hn hnB hR hB hg hH hS hsz0 hl
      refine lv_iload_n hx hb dX5_init_86 rfl (lv_at hl 0 rfl) ?_
      refine lv_aload_n hx hb dX5_init_87 rfl (lv_at hl 1 rfl) ?_
      refine th_getR (v := .ref h5) S hK hR inG5 rfl 3 (by decide) gm_432 rfl rfl dX5_init_88 ?_
      refine th_alenR (N := 5) (v := 5) S hK hB rfl dX5_init_91 ?_
      refine lv_icmp_ge (tgt := 114) hx hb dX5_init_92 (by decide) (fun cc => ?_) (fun cc => ?_)
      · exact absurd cc (by rw [show (5 : Int32) = nI 5 from by decide]; exact nI_ge (by omega) (by decide))
      · skip
        refine lv_aload_n hx hb dX5_init_95 rfl (lv_at hl 1 rfl) ?_
        refine th_getR (v := .ref h5) S hK hR inG5 rfl 3 (by decide) gm_432 rfl rfl dX5_init_96 ?_
        refine lv_iload_n hx hb dX5_init_99 rfl (lv_at hl 0 rfl) ?_
        refine th_newo (ci := 7) (fs := [.null]) S hK hH hS inG7 tyX7 tyX7_ok gm_425 gm_220 gm_118 rfl (fun j hj => by have : j < 1 := hj; rcases (show j = 0 by omega) with rfl <;> rfl) (by show 7 + 2 * i + 1 ≤ 17; omega) (by show 29 + 44 * i + 1 ≤ 249; omega) dX5_init_100 (fun h26 H eh26 hH nh26 rh26 hS zh26 kh26 => ?_)
        have neh26 : a ≠ h26 := by omega
        have hR : va_at D classes (a, .inr (5, [.ref b0, .ref h1, .int 0, .ref h5, .ref h6, .ref h10, .ref h14, .ref h18, .ref h22, .int 0, .int 0, .int 0, .int (-1)])) H := hR.kept (kh26 a (by omega))
        have lraw : h5 < h26 := by have := (Array.getElem?_eq_some_iff.mp hB).1; omega
        have hB : H[h5]? = some (arrV (cT 4) 5 gv) := (kh26 _ lraw).trans hB
        have hsz0 : sz ≤ H.size := by omega
        refine lv_dup hx hb dX5_init_103 rfl ?_
        refine th_callCN (n := 0) (host := RX10) (As := []) S hK hO hH hS hA (Or.inr (by omega)) rfl nh26 rh26 (k_X7_init_k10 l D cT Tc h26 H.size) gm_223 (by decide +kernel) gm_222 gm_118 rfl (by decide +kernel) ⟨rfl, rfl, Nat.le_of_ble_eq_true rfl, Nat.le_of_ble_eq_true rfl⟩ rfl hl.1 rfl (Nat.le_of_ble_eq_true rfl) dX5_init_104 ⟨by show 7 + 2 * i + 1 + 1 ≤ 17; omega, by show 29 + 44 * i + 1 + 43 ≤ 249; omega⟩ (fun T27 H locs x28 hH2 hS zx28 kx28 => ?_)
        have mo29 : ∀ b j, Tc b = some j → T27 b = some j := x28.mono hH (Nat.le_refl _) nh26
        have gr30 : th_grow [0, 2, 3, 4, 5, 7, 8, 46] T T27 sz [10, 29, 10, 29, 38, 38, 37, 36, 35, 34] := gr.ext x28 hsz0 (by omega) (by decide)
        have hR : va_at D classes (a, .inr (5, [.ref b0, .ref h1, .int 0, .ref h5, .ref h6, .ref h10, .ref h14, .ref h18, .ref h22, .int 0, .int 0, .int 0, .int (-1)])) H := hR.kept (kx28 a (by omega) neh26)
        have lraw2 : h5 ≠ h26 := by omega
        have lraw3 := (Array.getElem?_eq_some_iff.mp hB).1
        have hB : H[h5]? = some (arrV (cT 4) 5 gv) := (kx28 _ lraw3 lraw2).trans hB
        have hsz0 : sz ≤ H.size := by omega
        have hH := hH2; clear hH2
        have hn : T27 a = none := (x28.2.1 a (by omega) neh26).trans hn
        have hnB : T27 h5 = none := (x28.2.1 _ lraw3 lraw2).trans hnB
        refine th_aastR (k := 10) S hK hH hS (Or.inr (by omega)) hnB hB x28.1 kd_10 (nI_in (by omega) (by decide)) dX5_init_107 (fun H locs hB hH hS zp kp => ?_)
        have hR : va_at D classes (a, .inr (5, [.ref b0, .ref h1, .int 0, .ref h5, .ref h6, .ref h10, .ref h14, .ref h18, .ref h22, .int 0, .int 0, .int 0, .int (-1)])) H := hR.kept (kp a neh5)
        rw [nI_clamp (show i < 2 ^ 31 by omega)] at hB
        refine lv_iinc (v := nI (i + 1)) (lv' := [(2, .int (nI (i + 1))), (0, .ref a), (1, .ref b0)]) hx hb dX5_init_108 hl (k := 0) rfl (nI_1 i) (by decide) rfl (fun ls hl => ?_)
        refine lv_goto (tgt := 86) hx hb dX5_init_111 (by decide) ?_
        refine W.widen (k := 7 + 2 * (i + 1)) (n := 29 + 44 * (i + 1)) (by omega) (by omega) ?_
        exact ih (i + 1) T27 H locs ls _ (by omega) (gr30.sub (by decide)) (fun b j hb => mo29 _ _ (mo _ _ hb)) hn hnB hR hB (fun j hj => by
          by_cases z : j = i
          · rw [z]; simp only [updV, if_true]; exact ⟨h26, rfl, x28.1⟩
          · simp only [updV, if_neg z]; exact (hg j (by omega)).mono mo29) hH hS (by omega) hl
  exact loop 5 0 T23 H locs ls _ (by omega) (gr25.sub (by decide)) (fun _ _ h => h) hn hnB hR hB (fun j hj => absurd hj (Nat.not_lt_zero _)) hH hS hsz0 hl

set_option maxHeartbeats 4000000 in
set_option maxRecDepth 100000 in
theorem k_X9_init_k8 (l : Launch) (D : va_G) (cT : Nat → ClassId) (T : Nat → Option Nat) (a sz : Nat) : th_MetC l D cT T (kd qz) [0, 2, 3, 4, 5, 7, 8, 46] yX9_init cX9_init 1 (rmc 1 6 228 12) 9 [.null, .null, .null, .null, .null, .null, .int 0, .int 0] [] a sz 8 [45, 44, 43, 42, 41, 40] 6 228 := by
  refine th_startC (by decide) (Nat.le_of_ble_eq_true rfl) ⟨rfl, rfl⟩ ?_
  intro p e s m below meth c ls S hK hO hH0 hsz hn hR0 hr hlocks hnm hl
  have hx := S.1; have hb := S.2.1
  have hown := S.2.2.2.1; have hts := S.2.2.2.2
  have hA : ∀ q, s.heap.size ≤ q → th_cA a sz q := fun q h => Or.inr (by omega)
  have gr0 : th_grow [0, 2, 3, 4, 5, 7, 8, 46] T T sz [] := th_grow.rf (fun b hb => hH0.free (by omega))
  have hl : lv_has ls 1 [(0, .ref a)] := hl
  have hla0 : a < sz := by have := hR0.lt; have h2 : a < s.heap.size := this; omega
  suffices main : ∀ (H : Heap) (locs : List Loc), th_H D cT T (kd qz) H → va_at D classes (a, .inr (9, [.null, .null, .null, .null, .null, .null, .int 0, .int 0])) H → va_S (th_cA a sz) s.heap H locs → sz ≤ H.size → W p l e (rmc 1 6 228 12) s m [.ref a].toArray below meth c H locs 0 0 (MQ below (th_QC D cT T (kd qz) [0, 2, 3, 4, 5, 7, 8, 46] a 8 sz [45, 44, 43, 42, 41, 40]) [.ref a].toArray s 6 228 (th_cA a sz)) (F0 m 0 ls []) from main s.heap [] hH0 hR0 va_S.rf (by omega)
  intro H locs hH hR hS hsz0
  refine lv_aload_n hx hb dX9_init_0 rfl (lv_at hl 0 rfl) ?_
  refine W.objInit hx hb hown (hts _ gm_474) (hts _ gm_140) (hts _ gm_141) rfl (hl.1.trans S.2.2.1.symm) rfl dX9_init_1 (Nat.le_of_ble_eq_true rfl) (Nat.le_of_ble_eq_true rfl) ?_
  refine W.eq (g2 := F0 m 4 ls []) rfl ?_
  refine lv_aload_n hx hb dX9_init_4 rfl (lv_at hl 0 rfl) ?_
  refine lv_bipush (v := 90) hx hb dX9_init_5 (by decide) ?_
  refine th_newa (atype := .int) (t := 0) (N := 90) S hK hH hS 40 gm_174 rfl kd_40 (fun T2 j hj => ⟨0, rfl, by decide, by decide⟩) (by decide) (by decide) (by decide) (by decide) (by decide) dX9_init_7 (fun h1 H eh1 hH nh1 hS zh1 kh1 => ?_)
  have neh1 : a ≠ h1 := by omega
  have hR : va_at D classes (a, .inr (9, [.null, .null, .null, .null, .null, .null, .int 0, .int 0])) H := hR.kept (kh1 a (by omega))
  have hsz0 : sz ≤ H.size := by omega
  obtain ⟨T2, eT2⟩ : ∃ t, t = th_new T h1 40 := ⟨_, rfl⟩
  rw [← eT2] at hH
  have mo3 : ∀ b j, T b = some j → T2 b = some j := by rw [eT2]; exact th_new_sub nh1
  have gr4 : th_grow [0, 2, 3, 4, 5, 7, 8, 46] T T2 sz [40] := by rw [eT2]; exact gr0.new (by omega) (by decide)
  have fh1 : T2 h1 = some 40 := by rw [eT2]; exact th_new_self
  have hn : T2 a = none := by rw [eT2]; exact (th_new_ne neh1).trans hn
  refine th_putRF (ty := .array .int) (v := .ref h1) S hK hH hS (Or.inl rfl) hn hR inG9 tyX9 tyX9_ok nmX9 rfl 0 (by decide) gm_475 rfl rfl hnm rfl (by decide +kernel) rfl rfl (Nat.le_of_ble_eq_true rfl) dX9_init_9 (fun H locs hR hH hS zp kp => ?_)
  have hR : va_at D classes (a, .inr (9, [.ref h1, .null, .null, .null, .null, .null, .int 0, .int 0])) H := hR
  have hsz0 : sz ≤ H.size := by omega
  refine lv_aload_n hx hb dX9_init_12 rfl (lv_at hl 0 rfl) ?_
  refine lv_bipush (v := 30) hx hb dX9_init_13 (by decide) ?_
  refine th_newa (atype := .int) (t := 0) (N := 30) S hK hH hS 41 gm_174 rfl kd_41 (fun T2 j hj => ⟨0, rfl, by decide, by decide⟩) (by decide) (by decide) (by decide) (by decide) (by decide) dX9_init_15 (fun h5 H eh5 hH nh5 hS zh5 kh5 => ?_)
  have neh5 : a ≠ h5 := by omega
  have hR : va_at D classes (a, .inr (9, [.ref h1, .null, .null, .null, .null, .null, .int 0, .int 0])) H := hR.kept (kh5 a (by omega))
  have hsz0 : sz ≤ H.size := by omega
  obtain ⟨T6, eT6⟩ : ∃ t, t = th_new T2 h5 41 := ⟨_, rfl⟩
  rw [← eT6] at hH
  have mo7 : ∀ b j, T2 b = some j → T6 b = some j := by rw [eT6]; exact th_new_sub nh5
  have gr8 : th_grow [0, 2, 3, 4, 5, 7, 8, 46] T T6 sz [41, 40] := by rw [eT6]; exact gr4.new (by omega) (by decide)
  have fh5 : T6 h5 = some 41 := by rw [eT6]; exact th_new_self
  have hn : T6 a = none := by rw [eT6]; exact (th_new_ne neh5).trans hn
  refine th_putRF (ty := .array .int) (v := .ref h5) S hK hH hS (Or.inl rfl) hn hR inG9 tyX9 tyX9_ok nmX9 rfl 1 (by decide) gm_476 rfl rfl hnm rfl (by decide +kernel) rfl rfl (Nat.le_of_ble_eq_true rfl) dX9_init_17 (fun H locs hR hH hS zp kp => ?_)
  have hR : va_at D classes (a, .inr (9, [.ref h1, .ref h5, .null, .null, .null, .null, .int 0, .int 0])) H := hR
  have hsz0 : sz ≤ H.size := by omega
  refine lv_aload_n hx hb dX9_init_20 rfl (lv_at hl 0 rfl) ?_
  refine lv_bipush (v := 30) hx hb dX9_init_21 (by decide) ?_
  refine th_newa (atype := .boolean) (t := 3) (N := 30) S hK hH hS 42 gm_502 rfl kd_42 (fun T2 j hj => ⟨0, rfl, by decide, by decide⟩) (by decide) (by decide) (by decide) (by decide) (by decide) dX9_init_23 (fun h9 H eh9 hH nh9 hS zh9 kh9 => ?_)
  have neh9 : a ≠ h9 := by omega
  have hR : va_at D classes (a, .inr (9, [.ref h1, .ref h5, .null, .null, .null, .null, .int 0, .int 0])) H := hR.kept (kh9 a (by omega))
  have hsz0 : sz ≤ H.size := by omega
  obtain ⟨T10, eT10⟩ : ∃ t, t = th_new T6 h9 42 := ⟨_, rfl⟩
  rw [← eT10] at hH
  have mo11 : ∀ b j, T6 b = some j → T10 b = some j := by rw [eT10]; exact th_new_sub nh9
  have gr12 : th_grow [0, 2, 3, 4, 5, 7, 8, 46] T T10 sz [42, 41, 40] := by rw [eT10]; exact gr8.new (by omega) (by decide)
  have fh9 : T10 h9 = some 42 := by rw [eT10]; exact th_new_self
  have hn : T10 a = none := by rw [eT10]; exact (th_new_ne neh9).trans hn
  refine th_putRF (ty := .array .boolean) (v := .ref h9) S hK hH hS (Or.inl rfl) hn hR inG9 tyX9 tyX9_ok nmX9 rfl 2 (by decide) gm_477 rfl rfl hnm rfl (by decide +kernel) rfl rfl (Nat.le_of_ble_eq_true rfl) dX9_init_25 (fun H locs hR hH hS zp kp => ?_)
  have hR : va_at D classes (a, .inr (9, [.ref h1, .ref h5, .ref h9, .null, .null, .null, .int 0, .int 0])) H := hR
  have hsz0 : sz ≤ H.size := by omega
  refine lv_aload_n hx hb dX9_init_28 rfl (lv_at hl 0 rfl) ?_
  refine lv_bipush (v := 30) hx hb dX9_init_29 (by decide) ?_
  refine th_newa (atype := .int) (t := 0) (N := 30) S hK hH hS 43 gm_174 rfl kd_43 (fun T2 j hj => ⟨0, rfl, by decide, by decide⟩) (by decide) (by decide) (by decide) (by decide) (by decide) dX9_init_31 (fun h13 H eh13 hH nh13 hS zh13 kh13 => ?_)
  have neh13 : a ≠ h13 := by omega
  have hR : va_at D classes (a, .inr (9, [.ref h1, .ref h5, .ref h9, .null, .null, .null, .int 0, .int 0])) H := hR.kept (kh13 a (by omega))
  have hsz0 : sz ≤ H.size := by omega
  obtain ⟨T14, eT14⟩ : ∃ t, t = th_new T10 h13 43 := ⟨_, rfl⟩
  rw [← eT14] at hH
  have mo15 : ∀ b j, T10 b = some j → T14 b = some j := by rw [eT14]; exact th_new_sub nh13
  have gr16 : th_grow [0, 2, 3, 4, 5, 7, 8, 46] T T14 sz [43, 42, 41, 40] := by rw [eT14]; exact gr12.new (by omega) (by decide)
  have fh13 : T14 h13 = some 43 := by rw [eT14]; exact th_new_self
  have hn : T14 a = none := by rw [eT14]; exact (th_new_ne neh13).trans hn
  refine th_putRF (ty := .array .int) (v := .ref h13) S hK hH hS (Or.inl rfl) hn hR inG9 tyX9 tyX9_ok nmX9 rfl 3 (by decide) gm_478 rfl rfl hnm rfl (by decide +kernel) rfl rfl (Nat.le_of_ble_eq_true rfl) dX9_init_33 (fun H locs hR hH hS zp kp => ?_)
  have hR : va_at D classes (a, .inr (9, [.ref h1, .ref h5, .ref h9, .ref h13, .null, .null, .int 0, .int 0])) H := hR
  have hsz0 : sz ≤ H.size := by omega
  refine lv_aload_n hx hb dX9_init_36 rfl (lv_at hl 0 rfl) ?_
  refine lv_bipush (v := 30) hx hb dX9_init_37 (by decide) ?_
  refine th_newa (atype := .int) (t := 0) (N := 30) S hK hH hS 44 gm_174 rfl kd_44 (fun T2 j hj => ⟨0, rfl, by decide, by decide⟩) (by decide) (by decide) (by decide) (by decide) (by decide) dX9_init_39 (fun h17 H eh17 hH nh17 hS zh17 kh17 => ?_)
  have neh17 : a ≠ h17 := by omega
  have hR : va_at D classes (a, .inr (9, [.ref h1, .ref h5, .ref h9, .ref h13, .null, .null, .int 0, .int 0])) H := hR.kept (kh17 a (by omega))
  have hsz0 : sz ≤ H.size := by omega
  obtain ⟨T18, eT18⟩ : ∃ t, t = th_new T14 h17 44 := ⟨_, rfl⟩
  rw [← eT18] at hH
  have mo19 : ∀ b j, T14 b = some j → T18 b = some j := by rw [eT18]; exact th_new_sub nh17
  have gr20 : th_grow [0, 2, 3, 4, 5, 7, 8, 46] T T18 sz [44, 43, 42, 41, 40] := by rw [eT18]; exact gr16.new (by omega) (by decide)
  have fh17 : T18 h17 = some 44 := by rw [eT18]; exact th_new_self
  have hn : T18 a = none := by rw [eT18]; exact (th_new_ne neh17).trans hn
  refine th_putRF (ty := .array .int) (v := .ref h17) S hK hH hS (Or.inl rfl) hn hR inG9 tyX9 tyX9_ok nmX9 rfl 4 (by decide) gm_479 rfl rfl hnm rfl (by decide +kernel) rfl rfl (Nat.le_of_ble_eq_true rfl) dX9_init_41 (fun H locs hR hH hS zp kp => ?_)
  have hR : va_at D classes (a, .inr (9, [.ref h1, .ref h5, .ref h9, .ref h13, .ref h17, .null, .int 0, .int 0])) H := hR
  have hsz0 : sz ≤ H.size := by omega
  refine lv_aload_n hx hb dX9_init_44 rfl (lv_at hl 0 rfl) ?_
  refine lv_bipush (v := 18) hx hb dX9_init_45 (by decide) ?_
  refine th_newa (atype := .int) (t := 0) (N := 18) S hK hH hS 45 gm_174 rfl kd_45 (fun T2 j hj => ⟨0, rfl, by decide, by decide⟩) (by decide) (by decide) (by decide) (by decide) (by decide) dX9_init_47 (fun h21 H eh21 hH nh21 hS zh21 kh21 => ?_)
  have neh21 : a ≠ h21 := by omega
  have hR : va_at D classes (a, .inr (9, [.ref h1, .ref h5, .ref h9, .ref h13, .ref h17, .null, .int 0, .int 0])) H := hR.kept (kh21 a (by omega))
  have hsz0 : sz ≤ H.size := by omega
  obtain ⟨T22, eT22⟩ : ∃ t, t = th_new T18 h21 45 := ⟨_, rfl⟩
  rw [← eT22] at hH
  have mo23 : ∀ b j, T18 b = some j → T22 b = some j := by rw [eT22]; exact th_new_sub nh21
  have gr24 : th_grow [0, 2, 3, 4, 5, 7, 8, 46] T T22 sz [45, 44, 43, 42, 41, 40] := by rw [eT22]; exact gr20.new (by omega) (by decide)
  have fh21 : T22 h21 = some 45 := by rw [eT22]; exact th_new_self
  have hn : T22 a = none := by rw [eT22]; exact (th_new_ne neh21).trans hn
  refine th_putRF (ty := .array .int) (v := .ref h21) S hK hH hS (Or.inl rfl) hn hR inG9 tyX9 tyX9_ok nmX9 rfl 5 (by decide) gm_480 rfl rfl hnm rfl (by decide +kernel) rfl rfl (Nat.le_of_ble_eq_true rfl) dX9_init_49 (fun H locs hR hH hS zp kp => ?_)
  have hR : va_at D classes (a, .inr (9, [.ref h1, .ref h5, .ref h9, .ref h13, .ref h17, .ref h21, .int 0, .int 0])) H := hR
  have hsz0 : sz ≤ H.size := by omega
  refine lv_aload_n hx hb dX9_init_52 rfl (lv_at hl 0 rfl) ?_
  refine lv_iconst (v := 0) hx hb dX9_init_53 (by decide) ?_
  refine th_putR (ty := .int) (v := .int 0) S hK hH hS (Or.inl rfl) hn hR inG9 tyX9 tyX9_ok nmX9 rfl 6 (by decide) gm_481 rfl rfl (by decide +kernel) rfl rfl (Nat.le_of_ble_eq_true rfl) dX9_init_54 (fun H locs hR hH hS zp kp => ?_)
  have hR : va_at D classes (a, .inr (9, [.ref h1, .ref h5, .ref h9, .ref h13, .ref h17, .ref h21, .int 0, .int 0])) H := hR
  have hsz0 : sz ≤ H.size := by omega
  refine lv_aload_n hx hb dX9_init_57 rfl (lv_at hl 0 rfl) ?_
  refine lv_iconst (v := 0) hx hb dX9_init_58 (by decide) ?_
  refine th_putR (ty := .int) (v := .int 0) S hK hH hS (Or.inl rfl) hn hR inG9 tyX9 tyX9_ok nmX9 rfl 7 (by decide) gm_483 rfl rfl (by decide +kernel) rfl rfl (Nat.le_of_ble_eq_true rfl) dX9_init_59 (fun H locs hR hH hS zp kp => ?_)
  have hR : va_at D classes (a, .inr (9, [.ref h1, .ref h5, .ref h9, .ref h13, .ref h17, .ref h21, .int 0, .int 0])) H := hR
  have hsz0 : sz ≤ H.size := by omega
  have ho : th_Ol (th_new T22 a 8) [.inr 41, .inr 42, .inr 43, .inr 44, .inr 45, .inr 46, .inl (0, 30), .inl (qz 0, qz 0)] [.ref h1, .ref h5, .ref h9, .ref h13, .ref h17, .ref h21, .int 0, .int 0] := (th_Ol.cons (⟨h1, rfl, th_new_sub hn _ _ (mo23 _ _ (mo19 _ _ (mo15 _ _ (mo11 _ _ (mo7 _ _ fh1)))))⟩) (th_Ol.cons (⟨h5, rfl, th_new_sub hn _ _ (mo23 _ _ (mo19 _ _ (mo15 _ _ (mo11 _ _ fh5))))⟩) (th_Ol.cons (⟨h9, rfl, th_new_sub hn _ _ (mo23 _ _ (mo19 _ _ (mo15 _ _ fh9)))⟩) (th_Ol.cons (⟨h13, rfl, th_new_sub hn _ _ (mo23 _ _ (mo19 _ _ fh13))⟩) (th_Ol.cons (⟨h17, rfl, th_new_sub hn _ _ (mo23 _ _ fh17)⟩) (th_Ol.cons (⟨h21, rfl, th_new_sub hn _ _ fh21⟩) (th_Ol.cons (⟨_, rfl, by decide, by decide⟩) (th_Ol.cons (⟨_, rfl, by decide, by decide⟩) th_Ol.nil))))))))
  have hH := th_type (k := 8) (ci := 9) hH hn hR kd_8 ⟨ho.1, ho.2, trivial⟩
  refine W.widen (k := 6) (n := 228) (by decide) (by decide) ?_
  exact th_vretC S hK hH hS hr hlocks ((gr24.sub (by decide)).fin) dX9_init_62

set_option maxHeartbeats 4000000 in
set_option maxRecDepth 100000 in
theorem k_X10_init_k0 (l : Launch) (D : va_G) (cT : Nat → ClassId) (T : Nat → Option Nat) (a sz : Nat) : th_MetC l D cT T (kd qz) [0, 2, 3, 4, 5, 7, 8, 46] yX10_init cX10_init 2 (rmc 4 177 12873 73) 10 [.null, .null, .null, .null, .null, .null, .null, .null, .null, .int 0] [] a sz 0 [33, 10, 29, 8, 45, 44, 43, 42, 41, 40, 7, 32, 10, 29, 38, 38, 37, 36, 35, 34, 6, 31, 10, 29, 5, 30, 10, 29, 4, 3, 10, 29, 9, 19, 18, 17, 16, 15, 28, 27, 26, 25, 24, 23, 22, 21, 20, 2, 46, 10, 29, 56, 61, 60, 59, 58, 57, 55, 54, 53, 52, 51, 50, 49, 48, 47, 1, 14, 13, 12, 11] 177 12873 := by
  refine th_startC (by decide) (Nat.le_of_ble_eq_true rfl) ⟨rfl, rfl⟩ ?_
  intro p e s m below meth c ls S hK hO hH0 hsz hn hR0 hr hlocks hnm hl
  have hx := S.1; have hb := S.2.1
  have hown := S.2.2.2.1; have hts := S.2.2.2.2
  have hA : ∀ q, s.heap.size ≤ q → th_cA a sz q := fun q h => Or.inr (by omega)
  have gr0 : th_grow [0, 2, 3, 4, 5, 7, 8, 46] T T sz [] := th_grow.rf (fun b hb => hH0.free (by omega))
  have hl : lv_has ls 2 [(0, .ref a)] := hl
  have hla0 : a < sz := by have := hR0.lt; have h2 : a < s.heap.size := this; omega
  suffices main : ∀ (H : Heap) (locs : List Loc), th_H D cT T (kd qz) H → va_at D classes (a, .inr (10, [.null, .null, .null, .null, .null, .null, .null, .null, .null, .int 0])) H → va_S (th_cA a sz) s.heap H locs → sz ≤ H.size → W p l e (rmc 4 177 12873 73) s m [.ref a].toArray below meth c H locs 0 0 (MQ below (th_QC D cT T (kd qz) [0, 2, 3, 4, 5, 7, 8, 46] a 0 sz [33, 10, 29, 8, 45, 44, 43, 42, 41, 40, 7, 32, 10, 29, 38, 38, 37, 36, 35, 34, 6, 31, 10, 29, 5, 30, 10, 29, 4, 3, 10, 29, 9, 19, 18, 17, 16, 15, 28, 27, 26, 25, 24, 23, 22, 21, 20, 2, 46, 10, 29, 56, 61, 60, 59, 58, 57, 55, 54, 53, 52, 51, 50, 49, 48, 47, 1, 14, 13, 12, 11]) [.ref a].toArray s 177 12873 (th_cA a sz)) (F0 m 0 ls []) from main s.heap [] hH0 hR0 va_S.rf (by omega)
  intro H locs hH hR hS hsz0
  refine lv_aload_n hx hb dX10_init_0 rfl (lv_at hl 0 rfl) ?_
  refine W.objInit hx hb hown (hts _ gm_139) (hts _ gm_140) (hts _ gm_141) rfl (hl.1.trans S.2.2.1.symm) rfl dX10_init_1 (Nat.le_of_ble_eq_true rfl) (Nat.le_of_ble_eq_true rfl) ?_
  refine W.eq (g2 := F0 m 4 ls []) rfl ?_
  refine lv_aload_n hx hb dX10_init_4 rfl (lv_at hl 0 rfl) ?_
  refine th_newo (ci := 8) (fs := [.null, .null, .null, .null, .int 0, .int 0]) S hK hH hS inG8 tyX8 tyX8_ok gm_142 gm_143 gm_114 rfl (fun j hj => by have : j < 6 := hj; rcases (show j = 0 ∨ j = 1 ∨ j = 2 ∨ j = 3 ∨ j = 4 ∨ j = 5 by omega) with rfl | rfl | rfl | rfl | rfl | rfl <;> rfl) (by decide) (by decide) dX10_init_5 (fun h1 H eh1 hH nh1 rh1 hS zh1 kh1 => ?_)
  have neh1 : a ≠ h1 := by omega
  have hR : va_at D classes (a, .inr (10, [.null, .null, .null, .null, .null, .null, .null, .null, .null, .int 0])) H := hR.kept (kh1 a (by omega))
  have hsz0 : sz ≤ H.size := by omega
  refine lv_dup hx hb dX10_init_8 rfl ?_
  refine th_callCN (n := 0) (host := RX10) (As := []) S hK hO hH hS hA (Or.inr (by omega)) rfl nh1 rh1 (k_X8_init_k1 l D cT T h1 H.size) gm_146 (by decide +kernel) gm_145 gm_114 rfl (by decide +kernel) ⟨rfl, rfl, Nat.le_of_ble_eq_true rfl, Nat.le_of_ble_eq_true rfl⟩ rfl hl.1 rfl (Nat.le_of_ble_eq_true rfl) dX10_init_9 ⟨Nat.le_of_ble_eq_true rfl, Nat.le_of_ble_eq_true rfl⟩ (fun T2 H locs x3 hH2 hS zx3 kx3 => ?_)
  have mo4 : ∀ b j, T b = some j → T2 b = some j := x3.mono hH (Nat.le_refl _) nh1
  have gr5 : th_grow [0, 2, 3, 4, 5, 7, 8, 46] T T2 sz [1, 14, 13, 12, 11] := gr0.ext x3 hsz0 (by omega) (by decide)
  have hR : va_at D classes (a, .inr (10, [.null, .null, .null, .null, .null, .null, .null, .null, .null, .int 0])) H := hR.kept (kx3 a (by omega) neh1)
  have hsz0 : sz ≤ H.size := by omega
  have hH := hH2; clear hH2
  have hn : T2 a = none := (x3.2.1 a (by omega) neh1).trans hn
  refine th_putRF (ty := .object "HungryMaps$Tape") (v := .ref h1) S hK hH hS (Or.inl rfl) hn hR inG10 tyX10 tyX10_ok nmX10 rfl 0 (by decide) gm_505 rfl rfl hnm rfl (by decide +kernel) rfl rfl (Nat.le_of_ble_eq_true rfl) dX10_init_12 (fun H locs hR hH hS zp kp => ?_)
  have hR : va_at D classes (a, .inr (10, [.ref h1, .null, .null, .null, .null, .null, .null, .null, .null, .int 0])) H := hR
  have hsz0 : sz ≤ H.size := by omega
  refine lv_aload_n hx hb dX10_init_15 rfl (lv_at hl 0 rfl) ?_
  refine th_newo (ci := 6) (fs := [.null, .null, .int 0, .int 0, .int 0, .int 0]) S hK hH hS inG6 tyX6 tyX6_ok gm_176 gm_177 gm_115 rfl (fun j hj => by have : j < 6 := hj; rcases (show j = 0 ∨ j = 1 ∨ j = 2 ∨ j = 3 ∨ j = 4 ∨ j = 5 by omega) with rfl | rfl | rfl | rfl | rfl | rfl <;> rfl) (by decide) (by decide) dX10_init_16 (fun h6 H eh6 hH nh6 rh6 hS zh6 kh6 => ?_)
  have neh6 : a ≠ h6 := by omega
  have hR : va_at D classes (a, .inr (10, [.ref h1, .null, .null, .null, .null, .null, .null, .null, .null, .int 0])) H := hR.kept (kh6 a (by omega))
  have hsz0 : sz ≤ H.size := by omega
  refine lv_dup hx hb dX10_init_19 rfl ?_
  refine lv_aload_n hx hb dX10_init_20 rfl (lv_at hl 0 rfl) ?_
  refine th_getR (v := .ref h1) S hK hR inG10 rfl 0 (by decide) gm_505 rfl rfl dX10_init_21 ?_
  refine th_callC (n := 1) (As := [.ref h1]) S hK hO hH hS hA (Or.inr (by omega)) rfl nh6 rh6 (k_X6_init_k2 l D cT T2 h6 H.size h1 x3.1) gm_180 gm_178 gm_179 gm_115 rfl (by decide +kernel) ⟨rfl, rfl, Nat.le_of_ble_eq_true rfl, Nat.le_of_ble_eq_true rfl⟩ rfl hl.1 rfl (Nat.le_of_ble_eq_true rfl) dX10_init_24 ⟨Nat.le_of_ble_eq_true rfl, Nat.le_of_ble_eq_true rfl⟩ (fun T7 H locs x8 hH2 hS zx8 kx8 => ?_)
  have mo9 : ∀ b j, T2 b = some j → T7 b = some j := x8.mono hH (Nat.le_refl _) nh6
  have gr10 : th_grow [0, 2, 3, 4, 5, 7, 8, 46] T T7 sz [2, 46, 10, 29, 56, 61, 60, 59, 58, 57, 55, 54, 53, 52, 51, 50, 49, 48, 47, 1, 14, 13, 12, 11] := gr5.ext x8 hsz0 (by omega) (by decide)
  have hR : va_at D classes (a, .inr (10, [.ref h1, .null, .null, .null, .null, .null, .null, .null, .null, .int 0])) H := hR.kept (kx8 a (by omega) neh6)
  have hsz0 : sz ≤ H.size := by omega
  have hH := hH2; clear hH2
  have hn : T7 a = none := (x8.2.1 a (by omega) neh6).trans hn
  refine th_putRF (ty := .object "HungryMaps$Reader") (v := .ref h6) S hK hH hS (Or.inl rfl) hn hR inG10 tyX10 tyX10_ok nmX10 rfl 1 (by decide) gm_506 rfl rfl hnm rfl (by decide +kernel) rfl rfl (Nat.le_of_ble_eq_true rfl) dX10_init_27 (fun H locs hR hH hS zp kp => ?_)
  have hR : va_at D classes (a, .inr (10, [.ref h1, .ref h6, .null, .null, .null, .null, .null, .null, .null, .int 0])) H := hR
  have hsz0 : sz ≤ H.size := by omega
  refine lv_aload_n hx hb dX10_init_30 rfl (lv_at hl 0 rfl) ?_
  refine th_newo (ci := 4) (fs := [.null, .null, .null, .null, .null, .null, .null, .null, .null, .null, .null, .int 0, .int 0, .int 0, .int 0, .int 0, .int 0, .int 0, .int 0]) S hK hH hS inG4 tyX4 tyX4_ok gm_361 gm_183 gm_116 rfl (fun j hj => by have : j < 19 := hj; rcases (show j = 0 ∨ j = 1 ∨ j = 2 ∨ j = 3 ∨ j = 4 ∨ j = 5 ∨ j = 6 ∨ j = 7 ∨ j = 8 ∨ j = 9 ∨ j = 10 ∨ j = 11 ∨ j = 12 ∨ j = 13 ∨ j = 14 ∨ j = 15 ∨ j = 16 ∨ j = 17 ∨ j = 18 by omega) with rfl | rfl | rfl | rfl | rfl | rfl | rfl | rfl | rfl | rfl | rfl | rfl | rfl | rfl | rfl | rfl | rfl | rfl | rfl <;> rfl) (by decide) (by decide) dX10_init_31 (fun h11 H eh11 hH nh11 rh11 hS zh11 kh11 => ?_)
  have neh11 : a ≠ h11 := by omega
  have hR : va_at D classes (a, .inr (10, [.ref h1, .ref h6, .null, .null, .null, .null, .null, .null, .null, .int 0])) H := hR.kept (kh11 a (by omega))
  have hsz0 : sz ≤ H.size := by omega
  refine lv_dup hx hb dX10_init_34 rfl ?_
  refine th_callCN (n := 0) (host := RX10) (As := []) S hK hO hH hS hA (Or.inr (by omega)) rfl nh11 rh11 (k_X4_init_k3 l D cT T7 h11 H.size) gm_186 (by decide +kernel) gm_185 gm_116 rfl (by decide +kernel) ⟨rfl, rfl, Nat.le_of_ble_eq_true rfl, Nat.le_of_ble_eq_true rfl⟩ rfl hl.1 rfl (Nat.le_of_ble_eq_true rfl) dX10_init_35 ⟨Nat.le_of_ble_eq_true rfl, Nat.le_of_ble_eq_true rfl⟩ (fun T12 H locs x13 hH2 hS zx13 kx13 => ?_)
  have mo14 : ∀ b j, T7 b = some j → T12 b = some j := x13.mono hH (Nat.le_refl _) nh11
  have gr15 : th_grow [0, 2, 3, 4, 5, 7, 8, 46] T T12 sz [3, 10, 29, 9, 19, 18, 17, 16, 15, 28, 27, 26, 25, 24, 23, 22, 21, 20, 2, 46, 10, 29, 56, 61, 60, 59, 58, 57, 55, 54, 53, 52, 51, 50, 49, 48, 47, 1, 14, 13, 12, 11] := gr10.ext x13 hsz0 (by omega) (by decide)
  have hR : va_at D classes (a, .inr (10, [.ref h1, .ref h6, .null, .null, .null, .null, .null, .null, .null, .int 0])) H := hR.kept (kx13 a (by omega) neh11)
  have hsz0 : sz ≤ H.size := by omega
  have hH := hH2; clear hH2
  have hn : T12 a = none := (x13.2.1 a (by omega) neh11).trans hn
  refine th_putR (ty := .object "HungryMaps$House") (v := .ref h11) S hK hH hS (Or.inl rfl) hn hR inG10 tyX10 tyX10_ok nmX10 rfl 2 (by decide) gm_507 rfl rfl (by decide +kernel) rfl rfl (Nat.le_of_ble_eq_true rfl) dX10_init_38 (fun H locs hR hH hS zp kp => ?_)
  have hR : va_at D classes (a, .inr (10, [.ref h1, .ref h6, .ref h11, .null, .null, .null, .null, .null, .null, .int 0])) H := hR
  have hsz0 : sz ≤ H.size := by omega
  refine lv_aload_n hx hb dX10_init_41 rfl (lv_at hl 0 rfl) ?_
  refine th_newo (ci := 0) (fs := [.null]) S hK hH hS inG0 tyX0 tyX0_ok gm_363 gm_364 gm_119 rfl (fun j hj => by have : j < 1 := hj; rcases (show j = 0 by omega) with rfl <;> rfl) (by decide) (by decide) dX10_init_42 (fun h16 H eh16 hH nh16 rh16 hS zh16 kh16 => ?_)
  have neh16 : a ≠ h16 := by omega
  have hR : va_at D classes (a, .inr (10, [.ref h1, .ref h6, .ref h11, .null, .null, .null, .null, .null, .null, .int 0])) H := hR.kept (kh16 a (by omega))
  have hsz0 : sz ≤ H.size := by omega
  refine lv_dup hx hb dX10_init_45 rfl ?_
  refine lv_aload_n hx hb dX10_init_46 rfl (lv_at hl 0 rfl) ?_
  refine th_getR (v := .ref h11) S hK hR inG10 rfl 2 (by decide) gm_507 rfl rfl dX10_init_47 ?_
  refine th_callC (n := 1) (As := [.ref h11]) S hK hO hH hS hA (Or.inr (by omega)) rfl nh16 rh16 (k_X0_init_k4 l D cT T12 h16 H.size h11 x13.1) gm_367 gm_365 gm_366 gm_119 rfl (by decide +kernel) ⟨rfl, rfl, Nat.le_of_ble_eq_true rfl, Nat.le_of_ble_eq_true rfl⟩ rfl hl.1 rfl (Nat.le_of_ble_eq_true rfl) dX10_init_50 ⟨Nat.le_of_ble_eq_true rfl, Nat.le_of_ble_eq_true rfl⟩ (fun T17 H locs x18 hH2 hS zx18 kx18 => ?_)
  have mo19 : ∀ b j, T12 b = some j → T17 b = some j := x18.mono hH (Nat.le_refl _) nh16
  have gr20 : th_grow [0, 2, 3, 4, 5, 7, 8, 46] T T17 sz [4, 3, 10, 29, 9, 19, 18, 17, 16, 15, 28, 27, 26, 25, 24, 23, 22, 21, 20, 2, 46, 10, 29, 56, 61, 60, 59, 58, 57, 55, 54, 53, 52, 51, 50, 49, 48, 47, 1, 14, 13, 12, 11] := gr15.ext x18 hsz0 (by omega) (by decide)
  have hR : va_at D classes (a, .inr (10, [.ref h1, .ref h6, .ref h11, .null, .null, .null, .null, .null, .null, .int 0])) H := hR.kept (kx18 a (by omega) neh16)
  have hsz0 : sz ≤ H.size := by omega
  have hH := hH2; clear hH2
  have hn : T17 a = none := (x18.2.1 a (by omega) neh16).trans hn
  refine th_putRF (ty := .object "HungryMaps$Engine") (v := .ref h16) S hK hH hS (Or.inl rfl) hn hR inG10 tyX10 tyX10_ok nmX10 rfl 3 (by decide) gm_508 rfl rfl hnm rfl (by decide +kernel) rfl rfl (Nat.le_of_ble_eq_true rfl) dX10_init_53 (fun H locs hR hH hS zp kp => ?_)
  have hR : va_at D classes (a, .inr (10, [.ref h1, .ref h6, .ref h11, .ref h16, .null, .null, .null, .null, .null, .int 0])) H := hR
  have hsz0 : sz ≤ H.size := by omega
  refine lv_aload_n hx hb dX10_init_56 rfl (lv_at hl 0 rfl) ?_
  refine th_newo (ci := 3) (fs := [.null, .int 0, .int 0, .int 0]) S hK hH hS inG3 tyX3 tyX3_ok gm_376 gm_377 gm_120 rfl (fun j hj => by have : j < 4 := hj; rcases (show j = 0 ∨ j = 1 ∨ j = 2 ∨ j = 3 by omega) with rfl | rfl | rfl | rfl <;> rfl) (by decide) (by decide) dX10_init_57 (fun h21 H eh21 hH nh21 rh21 hS zh21 kh21 => ?_)
  have neh21 : a ≠ h21 := by omega
  have hR : va_at D classes (a, .inr (10, [.ref h1, .ref h6, .ref h11, .ref h16, .null, .null, .null, .null, .null, .int 0])) H := hR.kept (kh21 a (by omega))
  have hsz0 : sz ≤ H.size := by omega
  refine lv_dup hx hb dX10_init_60 rfl ?_
  refine th_callC (n := 0) (As := []) S hK hO hH hS hA (Or.inr (by omega)) rfl nh21 rh21 (k_X3_init_k5 l D cT T17 h21 H.size) gm_380 gm_378 gm_379 gm_120 rfl (by decide +kernel) ⟨rfl, rfl, Nat.le_of_ble_eq_true rfl, Nat.le_of_ble_eq_true rfl⟩ rfl hl.1 rfl (Nat.le_of_ble_eq_true rfl) dX10_init_61 ⟨Nat.le_of_ble_eq_true rfl, Nat.le_of_ble_eq_true rfl⟩ (fun T22 H locs x23 hH2 hS zx23 kx23 => ?_)
  have mo24 : ∀ b j, T17 b = some j → T22 b = some j := x23.mono hH (Nat.le_refl _) nh21
  have gr25 : th_grow [0, 2, 3, 4, 5, 7, 8, 46] T T22 sz [5, 30, 10, 29, 4, 3, 10, 29, 9, 19, 18, 17, 16, 15, 28, 27, 26, 25, 24, 23, 22, 21, 20, 2, 46, 10, 29, 56, 61, 60, 59, 58, 57, 55, 54, 53, 52, 51, 50, 49, 48, 47, 1, 14, 13, 12, 11] := gr20.ext x23 hsz0 (by omega) (by decide)
  have hR : va_at D classes (a, .inr (10, [.ref h1, .ref h6, .ref h11, .ref h16, .null, .null, .null, .null, .null, .int 0])) H := hR.kept (kx23 a (by omega) neh21)
  have hsz0 : sz ≤ H.size := by omega
  have hH := hH2; clear hH2
  have hn : T22 a = none := (x23.2.1 a (by omega) neh21).trans hn
  refine th_putRF (ty := .object "HungryMaps$History") (v := .ref h21) S hK hH hS (Or.inl rfl) hn hR inG10 tyX10 tyX10_ok nmX10 rfl 4 (by decide) gm_509 rfl rfl hnm rfl (by decide +kernel) rfl rfl (Nat.le_of_ble_eq_true rfl) dX10_init_64 (fun H locs hR hH hS zp kp => ?_)
  have hR : va_at D classes (a, .inr (10, [.ref h1, .ref h6, .ref h11, .ref h16, .ref h21, .null, .null, .null, .null, .int 0])) H := hR
  have hsz0 : sz ≤ H.size := by omega
  refine lv_aload_n hx hb dX10_init_67 rfl (lv_at hl 0 rfl) ?_
  refine th_newo (ci := 1) (fs := [.null, .null, .int 0]) S hK hH hS inG1 tyX1 tyX1_ok gm_400 gm_401 gm_121 rfl (fun j hj => by have : j < 3 := hj; rcases (show j = 0 ∨ j = 1 ∨ j = 2 by omega) with rfl | rfl | rfl <;> rfl) (by decide) (by decide) dX10_init_68 (fun h26 H eh26 hH nh26 rh26 hS zh26 kh26 => ?_)
  have neh26 : a ≠ h26 := by omega
  have hR : va_at D classes (a, .inr (10, [.ref h1, .ref h6, .ref h11, .ref h16, .ref h21, .null, .null, .null, .null, .int 0])) H := hR.kept (kh26 a (by omega))
  have hsz0 : sz ≤ H.size := by omega
  refine lv_dup hx hb dX10_init_71 rfl ?_
  refine lv_aload_n hx hb dX10_init_72 rfl (lv_at hl 0 rfl) ?_
  refine th_getR (v := .ref h16) S hK hR inG10 rfl 3 (by decide) gm_508 rfl rfl dX10_init_73 ?_
  refine th_callC (n := 1) (As := [.ref h16]) S hK hO hH hS hA (Or.inr (by omega)) rfl nh26 rh26 (k_X1_init_k6 l D cT T22 h26 H.size h16 (mo24 _ _ x18.1)) gm_404 gm_402 gm_403 gm_121 rfl (by decide +kernel) ⟨rfl, rfl, Nat.le_of_ble_eq_true rfl, Nat.le_of_ble_eq_true rfl⟩ rfl hl.1 rfl (Nat.le_of_ble_eq_true rfl) dX10_init_76 ⟨Nat.le_of_ble_eq_true rfl, Nat.le_of_ble_eq_true rfl⟩ (fun T27 H locs x28 hH2 hS zx28 kx28 => ?_)
  have mo29 : ∀ b j, T22 b = some j → T27 b = some j := x28.mono hH (Nat.le_refl _) nh26
  have gr30 : th_grow [0, 2, 3, 4, 5, 7, 8, 46] T T27 sz [6, 31, 10, 29, 5, 30, 10, 29, 4, 3, 10, 29, 9, 19, 18, 17, 16, 15, 28, 27, 26, 25, 24, 23, 22, 21, 20, 2, 46, 10, 29, 56, 61, 60, 59, 58, 57, 55, 54, 53, 52, 51, 50, 49, 48, 47, 1, 14, 13, 12, 11] := gr25.ext x28 hsz0 (by omega) (by decide)
  have hR : va_at D classes (a, .inr (10, [.ref h1, .ref h6, .ref h11, .ref h16, .ref h21, .null, .null, .null, .null, .int 0])) H := hR.kept (kx28 a (by omega) neh26)
  have hsz0 : sz ≤ H.size := by omega
  have hH := hH2; clear hH2
  have hn : T27 a = none := (x28.2.1 a (by omega) neh26).trans hn
  refine th_putRF (ty := .object "HungryMaps$Foresight") (v := .ref h26) S hK hH hS (Or.inl rfl) hn hR inG10 tyX10 tyX10_ok nmX10 rfl 5 (by decide) gm_510 rfl rfl hnm rfl (by decide +kernel) rfl rfl (Nat.le_of_ble_eq_true rfl) dX10_init_79 (fun H locs hR hH hS zp kp => ?_)
  have hR : va_at D classes (a, .inr (10, [.ref h1, .ref h6, .ref h11, .ref h16, .ref h21, .ref h26, .null, .null, .null, .int 0])) H := hR
  have hsz0 : sz ≤ H.size := by omega
  refine lv_aload_n hx hb dX10_init_82 rfl (lv_at hl 0 rfl) ?_
  refine th_newo (ci := 5) (fs := [.null, .null, .int 0, .null, .null, .null, .null, .null, .null, .int 0, .int 0, .int 0, .int 0]) S hK hH hS inG5 tyX5 tyX5_ok gm_419 gm_420 gm_122 rfl (fun j hj => by have : j < 13 := hj; rcases (show j = 0 ∨ j = 1 ∨ j = 2 ∨ j = 3 ∨ j = 4 ∨ j = 5 ∨ j = 6 ∨ j = 7 ∨ j = 8 ∨ j = 9 ∨ j = 10 ∨ j = 11 ∨ j = 12 by omega) with rfl | rfl | rfl | rfl | rfl | rfl | rfl | rfl | rfl | rfl | rfl | rfl | rfl <;> rfl) (by decide) (by decide) dX10_init_83 (fun h31 H eh31 hH nh31 rh31 hS zh31 kh31 => ?_)
  have neh31 : a ≠ h31 := by omega
  have hR : va_at D classes (a, .inr (10, [.ref h1, .ref h6, .ref h11, .ref h16, .ref h21, .ref h26, .null, .null, .null, .int 0])) H := hR.kept (kh31 a (by omega))
  have hsz0 : sz ≤ H.size := by omega
  refine lv_dup hx hb dX10_init_86 rfl ?_
  refine lv_aload_n hx hb dX10_init_87 rfl (lv_at hl 0 rfl) ?_
  refine th_getR (v := .ref h16) S hK hR inG10 rfl 3 (by decide) gm_508 rfl rfl dX10_init_88 ?_
  refine th_callC (n := 1) (As := [.ref h16]) S hK hO hH hS hA (Or.inr (by omega)) rfl nh31 rh31 (k_X5_init_k7 l D cT T27 h31 H.size h16 (mo29 _ _ (mo24 _ _ x18.1))) gm_423 gm_421 gm_422 gm_122 rfl (by decide +kernel) ⟨rfl, rfl, Nat.le_of_ble_eq_true rfl, Nat.le_of_ble_eq_true rfl⟩ rfl hl.1 rfl (Nat.le_of_ble_eq_true rfl) dX10_init_91 ⟨Nat.le_of_ble_eq_true rfl, Nat.le_of_ble_eq_true rfl⟩ (fun T32 H locs x33 hH2 hS zx33 kx33 => ?_)
  have mo34 : ∀ b j, T27 b = some j → T32 b = some j := x33.mono hH (Nat.le_refl _) nh31
  have gr35 : th_grow [0, 2, 3, 4, 5, 7, 8, 46] T T32 sz [7, 32, 10, 29, 38, 38, 37, 36, 35, 34, 6, 31, 10, 29, 5, 30, 10, 29, 4, 3, 10, 29, 9, 19, 18, 17, 16, 15, 28, 27, 26, 25, 24, 23, 22, 21, 20, 2, 46, 10, 29, 56, 61, 60, 59, 58, 57, 55, 54, 53, 52, 51, 50, 49, 48, 47, 1, 14, 13, 12, 11] := gr30.ext x33 hsz0 (by omega) (by decide)
  have hR : va_at D classes (a, .inr (10, [.ref h1, .ref h6, .ref h11, .ref h16, .ref h21, .ref h26, .null, .null, .null, .int 0])) H := hR.kept (kx33 a (by omega) neh31)
  have hsz0 : sz ≤ H.size := by omega
  have hH := hH2; clear hH2
  have hn : T32 a = none := (x33.2.1 a (by omega) neh31).trans hn
  refine th_putRF (ty := .object "HungryMaps$Rations") (v := .ref h31) S hK hH hS (Or.inl rfl) hn hR inG10 tyX10 tyX10_ok nmX10 rfl 6 (by decide) gm_511 rfl rfl hnm rfl (by decide +kernel) rfl rfl (Nat.le_of_ble_eq_true rfl) dX10_init_94 (fun H locs hR hH hS zp kp => ?_)
  have hR : va_at D classes (a, .inr (10, [.ref h1, .ref h6, .ref h11, .ref h16, .ref h21, .ref h26, .ref h31, .null, .null, .int 0])) H := hR
  have hsz0 : sz ≤ H.size := by omega
  refine lv_aload_n hx hb dX10_init_97 rfl (lv_at hl 0 rfl) ?_
  refine th_newo (ci := 9) (fs := [.null, .null, .null, .null, .null, .null, .int 0, .int 0]) S hK hH hS inG9 tyX9 tyX9_ok gm_469 gm_470 gm_123 rfl (fun j hj => by have : j < 8 := hj; rcases (show j = 0 ∨ j = 1 ∨ j = 2 ∨ j = 3 ∨ j = 4 ∨ j = 5 ∨ j = 6 ∨ j = 7 by omega) with rfl | rfl | rfl | rfl | rfl | rfl | rfl | rfl <;> rfl) (by decide) (by decide) dX10_init_98 (fun h36 H eh36 hH nh36 rh36 hS zh36 kh36 => ?_)
  have neh36 : a ≠ h36 := by omega
  have hR : va_at D classes (a, .inr (10, [.ref h1, .ref h6, .ref h11, .ref h16, .ref h21, .ref h26, .ref h31, .null, .null, .int 0])) H := hR.kept (kh36 a (by omega))
  have hsz0 : sz ≤ H.size := by omega
  refine lv_dup hx hb dX10_init_101 rfl ?_
  refine th_callCN (n := 0) (host := RX10) (As := []) S hK hO hH hS hA (Or.inr (by omega)) rfl nh36 rh36 (k_X9_init_k8 l D cT T32 h36 H.size) gm_473 (by decide +kernel) gm_472 gm_123 rfl (by decide +kernel) ⟨rfl, rfl, Nat.le_of_ble_eq_true rfl, Nat.le_of_ble_eq_true rfl⟩ rfl hl.1 rfl (Nat.le_of_ble_eq_true rfl) dX10_init_102 ⟨Nat.le_of_ble_eq_true rfl, Nat.le_of_ble_eq_true rfl⟩ (fun T37 H locs x38 hH2 hS zx38 kx38 => ?_)
  have mo39 : ∀ b j, T32 b = some j → T37 b = some j := x38.mono hH (Nat.le_refl _) nh36
  have gr40 : th_grow [0, 2, 3, 4, 5, 7, 8, 46] T T37 sz [8, 45, 44, 43, 42, 41, 40, 7, 32, 10, 29, 38, 38, 37, 36, 35, 34, 6, 31, 10, 29, 5, 30, 10, 29, 4, 3, 10, 29, 9, 19, 18, 17, 16, 15, 28, 27, 26, 25, 24, 23, 22, 21, 20, 2, 46, 10, 29, 56, 61, 60, 59, 58, 57, 55, 54, 53, 52, 51, 50, 49, 48, 47, 1, 14, 13, 12, 11] := gr35.ext x38 hsz0 (by omega) (by decide)
  have hR : va_at D classes (a, .inr (10, [.ref h1, .ref h6, .ref h11, .ref h16, .ref h21, .ref h26, .ref h31, .null, .null, .int 0])) H := hR.kept (kx38 a (by omega) neh36)
  have hsz0 : sz ≤ H.size := by omega
  have hH := hH2; clear hH2
  have hn : T37 a = none := (x38.2.1 a (by omega) neh36).trans hn
  refine th_putRF (ty := .object "HungryMaps$Trials") (v := .ref h36) S hK hH hS (Or.inl rfl) hn hR inG10 tyX10 tyX10_ok nmX10 rfl 7 (by decide) gm_512 rfl rfl hnm rfl (by decide +kernel) rfl rfl (Nat.le_of_ble_eq_true rfl) dX10_init_105 (fun H locs hR hH hS zp kp => ?_)
  have hR : va_at D classes (a, .inr (10, [.ref h1, .ref h6, .ref h11, .ref h16, .ref h21, .ref h26, .ref h31, .ref h36, .null, .int 0])) H := hR
  have hsz0 : sz ≤ H.size := by omega
  refine lv_aload_n hx hb dX10_init_108 rfl (lv_at hl 0 rfl) ?_
  refine lv_iconst (v := 3) hx hb dX10_init_109 (by decide) ?_
  refine th_anew (N := 3) S hK hO hH hS gm_503 (by decide) (by decide) (by decide) (by decide) (by decide) dX10_init_110 (fun h41 H eh41 hH hnB hB hS zh41 kh41 => ?_)
  have neh41 : a ≠ h41 := by omega
  have hR : va_at D classes (a, .inr (10, [.ref h1, .ref h6, .ref h11, .ref h16, .ref h21, .ref h26, .ref h31, .ref h36, .null, .int 0])) H := hR.kept (kh41 a (by omega))
  have hsz0 : sz ≤ H.size := by omega
  refine th_putRF (ty := .array (.object "HungryMaps$State")) (v := .ref h41) S hK hH hS (Or.inl rfl) hn hR inG10 tyX10 tyX10_ok nmX10 rfl 8 (by decide) gm_513 rfl rfl hnm rfl (by decide +kernel) rfl rfl (Nat.le_of_ble_eq_true rfl) dX10_init_113 (fun H locs hR hH hS zp kp => ?_)
  have hR : va_at D classes (a, .inr (10, [.ref h1, .ref h6, .ref h11, .ref h16, .ref h21, .ref h26, .ref h31, .ref h36, .ref h41, .int 0])) H := hR
  have hB : H[h41]? = some (arrV (cT 4) 3 (fun _ => Value.null)) := (kp _ (Ne.symm neh41)).trans hB
  have hsz0 : sz ≤ H.size := by omega
  refine lv_aload_n hx hb dX10_init_116 rfl (lv_at hl 0 rfl) ?_
  refine lv_iconst (v := 0) hx hb dX10_init_117 (by decide) ?_
  refine th_putR (ty := .int) (v := .int 0) S hK hH hS (Or.inl rfl) hn hR inG10 tyX10 tyX10_ok nmX10 rfl 9 (by decide) gm_514 rfl rfl (by decide +kernel) rfl rfl (Nat.le_of_ble_eq_true rfl) dX10_init_118 (fun H locs hR hH hS zp kp => ?_)
  have hR : va_at D classes (a, .inr (10, [.ref h1, .ref h6, .ref h11, .ref h16, .ref h21, .ref h26, .ref h31, .ref h36, .ref h41, .int 0])) H := hR
  have hB : H[h41]? = some (arrV (cT 4) 3 (fun _ => Value.null)) := (kp _ (Ne.symm neh41)).trans hB
  have hsz0 : sz ≤ H.size := by omega
  refine lv_iconst (v := 0) hx hb dX10_init_121 (by decide) ?_
  refine lv_istore_n (lv' := [(1, .int (nI 0)), (0, .ref a)]) hx hb dX10_init_122 rfl hl (by decide) rfl (fun ls hl => ?_)
  have loop : ∀ (k i : Nat) (Tc : Nat → Option Nat) (H : Heap) (locs : List Loc) (ls : Array Slot) (gv : Nat → Value), i + k = 3 → th_grow [0, 2, 3, 4, 5, 7, 8, 46] T Tc sz [10, 29, 8, 45, 44, 43, 42, 41, 40, 7, 32, 10, 29, 38, 38, 37, 36, 35, 34, 6, 31, 10, 29, 5, 30, 10, 29, 4, 3, 10, 29, 9, 19, 18, 17, 16, 15, 28, 27, 26, 25, 24, 23, 22, 21, 20, 2, 46, 10, 29, 56, 61, 60, 59, 58, 57, 55, 54, 53, 52, 51, 50, 49, 48, 47, 1, 14, 13, 12, 11] → (∀ b j, T37 b = some j → Tc b = some j) → Tc a = none → Tc h41 = none → va_at D classes (a, .inr (10, [.ref h1, .ref h6, .ref h11, .ref h16, .ref h21, .ref h26, .ref h31, .ref h36, .ref h41, .int 0])) H → H[h41]? = some (arrV (cT 4) 3 gv) → (∀ j, j < i → th_V Tc (.inr 11) (gv j)) → th_H D cT Tc (kd qz) H → va_S (th_cA a sz) s.heap H locs → sz ≤ H.size → lv_has ls 2 [(1, .int (nI i)), (0, .ref a)] → W p l e (rmc 4 177 12873 73) s m [.ref a].toArray below meth c H locs (171 + 2 * i) (12741 + 44 * i) (MQ below (th_QC D cT T (kd qz) [0, 2, 3, 4, 5, 7, 8, 46] a 0 sz [33, 10, 29, 8, 45, 44, 43, 42, 41, 40, 7, 32, 10, 29, 38, 38, 37, 36, 35, 34, 6, 31, 10, 29, 5, 30, 10, 29, 4, 3, 10, 29, 9, 19, 18, 17, 16, 15, 28, 27, 26, 25, 24, 23, 22, 21, 20, 2, 46, 10, 29, 56, 61, 60, 59, 58, 57, 55, 54, 53, 52, 51, 50, 49, 48, 47, 1, 14, 13, 12, 11]) [.ref a].toArray s 177 12873 (th_cA a sz)) (F0 m 123 ls []) := by
    intro k
    induction k with
    | zero =>
      intro i Tc H locs ls gv hi gr mo hn hnB hR hB hg hH hS hsz0 hl
      refine lv_iload_n hx hb dX10_init_123 rfl (lv_at hl 0 rfl) ?_
      refine lv_iconst (v := 3) hx hb dX10_init_124 (by decide) ?_
      refine lv_icmp_ge (tgt := 147) hx hb dX10_init_125 (by decide) (fun cc => ?_) (fun cc => ?_)
      · skip
        have hi2 : i = 3 := by omega
        subst hi2
        have hH := th_typeA (k := 33) hH hnB hB kd_33 (fun j hj => hg j hj)
        obtain ⟨Td, eTd⟩ : ∃ t, t = th_new Tc h41 33 := ⟨_, rfl⟩
        rw [← eTd] at hH
        have mod : ∀ b j, Tc b = some j → Td b = some j := by rw [eTd]; exact th_new_sub hnB
        have grd : th_grow [0, 2, 3, 4, 5, 7, 8, 46] T Td sz [33, 10, 29, 8, 45, 44, 43, 42, 41, 40, 7, 32, 10, 29, 38, 38, 37, 36, 35, 34, 6, 31, 10, 29, 5, 30, 10, 29, 4, 3, 10, 29, 9, 19, 18, 17, 16, 15, 28, 27, 26, 25, 24, 23, 22, 21, 20, 2, 46, 10, 29, 56, 61, 60, 59, 58, 57, 55, 54, 53, 52, 51, 50, 49, 48, 47, 1, 14, 13, 12, 11] := by rw [eTd]; exact gr.new (by omega) (by decide)
        have fraw : Td h41 = some 33 := by rw [eTd]; exact th_new_self
        have hn : Td a = none := by rw [eTd]; exact (th_new_ne neh41).trans hn
        have ho : th_Ol (th_new Td a 0) [.inr 2, .inr 3, .inr 4, .inr 5, .inr 6, .inr 7, .inr 8, .inr 9, .inr 34, .inl (-2147483648, 2147483647)] [.ref h1, .ref h6, .ref h11, .ref h16, .ref h21, .ref h26, .ref h31, .ref h36, .ref h41, .int 0] := (th_Ol.cons (⟨h1, rfl, th_new_sub hn _ _ (mod _ _ (mo _ _ (mo39 _ _ (mo34 _ _ (mo29 _ _ (mo24 _ _ (mo19 _ _ (mo14 _ _ (mo9 _ _ x3.1)))))))))⟩) (th_Ol.cons (⟨h6, rfl, th_new_sub hn _ _ (mod _ _ (mo _ _ (mo39 _ _ (mo34 _ _ (mo29 _ _ (mo24 _ _ (mo19 _ _ (mo14 _ _ x8.1))))))))⟩) (th_Ol.cons (⟨h11, rfl, th_new_sub hn _ _ (mod _ _ (mo _ _ (mo39 _ _ (mo34 _ _ (mo29 _ _ (mo24 _ _ (mo19 _ _ x13.1)))))))⟩) (th_Ol.cons (⟨h16, rfl, th_new_sub hn _ _ (mod _ _ (mo _ _ (mo39 _ _ (mo34 _ _ (mo29 _ _ (mo24 _ _ x18.1))))))⟩) (th_Ol.cons (⟨h21, rfl, th_new_sub hn _ _ (mod _ _ (mo _ _ (mo39 _ _ (mo34 _ _ (mo29 _ _ x23.1)))))⟩) (th_Ol.cons (⟨h26, rfl, th_new_sub hn _ _ (mod _ _ (mo _ _ (mo39 _ _ (mo34 _ _ x28.1))))⟩) (th_Ol.cons (⟨h31, rfl, th_new_sub hn _ _ (mod _ _ (mo _ _ (mo39 _ _ x33.1)))⟩) (th_Ol.cons (⟨h36, rfl, th_new_sub hn _ _ (mod _ _ (mo _ _ x38.1))⟩) (th_Ol.cons (⟨h41, rfl, th_new_sub hn _ _ fraw⟩) (th_Ol.cons (⟨_, rfl, by decide, by decide⟩) th_Ol.nil))))))))))
        have hH := th_type (k := 0) (ci := 10) hH hn hR kd_0 ⟨ho.1, ho.2, trivial⟩
        refine W.widen (k := 177) (n := 12873) (by decide) (by decide) ?_
        exact th_vretC S hK hH hS hr hlocks ((grd.sub (by decide)).fin) dX10_init_147
      · exact absurd (show (3 : Int32) ≤ nI i by rw [show i = 3 by omega]; decide) cc
    | succ k ih =>
      intro i Tc H locs ls gv hi gr mo hn hnB hR hB hg hH hS hsz0 hl
      refine lv_iload_n hx hb dX10_init_123 rfl (lv_at hl 0 rfl) ?_
      refine lv_iconst (v := 3) hx hb dX10_init_124 (by decide) ?_
      refine lv_icmp_ge (tgt := 147) hx hb dX10_init_125 (by decide) (fun cc => ?_) (fun cc => ?_)
      · exact absurd cc (by rw [show (3 : Int32) = nI 3 from by decide]; exact nI_ge (by omega) (by decide))
      · skip
        refine lv_aload_n hx hb dX10_init_128 rfl (lv_at hl 1 rfl) ?_
        refine th_getR (v := .ref h41) S hK hR inG10 rfl 8 (by decide) gm_513 rfl rfl dX10_init_129 ?_
        refine lv_iload_n hx hb dX10_init_132 rfl (lv_at hl 0 rfl) ?_
        refine th_newo (ci := 7) (fs := [.null]) S hK hH hS inG7 tyX7 tyX7_ok gm_503 gm_220 gm_118 rfl (fun j hj => by have : j < 1 := hj; rcases (show j = 0 by omega) with rfl <;> rfl) (by show 171 + 2 * i + 1 ≤ 177; omega) (by show 12741 + 44 * i + 1 ≤ 12873; omega) dX10_init_133 (fun h42 H eh42 hH nh42 rh42 hS zh42 kh42 => ?_)
        have neh42 : a ≠ h42 := by omega
        have hR : va_at D classes (a, .inr (10, [.ref h1, .ref h6, .ref h11, .ref h16, .ref h21, .ref h26, .ref h31, .ref h36, .ref h41, .int 0])) H := hR.kept (kh42 a (by omega))
        have lraw : h41 < h42 := by have := (Array.getElem?_eq_some_iff.mp hB).1; omega
        have hB : H[h41]? = some (arrV (cT 4) 3 gv) := (kh42 _ lraw).trans hB
        have hsz0 : sz ≤ H.size := by omega
        refine lv_dup hx hb dX10_init_136 rfl ?_
        refine th_callCN (n := 0) (host := RX10) (As := []) S hK hO hH hS hA (Or.inr (by omega)) rfl nh42 rh42 (k_X7_init_k10 l D cT Tc h42 H.size) gm_223 (by decide +kernel) gm_222 gm_118 rfl (by decide +kernel) ⟨rfl, rfl, Nat.le_of_ble_eq_true rfl, Nat.le_of_ble_eq_true rfl⟩ rfl hl.1 rfl (Nat.le_of_ble_eq_true rfl) dX10_init_137 ⟨by show 171 + 2 * i + 1 + 1 ≤ 177; omega, by show 12741 + 44 * i + 1 + 43 ≤ 12873; omega⟩ (fun T43 H locs x44 hH2 hS zx44 kx44 => ?_)
        have mo45 : ∀ b j, Tc b = some j → T43 b = some j := x44.mono hH (Nat.le_refl _) nh42
        have gr46 : th_grow [0, 2, 3, 4, 5, 7, 8, 46] T T43 sz [10, 29, 10, 29, 8, 45, 44, 43, 42, 41, 40, 7, 32, 10, 29, 38, 38, 37, 36, 35, 34, 6, 31, 10, 29, 5, 30, 10, 29, 4, 3, 10, 29, 9, 19, 18, 17, 16, 15, 28, 27, 26, 25, 24, 23, 22, 21, 20, 2, 46, 10, 29, 56, 61, 60, 59, 58, 57, 55, 54, 53, 52, 51, 50, 49, 48, 47, 1, 14, 13, 12, 11] := gr.ext x44 hsz0 (by omega) (by decide)
        have hR : va_at D classes (a, .inr (10, [.ref h1, .ref h6, .ref h11, .ref h16, .ref h21, .ref h26, .ref h31, .ref h36, .ref h41, .int 0])) H := hR.kept (kx44 a (by omega) neh42)
        have lraw2 : h41 ≠ h42 := by omega
        have lraw3 := (Array.getElem?_eq_some_iff.mp hB).1
        have hB : H[h41]? = some (arrV (cT 4) 3 gv) := (kx44 _ lraw3 lraw2).trans hB
        have hsz0 : sz ≤ H.size := by omega
        have hH := hH2; clear hH2
        have hn : T43 a = none := (x44.2.1 a (by omega) neh42).trans hn
        have hnB : T43 h41 = none := (x44.2.1 _ lraw3 lraw2).trans hnB
        refine th_aastR (k := 10) S hK hH hS (Or.inr (by omega)) hnB hB x44.1 kd_10 (nI_in (by omega) (by decide)) dX10_init_140 (fun H locs hB hH hS zp kp => ?_)
        have hR : va_at D classes (a, .inr (10, [.ref h1, .ref h6, .ref h11, .ref h16, .ref h21, .ref h26, .ref h31, .ref h36, .ref h41, .int 0])) H := hR.kept (kp a neh41)
        rw [nI_clamp (show i < 2 ^ 31 by omega)] at hB
        refine lv_iinc (v := nI (i + 1)) (lv' := [(1, .int (nI (i + 1))), (0, .ref a)]) hx hb dX10_init_141 hl (k := 0) rfl (nI_1 i) (by decide) rfl (fun ls hl => ?_)
        refine lv_goto (tgt := 123) hx hb dX10_init_144 (by decide) ?_
        refine W.widen (k := 171 + 2 * (i + 1)) (n := 12741 + 44 * (i + 1)) (by omega) (by omega) ?_
        exact ih (i + 1) T43 H locs ls _ (by omega) (gr46.sub (by decide)) (fun b j hb => mo45 _ _ (mo _ _ hb)) hn hnB hR hB (fun j hj => by
          by_cases z : j = i
          · rw [z]; simp only [updV, if_true]; exact ⟨h42, rfl, x44.1⟩
          · simp only [updV, if_neg z]; exact (hg j (by omega)).mono mo45) hH hS (by omega) hl
  exact loop 3 0 T37 H locs ls _ (by omega) (gr40.sub (by decide)) (fun _ _ h => h) hn hnB hR hB (fun j hj => absurd hj (Nat.not_lt_zero _)) hH hS hsz0 hl
