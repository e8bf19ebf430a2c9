theorem gm_134 : Cond.classLink RL 7 RX10 ∈ gw := gw_mem 134 (by decide +kernel) (by decide +kernel)
theorem gm_135 : Cond.instantiable RX10 10 ∈ gw := gw_mem 135 (by decide +kernel) (by decide +kernel)
theorem gm_136 : Cond.methodLink RL 9 yX10_init ∈ gw := gw_mem 136 (by decide +kernel) (by decide +kernel)
theorem gm_137 : Cond.instanceMethod yX10_init ∈ gw := gw_mem 137 (by decide +kernel) (by decide +kernel)
theorem gm_138 : Cond.code yX10_init cX10_init 2 none ∈ gw := gw_mem 138 (by decide +kernel) (by decide +kernel)
theorem gm_1212 : Cond.classLink RL 10 RX11 ∈ gw := gw_mem 1212 (by decide +kernel) (by decide +kernel)
theorem gm_1213 : Cond.instantiable RX11 69 ∈ gw := gw_mem 1213 (by decide +kernel) (by decide +kernel)
theorem gm_1214 : Cond.methodLink RL 12 yX11_init ∈ gw := gw_mem 1214 (by decide +kernel) (by decide +kernel)
theorem gm_1215 : Cond.instanceMethod yX11_init ∈ gw := gw_mem 1215 (by decide +kernel) (by decide +kernel)
theorem gm_1216 : Cond.code yX11_init cX11_init 1 none ∈ gw := gw_mem 1216 (by decide +kernel) (by decide +kernel)
theorem lw_tb {w : Cond} {s : State} {A : Array Value} (hts : ∀ w ∈ lw_tbl, w.before A s = true) (i : Nat) (h : lw_tbl[i]? = some w) : w.before A s = true := hts w (List.mem_of_getElem? h)
set_option maxRecDepth 100000 in
theorem lw_world {s : State} {A : Array Value} (hts : ∀ w ∈ lw_tbl, w.before A s = true) : ∃ (D : va_G) (cT : Nat → ClassId), va_K D classes (th_tys cT) s := by
  have hg : ∀ w ∈ gw, w.before A s = true := fun w h => hts w (List.mem_filter.mp h).1
  obtain ⟨c0, i0, k0⟩ := u_known (C := RX0) (T := TX0) (N := 1) (n := 1) hg inG0 (hg _ gm_364)
  obtain ⟨c1, i1, k1⟩ := u_known (C := RX1) (T := TX1) (N := 3) (n := 3) hg inG1 (hg _ gm_401)
  obtain ⟨c2, i2, k2⟩ := u_known (C := RX2) (T := TX2) (N := 7) (n := 7) hg inG2 (hg _ gm_189)
  obtain ⟨c3, i3, k3⟩ := u_known (C := RX3) (T := TX3) (N := 4) (n := 4) hg inG3 (hg _ gm_377)
  obtain ⟨c4, i4, k4⟩ := u_known (C := RX4) (T := TX4) (N := 19) (n := 19) hg inG4 (hg _ gm_183)
  obtain ⟨c5, i5, k5⟩ := u_known (C := RX5) (T := TX5) (N := 13) (n := 13) hg inG5 (hg _ gm_420)
  obtain ⟨c6, i6, k6⟩ := u_known (C := RX6) (T := TX6) (N := 6) (n := 6) hg inG6 (hg _ gm_177)
  obtain ⟨c7, i7, k7⟩ := u_known (C := RX7) (T := TX7) (N := 1) (n := 1) hg inG7 (hg _ gm_220)
  obtain ⟨c8, i8, k8⟩ := u_known (C := RX8) (T := TX8) (N := 6) (n := 6) hg inG8 (hg _ gm_143)
  obtain ⟨c9, i9, k9⟩ := u_known (C := RX9) (T := TX9) (N := 8) (n := 8) hg inG9 (hg _ gm_470)
  obtain ⟨c10, i10, k10⟩ := u_known (C := RX10) (T := TX10) (N := 10) (n := 10) hg inG10 (hg _ gm_135)
  obtain ⟨c11, i11, k11⟩ := u_known (C := RX11) (T := TX11) (N := 69) (n := 69) hg inG11 (hg _ gm_1213)
  obtain ⟨d0, e0, f0, p0, q0, r0⟩ := Cond.arrayClass_spec (hg _ gm_174)
  obtain ⟨d1, e1, f1, p1, q1, r1⟩ := Cond.arrayClass_spec (hg _ gm_173)
  obtain ⟨d2, e2, f2, p2, q2, r2⟩ := Cond.arrayClass_spec (hg _ gm_175)
  obtain ⟨d3, e3, f3, p3, q3, r3⟩ := Cond.arrayClass_spec (hg _ gm_502)
  obtain ⟨f4, d4, e4, p4, n4, q4, r4, m4⟩ := Cond.arrayOver_spec (lw_tb (w := Cond.arrayOver (.object "HungryMaps$State")) hts 383 (by decide +kernel))
  refine ⟨(fun k => match k with | 0 => c0 | 1 => c1 | 2 => c2 | 3 => c3 | 4 => c4 | 5 => c5 | 6 => c6 | 7 => c7 | 8 => c8 | 9 => c9 | 10 => c10 | _ => c11, fun k => match k with | 0 => i0 | 1 => i1 | 2 => i2 | 3 => i3 | 4 => i4 | 5 => i5 | 6 => i6 | 7 => i7 | 8 => i8 | 9 => i9 | 10 => i10 | _ => i11), fun k => match k with | 0 => d0 | 1 => d1 | 2 => d2 | 3 => d3 | _ => d4, ?_, ?_⟩
  · intro k q hq
    match k, hq with
    | 0, hq => cases hq; exact k0
    | 1, hq => cases hq; exact k1
    | 2, hq => cases hq; exact k2
    | 3, hq => cases hq; exact k3
    | 4, hq => cases hq; exact k4
    | 5, hq => cases hq; exact k5
    | 6, hq => cases hq; exact k6
    | 7, hq => cases hq; exact k7
    | 8, hq => cases hq; exact k8
    | 9, hq => cases hq; exact k9
    | 10, hq => cases hq; exact k10
    | 11, hq => cases hq; exact k11
    | k + 12, hq => simp [classes] at hq
  · intro k q hq
    match k, hq with
    | 0, hq => cases hq; exact ⟨fun n z => ⟨fun k h => (by cases h), e0, q0, f0, r0⟩, p0⟩
    | 1, hq => cases hq; exact ⟨fun n z => ⟨fun k h => (by cases h), e1, q1, f1, r1⟩, p1⟩
    | 2, hq => cases hq; exact ⟨fun n z => ⟨fun k h => (by cases h), e2, q2, f2, r2⟩, p2⟩
    | 3, hq => cases hq; exact ⟨fun n z => ⟨fun k h => (by cases h), e3, q3, f3, r3⟩, p3⟩
    | 4, hq => cases hq; exact ⟨fun n z => ⟨fun k h => (by cases h), e4, q4, f4, r4⟩, e4, f4, q4, r4, p4, m4⟩
    | k + 5, hq => simp [th_tys] at hq
theorem lw_E {s : State} {A : Array Value} (hts : ∀ w ∈ lw_tbl, w.before A s = true) : th_E s :=
  ⟨va_AO.of (A := A) (lw_tb hts 383 (by decide +kernel)), List.forall_mem_cons.mpr ⟨va_Nw.of (A := A) rfl (lw_tb hts 144 (by decide +kernel)), List.forall_mem_cons.mpr ⟨va_Nw.of (A := A) rfl (lw_tb hts 184 (by decide +kernel)), List.forall_mem_cons.mpr ⟨va_Nw.of (A := A) rfl (lw_tb hts 190 (by decide +kernel)), List.forall_mem_cons.mpr ⟨va_Nw.of (A := A) rfl (lw_tb hts 221 (by decide +kernel)), List.forall_mem_cons.mpr ⟨va_Nw.of (A := A) rfl (lw_tb hts 362 (by decide +kernel)), List.forall_mem_cons.mpr ⟨va_Nw.of (A := A) rfl (lw_tb hts 384 (by decide +kernel)), List.forall_mem_cons.mpr ⟨va_Nw.of (A := A) rfl (lw_tb hts 407 (by decide +kernel)), List.forall_mem_cons.mpr ⟨va_Nw.of (A := A) rfl (lw_tb hts 426 (by decide +kernel)), List.forall_mem_cons.mpr ⟨va_Nw.of (A := A) rfl (lw_tb hts 471 (by decide +kernel)), List.forall_mem_cons.mpr ⟨va_Nw.of (A := A) rfl (lw_tb hts 504 (by decide +kernel)), fun _ h => absurd h List.not_mem_nil⟩⟩⟩⟩⟩⟩⟩⟩⟩⟩⟩
def lw_tm (i : Nat) : Term := match i with
  | 0 => .string "HungryMaps$Tape" 68
  | _ => .string "HungryMaps$Tape" 47
theorem lw_strs {s : State} {A : Array Value} (hts : ∀ w ∈ lw_tbl, w.before A s = true) (hgv : (Jvm.Cond.and given_1 narrow_1).before A s = true) : ∃ adK adV : Nat → Nat, st_S adK adV (fun q => s.heap.size ≤ q) s s.heap ∧ vk_R "HungryMaps$Tape" 68 "food map place likes border taste winter draw scale year eaten cold size worth holes hunger in folded on or and not " (adK 0) s ∧ vk_R "HungryMaps$Tape" 47 ";()<>=+-*/%" (adK 1) s := by
  have hs := flat_of_before _ hgv
  have hA : ∀ a : Nat, a < s.heap.size → ¬ (fun q : Nat => s.heap.size ≤ q) a := fun a h => Nat.not_le.mpr h
  have two : ∀ {P : Nat → Prop}, P 0 → P 1 → ∀ i, i < 2 → P i := fun h0 h1 i hi => by
    match i, hi with
    | 0, _ => exact h0
    | 1, _ => exact h1
  obtain ⟨adK, adV, h1, h2⟩ := vk_Sof (args := A) (s := s) (N := 2) (tm := lw_tm) (len := sl_len) (byt := sl_byt) (A := fun q => s.heap.size ≤ q) (two (by decide) (by decide)) (two (hs _ (by decide +kernel)) (hs _ (by decide +kernel))) (two (hs _ (by decide +kernel)) (hs _ (by decide +kernel))) (two (hs _ (by decide +kernel)) (hs _ (by decide +kernel))) (two (hs _ (by decide +kernel)) (hs _ (by decide +kernel)))
    (fun i hi j hj => hs _ ((by decide +kernel : ∀ i, i < 2 → ∀ j, j < sl_len.getD i 0 → Cond.eq (.elem (.field (lw_tm i) "java/lang/String" "value" "[B") (.int (Int32.ofNat j))) (.int ((sl_byt.getD i []).getD j 0)) ∈ flatC (Jvm.Cond.and given_1 narrow_1)) i hi j hj))
    (fun i j hi hj hn => (by decide +kernel : ∀ i, i < 2 → ∀ j, j < 2 → i ≠ j → Cond.not (Cond.eq (lw_tm i) (lw_tm j)) ∈ flatC (Jvm.Cond.and given_1 narrow_1) ∨ Cond.not (Cond.eq (lw_tm j) (lw_tm i)) ∈ flatC (Jvm.Cond.and given_1 narrow_1)) i hi j hj hn |>.imp (hs _) (hs _)) hA
  exact ⟨adK, adV, ⟨h1, va_Zof (lw_tb hts 581 (by decide +kernel)) (lw_tb hts 125 (by decide +kernel)) (va_eqi (hs _ (by decide +kernel))) hA, va_Zqof (lw_tb hts 597 (by decide +kernel)) (lw_tb hts 127 (by decide +kernel)) (hs _ (by decide +kernel)) hA⟩, vk_R.of (A := A) (lw_tb hts 571 (by decide +kernel)) (h2 0 (by decide)), vk_R.of (A := A) (lw_tb hts 631 (by decide +kernel)) (h2 1 (by decide))⟩
theorem lw_kz : kd qz = kd qz := rfl
section LWM
variable {p : Program} {l : Launch} {e : Env} {R : Room} {s : State} {m : MethodId} {args : Array Value} {below : List Frame} {meth : Method} {c : Code} {H : Heap} {locs : List Loc} {cells slots : Nat} {Q : State → Prop}
variable {cc bytes : ByteArray} {pc nL maxL n index : Nat} {ls : Array Slot} {rest st0 As : List Value} {D : va_G} {cT : Nat → ClassId} {T Tm : Nat → Option Nat} {q qq : Nat → Int} {a am : Nat} {own : String} {y : MethodName} {ret : Option FieldType} {rm : Room} {post : Option Value → Prop} {wk : List Nat} {adK adV : Nat → Nat}
/-- the reference's constructor beside the class's world -/
theorem lw_callM {sz : Nat} (S : CallFix p m c cc nL s args gw own) (hK : va_K D classes (th_tys cT) s) (hO : th_E s) (hc : th_H D cT T (kd q) H) (hS : va_S (fun q => s.heap.size ≤ q) s.heap H locs) (hh : H.size = sz) (hsa : s.heap.size ≤ am) (hTa : T am = none) (hR : va_at D classes (am, .inr (11, [.null, .null, .int 0, .int 0, .int 0, .int 0, .int 0, .int 0, .int 0, .int 0, .long 0, .null, .null, .null, .null, .null, .null, .null, .null, .null, .null, .null, .null, .null, .null, .null, .null, .null, .null, .null, .null, .null, .null, .null, .null, .null, .null, .null, .null, .null, .null, .int 0, .int 0, .int 0, .int 0, .int 0, .int 0, .int 0, .int 0, .int 0, .int 0, .int 0, .null, .null, .int 0, .int 0, .null, .null, .null, .int 0, .null, .null, .null, .null, .null, .int 0, .int 0, .null, .null])) H)
    (hlink : Cond.methodLink own index yX11_init ∈ gw) (hl : ls.size = nL) (hrest : (rest.map fun v => v.category).sum ≤ 8) (hR2 : 2 + 1 ≤ R.frames ∧ 8 + (1 + 11) + 41 ≤ R.locals) (hdg : decode cc pc = .ok (.invokespecial index, 3)) (hcs : cells + 44 ≤ R.cells ∧ slots + 8081 ≤ R.slots)
    (kk : ∀ (Tm : Nat → Option Nat) (qq : Nat → Int) (H1 : Heap) (locs1 : List Loc), Tm am = some 0 → tokm Tm → qkm qq → qq 7 + qq 8 ≤ 40 → qq 9 = 0 → (∀ b j, Tm b = some j → b = am ∨ sz ≤ b) → th_H D cT Tm (km qq) H1 → th_H D cT T (kd q) H1 → va_S (fun q => s.heap.size ≤ q) s.heap H1 locs1 → W p l e R s m args below meth c H1 locs1 (cells + 44) (slots + 8081) Q (F0 m (pc + 3) ls rest)) : W p l e R s m args below meth c H locs cells slots Q (F0 m pc ls (.ref am :: rest)) := by
  have hts := S.2.2.2.2
  have hG : GoodIn gw (Cond.code yX11_init cX11_init 1 none :: gw) := fun w hw => by
    have h1 : w ∈ gw := by
      rcases List.mem_cons.mp hw with h | h
      · rw [h]; exact gm_1216
      · exact h
    exact ⟨h1, gw_good h1⟩
  have hm : th_H D cT (fun _ => none) (km qm) H := fun b k h => by cases h
  have hr := va_runI (e := e) (below := below) (meth := meth) (locs := locs) (As := []) (rest := rest) S (k_X11_init l D cT (fun _ => none) am sz (fun _ => rfl)) ⟨callB_of 0 hts hG rfl rfl rfl (hts _ gm_124) (hts _ hlink) (by decide +kernel) hR2, rfl, hts _ gm_1215⟩ ⟨th_blindC, th_preC hK hO hm hh rfl hR⟩ rfl rfl hl (g := F0 m pc ls (.ref am :: rest)) rfl (lv_room hrest) hdg hcs
  intro T0 hT X
  obtain ⟨v, st₀, t, T', Lo, h0, X', hL, e1, e2, ⟨⟨Tm, qq, hv, g1, g2, g3, g4, g5, g6, hb⟩, hz, hk⟩, st⟩ := hr T0 hT X
  cases hv
  rw [h0] at hz hk
  have hA : ∀ b, th_cA am sz b → s.heap.size ≤ b := fun b h => by
    rcases h with h | h
    · rw [h]; exact hsa
    · have := hS.1; omega
  obtain ⟨t2, a1, b1⟩ := kk Tm qq T'.heap (locs ++ Lo) g1 g2 g3 g4 g5 g6 (by rw [e1]; exact hb.1) (hc.same (fun b k hb1 => by rw [e1]; exact hk b (hc.dom hb1) (fun z => by
      rcases z with z | z
      · rw [z, hTa] at hb1; cases hb1
      · have := hc.dom hb1; omega))) ⟨Nat.le_trans hS.1 (by rw [e1]; exact hz), fun b h1 h2 => by
      rw [e1, hk b (Nat.lt_of_lt_of_le h1 hS.1) (fun z => h2 (hA b z))]; exact hS.2.1 b h1 h2, fun b hb1 => by
      rcases List.mem_append.mp hb1 with h | h
      · exact hS.2.2 b h
      · exact hA _ (hL b h)⟩ T' rfl X'
  exact ⟨t2, st t2 a1, b1⟩
end LWM
theorem lw_tokS {T2 : Nat → Option Nat} {sz a : Nat} {nk : List Nat} (h0 : 0 ∉ nk) (hx : th_ext [0, 2, 3, 4, 5, 7, 8, 46] (fun _ => none) T2 sz a 0 nk) : tokS T2 := by
  obtain ⟨h1, h2, h3, h4⟩ := hx
  have hlow : ∀ b j, T2 b = some j → b ≠ a → sz ≤ b := fun b j hb hn => by
    by_cases hl : b < sz
    · rw [h2 b hl hn] at hb; cases hb
    · omega
  have hk0 : ∀ b, T2 b = some 0 → b = a := fun b hb => by
    by_cases hn : b = a
    · exact hn
    · exact absurd (h3 b 0 (hlow b 0 hb hn) hn hb) h0
  intro k hk x y hx hy
  by_cases hxa : x = a
  · subst hxa
    cases h1.symm.trans hx
    exact (hk0 y hy).symm
  · by_cases hya : y = a
    · subst hya
      cases h1.symm.trans hy
      exact hk0 x hx
    · exact h4 k hk x y (hlow x k hx hxa) (hlow y k hy hya) hxa hya hx hy
theorem lw_qz : qokr qz := by
  refine ⟨?_, by decide⟩
  unfold qok
  decide
theorem lw_fs11 : ∀ j, j < 69 → defaultValue (tyX11 j) = vp_V [.null, .null, .int 0, .int 0, .int 0, .int 0, .int 0, .int 0, .int 0, .int 0, .long 0, .null, .null, .null, .null, .null, .null, .null, .null, .null, .null, .null, .null, .null, .null, .null, .null, .null, .null, .null, .null, .null, .null, .null, .null, .null, .null, .null, .null, .null, .null, .int 0, .int 0, .int 0, .int 0, .int 0, .int 0, .int 0, .int 0, .int 0, .int 0, .int 0, .null, .null, .int 0, .int 0, .null, .null, .null, .int 0, .null, .null, .null, .null, .null, .int 0, .int 0, .null, .null] j := by decide +kernel
theorem lw_fs10 : ∀ j, j < 10 → defaultValue (tyX10 j) = vp_V [.null, .null, .null, .null, .null, .null, .null, .null, .null, .int 0] j := by decide +kernel
set_option maxHeartbeats 4000000 in
set_option maxRecDepth 100000 in
/-- the law from its entry -/
theorem whole_start {p : Program} {e : Env} {s : State} {m : MethodId} {below : List Frame} {meth : Method} {c : Code} (l : Launch) {b L : Nat} {xs : Nat → Int32} (hL : L ≤ 3072) (C0 : lw_At p s m meth c b L xs) : W p l e room_1 s m #[Value.ref b] below meth c s.heap [] 0 0 (lw_Z below #[Value.ref b] s) (entryFrame m ([Value.ref b] : List Value).toArray 4) := by
  obtain ⟨hx, hb, hr, hml, hown, hts, hX, hbl, hlocks, hgv⟩ := id C0
  have S : CallFix p m c code 4 s #[Value.ref b] gw RL := ⟨hx, hb, hml, hown, fun w h => hts w (List.mem_filter.mp h).1⟩
  obtain ⟨D, cT, hK⟩ := lw_world hts
  have hO : th_E s := lw_E hts
  obtain ⟨adK, adV, hE⟩ := lw_strs hts hgv
  have hA : ∀ q : Nat, s.heap.size ≤ q → (fun q : Nat => s.heap.size ≤ q) q := fun _ h => h
  have hl := lv_entry ([.ref b]) (n := 4) (Nat.le_of_ble_eq_true rfl)
  rw [lg_entry_eq]
  generalize (lg_sl ([.ref b]) ++ List.replicate (4 - (lg_sl ([.ref b])).length) Slot.unset).toArray = ls at hl ⊢
  have hl : lv_has ls 4 [(0, .ref b)] := hl
  have hH : th_H D cT (fun _ => none) (kd qz) s.heap := fun b k h => by cases h
  have hS : va_S (fun q : Nat => s.heap.size ≤ q) s.heap s.heap [] := va_S.rf
  refine th_newo (ci := 10) (fs := [.null, .null, .null, .null, .null, .null, .null, .null, .null, .int 0]) S hK hH hS inG10 tyX10 tyX10_ok gm_134 gm_135 gm_113 rfl lw_fs10 (Nat.le_of_ble_eq_true rfl) (Nat.le_of_ble_eq_true rfl) dL_law_0 (fun a H1 ea hH na ra hS za ka => ?_)
  refine lv_dup hx hb dL_law_3 rfl ?_
  refine th_callC (n := 0) (As := []) (rest := [.ref a]) S hK hO hH hS hA (Nat.le_of_eq ea) za na ra (k_X10_init_k0 l D cT (fun _ => none) a (a + 1)) gm_138 gm_136 gm_137 gm_113 rfl (by decide +kernel) ⟨rfl, rfl, Nat.le_of_ble_eq_true rfl, Nat.le_of_ble_eq_true rfl⟩ rfl hl.1 rfl (Nat.le_of_ble_eq_true rfl) dL_law_4 ⟨Nat.le_of_ble_eq_true rfl, Nat.le_of_ble_eq_true rfl⟩ (fun T H locs hT hH hS hz hk => ?_)
  refine lv_astore_n (lv' := [(1, .ref a), (0, .ref b)]) hx hb dL_law_7 rfl hl (by decide) rfl (fun ls hl => ?_)
  have hTs : ∀ d, T d ≠ none → s.heap.size ≤ d := fun d hd => by
    by_cases h1 : d = a
    · omega
    · by_cases h2 : d < a + 1
      · exact absurd (hT.2.1 d h2 h1) hd
      · omega
  refine th_newo (ci := 11) (fs := [.null, .null, .int 0, .int 0, .int 0, .int 0, .int 0, .int 0, .int 0, .int 0, .long 0, .null, .null, .null, .null, .null, .null, .null, .null, .null, .null, .null, .null, .null, .null, .null, .null, .null, .null, .null, .null, .null, .null, .null, .null, .null, .null, .null, .null, .null, .null, .int 0, .int 0, .int 0, .int 0, .int 0, .int 0, .int 0, .int 0, .int 0, .int 0, .int 0, .null, .null, .int 0, .int 0, .null, .null, .null, .int 0, .null, .null, .null, .null, .null, .int 0, .int 0, .null, .null]) S hK hH hS inG11 tyX11 tyX11_ok gm_1212 gm_1213 gm_124 rfl lw_fs11 (Nat.le_of_ble_eq_true rfl) (Nat.le_of_ble_eq_true rfl) dL_law_8 (fun am H3 eam hH3 nam ram hS3 zam kam => ?_)
  have hTlt : ∀ d, T d ≠ none → d < am := fun d hd => by
    cases hd2 : T d with
    | none => exact absurd hd2 hd
    | some k => rw [← eam]; exact hH.dom hd2
  refine lv_dup hx hb dL_law_11 rfl ?_
  refine lw_callM (rest := [.ref am]) S hK hO hH3 hS3 zam (by have := hS.1; omega) nam ram gm_1214 hl.1 (Nat.le_of_ble_eq_true rfl) ⟨Nat.le_of_ble_eq_true rfl, Nat.le_of_ble_eq_true rfl⟩ dL_law_12 ⟨Nat.le_of_ble_eq_true rfl, Nat.le_of_ble_eq_true rfl⟩ (fun Tm qq H4 locs4 g1 g2 g3 g4 g5 g6 hm hH4 hS4 => ?_)
  refine lv_astore_n (lv' := [(2, .ref am), (1, .ref a), (0, .ref b)]) hx hb dL_law_15 rfl hl (by decide) rfl (fun ls hl => ?_)
  refine lv_iconst (v := 0) hx hb dL_law_16 (by decide) ?_
  refine lv_istore_n (lv' := [(3, .int (nI 0)), (2, .ref am), (1, .ref a), (0, .ref b)]) hx hb dL_law_17 rfl hl (by decide) rfl (fun ls hl => ?_)
  exact law_loop S hK hX hbl hL hE hr hlocks (L + 6) 0 (by omega) (by omega) ls hl T qz Tm qq H4 locs4 ⟨⟨hH4, hm, ⟨lw_tokS (by decide) hT, lw_qz, hT.1⟩, ⟨g2, g3, g4, g1⟩, fun d hd => by
      cases hd2 : Tm d with
      | none => rfl
      | some j =>
        have h1 := hTlt d hd
        rcases g6 d j hd2 with h | h
        · omega
        · omega, fun d hd => by
      rcases hd with hd | hd
      · exact hTs d hd
      · cases hd2 : Tm d with
        | none => exact absurd hd2 hd
        | some j =>
          have h1 := hS.1
          rcases g6 d j hd2 with h | h
          · omega
          · omega, hS4⟩, by rw [g5]; rfl⟩
