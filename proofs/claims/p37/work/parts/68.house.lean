theorem gm_273 : Cond.fieldLink RX10 100 RX4 "first" "LHungryMaps$State;" ∈ gw := gw_mem 273 (by decide +kernel) (by decide +kernel)
theorem gm_341 : Cond.fieldLink RX10 96 RX6 "house" "LHungryMaps$House;" ∈ gw := gw_mem 341 (by decide +kernel) (by decide +kernel)
theorem gm_371 : Cond.fieldLink RX10 99 RX0 "house" "LHungryMaps$House;" ∈ gw := gw_mem 371 (by decide +kernel) (by decide +kernel)
theorem gm_552 : Cond.methodLink RX10 89 yX8_scan ∈ gw := gw_mem 552 (by decide +kernel) (by decide +kernel)
theorem gm_553 : Cond.instanceMethod yX8_scan ∈ gw := gw_mem 553 (by decide +kernel) (by decide +kernel)
theorem gm_554 : Cond.selects RX8 yX8_scan yX8_scan ∈ gw := gw_mem 554 (by decide +kernel) (by decide +kernel)
theorem gm_555 : Cond.code yX8_scan cX8_scan 4 none ∈ gw := gw_mem 555 (by decide +kernel) (by decide +kernel)
theorem gm_689 : Cond.methodLink RX10 92 yX6_readAll ∈ gw := gw_mem 689 (by decide +kernel) (by decide +kernel)
theorem gm_690 : Cond.instanceMethod yX6_readAll ∈ gw := gw_mem 690 (by decide +kernel) (by decide +kernel)
theorem gm_691 : Cond.selects RX6 yX6_readAll yX6_readAll ∈ gw := gw_mem 691 (by decide +kernel) (by decide +kernel)
theorem gm_692 : Cond.code yX6_readAll cX6_readAll 4 (some .boolean) ∈ gw := gw_mem 692 (by decide +kernel) (by decide +kernel)
theorem dX10_house_0 : decode cX10_house 0 = .ok (.aload_n 0, 1) := by decide +kernel
theorem dX10_house_1 : decode cX10_house 1 = .ok (.getfield 12, 3) := by decide +kernel
theorem dX10_house_4 : decode cX10_house 4 = .ok (.invokevirtual 89, 3) := by decide +kernel
theorem dX10_house_7 : decode cX10_house 7 = .ok (.aload_n 0, 1) := by decide +kernel
theorem dX10_house_8 : decode cX10_house 8 = .ok (.getfield 21, 3) := by decide +kernel
theorem dX10_house_11 : decode cX10_house 11 = .ok (.invokevirtual 92, 3) := by decide +kernel
theorem dX10_house_14 : decode cX10_house 14 = .ok (.ifCond .ne 5, 3) := by decide +kernel
theorem dX10_house_17 : decode cX10_house 17 = .ok (.iconst (-1), 1) := by decide +kernel
theorem dX10_house_18 : decode cX10_house 18 = .ok (.ireturn, 1) := by decide +kernel
theorem dX10_house_19 : decode cX10_house 19 = .ok (.aload_n 0, 1) := by decide +kernel
theorem dX10_house_20 : decode cX10_house 20 = .ok (.getfield 28, 3) := by decide +kernel
theorem dX10_house_23 : decode cX10_house 23 = .ok (.astore_n 1, 1) := by decide +kernel
theorem dX10_house_24 : decode cX10_house 24 = .ok (.aload_n 0, 1) := by decide +kernel
theorem dX10_house_25 : decode cX10_house 25 = .ok (.aload_n 0, 1) := by decide +kernel
theorem dX10_house_26 : decode cX10_house 26 = .ok (.getfield 21, 3) := by decide +kernel
theorem dX10_house_29 : decode cX10_house 29 = .ok (.getfield 96, 3) := by decide +kernel
theorem dX10_house_32 : decode cX10_house 32 = .ok (.putfield 28, 3) := by decide +kernel
theorem dX10_house_35 : decode cX10_house 35 = .ok (.aload_n 0, 1) := by decide +kernel
theorem dX10_house_36 : decode cX10_house 36 = .ok (.getfield 21, 3) := by decide +kernel
theorem dX10_house_39 : decode cX10_house 39 = .ok (.aload_n 1, 1) := by decide +kernel
theorem dX10_house_40 : decode cX10_house 40 = .ok (.putfield 96, 3) := by decide +kernel
theorem dX10_house_43 : decode cX10_house 43 = .ok (.aload_n 0, 1) := by decide +kernel
theorem dX10_house_44 : decode cX10_house 44 = .ok (.getfield 37, 3) := by decide +kernel
theorem dX10_house_47 : decode cX10_house 47 = .ok (.aload_n 0, 1) := by decide +kernel
theorem dX10_house_48 : decode cX10_house 48 = .ok (.getfield 28, 3) := by decide +kernel
theorem dX10_house_51 : decode cX10_house 51 = .ok (.putfield 99, 3) := by decide +kernel
theorem dX10_house_54 : decode cX10_house 54 = .ok (.aload_n 0, 1) := by decide +kernel
theorem dX10_house_55 : decode cX10_house 55 = .ok (.getfield 12, 3) := by decide +kernel
theorem dX10_house_58 : decode cX10_house 58 = .ok (.iconst 0, 1) := by decide +kernel
theorem dX10_house_59 : decode cX10_house 59 = .ok (.putfield 82, 3) := by decide +kernel
theorem dX10_house_62 : decode cX10_house 62 = .ok (.aload_n 0, 1) := by decide +kernel
theorem dX10_house_63 : decode cX10_house 63 = .ok (.getfield 44, 3) := by decide +kernel
theorem dX10_house_66 : decode cX10_house 66 = .ok (.aload_n 0, 1) := by decide +kernel
theorem dX10_house_67 : decode cX10_house 67 = .ok (.getfield 28, 3) := by decide +kernel
theorem dX10_house_70 : decode cX10_house 70 = .ok (.getfield 100, 3) := by decide +kernel
theorem dX10_house_73 : decode cX10_house 73 = .ok (.invokevirtual 104, 3) := by decide +kernel
theorem dX10_house_76 : decode cX10_house 76 = .ok (.aload_n 0, 1) := by decide +kernel
theorem dX10_house_77 : decode cX10_house 77 = .ok (.getfield 60, 3) := by decide +kernel
theorem dX10_house_80 : decode cX10_house 80 = .ok (.iconst 0, 1) := by decide +kernel
theorem dX10_house_81 : decode cX10_house 81 = .ok (.putfield 108, 3) := by decide +kernel
theorem dX10_house_84 : decode cX10_house 84 = .ok (.aload_n 0, 1) := by decide +kernel
theorem dX10_house_85 : decode cX10_house 85 = .ok (.getfield 67, 3) := by decide +kernel
theorem dX10_house_88 : decode cX10_house 88 = .ok (.iconst 0, 1) := by decide +kernel
theorem dX10_house_89 : decode cX10_house 89 = .ok (.putfield 111, 3) := by decide +kernel
theorem dX10_house_92 : decode cX10_house 92 = .ok (.aload_n 0, 1) := by decide +kernel
theorem dX10_house_93 : decode cX10_house 93 = .ok (.iconst 0, 1) := by decide +kernel
theorem dX10_house_94 : decode cX10_house 94 = .ok (.putfield 77, 3) := by decide +kernel
theorem dX10_house_97 : decode cX10_house 97 = .ok (.aload_n 0, 1) := by decide +kernel
theorem dX10_house_98 : decode cX10_house 98 = .ok (.getfield 28, 3) := by decide +kernel
theorem dX10_house_101 : decode cX10_house 101 = .ok (.getfield 114, 3) := by decide +kernel
theorem dX10_house_104 : decode cX10_house 104 = .ok (.ireturn, 1) := by decide +kernel
section SC2
variable {p : Program} {l : Launch} {e : Env} {R : Room} {s : State} {m : MethodId} {args : Array Value} {below : List Frame} {meth : Method} {c : Code} {H : Heap} {locs : List Loc} {cells slots : Nat} {Q : State → Prop}
variable {cc bytes : ByteArray} {pc nL maxL n index ci N k i : Nat} {ls : Array Slot} {rest st0 As vs : List Value} {D : va_G} {cT : Nat → ClassId} {T : Nat → Option Nat} {Ks : Nat → th_K} {b : Nat} {own C : String} {y : MethodName} {ret : Option FieldType} {rm : Room} {post : Option Value → Prop} {wk : List Nat} {A : Nat → Prop} {fs : List th_F} {Rf : List Value → Prop} {Tf : u_T} {adK adV : Nat → Nat}
theorem st_T.go2 {U : State} (h : st_T adK adV T s) (hS : va_S A s.heap H locs) (hAT : ∀ q, A q → T q ≠ none) (hU : U.heap = H) (hW : s.WarmedH U.vm) : st_T adK adV T U :=
  ⟨by rw [hU]; exact (h.1.kept (fun a ha hn => hS.2.1 a ha (fun z => hn (hAT a z)))).moved hW.alike, h.2.1.warm hW, h.2.2.warm hW⟩
theorem th_callVS2 (S : CallFix p m c cc nL s args gw own) (hK : va_K D classes (th_tys cT) s) (hH : th_H D cT T Ks H) (hE : st_T adK adV T s) (hS : va_S A s.heap H locs) (hAT : ∀ q, A q → T q ≠ none) (hwk : ∀ q, th_A T wk q → A q) (hM : th_MetS l D cT T Ks adK adV y bytes maxL ret rm (.ref b :: As) post wk)
    (hcode : Cond.code y bytes maxL ret ∈ gw) (hlink : Cond.methodLink own index y ∈ gw) (hinst : Cond.instanceMethod y ∈ gw) (hsel : Cond.selects C y y ∈ gw) (hini : Cond.initialized y.cls ∈ gw)
    (hd : y.cls ≠ "java/lang/invoke/MethodHandle" ∧ y.cls ≠ "java/lang/invoke/VarHandle" ∧ (parseMethodDescriptor y.desc).map (fun d => d.parameters.length) = some n) (hR : rm.cells = 0 ∧ rm.slots = 0 ∧ rm.frames + 1 ≤ R.frames ∧ 8 + (maxL + 11) + rm.locals ≤ R.locals)
    (ha : T b = some k) (hk : Ks k = .inl (ci, fs, Rf)) (hc : classes[ci]? = some (C, Tf, N)) (hn : As.length = n) (hl : ls.size = nL) (hst : st0 = As.reverse ++ .ref b :: rest) (hrest : (rest.map fun v => v.category).sum ≤ 8) (hdg : decode cc pc = .ok (.invokevirtual index, 3)) (hcs : cells ≤ R.cells ∧ slots ≤ R.slots)
    (kk : ∀ (v : Option Value) (H1 : Heap) (locs1 : List Loc), post v → th_H D cT T Ks H1 → va_S A s.heap H1 locs1 → (∀ q : Nat, q < H.size → ¬ th_A T wk q → H1[q]? = H[q]?) → W p l e R s m args below meth c H1 locs1 cells slots Q (F0 m (pc + 3) ls (v.toList ++ rest))) : W p l e R s m args below meth c H locs cells slots Q (F0 m pc ls st0) := by
  have hts := S.2.2.2.2
  have h1 := hH b k ha
  rw [hk] at h1
  obtain ⟨ws, h2, -⟩ := h1
  have hP : va_P D classes [(b, .inr (ci, ws))] H := fun i q hq => by
    cases i with
    | zero => cases hq; exact h2
    | succ i => simp at hq
  exact th_back (va_runV (As := As) (rest := rest) S hM ⟨th_callB S hcode hlink hini hd hR, hts _ hinst, hts _ hsel⟩ ⟨th_blindS, va_recv hK hP hc (q0 := 0) rfl, fun U hU hW => ⟨rfl, ⟨by rw [hU]; exact hH, va_K.moved hW.alike hK⟩, hE.go2 hS hAT hU hW⟩⟩ rfl hn hl (by rw [hst]) (lv_room hrest) hdg hcs) hS hwk kk
end SC2
theorem th_H0 {D : va_G} {cT : Nat → ClassId} {Ks : Nat → th_K} {H : Heap} : th_H D cT (fun _ => none) Ks H := fun _ _ h => by cases h
/-- behind house -/
def th_QH (D : va_G) (cT : Nat → ClassId) (T : Nat → Option Nat) (q : Nat → Int) (a0 : Nat) : Array Value → State → Outcome → State → Prop := fun _ st oc t => (∃ (r : Int32) (T2 : Nat → Option Nat) (q2 : Nat → Int), oc = .returned (some (.int r)) ∧ T2 a0 = some 0 ∧ tokS T2 ∧ (∀ b, T2 b ≠ none ↔ T b ≠ none) ∧ qokr q2 ∧ q2 0 = q 0 ∧ th_W D cT T2 (kd q2) t) ∧ va_F (fun b => T b ≠ none) st t
theorem ne_some {T : Nat → Option Nat} {b k : Nat} (h : T b = some k) : T b ≠ none := by rw [h]; exact fun z => by cases z
set_option maxHeartbeats 4000000 in
set_option maxRecDepth 100000 in
theorem m_X10_house (l : Launch) (D : va_G) (cT : Nat → ClassId) (T : Nat → Option Nat) (q : Nat → Int) (adK adV : Nat → Nat) (hT : tokS T) (hqr : qokr q) (a0 : Nat) (t0 : T a0 = some 0) : Met l yX10_house (Cond.code yX10_house cX10_house 2 (some .int) :: gw) (rmk 60 1540) (va_Pc [.ref a0] (fun U => th_W D cT T (kd q) U ∧ st_T adK adV T U)) (th_QH D cT T q a0) 0 0 (fun b => T b ≠ none) := by
  refine Met.ofW (cc := cX10_house) (maxL := 2) (ret := some .int) (by decide) rfl ?_
  intro p e s m args below meth c s₁ B hml hv
  obtain ⟨rfl, ⟨hH, hK⟩, hE⟩ := hv
  have hts := atoms_spec (ws := Cond.code yX10_house cX10_house 2 (some .int) :: gw) B.pre
  rw [lg_entry_eq]
  have S : CallFix p m c cX10_house 2 s [Value.ref a0].toArray gw yX10_house.cls := ⟨B.exec, B.bytes, hml, findClass_of_methodNamed B.named, fun w hw => hts w (List.mem_cons_of_mem _ hw)⟩
  have hr := B.returns; have hlocks := B.notSynchronized
  have hl := lv_entry ([.ref a0]) (n := 2) (Nat.le_of_ble_eq_true rfl)
  generalize (lg_sl ([.ref a0]) ++ List.replicate (2 - (lg_sl ([.ref a0])).length) Slot.unset).toArray = ls at hl ⊢
  have hl : lv_has ls 2 [(0, .ref a0)] := hl
  have hx := S.1; have hb := S.2.1
  have hS : va_S (fun b => T b ≠ none) s.heap s.heap [] := va_S.rf
  have hwk : ∀ (wk : List Nat) q, th_A T wk q → (fun b => T b ≠ none) q := fun wk q ⟨k, _, h⟩ => ne_some h
  refine lv_aload_n hx hb dX10_house_0 rfl (lv_at hl 0 rfl) ?_
  refine th_get S hK hH inG10 t0 kd_0 rfl 0 (by decide) gm_505 rfl rfl dX10_house_1 (fun v1 hv1 fv1 => ?_)
  obtain ⟨tp, rfl, ttp⟩ := th_V.ref hv1
  refine th_callVS2 (n := 0) (As := []) S hK hH hE hS (fun _ h => h) (hwk _) (m_X8_scan l D cT T q adK adV hqr.1 tp ttp) gm_555 gm_552 gm_553 gm_554 gm_114 (by decide +kernel) ⟨rfl, rfl, Nat.le_of_ble_eq_true rfl, Nat.le_of_ble_eq_true rfl⟩ ttp kd_1 rfl rfl hl.1 rfl (Nat.le_of_ble_eq_true rfl) dX10_house_4 ⟨Nat.zero_le _, Nat.zero_le _⟩ (fun v2 H locs hv2 hH hS hF1 => ?_)
  have hv2 : v2 = none := hv2
  subst hv2
  refine lv_aload_n (pc := 7) hx hb dX10_house_7 rfl (lv_at hl 0 rfl) ?_
  refine th_get S hK hH inG10 t0 kd_0 rfl 1 (by decide) gm_506 rfl rfl dX10_house_8 (fun v3 hv3 fv3 => ?_)
  obtain ⟨rd0, rfl, trd0⟩ := th_V.ref hv3
  refine th_callVX (n := 0) (As := []) S hK hH hS (hwk _) (m_X6_readAll l D cT T q hT.tok hqr rd0 trd0) gm_692 gm_689 gm_690 gm_691 gm_115 (by decide +kernel) ⟨rfl, rfl, Nat.le_of_ble_eq_true rfl, Nat.le_of_ble_eq_true rfl⟩ trd0 kd_2 rfl rfl hl.1 rfl (Nat.le_of_ble_eq_true rfl) dX10_house_11 ⟨Nat.zero_le _, Nat.zero_le _⟩ (fun v4 q1 H locs hv4 hrq h0q hH hS hF1 => ?_)
  obtain ⟨w4, rfl, hw4⟩ := hv4
  obtain ⟨x4, rfl, ix4⟩ := th_V.int hw4
  refine lv_if_ne (pc := 14) (tgt := 19) hx hb dX10_house_14 (by decide) (fun c1 => ?_) (fun c1 => ?_)
  rotate_left
  · refine lv_iconst (v := (-1)) hx hb dX10_house_17 (by decide) ?_
    exact W.iret hx hb hr (fun _ ht hW => ⟨⟨_, T, q1, rfl, t0, hT, fun _ => Iff.rfl, hrq, h0q, by rw [ht]; exact hH, va_K.moved hW.alike hK⟩, hS.F ht⟩) hS.2.2 dX10_house_18 hlocks
  obtain ⟨vs0, R0, o0⟩ : ∃ vs, va_at D classes (a0, .inr (10, vs)) H ∧ th_O T [.inr 2, .inr 3, .inr 4, .inr 5, .inr 6, .inr 7, .inr 8, .inr 9, .inr 34, .inl (-2147483648, 2147483647)] (fun _ => True) vs := hH a0 0 t0
  obtain ⟨_, g1, rd, rfl, trd⟩ := o0.2.1 1 _ rfl
  obtain ⟨_, g2, x3, rfl, t3⟩ := o0.2.1 2 _ rfl
  obtain ⟨_, g3, en, rfl, te⟩ := o0.2.1 3 _ rfl
  obtain ⟨vsr, Rr, or2⟩ : ∃ vs, va_at D classes (rd, .inr (6, vs)) H ∧ th_O T [.inr 2, .inr 47, .inl (-2147483648, 2147483647), .inl (-2147483648, 2147483647), .inl (-2147483648, 2147483647), .inl (-2147483648, 2147483647)] (fun _ => True) vs := hH rd 2 trd
  obtain ⟨_, g4, x46, rfl, t46⟩ := or2.2.1 1 _ rfl
  obtain ⟨vse, Re, oe⟩ : ∃ vs, va_at D classes (en, .inr (0, vs)) H ∧ th_O T [.inr 4] (fun _ => True) vs := hH en 4 te
  have l0 : vs0.length = 10 := o0.1; have lr : vsr.length = 6 := or2.1; have le0 : vse.length = 1 := oe.1
  have n1 : rd ≠ a0 := th_ne trd t0 (by decide); have n2 : en ≠ a0 := th_ne te t0 (by decide); have n3 : en ≠ rd := th_ne te trd (by decide)
  refine lv_aload_n hx hb dX10_house_19 rfl (lv_at hl 0 rfl) ?_
  refine th_getR S hK R0 inG10 rfl 2 (by decide) gm_507 rfl g2 dX10_house_20 ?_
  refine lv_astore_n (lv' := [(1, .ref x3), (0, .ref a0)]) hx hb dX10_house_23 rfl hl (by decide) rfl (fun ls hl => ?_)
  refine lv_aload_n hx hb dX10_house_24 rfl (lv_at hl 1 rfl) ?_
  refine lv_aload_n hx hb dX10_house_25 rfl (lv_at hl 1 rfl) ?_
  refine th_getR S hK R0 inG10 rfl 1 (by decide) gm_506 rfl g1 dX10_house_26 ?_
  refine th_getR S hK Rr inG6 rfl 1 (by decide) gm_341 rfl g4 dX10_house_29 ?_
  refine th_putR (ty := .object "HungryMaps$House") (T := fun _ => none) (Ks := kd q1) S hK th_H0 hS (ne_some t0) rfl R0 inG10 tyX10 tyX10_ok nmX10 rfl 2 (by decide) gm_507 rfl rfl (by decide +kernel) rfl rfl (by omega) dX10_house_32 (fun H1 locs R0 _ hS _ k1 => ?_)
  have Rr := Rr.kept (k1 rd n1); have Re := Re.kept (k1 en n2)
  refine lv_aload_n hx hb dX10_house_35 rfl (lv_at hl 1 rfl) ?_
  refine th_getR S hK R0 inG10 rfl 1 (by decide) gm_506 rfl (by rw [List.getElem?_set_ne (by decide)]; exact g1) dX10_house_36 ?_
  refine lv_aload_n hx hb dX10_house_39 rfl (lv_at hl 0 rfl) ?_
  refine th_putR (ty := .object "HungryMaps$House") (T := fun _ => none) (Ks := kd q1) S hK th_H0 hS (ne_some trd) rfl Rr inG6 tyX6 tyX6_ok nmX6 rfl 1 (by decide) gm_341 rfl rfl (by decide +kernel) rfl rfl (by omega) dX10_house_40 (fun H2 locs Rr _ hS _ k2 => ?_)
  have R0 := R0.kept (k2 a0 (Ne.symm n1)); have Re := Re.kept (k2 en n3)
  refine lv_aload_n hx hb dX10_house_43 rfl (lv_at hl 1 rfl) ?_
  refine th_getR S hK R0 inG10 rfl 3 (by decide) gm_508 rfl (by rw [List.getElem?_set_ne (by decide)]; exact g3) dX10_house_44 ?_
  refine lv_aload_n hx hb dX10_house_47 rfl (lv_at hl 1 rfl) ?_
  refine th_getR S hK R0 inG10 rfl 2 (by decide) gm_507 rfl (by rw [List.getElem?_set_self (by omega)]) dX10_house_48 ?_
  refine th_putR (ty := .object "HungryMaps$House") (T := fun _ => none) (Ks := kd q1) S hK th_H0 hS (ne_some te) rfl Re inG0 tyX0 tyX0_ok nmX0 rfl 0 (by decide) gm_371 rfl rfl (by decide +kernel) rfl rfl (by omega) dX10_house_51 (fun H3 locs Re _ hS _ k3 => ?_)
  have R0 := R0.kept (k3 a0 (Ne.symm n2)); have Rr := Rr.kept (k3 rd (Ne.symm n3))
  obtain ⟨q2, hq2, ⟨f0, f1, f2, f6⟩, hH⟩ := th_swap hH hrq.1 hT t0 trd te t3 t46 R0 o0 Rr or2 Re oe (fun b b0 b1 b2 => (k3 b b2).trans ((k2 b b1).trans (k1 b b0)))
  have hT2 := hT.sw; have t0s : swT T a0 = some 0 := swT_of t0
  have hqr2 : qokr q2 := ⟨hq2, by rw [f1, f2]; exact hrq.2⟩
  have hA2 : ∀ {b k : Nat}, swT T b = some k → T b ≠ none := fun h => swT_none.mp (ne_some h)
  have hwk2 : ∀ (wk : List Nat) q, th_A (swT T) wk q → (fun b => T b ≠ none) q := fun wk q ⟨k, _, h⟩ => hA2 h
  refine lv_aload_n hx hb dX10_house_54 rfl (lv_at hl 1 rfl) ?_
  refine th_get S hK hH inG10 t0s kd_0 rfl 0 (by decide) gm_505 rfl rfl dX10_house_55 (fun vtq hvtq _ => ?_)
  obtain ⟨tq, rfl, ttq⟩ := th_V.ref hvtq
  refine lv_iconst (v := 0) hx hb dX10_house_58 (by decide) ?_
  refine th_put S hK hH hS (hA2 ttq) inG8 tyX8 tyX8_ok nmX8 ttq kd_1 rfl 4 (by decide) gm_156 rfl rfl rfl rfl (th_iv (iv_c (by decide))) (fun _ _ => trivial) (ty := .int) (by decide +kernel) rfl rfl dX10_house_59 (fun H locs hH hS _ _ => ?_)
  refine lv_aload_n hx hb dX10_house_62 rfl (lv_at hl 1 rfl) ?_
  refine th_get S hK hH inG10 t0s kd_0 rfl 4 (by decide) gm_509 rfl rfl dX10_house_63 (fun vhs hvhs _ => ?_)
  obtain ⟨hs, rfl, ths⟩ := th_V.ref hvhs
  refine lv_aload_n hx hb dX10_house_66 rfl (lv_at hl 1 rfl) ?_
  refine th_get S hK hH inG10 t0s kd_0 rfl 2 (by decide) gm_507 rfl rfl dX10_house_67 (fun vto hvto _ => ?_)
  obtain ⟨to, rfl, tto⟩ := th_V.ref hvto
  refine th_get S hK hH inG4 tto kd_3 rfl 10 (by decide) gm_273 rfl rfl dX10_house_70 (fun vf hvf _ => ?_)
  obtain ⟨fi, rfl, tfi⟩ := th_V.ref hvf
  refine th_callVX (n := 1) (As := [.ref fi]) S hK hH hS (hwk2 _) (m_X3_restart l D cT (swT T) q2 hT2.tok hqr2 hs ths fi tfi) gm_805 gm_802 gm_803 gm_804 gm_120 (by decide +kernel) ⟨rfl, rfl, Nat.le_of_ble_eq_true rfl, Nat.le_of_ble_eq_true rfl⟩ ths kd_5 rfl rfl hl.1 rfl (Nat.le_of_ble_eq_true rfl) dX10_house_73 ⟨Nat.zero_le _, Nat.zero_le _⟩ (fun v5 q5 H locs hv5 hrq5 h0q5 hH hS hF1 => ?_)
  have hv5 : v5 = none := hv5
  subst hv5
  refine lv_aload_n (pc := 76) hx hb dX10_house_76 rfl (lv_at hl 1 rfl) ?_
  refine th_get S hK hH inG10 t0s kd_0 rfl 6 (by decide) gm_511 rfl rfl dX10_house_77 (fun vra hvra _ => ?_)
  obtain ⟨ra, rfl, tra⟩ := th_V.ref hvra
  refine lv_iconst (v := 0) hx hb dX10_house_80 (by decide) ?_
  refine th_put S hK hH hS (hA2 tra) inG5 tyX5 tyX5_ok nmX5 tra kd_7 rfl 2 (by decide) gm_431 rfl rfl rfl rfl (th_iv (iv_top _)) (fun _ _ => trivial) (ty := .int) (by decide +kernel) rfl rfl dX10_house_81 (fun H locs hH hS _ _ => ?_)
  refine lv_aload_n hx hb dX10_house_84 rfl (lv_at hl 1 rfl) ?_
  refine th_get S hK hH inG10 t0s kd_0 rfl 7 (by decide) gm_512 rfl rfl dX10_house_85 (fun vtl hvtl _ => ?_)
  obtain ⟨tl, rfl, ttl⟩ := th_V.ref hvtl
  refine lv_iconst (v := 0) hx hb dX10_house_88 (by decide) ?_
  refine th_put S hK hH hS (hA2 ttl) inG9 tyX9 tyX9_ok nmX9 ttl kd_8 rfl 6 (by decide) gm_482 rfl rfl rfl rfl (th_iv (iv_c (by decide))) (fun _ _ => trivial) (ty := .int) (by decide +kernel) rfl rfl dX10_house_89 (fun H locs hH hS _ _ => ?_)
  refine lv_aload_n hx hb dX10_house_92 rfl (lv_at hl 1 rfl) ?_
  refine lv_iconst (v := 0) hx hb dX10_house_93 (by decide) ?_
  refine th_put S hK hH hS (hA2 t0s) inG10 tyX10 tyX10_ok nmX10 t0s kd_0 rfl 9 (by decide) gm_514 rfl rfl rfl rfl (th_iv (iv_top _)) (fun _ _ => trivial) (ty := .int) (by decide +kernel) rfl rfl dX10_house_94 (fun H locs hH hS _ _ => ?_)
  refine lv_aload_n hx hb dX10_house_97 rfl (lv_at hl 1 rfl) ?_
  refine th_get S hK hH inG10 t0s kd_0 rfl 2 (by decide) gm_507 rfl rfl dX10_house_98 (fun vtz hvtz _ => ?_)
  obtain ⟨tz, rfl, ttz⟩ := th_V.ref hvtz
  refine th_get S hK hH inG4 ttz kd_3 rfl 12 (by decide) gm_282 rfl rfl dX10_house_101 (fun vm hvm _ => ?_)
  obtain ⟨xm, rfl, ixm⟩ := th_V.int hvm
  exact W.iret hx hb hr (fun _ ht hW => ⟨⟨xm, swT T, q5, rfl, t0s, hT2, fun _ => swT_none, hrq5, h0q5.trans (f0.trans h0q), by rw [ht]; exact hH, va_K.moved hW.alike hK⟩, hS.F ht⟩) hS.2.2 dX10_house_104 hlocks
