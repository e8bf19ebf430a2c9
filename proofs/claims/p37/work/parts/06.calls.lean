/-- the words that may go on: those of the tables that stay -/
def gw : List Cond := lw_tbl.filter goodWord
theorem gw_mem {w : Cond} (i : Nat) (h : lw_tbl[i]? = some w) (hg : goodWord w = true) : w ∈ gw := List.mem_filter.mpr ⟨List.mem_of_getElem? h, hg⟩
theorem gw_good {w : Cond} (h : w ∈ gw) : (w.onTables && w.keeps) = true ∨ ∃ ty, w = .arrayClass ty := good_of_word (List.mem_filter.mp h).2
def th_Q (D : va_G) (cT : Nat → ClassId) (T : Nat → Option Nat) (Ks : Nat → th_K) (post : Option Value → Prop) (wk : List Nat) : Array Value → State → Outcome → State → Prop := fun _ st oc t => (∃ v : Option Value, oc = .returned v ∧ post v ∧ th_W D cT T Ks t) ∧ va_F (th_A T wk) st t
/-- a method's contract over a heap with kinds: it may write cells of the kinds wk alone, and makes none -/
def th_Met (l : Launch) (D : va_G) (cT : Nat → ClassId) (T : Nat → Option Nat) (Ks : Nat → th_K) (y : MethodName) (bytes : ByteArray) (maxL : Nat) (ret : Option FieldType) (rm : Room) (vs : List Value) (post : Option Value → Prop) (wk : List Nat) : Prop :=
  Met l y (Cond.code y bytes maxL ret :: gw) rm (va_Pc vs (th_W D cT T Ks)) (th_Q D cT T Ks post wk) 0 0 (th_A T wk)
theorem th_blind {D : va_G} {cT : Nat → ClassId} {T : Nat → Option Nat} {Ks : Nat → th_K} {vs : List Value} : FrameBlind (va_Pc vs (th_W D cT T Ks)) :=
  fun a U g mk h => ⟨h.1, h.2.1, va_K.moved (u := U) (U := U.calling g mk a) (Vm.Alike.refl U.vm) h.2.2⟩
section THS
variable {l : Launch} {D : va_G} {cT : Nat → ClassId} {T : Nat → Option Nat} {Ks : Nat → th_K} {y : MethodName} {bytes : ByteArray} {maxL : Nat} {ret : Option FieldType} {rm : Room} {vs : List Value} {post : Option Value → Prop} {wk : List Nat}
theorem th_start (hy : plainName y.cls = true) (hlen : (lg_sl vs).length ≤ maxL)
    (body : ∀ (p : Program) (e : Env) (s : State) (m : MethodId) (below : List Frame) (meth : Method) (c : Code) (ls : Array Slot), CallFix p m c bytes maxL s vs.toArray gw y.cls → va_K D classes (th_tys cT) s → th_H D cT T Ks s.heap → meth.sig.returnType = ret → meth.locks = false → meth.name = y.name → lv_has ls maxL (lv_args 0 vs) →
      W p l e rm s m vs.toArray below meth c s.heap [] 0 0 (MQ below (th_Q D cT T Ks post wk) vs.toArray s 0 0 (th_A T wk)) (F0 m 0 ls [])) : th_Met l D cT T Ks y bytes maxL ret rm vs post wk := by
  refine Met.ofW (cc := bytes) (maxL := maxL) (ret := ret) hy rfl ?_
  intro p e s m args below meth c s₁ B hml hv
  obtain ⟨rfl, hH, hK⟩ := hv
  have hts := atoms_spec (ws := Cond.code y bytes maxL ret :: gw) B.pre
  rw [lg_entry_eq]
  exact body p e s m below meth c _ ⟨B.exec, B.bytes, hml, findClass_of_methodNamed B.named, fun w hw => hts w (List.mem_cons_of_mem _ hw)⟩ hK hH B.returns B.notSynchronized (name_of_methodNamed B.named B.method).1 (lv_entry vs hlen)
end THS
section THC
variable {p : Program} {l : Launch} {e : Env} {R : Room} {s : State} {m : MethodId} {args : Array Value} {below : List Frame} {meth : Method} {c : Code} {H : Heap} {locs : List Loc} {cells slots : Nat} {Q : State → Prop}
variable {cc bytes : ByteArray} {pc nL maxL n index ci N k : Nat} {ls : Array Slot} {rest st0 As : List Value} {D : va_G} {cT : Nat → ClassId} {T : Nat → Option Nat} {Ks : Nat → th_K} {A : Nat → Prop} {b : Nat} {H0 : Heap} {own C : String} {y : MethodName} {ret : Option FieldType} {rm : Room} {post : Option Value → Prop} {wk : List Nat} {fs : List th_F} {Rf : List Value → Prop} {Tf : u_T} {vs : List Value}
/-- what a callee's words want of the caller's -/
theorem th_callB (S : CallFix p m c cc nL s args gw own) (hcode : Cond.code y bytes maxL ret ∈ gw) (hlink : Cond.methodLink own index y ∈ gw) (hini : Cond.initialized y.cls ∈ gw)
    (hd : y.cls ≠ "java/lang/invoke/MethodHandle" ∧ y.cls ≠ "java/lang/invoke/VarHandle" ∧ (parseMethodDescriptor y.desc).map (fun d => d.parameters.length) = some n) (hR : rm.cells = 0 ∧ rm.slots = 0 ∧ rm.frames + 1 ≤ R.frames ∧ 8 + (maxL + 11) + rm.locals ≤ R.locals) :
    CallB R s args own index y bytes maxL ret (Cond.code y bytes maxL ret :: gw) rm 0 0 n := by
  obtain ⟨-, -, -, -, hts⟩ := S
  refine callB_of n hts (fun w hw => ?_) rfl hR.1 hR.2.1 (hts _ hini) (hts _ hlink) hd hR.2.2
  have h1 : w ∈ gw := by
    rcases List.mem_cons.mp hw with h | h
    · rw [h]; exact hcode
    · exact h
  exact ⟨h1, gw_good h1⟩
theorem th_pre (hK : va_K D classes (th_tys cT) s) (hH : th_H D cT T Ks H) : ∀ U : State, U.heap = H → s.WarmedH U.vm → va_Pc vs (th_W D cT T Ks) vs.toArray U :=
  fun U hU hW => ⟨rfl, by rw [hU]; exact hH, va_K.moved hW.alike hK⟩
/-- behind a call -/
theorem th_back {a : Array Value} (hr : va_Run p l e R s m args below meth c H locs cells slots 0 0 (F0 m pc ls st0) rest (th_Q D cT T Ks post wk a) (th_A T wk)) (hS : va_S A H0 H locs) (hwk : ∀ q, th_A T wk q → A q)
    (kk : ∀ (v : Option Value) (H1 : Heap) (locs1 : List Loc), post v → th_H D cT T Ks H1 → va_S A H0 H1 locs1 → (∀ q : Nat, q < H.size → ¬ th_A T wk q → H1[q]? = H[q]?) → W p l e R s m args below meth c H1 locs1 cells slots Q (F0 m (pc + 3) ls (v.toList ++ rest))) : W p l e R s m args below meth c H locs cells slots Q (F0 m pc ls st0) := by
  intro T0 hT X
  obtain ⟨v, st₀, t, T', L, h0, X', hL, e1, e2, ⟨⟨v2, hv, hp, hb⟩, hz, hk⟩, st⟩ := hr T0 hT X
  cases hv
  rw [h0] at hz hk
  obtain ⟨t2, a1, b1⟩ := kk v T'.heap (locs ++ L) hp (by rw [e1]; exact hb.1) ⟨Nat.le_trans hS.1 (by rw [e1]; exact hz), fun q h1 h2 => by rw [e1, hk q (Nat.lt_of_lt_of_le h1 hS.1) (fun z => h2 (hwk q z))]; exact hS.2.1 q h1 h2, fun q hq => by
      rcases List.mem_append.mp hq with h | h
      · exact hS.2.2 q h
      · exact hwk _ (hL q h)⟩ (fun q h1 h2 => by rw [e1]; exact hk q h1 h2) T' rfl X'
  exact ⟨t2, st t2 a1, b1⟩
/-- invokevirtual of a contract -/
theorem th_callV (S : CallFix p m c cc nL s args gw own) (hK : va_K D classes (th_tys cT) s) (hH : th_H D cT T Ks H) (hS : va_S A H0 H locs) (hwk : ∀ q, th_A T wk q → A q) (hM : th_Met l D cT T Ks y bytes maxL ret rm (.ref b :: As) post wk)
    (hcode : Cond.code y bytes maxL ret ∈ gw) (hlink : Cond.methodLink own index y ∈ gw) (hinst : Cond.instanceMethod y ∈ gw) (hsel : Cond.selects C y y ∈ gw) (hini : Cond.initialized y.cls ∈ gw)
    (hd : y.cls ≠ "java/lang/invoke/MethodHandle" ∧ y.cls ≠ "java/lang/invoke/VarHandle" ∧ (parseMethodDescriptor y.desc).map (fun d => d.parameters.length) = some n) (hR : rm.cells = 0 ∧ rm.slots = 0 ∧ rm.frames + 1 ≤ R.frames ∧ 8 + (maxL + 11) + rm.locals ≤ R.locals)
    (ha : T b = some k) (hk : Ks k = .inl (ci, fs, Rf)) (hc : classes[ci]? = some (C, Tf, N)) (hn : As.length = n) (hl : ls.size = nL) (hst : st0 = As.reverse ++ .ref b :: rest) (hrest : (rest.map fun v => v.category).sum ≤ 8) (hdg : decode cc pc = .ok (.invokevirtual index, 3)) (hcs : cells ≤ R.cells ∧ slots ≤ R.slots)
    (kk : ∀ (v : Option Value) (H1 : Heap) (locs1 : List Loc), post v → th_H D cT T Ks H1 → va_S A H0 H1 locs1 → (∀ q : Nat, q < H.size → ¬ th_A T wk q → H1[q]? = H[q]?) → W p l e R s m args below meth c H1 locs1 cells slots Q (F0 m (pc + 3) ls (v.toList ++ rest))) : W p l e R s m args below meth c H locs cells slots Q (F0 m pc ls st0) := by
  have hts := S.2.2.2.2
  have h1 := hH b k ha
  rw [hk] at h1
  obtain ⟨ws, h2, -⟩ := h1
  have hP : va_P D classes [(b, .inr (ci, ws))] H := fun i q hq => by
    cases i with
    | zero => cases hq; exact h2
    | succ i => simp at hq
  refine th_back (va_runV (As := As) (rest := rest) S hM ⟨th_callB S hcode hlink hini hd hR, hts _ hinst, hts _ hsel⟩ ⟨th_blind, va_recv hK hP hc (q0 := 0) rfl, th_pre hK hH⟩ rfl hn hl (by rw [hst]) (lv_room hrest) hdg hcs) hS hwk kk
/-- invokestatic of a contract -/
theorem th_callS (S : CallFix p m c cc nL s args gw own) (hK : va_K D classes (th_tys cT) s) (hH : th_H D cT T Ks H) (hS : va_S A H0 H locs) (hwk : ∀ q, th_A T wk q → A q) (hM : th_Met l D cT T Ks y bytes maxL ret rm As post wk)
    (hcode : Cond.code y bytes maxL ret ∈ gw) (hlink : Cond.methodLink own index y ∈ gw) (hstat : Cond.static y ∈ gw) (hini : Cond.initialized y.cls ∈ gw)
    (hd : y.cls ≠ "java/lang/invoke/MethodHandle" ∧ y.cls ≠ "java/lang/invoke/VarHandle" ∧ (parseMethodDescriptor y.desc).map (fun d => d.parameters.length) = some n) (hR : rm.cells = 0 ∧ rm.slots = 0 ∧ rm.frames + 1 ≤ R.frames ∧ 8 + (maxL + 11) + rm.locals ≤ R.locals)
    (hn : As.length = n) (hl : ls.size = nL) (hst : st0 = As.reverse ++ rest) (hrest : (rest.map fun v => v.category).sum ≤ 8) (hdg : decode cc pc = .ok (.invokestatic index, 3)) (hcs : cells ≤ R.cells ∧ slots ≤ R.slots)
    (kk : ∀ (v : Option Value) (H1 : Heap) (locs1 : List Loc), post v → th_H D cT T Ks H1 → va_S A H0 H1 locs1 → (∀ q : Nat, q < H.size → ¬ th_A T wk q → H1[q]? = H[q]?) → W p l e R s m args below meth c H1 locs1 cells slots Q (F0 m (pc + 3) ls (v.toList ++ rest))) : W p l e R s m args below meth c H locs cells slots Q (F0 m pc ls st0) := by
  have hts := S.2.2.2.2
  refine th_back (va_runS (As := As) (rest := rest) S hM ⟨th_callB S hcode hlink hini hd hR, hts _ hstat⟩ ⟨th_blind, th_pre hK hH⟩ rfl hn hl (by rw [hst]) (lv_room hrest) hdg hcs) hS hwk kk
end THC
