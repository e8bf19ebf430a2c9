/-! THE CLAIM OUT OF ONE WALK OF THE LAW'S BODY. Your part is whole_start (and what it stands on); all else here is the same for every law, but numbers. -/
def R_law : String := "HungryMapsLaw"
def lw_P (b : Addr) (xs : List Int32) (args : Array Value) (s : State) : Prop := args = #[.ref b] ∧ s.IntsAt b xs ∧ xs.length ≤ 3072 ∧ (Jvm.Cond.and given_1 narrow_1).before args s = true
def lw_Q (_ : Array Value) (s : State) (o : Outcome) (t : State) : Prop := o = .returned (some (.int 1)) ∧ Framed s o t [] 600000 7302249
def lw_Z (below : List Frame) (a : Array Value) (s : State) : State → Prop := fun t => ∃ o, t.status = .running ∧ Ended t below o ∧ lw_Q a s o t
/-- the law's own end, with 1 on the stack, nothing written that was there before, its room as the claim has it -/
theorem lw_ret {p : Program} {l : Launch} {e : Env} {s : State} {m : MethodId} {below : List Frame} {meth : Method} {c : Code} {b : Nat} (hx : p.tables.exec = Jvm.exec) (hb : c.code = code) (hr : meth.sig.returnType = ret) (hlocks : meth.locks = false) {pc : Nat} {H : Heap} {ls : Array Slot} (hdg : decode code pc = .ok (.ireturn, 1)) : W p l e room_1 s m #[Value.ref b] below meth c H [] 600000 7302249 (lw_Z below #[Value.ref b] s) (F0 m pc ls [.int 1]) := by
  intro T hT X
  obtain ⟨fs, hret, hrun, hended, hW, hframe⟩ := X.leave (v := some (.int 1)) (hlocks := hlocks) (fun h => by rw [hr] at h; cases h)
  have hmeth' : T.vm.method? m = some meth := X.method'
  refine ⟨T.setFrames fs, ?_, .returned (some (.int 1)), hrun, hended, rfl, ⟨_, rfl⟩, hW, hframe⟩
  jvm_step X.here [X.here.top, hx, hb, hdg, hmeth', hr, ret, narrow_b1]
  (try refine ⟨rfl, ?_⟩); (try refine ⟨rfl, ?_⟩)
  first | (intro acts; rw [hret _ acts rfl rfl rfl]) | rw [hret _ _ rfl rfl rfl]
  exact Steps.refl _
/-- what holds at the law's entry: the machine, the code, the tables' words (any of lw_tbl by 'hts w (by decide +kernel)'), the script of L ints xs at the cell b, what the Statement gives of the start (any of its parts by flat_of_before) -/
def lw_At (p : Program) (s : State) (m : MethodId) (meth : Method) (c : Code) (b L : Nat) (xs : Nat → Int32) : Prop :=
  p.tables.exec = Jvm.exec ∧ c.code = code ∧ meth.sig.returnType = ret ∧ c.maxLocals = 4 ∧ s.vm.findClass R_law = some m.cls ∧ (∀ w ∈ lw_tbl, w.before #[Value.ref b] s = true) ∧ va_X b L xs s s.heap ∧ b < s.heap.size ∧ meth.locks = false ∧ (Jvm.Cond.and given_1 narrow_1).before #[Value.ref b] s = true
/-! the law: both worlds in one heap -/
def LI0 (D : va_G) (cT : Nat → ClassId) (s : State) (a am : Nat) (T : Nat → Option Nat) (q : Nat → Int) (Tm : Nat → Option Nat) (qq : Nat → Int) (H : Heap) (locs : List Loc) : Prop :=
  th_H D cT T (kd q) H ∧ th_H D cT Tm (km qq) H ∧ (tokS T ∧ qokr q ∧ T a = some 0) ∧ (tokm Tm ∧ qkm qq ∧ qq 7 + qq 8 ≤ 40 ∧ Tm am = some 0) ∧ (∀ b, T b ≠ none → Tm b = none) ∧ (∀ b, T b ≠ none ∨ Tm b ≠ none → s.heap.size ≤ b) ∧ va_S (fun q => s.heap.size ≤ q) s.heap H locs
def LI (D : va_G) (cT : Nat → ClassId) (s : State) (a am : Nat) (T : Nat → Option Nat) (q : Nat → Int) (Tm : Nat → Option Nat) (qq : Nat → Int) (H : Heap) (locs : List Loc) : Prop := LI0 D cT s a am T q Tm qq H locs ∧ q 0 = qq 9
theorem th_R_int {T : Nat → Option Nat} {b : Int × Int} (v : Option Value) (h : th_R T (some (.inl b)) v) : ∃ x : Int32, v = some (.int x) := by
  obtain ⟨w, rfl, x, rfl, _⟩ := h
  exact ⟨x, rfl⟩
section LWC
variable {p : Program} {l : Launch} {e : Env} {R : Room} {s : State} {m : MethodId} {args : Array Value} {below : List Frame} {meth : Method} {c : Code} {H : Heap} {locs : List Loc} {cells slots : Nat} {Q : State → Prop}
variable {cc bytes : ByteArray} {pc nL maxL n index : Nat} {ls : Array Slot} {rest st0 As : List Value} {D : va_G} {cT : Nat → ClassId} {T Tm : Nat → Option Nat} {q qq : Nat → Int} {a am : Nat} {own : String} {y : MethodName} {ret : Option FieldType} {rm : Room} {post : Option Value → Prop} {wk : List Nat} {adK adV : Nat → Nat}
theorem LI0.other (h : ∀ b, T b ≠ none → Tm b = none) {H1 : Heap} (hm : th_H D cT Tm (km qq) H) (hF : ∀ b : Nat, b < H.size → ¬ th_A T wk b → H1[b]? = H[b]?) : th_H D cT Tm (km qq) H1 :=
  hm.same (fun b k hb => hF b (hm.dom hb) (fun ⟨j, _, hj⟩ => by rw [h b (ne_some hj)] at hb; cases hb))
theorem LI0.otherM (h : ∀ b, T b ≠ none → Tm b = none) {H1 : Heap} (hm : th_H D cT T (kd q) H) (hF : ∀ b : Nat, b < H.size → ¬ th_A Tm wk b → H1[b]? = H[b]?) : th_H D cT T (kd q) H1 :=
  hm.same (fun b k hb => hF b (hm.dom hb) (fun ⟨j, _, hj⟩ => by rw [h b (ne_some hb)] at hj; cases hj))
theorem lw_C (S : CallFix p m c cc nL s args gw own) (hK : va_K D classes (th_tys cT) s) (hI : LI D cT s a am T q Tm qq H locs) (hM : th_Met l D cT T (kd q) y bytes maxL ret rm (.ref a :: As) post wk) (hp : ∀ v, post v → ∃ x : Int32, v = some (.int x))
    (hcode : Cond.code y bytes maxL ret ∈ gw) (hlink : Cond.methodLink own index y ∈ gw) (hinst : Cond.instanceMethod y ∈ gw) (hsel : Cond.selects RX10 y y ∈ gw) (hini : Cond.initialized y.cls ∈ gw)
    (hd : y.cls ≠ "java/lang/invoke/MethodHandle" ∧ y.cls ≠ "java/lang/invoke/VarHandle" ∧ (parseMethodDescriptor y.desc).map (fun d => d.parameters.length) = some n) (hR : rm.cells = 0 ∧ rm.slots = 0 ∧ rm.frames + 1 ≤ R.frames ∧ 8 + (maxL + 11) + rm.locals ≤ R.locals)
    (hn : As.length = n) (hl : ls.size = nL) (hst : st0 = As.reverse ++ .ref a :: rest) (hrest : (rest.map fun v => v.category).sum ≤ 8) (hdg : decode cc pc = .ok (.invokevirtual index, 3)) (hcs : cells ≤ R.cells ∧ slots ≤ R.slots)
    (kk : ∀ (x : Int32) (H1 : Heap) (locs1 : List Loc), LI D cT s a am T q Tm qq H1 locs1 → W p l e R s m args below meth c H1 locs1 cells slots Q (F0 m (pc + 3) ls (.int x :: rest))) : W p l e R s m args below meth c H locs cells slots Q (F0 m pc ls (st0)) := by
  obtain ⟨⟨h1, h2, h3, h4, h5, h6, h7⟩, h8⟩ := hI
  exact th_callV S hK h1 h7 (fun b ⟨k, _, hk⟩ => h6 b (Or.inl (ne_some hk))) hM hcode hlink hinst hsel hini hd hR h3.2.2 kd_0 rfl hn hl hst hrest hdg hcs (fun v H1 locs1 hv hH1 hS1 hF => by
    obtain ⟨x, rfl⟩ := hp v hv
    exact kk x H1 locs1 ⟨⟨hH1, LI0.other h5 h2 hF, h3, h4, h5, h6, hS1⟩, h8⟩)
theorem lw_X (S : CallFix p m c cc nL s args gw own) (hK : va_K D classes (th_tys cT) s) (hI : LI D cT s a am T q Tm qq H locs) (hM : th_MetX l D cT T q y bytes maxL ret rm (.ref a :: As) post wk) (hp : ∀ v, post v → ∃ x : Int32, v = some (.int x))
    (hcode : Cond.code y bytes maxL ret ∈ gw) (hlink : Cond.methodLink own index y ∈ gw) (hinst : Cond.instanceMethod y ∈ gw) (hsel : Cond.selects RX10 y y ∈ gw) (hini : Cond.initialized y.cls ∈ gw)
    (hd : y.cls ≠ "java/lang/invoke/MethodHandle" ∧ y.cls ≠ "java/lang/invoke/VarHandle" ∧ (parseMethodDescriptor y.desc).map (fun d => d.parameters.length) = some n) (hR : rm.cells = 0 ∧ rm.slots = 0 ∧ rm.frames + 1 ≤ R.frames ∧ 8 + (maxL + 11) + rm.locals ≤ R.locals)
    (hn : As.length = n) (hl : ls.size = nL) (hst : st0 = As.reverse ++ .ref a :: rest) (hrest : (rest.map fun v => v.category).sum ≤ 8) (hdg : decode cc pc = .ok (.invokevirtual index, 3)) (hcs : cells ≤ R.cells ∧ slots ≤ R.slots)
    (kk : ∀ (x : Int32) (q2 : Nat → Int) (H1 : Heap) (locs1 : List Loc), LI D cT s a am T q2 Tm qq H1 locs1 → W p l e R s m args below meth c H1 locs1 cells slots Q (F0 m (pc + 3) ls (.int x :: rest))) : W p l e R s m args below meth c H locs cells slots Q (F0 m pc ls (st0)) := by
  obtain ⟨⟨h1, h2, h3, h4, h5, h6, h7⟩, h8⟩ := hI
  exact th_callVX S hK h1 h7 (fun b ⟨k, _, hk⟩ => h6 b (Or.inl (ne_some hk))) hM hcode hlink hinst hsel hini hd hR h3.2.2 kd_0 rfl hn hl hst hrest hdg hcs (fun v q2 H1 locs1 hv hrq h0 hH1 hS1 hF => by
    obtain ⟨x, rfl⟩ := hp v hv
    exact kk x q2 H1 locs1 ⟨⟨hH1, LI0.other h5 h2 hF, ⟨h3.1, hrq, h3.2.2⟩, h4, h5, h6, hS1⟩, h0.trans h8⟩)
theorem lw_M (S : CallFix p m c cc nL s args gw own) (hK : va_K D classes (th_tys cT) s) (hI : LI D cT s a am T q Tm qq H locs) (hM : th_Met l D cT Tm (km qq) y bytes maxL ret rm (.ref am :: As) post wk) (hp : ∀ v, post v → ∃ x : Int32, v = some (.int x))
    (hcode : Cond.code y bytes maxL ret ∈ gw) (hlink : Cond.methodLink own index y ∈ gw) (hinst : Cond.instanceMethod y ∈ gw) (hsel : Cond.selects RX11 y y ∈ gw) (hini : Cond.initialized y.cls ∈ gw)
    (hd : y.cls ≠ "java/lang/invoke/MethodHandle" ∧ y.cls ≠ "java/lang/invoke/VarHandle" ∧ (parseMethodDescriptor y.desc).map (fun d => d.parameters.length) = some n) (hR : rm.cells = 0 ∧ rm.slots = 0 ∧ rm.frames + 1 ≤ R.frames ∧ 8 + (maxL + 11) + rm.locals ≤ R.locals)
    (hn : As.length = n) (hl : ls.size = nL) (hst : st0 = As.reverse ++ .ref am :: rest) (hrest : (rest.map fun v => v.category).sum ≤ 8) (hdg : decode cc pc = .ok (.invokevirtual index, 3)) (hcs : cells ≤ R.cells ∧ slots ≤ R.slots)
    (kk : ∀ (x : Int32) (H1 : Heap) (locs1 : List Loc), LI D cT s a am T q Tm qq H1 locs1 → W p l e R s m args below meth c H1 locs1 cells slots Q (F0 m (pc + 3) ls (.int x :: rest))) : W p l e R s m args below meth c H locs cells slots Q (F0 m pc ls (st0)) := by
  obtain ⟨⟨h1, h2, h3, h4, h5, h6, h7⟩, h8⟩ := hI
  exact th_callV S hK h2 h7 (fun b ⟨k, _, hk⟩ => h6 b (Or.inr (ne_some hk))) hM hcode hlink hinst hsel hini hd hR h4.2.2.2 km_0 rfl hn hl hst hrest hdg hcs (fun v H1 locs1 hv hH1 hS1 hF => by
    obtain ⟨x, rfl⟩ := hp v hv
    exact kk x H1 locs1 ⟨⟨LI0.otherM h5 h1 hF, hH1, h3, h4, h5, h6, hS1⟩, h8⟩)
theorem lw_MM {E : Option Value → (Nat → Int) → Prop} (S : CallFix p m c cc nL s args gw own) (hK : va_K D classes (th_tys cT) s) (hI : LI D cT s a am T q Tm qq H locs) (hM : th_MetM l D cT Tm qq y bytes maxL ret rm (.ref am :: As) E wk) (hp : ∀ v q2, E v q2 → (∃ x : Int32, v = some (.int x)) ∧ qkm q2 ∧ q2 7 + q2 8 ≤ 40 ∧ q2 9 = qq 9)
    (hcode : Cond.code y bytes maxL ret ∈ gw) (hlink : Cond.methodLink own index y ∈ gw) (hinst : Cond.instanceMethod y ∈ gw) (hsel : Cond.selects RX11 y y ∈ gw) (hini : Cond.initialized y.cls ∈ gw)
    (hd : y.cls ≠ "java/lang/invoke/MethodHandle" ∧ y.cls ≠ "java/lang/invoke/VarHandle" ∧ (parseMethodDescriptor y.desc).map (fun d => d.parameters.length) = some n) (hR : rm.cells = 0 ∧ rm.slots = 0 ∧ rm.frames + 1 ≤ R.frames ∧ 8 + (maxL + 11) + rm.locals ≤ R.locals)
    (hn : As.length = n) (hl : ls.size = nL) (hst : st0 = As.reverse ++ .ref am :: rest) (hrest : (rest.map fun v => v.category).sum ≤ 8) (hdg : decode cc pc = .ok (.invokevirtual index, 3)) (hcs : cells ≤ R.cells ∧ slots ≤ R.slots)
    (kk : ∀ (x : Int32) (q2 : Nat → Int) (H1 : Heap) (locs1 : List Loc), LI D cT s a am T q Tm q2 H1 locs1 → W p l e R s m args below meth c H1 locs1 cells slots Q (F0 m (pc + 3) ls (.int x :: rest))) : W p l e R s m args below meth c H locs cells slots Q (F0 m pc ls (st0)) := by
  obtain ⟨⟨h1, h2, h3, h4, h5, h6, h7⟩, h8⟩ := hI
  exact th_callVM S hK h2 h7 (fun b ⟨k, _, hk⟩ => h6 b (Or.inr (ne_some hk))) hM hcode hlink hinst hsel hini hd hR h4.2.2.2 km_0 rfl hn hl hst hrest hdg hcs (fun v q2 H1 locs1 hv hH1 hS1 hF => by
    obtain ⟨⟨x, rfl⟩, e1, e2, e3⟩ := hp v q2 hv
    exact kk x q2 H1 locs1 ⟨⟨LI0.otherM h5 h1 hF, hH1, h3, ⟨h4.1, e1, e2, h4.2.2.2⟩, h5, h6, hS1⟩, h8.trans e3.symm⟩)
/-- later of the reference -/
theorem lw_ML {E : Option Value → (Nat → Int) → Prop} {F : Int32 → (Nat → Int) → Prop} (S : CallFix p m c cc nL s args gw own) (hK : va_K D classes (th_tys cT) s) (hI : LI0 D cT s a am T q Tm qq H locs) (hM : th_MetM l D cT Tm qq y bytes maxL ret rm (.ref am :: As) E wk) (hp : ∀ v q2, E v q2 → ∃ x : Int32, v = some (.int x) ∧ qkm q2 ∧ q2 7 + q2 8 ≤ 40 ∧ F x q2)
    (hcode : Cond.code y bytes maxL ret ∈ gw) (hlink : Cond.methodLink own index y ∈ gw) (hinst : Cond.instanceMethod y ∈ gw) (hsel : Cond.selects RX11 y y ∈ gw) (hini : Cond.initialized y.cls ∈ gw)
    (hd : y.cls ≠ "java/lang/invoke/MethodHandle" ∧ y.cls ≠ "java/lang/invoke/VarHandle" ∧ (parseMethodDescriptor y.desc).map (fun d => d.parameters.length) = some n) (hR : rm.cells = 0 ∧ rm.slots = 0 ∧ rm.frames + 1 ≤ R.frames ∧ 8 + (maxL + 11) + rm.locals ≤ R.locals)
    (hn : As.length = n) (hl : ls.size = nL) (hst : st0 = As.reverse ++ .ref am :: rest) (hrest : (rest.map fun v => v.category).sum ≤ 8) (hdg : decode cc pc = .ok (.invokevirtual index, 3)) (hcs : cells ≤ R.cells ∧ slots ≤ R.slots)
    (kk : ∀ (x : Int32) (q2 : Nat → Int) (H1 : Heap) (locs1 : List Loc), LI0 D cT s a am T q Tm q2 H1 locs1 → F x q2 → W p l e R s m args below meth c H1 locs1 cells slots Q (F0 m (pc + 3) ls (.int x :: rest))) : W p l e R s m args below meth c H locs cells slots Q (F0 m pc ls (st0)) := by
  obtain ⟨h1, h2, h3, h4, h5, h6, h7⟩ := hI
  exact th_callVM S hK h2 h7 (fun b ⟨k, _, hk⟩ => h6 b (Or.inr (ne_some hk))) hM hcode hlink hinst hsel hini hd hR h4.2.2.2 km_0 rfl hn hl hst hrest hdg hcs (fun v q2 H1 locs1 hv hH1 hS1 hF => by
    obtain ⟨x, rfl, e1, e2, e3⟩ := hp v q2 hv
    exact kk x q2 H1 locs1 ⟨LI0.otherM h5 h1 hF, hH1, h3, ⟨h4.1, e1, e2, h4.2.2.2⟩, h5, h6, hS1⟩ e3)
/-- later of the class -/
theorem lw_CL {E : Int32 → (Nat → Int) → Prop} (S : CallFix p m c cc nL s args gw own) (hK : va_K D classes (th_tys cT) s) (hI : LI0 D cT s a am T q Tm qq H locs) (hM : Met l y (Cond.code y bytes maxL ret :: gw) rm (va_Pc (.ref a :: As) (th_W D cT T (kd q))) (th_QL D cT T E wk) 0 0 (th_A T wk)) (hp : ∀ x q2, E x q2 → qokr q2)
    (hcode : Cond.code y bytes maxL ret ∈ gw) (hlink : Cond.methodLink own index y ∈ gw) (hinst : Cond.instanceMethod y ∈ gw) (hsel : Cond.selects RX10 y y ∈ gw) (hini : Cond.initialized y.cls ∈ gw)
    (hd : y.cls ≠ "java/lang/invoke/MethodHandle" ∧ y.cls ≠ "java/lang/invoke/VarHandle" ∧ (parseMethodDescriptor y.desc).map (fun d => d.parameters.length) = some n) (hR : rm.cells = 0 ∧ rm.slots = 0 ∧ rm.frames + 1 ≤ R.frames ∧ 8 + (maxL + 11) + rm.locals ≤ R.locals)
    (hn : As.length = n) (hl : ls.size = nL) (hst : st0 = As.reverse ++ .ref a :: rest) (hrest : (rest.map fun v => v.category).sum ≤ 8) (hdg : decode cc pc = .ok (.invokevirtual index, 3)) (hcs : cells ≤ R.cells ∧ slots ≤ R.slots)
    (kk : ∀ (x : Int32) (q2 : Nat → Int) (H1 : Heap) (locs1 : List Loc), LI0 D cT s a am T q2 Tm qq H1 locs1 → E x q2 → W p l e R s m args below meth c H1 locs1 cells slots Q (F0 m (pc + 3) ls (.int x :: rest))) : W p l e R s m args below meth c H locs cells slots Q (F0 m pc ls (st0)) := by
  obtain ⟨h1, h2, h3, h4, h5, h6, h7⟩ := hI
  have hts := S.2.2.2.2
  have hc1 := h1 a 0 h3.2.2
  subst hst
  obtain ⟨ws, hat, -⟩ : ∃ vs, va_at D classes (a, .inr (10, vs)) H ∧ th_O T [.inr 2, .inr 3, .inr 4, .inr 5, .inr 6, .inr 7, .inr 8, .inr 9, .inr 34, .inl (-2147483648, 2147483647)] (fun _ => True) vs := hc1
  have hP : va_P D classes [(a, .inr (10, ws))] H := fun i q hq => by
    cases i with
    | zero => cases hq; exact hat
    | succ i => simp at hq
  have hr := va_runV (e := e) (below := below) (meth := meth) (locs := locs) (As := As) (rest := rest) S hM ⟨th_callB S hcode hlink hini hd hR, hts _ hinst, hts _ hsel⟩ ⟨th_blind, va_recv hK hP (q := (RX10, TX10, 10)) rfl (q0 := 0) rfl, th_pre hK h1⟩ rfl hn hl rfl (lv_room hrest) hdg hcs
  intro T0 hT X
  obtain ⟨v, st₀, t, T', Lo, h0, X', hL, e1, e2, ⟨⟨x, q2, hv, hE, hb⟩, hz, hk⟩, st⟩ := hr T0 hT X
  cases hv
  rw [h0] at hz hk
  obtain ⟨t2, a1, b1⟩ := kk x q2 T'.heap (locs ++ Lo) ⟨by rw [e1]; exact hb.1, LI0.other (wk := wk) h5 h2 (fun b hb1 hb2 => by rw [e1]; exact hk b hb1 hb2), ⟨h3.1, hp x q2 hE, h3.2.2⟩, h4, h5, h6, ⟨Nat.le_trans h7.1 (by rw [e1]; exact hz), fun b hb1 hb2 => by rw [e1, hk b (Nat.lt_of_lt_of_le hb1 h7.1) (fun ⟨k, _, z⟩ => hb2 (h6 b (Or.inl (ne_some z))))]; exact h7.2.1 b hb1 hb2, fun b hb1 => by
      rcases List.mem_append.mp hb1 with h | h
      · exact h7.2.2 b h
      · obtain ⟨k, _, z⟩ := hL b h
        exact h6 _ (Or.inl (ne_some z))⟩⟩ hE T' rfl X'
  exact ⟨t2, st t2 a1, b1⟩
/-- house of the class -/
theorem lw_H (S : CallFix p m c cc nL s args gw own) (hK : va_K D classes (th_tys cT) s) (hE : st_S adK adV (fun q => s.heap.size ≤ q) s s.heap ∧ vk_R "HungryMaps$Tape" 68 "food map place likes border taste winter draw scale year eaten cold size worth holes hunger in folded on or and not " (adK 0) s ∧ vk_R "HungryMaps$Tape" 47 ";()<>=+-*/%" (adK 1) s) (hI : LI D cT s a am T q Tm qq H locs) (hM : Met l y (Cond.code y bytes maxL ret :: gw) rm (va_Pc (.ref a :: As) (fun U => th_W D cT T (kd q) U ∧ st_T adK adV T U)) (th_QH D cT T q a) 0 0 (fun b => T b ≠ none))
    (hcode : Cond.code y bytes maxL ret ∈ gw) (hlink : Cond.methodLink own index y ∈ gw) (hinst : Cond.instanceMethod y ∈ gw) (hsel : Cond.selects RX10 y y ∈ gw) (hini : Cond.initialized y.cls ∈ gw)
    (hd : y.cls ≠ "java/lang/invoke/MethodHandle" ∧ y.cls ≠ "java/lang/invoke/VarHandle" ∧ (parseMethodDescriptor y.desc).map (fun d => d.parameters.length) = some n) (hR : rm.cells = 0 ∧ rm.slots = 0 ∧ rm.frames + 1 ≤ R.frames ∧ 8 + (maxL + 11) + rm.locals ≤ R.locals)
    (hn : As.length = n) (hl : ls.size = nL) (hst : st0 = As.reverse ++ .ref a :: rest) (hrest : (rest.map fun v => v.category).sum ≤ 8) (hdg : decode cc pc = .ok (.invokevirtual index, 3)) (hcs : cells ≤ R.cells ∧ slots ≤ R.slots)
    (kk : ∀ (x : Int32) (T2 : Nat → Option Nat) (q2 : Nat → Int) (H1 : Heap) (locs1 : List Loc), LI D cT s a am T2 q2 Tm qq H1 locs1 → W p l e R s m args below meth c H1 locs1 cells slots Q (F0 m (pc + 3) ls (.int x :: rest))) : W p l e R s m args below meth c H locs cells slots Q (F0 m pc ls (st0)) := by
  obtain ⟨⟨h1, h2, h3, h4, h5, h6, h7⟩, h8⟩ := hI
  have hts := S.2.2.2.2
  have hc1 := h1 a 0 h3.2.2
  subst hst
  obtain ⟨ws, hat, -⟩ : ∃ vs, va_at D classes (a, .inr (10, vs)) H ∧ th_O T [.inr 2, .inr 3, .inr 4, .inr 5, .inr 6, .inr 7, .inr 8, .inr 9, .inr 34, .inl (-2147483648, 2147483647)] (fun _ => True) vs := hc1
  have hP : va_P D classes [(a, .inr (10, ws))] H := fun i q hq => by
    cases i with
    | zero => cases hq; exact hat
    | succ i => simp at hq
  have hr := va_runV (e := e) (below := below) (meth := meth) (locs := locs) (As := As) (rest := rest) S hM ⟨th_callB S hcode hlink hini hd hR, hts _ hinst, hts _ hsel⟩ ⟨th_blindS, va_recv hK hP (q := (RX10, TX10, 10)) rfl (q0 := 0) rfl, fun U hU hW => ⟨rfl, ⟨by rw [hU]; exact h1, va_K.moved hW.alike hK⟩, by rw [hU]; exact ((hE.1.kept h7.2.1).moved hW.alike).narrow (fun b z => h6 b (Or.inl z)), hE.2.1.warm hW, hE.2.2.warm hW⟩⟩ rfl hn hl rfl (lv_room hrest) hdg hcs
  intro T0 hT X
  obtain ⟨v, st₀, t, T', Lo, h0, X', hL, e1, e2, ⟨⟨x, T2, q2, hv, g1, g2, g3, g4, g5, hb⟩, hz, hk⟩, st⟩ := hr T0 hT X
  cases hv
  rw [h0] at hz hk
  have h6' : ∀ b, T2 b ≠ none ∨ Tm b ≠ none → s.heap.size ≤ b := fun b z => h6 b (z.imp (g3 b).mp id)
  obtain ⟨t2, a1, b1⟩ := kk x T2 q2 T'.heap (locs ++ Lo) ⟨⟨by rw [e1]; exact hb.1, h2.same (fun b k hb1 => by rw [e1]; exact hk b (h2.dom hb1) (fun z => by rw [h5 b z] at hb1; cases hb1)), ⟨g2, g4, g1⟩, h4, fun b z => h5 b ((g3 b).mp z), h6', ⟨Nat.le_trans h7.1 (by rw [e1]; exact hz), fun b hb1 hb2 => by rw [e1, hk b (Nat.lt_of_lt_of_le hb1 h7.1) (fun z => hb2 (h6 b (Or.inl z)))]; exact h7.2.1 b hb1 hb2, fun b hb1 => by
      rcases List.mem_append.mp hb1 with h | h
      · exact h7.2.2 b h
      · exact h6 _ (Or.inl (hL b h))⟩⟩, g5.trans h8⟩ T' rfl X'
  exact ⟨t2, st t2 a1, b1⟩
end LWC
theorem th_loose2 {D : va_G} {cT : Nat → ClassId} {T : Nat → Option Nat} {q : Nat → Int} {H : Heap} (hH : th_H D cT T (kd q) H) (hq : -2147483647 ≤ q 6) : th_H D cT T (kd (qup q 6 (-2147483647))) H := by
  intro b k hb
  by_cases hk : k = 7
  · subst hk
    have h1 := hH b 7 hb
    rw [kd_7] at h1 ⊢
    obtain ⟨vs, h2, h3⟩ := h1
    refine ⟨vs, h2, h3.mono rfl (fun j f1 f2 v e1 e2 e3 e4 => ?_)⟩
    by_cases hj : j = 11
    · subst hj
      have ef1 : f1 = .inl (q 6, 25) := (Option.some.inj e1).symm
      have ef2 : f2 = .inl (-2147483647, 25) := (Option.some.inj e2).symm
      rw [ef1] at e4
      rw [ef2]
      obtain ⟨y, hy, hiv⟩ := e4
      exact ⟨y, hy, Int.le_trans hq hiv.1, hiv.2⟩
    · have : f1 = f2 := by
        match j, hj, e1, e2 with
        | 0, _, e1, e2 => exact Option.some.inj (e1.symm.trans e2)
        | 1, _, e1, e2 => exact Option.some.inj (e1.symm.trans e2)
        | 2, _, e1, e2 => exact Option.some.inj (e1.symm.trans e2)
        | 3, _, e1, e2 => exact Option.some.inj (e1.symm.trans e2)
        | 4, _, e1, e2 => exact Option.some.inj (e1.symm.trans e2)
        | 5, _, e1, e2 => exact Option.some.inj (e1.symm.trans e2)
        | 6, _, e1, e2 => exact Option.some.inj (e1.symm.trans e2)
        | 7, _, e1, e2 => exact Option.some.inj (e1.symm.trans e2)
        | 8, _, e1, e2 => exact Option.some.inj (e1.symm.trans e2)
        | 9, _, e1, e2 => exact Option.some.inj (e1.symm.trans e2)
        | 10, _, e1, e2 => exact Option.some.inj (e1.symm.trans e2)
        | 12, _, e1, e2 => exact Option.some.inj (e1.symm.trans e2)
        | 11, h, _, _ => exact absurd rfl h
        | n + 13, _, e1, _ => exact absurd e1 (by simp)
      rw [← this]; exact e4
  · have h1 := hH b k hb
    rw [← kd_up6 q (-2147483647) k hk] at h1
    exact h1
theorem LI.loose {D : va_G} {cT : Nat → ClassId} {s : State} {a am : Nat} {T Tm : Nat → Option Nat} {q qq : Nat → Int} {H : Heap} {locs : List Loc} (h : LI D cT s a am T q Tm qq H locs) : LI D cT s a am T (qup q 6 (-2147483647)) Tm qq H locs := by
  obtain ⟨⟨h1, h2, h3, h4, h5, h6, h7⟩, h8⟩ := h
  exact ⟨⟨th_loose2 h1 (qok_6 h3.2.1.1).1, h2, ⟨h3.1, ⟨qup_ok6 h3.2.1.1 (by decide), h3.2.1.2⟩, h3.2.2⟩, h4, h5, h6, h7⟩, h8⟩
