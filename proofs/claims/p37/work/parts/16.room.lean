/-- what a yes of hasRoomFor tells -/
def roomP (q : Nat → Int) (y : Int32) : Prop := (y.toInt = 128 → q 3 ≤ 2) ∧ (y.toInt = 129 → q 4 ≤ 3) ∧ (y.toInt = 130 → q 5 ≤ 7)
def th_RH (q : Nat → Int) (y : Int32) (v : Option Value) : Prop := ∃ r : Int32, v = some (.int r) ∧ IV r 0 1 ∧ (¬ r = 0 → roomP q y)
theorem th_RH.i {q : Nat → Int} {y x : Int32} (h : IV x 0 1) (g : ¬ x = 0 → roomP q y) : th_RH q y (some (.int x)) := ⟨x, rfl, h, g⟩
/-- a yes tells that v lies between a and b -/
def th_RN (v a b : Int32) (o : Option Value) : Prop := ∃ r : Int32, o = some (.int r) ∧ IV r 0 1 ∧ (¬ r = 0 → a.toInt ≤ v.toInt ∧ v.toInt ≤ b.toInt)
theorem th_RN.i {v a b x : Int32} (h : IV x 0 1) (g : ¬ x = 0 → a.toInt ≤ v.toInt ∧ v.toInt ≤ b.toInt) : th_RN v a b (some (.int x)) := ⟨x, rfl, h, g⟩
section THJ
variable {p : Program} {l : Launch} {e : Env} {R : Room} {s : State} {m : MethodId} {args : Array Value} {below : List Frame} {meth : Method} {c : Code} {H : Heap} {locs : List Loc} {cells slots : Nat} {Q : State → Prop}
variable {cc bytes : ByteArray} {pc nL maxL n index ci N k : Nat} {ls : Array Slot} {rest st0 As : List Value} {D : va_G} {cT : Nat → ClassId} {T : Nat → Option Nat} {Ks : Nat → th_K} {A : Nat → Prop} {b : Nat} {H0 : Heap} {own C : String} {y : MethodName} {ret : Option FieldType} {rm : Room} {wk : List Nat} {fs : List th_F} {Rf : List Value → Prop} {Tf : u_T}
theorem th_callVh (S : CallFix p m c cc nL s args gw own) (hK : va_K D classes (th_tys cT) s) (hH : th_H D cT T Ks H) (hS : va_S A H0 H locs) (hwk : ∀ q, th_A T wk q → A q) {qg : Nat → Int} {yg : Int32} (hM : th_Met l D cT T Ks y bytes maxL ret rm (.ref b :: As) (th_RH qg yg) wk)
    (hcode : Cond.code y bytes maxL ret ∈ gw) (hlink : Cond.methodLink own index y ∈ gw) (hinst : Cond.instanceMethod y ∈ gw) (hsel : Cond.selects C y y ∈ gw) (hini : Cond.initialized y.cls ∈ gw)
    (hd : y.cls ≠ "java/lang/invoke/MethodHandle" ∧ y.cls ≠ "java/lang/invoke/VarHandle" ∧ (parseMethodDescriptor y.desc).map (fun d => d.parameters.length) = some n) (hR : rm.cells = 0 ∧ rm.slots = 0 ∧ rm.frames + 1 ≤ R.frames ∧ 8 + (maxL + 11) + rm.locals ≤ R.locals)
    (ha : T b = some k) (hk : Ks k = .inl (ci, fs, Rf)) (hc : classes[ci]? = some (C, Tf, N)) (hn : As.length = n) (hl : ls.size = nL) (hst : st0 = As.reverse ++ .ref b :: rest) (hrest : (rest.map fun v => v.category).sum ≤ 8) (hdg : decode cc pc = .ok (.invokevirtual index, 3)) (hcs : cells ≤ R.cells ∧ slots ≤ R.slots)
    (kk : ∀ (x : Int32) (H1 : Heap) (locs1 : List Loc), IV x 0 1 → (¬ x = 0 → roomP qg yg) → th_H D cT T Ks H1 → va_S A H0 H1 locs1 → (∀ q : Nat, q < H.size → ¬ th_A T wk q → H1[q]? = H[q]?) → W p l e R s m args below meth c H1 locs1 cells slots Q (F0 m (pc + 3) ls (.int x :: rest))) : W p l e R s m args below meth c H locs cells slots Q (F0 m pc ls st0) :=
  th_callV S hK hH hS hwk hM hcode hlink hinst hsel hini hd hR ha hk hc hn hl hst hrest hdg hcs (fun v H1 locs1 hv h1 h2 h3 => by
    obtain ⟨x, rfl, hx, hg⟩ := hv
    exact kk x H1 locs1 hx hg h1 h2 h3)
theorem th_callVn (S : CallFix p m c cc nL s args gw own) (hK : va_K D classes (th_tys cT) s) (hH : th_H D cT T Ks H) (hS : va_S A H0 H locs) (hwk : ∀ q, th_A T wk q → A q) {vg ag bg : Int32} (hM : th_Met l D cT T Ks y bytes maxL ret rm (.ref b :: As) (th_RN vg ag bg) wk)
    (hcode : Cond.code y bytes maxL ret ∈ gw) (hlink : Cond.methodLink own index y ∈ gw) (hinst : Cond.instanceMethod y ∈ gw) (hsel : Cond.selects C y y ∈ gw) (hini : Cond.initialized y.cls ∈ gw)
    (hd : y.cls ≠ "java/lang/invoke/MethodHandle" ∧ y.cls ≠ "java/lang/invoke/VarHandle" ∧ (parseMethodDescriptor y.desc).map (fun d => d.parameters.length) = some n) (hR : rm.cells = 0 ∧ rm.slots = 0 ∧ rm.frames + 1 ≤ R.frames ∧ 8 + (maxL + 11) + rm.locals ≤ R.locals)
    (ha : T b = some k) (hk : Ks k = .inl (ci, fs, Rf)) (hc : classes[ci]? = some (C, Tf, N)) (hn : As.length = n) (hl : ls.size = nL) (hst : st0 = As.reverse ++ .ref b :: rest) (hrest : (rest.map fun v => v.category).sum ≤ 8) (hdg : decode cc pc = .ok (.invokevirtual index, 3)) (hcs : cells ≤ R.cells ∧ slots ≤ R.slots)
    (kk : ∀ (x : Int32) (H1 : Heap) (locs1 : List Loc), IV x 0 1 → (¬ x = 0 → ag.toInt ≤ vg.toInt ∧ vg.toInt ≤ bg.toInt) → th_H D cT T Ks H1 → va_S A H0 H1 locs1 → (∀ q : Nat, q < H.size → ¬ th_A T wk q → H1[q]? = H[q]?) → W p l e R s m args below meth c H1 locs1 cells slots Q (F0 m (pc + 3) ls (.int x :: rest))) : W p l e R s m args below meth c H locs cells slots Q (F0 m pc ls st0) :=
  th_callV S hK hH hS hwk hM hcode hlink hinst hsel hini hd hR ha hk hc hn hl hst hrest hdg hcs (fun v H1 locs1 hv h1 h2 h3 => by
    obtain ⟨x, rfl, hx, hg⟩ := hv
    exact kk x H1 locs1 hx hg h1 h2 h3)
theorem th_callSn (S : CallFix p m c cc nL s args gw own) (hK : va_K D classes (th_tys cT) s) (hH : th_H D cT T Ks H) (hS : va_S A H0 H locs) (hwk : ∀ q, th_A T wk q → A q) {vg ag bg : Int32} (hM : th_Met l D cT T Ks y bytes maxL ret rm As (th_RN vg ag bg) wk)
    (hcode : Cond.code y bytes maxL ret ∈ gw) (hlink : Cond.methodLink own index y ∈ gw) (hstat : Cond.static y ∈ gw) (hini : Cond.initialized y.cls ∈ gw)
    (hd : y.cls ≠ "java/lang/invoke/MethodHandle" ∧ y.cls ≠ "java/lang/invoke/VarHandle" ∧ (parseMethodDescriptor y.desc).map (fun d => d.parameters.length) = some n) (hR : rm.cells = 0 ∧ rm.slots = 0 ∧ rm.frames + 1 ≤ R.frames ∧ 8 + (maxL + 11) + rm.locals ≤ R.locals)
    (hn : As.length = n) (hl : ls.size = nL) (hst : st0 = As.reverse ++ rest) (hrest : (rest.map fun v => v.category).sum ≤ 8) (hdg : decode cc pc = .ok (.invokestatic index, 3)) (hcs : cells ≤ R.cells ∧ slots ≤ R.slots)
    (kk : ∀ (x : Int32) (H1 : Heap) (locs1 : List Loc), IV x 0 1 → (¬ x = 0 → ag.toInt ≤ vg.toInt ∧ vg.toInt ≤ bg.toInt) → th_H D cT T Ks H1 → va_S A H0 H1 locs1 → (∀ q : Nat, q < H.size → ¬ th_A T wk q → H1[q]? = H[q]?) → W p l e R s m args below meth c H1 locs1 cells slots Q (F0 m (pc + 3) ls (.int x :: rest))) : W p l e R s m args below meth c H locs cells slots Q (F0 m pc ls st0) :=
  th_callS S hK hH hS hwk hM hcode hlink hstat hini hd hR hn hl hst hrest hdg hcs (fun v H1 locs1 hv h1 h2 h3 => by
    obtain ⟨x, rfl, hx, hg⟩ := hv
    exact kk x H1 locs1 hx hg h1 h2 h3)
end THJ
