def th_R (T : Nat → Option Nat) (o : Option th_F) (v : Option Value) : Prop := match o with
  | none => v = none
  | some f => ∃ w : Value, v = some w ∧ th_V T f w
theorem th_R.i {T : Nat → Option Nat} {x : Int32} {lo hi : Int} (h : IV x lo hi) : th_R T (some (.inl (lo, hi))) (some (.int x)) := ⟨_, rfl, th_iv h⟩
theorem th_R.r {T : Nat → Option Nat} {a k : Nat} (h : T a = some k) : th_R T (some (.inr (k + 1))) (some (.ref a)) := ⟨_, rfl, th_rf h⟩
theorem th_R.l {T : Nat → Option Nat} (y : Int64) : th_R T (some (.inr 0)) (some (.long y)) := ⟨_, rfl, th_lg y⟩
/-- a yes (not 0) tells where y lies -/
def th_RG (y : Int32) (lo hi : Int) (v : Option Value) : Prop := ∃ r : Int32, v = some (.int r) ∧ IV r 0 1 ∧ (¬ r = 0 → IV y lo hi)
theorem th_RG.i {y x : Int32} {lo hi : Int} (h : IV x 0 1) (g : ¬ x = 0 → IV y lo hi) : th_RG y lo hi (some (.int x)) := ⟨x, rfl, h, g⟩
abbrev rmk (f k : Nat) : Room := { frames := f, cells := 0, slots := 0, locals := k }
theorem th_up {x z : Int32} {lo hi c : Int} {n : Nat} (a : IV x lo hi) (e : z.toInt = x.toInt + c) (hc : 0 < c) (h : (hi + 1 - x.toInt).toNat < n + 1) : (hi + 1 - z.toInt).toNat < n := by
  have := a.2
  omega
theorem th_down {x z : Int32} {lo hi c : Int} {n : Nat} (a : IV x lo hi) (e : z.toInt = x.toInt + c) (hc : c < 0) (h : (x.toInt + 1 - lo).toNat < n + 1) : (z.toInt + 1 - lo).toNat < n := by
  have := a.1
  omega
section THI
variable {p : Program} {l : Launch} {e : Env} {R : Room} {s : State} {m : MethodId} {args : Array Value} {below : List Frame} {meth : Method} {c : Code} {H : Heap} {locs : List Loc} {cells slots : Nat} {Q : State → Prop}
variable {cc bytes : ByteArray} {pc nL maxL n index ci N k : Nat} {ls : Array Slot} {rest st0 As : List Value} {D : va_G} {cT : Nat → ClassId} {T : Nat → Option Nat} {Ks : Nat → th_K} {A : Nat → Prop} {b : Nat} {H0 : Heap} {own C : String} {y : MethodName} {ret : Option FieldType} {rm : Room} {wk : List Nat} {fs : List th_F} {Rf : List Value → Prop} {Tf : u_T}
theorem th_iinc (S : CallFix p m c cc nL s args gw own) {i k : Nat} {d lo hi : Int} {x : Int32} {lv : List (Nat × Value)} (hdg : decode cc pc = .ok (.iinc i d, 3)) (h : lv_has ls nL lv) (hk : lv[k]? = some (i, .int x)) (hn : i < nL) (a : IV x lo hi) (q : -2147483648 ≤ lo + d ∧ hi + d ≤ 2147483647 ∧ (Int32.ofInt d).toInt = d)
    (kk : ∀ (z : Int32) (ls : Array Slot), z.toInt = x.toInt + d → IV z (lo + d) (hi + d) → lv_has ls nL ((i, Value.int z) :: lv.filter (fun q => !(q.1 == i) && !(q.1 + 1 == i && q.2.category == 2))) → W p l e R s m args below meth c H locs cells slots Q (F0 m (pc + 3) ls rest)) : W p l e R s m args below meth c H locs cells slots Q (F0 m pc ls rest) := by
  obtain ⟨a1, a2⟩ := a
  obtain ⟨q1, q2, q3⟩ := q
  have e1 : (x + Int32.ofInt d).toInt = x.toInt + d := by rw [iv_addE (by omega), q3]
  exact lv_iinc (v := x + Int32.ofInt d) S.1 S.2.1 hdg h hk rfl hn rfl (fun ls hl => kk _ ls e1 ⟨by rw [e1]; omega, by rw [e1]; omega⟩ hl)
theorem th_callVi (S : CallFix p m c cc nL s args gw own) (hK : va_K D classes (th_tys cT) s) (hH : th_H D cT T Ks H) (hS : va_S A H0 H locs) (hwk : ∀ q, th_A T wk q → A q) {lo hi : Int} (hM : th_Met l D cT T Ks y bytes maxL ret rm (.ref b :: As) (th_R T (some (.inl (lo, hi)))) wk)
    (hcode : Cond.code y bytes maxL ret ∈ gw) (hlink : Cond.methodLink own index y ∈ gw) (hinst : Cond.instanceMethod y ∈ gw) (hsel : Cond.selects C y y ∈ gw) (hini : Cond.initialized y.cls ∈ gw)
    (hd : y.cls ≠ "java/lang/invoke/MethodHandle" ∧ y.cls ≠ "java/lang/invoke/VarHandle" ∧ (parseMethodDescriptor y.desc).map (fun d => d.parameters.length) = some n) (hR : rm.cells = 0 ∧ rm.slots = 0 ∧ rm.frames + 1 ≤ R.frames ∧ 8 + (maxL + 11) + rm.locals ≤ R.locals)
    (ha : T b = some k) (hk : Ks k = .inl (ci, fs, Rf)) (hc : classes[ci]? = some (C, Tf, N)) (hn : As.length = n) (hl : ls.size = nL) (hst : st0 = As.reverse ++ .ref b :: rest) (hrest : (rest.map fun v => v.category).sum ≤ 8) (hdg : decode cc pc = .ok (.invokevirtual index, 3)) (hcs : cells ≤ R.cells ∧ slots ≤ R.slots)
    (kk : ∀ (x : Int32) (H1 : Heap) (locs1 : List Loc), IV x lo hi → th_H D cT T Ks H1 → va_S A H0 H1 locs1 → (∀ q : Nat, q < H.size → ¬ th_A T wk q → H1[q]? = H[q]?) → W p l e R s m args below meth c H1 locs1 cells slots Q (F0 m (pc + 3) ls (.int x :: rest))) : W p l e R s m args below meth c H locs cells slots Q (F0 m pc ls st0) :=
  th_callV S hK hH hS hwk hM hcode hlink hinst hsel hini hd hR ha hk hc hn hl hst hrest hdg hcs (fun v H1 locs1 hv h1 h2 h3 => by
    obtain ⟨w, rfl, x, rfl, hx⟩ := hv
    exact kk x H1 locs1 hx h1 h2 h3)
theorem th_callVv (S : CallFix p m c cc nL s args gw own) (hK : va_K D classes (th_tys cT) s) (hH : th_H D cT T Ks H) (hS : va_S A H0 H locs) (hwk : ∀ q, th_A T wk q → A q) (hM : th_Met l D cT T Ks y bytes maxL ret rm (.ref b :: As) (th_R T none) wk)
    (hcode : Cond.code y bytes maxL ret ∈ gw) (hlink : Cond.methodLink own index y ∈ gw) (hinst : Cond.instanceMethod y ∈ gw) (hsel : Cond.selects C y y ∈ gw) (hini : Cond.initialized y.cls ∈ gw)
    (hd : y.cls ≠ "java/lang/invoke/MethodHandle" ∧ y.cls ≠ "java/lang/invoke/VarHandle" ∧ (parseMethodDescriptor y.desc).map (fun d => d.parameters.length) = some n) (hR : rm.cells = 0 ∧ rm.slots = 0 ∧ rm.frames + 1 ≤ R.frames ∧ 8 + (maxL + 11) + rm.locals ≤ R.locals)
    (ha : T b = some k) (hk : Ks k = .inl (ci, fs, Rf)) (hc : classes[ci]? = some (C, Tf, N)) (hn : As.length = n) (hl : ls.size = nL) (hst : st0 = As.reverse ++ .ref b :: rest) (hrest : (rest.map fun v => v.category).sum ≤ 8) (hdg : decode cc pc = .ok (.invokevirtual index, 3)) (hcs : cells ≤ R.cells ∧ slots ≤ R.slots)
    (kk : ∀ (H1 : Heap) (locs1 : List Loc), th_H D cT T Ks H1 → va_S A H0 H1 locs1 → (∀ q : Nat, q < H.size → ¬ th_A T wk q → H1[q]? = H[q]?) → W p l e R s m args below meth c H1 locs1 cells slots Q (F0 m (pc + 3) ls rest)) : W p l e R s m args below meth c H locs cells slots Q (F0 m pc ls st0) :=
  th_callV S hK hH hS hwk hM hcode hlink hinst hsel hini hd hR ha hk hc hn hl hst hrest hdg hcs (fun v H1 locs1 hv h1 h2 h3 => by
    have hv : v = none := hv
    subst hv
    exact kk H1 locs1 h1 h2 h3)
theorem th_callVr (S : CallFix p m c cc nL s args gw own) (hK : va_K D classes (th_tys cT) s) (hH : th_H D cT T Ks H) (hS : va_S A H0 H locs) (hwk : ∀ q, th_A T wk q → A q) {kr : Nat} (hM : th_Met l D cT T Ks y bytes maxL ret rm (.ref b :: As) (th_R T (some (.inr (kr + 1)))) wk)
    (hcode : Cond.code y bytes maxL ret ∈ gw) (hlink : Cond.methodLink own index y ∈ gw) (hinst : Cond.instanceMethod y ∈ gw) (hsel : Cond.selects C y y ∈ gw) (hini : Cond.initialized y.cls ∈ gw)
    (hd : y.cls ≠ "java/lang/invoke/MethodHandle" ∧ y.cls ≠ "java/lang/invoke/VarHandle" ∧ (parseMethodDescriptor y.desc).map (fun d => d.parameters.length) = some n) (hR : rm.cells = 0 ∧ rm.slots = 0 ∧ rm.frames + 1 ≤ R.frames ∧ 8 + (maxL + 11) + rm.locals ≤ R.locals)
    (ha : T b = some k) (hk : Ks k = .inl (ci, fs, Rf)) (hc : classes[ci]? = some (C, Tf, N)) (hn : As.length = n) (hl : ls.size = nL) (hst : st0 = As.reverse ++ .ref b :: rest) (hrest : (rest.map fun v => v.category).sum ≤ 8) (hdg : decode cc pc = .ok (.invokevirtual index, 3)) (hcs : cells ≤ R.cells ∧ slots ≤ R.slots)
    (kk : ∀ (a : Nat) (H1 : Heap) (locs1 : List Loc), T a = some kr → th_H D cT T Ks H1 → va_S A H0 H1 locs1 → (∀ q : Nat, q < H.size → ¬ th_A T wk q → H1[q]? = H[q]?) → W p l e R s m args below meth c H1 locs1 cells slots Q (F0 m (pc + 3) ls (.ref a :: rest))) : W p l e R s m args below meth c H locs cells slots Q (F0 m pc ls st0) :=
  th_callV S hK hH hS hwk hM hcode hlink hinst hsel hini hd hR ha hk hc hn hl hst hrest hdg hcs (fun v H1 locs1 hv h1 h2 h3 => by
    obtain ⟨w, rfl, x, rfl, hx⟩ := hv
    exact kk x H1 locs1 hx h1 h2 h3)
theorem th_callVl (S : CallFix p m c cc nL s args gw own) (hK : va_K D classes (th_tys cT) s) (hH : th_H D cT T Ks H) (hS : va_S A H0 H locs) (hwk : ∀ q, th_A T wk q → A q) (hM : th_Met l D cT T Ks y bytes maxL ret rm (.ref b :: As) (th_R T (some (.inr 0))) wk)
    (hcode : Cond.code y bytes maxL ret ∈ gw) (hlink : Cond.methodLink own index y ∈ gw) (hinst : Cond.instanceMethod y ∈ gw) (hsel : Cond.selects C y y ∈ gw) (hini : Cond.initialized y.cls ∈ gw)
    (hd : y.cls ≠ "java/lang/invoke/MethodHandle" ∧ y.cls ≠ "java/lang/invoke/VarHandle" ∧ (parseMethodDescriptor y.desc).map (fun d => d.parameters.length) = some n) (hR : rm.cells = 0 ∧ rm.slots = 0 ∧ rm.frames + 1 ≤ R.frames ∧ 8 + (maxL + 11) + rm.locals ≤ R.locals)
    (ha : T b = some k) (hk : Ks k = .inl (ci, fs, Rf)) (hc : classes[ci]? = some (C, Tf, N)) (hn : As.length = n) (hl : ls.size = nL) (hst : st0 = As.reverse ++ .ref b :: rest) (hrest : (rest.map fun v => v.category).sum ≤ 8) (hdg : decode cc pc = .ok (.invokevirtual index, 3)) (hcs : cells ≤ R.cells ∧ slots ≤ R.slots)
    (kk : ∀ (x : Int64) (H1 : Heap) (locs1 : List Loc), th_H D cT T Ks H1 → va_S A H0 H1 locs1 → (∀ q : Nat, q < H.size → ¬ th_A T wk q → H1[q]? = H[q]?) → W p l e R s m args below meth c H1 locs1 cells slots Q (F0 m (pc + 3) ls (.long x :: rest))) : W p l e R s m args below meth c H locs cells slots Q (F0 m pc ls st0) :=
  th_callV S hK hH hS hwk hM hcode hlink hinst hsel hini hd hR ha hk hc hn hl hst hrest hdg hcs (fun v H1 locs1 hv h1 h2 h3 => by
    obtain ⟨w, rfl, x, rfl⟩ := hv
    exact kk x H1 locs1 h1 h2 h3)
theorem th_callSi (S : CallFix p m c cc nL s args gw own) (hK : va_K D classes (th_tys cT) s) (hH : th_H D cT T Ks H) (hS : va_S A H0 H locs) (hwk : ∀ q, th_A T wk q → A q) {lo hi : Int} (hM : th_Met l D cT T Ks y bytes maxL ret rm As (th_R T (some (.inl (lo, hi)))) wk)
    (hcode : Cond.code y bytes maxL ret ∈ gw) (hlink : Cond.methodLink own index y ∈ gw) (hstat : Cond.static y ∈ gw) (hini : Cond.initialized y.cls ∈ gw)
    (hd : y.cls ≠ "java/lang/invoke/MethodHandle" ∧ y.cls ≠ "java/lang/invoke/VarHandle" ∧ (parseMethodDescriptor y.desc).map (fun d => d.parameters.length) = some n) (hR : rm.cells = 0 ∧ rm.slots = 0 ∧ rm.frames + 1 ≤ R.frames ∧ 8 + (maxL + 11) + rm.locals ≤ R.locals)
    (hn : As.length = n) (hl : ls.size = nL) (hst : st0 = As.reverse ++ rest) (hrest : (rest.map fun v => v.category).sum ≤ 8) (hdg : decode cc pc = .ok (.invokestatic index, 3)) (hcs : cells ≤ R.cells ∧ slots ≤ R.slots)
    (kk : ∀ (x : Int32) (H1 : Heap) (locs1 : List Loc), IV x lo hi → th_H D cT T Ks H1 → va_S A H0 H1 locs1 → (∀ q : Nat, q < H.size → ¬ th_A T wk q → H1[q]? = H[q]?) → W p l e R s m args below meth c H1 locs1 cells slots Q (F0 m (pc + 3) ls (.int x :: rest))) : W p l e R s m args below meth c H locs cells slots Q (F0 m pc ls st0) :=
  th_callS S hK hH hS hwk hM hcode hlink hstat hini hd hR hn hl hst hrest hdg hcs (fun v H1 locs1 hv h1 h2 h3 => by
    obtain ⟨w, rfl, x, rfl, hx⟩ := hv
    exact kk x H1 locs1 hx h1 h2 h3)
theorem th_callSv (S : CallFix p m c cc nL s args gw own) (hK : va_K D classes (th_tys cT) s) (hH : th_H D cT T Ks H) (hS : va_S A H0 H locs) (hwk : ∀ q, th_A T wk q → A q) (hM : th_Met l D cT T Ks y bytes maxL ret rm As (th_R T none) wk)
    (hcode : Cond.code y bytes maxL ret ∈ gw) (hlink : Cond.methodLink own index y ∈ gw) (hstat : Cond.static y ∈ gw) (hini : Cond.initialized y.cls ∈ gw)
    (hd : y.cls ≠ "java/lang/invoke/MethodHandle" ∧ y.cls ≠ "java/lang/invoke/VarHandle" ∧ (parseMethodDescriptor y.desc).map (fun d => d.parameters.length) = some n) (hR : rm.cells = 0 ∧ rm.slots = 0 ∧ rm.frames + 1 ≤ R.frames ∧ 8 + (maxL + 11) + rm.locals ≤ R.locals)
    (hn : As.length = n) (hl : ls.size = nL) (hst : st0 = As.reverse ++ rest) (hrest : (rest.map fun v => v.category).sum ≤ 8) (hdg : decode cc pc = .ok (.invokestatic index, 3)) (hcs : cells ≤ R.cells ∧ slots ≤ R.slots)
    (kk : ∀ (H1 : Heap) (locs1 : List Loc), th_H D cT T Ks H1 → va_S A H0 H1 locs1 → (∀ q : Nat, q < H.size → ¬ th_A T wk q → H1[q]? = H[q]?) → W p l e R s m args below meth c H1 locs1 cells slots Q (F0 m (pc + 3) ls rest)) : W p l e R s m args below meth c H locs cells slots Q (F0 m pc ls st0) :=
  th_callS S hK hH hS hwk hM hcode hlink hstat hini hd hR hn hl hst hrest hdg hcs (fun v H1 locs1 hv h1 h2 h3 => by
    have hv : v = none := hv
    subst hv
    exact kk H1 locs1 h1 h2 h3)
theorem th_callVg (S : CallFix p m c cc nL s args gw own) (hK : va_K D classes (th_tys cT) s) (hH : th_H D cT T Ks H) (hS : va_S A H0 H locs) (hwk : ∀ q, th_A T wk q → A q) {yg : Int32} {lo hi : Int} (hM : th_Met l D cT T Ks y bytes maxL ret rm (.ref b :: As) (th_RG yg lo hi) wk)
    (hcode : Cond.code y bytes maxL ret ∈ gw) (hlink : Cond.methodLink own index y ∈ gw) (hinst : Cond.instanceMethod y ∈ gw) (hsel : Cond.selects C y y ∈ gw) (hini : Cond.initialized y.cls ∈ gw)
    (hd : y.cls ≠ "java/lang/invoke/MethodHandle" ∧ y.cls ≠ "java/lang/invoke/VarHandle" ∧ (parseMethodDescriptor y.desc).map (fun d => d.parameters.length) = some n) (hR : rm.cells = 0 ∧ rm.slots = 0 ∧ rm.frames + 1 ≤ R.frames ∧ 8 + (maxL + 11) + rm.locals ≤ R.locals)
    (ha : T b = some k) (hk : Ks k = .inl (ci, fs, Rf)) (hc : classes[ci]? = some (C, Tf, N)) (hn : As.length = n) (hl : ls.size = nL) (hst : st0 = As.reverse ++ .ref b :: rest) (hrest : (rest.map fun v => v.category).sum ≤ 8) (hdg : decode cc pc = .ok (.invokevirtual index, 3)) (hcs : cells ≤ R.cells ∧ slots ≤ R.slots)
    (kk : ∀ (x : Int32) (H1 : Heap) (locs1 : List Loc), IV x 0 1 → (¬ x = 0 → IV yg lo hi) → th_H D cT T Ks H1 → va_S A H0 H1 locs1 → (∀ q : Nat, q < H.size → ¬ th_A T wk q → H1[q]? = H[q]?) → W p l e R s m args below meth c H1 locs1 cells slots Q (F0 m (pc + 3) ls (.int x :: rest))) : W p l e R s m args below meth c H locs cells slots Q (F0 m pc ls st0) :=
  th_callV S hK hH hS hwk hM hcode hlink hinst hsel hini hd hR ha hk hc hn hl hst hrest hdg hcs (fun v H1 locs1 hv h1 h2 h3 => by
    obtain ⟨x, rfl, hx, hg⟩ := hv
    exact kk x H1 locs1 hx hg h1 h2 h3)
theorem th_callSg (S : CallFix p m c cc nL s args gw own) (hK : va_K D classes (th_tys cT) s) (hH : th_H D cT T Ks H) (hS : va_S A H0 H locs) (hwk : ∀ q, th_A T wk q → A q) {yg : Int32} {lo hi : Int} (hM : th_Met l D cT T Ks y bytes maxL ret rm As (th_RG yg lo hi) wk)
    (hcode : Cond.code y bytes maxL ret ∈ gw) (hlink : Cond.methodLink own index y ∈ gw) (hstat : Cond.static y ∈ gw) (hini : Cond.initialized y.cls ∈ gw)
    (hd : y.cls ≠ "java/lang/invoke/MethodHandle" ∧ y.cls ≠ "java/lang/invoke/VarHandle" ∧ (parseMethodDescriptor y.desc).map (fun d => d.parameters.length) = some n) (hR : rm.cells = 0 ∧ rm.slots = 0 ∧ rm.frames + 1 ≤ R.frames ∧ 8 + (maxL + 11) + rm.locals ≤ R.locals)
    (hn : As.length = n) (hl : ls.size = nL) (hst : st0 = As.reverse ++ rest) (hrest : (rest.map fun v => v.category).sum ≤ 8) (hdg : decode cc pc = .ok (.invokestatic index, 3)) (hcs : cells ≤ R.cells ∧ slots ≤ R.slots)
    (kk : ∀ (x : Int32) (H1 : Heap) (locs1 : List Loc), IV x 0 1 → (¬ x = 0 → IV yg lo hi) → th_H D cT T Ks H1 → va_S A H0 H1 locs1 → (∀ q : Nat, q < H.size → ¬ th_A T wk q → H1[q]? = H[q]?) → W p l e R s m args below meth c H1 locs1 cells slots Q (F0 m (pc + 3) ls (.int x :: rest))) : W p l e R s m args below meth c H locs cells slots Q (F0 m pc ls st0) :=
  th_callS S hK hH hS hwk hM hcode hlink hstat hini hd hR hn hl hst hrest hdg hcs (fun v H1 locs1 hv h1 h2 h3 => by
    obtain ⟨x, rfl, hx, hg⟩ := hv
    exact kk x H1 locs1 hx hg h1 h2 h3)
end THI
