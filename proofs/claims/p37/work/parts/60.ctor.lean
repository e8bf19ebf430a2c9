/-! making objects: the world grows; an object under way is told apart until all its fields stand -/
def th_new (T : Nat → Option Nat) (h k : Nat) : Nat → Option Nat := fun q => if q = h then some k else T q
theorem th_new_self {T : Nat → Option Nat} {h k : Nat} : th_new T h k h = some k := if_pos rfl
theorem th_new_ne {T : Nat → Option Nat} {h k q : Nat} (hn : q ≠ h) : th_new T h k q = T q := if_neg hn
theorem th_V.mono {T T2 : Nat → Option Nat} {f : th_F} {v : Value} (hm : ∀ a k, T a = some k → T2 a = some k) (h : th_V T f v) : th_V T2 f v := by
  cases f with
  | inl b => exact h
  | inr n =>
    cases n with
    | zero => exact h
    | succ k =>
      obtain ⟨a, h1, h2⟩ := h
      exact ⟨a, h1, hm a k h2⟩
theorem th_C.mono {D : va_G} {cT : Nat → ClassId} {T T2 : Nat → Option Nat} {kd : th_K} {H : Heap} {a : Nat} (hm : ∀ a k, T a = some k → T2 a = some k) (h : th_C D cT T kd H a) : th_C D cT T2 kd H a := by
  cases kd with
  | inl o =>
    obtain ⟨vs, h1, h2, h3, h4⟩ := h
    exact ⟨vs, h1, h2, fun j f hj => by
      obtain ⟨v, h5, h6⟩ := h3 j f hj
      exact ⟨v, h5, h6.mono hm⟩, h4⟩
  | inr r =>
    obtain ⟨g, h1, h2⟩ := h
    exact ⟨g, h1, fun j hj => (h2 j hj).mono hm⟩
theorem th_H.dom {D : va_G} {cT : Nat → ClassId} {T : Nat → Option Nat} {Ks : Nat → th_K} {H : Heap} {a k : Nat} (hH : th_H D cT T Ks H) (ha : T a = some k) : a < H.size := by
  have h := hH a k ha
  cases hk : Ks k with
  | inl o =>
    rw [hk] at h
    obtain ⟨vs, h1, _⟩ := h
    exact h1.lt
  | inr r =>
    rw [hk] at h
    obtain ⟨g, h1, _⟩ := h
    exact (Array.getElem?_eq_some_iff.mp h1).1
theorem th_H.free {D : va_G} {cT : Nat → ClassId} {T : Nat → Option Nat} {Ks : Nat → th_K} {H : Heap} {h : Nat} (hH : th_H D cT T Ks H) (hh : H.size ≤ h) : T h = none := by
  cases hx : T h with
  | none => rfl
  | some k => have := hH.dom hx; omega
theorem th_H.same {D : va_G} {cT : Nat → ClassId} {T : Nat → Option Nat} {Ks : Nat → th_K} {H H1 : Heap} (hH : th_H D cT T Ks H) (hq : ∀ a k, T a = some k → H1[a]? = H[a]?) : th_H D cT T Ks H1 := fun b j hb => (hH b j hb).kept (hq b j hb)
theorem th_new_sub {T : Nat → Option Nat} {h k2 : Nat} (hn : T h = none) : ∀ a k, T a = some k → th_new T h k2 a = some k := fun a k ha => by
  by_cases e : a = h
  · rw [e, hn] at ha
    cases ha
  · exact (if_neg e).trans ha
theorem th_H.add {D : va_G} {cT : Nat → ClassId} {T : Nat → Option Nat} {Ks : Nat → th_K} {H H1 : Heap} {h k : Nat} (hH : th_H D cT T Ks H) (hn : T h = none) (hq : ∀ a k, T a = some k → H1[a]? = H[a]?) (hc : th_C D cT (th_new T h k) (Ks k) H1 h) : th_H D cT (th_new T h k) Ks H1 := by
  intro b j hb
  by_cases e : b = h
  · subst e
    cases th_new_self.symm.trans hb
    exact hc
  · rw [th_new_ne e] at hb
    exact ((hH b j hb).kept (hq b j hb)).mono (th_new_sub hn)
/-- an object becomes one of the world's -/
theorem th_type {D : va_G} {cT : Nat → ClassId} {T : Nat → Option Nat} {Ks : Nat → th_K} {H : Heap} {a k ci : Nat} {fs : List th_F} {Rf : List Value → Prop} {vs : List Value} (hH : th_H D cT T Ks H) (hn : T a = none) (hR : va_at D classes (a, .inr (ci, vs)) H) (hk : Ks k = .inl (ci, fs, Rf)) (ho : th_O (th_new T a k) fs Rf vs) : th_H D cT (th_new T a k) Ks H :=
  hH.add hn (fun _ _ _ => rfl) (by rw [hk]; exact ⟨vs, hR, ho⟩)
theorem th_typeA {D : va_G} {cT : Nat → ClassId} {T : Nat → Option Nat} {Ks : Nat → th_K} {H : Heap} {a k t n : Nat} {el : Nat → th_F} {g : Nat → Value} (hH : th_H D cT T Ks H) (hn : T a = none) (hB : H[a]? = some (arrV (cT t) n g)) (hk : Ks k = .inr (t, n, el)) (hg : ∀ j, j < n → th_V T (el j) (g j)) : th_H D cT (th_new T a k) Ks H :=
  hH.add hn (fun _ _ _ => rfl) (by rw [hk]; exact ⟨g, hB, fun j hj => (hg j hj).mono (th_new_sub hn)⟩)
/-- how a world has grown since there were sz cells: new cells of the kinds nk; of the kinds U at most one each -/
def th_grow (U : List Nat) (T Tc : Nat → Option Nat) (sz : Nat) (nk : List Nat) : Prop := (∀ b, b < sz → Tc b = T b) ∧ (∀ b j, sz ≤ b → Tc b = some j → j ∈ nk) ∧ ∀ j ∈ U, ∀ b b2, sz ≤ b → sz ≤ b2 → Tc b = some j → Tc b2 = some j → b = b2
/-- behind a constructor: a is of kind k -/
def th_ext (U : List Nat) (T T2 : Nat → Option Nat) (sz a k : Nat) (nk : List Nat) : Prop := T2 a = some k ∧ (∀ b, b < sz → b ≠ a → T2 b = T b) ∧ (∀ b j, sz ≤ b → b ≠ a → T2 b = some j → j ∈ nk) ∧ ∀ j ∈ U, ∀ b b2, sz ≤ b → sz ≤ b2 → b ≠ a → b2 ≠ a → T2 b = some j → T2 b2 = some j → b = b2
theorem th_grow.rf {U : List Nat} {T : Nat → Option Nat} {sz : Nat} (h : ∀ b, sz ≤ b → T b = none) : th_grow U T T sz [] :=
  ⟨fun _ _ => rfl, fun b j hb e => (by rw [h b hb] at e; cases e), fun j _ b b2 hb _ e _ => (by rw [h b hb] at e; cases e)⟩
theorem th_grow.new {U : List Nat} {T Tc : Nat → Option Nat} {sz h k : Nat} {nk : List Nat} (g : th_grow U T Tc sz nk) (hh : sz ≤ h) (hu : k ∈ U → k ∉ nk) : th_grow U T (th_new Tc h k) sz (k :: nk) := by
  refine ⟨fun b hb => (th_new_ne (by omega)).trans (g.1 b hb), fun b j hb e => ?_, fun j hj b b2 hb hb2 e e2 => ?_⟩
  · by_cases z : b = h
    · rw [z, th_new_self] at e
      cases e
      exact List.mem_cons_self
    · rw [th_new_ne z] at e
      exact List.mem_cons_of_mem _ (g.2.1 b j hb e)
  · by_cases z : b = h
    · by_cases z2 : b2 = h
      · rw [z, z2]
      · rw [z, th_new_self] at e
        cases e
        rw [th_new_ne z2] at e2
        exact absurd (g.2.1 b2 _ hb2 e2) (hu hj)
    · rw [th_new_ne z] at e
      by_cases z2 : b2 = h
      · rw [z2, th_new_self] at e2
        cases e2
        exact absurd (g.2.1 b _ hb e) (hu hj)
      · rw [th_new_ne z2] at e2
        exact g.2.2 j hj b b2 hb hb2 e e2
theorem th_grow.ext {U : List Nat} {T Tc T2 : Nat → Option Nat} {sz hs a k : Nat} {nk nk2 : List Nat} (g : th_grow U T Tc sz nk) (x : th_ext U Tc T2 hs a k nk2) (hz : sz ≤ hs) (ha : sz ≤ a) (hu : ∀ j ∈ U, (j = k → j ∉ nk ∧ j ∉ nk2) ∧ (j ∈ nk → j ∉ nk2)) : th_grow U T T2 sz (k :: (nk2 ++ nk)) := by
  have key : ∀ b j, sz ≤ b → T2 b = some j → (b = a ∧ j = k) ∨ (b ≠ a ∧ b < hs ∧ Tc b = some j ∧ j ∈ nk) ∨ (b ≠ a ∧ hs ≤ b ∧ j ∈ nk2) := fun b j hb e => by
    by_cases z : b = a
    · rw [z, x.1] at e
      cases e
      exact Or.inl ⟨z, rfl⟩
    · by_cases hl : b < hs
      · rw [x.2.1 b hl z] at e
        exact Or.inr (Or.inl ⟨z, hl, e, g.2.1 b j hb e⟩)
      · exact Or.inr (Or.inr ⟨z, by omega, x.2.2.1 b j (by omega) z e⟩)
  refine ⟨fun b hb => (x.2.1 b (by omega) (by omega)).trans (g.1 b hb), fun b j hb e => ?_, fun j hj b b2 hb hb2 e e2 => ?_⟩
  · rcases key b j hb e with ⟨_, h⟩ | ⟨_, _, _, h⟩ | ⟨_, _, h⟩
    · rw [h]; exact List.mem_cons_self
    · exact List.mem_cons_of_mem _ (List.mem_append_right _ h)
    · exact List.mem_cons_of_mem _ (List.mem_append_left _ h)
  · obtain ⟨u1, u2⟩ := hu j hj
    rcases key b j hb e with ⟨h1, h2⟩ | ⟨h1, h2, h3, h4⟩ | ⟨h1, h2, h3⟩
    · rcases key b2 j hb2 e2 with ⟨f1, f2⟩ | ⟨f1, f2, f3, f4⟩ | ⟨f1, f2, f3⟩
      · rw [h1, f1]
      · exact absurd f4 (u1 h2).1
      · exact absurd f3 (u1 h2).2
    · rcases key b2 j hb2 e2 with ⟨f1, f2⟩ | ⟨f1, f2, f3, f4⟩ | ⟨f1, f2, f3⟩
      · exact absurd h4 (u1 f2).1
      · exact g.2.2 j hj b b2 hb hb2 h3 f3
      · exact absurd f3 (u2 h4)
    · rcases key b2 j hb2 e2 with ⟨f1, f2⟩ | ⟨f1, f2, f3, f4⟩ | ⟨f1, f2, f3⟩
      · exact absurd h3 (u1 f2).2
      · exact absurd h3 (u2 f4)
      · exact x.2.2.2 j hj b b2 h2 f2 h1 f1 e e2
theorem th_grow.sub {U : List Nat} {T Tc : Nat → Option Nat} {sz : Nat} {nk nk2 : List Nat} (g : th_grow U T Tc sz nk) (h : ∀ j ∈ nk, j ∈ nk2) : th_grow U T Tc sz nk2 := ⟨g.1, fun b j hb e => h j (g.2.1 b j hb e), g.2.2⟩
theorem th_grow.fin {U : List Nat} {T Tc : Nat → Option Nat} {sz a k : Nat} {nk : List Nat} (g : th_grow U T Tc sz nk) : th_ext U T (th_new Tc a k) sz a k nk :=
  ⟨th_new_self, fun b hb hn => (th_new_ne hn).trans (g.1 b hb), fun b j hb hn e => g.2.1 b j hb (by rw [th_new_ne hn] at e; exact e), fun j hj b b2 hb hb2 hn hn2 e e2 => g.2.2 j hj b b2 hb hb2 (by rw [th_new_ne hn] at e; exact e) (by rw [th_new_ne hn2] at e2; exact e2)⟩
theorem th_ext.mono {U : List Nat} {D : va_G} {cT : Nat → ClassId} {T T2 : Nat → Option Nat} {Ks : Nat → th_K} {H : Heap} {sz a k : Nat} {nk : List Nat} (x : th_ext U T T2 sz a k nk) (hH : th_H D cT T Ks H) (hz : H.size ≤ sz) (hn : T a = none) : ∀ b j, T b = some j → T2 b = some j := fun b j e => by
  have hb := hH.dom e
  rw [x.2.1 b (by omega) (fun z => by rw [z, hn] at e; cases e)]
  exact e
def nests : List (String × Nat × MethodName × String) := [(RX10, 11, yX8_init, RX10), (RX6, 11, yX4_init, RX10), (RX4, 42, yX2_init, RX10), (RX4, 49, yX7_init, RX10), (RX10, 27, yX4_init, RX10), (RX3, 25, yX7_init, RX10), (RX1, 25, yX7_init, RX10), (RX5, 56, yX7_init, RX10), (RX10, 66, yX9_init, RX10), (RX10, 81, yX7_init, RX10)]
/-- what the tables say that may not ride as a word -/
def th_E (U : State) : Prop := va_AO "HungryMaps$State" U ∧ ∀ x ∈ nests, va_Nw (.methodLinkNest x.1 x.2.1 x.2.2.1 x.2.2.2) U
theorem th_E.warm {s U : State} (hW : s.WarmedH U.vm) (h : th_E s) : th_E U := ⟨va_AO.moved hW.alike h.1, fun x hx => va_Nw.warmM hW (h.2 x hx)⟩
theorem th_E.same {s U : State} (hv : s.vm = U.vm) (h : th_E s) : th_E U := ⟨va_AO.moved (by rw [hv]; exact Vm.Alike.refl U.vm) h.1, fun x hx => va_Nw.same rfl hv (h.2 x hx)⟩
def th_cA (a sz : Nat) : Nat → Prop := fun q => q = a ∨ sz ≤ q
def th_PC (D : va_G) (cT : Nat → ClassId) (T : Nat → Option Nat) (Ks : Nat → th_K) (ci : Nat) (vs : List Value) (a sz : Nat) (U : State) : Prop := U.heap.size = sz ∧ th_W D cT T Ks U ∧ T a = none ∧ va_at D classes (a, .inr (ci, vs)) U.heap ∧ th_E U
def th_QC (D : va_G) (cT : Nat → ClassId) (T : Nat → Option Nat) (Ks : Nat → th_K) (U : List Nat) (a k sz : Nat) (nk : List Nat) : Array Value → State → Outcome → State → Prop := fun _ st oc t => (∃ T2 : Nat → Option Nat, oc = .returned none ∧ th_ext U T T2 sz a k nk ∧ th_W D cT T2 Ks t) ∧ va_F (th_cA a sz) st t
/-- a constructor's contract -/
def th_MetC (l : Launch) (D : va_G) (cT : Nat → ClassId) (T : Nat → Option Nat) (Ks : Nat → th_K) (U : List Nat) (y : MethodName) (bytes : ByteArray) (maxL : Nat) (rm : Room) (ci : Nat) (vs As : List Value) (a sz k : Nat) (nk : List Nat) (mc ms : Nat) : Prop :=
  Met l y (Cond.code y bytes maxL none :: gw) rm (va_Pc (.ref a :: As) (th_PC D cT T Ks ci vs a sz)) (th_QC D cT T Ks U a k sz nk) mc ms (th_cA a sz)
theorem th_blindC {D : va_G} {cT : Nat → ClassId} {T : Nat → Option Nat} {Ks : Nat → th_K} {ci : Nat} {vs As : List Value} {a sz : Nat} : FrameBlind (va_Pc As (th_PC D cT T Ks ci vs a sz)) :=
  fun a U g mk h => ⟨h.1, h.2.1, ⟨h.2.2.1.1, va_K.moved (u := U) (U := U.calling g mk a) (Vm.Alike.refl U.vm) h.2.2.1.2⟩, h.2.2.2.1, h.2.2.2.2.1, th_E.same (s := U) (U := U.calling g mk a) rfl h.2.2.2.2.2⟩
section THN
variable {p : Program} {l : Launch} {e : Env} {R : Room} {s : State} {m : MethodId} {args : Array Value} {below : List Frame} {meth : Method} {c : Code} {H : Heap} {locs : List Loc} {cells slots : Nat} {Q : State → Prop}
variable {cc bytes : ByteArray} {pc nL maxL index ci N k : Nat} {ls : Array Slot} {rest st0 As vs : List Value} {D : va_G} {cT : Nat → ClassId} {T : Nat → Option Nat} {Ks : Nat → th_K} {A : Nat → Prop} {a b : Nat} {H0 : Heap} {own C : String} {y : MethodName} {rm : Room} {Tf : u_T}
/-- newarray -/
theorem th_newa (S : CallFix p m c cc nL s args gw own) (hK : va_K D classes (th_tys cT) s) (hH : th_H D cT T Ks H) (hS : va_S A H0 H locs) {atype : ArrayType} {t : Nat} {el : Nat → th_F} (k : Nat) (harr : Cond.arrayClass (newarray.typeOf atype) ∈ gw) (ht : (th_tys cT)[t]? = some (cT t, newarray.typeOf atype)) (hk : Ks k = .inr (t, N, el)) (hd : ∀ (T2 : Nat → Option Nat) (j : Nat), j < N → th_V T2 (el j) (defaultValue (newarray.typeOf atype))) {n : Int32} (hn : ¬ n < 0) (hN : n.toNatClampNeg = N) (hbytes : N * componentBytes (newarray.typeOf atype) ≤ 536870912) (hcells : cells + 1 ≤ R.cells) (hslots : slots + N ≤ R.slots) (hdg : decode cc pc = .ok (.newarray atype, 2))
    (kk : ∀ (h : Nat) (H1 : Heap), H.size = h → th_H D cT (th_new T h k) Ks H1 → T h = none → va_S A H0 H1 locs → H1.size = h + 1 → (∀ q, q < h → H1[q]? = H[q]?) → W p l e R s m args below meth c H1 locs (cells + 1) (slots + N) Q (F0 m (pc + 2) ls (.ref h :: rest))) : W p l e R s m args below meth c H locs cells slots Q (F0 m pc ls (.int n :: rest)) := by
  obtain ⟨hx, hb, -, -, hts⟩ := S
  refine va_newaK hx hb (hts _ harr) rfl hdg rfl hn hN hbytes hcells hslots rfl fun H1 cA e1 z1 o1 hAr hNm => ?_
  have hc : cA = cT t := by
    have h := (hK.2 t _ ht).2
    cases atype <;> exact Option.some.inj (hNm.symm.trans h)
  refine kk H.size H1 rfl (hH.add (hH.free (Nat.le_refl _)) (fun a k ha => o1 a (hH.dom ha)) ?_) (hH.free (Nat.le_refl _)) ⟨Nat.le_trans hS.1 (by omega), fun x h1 h2 => (o1 x (Nat.lt_of_lt_of_le h1 hS.1)).trans (hS.2.1 x h1 h2), hS.2.2⟩ z1 o1
  rw [hk]
  exact ⟨fun _ => defaultValue (newarray.typeOf atype), by rw [e1, hc], fun j hj => hd _ j hj⟩
/-- new -/
theorem th_newo (S : CallFix p m c cc nL s args gw own) (hK : va_K D classes (th_tys cT) s) (hH : th_H D cT T Ks H) (hS : va_S A H0 H locs) (hin : ∀ w ∈ u_ws C Tf N, w ∈ gw) (ty : Nat → FieldType) (hty : ∀ k, k < N → parseFieldDescriptor (Tf k).2.2.1 = some (ty k)) (hcl : Cond.classLink own index C ∈ gw) (hinst : Cond.instantiable C N ∈ gw) (hini : Cond.initialized C ∈ gw) (hc : classes[ci]? = some (C, Tf, N)) {fs : List Value} (hfs : ∀ j, j < N → defaultValue (ty j) = vp_V fs j) (hcells : cells + 1 ≤ R.cells) (hslots : slots + N ≤ R.slots) (hdg : decode cc pc = .ok (.new index, 3))
    (kk : ∀ (h : Nat) (H1 : Heap), H.size = h → th_H D cT T Ks H1 → T h = none → va_at D classes (h, .inr (ci, fs)) H1 → va_S A H0 H1 locs → H1.size = h + 1 → (∀ q, q < h → H1[q]? = H[q]?) → W p l e R s m args below meth c H1 locs (cells + 1) (slots + N) Q (F0 m (pc + 3) ls (.ref h :: rest))) : W p l e R s m args below meth c H locs cells slots Q (F0 m pc ls rest) := by
  obtain ⟨hx, hb, -, hown, hts⟩ := S
  have hKn := hK.1 ci _ hc
  refine W.newcK hx hb hown (hts _ hcl) (hts _ hinst) (hts _ hini) rfl hdg hcells hslots hKn.2.1 rfl fun H1 kC hkC e1 z1 o1 => ?_
  exact kk H.size H1 rfl (hH.same (fun a k ha => o1 a (hH.dom ha))) (hH.free (Nat.le_refl _)) ⟨_, hc, (u_born ty hts hin hKn hkC e1 hty).to hfs⟩ ⟨Nat.le_trans hS.1 (by omega), fun x h1 h2 => (o1 x (Nat.lt_of_lt_of_le h1 hS.1)).trans (hS.2.1 x h1 h2), hS.2.2⟩ z1 o1
/-- putfield on an object under way -/
theorem th_putR (S : CallFix p m c cc nL s args gw own) (hK : va_K D classes (th_tys cT) s) (hH : th_H D cT T Ks H) (hS : va_S A H0 H locs) (hA : A a) (hT : T a = none) (hR : va_at D classes (a, .inr (ci, vs)) H) (hin : ∀ w ∈ u_ws C Tf N, w ∈ gw) (ty0 : Nat → FieldType) (hty : ∀ k, k < N → parseFieldDescriptor (Tf k).2.2.1 = some (ty0 k)) (hnm : ∀ a, a < N → ∀ b, b < N → a ≠ b → (Tf a).2.1 ≠ (Tf b).2.1) (hc : classes[ci]? = some (C, Tf, N)) (j : Nat) (hj : j < N)
    (hlink : Cond.fieldLink own index C (Tf j).2.1 (Tf j).2.2.1 ∈ gw) (href : (Tf j).1 = C) (hfin : (Tf j).2.2.2 = false) {v : Value} {ty : FieldType} (hd : parseFieldDescriptor (Tf j).2.2.1 = some ty) (hn : narrow ty v = v) (hfit : fits ty v = true) (hjl : j < vs.length) (hdg : decode cc pc = .ok (.putfield index, 3))
    (kk : ∀ (H1 : Heap) (locs1 : List Loc), va_at D classes (a, .inr (ci, vs.set j v)) H1 → th_H D cT T Ks H1 → va_S A H0 H1 locs1 → H1.size = H.size → (∀ q : Nat, q ≠ a → H1[q]? = H[q]?) → W p l e R s m args below meth c H1 locs1 cells slots Q (F0 m (pc + 3) ls rest)) : W p l e R s m args below meth c H locs cells slots Q (F0 m pc ls (v :: .ref a :: rest)) := by
  obtain ⟨hx, hb, -, hown, hts⟩ := S
  have hap := va_apart (own := own) hts hin ty0 hty hnm hK hc
  obtain ⟨r, hr1, cell, q1, q2, q3, q4⟩ := hR
  have hr : r = (C, Tf, N) := Option.some.inj (hr1.symm.trans hc)
  subst hr
  obtain ⟨hS1, hfc, kC, hkC, hkind⟩ := hK.1 ci _ hc
  obtain ⟨cf, kf, fi, f1, hi, hsl⟩ := hS1 j hj
  have hlay := hts _ (hin _ (u_in_lay hj))
  unfold u_lay at hlay
  rw [if_neg (by rw [hfin]; decide)] at hlay
  have hst := (u_facts hfc hkC (u_lays hts hin hj) hi).1
  have h6 := u_store hfc hkC hkind hlay hi hd hn hfit
  refine W.putK hx hb (f := f1) ⟨hown, hts _ hlink, ⟨_, _, _, by rw [← href]; exact hi⟩, hst⟩ (by rw [q2]; exact h6) q1 q3 (by rw [hsl]; exact k2_hasslot (q4 j hj)) rfl rfl hdg fun H' e1 e2 e3 => ?_
  rw [hsl] at e1 ⊢
  exact kk H' _ ⟨_, hc, t_OB.to (V := updV (vp_V vs) j v) ⟨_, e1, q2, q3, t_set q4 hap hj v⟩ (fun i _ => vp_updV_set hjl v i)⟩ (hH.same (fun b k hb => e3 b (fun z => by rw [z, hT] at hb; cases hb))) (hS.put e2 e3 hA) e2 e3
theorem th_putRF (S : CallFix p m c cc nL s args gw own) (hK : va_K D classes (th_tys cT) s) (hH : th_H D cT T Ks H) (hS : va_S A H0 H locs) (hA : A a) (hT : T a = none) (hR : va_at D classes (a, .inr (ci, vs)) H) (hin : ∀ w ∈ u_ws C Tf N, w ∈ gw) (ty0 : Nat → FieldType) (hty : ∀ k, k < N → parseFieldDescriptor (Tf k).2.2.1 = some (ty0 k)) (hnm : ∀ a, a < N → ∀ b, b < N → a ≠ b → (Tf a).2.1 ≠ (Tf b).2.1) (hc : classes[ci]? = some (C, Tf, N)) (j : Nat) (hj : j < N)
    (hlink : Cond.fieldLink own index C (Tf j).2.1 (Tf j).2.2.1 ∈ gw) (href : (Tf j).1 = C) (hfin : (Tf j).2.2.2 = true) (hin2 : meth.name = "<init>") (hdecl : C = own) {v : Value} {ty : FieldType} (hd : parseFieldDescriptor (Tf j).2.2.1 = some ty) (hn : narrow ty v = v) (hfit : fits ty v = true) (hjl : j < vs.length) (hdg : decode cc pc = .ok (.putfield index, 3))
    (kk : ∀ (H1 : Heap) (locs1 : List Loc), va_at D classes (a, .inr (ci, vs.set j v)) H1 → th_H D cT T Ks H1 → va_S A H0 H1 locs1 → H1.size = H.size → (∀ q : Nat, q ≠ a → H1[q]? = H[q]?) → W p l e R s m args below meth c H1 locs1 cells slots Q (F0 m (pc + 3) ls rest)) : W p l e R s m args below meth c H locs cells slots Q (F0 m pc ls (v :: .ref a :: rest)) := by
  obtain ⟨hx, hb, -, hown, hts⟩ := S
  have hap := va_apart (own := own) hts hin ty0 hty hnm hK hc
  obtain ⟨r, hr1, cell, q1, q2, q3, q4⟩ := hR
  have hr : r = (C, Tf, N) := Option.some.inj (hr1.symm.trans hc)
  subst hr
  obtain ⟨hS1, hfc, kC, hkC, hkind⟩ := hK.1 ci _ hc
  obtain ⟨cf, kf, fi, f1, hi, hsl⟩ := hS1 j hj
  have hlay := hts _ (hin _ (u_in_lay hj))
  unfold u_lay at hlay
  rw [if_pos hfin] at hlay
  have hst := (u_facts hfc hkC (u_lays hts hin hj) hi).1
  have hcf : m.cls = cf := by
    obtain ⟨_, _, c', _, _, _, -, -, hf', -, -, -, hown2, -⟩ := Cond.laysFinal_spec hlay
    have e1 : c' = cf := by have := hi.symm.trans hf'; simp at this; exact this.1.symm
    rw [href, hdecl] at hown2
    rw [← e1]; exact Option.some.inj (hown.symm.trans hown2)
  have h6 := u_fits hfc hkC hkind (Or.inr hlay) hi hd hn hfit
  refine W.putFinK hx hb hown (hts _ hlink) (by rw [← href]; exact hi) hst hcf hin2 (by rw [q2]; exact h6) q1 q3 (by rw [hsl]; exact k2_hasslot (q4 j hj)) rfl rfl hdg fun H' e1 e2 e3 => ?_
  rw [hsl] at e1 ⊢
  exact kk H' _ ⟨_, hc, t_OB.to (V := updV (vp_V vs) j v) ⟨_, e1, q2, q3, t_set q4 hap hj v⟩ (fun i _ => vp_updV_set hjl v i)⟩ (hH.same (fun b k hb => e3 b (fun z => by rw [z, hT] at hb; cases hb))) (hS.put e2 e3 hA) e2 e3
/-- getfield on an object under way -/
theorem th_getR (S : CallFix p m c cc nL s args gw own) (hK : va_K D classes (th_tys cT) s) (hR : va_at D classes (a, .inr (ci, vs)) H) (hin : ∀ w ∈ u_ws C Tf N, w ∈ gw) (hc : classes[ci]? = some (C, Tf, N)) (j : Nat) (hj : j < N) (hlink : Cond.fieldLink own index C (Tf j).2.1 (Tf j).2.2.1 ∈ gw) (href : (Tf j).1 = C) {v : Value} (hv : vs[j]? = some v) (hdg : decode cc pc = .ok (.getfield index, 3))
    (kk : W p l e R s m args below meth c H locs cells slots Q (F0 m (pc + 3) ls (v :: rest))) : W p l e R s m args below meth c H locs cells slots Q (F0 m pc ls (.ref a :: rest)) := by
  obtain ⟨hx, hb, -, hown, hts⟩ := S
  have hP : va_P D classes [(a, .inr (ci, vs))] H := fun i q hq => by
    cases i with
    | zero => cases hq; exact hR
    | succ i => simp at hq
  exact va_get hx hb hts hin hown hK hP 0 rfl hc j hj (hts _ hlink) (fun _ h => by rw [← href]; exact h) hv hdg kk
/-- anewarray of States -/
theorem th_anew (S : CallFix p m c cc nL s args gw own) (hK : va_K D classes (th_tys cT) s) (hO : th_E s) (hH : th_H D cT T Ks H) (hS : va_S A H0 H locs) (hcl : Cond.classLink own index "HungryMaps$State" ∈ gw) {n : Int32} (hn : ¬ n < 0) (hN : n.toNatClampNeg = N) (hbytes : N * 4 ≤ 536870912) (hcells : cells + 1 ≤ R.cells) (hslots : slots + N ≤ R.slots) (hdg : decode cc pc = .ok (.anewarray index, 3))
    (kk : ∀ (h : Nat) (H1 : Heap), H.size = h → th_H D cT T Ks H1 → T h = none → H1[h]? = some (arrV (cT 4) N (fun _ => .null)) → va_S A H0 H1 locs → H1.size = h + 1 → (∀ q, q < h → H1[q]? = H[q]?) → W p l e R s m args below meth c H1 locs (cells + 1) (slots + N) Q (F0 m (pc + 3) ls (.ref h :: rest))) : W p l e R s m args below meth c H locs cells slots Q (F0 m pc ls (.int n :: rest)) := by
  obtain ⟨hx, hb, -, hown, hts⟩ := S
  subst hN
  refine W.anew hx hb hown (hts _ hcl) (va_AO.use hO.1) rfl hdg rfl hn hbytes hcells hslots fun cA kA comp f1 f2 f3 f4 => ?_
  have hc : cA = cT 4 := by
    obtain ⟨_, _, _, _, _, h⟩ := (hK.2 4 _ rfl).2
    exact Option.some.inj (f1.symm.trans h)
  generalize hH1 : H.push ({ cls := cA, slots := Array.replicate n.toNatClampNeg .null, vm := .none } : Cell) = H1
  have z1 : H1.size = H.size + 1 := by rw [← hH1, Array.size_push]
  have e1 : H1[H.size]? = some (arrV cA n.toNatClampNeg (fun _ => .null)) := by rw [← hH1, Array.getElem?_push_size, ← arrV_new]
  have o1 : ∀ q : Nat, q < H.size → H1[q]? = H[q]? := fun q hq => by rw [← hH1, Array.getElem?_push, if_neg (Nat.ne_of_lt hq)]
  exact kk H.size H1 rfl (hH.same (fun a k ha => o1 a (hH.dom ha))) (hH.free (Nat.le_refl _)) (by rw [e1, hc]) ⟨Nat.le_trans hS.1 (by omega), fun x h1 h2 => (o1 x (Nat.lt_of_lt_of_le h1 hS.1)).trans (hS.2.1 x h1 h2), hS.2.2⟩ z1 o1
/-- the length of a row under way -/
theorem th_alenR (S : CallFix p m c cc nL s args gw own) (hK : va_K D classes (th_tys cT) s) {g : Nat → Value} (hB : H[a]? = some (arrV (cT 4) N g)) {v : Int32} (hv : Int32.ofNat N = v) (hdg : decode cc pc = .ok (.arraylength, 1))
    (kk : W p l e R s m args below meth c H locs cells slots Q (F0 m (pc + 1) ls (.int v :: rest))) : W p l e R s m args below meth c H locs cells slots Q (F0 m pc ls (.ref a :: rest)) := by
  obtain ⟨hx, hb, -, -, -⟩ := S
  exact W.alen hx hb hB ((hK.2 4 _ rfl).1 N g) (by rw [arrV_size]; exact hv) rfl rfl hdg kk
/-- aastore of a State into a row under way -/
theorem th_aastR (S : CallFix p m c cc nL s args gw own) (hK : va_K D classes (th_tys cT) s) (hH : th_H D cT T Ks H) (hS : va_S A H0 H locs) (hA : A a) (hT : T a = none) {g : Nat → Value} (hB : H[a]? = some (arrV (cT 4) N g)) {v : Nat} {fs : List th_F} {Rf : List Value → Prop} (hv : T v = some k) (hk : Ks k = .inl (7, fs, Rf)) {i : Int32} (hin : vp_in i N) (hdg : decode cc pc = .ok (.aastore, 1))
    (kk : ∀ (H1 : Heap) (locs1 : List Loc), H1[a]? = some (arrV (cT 4) N (updV g i.toNatClampNeg (.ref v))) → th_H D cT T Ks H1 → va_S A H0 H1 locs1 → H1.size = H.size → (∀ q : Nat, q ≠ a → H1[q]? = H[q]?) → W p l e R s m args below meth c H1 locs1 cells slots Q (F0 m (pc + 1) ls rest)) : W p l e R s m args below meth c H locs cells slots Q (F0 m pc ls (.ref v :: .int i :: .ref a :: rest)) := by
  obtain ⟨hx, hb, -, -, -⟩ := S
  have hlt : i.toNatClampNeg < N := Nat.not_le.mp fun q => hin (Or.inr q)
  have h0 : ¬ i < 0 := fun q => hin (Or.inl q)
  have h1 := hH v k hv
  rw [hk] at h1
  obtain ⟨vs2, ⟨r2, hr2, cellV, g1, g2, g3, -⟩, -⟩ := h1
  have hc : classes[7]? = some (RX7, TX7, 1) := rfl
  have hcls := (hK.1 7 _ hc).2
  obtain ⟨kA, comp, k1, k2, k3, -⟩ := (hK.2 4 _ rfl).2
  have hcomp : comp = D.1 7 := Option.some.inj (k3.symm.trans hcls.1)
  subst hcomp
  obtain ⟨kC, hkC, -⟩ := hcls.2
  refine W.aast hx hb hB (fun q h => by cases h) (fun h => by cases h) k1 k2 rfl hkC ⟨h0, by rw [arrV_size]; exact hlt⟩ g1 (fun q h => by rw [g3] at h; cases h) (by rw [g2]; exact hkC) (by rw [g2]; exact va_assign hcls) rfl rfl hdg fun H1 e z oq => ?_
  exact kk H1 _ (by rw [e, arrV_store]) (hH.same (fun b k hb => oq b (fun z => by rw [z, hT] at hb; cases hb))) (hS.put z oq hA) z oq
/-- behind a constructor -/
theorem th_backC {U : List Nat} {ar : Array Value} {hs mc ms : Nat} {nk : List Nat} (hr : va_Run p l e R s m args below meth c H locs cells slots mc ms (F0 m pc ls st0) rest (th_QC D cT T Ks U b k hs nk ar) (th_cA b hs)) (hh : H.size = hs) (hS : va_S A H0 H locs) (hA : ∀ q, H0.size ≤ q → A q) (hAb : A b)
    (kk : ∀ (T2 : Nat → Option Nat) (H1 : Heap) (locs1 : List Loc), th_ext U T T2 hs b k nk → th_H D cT T2 Ks H1 → va_S A H0 H1 locs1 → hs ≤ H1.size → (∀ q, q < hs → q ≠ b → H1[q]? = H[q]?) → W p l e R s m args below meth c H1 locs1 (cells + mc) (slots + ms) Q (F0 m (pc + 3) ls rest)) : W p l e R s m args below meth c H locs cells slots Q (F0 m pc ls st0) := by
  intro T0 hT X
  obtain ⟨v, st₀, t, T', L, h0, X', hL, e1, e2, ⟨⟨T2, hv, hext, hb⟩, hz, hk⟩, st⟩ := hr T0 hT X
  cases hv
  rw [h0] at hz hk
  have hfree : ∀ q, q < hs → q ≠ b → ¬ th_cA b hs q := fun q h1 h2 h3 => by
    rcases h3 with h3 | h3
    · exact h2 h3
    · omega
  obtain ⟨t2, a1, b1⟩ := kk T2 T'.heap (locs ++ L) hext (by rw [e1]; exact hb.1) ⟨Nat.le_trans hS.1 (by rw [e1]; exact hz), fun q h1 h2 => by
      rw [e1, hk q (Nat.lt_of_lt_of_le h1 hS.1) (hfree q (by have := hS.1; omega) (fun z => h2 (by rw [z]; exact hAb)))]; exact hS.2.1 q h1 h2, fun q hq => by
      rcases List.mem_append.mp hq with h | h
      · exact hS.2.2 q h
      · rcases hL q h with h | h
        · rw [h]; exact hAb
        · exact hA _ (by have := hS.1; omega)⟩ (by rw [e1, ← hh]; exact hz) (fun q h1 h2 => by rw [e1]; exact hk q (by omega) (hfree q h1 h2)) T' rfl X'
  exact ⟨t2, st t2 a1, b1⟩
theorem th_preC (hK : va_K D classes (th_tys cT) s) (hO : th_E s) (hH : th_H D cT T Ks H) {hs : Nat} (hh : H.size = hs) (hn : T b = none) (hR : va_at D classes (b, .inr (ci, vs)) H) : ∀ U : State, U.heap = H → s.WarmedH U.vm → va_Pc (.ref b :: As) (th_PC D cT T Ks ci vs b hs) (Value.ref b :: As).toArray U :=
  fun U hU hW => ⟨rfl, by rw [hU]; exact hh, ⟨by rw [hU]; exact hH, va_K.moved hW.alike hK⟩, hn, by rw [hU]; exact hR, th_E.warm hW hO⟩
/-- invokespecial of a constructor of a class beside -/
theorem th_callCN {U : List Nat} {host : String} {n hs mc ms : Nat} {nk : List Nat} (S : CallFix p m c cc nL s args gw own) (hK : va_K D classes (th_tys cT) s) (hO : th_E s) (hH : th_H D cT T Ks H) (hS : va_S A H0 H locs) (hA : ∀ q, H0.size ≤ q → A q) (hAb : A b) (hh : H.size = hs) (hn0 : T b = none) (hR : va_at D classes (b, .inr (ci, vs)) H)
    (hM : th_MetC l D cT T Ks U y bytes maxL rm ci vs As b hs k nk mc ms) (hcode : Cond.code y bytes maxL none ∈ gw) (hlink : (own, index, y, host) ∈ nests) (hinst : Cond.instanceMethod y ∈ gw) (hini : Cond.initialized y.cls ∈ gw) (hy : y.name = "<init>")
    (hd : y.cls ≠ "java/lang/invoke/MethodHandle" ∧ y.cls ≠ "java/lang/invoke/VarHandle" ∧ (parseMethodDescriptor y.desc).map (fun d => d.parameters.length) = some n) (hR2 : rm.cells = mc ∧ rm.slots = ms ∧ rm.frames + 1 ≤ R.frames ∧ 8 + (maxL + 11) + rm.locals ≤ R.locals)
    (hn : As.length = n) (hl : ls.size = nL) (hst : st0 = As.reverse ++ .ref b :: rest) (hrest : (rest.map fun v => v.category).sum ≤ 8) (hdg : decode cc pc = .ok (.invokespecial index, 3)) (hcs : cells + mc ≤ R.cells ∧ slots + ms ≤ R.slots)
    (kk : ∀ (T2 : Nat → Option Nat) (H1 : Heap) (locs1 : List Loc), th_ext U T T2 hs b k nk → th_H D cT T2 Ks H1 → va_S A H0 H1 locs1 → hs ≤ H1.size → (∀ q, q < hs → q ≠ b → H1[q]? = H[q]?) → W p l e R s m args below meth c H1 locs1 (cells + mc) (slots + ms) Q (F0 m (pc + 3) ls rest)) : W p l e R s m args below meth c H locs cells slots Q (F0 m pc ls st0) := by
  have hts := S.2.2.2.2
  have hG : GoodIn gw (Cond.code y bytes maxL none :: gw) := fun w hw => by
    have h1 : w ∈ gw := by
      rcases List.mem_cons.mp hw with h | h
      · rw [h]; exact hcode
      · exact h
    exact ⟨h1, gw_good h1⟩
  exact th_backC (va_runIN (As := As) (rest := rest) S hM ⟨va_cnB n hts hG rfl hR2.1 hR2.2.1 (hO.2 _ hlink) (hts _ hini) hd hR2.2.2, hy, hts _ hinst⟩ ⟨th_blindC, th_preC hK hO hH hh hn0 hR⟩ rfl hn hl (by rw [hst]) (lv_room hrest) hdg hcs) hh hS hA hAb kk
/-- invokespecial of a constructor -/
theorem th_callC {U : List Nat} {n hs mc ms : Nat} {nk : List Nat} (S : CallFix p m c cc nL s args gw own) (hK : va_K D classes (th_tys cT) s) (hO : th_E s) (hH : th_H D cT T Ks H) (hS : va_S A H0 H locs) (hA : ∀ q, H0.size ≤ q → A q) (hAb : A b) (hh : H.size = hs) (hn0 : T b = none) (hR : va_at D classes (b, .inr (ci, vs)) H)
    (hM : th_MetC l D cT T Ks U y bytes maxL rm ci vs As b hs k nk mc ms) (hcode : Cond.code y bytes maxL none ∈ gw) (hlink : Cond.methodLink own index y ∈ gw) (hinst : Cond.instanceMethod y ∈ gw) (hini : Cond.initialized y.cls ∈ gw) (hy : y.name = "<init>")
    (hd : y.cls ≠ "java/lang/invoke/MethodHandle" ∧ y.cls ≠ "java/lang/invoke/VarHandle" ∧ (parseMethodDescriptor y.desc).map (fun d => d.parameters.length) = some n) (hR2 : rm.cells = mc ∧ rm.slots = ms ∧ rm.frames + 1 ≤ R.frames ∧ 8 + (maxL + 11) + rm.locals ≤ R.locals)
    (hn : As.length = n) (hl : ls.size = nL) (hst : st0 = As.reverse ++ .ref b :: rest) (hrest : (rest.map fun v => v.category).sum ≤ 8) (hdg : decode cc pc = .ok (.invokespecial index, 3)) (hcs : cells + mc ≤ R.cells ∧ slots + ms ≤ R.slots)
    (kk : ∀ (T2 : Nat → Option Nat) (H1 : Heap) (locs1 : List Loc), th_ext U T T2 hs b k nk → th_H D cT T2 Ks H1 → va_S A H0 H1 locs1 → hs ≤ H1.size → (∀ q, q < hs → q ≠ b → H1[q]? = H[q]?) → W p l e R s m args below meth c H1 locs1 (cells + mc) (slots + ms) Q (F0 m (pc + 3) ls rest)) : W p l e R s m args below meth c H locs cells slots Q (F0 m pc ls st0) := by
  have hts := S.2.2.2.2
  have hG : GoodIn gw (Cond.code y bytes maxL none :: gw) := fun w hw => by
    have h1 : w ∈ gw := by
      rcases List.mem_cons.mp hw with h | h
      · rw [h]; exact hcode
      · exact h
    exact ⟨h1, gw_good h1⟩
  exact th_backC (va_runI (As := As) (rest := rest) S hM ⟨callB_of n hts hG rfl hR2.1 hR2.2.1 (hts _ hini) (hts _ hlink) hd hR2.2.2, hy, hts _ hinst⟩ ⟨th_blindC, th_preC hK hO hH hh hn0 hR⟩ rfl hn hl (by rw [hst]) (lv_room hrest) hdg hcs) hh hS hA hAb kk
theorem th_startC {U : List Nat} {sz mc ms : Nat} {nk : List Nat} (hy : plainName y.cls = true) (hlen : (lg_sl (.ref a :: As)).length ≤ maxL) (hms : rm.cells = mc ∧ rm.slots = ms)
    (body : ∀ (p : Program) (e : Env) (s : State) (m : MethodId) (below : List Frame) (meth : Method) (c : Code) (ls : Array Slot), CallFix p m c bytes maxL s (Value.ref a :: As).toArray gw y.cls → va_K D classes (th_tys cT) s → th_E s → th_H D cT T Ks s.heap → s.heap.size = sz → T a = none → va_at D classes (a, .inr (ci, vs)) s.heap → meth.sig.returnType = none → meth.locks = false → meth.name = y.name → lv_has ls maxL (lv_args 0 (.ref a :: As)) →
      W p l e rm s m (Value.ref a :: As).toArray below meth c s.heap [] 0 0 (MQ below (th_QC D cT T Ks U a k sz nk) (Value.ref a :: As).toArray s mc ms (th_cA a sz)) (F0 m 0 ls [])) : th_MetC l D cT T Ks U y bytes maxL rm ci vs As a sz k nk mc ms := by
  refine Met.ofW (cc := bytes) (maxL := maxL) (ret := none) hy rfl ?_
  intro p e s m args below meth c s₁ B hml hv
  obtain ⟨rfl, hsz, ⟨hH, hK⟩, hn, hR, hO⟩ := hv
  have hts := atoms_spec (ws := Cond.code y bytes maxL none :: gw) B.pre
  rw [lg_entry_eq]
  exact body p e s m below meth c _ ⟨B.exec, B.bytes, hml, findClass_of_methodNamed B.named, fun w hw => hts w (List.mem_cons_of_mem _ hw)⟩ hK hO hH hsz hn hR B.returns B.notSynchronized (name_of_methodNamed B.named B.method).1 (lv_entry (.ref a :: As) hlen)
theorem th_vretC {U : List Nat} {sz mc ms : Nat} {nk : List Nat} {T2 : Nat → Option Nat} (S : CallFix p m c cc nL s args gw own) (hK : va_K D classes (th_tys cT) s) (hH : th_H D cT T2 Ks H) (hS : va_S (th_cA a sz) s.heap H locs) (hr : meth.sig.returnType = none) (hlocks : meth.locks = false) (hx : th_ext U T T2 sz a k nk) (hdg : decode cc pc = .ok (.return_, 1)) : W p l e R s m args below meth c H locs mc ms (MQ below (th_QC D cT T Ks U a k sz nk) args s mc ms (th_cA a sz)) (F0 m pc ls []) :=
  W.vret S.1 S.2.1 hr (fun _ ht hW => ⟨⟨T2, rfl, hx, by rw [ht]; exact hH, va_K.moved hW.alike hK⟩, hS.F ht⟩) hS.2.2 hdg hlocks
end THN
/-- the numbers at the start -/
def qz : Nat → Int := fun i => if i = 6 then -2147483647 else 0
def rmc (f c s l : Nat) : Room := { frames := f, cells := c, slots := s, locals := l }
def th_Ol (T : Nat → Option Nat) (fs : List th_F) (vs : List Value) : Prop := vs.length = fs.length ∧ ∀ (j : Nat) (f : th_F), fs[j]? = some f → ∃ v, vs[j]? = some v ∧ th_V T f v
theorem th_Ol.nil {T : Nat → Option Nat} : th_Ol T [] [] := ⟨rfl, fun j f h => by simp at h⟩
theorem th_Ol.cons {T : Nat → Option Nat} {f : th_F} {v : Value} {fs : List th_F} {vs : List Value} (h : th_V T f v) (t : th_Ol T fs vs) : th_Ol T (f :: fs) (v :: vs) := by
  refine ⟨by rw [List.length_cons, List.length_cons, t.1], fun j g hj => ?_⟩
  cases j with
  | zero => simp at hj; subst hj; exact ⟨v, by simp, h⟩
  | succ j => simp at hj; obtain ⟨w, h1, h2⟩ := t.2 j g hj; exact ⟨w, by simpa using h1, h2⟩
