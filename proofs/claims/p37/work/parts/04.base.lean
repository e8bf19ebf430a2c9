/-! A heap with kinds: every address of the world has a kind (T), every kind a form (Ks): an object's fields or an array's elements, ints within bounds, references to a kind. Every write keeps the forms, whatever is alias of what. -/
abbrev classes : List vw_C := [(RX0, TX0, 1), (RX1, TX1, 3), (RX2, TX2, 7), (RX3, TX3, 4), (RX4, TX4, 19), (RX5, TX5, 13), (RX6, TX6, 6), (RX7, TX7, 1), (RX8, TX8, 6), (RX9, TX9, 8), (RX10, TX10, 10), (RX11, TX11, 69)]
abbrev th_F : Type := (Int × Int) ⊕ Nat
abbrev th_K : Type := (Nat × List th_F × (List Value → Prop)) ⊕ (Nat × Nat × (Nat → th_F))
def th_tys (cT : Nat → ClassId) : List (ClassId × FieldType) := [(cT 0, .int), (cT 1, .byte), (cT 2, .long), (cT 3, .boolean), (cT 4, .object "HungryMaps$State")]
def IV (x : Int32) (lo hi : Int) : Prop := lo ≤ x.toInt ∧ x.toInt ≤ hi
def th_V (T : Nat → Option Nat) (f : th_F) (v : Value) : Prop := match f with
  | .inl b => ∃ x : Int32, v = .int x ∧ IV x b.1 b.2
  | .inr 0 => ∃ y : Int64, v = .long y
  | .inr (k + 1) => ∃ a : Nat, v = .ref a ∧ T a = some k
def th_O (T : Nat → Option Nat) (fs : List th_F) (R : List Value → Prop) (vs : List Value) : Prop := vs.length = fs.length ∧ (∀ (j : Nat) (f : th_F), fs[j]? = some f → ∃ v, vs[j]? = some v ∧ th_V T f v) ∧ R vs
def th_C (D : va_G) (cT : Nat → ClassId) (T : Nat → Option Nat) (kd : th_K) (H : Heap) (a : Nat) : Prop := match kd with
  | .inl o => ∃ vs : List Value, va_at D classes (a, .inr (o.1, vs)) H ∧ th_O T o.2.1 o.2.2 vs
  | .inr r => ∃ g : Nat → Value, H[a]? = some (arrV (cT r.1) r.2.1 g) ∧ ∀ j, j < r.2.1 → th_V T (r.2.2 j) (g j)
def th_H (D : va_G) (cT : Nat → ClassId) (T : Nat → Option Nat) (Ks : Nat → th_K) (H : Heap) : Prop := ∀ (a k : Nat), T a = some k → th_C D cT T (Ks k) H a
def th_A (T : Nat → Option Nat) (wk : List Nat) : Nat → Prop := fun q => ∃ k ∈ wk, T q = some k
def th_W (D : va_G) (cT : Nat → ClassId) (T : Nat → Option Nat) (Ks : Nat → th_K) (U : State) : Prop := th_H D cT T Ks U.heap ∧ va_K D classes (th_tys cT) U
theorem th_C.kept {D : va_G} {cT : Nat → ClassId} {T : Nat → Option Nat} {kd : th_K} {H H1 : Heap} {a : Nat} (h : th_C D cT T kd H a) (hq : H1[a]? = H[a]?) : th_C D cT T kd H1 a := by
  cases kd with
  | inl o =>
    obtain ⟨vs, h1, h2⟩ := h
    exact ⟨vs, h1.kept hq, h2⟩
  | inr r =>
    obtain ⟨g, h1, h2⟩ := h
    exact ⟨g, hq.trans h1, h2⟩
theorem th_H.set {D : va_G} {cT : Nat → ClassId} {T : Nat → Option Nat} {Ks : Nat → th_K} {H H1 : Heap} {a k : Nat} (h : th_H D cT T Ks H) (ha : T a = some k) (hc : th_C D cT T (Ks k) H1 a) (oq : ∀ q : Nat, q ≠ a → H1[q]? = H[q]?) : th_H D cT T Ks H1 := by
  intro b j hb
  by_cases hba : b = a
  · subst hba
    cases ha.symm.trans hb
    exact hc
  · exact (h b j hb).kept (oq b hba)
theorem th_A.sub {T : Nat → Option Nat} {w1 w2 : List Nat} (h : ∀ k ∈ w1, k ∈ w2) : ∀ q, th_A T w1 q → th_A T w2 q := fun _ ⟨k, h1, h2⟩ => ⟨k, h k h1, h2⟩
theorem th_V.int {T : Nat → Option Nat} {lo hi : Int} {v : Value} (h : th_V T (.inl (lo, hi)) v) : ∃ x : Int32, v = .int x ∧ IV x lo hi := h
theorem th_V.long {T : Nat → Option Nat} {v : Value} (h : th_V T (.inr 0) v) : ∃ y : Int64, v = .long y := h
theorem th_V.ref {T : Nat → Option Nat} {k : Nat} {v : Value} (h : th_V T (.inr (k + 1)) v) : ∃ a : Nat, v = .ref a ∧ T a = some k := h
theorem th_O.set {T : Nat → Option Nat} {fs : List th_F} {R : List Value → Prop} {vs : List Value} {j : Nat} {f : th_F} {v : Value} (h : th_O T fs R vs) (hf : fs[j]? = some f) (hv : th_V T f v) (hR : R (vs.set j v)) : th_O T fs R (vs.set j v) := by
  refine ⟨by rw [List.length_set]; exact h.1, fun i f2 h2 => ?_, hR⟩
  by_cases hij : i = j
  · subst hij
    cases hf.symm.trans h2
    refine ⟨v, ?_, hv⟩
    have hl : i < fs.length := (List.getElem?_eq_some_iff.mp hf).1
    rw [List.getElem?_set_self (by rw [h.1]; exact hl)]
  · rw [List.getElem?_set_ne (Ne.symm hij)]
    exact h.2.1 i f2 h2
/-- field j of the object at a is v -/
def th_fa (D : va_G) (H : Heap) (a ci j : Nat) (v : Value) : Prop := ∃ vs : List Value, va_at D classes (a, .inr (ci, vs)) H ∧ vs[j]? = some v
theorem th_fa.kept {D : va_G} {H H1 : Heap} {a ci j : Nat} {v : Value} (h : th_fa D H a ci j v) (hq : H1[a]? = H[a]?) : th_fa D H1 a ci j v := by
  obtain ⟨vs, h1, h2⟩ := h
  exact ⟨vs, h1.kept hq, h2⟩
theorem th_fa.lt {D : va_G} {H : Heap} {a ci j : Nat} {v : Value} (h : th_fa D H a ci j v) : a < H.size := by
  obtain ⟨vs, h1, h2⟩ := h
  exact h1.lt
theorem th_ne {T : Nat → Option Nat} {a b k1 k2 : Nat} (ha : T a = some k1) (hb : T b = some k2) (h : k1 ≠ k2) : a ≠ b := by
  intro e
  rw [e, hb] at ha
  exact h (Option.some.inj ha).symm
theorem th_off {T : Nat → Option Nat} {a k : Nat} {wk : List Nat} (ha : T a = some k) (h : k ∉ wk) : ¬ th_A T wk a := by
  intro ⟨j, h1, h2⟩
  rw [ha] at h2
  cases h2
  exact h h1
section THR
variable {p : Program} {l : Launch} {e : Env} {R : Room} {s : State} {m : MethodId} {args : Array Value} {below : List Frame} {meth : Method} {c : Code} {H : Heap} {locs : List Loc} {cells slots : Nat} {Q : State → Prop}
variable {cc : ByteArray} {pc nL : Nat} {ls : Array Slot} {rest : List Value} {D : va_G} {cT : Nat → ClassId} {T : Nat → Option Nat} {Ks : Nat → th_K} {A : Nat → Prop} {a k : Nat} {H0 : Heap} {own : String} {Ts : List Cond}
/-- getfield -/
theorem th_get (S : CallFix p m c cc nL s args Ts own) (hK : va_K D classes (th_tys cT) s) (hH : th_H D cT T Ks H) {ref C : String} {Tf : u_T} {N ci index : Nat} {fs : List th_F} {Rf : List Value → Prop} (hin : ∀ w ∈ u_ws C Tf N, w ∈ Ts) (ha : T a = some k) (hk : Ks k = .inl (ci, fs, Rf)) (hc : classes[ci]? = some (C, Tf, N)) (j : Nat) (hj : j < N)
    (hlink : Cond.fieldLink own index ref (Tf j).2.1 (Tf j).2.2.1 ∈ Ts) (href : (Tf j).1 = ref) {f : th_F} (hf : fs[j]? = some f) (hdg : decode cc pc = .ok (.getfield index, 3))
    (kk : ∀ v : Value, th_V T f v → th_fa D H a ci j v → W p l e R s m args below meth c H locs cells slots Q (F0 m (pc + 3) ls (v :: rest))) : W p l e R s m args below meth c H locs cells slots Q (F0 m pc ls (.ref a :: rest)) := by
  obtain ⟨hx, hb, -, hown, hts⟩ := S
  have h1 := hH a k ha
  rw [hk] at h1
  obtain ⟨vs, h2, h3⟩ := h1
  obtain ⟨v, h4, h5⟩ := h3.2.1 j f hf
  have hP : va_P D classes [(a, .inr (ci, vs))] H := fun i q hq => by
    cases i with
    | zero => cases hq; exact h2
    | succ i => simp at hq
  exact va_get hx hb hts hin hown hK hP 0 rfl hc j hj (hts _ hlink) (fun _ h => by rw [← href]; exact h) h4 hdg (kk v h5 ⟨vs, h2, h4⟩)
/-- getfield of a field that is known -/
theorem th_getK (S : CallFix p m c cc nL s args Ts own) (hK : va_K D classes (th_tys cT) s) {ref C : String} {Tf : u_T} {N ci index : Nat} {v : Value} {j : Nat} (hfa : th_fa D H a ci j v) (hin : ∀ w ∈ u_ws C Tf N, w ∈ Ts) (hc : classes[ci]? = some (C, Tf, N)) (hj : j < N)
    (hlink : Cond.fieldLink own index ref (Tf j).2.1 (Tf j).2.2.1 ∈ Ts) (href : (Tf j).1 = ref) (hdg : decode cc pc = .ok (.getfield index, 3))
    (kk : W p l e R s m args below meth c H locs cells slots Q (F0 m (pc + 3) ls (v :: rest))) : W p l e R s m args below meth c H locs cells slots Q (F0 m pc ls (.ref a :: rest)) := by
  obtain ⟨hx, hb, -, hown, hts⟩ := S
  obtain ⟨vs, h2, h4⟩ := hfa
  have hP : va_P D classes [(a, .inr (ci, vs))] H := fun i q hq => by
    cases i with
    | zero => cases hq; exact h2
    | succ i => simp at hq
  exact va_get hx hb hts hin hown hK hP 0 rfl hc j hj (hts _ hlink) (fun _ h => by rw [← href]; exact h) h4 hdg kk
/-- putfield -/
theorem th_put (S : CallFix p m c cc nL s args Ts own) (hK : va_K D classes (th_tys cT) s) (hH : th_H D cT T Ks H) (hS : va_S A H0 H locs) (hA : A a) {ref C : String} {Tf : u_T} {N ci index : Nat} {fs : List th_F} {Rf : List Value → Prop} (hin : ∀ w ∈ u_ws C Tf N, w ∈ Ts) (ty0 : Nat → FieldType) (hty : ∀ k, k < N → parseFieldDescriptor (Tf k).2.2.1 = some (ty0 k)) (hnm : ∀ a, a < N → ∀ b, b < N → a ≠ b → (Tf a).2.1 ≠ (Tf b).2.1) (ha : T a = some k) (hk : Ks k = .inl (ci, fs, Rf)) (hc : classes[ci]? = some (C, Tf, N)) (j : Nat) (hj : j < N)
    (hlink : Cond.fieldLink own index ref (Tf j).2.1 (Tf j).2.2.1 ∈ Ts) (href : (Tf j).1 = ref) (hfin : (Tf j).2.2.2 = false) (hfl : fs.length = N) {f : th_F} (hf : fs[j]? = some f) {v : Value} (hv : th_V T f v) (hR : ∀ vs, th_O T fs Rf vs → Rf (vs.set j v)) {ty : FieldType} (hd : parseFieldDescriptor (Tf j).2.2.1 = some ty) (hn : narrow ty v = v) (hfit : fits ty v = true) (hdg : decode cc pc = .ok (.putfield index, 3))
    (kk : ∀ (H1 : Heap) (locs1 : List Loc), th_H D cT T Ks H1 → va_S A H0 H1 locs1 → (∀ q : Nat, q ≠ a → H1[q]? = H[q]?) → (th_fa D H1 a ci j v ∧ ∀ (i : Nat) (w : Value), i < N → i ≠ j → th_fa D H a ci i w → th_fa D H1 a ci i w) → W p l e R s m args below meth c H1 locs1 cells slots Q (F0 m (pc + 3) ls rest)) : W p l e R s m args below meth c H locs cells slots Q (F0 m pc ls (v :: .ref a :: rest)) := by
  obtain ⟨hx, hb, -, hown, hts⟩ := S
  have h1 := hH a k ha
  rw [hk] at h1
  obtain ⟨vs, h2, h3⟩ := h1
  have hap := va_apart (own := own) hts hin ty0 hty hnm hK hc
  obtain ⟨r, hr1, cell, q1, q2, q3, q4⟩ := h2
  have hr : r = (C, Tf, N) := Option.some.inj (hr1.symm.trans hc)
  subst hr
  obtain ⟨hS1, hfc, kC, hkC, hkind⟩ := hK.1 ci _ hc
  obtain ⟨cf, kf, fi, f1, hi, hsl⟩ := hS1 j hj
  have hlay := hts _ (hin _ (u_in_lay hj))
  unfold u_lay at hlay
  rw [if_neg (by rw [hfin]; decide)] at hlay
  have hst := (u_facts hfc hkC (u_lays hts hin hj) hi).1
  have h6 := u_store hfc hkC hkind hlay hi hd hn hfit
  refine W.putK hx hb (f := f1) ⟨hown, hts _ hlink, ⟨_, _, _, by rw [← href]; exact hi⟩, hst⟩ (by rw [q2]; exact h6) q1 q3 (by rw [hsl]; exact k2_hasslot (q4 j hj)) rfl rfl hdg fun H' e1 e2 e3 => ?_
  rw [hsl] at e1 ⊢
  have hjl : j < vs.length := by rw [h3.1]; exact (List.getElem?_eq_some_iff.mp hf).1
  have hat : va_at D classes (a, .inr (ci, vs.set j v)) H' := ⟨_, hc, t_OB.to (V := updV (vp_V vs) j v) ⟨_, e1, q2, q3, t_set q4 hap hj v⟩ (fun i _ => vp_updV_set hjl v i)⟩
  refine kk H' _ (hH.set ha ?_ e3) (hS.put e2 e3 hA) e3 ⟨⟨vs.set j v, hat, by rw [List.getElem?_set_self hjl]⟩, fun i w hi hij hfa => ?_⟩
  · rw [hk]
    exact ⟨vs.set j v, hat, h3.set hf hv (hR vs h3)⟩
  · obtain ⟨us, u1, u2⟩ := hfa
    obtain ⟨r2, ur, cell2, w1, w2, w3, w4⟩ := u1
    have hr2 : r2 = (C, Tf, N) := Option.some.inj (ur.symm.trans hc)
    subst hr2
    have hcell : cell2 = cell := Option.some.inj (w1.symm.trans q1)
    subst hcell
    have hv1 := q4 i hi
    have hv2 := w4 i hi
    rw [hv1] at hv2
    have e5 : vp_V vs i = w := by
      have h7 : vp_V us i = w := by simp [vp_V, u2]
      rw [← h7]; exact Option.some.inj hv2
    have hil : i < vs.length := by
      rw [h3.1]
      by_cases hlt : i < fs.length
      · exact hlt
      · exfalso
        exact hlt (by rw [hfl]; exact hi)
    refine ⟨vs.set j v, hat, ?_⟩
    rw [List.getElem?_set_ne (Ne.symm hij), ← e5]
    simp [vp_V, hil]
theorem th_in {i : Int32} {n : Nat} {hi : Int} (h : IV i 0 hi) (hn : hi < n) : vp_in i n := by
  intro hc
  obtain ⟨h1, h2⟩ := h
  rcases hc with hc | hc
  · have : i.toInt < 0 := by
      have := Int32.lt_iff_toInt_lt.mp hc
      simpa using this
    omega
  · have h3 : (i.toNatClampNeg : Int) = i.toInt := by
      rw [← Int32.toNat_toInt]
      exact Int.toNat_of_nonneg h1
    omega
theorem th_nat {i : Int32} {hi : Int} (h : IV i 0 hi) : (i.toNatClampNeg : Int) = i.toInt := by
  rw [← Int32.toNat_toInt]
  exact Int.toNat_of_nonneg h.1
end THR
