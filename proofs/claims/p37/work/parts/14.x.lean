/-! methods that change one of the numbers q -/
def qup (q : Nat → Int) (i : Nat) (z : Int) : Nat → Int := fun n => if n = i then z else q n
/-- one address alone has such a kind -/
def tok (T : Nat → Option Nat) : Prop := ∀ k ∈ [5, 7, 8, 46], ∀ a b, T a = some k → T b = some k → a = b
def qokr (q : Nat → Int) : Prop := qok q ∧ q 1 + q 2 ≤ 40
theorem kd_up0 (q : Nat → Int) (z : Int) : ∀ k : Nat, k ≠ 8 → kd (qup q 0 z) k = kd q k := fun k h => match k, h with
  | 0, _ => rfl
  | 1, _ => rfl
  | 2, _ => rfl
  | 3, _ => rfl
  | 4, _ => rfl
  | 5, _ => rfl
  | 6, _ => rfl
  | 7, _ => rfl
  | 8, h => absurd rfl h
  | 9, _ => rfl
  | 10, _ => rfl
  | 11, _ => rfl
  | 12, _ => rfl
  | 13, _ => rfl
  | 14, _ => rfl
  | 15, _ => rfl
  | 16, _ => rfl
  | 17, _ => rfl
  | 18, _ => rfl
  | 19, _ => rfl
  | 20, _ => rfl
  | 21, _ => rfl
  | 22, _ => rfl
  | 23, _ => rfl
  | 24, _ => rfl
  | 25, _ => rfl
  | 26, _ => rfl
  | 27, _ => rfl
  | 28, _ => rfl
  | 29, _ => rfl
  | 30, _ => rfl
  | 31, _ => rfl
  | 32, _ => rfl
  | 33, _ => rfl
  | 34, _ => rfl
  | 35, _ => rfl
  | 36, _ => rfl
  | 37, _ => rfl
  | 38, _ => rfl
  | 39, _ => rfl
  | 40, _ => rfl
  | 41, _ => rfl
  | 42, _ => rfl
  | 43, _ => rfl
  | 44, _ => rfl
  | 45, _ => rfl
  | 46, _ => rfl
  | 47, _ => rfl
  | 48, _ => rfl
  | 49, _ => rfl
  | 50, _ => rfl
  | 51, _ => rfl
  | 52, _ => rfl
  | 53, _ => rfl
  | 54, _ => rfl
  | 55, _ => rfl
  | 56, _ => rfl
  | 57, _ => rfl
  | 58, _ => rfl
  | 59, _ => rfl
  | 60, _ => rfl
  | 61, _ => rfl
  | _ + 62, _ => rfl
theorem kd_up1 (q : Nat → Int) (z : Int) : ∀ k : Nat, k ≠ 5 → kd (qup q 1 z) k = kd q k := fun k h => match k, h with
  | 0, _ => rfl
  | 1, _ => rfl
  | 2, _ => rfl
  | 3, _ => rfl
  | 4, _ => rfl
  | 5, h => absurd rfl h
  | 6, _ => rfl
  | 7, _ => rfl
  | 8, _ => rfl
  | 9, _ => rfl
  | 10, _ => rfl
  | 11, _ => rfl
  | 12, _ => rfl
  | 13, _ => rfl
  | 14, _ => rfl
  | 15, _ => rfl
  | 16, _ => rfl
  | 17, _ => rfl
  | 18, _ => rfl
  | 19, _ => rfl
  | 20, _ => rfl
  | 21, _ => rfl
  | 22, _ => rfl
  | 23, _ => rfl
  | 24, _ => rfl
  | 25, _ => rfl
  | 26, _ => rfl
  | 27, _ => rfl
  | 28, _ => rfl
  | 29, _ => rfl
  | 30, _ => rfl
  | 31, _ => rfl
  | 32, _ => rfl
  | 33, _ => rfl
  | 34, _ => rfl
  | 35, _ => rfl
  | 36, _ => rfl
  | 37, _ => rfl
  | 38, _ => rfl
  | 39, _ => rfl
  | 40, _ => rfl
  | 41, _ => rfl
  | 42, _ => rfl
  | 43, _ => rfl
  | 44, _ => rfl
  | 45, _ => rfl
  | 46, _ => rfl
  | 47, _ => rfl
  | 48, _ => rfl
  | 49, _ => rfl
  | 50, _ => rfl
  | 51, _ => rfl
  | 52, _ => rfl
  | 53, _ => rfl
  | 54, _ => rfl
  | 55, _ => rfl
  | 56, _ => rfl
  | 57, _ => rfl
  | 58, _ => rfl
  | 59, _ => rfl
  | 60, _ => rfl
  | 61, _ => rfl
  | _ + 62, _ => rfl
theorem kd_up2 (q : Nat → Int) (z : Int) : ∀ k : Nat, k ≠ 5 → kd (qup q 2 z) k = kd q k := fun k h => match k, h with
  | 0, _ => rfl
  | 1, _ => rfl
  | 2, _ => rfl
  | 3, _ => rfl
  | 4, _ => rfl
  | 5, h => absurd rfl h
  | 6, _ => rfl
  | 7, _ => rfl
  | 8, _ => rfl
  | 9, _ => rfl
  | 10, _ => rfl
  | 11, _ => rfl
  | 12, _ => rfl
  | 13, _ => rfl
  | 14, _ => rfl
  | 15, _ => rfl
  | 16, _ => rfl
  | 17, _ => rfl
  | 18, _ => rfl
  | 19, _ => rfl
  | 20, _ => rfl
  | 21, _ => rfl
  | 22, _ => rfl
  | 23, _ => rfl
  | 24, _ => rfl
  | 25, _ => rfl
  | 26, _ => rfl
  | 27, _ => rfl
  | 28, _ => rfl
  | 29, _ => rfl
  | 30, _ => rfl
  | 31, _ => rfl
  | 32, _ => rfl
  | 33, _ => rfl
  | 34, _ => rfl
  | 35, _ => rfl
  | 36, _ => rfl
  | 37, _ => rfl
  | 38, _ => rfl
  | 39, _ => rfl
  | 40, _ => rfl
  | 41, _ => rfl
  | 42, _ => rfl
  | 43, _ => rfl
  | 44, _ => rfl
  | 45, _ => rfl
  | 46, _ => rfl
  | 47, _ => rfl
  | 48, _ => rfl
  | 49, _ => rfl
  | 50, _ => rfl
  | 51, _ => rfl
  | 52, _ => rfl
  | 53, _ => rfl
  | 54, _ => rfl
  | 55, _ => rfl
  | 56, _ => rfl
  | 57, _ => rfl
  | 58, _ => rfl
  | 59, _ => rfl
  | 60, _ => rfl
  | 61, _ => rfl
  | _ + 62, _ => rfl
theorem kd_up3 (q : Nat → Int) (z : Int) : ∀ k : Nat, k ≠ 46 → kd (qup q 3 z) k = kd q k := fun k h => match k, h with
  | 0, _ => rfl
  | 1, _ => rfl
  | 2, _ => rfl
  | 3, _ => rfl
  | 4, _ => rfl
  | 5, _ => rfl
  | 6, _ => rfl
  | 7, _ => rfl
  | 8, _ => rfl
  | 9, _ => rfl
  | 10, _ => rfl
  | 11, _ => rfl
  | 12, _ => rfl
  | 13, _ => rfl
  | 14, _ => rfl
  | 15, _ => rfl
  | 16, _ => rfl
  | 17, _ => rfl
  | 18, _ => rfl
  | 19, _ => rfl
  | 20, _ => rfl
  | 21, _ => rfl
  | 22, _ => rfl
  | 23, _ => rfl
  | 24, _ => rfl
  | 25, _ => rfl
  | 26, _ => rfl
  | 27, _ => rfl
  | 28, _ => rfl
  | 29, _ => rfl
  | 30, _ => rfl
  | 31, _ => rfl
  | 32, _ => rfl
  | 33, _ => rfl
  | 34, _ => rfl
  | 35, _ => rfl
  | 36, _ => rfl
  | 37, _ => rfl
  | 38, _ => rfl
  | 39, _ => rfl
  | 40, _ => rfl
  | 41, _ => rfl
  | 42, _ => rfl
  | 43, _ => rfl
  | 44, _ => rfl
  | 45, _ => rfl
  | 46, h => absurd rfl h
  | 47, _ => rfl
  | 48, _ => rfl
  | 49, _ => rfl
  | 50, _ => rfl
  | 51, _ => rfl
  | 52, _ => rfl
  | 53, _ => rfl
  | 54, _ => rfl
  | 55, _ => rfl
  | 56, _ => rfl
  | 57, _ => rfl
  | 58, _ => rfl
  | 59, _ => rfl
  | 60, _ => rfl
  | 61, _ => rfl
  | _ + 62, _ => rfl
theorem kd_up4 (q : Nat → Int) (z : Int) : ∀ k : Nat, k ≠ 46 → kd (qup q 4 z) k = kd q k := fun k h => match k, h with
  | 0, _ => rfl
  | 1, _ => rfl
  | 2, _ => rfl
  | 3, _ => rfl
  | 4, _ => rfl
  | 5, _ => rfl
  | 6, _ => rfl
  | 7, _ => rfl
  | 8, _ => rfl
  | 9, _ => rfl
  | 10, _ => rfl
  | 11, _ => rfl
  | 12, _ => rfl
  | 13, _ => rfl
  | 14, _ => rfl
  | 15, _ => rfl
  | 16, _ => rfl
  | 17, _ => rfl
  | 18, _ => rfl
  | 19, _ => rfl
  | 20, _ => rfl
  | 21, _ => rfl
  | 22, _ => rfl
  | 23, _ => rfl
  | 24, _ => rfl
  | 25, _ => rfl
  | 26, _ => rfl
  | 27, _ => rfl
  | 28, _ => rfl
  | 29, _ => rfl
  | 30, _ => rfl
  | 31, _ => rfl
  | 32, _ => rfl
  | 33, _ => rfl
  | 34, _ => rfl
  | 35, _ => rfl
  | 36, _ => rfl
  | 37, _ => rfl
  | 38, _ => rfl
  | 39, _ => rfl
  | 40, _ => rfl
  | 41, _ => rfl
  | 42, _ => rfl
  | 43, _ => rfl
  | 44, _ => rfl
  | 45, _ => rfl
  | 46, h => absurd rfl h
  | 47, _ => rfl
  | 48, _ => rfl
  | 49, _ => rfl
  | 50, _ => rfl
  | 51, _ => rfl
  | 52, _ => rfl
  | 53, _ => rfl
  | 54, _ => rfl
  | 55, _ => rfl
  | 56, _ => rfl
  | 57, _ => rfl
  | 58, _ => rfl
  | 59, _ => rfl
  | 60, _ => rfl
  | 61, _ => rfl
  | _ + 62, _ => rfl
theorem kd_up5 (q : Nat → Int) (z : Int) : ∀ k : Nat, k ≠ 46 → kd (qup q 5 z) k = kd q k := fun k h => match k, h with
  | 0, _ => rfl
  | 1, _ => rfl
  | 2, _ => rfl
  | 3, _ => rfl
  | 4, _ => rfl
  | 5, _ => rfl
  | 6, _ => rfl
  | 7, _ => rfl
  | 8, _ => rfl
  | 9, _ => rfl
  | 10, _ => rfl
  | 11, _ => rfl
  | 12, _ => rfl
  | 13, _ => rfl
  | 14, _ => rfl
  | 15, _ => rfl
  | 16, _ => rfl
  | 17, _ => rfl
  | 18, _ => rfl
  | 19, _ => rfl
  | 20, _ => rfl
  | 21, _ => rfl
  | 22, _ => rfl
  | 23, _ => rfl
  | 24, _ => rfl
  | 25, _ => rfl
  | 26, _ => rfl
  | 27, _ => rfl
  | 28, _ => rfl
  | 29, _ => rfl
  | 30, _ => rfl
  | 31, _ => rfl
  | 32, _ => rfl
  | 33, _ => rfl
  | 34, _ => rfl
  | 35, _ => rfl
  | 36, _ => rfl
  | 37, _ => rfl
  | 38, _ => rfl
  | 39, _ => rfl
  | 40, _ => rfl
  | 41, _ => rfl
  | 42, _ => rfl
  | 43, _ => rfl
  | 44, _ => rfl
  | 45, _ => rfl
  | 46, h => absurd rfl h
  | 47, _ => rfl
  | 48, _ => rfl
  | 49, _ => rfl
  | 50, _ => rfl
  | 51, _ => rfl
  | 52, _ => rfl
  | 53, _ => rfl
  | 54, _ => rfl
  | 55, _ => rfl
  | 56, _ => rfl
  | 57, _ => rfl
  | 58, _ => rfl
  | 59, _ => rfl
  | 60, _ => rfl
  | 61, _ => rfl
  | _ + 62, _ => rfl
theorem kd_up6 (q : Nat → Int) (z : Int) : ∀ k : Nat, k ≠ 7 → kd (qup q 6 z) k = kd q k := fun k h => match k, h with
  | 0, _ => rfl
  | 1, _ => rfl
  | 2, _ => rfl
  | 3, _ => rfl
  | 4, _ => rfl
  | 5, _ => rfl
  | 6, _ => rfl
  | 7, h => absurd rfl h
  | 8, _ => rfl
  | 9, _ => rfl
  | 10, _ => rfl
  | 11, _ => rfl
  | 12, _ => rfl
  | 13, _ => rfl
  | 14, _ => rfl
  | 15, _ => rfl
  | 16, _ => rfl
  | 17, _ => rfl
  | 18, _ => rfl
  | 19, _ => rfl
  | 20, _ => rfl
  | 21, _ => rfl
  | 22, _ => rfl
  | 23, _ => rfl
  | 24, _ => rfl
  | 25, _ => rfl
  | 26, _ => rfl
  | 27, _ => rfl
  | 28, _ => rfl
  | 29, _ => rfl
  | 30, _ => rfl
  | 31, _ => rfl
  | 32, _ => rfl
  | 33, _ => rfl
  | 34, _ => rfl
  | 35, _ => rfl
  | 36, _ => rfl
  | 37, _ => rfl
  | 38, _ => rfl
  | 39, _ => rfl
  | 40, _ => rfl
  | 41, _ => rfl
  | 42, _ => rfl
  | 43, _ => rfl
  | 44, _ => rfl
  | 45, _ => rfl
  | 46, _ => rfl
  | 47, _ => rfl
  | 48, _ => rfl
  | 49, _ => rfl
  | 50, _ => rfl
  | 51, _ => rfl
  | 52, _ => rfl
  | 53, _ => rfl
  | 54, _ => rfl
  | 55, _ => rfl
  | 56, _ => rfl
  | 57, _ => rfl
  | 58, _ => rfl
  | 59, _ => rfl
  | 60, _ => rfl
  | 61, _ => rfl
  | _ + 62, _ => rfl
theorem th_O.sub {T : Nat → Option Nat} {fs1 fs2 : List th_F} {j : Nat} {f : th_F} {v : Value} {vs : List Value} (h : th_O T fs1 (fun _ => True) vs) (hf : fs2[j]? = some f) (hv : th_V T f v) (hl : fs2.length = fs1.length) (heq : ∀ i, i ≠ j → fs2[i]? = fs1[i]?) : th_O T fs2 (fun _ => True) (vs.set j v) := by
  refine ⟨by rw [List.length_set, hl]; exact h.1, fun i f2 h2 => ?_, trivial⟩
  by_cases hij : i = j
  · subst hij
    cases hf.symm.trans h2
    refine ⟨v, ?_, hv⟩
    have hl2 : i < fs2.length := (List.getElem?_eq_some_iff.mp hf).1
    rw [List.getElem?_set_self (by rw [h.1, ← hl]; exact hl2)]
  · rw [List.getElem?_set_ne (Ne.symm hij)]
    rw [heq i hij] at h2
    exact h.2.1 i f2 h2
section THX
variable {p : Program} {l : Launch} {e : Env} {R : Room} {s : State} {m : MethodId} {args : Array Value} {below : List Frame} {meth : Method} {c : Code} {H : Heap} {locs : List Loc} {cells slots : Nat} {Q : State → Prop}
variable {cc : ByteArray} {pc nL : Nat} {ls : Array Slot} {rest : List Value} {D : va_G} {cT : Nat → ClassId} {T : Nat → Option Nat} {Ks Ks2 : Nat → th_K} {A : Nat → Prop} {a k : Nat} {H0 : Heap} {own : String} {Ts : List Cond}
/-- putfield that changes the form of its kind -/
theorem th_putX (S : CallFix p m c cc nL s args Ts own) (hK : va_K D classes (th_tys cT) s) (hH : th_H D cT T Ks H) (hS : va_S A H0 H locs) (hA : A a) {ref C : String} {Tf : u_T} {N ci index : Nat} {fs fs2 : List th_F} (hin : ∀ w ∈ u_ws C Tf N, w ∈ Ts) (ty0 : Nat → FieldType) (hty : ∀ k, k < N → parseFieldDescriptor (Tf k).2.2.1 = some (ty0 k)) (hnm : ∀ a, a < N → ∀ b, b < N → a ≠ b → (Tf a).2.1 ≠ (Tf b).2.1) (ha : T a = some k) (huq : ∀ b, T b = some k → b = a) (hk : Ks k = .inl (ci, fs, fun _ => True)) (hk2 : Ks2 k = .inl (ci, fs2, fun _ => True)) (hoth : ∀ k', k' ≠ k → Ks2 k' = Ks k') (hc : classes[ci]? = some (C, Tf, N)) (j : Nat) (hj : j < N)
    (hlink : Cond.fieldLink own index ref (Tf j).2.1 (Tf j).2.2.1 ∈ Ts) (href : (Tf j).1 = ref) (hfin : (Tf j).2.2.2 = false) {f : th_F} (hf : fs2[j]? = some f) (hfl : fs2.length = fs.length) (hfe : ∀ i, i ≠ j → fs2[i]? = fs[i]?) (hfj : j < fs.length) {v : Value} (hv : th_V T f v) {ty : FieldType} (hd : parseFieldDescriptor (Tf j).2.2.1 = some ty) (hn : narrow ty v = v) (hfit : fits ty v = true) (hdg : decode cc pc = .ok (.putfield index, 3))
    (kk : ∀ (H1 : Heap) (locs1 : List Loc), th_H D cT T Ks2 H1 → va_S A H0 H1 locs1 → (∀ q : Nat, q ≠ a → H1[q]? = H[q]?) → W p l e R s m args below meth c H1 locs1 cells slots Q (F0 m (pc + 3) ls rest)) : W p l e R s m args below meth c H locs cells slots Q (F0 m pc ls (v :: .ref a :: rest)) := by
  obtain ⟨hx, hb, -, hown, hts⟩ := S
  have h1 := hH a k ha
  rw [hk] at h1
  obtain ⟨vs, h2, h3⟩ := h1
  have hap := va_apart (own := own) hts hin ty0 hty hnm hK hc
  obtain ⟨r, hr1, cell, q1, q2, q3, q4⟩ := h2
  have hr : r = (C, Tf, N) := Option.some.inj (hr1.symm.trans hc)
  subst hr
  obtain ⟨hS1, hfc, kC, hkC, hkind⟩ := hK.1 ci _ hc
  obtain ⟨cf, kf, fi, f1, hi, hsl⟩ := hS1 j hj
  have hlay := hts _ (hin _ (u_in_lay hj))
  unfold u_lay at hlay
  rw [if_neg (by rw [hfin]; decide)] at hlay
  have hst := (u_facts hfc hkC (u_lays hts hin hj) hi).1
  have h6 := u_store hfc hkC hkind hlay hi hd hn hfit
  refine W.putK hx hb (f := f1) ⟨hown, hts _ hlink, ⟨_, _, _, by rw [← href]; exact hi⟩, hst⟩ (by rw [q2]; exact h6) q1 q3 (by rw [hsl]; exact k2_hasslot (q4 j hj)) rfl rfl hdg fun H' e1 e2 e3 => ?_
  rw [hsl] at e1 ⊢
  have hjl : j < vs.length := by rw [h3.1]; exact hfj
  have hat : va_at D classes (a, .inr (ci, vs.set j v)) H' := ⟨_, hc, t_OB.to (V := updV (vp_V vs) j v) ⟨_, e1, q2, q3, t_set q4 hap hj v⟩ (fun i _ => vp_updV_set hjl v i)⟩
  refine kk H' _ (fun b kb hb2 => ?_) (hS.put e2 e3 hA) e3
  by_cases hkb : kb = k
  · subst hkb
    have hba := huq b hb2
    subst hba
    rw [hk2]
    exact ⟨vs.set j v, hat, h3.sub hf hv hfl hfe⟩
  · rw [hoth kb hkb]
    exact (hH b kb hb2).kept (e3 b (th_ne hb2 ha hkb))
end THX
def th_QX (D : va_G) (cT : Nat → ClassId) (T : Nat → Option Nat) (q : Nat → Int) (post : Option Value → Prop) (wk : List Nat) : Array Value → State → Outcome → State → Prop := fun _ st oc t => (∃ (v : Option Value) (q2 : Nat → Int), oc = .returned v ∧ post v ∧ qokr q2 ∧ q2 0 = q 0 ∧ th_W D cT T (kd q2) t) ∧ va_F (th_A T wk) st t
def th_MetX (l : Launch) (D : va_G) (cT : Nat → ClassId) (T : Nat → Option Nat) (q : Nat → Int) (y : MethodName) (bytes : ByteArray) (maxL : Nat) (ret : Option FieldType) (rm : Room) (vs : List Value) (post : Option Value → Prop) (wk : List Nat) : Prop :=
  Met l y (Cond.code y bytes maxL ret :: gw) rm (va_Pc vs (th_W D cT T (kd q))) (th_QX D cT T q post wk) 0 0 (th_A T wk)
section THXS
variable {l : Launch} {D : va_G} {cT : Nat → ClassId} {T : Nat → Option Nat} {q : Nat → Int} {y : MethodName} {bytes : ByteArray} {maxL : Nat} {ret : Option FieldType} {rm : Room} {vs : List Value} {post : Option Value → Prop} {wk : List Nat}
theorem th_startX (hy : plainName y.cls = true) (hlen : (lg_sl vs).length ≤ maxL)
    (body : ∀ (p : Program) (e : Env) (s : State) (m : MethodId) (below : List Frame) (meth : Method) (c : Code) (ls : Array Slot), CallFix p m c bytes maxL s vs.toArray gw y.cls → va_K D classes (th_tys cT) s → th_H D cT T (kd q) s.heap → meth.sig.returnType = ret → meth.locks = false → meth.name = y.name → lv_has ls maxL (lv_args 0 vs) →
      W p l e rm s m vs.toArray below meth c s.heap [] 0 0 (MQ below (th_QX D cT T q post wk) vs.toArray s 0 0 (th_A T wk)) (F0 m 0 ls [])) : th_MetX l D cT T q y bytes maxL ret rm vs post wk := by
  refine Met.ofW (cc := bytes) (maxL := maxL) (ret := ret) hy rfl ?_
  intro p e s m args below meth c s₁ B hml hv
  obtain ⟨rfl, hH, hK⟩ := hv
  have hts := atoms_spec (ws := Cond.code y bytes maxL ret :: gw) B.pre
  rw [lg_entry_eq]
  exact body p e s m below meth c _ ⟨B.exec, B.bytes, hml, findClass_of_methodNamed B.named, fun w hw => hts w (List.mem_cons_of_mem _ hw)⟩ hK hH B.returns B.notSynchronized (name_of_methodNamed B.named B.method).1 (lv_entry vs hlen)
end THXS
section THXE
variable {p : Program} {l : Launch} {e : Env} {R : Room} {s : State} {m : MethodId} {args : Array Value} {below : List Frame} {meth : Method} {c : Code} {H : Heap} {locs : List Loc}
variable {cc : ByteArray} {pc nL : Nat} {ls : Array Slot} {D : va_G} {cT : Nat → ClassId} {T : Nat → Option Nat} {q q2 : Nat → Int} {own : String} {Ts : List Cond} {post : Option Value → Prop} {wk : List Nat}
theorem th_endX (hK : va_K D classes (th_tys cT) s) (hH : th_H D cT T (kd q2) H) (hS : va_S (th_A T wk) s.heap H locs) (hq : qokr q2) (h0 : q2 0 = q 0) {v : Option Value} (hp : post v) : ∀ t : State, t.heap = H → s.WarmedH t.vm → th_QX D cT T q post wk args s (.returned v) t :=
  fun _ ht hW => ⟨⟨v, q2, rfl, hp, hq, h0, by rw [ht]; exact hH, va_K.moved hW.alike hK⟩, hS.F ht⟩
theorem th_iretX (S : CallFix p m c cc nL s args Ts own) (hK : va_K D classes (th_tys cT) s) (hH : th_H D cT T (kd q2) H) (hS : va_S (th_A T wk) s.heap H locs) (hr : meth.sig.returnType = some .int) (hlocks : meth.locks = false) (hq : qokr q2) (h0 : q2 0 = q 0) {v : Int32} (hp : post (some (.int v))) (hdg : decode cc pc = .ok (.ireturn, 1)) : W p l e R s m args below meth c H locs 0 0 (MQ below (th_QX D cT T q post wk) args s 0 0 (th_A T wk)) (F0 m pc ls [.int v]) :=
  W.iret S.1 S.2.1 hr (th_endX hK hH hS hq h0 hp) hS.2.2 hdg hlocks
theorem th_zretX (S : CallFix p m c cc nL s args Ts own) (hK : va_K D classes (th_tys cT) s) (hH : th_H D cT T (kd q2) H) (hS : va_S (th_A T wk) s.heap H locs) (hr : meth.sig.returnType = some .boolean) (hlocks : meth.locks = false) (hq : qokr q2) (h0 : q2 0 = q 0) {v : Int32} (hv : IV v 0 1) (hp : post (some (.int v))) (hdg : decode cc pc = .ok (.ireturn, 1)) : W p l e R s m args below meth c H locs 0 0 (MQ below (th_QX D cT T q post wk) args s 0 0 (th_A T wk)) (F0 m pc ls [.int v]) :=
  W.zret S.1 S.2.1 hr (th_nbool hv) (th_endX hK hH hS hq h0 hp) hS.2.2 hdg hlocks
theorem th_vretX (S : CallFix p m c cc nL s args Ts own) (hK : va_K D classes (th_tys cT) s) (hH : th_H D cT T (kd q2) H) (hS : va_S (th_A T wk) s.heap H locs) (hr : meth.sig.returnType = none) (hlocks : meth.locks = false) (hq : qokr q2) (h0 : q2 0 = q 0) (hp : post none) (hdg : decode cc pc = .ok (.return_, 1)) : W p l e R s m args below meth c H locs 0 0 (MQ below (th_QX D cT T q post wk) args s 0 0 (th_A T wk)) (F0 m pc ls []) :=
  W.vret S.1 S.2.1 hr (th_endX hK hH hS hq h0 hp) hS.2.2 hdg hlocks
theorem th_aretX (S : CallFix p m c cc nL s args Ts own) (hK : va_K D classes (th_tys cT) s) (hH : th_H D cT T (kd q2) H) (hS : va_S (th_A T wk) s.heap H locs) {C : String} (hr : meth.sig.returnType = some (.object C)) (hlocks : meth.locks = false) (hq : qokr q2) (h0 : q2 0 = q 0) {v : Nat} (hp : post (some (.ref v))) (hdg : decode cc pc = .ok (.areturn, 1)) : W p l e R s m args below meth c H locs 0 0 (MQ below (th_QX D cT T q post wk) args s 0 0 (th_A T wk)) (F0 m pc ls [.ref v]) :=
  W.aret S.1 S.2.1 hr (Or.inl ⟨_, rfl⟩) (Or.inr ⟨_, rfl⟩) (th_endX hK hH hS hq h0 hp) hS.2.2 hdg hlocks
end THXE
section THXC
variable {p : Program} {l : Launch} {e : Env} {R : Room} {s : State} {m : MethodId} {args : Array Value} {below : List Frame} {meth : Method} {c : Code} {H : Heap} {locs : List Loc} {cells slots : Nat} {Q : State → Prop}
variable {cc bytes : ByteArray} {pc nL maxL n index ci N k : Nat} {ls : Array Slot} {rest st0 As : List Value} {D : va_G} {cT : Nat → ClassId} {T : Nat → Option Nat} {q : Nat → Int} {A : Nat → Prop} {b : Nat} {H0 : Heap} {own C : String} {y : MethodName} {ret : Option FieldType} {rm : Room} {post : Option Value → Prop} {wk : List Nat} {fs : List th_F} {Rf : List Value → Prop} {Tf : u_T}
theorem th_backX {a : Array Value} (hr : va_Run p l e R s m args below meth c H locs cells slots 0 0 (F0 m pc ls st0) rest (th_QX D cT T q post wk a) (th_A T wk)) (hS : va_S A H0 H locs) (hwk : ∀ q, th_A T wk q → A q)
    (kk : ∀ (v : Option Value) (q2 : Nat → Int) (H1 : Heap) (locs1 : List Loc), post v → qokr q2 → q2 0 = q 0 → th_H D cT T (kd q2) H1 → va_S A H0 H1 locs1 → (∀ q : Nat, q < H.size → ¬ th_A T wk q → H1[q]? = H[q]?) → W p l e R s m args below meth c H1 locs1 cells slots Q (F0 m (pc + 3) ls (v.toList ++ rest))) : W p l e R s m args below meth c H locs cells slots Q (F0 m pc ls st0) := by
  intro T0 hT X
  obtain ⟨v, st₀, t, T', L, h0, X', hL, e1, e2, ⟨⟨v2, q2, hv, hp, hq2, hq0, hb⟩, hz, hk⟩, st⟩ := hr T0 hT X
  cases hv
  rw [h0] at hz hk
  obtain ⟨t2, a1, b1⟩ := kk v q2 T'.heap (locs ++ L) hp hq2 hq0 (by rw [e1]; exact hb.1) ⟨Nat.le_trans hS.1 (by rw [e1]; exact hz), fun q h1 h2 => by rw [e1, hk q (Nat.lt_of_lt_of_le h1 hS.1) (fun z => h2 (hwk q z))]; exact hS.2.1 q h1 h2, fun q hq => by
      rcases List.mem_append.mp hq with h | h
      · exact hS.2.2 q h
      · exact hwk _ (hL q h)⟩ (fun q h1 h2 => by rw [e1]; exact hk q h1 h2) T' rfl X'
  exact ⟨t2, st t2 a1, b1⟩
theorem th_callVX (S : CallFix p m c cc nL s args gw own) (hK : va_K D classes (th_tys cT) s) (hH : th_H D cT T (kd q) H) (hS : va_S A H0 H locs) (hwk : ∀ q, th_A T wk q → A q) (hM : th_MetX l D cT T q y bytes maxL ret rm (.ref b :: As) post wk)
    (hcode : Cond.code y bytes maxL ret ∈ gw) (hlink : Cond.methodLink own index y ∈ gw) (hinst : Cond.instanceMethod y ∈ gw) (hsel : Cond.selects C y y ∈ gw) (hini : Cond.initialized y.cls ∈ gw)
    (hd : y.cls ≠ "java/lang/invoke/MethodHandle" ∧ y.cls ≠ "java/lang/invoke/VarHandle" ∧ (parseMethodDescriptor y.desc).map (fun d => d.parameters.length) = some n) (hR : rm.cells = 0 ∧ rm.slots = 0 ∧ rm.frames + 1 ≤ R.frames ∧ 8 + (maxL + 11) + rm.locals ≤ R.locals)
    (ha : T b = some k) (hk : kd q k = .inl (ci, fs, Rf)) (hc : classes[ci]? = some (C, Tf, N)) (hn : As.length = n) (hl : ls.size = nL) (hst : st0 = As.reverse ++ .ref b :: rest) (hrest : (rest.map fun v => v.category).sum ≤ 8) (hdg : decode cc pc = .ok (.invokevirtual index, 3)) (hcs : cells ≤ R.cells ∧ slots ≤ R.slots)
    (kk : ∀ (v : Option Value) (q2 : Nat → Int) (H1 : Heap) (locs1 : List Loc), post v → qokr q2 → q2 0 = q 0 → th_H D cT T (kd q2) H1 → va_S A H0 H1 locs1 → (∀ q : Nat, q < H.size → ¬ th_A T wk q → H1[q]? = H[q]?) → W p l e R s m args below meth c H1 locs1 cells slots Q (F0 m (pc + 3) ls (v.toList ++ rest))) : W p l e R s m args below meth c H locs cells slots Q (F0 m pc ls st0) := by
  have hts := S.2.2.2.2
  have h1 := hH b k ha
  rw [hk] at h1
  obtain ⟨ws, h2, -⟩ := h1
  have hP : va_P D classes [(b, .inr (ci, ws))] H := fun i q hq => by
    cases i with
    | zero => cases hq; exact h2
    | succ i => simp at hq
  refine th_backX (va_runV (As := As) (rest := rest) S hM ⟨th_callB S hcode hlink hini hd hR, hts _ hinst, hts _ hsel⟩ ⟨th_blind, va_recv hK hP hc (q0 := 0) rfl, th_pre hK hH⟩ rfl hn hl (by rw [hst]) (lv_room hrest) hdg hcs) hS hwk kk
end THXC
theorem th_self {x : Int32} {T : Nat → Option Nat} : th_V T (.inl (x.toInt, x.toInt)) (.int x) := ⟨x, rfl, Int.le_refl _, Int.le_refl _⟩
