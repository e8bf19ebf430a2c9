section THA
variable {p : Program} {l : Launch} {e : Env} {R : Room} {s : State} {m : MethodId} {args : Array Value} {below : List Frame} {meth : Method} {c : Code} {H : Heap} {locs : List Loc} {cells slots : Nat} {Q : State → Prop}
variable {cc : ByteArray} {pc nL : Nat} {ls : Array Slot} {rest : List Value} {D : va_G} {cT : Nat → ClassId} {T : Nat → Option Nat} {Ks : Nat → th_K} {A : Nat → Prop} {a k : Nat} {H0 : Heap} {own : String} {Ts : List Cond}
theorem th_arr {t n : Nat} {el : Nat → th_F} (hH : th_H D cT T Ks H) (ha : T a = some k) (hk : Ks k = .inr (t, n, el)) : ∃ g : Nat → Value, H[a]? = some (arrV (cT t) n g) ∧ ∀ j, j < n → th_V T (el j) (g j) := by
  have h1 := hH a k ha
  rw [hk] at h1
  exact h1
theorem th_arrset {t n : Nat} {el : Nat → th_F} {H1 : Heap} {g : Nat → Value} {j : Nat} {v : Value} (hH : th_H D cT T Ks H) (ha : T a = some k) (hk : Ks k = .inr (t, n, el)) (hg : ∀ j, j < n → th_V T (el j) (g j)) (hv : th_V T (el j) v) (he : H1[a]? = some ((arrV (cT t) n g).setSlot j v)) (oq : ∀ q : Nat, q ≠ a → H1[q]? = H[q]?) : th_H D cT T Ks H1 := by
  refine hH.set ha ?_ oq
  rw [hk]
  refine ⟨updV g j v, by rw [he, arrV_store], fun i hi => ?_⟩
  by_cases hij : i = j
  · subst hij
    simp only [updV, if_true]
    exact hv
  · simp only [updV, if_neg hij]
    exact hg i hi
theorem th_size {t n : Nat} {g : Nat → Value} {i : Int32} (hin : vp_in i n) : ¬ (i < 0 ∨ (arrV (cT t) n g).slots.size ≤ i.toNatClampNeg) := by rw [arrV_size]; exact hin
theorem th_lt {i : Int32} {n : Nat} (hin : vp_in i n) : i.toNatClampNeg < n := Nat.not_le.mp fun q => hin (Or.inr q)
theorem th_iald (S : CallFix p m c cc nL s args Ts own) (hK : va_K D classes (th_tys cT) s) (hH : th_H D cT T Ks H) {n : Nat} {el : Nat → th_F} (ha : T a = some k) (hk : Ks k = .inr (0, n, el)) {i : Int32} (hin : vp_in i n) (hdg : decode cc pc = .ok (.iaload, 1))
    (kk : ∀ v : Value, th_V T (el i.toNatClampNeg) v → W p l e R s m args below meth c H locs cells slots Q (F0 m (pc + 1) ls (v :: rest))) : W p l e R s m args below meth c H locs cells slots Q (F0 m pc ls (.int i :: .ref a :: rest)) := by
  obtain ⟨hx, hb, -, -, -⟩ := S
  obtain ⟨g, h1, h2⟩ := th_arr hH ha hk
  exact W.iald (v := g i.toNatClampNeg) hx hb h1 ((hK.2 0 _ rfl).1 n g) (fun q => by cases q) (th_size hin) (arrV_read _ _ (th_lt hin)) rfl rfl hdg (kk _ (h2 _ (th_lt hin)))
theorem th_bald (S : CallFix p m c cc nL s args Ts own) (hK : va_K D classes (th_tys cT) s) (hH : th_H D cT T Ks H) {n : Nat} {el : Nat → th_F} (ha : T a = some k) (hk : Ks k = .inr (1, n, el)) {i : Int32} (hin : vp_in i n) (hdg : decode cc pc = .ok (.baload, 1))
    (kk : ∀ v : Value, th_V T (el i.toNatClampNeg) v → W p l e R s m args below meth c H locs cells slots Q (F0 m (pc + 1) ls (v :: rest))) : W p l e R s m args below meth c H locs cells slots Q (F0 m pc ls (.int i :: .ref a :: rest)) := by
  obtain ⟨hx, hb, -, -, -⟩ := S
  obtain ⟨g, h1, h2⟩ := th_arr hH ha hk
  exact W.bald (v := g i.toNatClampNeg) hx hb h1 ((hK.2 1 _ rfl).1 n g) (fun q => by cases q) (th_size hin) (arrV_read _ _ (th_lt hin)) rfl rfl hdg (kk _ (h2 _ (th_lt hin)))
theorem th_zald (S : CallFix p m c cc nL s args Ts own) (hK : va_K D classes (th_tys cT) s) (hH : th_H D cT T Ks H) {n : Nat} {el : Nat → th_F} (ha : T a = some k) (hk : Ks k = .inr (3, n, el)) {i : Int32} (hin : vp_in i n) (hdg : decode cc pc = .ok (.baload, 1))
    (kk : ∀ v : Value, th_V T (el i.toNatClampNeg) v → W p l e R s m args below meth c H locs cells slots Q (F0 m (pc + 1) ls (v :: rest))) : W p l e R s m args below meth c H locs cells slots Q (F0 m pc ls (.int i :: .ref a :: rest)) := by
  obtain ⟨hx, hb, -, -, -⟩ := S
  obtain ⟨g, h1, h2⟩ := th_arr hH ha hk
  exact W.zald (v := g i.toNatClampNeg) hx hb h1 ((hK.2 3 _ rfl).1 n g) (fun q => by cases q) (th_size hin) (arrV_read _ _ (th_lt hin)) rfl rfl hdg (kk _ (h2 _ (th_lt hin)))
theorem th_lald (S : CallFix p m c cc nL s args Ts own) (hK : va_K D classes (th_tys cT) s) (hH : th_H D cT T Ks H) {n : Nat} {el : Nat → th_F} (ha : T a = some k) (hk : Ks k = .inr (2, n, el)) {i : Int32} (hin : vp_in i n) (hdg : decode cc pc = .ok (.laload, 1))
    (kk : ∀ v : Value, th_V T (el i.toNatClampNeg) v → W p l e R s m args below meth c H locs cells slots Q (F0 m (pc + 1) ls (v :: rest))) : W p l e R s m args below meth c H locs cells slots Q (F0 m pc ls (.int i :: .ref a :: rest)) := by
  obtain ⟨hx, hb, -, -, -⟩ := S
  obtain ⟨g, h1, h2⟩ := th_arr hH ha hk
  exact W.lald (v := g i.toNatClampNeg) hx hb h1 ((hK.2 2 _ rfl).1 n g) (fun q => by cases q) (th_size hin) (arrV_read _ _ (th_lt hin)) rfl rfl hdg (kk _ (h2 _ (th_lt hin)))
theorem th_aald (S : CallFix p m c cc nL s args Ts own) (hK : va_K D classes (th_tys cT) s) (hH : th_H D cT T Ks H) {n : Nat} {el : Nat → th_F} (ha : T a = some k) (hk : Ks k = .inr (4, n, el)) {i : Int32} (hin : vp_in i n) (hdg : decode cc pc = .ok (.aaload, 1))
    (kk : ∀ v : Value, th_V T (el i.toNatClampNeg) v → W p l e R s m args below meth c H locs cells slots Q (F0 m (pc + 1) ls (v :: rest))) : W p l e R s m args below meth c H locs cells slots Q (F0 m pc ls (.int i :: .ref a :: rest)) := by
  obtain ⟨hx, hb, -, -, -⟩ := S
  obtain ⟨g, h1, h2⟩ := th_arr hH ha hk
  exact W.aald (v := g i.toNatClampNeg) hx hb h1 ((hK.2 4 _ rfl).1 n g) rfl (fun q => by cases q) (th_size hin) (arrV_read _ _ (th_lt hin)) rfl rfl hdg (kk _ (h2 _ (th_lt hin)))
theorem th_alen (S : CallFix p m c cc nL s args Ts own) (hK : va_K D classes (th_tys cT) s) (hH : th_H D cT T Ks H) {t n : Nat} {el : Nat → th_F} {ty : FieldType} (ha : T a = some k) (hk : Ks k = .inr (t, n, el)) (ht : (th_tys cT)[t]? = some (cT t, ty)) {v : Int32} (hv : Int32.ofNat n = v) (hdg : decode cc pc = .ok (.arraylength, 1))
    (kk : W p l e R s m args below meth c H locs cells slots Q (F0 m (pc + 1) ls (.int v :: rest))) : W p l e R s m args below meth c H locs cells slots Q (F0 m pc ls (.ref a :: rest)) := by
  obtain ⟨hx, hb, -, -, -⟩ := S
  obtain ⟨g, h1, h2⟩ := th_arr hH ha hk
  exact W.alen hx hb h1 ((hK.2 t _ ht).1 n g) (by rw [arrV_size]; exact hv) rfl rfl hdg kk
theorem th_iast (S : CallFix p m c cc nL s args Ts own) (hK : va_K D classes (th_tys cT) s) (hH : th_H D cT T Ks H) (hS : va_S A H0 H locs) (hA : A a) {n : Nat} {el : Nat → th_F} (ha : T a = some k) (hk : Ks k = .inr (0, n, el)) {i x : Int32} (hin : vp_in i n) (hv : th_V T (el i.toNatClampNeg) (.int x)) (hdg : decode cc pc = .ok (.iastore, 1))
    (kk : ∀ (H1 : Heap) (locs1 : List Loc), th_H D cT T Ks H1 → va_S A H0 H1 locs1 → (∀ q : Nat, q ≠ a → H1[q]? = H[q]?) → W p l e R s m args below meth c H1 locs1 cells slots Q (F0 m (pc + 1) ls rest)) : W p l e R s m args below meth c H locs cells slots Q (F0 m pc ls (.int x :: .int i :: .ref a :: rest)) := by
  obtain ⟨hx, hb, -, -, -⟩ := S
  obtain ⟨g, h1, h2⟩ := th_arr hH ha hk
  exact W.iast hx hb h1 ((hK.2 0 _ rfl).1 n g) (fun q => by cases q) (th_size hin) rfl rfl hdg fun H1 e1 z oq => kk H1 _ (th_arrset hH ha hk h2 hv e1 oq) (hS.put z oq hA) oq
theorem th_last (S : CallFix p m c cc nL s args Ts own) (hK : va_K D classes (th_tys cT) s) (hH : th_H D cT T Ks H) (hS : va_S A H0 H locs) (hA : A a) {n : Nat} {el : Nat → th_F} (ha : T a = some k) (hk : Ks k = .inr (2, n, el)) {i : Int32} {x : Int64} (hin : vp_in i n) (hv : th_V T (el i.toNatClampNeg) (.long x)) (hdg : decode cc pc = .ok (.lastore, 1))
    (kk : ∀ (H1 : Heap) (locs1 : List Loc), th_H D cT T Ks H1 → va_S A H0 H1 locs1 → (∀ q : Nat, q ≠ a → H1[q]? = H[q]?) → W p l e R s m args below meth c H1 locs1 cells slots Q (F0 m (pc + 1) ls rest)) : W p l e R s m args below meth c H locs cells slots Q (F0 m pc ls (.long x :: .int i :: .ref a :: rest)) := by
  obtain ⟨hx, hb, -, -, -⟩ := S
  obtain ⟨g, h1, h2⟩ := th_arr hH ha hk
  exact W.last hx hb h1 ((hK.2 2 _ rfl).1 n g) (fun q => by cases q) (th_size hin) rfl rfl hdg fun H1 e1 z oq => kk H1 _ (th_arrset hH ha hk h2 hv e1 oq) (hS.put z oq hA) oq
theorem th_bast (S : CallFix p m c cc nL s args Ts own) (hK : va_K D classes (th_tys cT) s) (hH : th_H D cT T Ks H) (hS : va_S A H0 H locs) (hA : A a) {n : Nat} {el : Nat → th_F} (ha : T a = some k) (hk : Ks k = .inr (1, n, el)) {i x : Int32} (hin : vp_in i n) (hv : ∀ y : Int32, th_V T (el i.toNatClampNeg) (.int (vp_nar .byte y))) (hdg : decode cc pc = .ok (.bastore, 1))
    (kk : ∀ (H1 : Heap) (locs1 : List Loc), th_H D cT T Ks H1 → va_S A H0 H1 locs1 → (∀ q : Nat, q ≠ a → H1[q]? = H[q]?) → W p l e R s m args below meth c H1 locs1 cells slots Q (F0 m (pc + 1) ls rest)) : W p l e R s m args below meth c H locs cells slots Q (F0 m pc ls (.int x :: .int i :: .ref a :: rest)) := by
  obtain ⟨hx, hb, -, -, -⟩ := S
  obtain ⟨g, h1, h2⟩ := th_arr hH ha hk
  exact W.bast hx hb h1 ((hK.2 1 _ rfl).1 n g) (fun q => by cases q) (th_size hin) rfl rfl hdg fun H1 e1 z oq => kk H1 _ (th_arrset hH ha hk h2 (hv x) e1 oq) (hS.put z oq hA) oq
theorem th_zast (S : CallFix p m c cc nL s args Ts own) (hK : va_K D classes (th_tys cT) s) (hH : th_H D cT T Ks H) (hS : va_S A H0 H locs) (hA : A a) {n : Nat} {el : Nat → th_F} (ha : T a = some k) (hk : Ks k = .inr (3, n, el)) {i x : Int32} (hin : vp_in i n) (hv : ∀ y : Int32, th_V T (el i.toNatClampNeg) (.int (vp_nar .boolean y))) (hdg : decode cc pc = .ok (.bastore, 1))
    (kk : ∀ (H1 : Heap) (locs1 : List Loc), th_H D cT T Ks H1 → va_S A H0 H1 locs1 → (∀ q : Nat, q ≠ a → H1[q]? = H[q]?) → W p l e R s m args below meth c H1 locs1 cells slots Q (F0 m (pc + 1) ls rest)) : W p l e R s m args below meth c H locs cells slots Q (F0 m pc ls (.int x :: .int i :: .ref a :: rest)) := by
  obtain ⟨hx, hb, -, -, -⟩ := S
  obtain ⟨g, h1, h2⟩ := th_arr hH ha hk
  exact W.zast hx hb h1 ((hK.2 3 _ rfl).1 n g) (fun q => by cases q) (th_size hin) rfl rfl hdg fun H1 e1 z oq => kk H1 _ (th_arrset hH ha hk h2 (hv x) e1 oq) (hS.put z oq hA) oq
end THA
