theorem iv_c {x : Int32} {lo hi : Int} (h : lo ≤ x.toInt ∧ x.toInt ≤ hi) : IV x lo hi := h
theorem iv_and {x y : Int32} {h2 hi : Int} (b : IV y 0 h2) (q : h2 ≤ hi) : IV (x &&& y) 0 hi := by
  obtain ⟨b1, b2⟩ := b
  have hy : y.toInt = (y.toBitVec.toNat : Int) := by
    show y.toBitVec.toInt = _
    rw [BitVec.toInt_eq_toNat_cond]
    split
    · rfl
    · rename_i h
      have h3 : y.toInt = y.toBitVec.toInt := rfl
      rw [h3, BitVec.toInt_eq_toNat_cond, if_neg h] at b1
      have := y.toBitVec.isLt
      omega
  have hle : (x &&& y).toBitVec.toNat ≤ y.toBitVec.toNat := by
    rw [Int32.toBitVec_and, BitVec.toNat_and]
    exact Nat.and_le_right
  have hlt : y.toBitVec.toNat < 2 ^ 31 := by
    have := Int32.toInt_lt y
    omega
  have hz : (x &&& y).toInt = ((x &&& y).toBitVec.toNat : Int) := by
    show (x &&& y).toBitVec.toInt = _
    rw [BitVec.toInt_eq_toNat_cond, if_pos (by omega)]
  exact ⟨by rw [hz]; omega, by rw [hz]; omega⟩
theorem iv_andL {x y : Int32} {h1 hi : Int} (a : IV x 0 h1) (q : h1 ≤ hi) : IV (x &&& y) 0 hi := by rw [Int32.and_comm]; exact iv_and a q
theorem iv_byte (y : Int32) : IV (y.toInt8.toInt32) (-128) 127 := by
  have h : (y.toInt8.toInt32).toInt = y.toInt8.toInt := Int8.toInt_toInt32 _
  have h1 := Int8.le_toInt y.toInt8
  have h2 := Int8.toInt_lt y.toInt8
  exact ⟨by rw [h]; omega, by rw [h]; omega⟩
theorem iv_nbyte (y : Int32) : IV (vp_nar .byte y) (-128) 127 := iv_byte y
theorem iv_nbool (y : Int32) : IV (vp_nar .boolean y) 0 1 := iv_and (h2 := 1) (iv_c (by decide)) (by decide)
theorem iv_01 {x : Int32} (h : IV x 0 1) : x = 0 ∨ x = 1 := by
  rcases (show x.toInt = 0 ∨ x.toInt = 1 by have := h.1; have := h.2; omega) with q | q
  · exact Or.inl (Int32.toInt_inj.mp q)
  · exact Or.inr (Int32.toInt_inj.mp q)
theorem iv_eqc {x y : Int32} {n : Int} (a : IV x n n) (b : IV y n n) : x = y := Int32.toInt_inj.mp (by have := a.1; have := a.2; have := b.1; have := b.2; omega)
theorem th_nbool {x : Int32} (h : IV x 0 1) : narrow .boolean (.int x) = .int x := by
  rcases iv_01 h with rfl | rfl <;> rfl
theorem th_iv {T : Nat → Option Nat} {x : Int32} {lo hi : Int} (h : IV x lo hi) : th_V T (.inl (lo, hi)) (.int x) := ⟨x, rfl, h⟩
theorem th_rf {T : Nat → Option Nat} {a k : Nat} (h : T a = some k) : th_V T (.inr (k + 1)) (.ref a) := ⟨a, rfl, h⟩
theorem th_lg {T : Nat → Option Nat} (y : Int64) : th_V T (.inr 0) (.long y) := ⟨y, rfl⟩
section THE
variable {p : Program} {l : Launch} {e : Env} {R : Room} {s : State} {m : MethodId} {args : Array Value} {below : List Frame} {meth : Method} {c : Code} {H : Heap} {locs : List Loc}
variable {cc : ByteArray} {pc nL : Nat} {ls : Array Slot} {D : va_G} {cT : Nat → ClassId} {T : Nat → Option Nat} {Ks : Nat → th_K} {own : String} {Ts : List Cond} {post : Option Value → Prop} {wk : List Nat}
theorem th_end (hK : va_K D classes (th_tys cT) s) (hH : th_H D cT T Ks H) (hS : va_S (th_A T wk) s.heap H locs) {v : Option Value} (hp : post v) : ∀ t : State, t.heap = H → s.WarmedH t.vm → th_Q D cT T Ks post wk args s (.returned v) t :=
  fun _ ht hW => ⟨⟨v, rfl, hp, by rw [ht]; exact hH, va_K.moved hW.alike hK⟩, hS.F ht⟩
theorem th_iret (S : CallFix p m c cc nL s args Ts own) (hK : va_K D classes (th_tys cT) s) (hH : th_H D cT T Ks H) (hS : va_S (th_A T wk) s.heap H locs) (hr : meth.sig.returnType = some .int) (hlocks : meth.locks = false) {v : Int32} (hp : post (some (.int v))) (hdg : decode cc pc = .ok (.ireturn, 1)) : W p l e R s m args below meth c H locs 0 0 (MQ below (th_Q D cT T Ks post wk) args s 0 0 (th_A T wk)) (F0 m pc ls [.int v]) :=
  W.iret S.1 S.2.1 hr (th_end hK hH hS hp) hS.2.2 hdg hlocks
theorem th_zret (S : CallFix p m c cc nL s args Ts own) (hK : va_K D classes (th_tys cT) s) (hH : th_H D cT T Ks H) (hS : va_S (th_A T wk) s.heap H locs) (hr : meth.sig.returnType = some .boolean) (hlocks : meth.locks = false) {v : Int32} (hv : IV v 0 1) (hp : post (some (.int v))) (hdg : decode cc pc = .ok (.ireturn, 1)) : W p l e R s m args below meth c H locs 0 0 (MQ below (th_Q D cT T Ks post wk) args s 0 0 (th_A T wk)) (F0 m pc ls [.int v]) :=
  W.zret S.1 S.2.1 hr (th_nbool hv) (th_end hK hH hS hp) hS.2.2 hdg hlocks
theorem th_vret (S : CallFix p m c cc nL s args Ts own) (hK : va_K D classes (th_tys cT) s) (hH : th_H D cT T Ks H) (hS : va_S (th_A T wk) s.heap H locs) (hr : meth.sig.returnType = none) (hlocks : meth.locks = false) (hp : post none) (hdg : decode cc pc = .ok (.return_, 1)) : W p l e R s m args below meth c H locs 0 0 (MQ below (th_Q D cT T Ks post wk) args s 0 0 (th_A T wk)) (F0 m pc ls []) :=
  W.vret S.1 S.2.1 hr (th_end hK hH hS hp) hS.2.2 hdg hlocks
theorem th_lret (S : CallFix p m c cc nL s args Ts own) (hK : va_K D classes (th_tys cT) s) (hH : th_H D cT T Ks H) (hS : va_S (th_A T wk) s.heap H locs) (hr : meth.sig.returnType = some .long) (hlocks : meth.locks = false) {v : Int64} (hp : post (some (.long v))) (hdg : decode cc pc = .ok (.lreturn, 1)) : W p l e R s m args below meth c H locs 0 0 (MQ below (th_Q D cT T Ks post wk) args s 0 0 (th_A T wk)) (F0 m pc ls [.long v]) :=
  W.lret S.1 S.2.1 hr (th_end hK hH hS hp) hS.2.2 hdg hlocks
theorem th_aret (S : CallFix p m c cc nL s args Ts own) (hK : va_K D classes (th_tys cT) s) (hH : th_H D cT T Ks H) (hS : va_S (th_A T wk) s.heap H locs) {C : String} (hr : meth.sig.returnType = some (.object C)) (hlocks : meth.locks = false) {v : Nat} (hp : post (some (.ref v))) (hdg : decode cc pc = .ok (.areturn, 1)) : W p l e R s m args below meth c H locs 0 0 (MQ below (th_Q D cT T Ks post wk) args s 0 0 (th_A T wk)) (F0 m pc ls [.ref v]) :=
  W.aret S.1 S.2.1 hr (Or.inl ⟨_, rfl⟩) (Or.inr ⟨_, rfl⟩) (th_end hK hH hS hp) hS.2.2 hdg hlocks
end THE
theorem iv_n0 {y : Int32} {lo hi : Int} (a : IV y lo hi) (q : 1 ≤ lo) : ¬ y = 0 := by
  intro h
  have h1 := a.1
  rw [h] at h1
  have : (0 : Int32).toInt = 0 := rfl
  omega
theorem iv_n0n {y : Int32} {lo hi : Int} (a : IV y lo hi) (q : hi ≤ -1) : ¬ y = 0 := by
  intro h
  have h1 := a.2
  rw [h] at h1
  have : (0 : Int32).toInt = 0 := rfl
  omega
theorem iv_max {x y : Int32} {l1 h1 l2 h2 lo hi : Int} (a : IV x l1 h1) (b : IV y l2 h2) (q : (lo ≤ l1 ∨ lo ≤ l2) ∧ h1 ≤ hi ∧ h2 ≤ hi) : IV (if x < y then y else x) lo hi := by
  obtain ⟨a1, a2⟩ := a
  obtain ⟨b1, b2⟩ := b
  by_cases h : x < y
  · rw [if_pos h]
    have := iv_lt h
    exact ⟨by omega, by omega⟩
  · rw [if_neg h]
    have := iv_nlt h
    exact ⟨by omega, by omega⟩
theorem iv_min {x y : Int32} {l1 h1 l2 h2 lo hi : Int} (a : IV x l1 h1) (b : IV y l2 h2) (q : (h1 ≤ hi ∨ h2 ≤ hi) ∧ lo ≤ l1 ∧ lo ≤ l2) : IV (if y < x then y else x) lo hi := by
  obtain ⟨a1, a2⟩ := a
  obtain ⟨b1, b2⟩ := b
  by_cases h : y < x
  · rw [if_pos h]
    have := iv_lt h
    exact ⟨by omega, by omega⟩
  · rw [if_neg h]
    have := iv_nlt h
    exact ⟨by omega, by omega⟩
