theorem gm_1159 : Cond.constant RX10 262 100000 ∈ gw := gw_mem 1159 (by decide +kernel) (by decide +kernel)
theorem dX10_later_0 : decode cX10_later 0 = .ok (.iload_n 1, 1) := by decide +kernel
theorem dX10_later_1 : decode cX10_later 1 = .ok (.ifCond .lt 25, 3) := by decide +kernel
theorem dX10_later_4 : decode cX10_later 4 = .ok (.iload_n 1, 1) := by decide +kernel
theorem dX10_later_5 : decode cX10_later 5 = .ok (.sipush 1000, 3) := by decide +kernel
theorem dX10_later_8 : decode cX10_later 8 = .ok (.if_icmp .gt 18, 3) := by decide +kernel
theorem dX10_later_11 : decode cX10_later 11 = .ok (.aload_n 0, 1) := by decide +kernel
theorem dX10_later_12 : decode cX10_later 12 = .ok (.getfield 67, 3) := by decide +kernel
theorem dX10_later_15 : decode cX10_later 15 = .ok (.getfield 259, 3) := by decide +kernel
theorem dX10_later_18 : decode cX10_later 18 = .ok (.iload_n 1, 1) := by decide +kernel
theorem dX10_later_19 : decode cX10_later 19 = .ok (.iadd, 1) := by decide +kernel
theorem dX10_later_20 : decode cX10_later 20 = .ok (.ldc_w 262, 3) := by decide +kernel
theorem dX10_later_23 : decode cX10_later 23 = .ok (.if_icmp .le 5, 3) := by decide +kernel
theorem dX10_later_26 : decode cX10_later 26 = .ok (.iconst (-1), 1) := by decide +kernel
theorem dX10_later_27 : decode cX10_later 27 = .ok (.ireturn, 1) := by decide +kernel
theorem dX10_later_28 : decode cX10_later 28 = .ok (.aload_n 0, 1) := by decide +kernel
theorem dX10_later_29 : decode cX10_later 29 = .ok (.getfield 67, 3) := by decide +kernel
theorem dX10_later_32 : decode cX10_later 32 = .ok (.dup, 1) := by decide +kernel
theorem dX10_later_33 : decode cX10_later 33 = .ok (.getfield 259, 3) := by decide +kernel
theorem dX10_later_36 : decode cX10_later 36 = .ok (.iload_n 1, 1) := by decide +kernel
theorem dX10_later_37 : decode cX10_later 37 = .ok (.iadd, 1) := by decide +kernel
theorem dX10_later_38 : decode cX10_later 38 = .ok (.putfield 259, 3) := by decide +kernel
theorem dX10_later_41 : decode cX10_later 41 = .ok (.aload_n 0, 1) := by decide +kernel
theorem dX10_later_42 : decode cX10_later 42 = .ok (.getfield 67, 3) := by decide +kernel
theorem dX10_later_45 : decode cX10_later 45 = .ok (.getfield 259, 3) := by decide +kernel
theorem dX10_later_48 : decode cX10_later 48 = .ok (.ireturn, 1) := by decide +kernel
/-! the house that was read changes places with the one told -/
def swk (k : Nat) : Nat := if k = 3 then 46 else if k = 46 then 3 else if k = 9 then 56 else if k = 56 then 9 else if 15 ≤ k ∧ k < 20 then k + 42 else if 57 ≤ k ∧ k < 62 then k - 42 else if 20 ≤ k ∧ k < 29 then k + 27 else if 47 ≤ k ∧ k < 56 then k - 27 else k
theorem swk_hi {k : Nat} (h : 62 ≤ k) : swk k = k := by
  unfold swk
  rw [if_neg (by omega), if_neg (by omega), if_neg (by omega), if_neg (by omega), if_neg (by omega), if_neg (by omega), if_neg (by omega), if_neg (by omega)]
theorem swk_swk (k : Nat) : swk (swk k) = k := by
  by_cases h : k < 62
  · have : ∀ k, k < 62 → swk (swk k) = k := by decide +kernel
    exact this k h
  · have e := swk_hi (k := k) (by omega)
    rw [e, e]
def swT (T : Nat → Option Nat) : Nat → Option Nat := fun b => (T b).map swk
theorem swT_of {T : Nat → Option Nat} {b k : Nat} (h : T b = some k) : swT T b = some (swk k) := by unfold swT; rw [h]; rfl
theorem swT_to {T : Nat → Option Nat} {b j : Nat} (h : swT T b = some j) : T b = some (swk j) := by
  unfold swT at h
  cases e : T b with
  | none => rw [e] at h; cases h
  | some k =>
    rw [e] at h
    have h2 : swk k = j := Option.some.inj h
    rw [← h2, swk_swk]
theorem swT_none {T : Nat → Option Nat} {b : Nat} : swT T b ≠ none ↔ T b ≠ none := by
  unfold swT
  cases T b with
  | none => exact Iff.rfl
  | some k => exact ⟨fun _ z => (by cases z), fun _ z => (by cases z)⟩
def swF : th_F → th_F
  | .inl b => .inl b
  | .inr 0 => .inr 0
  | .inr (k + 1) => .inr (swk k + 1)
theorem th_V.sw {T : Nat → Option Nat} {f : th_F} {v : Value} (h : th_V T f v) : th_V (swT T) (swF f) v := by
  cases f with
  | inl b => exact h
  | inr n =>
    cases n with
    | zero => exact h
    | succ k =>
      obtain ⟨a, h1, h2⟩ := h
      exact ⟨a, h1, swT_of h2⟩
def swK : th_K → th_K
  | .inl o => .inl (o.1, o.2.1.map swF, o.2.2)
  | .inr r => .inr (r.1, r.2.1, fun j => swF (r.2.2 j))
theorem th_O.sw {T : Nat → Option Nat} {fs : List th_F} {R : List Value → Prop} {vs : List Value} (h : th_O T fs R vs) : th_O (swT T) (fs.map swF) R vs := by
  refine ⟨by rw [List.length_map]; exact h.1, fun j f hj => ?_, h.2.2⟩
  rw [List.getElem?_map] at hj
  cases e : fs[j]? with
  | none => rw [e] at hj; cases hj
  | some g =>
    rw [e] at hj
    have : swF g = f := Option.some.inj hj
    obtain ⟨v, h1, h2⟩ := h.2.1 j g e
    exact ⟨v, h1, by rw [← this]; exact h2.sw⟩
theorem th_C.sw {D : va_G} {cT : Nat → ClassId} {T : Nat → Option Nat} {kd : th_K} {H : Heap} {a : Nat} (h : th_C D cT T kd H a) : th_C D cT (swT T) (swK kd) H a := by
  cases kd with
  | inl o =>
    obtain ⟨vs, h1, h2⟩ := h
    exact ⟨vs, h1, h2.sw⟩
  | inr r =>
    obtain ⟨g, h1, h2⟩ := h
    exact ⟨g, h1, fun j hj => (h2 j hj).sw⟩
def tokS (T : Nat → Option Nat) : Prop := ∀ k ∈ [0, 2, 3, 4, 5, 7, 8, 46], ∀ a b, T a = some k → T b = some k → a = b
theorem tokS.tok {T : Nat → Option Nat} (h : tokS T) : tok T := fun k hk => h k (by simp only [List.mem_cons, List.not_mem_nil, or_false] at hk ⊢; omega)
theorem tokS.sw {T : Nat → Option Nat} (h : tokS T) : tokS (swT T) := fun k hk a b ha hb => h (swk k) (by
  have : ∀ k ∈ [0, 2, 3, 4, 5, 7, 8, 46], swk k ∈ [0, 2, 3, 4, 5, 7, 8, 46] := by decide
  exact this k hk) a b (swT_to ha) (swT_to hb)
/-- the numbers behind the change: those of the house that is read now -/
def q3 (q : Nat → Int) (x y z : Int) : Nat → Int := qup (qup (qup q 3 x) 4 y) 5 z
theorem kd_sw {q : Nat → Int} {x y z : Int} : ∀ k : Nat, k ≠ 0 → k ≠ 2 → k ≠ 4 → k ≠ 3 → k ≠ 46 → swK (kd q k) = kd (q3 q x y z) (swk k) := fun k h0 h2 h4 h3 h46 => match k, h0, h2, h4, h3, h46 with
  | 0, h, _, _, _, _ => absurd rfl h
  | 1, _, _, _, _, _ => rfl
  | 2, _, h, _, _, _ => absurd rfl h
  | 3, _, _, _, h, _ => absurd rfl h
  | 4, _, _, h, _, _ => absurd rfl h
  | 5, _, _, _, _, _ => rfl
  | 6, _, _, _, _, _ => rfl
  | 7, _, _, _, _, _ => rfl
  | 8, _, _, _, _, _ => rfl
  | 9, _, _, _, _, _ => rfl
  | 10, _, _, _, _, _ => rfl
  | 11, _, _, _, _, _ => rfl
  | 12, _, _, _, _, _ => rfl
  | 13, _, _, _, _, _ => rfl
  | 14, _, _, _, _, _ => rfl
  | 15, _, _, _, _, _ => rfl
  | 16, _, _, _, _, _ => rfl
  | 17, _, _, _, _, _ => rfl
  | 18, _, _, _, _, _ => rfl
  | 19, _, _, _, _, _ => rfl
  | 20, _, _, _, _, _ => rfl
  | 21, _, _, _, _, _ => rfl
  | 22, _, _, _, _, _ => rfl
  | 23, _, _, _, _, _ => rfl
  | 24, _, _, _, _, _ => rfl
  | 25, _, _, _, _, _ => rfl
  | 26, _, _, _, _, _ => rfl
  | 27, _, _, _, _, _ => rfl
  | 28, _, _, _, _, _ => rfl
  | 29, _, _, _, _, _ => rfl
  | 30, _, _, _, _, _ => rfl
  | 31, _, _, _, _, _ => rfl
  | 32, _, _, _, _, _ => rfl
  | 33, _, _, _, _, _ => rfl
  | 34, _, _, _, _, _ => rfl
  | 35, _, _, _, _, _ => rfl
  | 36, _, _, _, _, _ => rfl
  | 37, _, _, _, _, _ => rfl
  | 38, _, _, _, _, _ => rfl
  | 39, _, _, _, _, _ => rfl
  | 40, _, _, _, _, _ => rfl
  | 41, _, _, _, _, _ => rfl
  | 42, _, _, _, _, _ => rfl
  | 43, _, _, _, _, _ => rfl
  | 44, _, _, _, _, _ => rfl
  | 45, _, _, _, _, _ => rfl
  | 46, _, _, _, _, h => absurd rfl h
  | 47, _, _, _, _, _ => rfl
  | 48, _, _, _, _, _ => rfl
  | 49, _, _, _, _, _ => rfl
  | 50, _, _, _, _, _ => rfl
  | 51, _, _, _, _, _ => rfl
  | 52, _, _, _, _, _ => rfl
  | 53, _, _, _, _, _ => rfl
  | 54, _, _, _, _, _ => rfl
  | 55, _, _, _, _, _ => rfl
  | 56, _, _, _, _, _ => rfl
  | 57, _, _, _, _, _ => rfl
  | 58, _, _, _, _, _ => rfl
  | 59, _, _, _, _, _ => rfl
  | 60, _, _, _, _, _ => rfl
  | 61, _, _, _, _, _ => rfl
  | k + 62, _, _, _, _, _ => by rw [swk_hi (by omega)]; rfl
theorem sw_46 {T : Nat → Option Nat} {q : Nat → Int} {vs : List Value} (hq : qok q) (h : th_O T [.inr 48, .inr 49, .inr 50, .inr 51, .inr 52, .inr 53, .inr 54, .inr 55, .inr 56, .inr 57, .inr 11, .inl (q 3, q 3), .inl (q 4, q 4), .inl (q 5, q 5), .inl (-2147483648, 2147483647), .inl (-2147483648, 2147483647), .inl (0, 1), .inl (0, 1), .inl (0, 1)] (fun _ => True) vs) : th_O (swT T) [.inr 21, .inr 22, .inr 23, .inr 24, .inr 25, .inr 26, .inr 27, .inr 28, .inr 29, .inr 10, .inr 11, .inl (0, 3), .inl (0, 4), .inl (0, 8), .inl (-2147483648, 2147483647), .inl (-2147483648, 2147483647), .inl (0, 1), .inl (0, 1), .inl (0, 1)] (fun _ => True) vs := by
  refine th_O.mono h.sw rfl (fun j f1 f2 v h1 h2 _ hv => ?_)
  match j, h1, h2 with
  | 0, h1, h2 => cases h1; cases h2; exact hv
  | 1, h1, h2 => cases h1; cases h2; exact hv
  | 2, h1, h2 => cases h1; cases h2; exact hv
  | 3, h1, h2 => cases h1; cases h2; exact hv
  | 4, h1, h2 => cases h1; cases h2; exact hv
  | 5, h1, h2 => cases h1; cases h2; exact hv
  | 6, h1, h2 => cases h1; cases h2; exact hv
  | 7, h1, h2 => cases h1; cases h2; exact hv
  | 8, h1, h2 => cases h1; cases h2; exact hv
  | 9, h1, h2 => cases h1; cases h2; exact hv
  | 10, h1, h2 => cases h1; cases h2; exact hv
  | 11, h1, h2 => cases h1; cases h2; obtain ⟨x, e, i1, i2⟩ := hv; have := qok_3 hq; exact ⟨x, e, by have i1 : q 3 ≤ x.toInt := i1; show (0 : Int) ≤ x.toInt; omega, by have i2 : x.toInt ≤ q 3 := i2; show x.toInt ≤ 3; omega⟩
  | 12, h1, h2 => cases h1; cases h2; obtain ⟨x, e, i1, i2⟩ := hv; have := qok_4 hq; exact ⟨x, e, by have i1 : q 4 ≤ x.toInt := i1; show (0 : Int) ≤ x.toInt; omega, by have i2 : x.toInt ≤ q 4 := i2; show x.toInt ≤ 4; omega⟩
  | 13, h1, h2 => cases h1; cases h2; obtain ⟨x, e, i1, i2⟩ := hv; have := qok_5 hq; exact ⟨x, e, by have i1 : q 5 ≤ x.toInt := i1; show (0 : Int) ≤ x.toInt; omega, by have i2 : x.toInt ≤ q 5 := i2; show x.toInt ≤ 8; omega⟩
  | 14, h1, h2 => cases h1; cases h2; exact hv
  | 15, h1, h2 => cases h1; cases h2; exact hv
  | 16, h1, h2 => cases h1; cases h2; exact hv
  | 17, h1, h2 => cases h1; cases h2; exact hv
  | 18, h1, h2 => cases h1; cases h2; exact hv
  | j + 19, h1, _ => cases h1
theorem sw_3 {T : Nat → Option Nat} {q : Nat → Int} {vs : List Value} {x y z : Int32} (h : th_O T [.inr 21, .inr 22, .inr 23, .inr 24, .inr 25, .inr 26, .inr 27, .inr 28, .inr 29, .inr 10, .inr 11, .inl (0, 3), .inl (0, 4), .inl (0, 8), .inl (-2147483648, 2147483647), .inl (-2147483648, 2147483647), .inl (0, 1), .inl (0, 1), .inl (0, 1)] (fun _ => True) vs) (e1 : vs[11]? = some (.int x)) (e2 : vs[12]? = some (.int y)) (e3 : vs[13]? = some (.int z)) : th_O (swT T) [.inr 48, .inr 49, .inr 50, .inr 51, .inr 52, .inr 53, .inr 54, .inr 55, .inr 56, .inr 57, .inr 11, .inl ((q3 q x.toInt y.toInt z.toInt) 3, (q3 q x.toInt y.toInt z.toInt) 3), .inl ((q3 q x.toInt y.toInt z.toInt) 4, (q3 q x.toInt y.toInt z.toInt) 4), .inl ((q3 q x.toInt y.toInt z.toInt) 5, (q3 q x.toInt y.toInt z.toInt) 5), .inl (-2147483648, 2147483647), .inl (-2147483648, 2147483647), .inl (0, 1), .inl (0, 1), .inl (0, 1)] (fun _ => True) vs := by
  refine th_O.mono h.sw rfl (fun j f1 f2 v h1 h2 h3 hv => ?_)
  match j, h1, h2, h3 with
  | 0, h1, h2, _ => cases h1; cases h2; exact hv
  | 1, h1, h2, _ => cases h1; cases h2; exact hv
  | 2, h1, h2, _ => cases h1; cases h2; exact hv
  | 3, h1, h2, _ => cases h1; cases h2; exact hv
  | 4, h1, h2, _ => cases h1; cases h2; exact hv
  | 5, h1, h2, _ => cases h1; cases h2; exact hv
  | 6, h1, h2, _ => cases h1; cases h2; exact hv
  | 7, h1, h2, _ => cases h1; cases h2; exact hv
  | 8, h1, h2, _ => cases h1; cases h2; exact hv
  | 9, h1, h2, _ => cases h1; cases h2; exact hv
  | 10, h1, h2, _ => cases h1; cases h2; exact hv
  | 11, h1, h2, h3 => cases h1; cases h2; cases e1.symm.trans h3; exact ⟨_, rfl, Int.le_refl _, Int.le_refl _⟩
  | 12, h1, h2, h3 => cases h1; cases h2; cases e2.symm.trans h3; exact ⟨_, rfl, Int.le_refl _, Int.le_refl _⟩
  | 13, h1, h2, h3 => cases h1; cases h2; cases e3.symm.trans h3; exact ⟨_, rfl, Int.le_refl _, Int.le_refl _⟩
  | 14, h1, h2, _ => cases h1; cases h2; exact hv
  | 15, h1, h2, _ => cases h1; cases h2; exact hv
  | 16, h1, h2, _ => cases h1; cases h2; exact hv
  | 17, h1, h2, _ => cases h1; cases h2; exact hv
  | 18, h1, h2, _ => cases h1; cases h2; exact hv
  | j + 19, h1, _, _ => cases h1
theorem th_swap {D : va_G} {cT : Nat → ClassId} {T : Nat → Option Nat} {q : Nat → Int} {H H3 : Heap} {a0 r2 en x3 x46 : Nat} {vs0 vsr vse : List Value} (hH : th_H D cT T (kd q) H) (hq : qok q) (tS : tokS T) (t0 : T a0 = some 0) (tr : T r2 = some 2) (te : T en = some 4) (t3 : T x3 = some 3) (t46 : T x46 = some 46)
    (R0 : va_at D classes (a0, .inr (10, vs0.set 2 (.ref x46))) H3) (o0 : th_O T [.inr 2, .inr 3, .inr 4, .inr 5, .inr 6, .inr 7, .inr 8, .inr 9, .inr 34, .inl (-2147483648, 2147483647)] (fun _ => True) vs0) (Rr : va_at D classes (r2, .inr (6, vsr.set 1 (.ref x3))) H3) (or2 : th_O T [.inr 2, .inr 47, .inl (-2147483648, 2147483647), .inl (-2147483648, 2147483647), .inl (-2147483648, 2147483647), .inl (-2147483648, 2147483647)] (fun _ => True) vsr) (Re : va_at D classes (en, .inr (0, vse.set 0 (.ref x46))) H3) (oe : th_O T [.inr 4] (fun _ => True) vse) (hk : ∀ b, b ≠ a0 → b ≠ r2 → b ≠ en → H3[b]? = H[b]?) :
    ∃ q2, qok q2 ∧ (q2 0 = q 0 ∧ q2 1 = q 1 ∧ q2 2 = q 2 ∧ q2 6 = q 6) ∧ th_H D cT (swT T) (kd q2) H3 := by
  obtain ⟨vs3, R3, o3⟩ : ∃ vs, va_at D classes (x3, .inr (4, vs)) H ∧ th_O T [.inr 21, .inr 22, .inr 23, .inr 24, .inr 25, .inr 26, .inr 27, .inr 28, .inr 29, .inr 10, .inr 11, .inl (0, 3), .inl (0, 4), .inl (0, 8), .inl (-2147483648, 2147483647), .inl (-2147483648, 2147483647), .inl (0, 1), .inl (0, 1), .inl (0, 1)] (fun _ => True) vs := hH x3 3 t3
  obtain ⟨v1, e1, x, rfl, ix⟩ := o3.2.1 11 _ rfl
  obtain ⟨v2, e2, y, rfl, iy⟩ := o3.2.1 12 _ rfl
  obtain ⟨v3, e3, z, rfl, iz⟩ := o3.2.1 13 _ rfl
  refine ⟨q3 q x.toInt y.toInt z.toInt, qup_ok5 (qup_ok4 (qup_ok3 hq ix) iy) iz, ⟨rfl, rfl, rfl, rfl⟩, fun b j hb => ?_⟩
  have hT := swT_to hb
  by_cases b0 : b = a0
  · have hj : swk j = 0 := Option.some.inj (hT.symm.trans (by rw [b0]; exact t0))
    have hj2 : j = 0 := by rw [← swk_swk j, hj]; rfl
    rw [b0, hj2]
    exact ⟨_, R0, th_O.sub (fs2 := [.inr 2, .inr 3, .inr 4, .inr 5, .inr 6, .inr 7, .inr 8, .inr 9, .inr 34, .inl (-2147483648, 2147483647)]) o0.sw (j := 2) (f := .inr 4) rfl ⟨x46, rfl, swT_of t46⟩ rfl (fun i hi => match i, hi with | 0, _ => rfl | 1, _ => rfl | 2, h => absurd rfl h | 3, _ => rfl | 4, _ => rfl | 5, _ => rfl | 6, _ => rfl | 7, _ => rfl | 8, _ => rfl | 9, _ => rfl | _ + 10, _ => rfl)⟩
  by_cases br : b = r2
  · have hj : swk j = 2 := Option.some.inj (hT.symm.trans (by rw [br]; exact tr))
    have hj2 : j = 2 := by rw [← swk_swk j, hj]; rfl
    rw [br, hj2]
    exact ⟨_, Rr, th_O.sub (fs2 := [.inr 2, .inr 47, .inl (-2147483648, 2147483647), .inl (-2147483648, 2147483647), .inl (-2147483648, 2147483647), .inl (-2147483648, 2147483647)]) or2.sw (j := 1) (f := .inr 47) rfl ⟨x3, rfl, swT_of t3⟩ rfl (fun i hi => match i, hi with | 0, _ => rfl | 1, h => absurd rfl h | 2, _ => rfl | 3, _ => rfl | 4, _ => rfl | 5, _ => rfl | _ + 6, _ => rfl)⟩
  by_cases be : b = en
  · have hj : swk j = 4 := Option.some.inj (hT.symm.trans (by rw [be]; exact te))
    have hj2 : j = 4 := by rw [← swk_swk j, hj]; rfl
    rw [be, hj2]
    exact ⟨_, Re, th_O.sub (fs2 := [.inr 4]) oe.sw (j := 0) (f := .inr 4) rfl ⟨x46, rfl, swT_of t46⟩ rfl (fun i hi => match i, hi with | 0, h => absurd rfl h | _ + 1, _ => rfl)⟩
  have n0 : swk j ≠ 0 := fun e => b0 (tS 0 (by decide) _ _ (by rw [← e]; exact hT) t0)
  have n2 : swk j ≠ 2 := fun e => br (tS 2 (by decide) _ _ (by rw [← e]; exact hT) tr)
  have n4 : swk j ≠ 4 := fun e => be (tS 4 (by decide) _ _ (by rw [← e]; exact hT) te)
  have hC := (hH b _ hT).kept (hk b b0 br be)
  by_cases k3 : swk j = 3
  · have hb3 : b = x3 := tS 3 (by decide) _ _ (by rw [← k3]; exact hT) t3
    have hj2 : j = 46 := by rw [← swk_swk j, k3]; rfl
    rw [hj2, hb3]
    exact ⟨vs3, R3.kept (by rw [← hb3]; exact hk b b0 br be), sw_3 o3 e1 e2 e3⟩
  by_cases k46 : swk j = 46
  · have hj2 : j = 3 := by rw [← swk_swk j, k46]; rfl
    rw [k46] at hC
    obtain ⟨vs, h1, h2⟩ : ∃ vs, va_at D classes (b, .inr (4, vs)) H3 ∧ th_O T [.inr 48, .inr 49, .inr 50, .inr 51, .inr 52, .inr 53, .inr 54, .inr 55, .inr 56, .inr 57, .inr 11, .inl (q 3, q 3), .inl (q 4, q 4), .inl (q 5, q 5), .inl (-2147483648, 2147483647), .inl (-2147483648, 2147483647), .inl (0, 1), .inl (0, 1), .inl (0, 1)] (fun _ => True) vs := hC
    rw [hj2]
    exact ⟨vs, h1, sw_46 hq h2⟩
  have h5 := hC.sw
  rw [kd_sw (x := x.toInt) (y := y.toInt) (z := z.toInt) _ n0 n2 n4 k3 k46, swk_swk] at h5
  exact h5
/-- behind later -/
def th_QL (D : va_G) (cT : Nat → ClassId) (T : Nat → Option Nat) (E : Int32 → (Nat → Int) → Prop) (wk : List Nat) : Array Value → State → Outcome → State → Prop := fun _ st oc t => (∃ (r : Int32) (q2 : Nat → Int), oc = .returned (some (.int r)) ∧ E r q2 ∧ th_W D cT T (kd q2) t) ∧ va_F (th_A T wk) st t
set_option maxRecDepth 100000 in
theorem m_X10_later (l : Launch) (D : va_G) (cT : Nat → ClassId) (T : Nat → Option Nat) (q : Nat → Int) (hT : tok T) (hqr : qokr q) (a0 : Nat) (t0 : T a0 = some 0) (y1 : Int32) : Met l yX10_later (Cond.code yX10_later cX10_later 2 (some .int) :: gw) (rmk 0 0) (va_Pc [.ref a0, .int y1] (th_W D cT T (kd q))) (th_QL D cT T (fun r q2 => qokr q2 ∧ ((r.toInt = -1 ∧ q2 0 = q 0 ∧ (y1.toInt < 0 ∨ 1000 < y1.toInt ∨ 100000 < q 0 + y1.toInt)) ∨ (0 ≤ y1.toInt ∧ y1.toInt ≤ 1000 ∧ q 0 + y1.toInt ≤ 100000 ∧ r.toInt = q 0 + y1.toInt ∧ q2 0 = r.toInt))) [8]) 0 0 (th_A T [8]) := by
  refine Met.ofW (cc := cX10_later) (maxL := 2) (ret := some .int) (by decide) rfl ?_
  intro p e s m args below meth c s₁ B hml hv
  obtain ⟨rfl, hH, hK⟩ := hv
  have hts := atoms_spec (ws := Cond.code yX10_later cX10_later 2 (some .int) :: gw) B.pre
  rw [lg_entry_eq]
  have S : CallFix p m c cX10_later 2 s [Value.ref a0, .int y1].toArray gw yX10_later.cls := ⟨B.exec, B.bytes, hml, findClass_of_methodNamed B.named, fun w hw => hts w (List.mem_cons_of_mem _ hw)⟩
  have hr := B.returns; have hlocks := B.notSynchronized
  have hl := lv_entry ([.ref a0, .int y1]) (n := 2) (Nat.le_of_ble_eq_true rfl)
  generalize (lg_sl ([.ref a0, .int y1]) ++ List.replicate (2 - (lg_sl ([.ref a0, .int y1])).length) Slot.unset).toArray = ls at hl ⊢
  have hl : lv_has ls 2 [(0, .ref a0), (1, .int y1)] := hl
  have hx := S.1; have hb := S.2.1
  have hq := hqr.1; have b0 := qok_0 hq
  have hS : va_S (th_A T [8]) s.heap s.heap [] := va_S.rf
  have e1000 : (1000 : Int32).toInt = 1000 := by decide
  have eL : (100000 : Int32).toInt = 100000 := by decide
  have e00 : (0 : Int32).toInt = 0 := by decide
  have hno : (y1.toInt < 0 ∨ 1000 < y1.toInt ∨ 100000 < q 0 + y1.toInt) → W p l e (rmk 0 0) s m [Value.ref a0, .int y1].toArray below meth c s.heap [] 0 0 (MQ below (th_QL D cT T (fun r q2 => qokr q2 ∧ ((r.toInt = -1 ∧ q2 0 = q 0 ∧ (y1.toInt < 0 ∨ 1000 < y1.toInt ∨ 100000 < q 0 + y1.toInt)) ∨ (0 ≤ y1.toInt ∧ y1.toInt ≤ 1000 ∧ q 0 + y1.toInt ≤ 100000 ∧ r.toInt = q 0 + y1.toInt ∧ q2 0 = r.toInt))) [8]) [Value.ref a0, .int y1].toArray s 0 0 (th_A T [8])) (F0 m 26 ls []) := fun hh => by
    refine lv_iconst (v := (-1)) hx hb dX10_later_26 (by decide) ?_
    exact W.iret hx hb hr (fun _ ht hW => ⟨⟨_, q, rfl, ⟨hqr, Or.inl ⟨by decide, rfl, hh⟩⟩, by rw [ht]; exact hH, va_K.moved hW.alike hK⟩, hS.F ht⟩) hS.2.2 dX10_later_27 hlocks
  refine lv_iload_n hx hb dX10_later_0 rfl (lv_at hl 1 rfl) ?_
  refine lv_if_lt (tgt := 26) hx hb dX10_later_1 (by decide) (fun c1 => hno (Or.inl (by have := iv_lt c1; omega))) (fun c1 => ?_)
  have g1 := iv_nlt c1
  refine lv_iload_n hx hb dX10_later_4 rfl (lv_at hl 1 rfl) ?_
  refine lv_sipush (v := 1000) hx hb dX10_later_5 (by decide) ?_
  refine lv_icmp_gt (tgt := 26) hx hb dX10_later_8 (by decide) (fun c2 => hno (Or.inr (Or.inl (by have := iv_lt c2; omega)))) (fun c2 => ?_)
  have g2 := iv_nlt c2
  refine lv_aload_n hx hb dX10_later_11 rfl (lv_at hl 0 rfl) ?_
  refine th_get S hK hH inG10 t0 kd_0 rfl 7 (by decide) gm_512 rfl rfl dX10_later_12 (fun v1 hv1 fv1 => ?_)
  obtain ⟨tr, rfl, ttr⟩ := th_V.ref hv1
  refine th_get S hK hH inG9 ttr kd_8 rfl 7 (by decide) gm_484 rfl rfl dX10_later_15 (fun v2 hv2 fv2 => ?_)
  obtain ⟨x, rfl, ix1, ix2⟩ := th_V.int hv2
  have kx : x.toInt = q 0 := Int.le_antisymm ix2 ix1
  refine lv_iload_n hx hb dX10_later_18 rfl (lv_at hl 1 rfl) ?_
  refine lv_iadd hx hb dX10_later_19 ?_
  refine lv_topi (fun z ez => ?_)
  have uz : z.toInt = x.toInt + y1.toInt := by rw [ez]; exact iv_addE (by omega)
  refine lv_ldcw (v := 100000) hx hb S.2.2.2.1 (S.2.2.2.2 _ gm_1159) dX10_later_20 ?_
  refine lv_icmp_le (tgt := 28) hx hb dX10_later_23 (by decide) (fun c3 => ?_) (fun c3 => hno (Or.inr (Or.inr (by have := iv_nle c3; omega))))
  have g3 := iv_le c3
  refine lv_aload_n hx hb dX10_later_28 rfl (lv_at hl 0 rfl) ?_
  refine th_getK S hK fv1 inG10 rfl (by decide) gm_512 rfl dX10_later_29 ?_
  refine lv_dup hx hb dX10_later_32 rfl ?_
  refine th_getK S hK fv2 inG9 rfl (by decide) gm_484 rfl dX10_later_33 ?_
  refine lv_iload_n hx hb dX10_later_36 rfl (lv_at hl 1 rfl) ?_
  refine lv_iadd hx hb dX10_later_37 ?_
  refine lv_topi (fun z2 ez2 => ?_)
  have uz2 : z2.toInt = x.toInt + y1.toInt := by rw [ez2]; exact iv_addE (by omega)
  obtain ⟨n1, en1⟩ : ∃ n : Int, n = z2.toInt := ⟨_, rfl⟩
  refine th_putX (Ks2 := kd (qup q 0 n1)) S hK hH hS ⟨8, by decide, ttr⟩ inG9 tyX9 tyX9_ok nmX9 ttr (fun b hb => hT 8 (by decide) _ _ hb ttr) kd_8 kd_8 (kd_up0 _ _) rfl 7 (by decide) gm_484 rfl rfl rfl rfl (fun i hi => match i, hi with | 0, _ => rfl | 1, _ => rfl | 2, _ => rfl | 3, _ => rfl | 4, _ => rfl | 5, _ => rfl | 6, _ => rfl | 7, h => absurd rfl h | _ + 8, _ => rfl) (Nat.le_of_ble_eq_true rfl) (th_selfE en1) (ty := .int) (by decide +kernel) rfl rfl dX10_later_38 (fun H locs hH hS hq1 => ?_)
  refine lv_aload_n hx hb dX10_later_41 rfl (lv_at hl 0 rfl) ?_
  refine th_get S hK hH inG10 t0 kd_0 rfl 7 (by decide) gm_512 rfl rfl dX10_later_42 (fun v3 hv3 fv3 => ?_)
  obtain ⟨tr2, rfl, ttr2⟩ := th_V.ref hv3
  refine th_get S hK hH inG9 ttr2 kd_8 rfl 7 (by decide) gm_484 rfl rfl dX10_later_45 (fun v4 hv4 fv4 => ?_)
  obtain ⟨x4, rfl, ix3, ix4⟩ := th_V.int hv4
  have kx4 : x4.toInt = n1 := Int.le_antisymm ix4 ix3
  exact W.iret hx hb hr (fun _ ht hW => ⟨⟨x4, qup q 0 n1, rfl, ⟨⟨qup_ok0 hq ⟨by omega, by omega⟩, hqr.2⟩, Or.inr ⟨by omega, by omega, by omega, by omega, by show n1 = x4.toInt; omega⟩⟩, by rw [ht]; exact hH, va_K.moved hW.alike hK⟩, hS.F ht⟩) hS.2.2 dX10_later_48 hlocks
