theorem lc_eq {x y : Int64} {n : Int32} (e : n = lg_cmp x y) (h : n.toInt = 0) : x.toInt = y.toInt := by
  unfold lg_cmp at e
  by_cases h1 : y < x
  · rw [if_pos h1] at e
    rw [e] at h
    exact absurd h (by decide)
  · rw [if_neg h1] at e
    by_cases h2 : x = y
    · rw [h2]
    · rw [if_neg h2] at e
      rw [e] at h
      exact absurd h (by decide)
theorem lc_ne {x y : Int64} {n : Int32} (e : n = lg_cmp x y) (h : n.toInt ≠ 0) : x.toInt ≠ y.toInt := by
  intro h2
  have h3 : x = y := Int64.toInt_inj.mp h2
  rw [h3] at e
  unfold lg_cmp at e
  rw [if_neg (Int64.lt_irrefl), if_pos rfl] at e
  rw [e] at h
  exact h rfl
theorem dp_step {q : Nat → Int} {a n d : Nat} (h : dp q a (n + 1) = some d) : ∃ e, dp q a n = some e := by
  unfold dp at h
  cases hd : dp q a n with
  | none => rw [hd] at h; simp at h
  | some e => exact ⟨e, rfl⟩
theorem dp_pre {q : Nat → Int} {a i : Nat} : ∀ (m : Nat) {d : Nat}, dp q a (i + m) = some d → ∃ e, dp q a i = some e
  | 0, d, h => ⟨d, h⟩
  | m + 1, _, h => by
    obtain ⟨e, he⟩ := dp_step (n := i + m) h
    exact dp_pre m he
theorem dp_next {q : Nat → Int} {a n e d : Nat} (h0 : dp q a n = some e) (h : dp q a (n + 1) = some d) : (q (1000 + (a + n)) = 126 → 1 ≤ e ∧ d = e) ∧ (q (1000 + (a + n)) ≠ 126 → 97 ≤ q (1000 + (a + n)) → q (1000 + (a + n)) ≤ 122 → e < 60 ∧ d = e + 1) ∧ (q (1000 + (a + n)) ≠ 126 → (q (1000 + (a + n)) < 97 ∨ 122 < q (1000 + (a + n))) → 2 ≤ e ∧ d + 1 = e) := by
  unfold dp at h
  rw [h0] at h
  simp only at h
  generalize hc : q (1000 + (a + n)) = c at h
  by_cases h1 : c = 126
  · rw [if_pos h1] at h
    refine ⟨fun _ => ?_, fun z => absurd h1 z, fun z => absurd h1 z⟩
    by_cases h2 : 1 ≤ e
    · rw [if_pos h2] at h
      exact ⟨h2, (Option.some.inj h).symm⟩
    · rw [if_neg h2] at h
      exact absurd h (by simp)
  · rw [if_neg h1] at h
    refine ⟨fun z => absurd z h1, fun _ => ?_, fun _ => ?_⟩
    · intro h3 h4
      rw [if_pos ⟨h3, h4⟩] at h
      by_cases h2 : e < 60
      · rw [if_pos h2] at h
        exact ⟨h2, (Option.some.inj h).symm⟩
      · rw [if_neg h2] at h
        exact absurd h (by simp)
    · intro h3
      rw [if_neg (by omega)] at h
      by_cases h2 : 2 ≤ e
      · rw [if_pos h2] at h
        have := Option.some.inj h
        exact ⟨h2, by omega⟩
      · rw [if_neg h2] at h
        exact absurd h (by simp)
/-- behind the codes from f to k the pile is n deep -/
def cinv (q : Nat → Int) (f n k : Int) : Prop := f ≤ k ∧ 0 ≤ n ∧ dp q f.toNat (k - f).toNat = some n.toNat
theorem cstep {q : Nat → Int} {f t n k c : Int} (h0 : 0 ≤ f) (hi : cinv q f n k) (hk : k < t) (hg : ∃ d, dp q f.toNat (t - f).toNat = some d) (hc : c = q (1000 + k.toNat)) : (c = 126 → 1 ≤ n ∧ cinv q f n (k + 1)) ∧ (c ≠ 126 → 97 ≤ c → c ≤ 122 → n ≤ 59 ∧ cinv q f (n + 1) (k + 1)) ∧ (c ≠ 126 → (c < 97 ∨ 122 < c) → 2 ≤ n ∧ cinv q f (n + -1) (k + 1)) := by
  obtain ⟨i1, i2, i3⟩ := hi
  obtain ⟨d, hd⟩ := hg
  have e1 : (t - f).toNat = ((k - f).toNat + 1) + (t - (k + 1)).toNat := by omega
  rw [e1] at hd
  obtain ⟨d2, hd2⟩ := dp_pre _ hd
  have h1 := dp_next i3 hd2
  have e2 : 1000 + (f.toNat + (k - f).toNat) = 1000 + k.toNat := by omega
  rw [e2, ← hc] at h1
  have e3 : (k + 1 - f).toNat = (k - f).toNat + 1 := by omega
  refine ⟨fun z => ?_, fun z z1 z2 => ?_, fun z z1 => ?_⟩
  · obtain ⟨a1, a2⟩ := h1.1 z
    exact ⟨by omega, by omega, i2, by rw [e3, hd2, a2]⟩
  · obtain ⟨a1, a2⟩ := h1.2.1 z z1 z2
    refine ⟨by omega, by omega, by omega, ?_⟩
    rw [e3, hd2, a2]
    congr 1
    omega
  · obtain ⟨a1, a2⟩ := h1.2.2 z z1
    refine ⟨by omega, by omega, by omega, ?_⟩
    rw [e3, hd2]
    congr 1
    omega
theorem cinv0 {q : Nat → Int} {f k : Int} (h : k = f) : cinv q f 0 k := by
  refine ⟨Int.le_of_eq h.symm, Int.le_refl _, ?_⟩
  have : (k - f).toNat = 0 := by omega
  rw [this]
  rfl
theorem rule_of {q : Nat → Int} {y : Int32} (hq : qkm q) (h : IV y 0 4) (hp : y.toInt < q 11 ∨ (y.toInt = 4 ∧ q 12 = 1)) : ∃ f t : Int, f = q (2400 + (5 * (q 10).toNat + y.toInt.toNat)) ∧ t = q (2410 + (5 * (q 10).toNat + y.toInt.toNat)) ∧ 0 ≤ f ∧ f ≤ t ∧ t ≤ 1120 ∧ ∃ d, dp q f.toNat (t - f).toNat = some d := by
  have h1 := qkm_10 hq
  have h2 := qkm_good hq
  have hr : rgood q (q 10).toNat y.toInt.toNat (560 * (q 10).toNat) (560 * q 10 + 560) := by
    rcases hp with hp | hp
    · exact h2.1 _ (by have := h.1; omega)
    · have := h2.2 hp.2
      have e : y.toInt.toNat = 4 := by omega
      rw [e]
      exact this
  obtain ⟨a1, a2, a3, d, a4⟩ := hr
  exact ⟨_, _, rfl, rfl, by omega, a2, by omega, d, a4⟩
theorem bits_lt {k x y : Int32} {n : Nat} (h : ¬ k = 0) (e1 : x = k &&& y) (e2 : y = k - 1) (hn : k.toBitVec.toNat < n + 1) : x.toBitVec.toNat < n := by
  have h1 : x.toBitVec = k.toBitVec &&& (k.toBitVec - 1#32) := by rw [e1, e2]; rfl
  have h2 : k.toBitVec.toNat ≠ 0 := fun z => h (Int32.toBitVec_inj.mp (BitVec.eq_of_toNat_eq (by rw [z]; rfl)))
  have h3 : (k.toBitVec - 1#32).toNat = k.toBitVec.toNat - 1 := by
    rw [BitVec.toNat_sub]
    have := k.toBitVec.isLt
    have e : (1#32).toNat = 1 := rfl
    rw [e]
    omega
  have h4 : k.toBitVec.toNat &&& (k.toBitVec - 1#32).toNat ≤ (k.toBitVec - 1#32).toNat := Nat.and_le_right
  rw [h1, BitVec.toNat_and]
  omega
theorem div_lt {x y r : Int32} (e : r = x - x / y * y) (hy : 0 < y.toInt) : r.toInt < y.toInt := by
  rw [e, iv_remE (l2 := 1) (h2 := y.toInt) ⟨hy, Int.le_refl _⟩ (by decide)]
  exact Int.tmod_lt_of_pos _ hy
theorem row_at {q qn : Nat → Int} {i : Int32} {z : Int} (e : qn = qup q (40 + i.toNatClampNeg) z) (hn : (i.toNatClampNeg : Int) = i.toInt) (w : Nat) : (i.toInt = w → qn (40 + w) = z) ∧ (i.toInt ≠ w → qn (40 + w) = q (40 + w)) := by
  refine ⟨fun h => ?_, fun h => ?_⟩
  · rw [e]; exact if_pos (by omega)
  · rw [e]; exact if_neg (by omega)
theorem row_rd {q : Nat → Int} {i x : Int32} (k : x.toInt = q (40 + i.toNatClampNeg)) (hn : (i.toNatClampNeg : Int) = i.toInt) (w : Nat) (h : i.toInt = w) : x.toInt = q (40 + w) := by
  rw [k]
  congr 1
  omega
def bt (x : Int32) (i : Nat) : Bool := x.toBitVec.getLsbD i
theorem b_ext {x y : Int32} (h : ∀ i, i < 32 → bt x i = bt y i) : x = y := Int32.toBitVec_inj.mp (BitVec.eq_of_getLsbD_eq (fun i hi => h i hi))
theorem b_and (x y : Int32) (i : Nat) : bt (x &&& y) i = (bt x i && bt y i) := by unfold bt; rw [Int32.toBitVec_and, BitVec.getLsbD_and]
theorem b_0 (i : Nat) : bt 0 i = false := BitVec.getLsbD_zero
theorem s_l : ∀ n, n < 32 → ((nI n &&& 31).toBitVec.smod 32).toNat = n := by decide +kernel
theorem b_sshr (n : Nat) (hn : n < 32) (x : Int32) {i : Nat} (hi : i < 32) : bt (x >>> (nI n &&& 31)) i = if n + i < 32 then bt x (n + i) else bt x 31 := by
  unfold bt
  rw [Int32.toBitVec_shiftRight]
  show (x.toBitVec.sshiftRight ((nI n &&& 31).toBitVec.smod 32).toNat).getLsbD i = _
  rw [s_l n hn, BitVec.getLsbD_sshiftRight, BitVec.msb_eq_getLsbD_last]
  simp [hi]
theorem b_one : ∀ i, i < 32 → bt 1 i = decide (i = 0) := by decide +kernel
/-- bits below p are none -/
def nobit (s : Int32) (p : Int) : Prop := ∀ j : Nat, (j : Int) < p → bt s j = false
theorem nobit0 (s : Int32) : nobit s 0 := fun j h => by omega
theorem nobit_next {s k : Int32} (h : nobit s k.toInt) (i : IV k 0 31) (hz : ¬ ((s >>> (k &&& 31)) &&& 1 = 1)) (hne : s.toInt ≠ 0) : nobit s (k.toInt + 1) ∧ k.toInt + 1 ≤ 31 := by
  obtain ⟨i1, i2⟩ := i
  obtain ⟨n, hn⟩ : ∃ n : Nat, (n : Int) = k.toInt := ⟨k.toInt.toNat, by omega⟩
  have hk : k = nI n := by
    have := Int32.ofInt_toInt k
    rw [← hn] at this
    exact this.symm
  have hn2 : n < 32 := by omega
  have hb : bt s n = false := by
    cases hb : bt s n with
    | false => rfl
    | true =>
      exfalso
      apply hz
      rw [hk]
      apply b_ext
      intro i hi
      rw [b_and, b_sshr n hn2 s hi, b_one i hi]
      by_cases h0 : i = 0
      · subst h0
        rw [if_pos (by omega)]
        simp [hb]
      · simp [h0]
  have h2 : nobit s (k.toInt + 1) := by
    intro j hj
    by_cases hj2 : (j : Int) < k.toInt
    · exact h j hj2
    · have : j = n := by omega
      rw [this]; exact hb
  refine ⟨h2, ?_⟩
  by_cases h3 : k.toInt + 1 ≤ 31
  · exact h3
  · exfalso
    apply hne
    have : s = 0 := b_ext (fun i hi => by rw [h2 i (by omega), b_0])
    rw [this]; rfl
/-! lands that are not eaten up -/
def AH (cT : Nat → ClassId) (H : Heap) (a : Nat) (g : Nat → Value) : Prop := H[a]? = some (arrV (cT 0) 43 g)
theorem AH_same {cT : Nat → ClassId} {H : Heap} {a : Nat} {g g2 : Nat → Value} (h : AH cT H a g) (h2 : AH cT H a g2) {i : Nat} (hi : i < 43) : g i = g2 i := by
  unfold AH at h h2
  have e : arrV (cT 0) 43 g = arrV (cT 0) 43 g2 := Option.some.inj (h.symm.trans h2)
  have r1 := arrV_read (cT 0) g hi
  have r2 := arrV_read (cT 0) g2 hi
  rw [e, r2] at r1
  exact (Option.some.inj r1).symm
noncomputable def nzv (v : Value) : Nat := @ite Nat (v = .int 0) (Classical.propDecidable _) 0 1
theorem nzv0 {v : Value} (h : v = .int 0) : nzv v = 0 := by unfold nzv; rw [if_pos h]
theorem nzv1 {v : Value} (h : v ≠ .int 0) : nzv v = 1 := by unfold nzv; rw [if_neg h]
noncomputable def nzg (g : Nat → Value) : Nat := nzv (g 15) + nzv (g 16) + nzv (g 17) + nzv (g 18) + nzv (g 19) + nzv (g 20) + nzv (g 21) + nzv (g 22)
theorem nzg_ext {g g2 : Nat → Value} (h : ∀ i, 15 ≤ i → i < 23 → g2 i = g i) : nzg g2 = nzg g := by
  unfold nzg
  rw [h 15 (by decide) (by decide), h 16 (by decide) (by decide), h 17 (by decide) (by decide), h 18 (by decide) (by decide), h 19 (by decide) (by decide), h 20 (by decide) (by decide), h 21 (by decide) (by decide), h 22 (by decide) (by decide)]
theorem nzg_up {g : Nat → Value} {b : Nat} (hb : b < 8) (v : Value) : nzg (updV g (15 + b) v) + nzv (g (15 + b)) = nzg g + nzv v := by
  match b, hb with
  | 0, _ => simp only [nzg, updV]; simp; omega
  | 1, _ => simp only [nzg, updV]; simp; omega
  | 2, _ => simp only [nzg, updV]; simp; omega
  | 3, _ => simp only [nzg, updV]; simp; omega
  | 4, _ => simp only [nzg, updV]; simp; omega
  | 5, _ => simp only [nzg, updV]; simp; omega
  | 6, _ => simp only [nzg, updV]; simp; omega
  | 7, _ => simp only [nzg, updV]; simp; omega
def nzAt (cT : Nat → ClassId) (H : Heap) (a : Nat) (p : Int) : Prop := ∃ g, AH cT H a g ∧ g (15 + p.toNat) ≠ .int 0
def bst (cT : Nat → ClassId) (H : Heap) (a N : Nat) (best : Int) : Prop := ∃ g, AH cT H a g ∧ nzg g = N ∧ (best < 0 ∨ g (15 + best.toNat) ≠ .int 0)
theorem AH_lt {cT : Nat → ClassId} {H : Heap} {a : Nat} {g : Nat → Value} (h : AH cT H a g) : a < H.size := by
  unfold AH at h
  exact (Array.getElem?_eq_some_iff.mp h).1
theorem AH_call {cT : Nat → ClassId} {T : Nat → Option Nat} {H H1 : Heap} {a : Nat} {wk : List Nat} {g : Nat → Value} (hF : ∀ q : Nat, q < H.size → ¬ th_A T wk q → H1[q]? = H[q]?) (ht : T a = some 33) (hw : 33 ∉ wk) (h : AH cT H a g) : AH cT H1 a g := by
  have := hF a (AH_lt h) (th_off ht hw)
  unfold AH at h ⊢
  rw [this]
  exact h
theorem bst_call {cT : Nat → ClassId} {T : Nat → Option Nat} {H H1 : Heap} {a N : Nat} {wk : List Nat} {best : Int} (hF : ∀ q : Nat, q < H.size → ¬ th_A T wk q → H1[q]? = H[q]?) (ht : T a = some 33) (hw : 33 ∉ wk) (h : bst cT H a N best) : bst cT H1 a N best := by
  obtain ⟨g, h1, h2, h3⟩ := h
  exact ⟨g, AH_call hF ht hw h1, h2, h3⟩
theorem nzAt_call {cT : Nat → ClassId} {T : Nat → Option Nat} {H H1 : Heap} {a : Nat} {wk : List Nat} {p : Int} (hF : ∀ q : Nat, q < H.size → ¬ th_A T wk q → H1[q]? = H[q]?) (ht : T a = some 33) (hw : 33 ∉ wk) (h : nzAt cT H a p) : nzAt cT H1 a p := by
  obtain ⟨g, h1, h2⟩ := h
  exact ⟨g, AH_call hF ht hw h1, h2⟩
theorem bst_of {cT : Nat → ClassId} {H : Heap} {a N : Nat} {b p : Int} (h : bst cT H a N b) (h2 : nzAt cT H a p) (hp : p < 8) : bst cT H a N p := by
  obtain ⟨g, a1, a2, a3⟩ := h
  obtain ⟨g2, b1, b2⟩ := h2
  refine ⟨g, a1, a2, Or.inr ?_⟩
  rw [AH_same a1 b1 (by omega)]
  exact b2
theorem bst_ex {D : va_G} {cT : Nat → ClassId} {T : Nat → Option Nat} {q : Nat → Int} {H : Heap} {a : Nat} (hH : th_H D cT T (km q) H) (ha : T a = some 33) : ∃ N, bst cT H a N (-1) := by
  obtain ⟨g, h1, _⟩ := th_arr hH ha km_33
  exact ⟨_, g, h1, rfl, Or.inl (by decide)⟩
theorem all_at {D : va_G} {cT : Nat → ClassId} {T : Nat → Option Nat} {q : Nat → Int} {H : Heap} {a : Nat} (hH : th_H D cT T (km q) H) (ha : T a = some 0) : ∃ b, T b = some 33 := by
  have h1 := hH a 0 ha
  rw [km_0] at h1
  obtain ⟨vs, h2, h3⟩ := h1
  obtain ⟨v, h4, h5⟩ := h3.2.1 52 _ rfl
  obtain ⟨b, _, hb⟩ := th_V.ref h5
  exact ⟨b, hb⟩
/-- what stands where n of a bite is chosen: n is left, or all that the place has -/
def bnn (cT : Nat → ClassId) (H : Heap) (a N : Nat) (best : Int) (w left : Int32) : Prop := ∃ (g : Nat → Value) (x : Int32), AH cT H a g ∧ nzg g = N ∧ g (15 + best.toNat) = .int x ∧ ¬ x = 0 ∧ (w = left ∨ w = x)
theorem bnn_l {cT : Nat → ClassId} {H : Heap} {a N : Nat} {best : Int} {left y : Int32} {i : Nat} (h : bst cT H a N best) (hb : 0 ≤ best) (hb2 : best < 8) (hr : ∃ g, AH cT H a g ∧ g i = .int y) (hi : i = 15 + best.toNat) : bnn cT H a N best left left ∧ bnn cT H a N best y left := by
  obtain ⟨g, h1, h2, h3⟩ := h
  obtain ⟨g2, r1, r2⟩ := hr
  have h4 : g (15 + best.toNat) = .int y := by
    rw [← hi, AH_same h1 r1 (by omega)]; exact r2
  have h5 : ¬ y = 0 := by
    intro e
    rcases h3 with h3 | h3
    · omega
    · exact h3 (by rw [h4, e])
  exact ⟨⟨g, y, h1, h2, h4, h5, Or.inl rfl⟩, ⟨g, y, h1, h2, h4, h5, Or.inr rfl⟩⟩
def lf (x : Int) : Nat := if 0 < x then 1 else 0
theorem bite_end {cT : Nat → ClassId} {H H1 H2 H3 : Heap} {a N : Nat} {best : Int} {w left x1 y1 left2 : Int32} {i1 i2 i3 : Nat} {v2 v3 : Value} (h : bnn cT H a N best w left) (hb : 0 ≤ best) (hb2 : best < 8) (hl : 0 < left.toInt) (hr : ∃ g, AH cT H a g ∧ g i1 = .int x1) (hi1 : i1 = 15 + best.toNat) (e1 : y1 = x1 - w) (hU1 : ∀ g, AH cT H a g → AH cT H1 a (updV g i1 (.int y1))) (hU2 : ∀ g, AH cT H1 a g → AH cT H2 a (updV g i2 v2)) (hi2 : 23 ≤ i2) (hU3 : ∀ g, AH cT H2 a g → AH cT H3 a (updV g i3 v3)) (hi3 : 23 ≤ i3) (e2 : left2 = left - w) : ∃ N2, bst cT H3 a N2 (-1) ∧ 2 * N2 + lf left2.toInt < 2 * N + lf left.toInt := by
  obtain ⟨g, x, g1, g2, g3, g4, g5⟩ := h
  obtain ⟨gr, r1, r2⟩ := hr
  have hx : x1 = x := by
    have h4 : g (15 + best.toNat) = .int x1 := by rw [← hi1, AH_same g1 r1 (by omega)]; exact r2
    rw [g3] at h4
    injection h4 with h5
    exact h5.symm
  have k1 := hU3 _ (hU2 _ (hU1 _ g1))
  refine ⟨_, ⟨_, k1, rfl, Or.inl (by decide)⟩, ?_⟩
  have n1 : nzg (updV (updV (updV g i1 (.int y1)) i2 v2) i3 v3) = nzg (updV g i1 (.int y1)) := nzg_ext (fun i a1 a2 => by
    simp only [updV]
    rw [if_neg (by omega), if_neg (by omega)])
  rw [n1, hi1]
  have n2 := nzg_up (g := g) (b := best.toNat) (by omega) (.int y1)
  have n3 : nzv (g (15 + best.toNat)) = 1 := nzv1 (by rw [g3]; intro e; injection e with e; exact g4 e)
  have l1 : lf left.toInt = 1 := if_pos hl
  have l2 : lf left2.toInt ≤ 1 := by unfold lf; split <;> omega
  have n4 : nzv (.int y1) ≤ 1 := by
    by_cases hz : (Value.int y1) = .int 0
    · rw [nzv0 hz]; decide
    · rw [nzv1 hz]; decide
  rcases g5 with hw | hw
  · have : left2.toInt = 0 := by rw [e2, hw, Int32.sub_self]; rfl
    have l3 : lf left2.toInt = 0 := by rw [this]; rfl
    omega
  · have : (Value.int y1) = .int 0 := by rw [e1, hw, hx, Int32.sub_self]
    have n5 := nzv0 this
    omega
section TEL
variable {p : Program} {l : Launch} {e : Env} {R : Room} {s : State} {m : MethodId} {args : Array Value} {below : List Frame} {meth : Method} {c : Code} {H : Heap} {locs : List Loc} {cells slots : Nat} {Q : State → Prop}
variable {cc : ByteArray} {pc nL : Nat} {ls : Array Slot} {rest : List Value} {D : va_G} {cT : Nat → ClassId} {T : Nat → Option Nat} {Ks : Nat → th_K} {A : Nat → Prop} {a k : Nat} {H0 : Heap} {own : String} {Ts : List Cond}
theorem th_ialdE (S : CallFix p m c cc nL s args Ts own) (hK : va_K D classes (th_tys cT) s) (hH : th_H D cT T Ks H) {el : Nat → th_F} (ha : T a = some k) (hk : Ks k = .inr (0, 43, el)) {i : Int32} (hin : vp_in i 43) (hdg : decode cc pc = .ok (.iaload, 1))
    (kk : ∀ v : Value, th_V T (el i.toNatClampNeg) v → (∃ g, AH cT H a g ∧ g i.toNatClampNeg = v) → W p l e R s m args below meth c H locs cells slots Q (F0 m (pc + 1) ls (v :: rest))) : W p l e R s m args below meth c H locs cells slots Q (F0 m pc ls (.int i :: .ref a :: rest)) := by
  obtain ⟨hx, hb, -, -, -⟩ := S
  obtain ⟨g, h1, h2⟩ := th_arr hH ha hk
  exact W.iald (v := g i.toNatClampNeg) hx hb h1 ((hK.2 0 _ rfl).1 43 g) (fun q => by cases q) (th_size hin) (arrV_read _ _ (th_lt hin)) rfl rfl hdg (kk _ (h2 _ (th_lt hin)) ⟨g, h1, rfl⟩)
theorem th_iastE (S : CallFix p m c cc nL s args Ts own) (hK : va_K D classes (th_tys cT) s) (hH : th_H D cT T Ks H) (hS : va_S A H0 H locs) (hA : A a) {el : Nat → th_F} (ha : T a = some k) (hk : Ks k = .inr (0, 43, el)) {i x : Int32} (hin : vp_in i 43) (hv : th_V T (el i.toNatClampNeg) (.int x)) (hdg : decode cc pc = .ok (.iastore, 1))
    (kk : ∀ (H1 : Heap) (locs1 : List Loc), th_H D cT T Ks H1 → va_S A H0 H1 locs1 → (∀ q : Nat, q ≠ a → H1[q]? = H[q]?) → (∀ g, AH cT H a g → AH cT H1 a (updV g i.toNatClampNeg (.int x))) → W p l e R s m args below meth c H1 locs1 cells slots Q (F0 m (pc + 1) ls rest)) : W p l e R s m args below meth c H locs cells slots Q (F0 m pc ls (.int x :: .int i :: .ref a :: rest)) := by
  obtain ⟨hx, hb, -, -, -⟩ := S
  obtain ⟨g, h1, h2⟩ := th_arr hH ha hk
  refine W.iast hx hb h1 ((hK.2 0 _ rfl).1 43 g) (fun q => by cases q) (th_size hin) rfl rfl hdg fun H1 e1 z oq => kk H1 _ (th_arrset hH ha hk h2 hv e1 oq) (hS.put z oq hA) oq (fun g2 hg2 => ?_)
  have e2 : arrV (cT 0) 43 g2 = arrV (cT 0) 43 g := Option.some.inj (hg2.symm.trans h1)
  unfold AH
  rw [e1, ← e2, arrV_store]
end TEL
theorem nzAt_of {cT : Nat → ClassId} {H : Heap} {a i : Nat} {x : Int32} {p : Int} (hm : ∃ g, AH cT H a g ∧ g i = .int x) (hi : i = 15 + p.toNat) (hx : ¬ x = 0) : nzAt cT H a p := by
  obtain ⟨g, h1, h2⟩ := hm
  refine ⟨g, h1, ?_⟩
  rw [← hi, h2]
  intro e
  injection e with e
  exact hx e
theorem nw_end {q q1 q2 q3 : Nat → Int} {m l i1 i2 i3 : Nat} {z0 z1 z2 : Int} (e1 : q1 = qup q (40 + i1) z0) (e2 : q2 = qup q1 (40 + i2) z1) (e3 : q3 = qup q2 (40 + i3) z2) (h1 : i1 = m) (h2 : i2 + 1 = m) (h3 : i3 = l) (hm : 1 ≤ m) (hl : m ≤ l) (hl3 : l ≤ 3) (hz0 : z0 = 0) (hz1 : z1 = q1 (40 + i2) + 1) (hz2 : z2 = q (40 + i1) - 1) (hp : 1 ≤ q (40 + i1)) (hr : 0 ≤ q 40 ∧ 0 ≤ q 41 ∧ 0 ≤ q 42 ∧ 0 ≤ q 43 ∧ q 40 + q 41 + q 42 + q 43 ≤ 24) : (0 ≤ q3 40 ∧ 0 ≤ q3 41 ∧ 0 ≤ q3 42 ∧ 0 ≤ q3 43 ∧ q3 40 + q3 41 + q3 42 + q3 43 ≤ 24) ∧ 15625 * q 40 + 625 * q 41 + 25 * q 42 + q 43 < 15625 * q3 40 + 625 * q3 41 + 25 * q3 42 + q3 43 := by
  subst h1
  subst h3
  obtain ⟨r0, r1, r2, r3, r4⟩ := hr
  have hi : i1 = 1 ∨ i1 = 2 ∨ i1 = 3 := by omega
  have hj : i3 = 1 ∨ i3 = 2 ∨ i3 = 3 := by omega
  rcases hi with hi | hi | hi
  · rcases hj with hj | hj | hj
    · have hk : i2 = 0 := by omega
      subst hi
      subst hj
      subst hk
      subst e3
      subst e2
      subst e1
      simp [qup] at hz1 hz2 hp ⊢
      omega
    · have hk : i2 = 0 := by omega
      subst hi
      subst hj
      subst hk
      subst e3
      subst e2
      subst e1
      simp [qup] at hz1 hz2 hp ⊢
      omega
    · have hk : i2 = 0 := by omega
      subst hi
      subst hj
      subst hk
      subst e3
      subst e2
      subst e1
      simp [qup] at hz1 hz2 hp ⊢
      omega
  · rcases hj with hj | hj | hj
    · omega
    · have hk : i2 = 1 := by omega
      subst hi
      subst hj
      subst hk
      subst e3
      subst e2
      subst e1
      simp [qup] at hz1 hz2 hp ⊢
      omega
    · have hk : i2 = 1 := by omega
      subst hi
      subst hj
      subst hk
      subst e3
      subst e2
      subst e1
      simp [qup] at hz1 hz2 hp ⊢
      omega
  · rcases hj with hj | hj | hj
    · omega
    · omega
    · have hk : i2 = 2 := by omega
      subst hi
      subst hj
      subst hk
      subst e3
      subst e2
      subst e1
      simp [qup] at hz1 hz2 hp ⊢
      omega
