theorem dp_step {q : Nat → Int} {a n d : Nat} (h : dp q a (n + 1) = some d) : ∃ e, dp q a n = some e := by
  unfold dp at h
  cases hd : dp q a n with
  | none => rw [hd] at h; simp at h
  | some e => exact ⟨e, rfl⟩
theorem dp_pre {q : Nat → Int} {a i : Nat} : ∀ (m : Nat) {d : Nat}, dp q a (i + m) = some d → ∃ e, dp q a i = some e
  | 0, d, h => ⟨d, h⟩
  | m + 1, _, h => by
    obtain ⟨e, he⟩ := dp_step (n := i + m) h
    exact dp_pre m he
theorem dp_next {q : Nat → Int} {a n e d : Nat} (h0 : dp q a n = some e) (h : dp q a (n + 1) = some d) : (q (1000 + (a + n)) = 126 → 1 ≤ e ∧ d = e) ∧ (q (1000 + (a + n)) ≠ 126 → 97 ≤ q (1000 + (a + n)) → q (1000 + (a + n)) ≤ 122 → e < 60 ∧ d = e + 1) ∧ (q (1000 + (a + n)) ≠ 126 → (q (1000 + (a + n)) < 97 ∨ 122 < q (1000 + (a + n))) → 2 ≤ e ∧ d + 1 = e) := by
  unfold dp at h
  rw [h0] at h
  simp only at h
  generalize hc : q (1000 + (a + n)) = c at h
  by_cases h1 : c = 126
  · rw [if_pos h1] at h
    refine ⟨fun _ => ?_, fun z => absurd h1 z, fun z => absurd h1 z⟩
    by_cases h2 : 1 ≤ e
    · rw [if_pos h2] at h
      exact ⟨h2, (Option.some.inj h).symm⟩
    · rw [if_neg h2] at h
      exact absurd h (by simp)
  · rw [if_neg h1] at h
    refine ⟨fun z => absurd z h1, fun _ => ?_, fun _ => ?_⟩
    · intro h3 h4
      rw [if_pos ⟨h3, h4⟩] at h
      by_cases h2 : e < 60
      · rw [if_pos h2] at h
        exact ⟨h2, (Option.some.inj h).symm⟩
      · rw [if_neg h2] at h
        exact absurd h (by simp)
    · intro h3
      rw [if_neg (by omega)] at h
      by_cases h2 : 2 ≤ e
      · rw [if_pos h2] at h
        have := Option.some.inj h
        exact ⟨h2, by omega⟩
      · rw [if_neg h2] at h
        exact absurd h (by simp)
/-- behind the codes from f to k the pile is n deep -/
def cinv (q : Nat → Int) (f n k : Int) : Prop := f ≤ k ∧ 0 ≤ n ∧ dp q f.toNat (k - f).toNat = some n.toNat
theorem cstep {q : Nat → Int} {f t n k c : Int} (h0 : 0 ≤ f) (hi : cinv q f n k) (hk : k < t) (hg : ∃ d, dp q f.toNat (t - f).toNat = some d) (hc : c = q (1000 + k.toNat)) : (c = 126 → 1 ≤ n ∧ cinv q f n (k + 1)) ∧ (c ≠ 126 → 97 ≤ c → c ≤ 122 → n ≤ 59 ∧ cinv q f (n + 1) (k + 1)) ∧ (c ≠ 126 → (c < 97 ∨ 122 < c) → 2 ≤ n ∧ cinv q f (n + -1) (k + 1)) := by
  obtain ⟨i1, i2, i3⟩ := hi
  obtain ⟨d, hd⟩ := hg
  have e1 : (t - f).toNat = ((k - f).toNat + 1) + (t - (k + 1)).toNat := by omega
  rw [e1] at hd
  obtain ⟨d2, hd2⟩ := dp_pre _ hd
  have h1 := dp_next i3 hd2
  have e2 : 1000 + (f.toNat + (k - f).toNat) = 1000 + k.toNat := by omega
  rw [e2, ← hc] at h1
  have e3 : (k + 1 - f).toNat = (k - f).toNat + 1 := by omega
  refine ⟨fun z => ?_, fun z z1 z2 => ?_, fun z z1 => ?_⟩
  · obtain ⟨a1, a2⟩ := h1.1 z
    exact ⟨by omega, by omega, i2, by rw [e3, hd2, a2]⟩
  · obtain ⟨a1, a2⟩ := h1.2.1 z z1 z2
    refine ⟨by omega, by omega, by omega, ?_⟩
    rw [e3, hd2, a2]
    congr 1
    omega
  · obtain ⟨a1, a2⟩ := h1.2.2 z z1
    refine ⟨by omega, by omega, by omega, ?_⟩
    rw [e3, hd2]
    congr 1
    omega
theorem cinv0 {q : Nat → Int} {f k : Int} (h : k = f) : cinv q f 0 k := by
  refine ⟨Int.le_of_eq h.symm, Int.le_refl _, ?_⟩
  have : (k - f).toNat = 0 := by omega
  rw [this]
  rfl
theorem rule_of {q : Nat → Int} {y : Int32} (hq : qkm q) (h : IV y 0 4) (hp : y.toInt < q 11 ∨ (y.toInt = 4 ∧ q 12 = 1)) : ∃ f t : Int, f = q (2400 + (5 * (q 10).toNat + y.toInt.toNat)) ∧ t = q (2410 + (5 * (q 10).toNat + y.toInt.toNat)) ∧ 0 ≤ f ∧ f ≤ t ∧ t ≤ 1120 ∧ ∃ d, dp q f.toNat (t - f).toNat = some d := by
  have h1 := qkm_10 hq
  have h2 := qkm_good hq
  have hr : rgood q (q 10).toNat y.toInt.toNat (560 * (q 10).toNat) (560 * q 10 + 560) := by
    rcases hp with hp | hp
    · exact h2.1 _ (by have := h.1; omega)
    · have := h2.2 hp.2
      have e : y.toInt.toNat = 4 := by omega
      rw [e]
      exact this
  obtain ⟨a1, a2, a3, d, a4⟩ := hr
  exact ⟨_, _, rfl, rfl, by omega, a2, by omega, d, a4⟩
theorem bits_lt {k x y : Int32} {n : Nat} (h : ¬ k = 0) (e1 : x = k &&& y) (e2 : y = k - 1) (hn : k.toBitVec.toNat < n + 1) : x.toBitVec.toNat < n := by
  have h1 : x.toBitVec = k.toBitVec &&& (k.toBitVec - 1#32) := by rw [e1, e2]; rfl
  have h2 : k.toBitVec.toNat ≠ 0 := fun z => h (Int32.toBitVec_inj.mp (BitVec.eq_of_toNat_eq (by rw [z]; rfl)))
  have h3 : (k.toBitVec - 1#32).toNat = k.toBitVec.toNat - 1 := by
    rw [BitVec.toNat_sub]
    have := k.toBitVec.isLt
    have e : (1#32).toNat = 1 := rfl
    rw [e]
    omega
  have h4 : k.toBitVec.toNat &&& (k.toBitVec - 1#32).toNat ≤ (k.toBitVec - 1#32).toNat := Nat.and_le_right
  rw [h1, BitVec.toNat_and]
  omega
theorem div_lt {x y r : Int32} (e : r = x - x / y * y) (hy : 0 < y.toInt) : r.toInt < y.toInt := by
  rw [e, iv_remE (l2 := 1) (h2 := y.toInt) ⟨hy, Int.le_refl _⟩ (by decide)]
  exact Int.tmod_lt_of_pos _ hy
theorem row_at {q qn : Nat → Int} {i : Int32} {z : Int} (e : qn = qup q (40 + i.toNatClampNeg) z) (hn : (i.toNatClampNeg : Int) = i.toInt) (w : Nat) : (i.toInt = w → qn (40 + w) = z) ∧ (i.toInt ≠ w → qn (40 + w) = q (40 + w)) := by
  refine ⟨fun h => ?_, fun h => ?_⟩
  · rw [e]; exact if_pos (by omega)
  · rw [e]; exact if_neg (by omega)
theorem row_rd {q : Nat → Int} {i x : Int32} (k : x.toInt = q (40 + i.toNatClampNeg)) (hn : (i.toNatClampNeg : Int) = i.toInt) (w : Nat) (h : i.toInt = w) : x.toInt = q (40 + w) := by
  rw [k]
  congr 1
  omega
