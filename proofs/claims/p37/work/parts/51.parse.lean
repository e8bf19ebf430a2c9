/-! the reference reads a text -/
theorem and255 (x : Int32) : (x &&& 255).toInt = x.toInt % 256 := by
  have h1 : (x &&& 255).toBitVec = x.toBitVec &&& 255#32 := rfl
  have h2 : (x &&& 255).toInt = (x.toBitVec &&& 255#32).toInt := by rw [← h1]; rfl
  have h3 : x.toInt = x.toBitVec.toInt := rfl
  have h4 : (x.toBitVec &&& 255#32).toNat = x.toBitVec.toNat % 256 := by
    rw [BitVec.toNat_and]
    exact Nat.and_two_pow_sub_one_eq_mod x.toBitVec.toNat 8
  have h5 := x.toBitVec.isLt
  rw [h2, h3, BitVec.toInt_eq_toNat_cond, BitVec.toInt_eq_toNat_cond, h4]
  rw [if_pos (by omega)]
  by_cases h6 : 2 * x.toBitVec.toNat < 2 ^ 32
  · rw [if_pos h6]; omega
  · rw [if_neg h6]; omega
/-! the sign at k, 0 behind the text -/
theorem sg_ex : ∃ f : (Nat → Int) → Int → Int, ∀ q k, f q k = if k < q 26 then q (3000 + k.toNat) % 256 else 0 := ⟨_, fun _ _ => rfl⟩
noncomputable def sg : (Nat → Int) → Int → Int := Classical.choose sg_ex
theorem sg_def (q : Nat → Int) (k : Int) : sg q k = if k < q 26 then q (3000 + k.toNat) % 256 else 0 := Classical.choose_spec sg_ex q k
theorem sg_lt {q : Nat → Int} {k x : Int} (h : x = sg q k) (hx : x ≠ 0) : k < q 26 := by
  rw [sg_def] at h
  by_cases hk : k < q 26
  · exact hk
  · rw [if_neg hk] at h
    exact absurd h hx
theorem sg_fr {S : List Nat} {q q2 : Nat → Int} (h : fr S q q2) (h26 : 26 ∉ S) (hb : 1000 ∉ S) (hs : ∀ x ∈ S, x < 3000) (k : Int) : sg q2 k = sg q k := by
  rw [sg_def, sg_def, h 26 h26 (Or.inl (by decide)), h (3000 + k.toNat) (fun e => by have := hs _ e; omega) (Or.inr hb)]
theorem sg_at {q q2 : Nat → Int} {S : List Nat} {k k2 x : Int} (h : x = sg q2 k) (hf : fr S q q2) (h26 : 26 ∉ S) (hb : 1000 ∉ S) (hs : ∀ x ∈ S, x < 3000) (e : k = k2) : x = sg q k2 := by
  rw [h, sg_fr hf h26 hb hs, e]
theorem sg_eq {q : Nat → Int} {k k2 x : Int} (h : x = sg q k) (e : k = k2) : x = sg q k2 := by rw [h, e]
theorem or_lt64 {a b : BitVec 64} {k : Nat} (ha : a.toNat < 2 ^ k) (hb : b.toNat < 2 ^ k) : (a ||| b).toNat < 2 ^ k := by
  rw [BitVec.toNat_or]
  exact Nat.or_lt_two_pow ha hb
theorem pos64 {x : Int64} (h : x.toBitVec.toNat < 2 ^ 63) : x.toInt = x.toBitVec.toNat := by
  have h1 : x.toInt = x.toBitVec.toInt := rfl
  rw [h1, BitVec.toInt_eq_toNat_cond, if_pos (by omega)]
theorem nat64 {x : Int64} {k : Nat} (h0 : 0 ≤ x.toInt) (h : x.toInt < ((2 ^ k : Nat) : Int)) : x.toBitVec.toNat < 2 ^ k := by
  have h1 : x.toInt = x.toBitVec.toInt := rfl
  have h2 := x.toBitVec.isLt
  rw [h1, BitVec.toInt_eq_toNat_cond] at h0 h
  by_cases h3 : 2 * x.toBitVec.toNat < 2 ^ 64
  · rw [if_pos h3] at h; omega
  · rw [if_neg h3] at h0; omega
theorem name_step {y y2 y3 y4 : Int64} {r : Int32} (e4 : y4 = y2 ||| y3) (e2 : y2 = y <<< ((8 : Int32).toInt64 &&& 63)) (e3 : y3 = r.toInt64) (hr : IV r 0 255) : (y.toInt = 0 → 0 ≤ y4.toInt ∧ y4.toInt < 256) ∧ (0 ≤ y.toInt → y.toInt < 256 → 0 ≤ y4.toInt ∧ y4.toInt < 65536) := by
  have b3 : y3.toBitVec.toNat < 2 ^ 8 := by
    apply nat64
    · rw [e3, Int32.toInt_toInt64]; exact hr.1
    · rw [e3, Int32.toInt_toInt64]; have := hr.2; omega
  have s2 : y2.toBitVec = y.toBitVec <<< 8 := by
    rw [e2, Int64.toBitVec_shiftLeft]
    rfl
  have b4 : y4.toBitVec = y2.toBitVec ||| y3.toBitVec := by rw [e4]; rfl
  refine ⟨fun h => ?_, fun h0 h => ?_⟩
  · have hy : y.toBitVec.toNat < 2 ^ 0 := nat64 (by omega) (by omega)
    have h2 : y2.toBitVec.toNat < 2 ^ 8 := by
      rw [s2, BitVec.toNat_shiftLeft, Nat.shiftLeft_eq]
      omega
    have h4 := or_lt64 h2 b3
    rw [← b4] at h4
    have h5 := pos64 (x := y4) (by omega)
    omega
  · have hy : y.toBitVec.toNat < 2 ^ 8 := nat64 h0 h
    have h2 : y2.toBitVec.toNat < 2 ^ 16 := by
      rw [s2, BitVec.toNat_shiftLeft, Nat.shiftLeft_eq]
      omega
    have h4 := or_lt64 h2 (Nat.lt_of_lt_of_le b3 (by decide : 2 ^ 8 ≤ 2 ^ 16))
    rw [← b4] at h4
    have h5 := pos64 (x := y4) (by omega)
    omega
