theorem iv_tmodS (a b : Int) (hb : 0 < b) : (0 ≤ a → 0 ≤ a.tmod b ∧ a.tmod b ≤ a) ∧ (a < 0 → a ≤ a.tmod b ∧ a.tmod b ≤ 0) := by
  have key : ∀ c : Int, 0 ≤ c → 0 ≤ c.tmod b ∧ c.tmod b ≤ c := by
    intro c hc
    have h1 := Int.tmod_nonneg b hc
    have h2 := Int.natAbs_tmod c b
    have h3 := Nat.mod_le c.natAbs b.natAbs
    exact ⟨h1, by omega⟩
  refine ⟨key a, fun h => ?_⟩
  have h1 := key (-a) (by omega)
  have h2 : (-a).tmod b = -(a.tmod b) := Int.neg_tmod a b
  rw [h2] at h1
  exact ⟨by omega, by omega⟩
theorem iv_remE {x y : Int32} {l2 h2 : Int} (b : IV y l2 h2) (q : 1 ≤ l2) : (x - x / y * y).toInt = x.toInt.tmod y.toInt := by
  have b1 := b.1
  have e1 : (x / y).toInt = x.toInt.tdiv y.toInt := Int32.toInt_div_of_ne_right _ _ (by
    intro h
    rw [h] at b1
    have : (-1 : Int32).toInt = -1 := rfl
    omega)
  have e2 : x.toInt.tmod y.toInt = x.toInt - y.toInt * x.toInt.tdiv y.toInt := Int.tmod_def _ _
  have e3 : y.toInt * x.toInt.tdiv y.toInt = x.toInt.tdiv y.toInt * y.toInt := Int.mul_comm _ _
  have hx := iv_top x
  have hs := iv_tmodS x.toInt y.toInt (by omega)
  have hx1 := hx.1
  have hx2 := hx.2
  have e4 : (x / y * y).toInt = x.toInt.tdiv y.toInt * y.toInt := by
    rw [iv_mulE (by
      rw [e1]
      by_cases h : 0 ≤ x.toInt
      · have := hs.1 h; omega
      · have := hs.2 (by omega); omega), e1]
  rw [iv_subE (by
    rw [e4]
    by_cases h : 0 ≤ x.toInt
    · have := hs.1 h; omega
    · have := hs.2 (by omega); omega), e4, e2]
  omega
theorem iv_rm {x y : Int32} {h1 l2 h2 hi : Int} (a : IV x 0 h1) (b : IV y l2 h2) (q : 1 ≤ l2 ∧ h2 - 1 ≤ hi) : IV (x - x / y * y) 0 hi := by
  have e := iv_remE (x := x) b q.1
  have h := iv_rem (x := x) a b q
  have e2 : (x % y).toInt = x.toInt.tmod y.toInt := Int32.toInt_mod x y
  exact ⟨by rw [e, ← e2]; exact h.1, by rw [e, ← e2]; exact h.2⟩
theorem iv_rmS {x y : Int32} {l2 h2 lo hi : Int} (b : IV y l2 h2) (q : 1 ≤ l2 ∧ h2 - 1 ≤ hi ∧ lo ≤ 1 - h2) : IV (x - x / y * y) lo hi := by
  have e := iv_remE (x := x) b q.1
  have h := iv_remS (x := x) b q
  have e2 : (x % y).toInt = x.toInt.tmod y.toInt := Int32.toInt_mod x y
  exact ⟨by rw [e, ← e2]; exact h.1, by rw [e, ← e2]; exact h.2⟩
