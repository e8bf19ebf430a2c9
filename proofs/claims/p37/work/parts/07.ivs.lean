theorem iv_top (x : Int32) : IV x (-2147483648) 2147483647 := ⟨by have := Int32.minValue_le_toInt x; simpa using this, by have := Int32.toInt_lt x; omega⟩
theorem iv_w {x : Int32} {l h l2 h2 : Int} (a : IV x l h) (q : l2 ≤ l ∧ h ≤ h2) : IV x l2 h2 := ⟨Int.le_trans q.1 a.1, Int.le_trans a.2 q.2⟩
theorem iv_bmod {z : Int} (h : -2147483648 ≤ z ∧ z ≤ 2147483647) : z.bmod (2 ^ 32) = z := by
  apply Int.bmod_eq_of_le <;> omega
theorem iv_addE {x y : Int32} (h : -2147483648 ≤ x.toInt + y.toInt ∧ x.toInt + y.toInt ≤ 2147483647) : (x + y).toInt = x.toInt + y.toInt := by
  rw [Int32.toInt_add]; exact iv_bmod h
theorem iv_subE {x y : Int32} (h : -2147483648 ≤ x.toInt - y.toInt ∧ x.toInt - y.toInt ≤ 2147483647) : (x - y).toInt = x.toInt - y.toInt := by
  rw [Int32.toInt_sub]; exact iv_bmod h
theorem iv_mulE {x y : Int32} (h : -2147483648 ≤ x.toInt * y.toInt ∧ x.toInt * y.toInt ≤ 2147483647) : (x * y).toInt = x.toInt * y.toInt := by
  rw [Int32.toInt_mul]; exact iv_bmod h
theorem iv_add {x y : Int32} {l1 h1 l2 h2 lo hi : Int} (a : IV x l1 h1) (b : IV y l2 h2) (q : -2147483648 ≤ lo ∧ lo ≤ l1 + l2 ∧ h1 + h2 ≤ hi ∧ hi ≤ 2147483647) : IV (x + y) lo hi := by
  obtain ⟨a1, a2⟩ := a
  obtain ⟨b1, b2⟩ := b
  have := iv_addE (x := x) (y := y) (by omega)
  exact ⟨by rw [this]; omega, by rw [this]; omega⟩
theorem iv_sub {x y : Int32} {l1 h1 l2 h2 lo hi : Int} (a : IV x l1 h1) (b : IV y l2 h2) (q : -2147483648 ≤ lo ∧ lo ≤ l1 - h2 ∧ h1 - l2 ≤ hi ∧ hi ≤ 2147483647) : IV (x - y) lo hi := by
  obtain ⟨a1, a2⟩ := a
  obtain ⟨b1, b2⟩ := b
  have := iv_subE (x := x) (y := y) (by omega)
  exact ⟨by rw [this]; omega, by rw [this]; omega⟩
/-- a product by its corners -/
theorem iv_corner {x y l1 h1 l2 h2 lo hi : Int} (a1 : l1 ≤ x) (a2 : x ≤ h1) (b1 : l2 ≤ y) (b2 : y ≤ h2) (q : lo ≤ l1 * l2 ∧ lo ≤ l1 * h2 ∧ lo ≤ h1 * l2 ∧ lo ≤ h1 * h2 ∧ l1 * l2 ≤ hi ∧ l1 * h2 ≤ hi ∧ h1 * l2 ≤ hi ∧ h1 * h2 ≤ hi) : lo ≤ x * y ∧ x * y ≤ hi := by
  obtain ⟨q1, q2, q3, q4, q5, q6, q7, q8⟩ := q
  rcases Int.le_total 0 y with hy | hy
  · have e1 : l1 * y ≤ x * y := Int.mul_le_mul_of_nonneg_right a1 hy
    have e2 : x * y ≤ h1 * y := Int.mul_le_mul_of_nonneg_right a2 hy
    constructor
    · rcases Int.le_total 0 l1 with h | h
      · have := Int.mul_le_mul_of_nonneg_left b1 h; omega
      · have := Int.mul_le_mul_of_nonpos_left h b2; omega
    · rcases Int.le_total 0 h1 with h | h
      · have := Int.mul_le_mul_of_nonneg_left b2 h; omega
      · have := Int.mul_le_mul_of_nonpos_left h b1; omega
  · have e1 : h1 * y ≤ x * y := Int.mul_le_mul_of_nonpos_right a2 hy
    have e2 : x * y ≤ l1 * y := Int.mul_le_mul_of_nonpos_right a1 hy
    constructor
    · rcases Int.le_total 0 h1 with h | h
      · have := Int.mul_le_mul_of_nonneg_left b1 h; omega
      · have := Int.mul_le_mul_of_nonpos_left h b2; omega
    · rcases Int.le_total 0 l1 with h | h
      · have := Int.mul_le_mul_of_nonneg_left b2 h; omega
      · have := Int.mul_le_mul_of_nonpos_left h b1; omega
theorem iv_mul {x y : Int32} {l1 h1 l2 h2 lo hi : Int} (a : IV x l1 h1) (b : IV y l2 h2) (q : lo ≤ l1 * l2 ∧ lo ≤ l1 * h2 ∧ lo ≤ h1 * l2 ∧ lo ≤ h1 * h2 ∧ l1 * l2 ≤ hi ∧ l1 * h2 ≤ hi ∧ h1 * l2 ≤ hi ∧ h1 * h2 ≤ hi) (r : -2147483648 ≤ lo ∧ hi ≤ 2147483647) : IV (x * y) lo hi := by
  have h := iv_corner a.1 a.2 b.1 b.2 q
  have := iv_mulE (x := x) (y := y) (by omega)
  exact ⟨by rw [this]; exact h.1, by rw [this]; exact h.2⟩
theorem iv_lt {x y : Int32} (h : x < y) : x.toInt < y.toInt := Int32.lt_iff_toInt_lt.mp h
theorem iv_le {x y : Int32} (h : x ≤ y) : x.toInt ≤ y.toInt := Int32.le_iff_toInt_le.mp h
theorem iv_nlt {x y : Int32} (h : ¬ x < y) : y.toInt ≤ x.toInt := by
  rcases (show x.toInt < y.toInt ∨ y.toInt ≤ x.toInt by omega) with q | q
  · exact absurd (Int32.lt_iff_toInt_lt.mpr q) h
  · exact q
theorem iv_nle {x y : Int32} (h : ¬ x ≤ y) : y.toInt < x.toInt := by
  rcases (show y.toInt < x.toInt ∨ x.toInt ≤ y.toInt by omega) with q | q
  · exact q
  · exact absurd (Int32.le_iff_toInt_le.mpr q) h
theorem iv_ne {x y : Int32} (h : ¬ x = y) : x.toInt ≠ y.toInt := fun q => h (Int32.toInt_inj.mp q)
/-- what a compare tells of its left and of its right side -/
theorem iv_uL {x y : Int32} {l1 h1 l2 h2 b : Int} (a : IV x l1 h1) (d : IV y l2 h2) (h : x.toInt < y.toInt) (q : h2 - 1 ≤ b) : IV x l1 b := ⟨a.1, by have := d.2; omega⟩
theorem iv_uR {x y : Int32} {l1 h1 l2 h2 b : Int} (a : IV x l1 h1) (d : IV y l2 h2) (h : x.toInt < y.toInt) (q : b ≤ l1 + 1) : IV y b h2 := ⟨by have := a.1; omega, d.2⟩
theorem iv_vL {x y : Int32} {l1 h1 l2 h2 b : Int} (a : IV x l1 h1) (d : IV y l2 h2) (h : x.toInt ≤ y.toInt) (q : h2 ≤ b) : IV x l1 b := ⟨a.1, by have := d.2; omega⟩
theorem iv_vR {x y : Int32} {l1 h1 l2 h2 b : Int} (a : IV x l1 h1) (d : IV y l2 h2) (h : x.toInt ≤ y.toInt) (q : b ≤ l1) : IV y b h2 := ⟨by have := a.1; omega, d.2⟩
theorem iv_eL {x y : Int32} {l2 h2 : Int} (h : x = y) (d : IV y l2 h2) : IV x l2 h2 := by rw [h]; exact d
theorem iv_eR {x y : Int32} {l1 h1 : Int} (h : x = y) (a : IV x l1 h1) : IV y l1 h1 := by rw [← h]; exact a
/-- an end cut off by an unequal -/
theorem iv_cutH {x y : Int32} {l1 h1 b : Int} (a : IV x l1 h1) (d : IV y h1 h1) (h : ¬ x = y) (q : b = h1 - 1) : IV x l1 b := ⟨a.1, by
  have h3 := iv_ne h
  have h1 := d.1
  have h2 := d.2
  have h4 := a.2
  omega⟩
theorem iv_cutL {x y : Int32} {l1 h1 b : Int} (a : IV x l1 h1) (d : IV y l1 l1) (h : ¬ x = y) (q : b = l1 + 1) : IV x b h1 := ⟨by
  have h3 := iv_ne h
  have h1 := d.1
  have h2 := d.2
  have h4 := a.1
  omega, a.2⟩
theorem iv_div {x y : Int32} {h1 l2 h2 hi : Int} (a : IV x 0 h1) (b : IV y l2 h2) (q : 1 ≤ l2 ∧ h1 ≤ hi) : IV (x / y) 0 hi := by
  obtain ⟨a1, a2⟩ := a
  obtain ⟨b1, b2⟩ := b
  have e : (x / y).toInt = x.toInt.tdiv y.toInt := by
    rw [Int32.toInt_div_of_ne_right]
    intro h
    rw [h] at b1
    simp at b1
    omega
  have e2 : x.toInt.tdiv y.toInt = x.toInt / y.toInt := Int.tdiv_eq_ediv_of_nonneg a1
  have e3 : 0 ≤ x.toInt / y.toInt := Int.ediv_nonneg a1 (by omega)
  have e4 : x.toInt / y.toInt ≤ x.toInt := Int.ediv_le_self _ a1
  exact ⟨by rw [e, e2]; exact e3, by rw [e, e2]; omega⟩
theorem iv_rem {x y : Int32} {h1 l2 h2 hi : Int} (a : IV x 0 h1) (b : IV y l2 h2) (q : 1 ≤ l2 ∧ h2 - 1 ≤ hi) : IV (x % y) 0 hi := by
  obtain ⟨a1, a2⟩ := a
  obtain ⟨b1, b2⟩ := b
  have e : (x % y).toInt = x.toInt.tmod y.toInt := Int32.toInt_mod x y
  have e2 : x.toInt.tmod y.toInt = x.toInt % y.toInt := Int.tmod_eq_emod_of_nonneg a1
  have e3 : 0 ≤ x.toInt % y.toInt := Int.emod_nonneg _ (by omega)
  have e4 : x.toInt % y.toInt < y.toInt := Int.emod_lt_of_pos _ (by omega)
  exact ⟨by rw [e, e2]; exact e3, by rw [e, e2]; omega⟩
theorem iv_remS {x y : Int32} {l2 h2 lo hi : Int} (b : IV y l2 h2) (q : 1 ≤ l2 ∧ h2 - 1 ≤ hi ∧ lo ≤ 1 - h2) : IV (x % y) lo hi := by
  obtain ⟨b1, b2⟩ := b
  have e : (x % y).toInt = x.toInt.tmod y.toInt := Int32.toInt_mod x y
  have e4 : x.toInt.tmod y.toInt < y.toInt := Int.tmod_lt_of_pos _ (by omega)
  have e5 : - y.toInt < x.toInt.tmod y.toInt := by
    have h1 := Int.natAbs_tmod x.toInt y.toInt
    have h2 := Nat.mod_lt x.toInt.natAbs (y := y.toInt.natAbs) (by omega)
    omega
  exact ⟨by rw [e]; omega, by rw [e]; omega⟩
