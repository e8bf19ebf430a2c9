theorem qup_ok0 {q : Nat → Int} {z : Int} (h : qok q) (a : 0 ≤ z ∧ z ≤ 100000) : qok (qup q 0 z) := ⟨a, h.2.1, h.2.2.1, h.2.2.2.1, h.2.2.2.2.1, h.2.2.2.2.2.1, h.2.2.2.2.2.2⟩
theorem qup_ok1 {q : Nat → Int} {z : Int} (h : qok q) (a : 0 ≤ z ∧ z ≤ 40) : qok (qup q 1 z) := ⟨h.1, a, h.2.2.1, h.2.2.2.1, h.2.2.2.2.1, h.2.2.2.2.2.1, h.2.2.2.2.2.2⟩
theorem qup_ok2 {q : Nat → Int} {z : Int} (h : qok q) (a : 0 ≤ z ∧ z ≤ 40) : qok (qup q 2 z) := ⟨h.1, h.2.1, a, h.2.2.2.1, h.2.2.2.2.1, h.2.2.2.2.2.1, h.2.2.2.2.2.2⟩
theorem qup_ok3 {q : Nat → Int} {z : Int} (h : qok q) (a : 0 ≤ z ∧ z ≤ 3) : qok (qup q 3 z) := ⟨h.1, h.2.1, h.2.2.1, a, h.2.2.2.2.1, h.2.2.2.2.2.1, h.2.2.2.2.2.2⟩
theorem qup_ok4 {q : Nat → Int} {z : Int} (h : qok q) (a : 0 ≤ z ∧ z ≤ 4) : qok (qup q 4 z) := ⟨h.1, h.2.1, h.2.2.1, h.2.2.2.1, a, h.2.2.2.2.2.1, h.2.2.2.2.2.2⟩
theorem qup_ok5 {q : Nat → Int} {z : Int} (h : qok q) (a : 0 ≤ z ∧ z ≤ 8) : qok (qup q 5 z) := ⟨h.1, h.2.1, h.2.2.1, h.2.2.2.1, h.2.2.2.2.1, a, h.2.2.2.2.2.2⟩
theorem qup_ok6 {q : Nat → Int} {z : Int} (h : qok q) (a : (-2147483647) ≤ z ∧ z ≤ (-1000)) : qok (qup q 6 z) := ⟨h.1, h.2.1, h.2.2.1, h.2.2.2.1, h.2.2.2.2.1, h.2.2.2.2.2.1, a⟩
theorem th_selfE {x : Int32} {z : Int} {T : Nat → Option Nat} (e : z = x.toInt) : th_V T (.inl (z, z)) (.int x) := ⟨x, rfl, by rw [e]; exact Int.le_refl _, by rw [e]; exact Int.le_refl _⟩
theorem iv_z {x : Int32} {z lo hi : Int} (e : z = x.toInt) (a : IV x lo hi) : lo ≤ z ∧ z ≤ hi := by rw [e]; exact a
