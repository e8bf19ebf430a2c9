theorem qup_ok0 {q : Nat → Int} {x : Int32} (h : qok q) (a : IV x 0 100000) : qok (qup q 0 x.toInt) := ⟨a, h.2.1, h.2.2.1, h.2.2.2.1, h.2.2.2.2.1, h.2.2.2.2.2⟩
theorem qup_ok1 {q : Nat → Int} {x : Int32} (h : qok q) (a : IV x 0 40) : qok (qup q 1 x.toInt) := ⟨h.1, a, h.2.2.1, h.2.2.2.1, h.2.2.2.2.1, h.2.2.2.2.2⟩
theorem qup_ok2 {q : Nat → Int} {x : Int32} (h : qok q) (a : IV x 0 40) : qok (qup q 2 x.toInt) := ⟨h.1, h.2.1, a, h.2.2.2.1, h.2.2.2.2.1, h.2.2.2.2.2⟩
theorem qup_ok3 {q : Nat → Int} {x : Int32} (h : qok q) (a : IV x 0 3) : qok (qup q 3 x.toInt) := ⟨h.1, h.2.1, h.2.2.1, a, h.2.2.2.2.1, h.2.2.2.2.2⟩
theorem qup_ok4 {q : Nat → Int} {x : Int32} (h : qok q) (a : IV x 0 4) : qok (qup q 4 x.toInt) := ⟨h.1, h.2.1, h.2.2.1, h.2.2.2.1, a, h.2.2.2.2.2⟩
theorem qup_ok5 {q : Nat → Int} {x : Int32} (h : qok q) (a : IV x 0 8) : qok (qup q 5 x.toInt) := ⟨h.1, h.2.1, h.2.2.1, h.2.2.2.1, h.2.2.2.2.1, a⟩
