/-! the kinds of the world; q: numbers that stay over most calls (0: the TIME, 1, 2: acts done and undone, 3 .. 5: FOODS, MAPS, PLACES read so far) -/
def kd (q : Nat → Int) : Nat → th_K := fun k => match k with
  | 0 => .inl (10, [.inr 2, .inr 3, .inr 4, .inr 5, .inr 6, .inr 7, .inr 8, .inr 9, .inr 34, .inl (-2147483648, 2147483647)], fun _ => True)
  | 1 => .inl (8, [.inr 12, .inr 13, .inr 14, .inr 15, .inl (0, 1600), .inl (0, 1601)], fun _ => True)
  | 2 => .inl (6, [.inr 2, .inr 47, .inl (-2147483648, 2147483647), .inl (-2147483648, 2147483647), .inl (-2147483648, 2147483647), .inl (-2147483648, 2147483647)], fun _ => True)
  | 3 => .inl (4, [.inr 21, .inr 22, .inr 23, .inr 24, .inr 25, .inr 26, .inr 27, .inr 28, .inr 29, .inr 10, .inr 11, .inl (0, 3), .inl (0, 4), .inl (0, 8), .inl (-2147483648, 2147483647), .inl (-2147483648, 2147483647), .inl (0, 1), .inl (0, 1), .inl (0, 1)], fun _ => True)
  | 4 => .inl (0, [.inr 4], fun _ => True)
  | 5 => .inl (3, [.inr 31, .inl (0, 40), .inl (q 1, q 1), .inl (q 2, q 2)], fun _ => True)
  | 6 => .inl (1, [.inr 5, .inr 32, .inl (-2147483648, 2147483647)], fun _ => True)
  | 7 => .inl (5, [.inr 5, .inr 35, .inl (-2147483648, 2147483647), .inr 33, .inr 36, .inr 37, .inr 38, .inr 39, .inr 39, .inl (0, 2), .inl (-2147483648, 2147483647), .inl (q 6, 25), .inl (-2147483648, 2147483647)], fun _ => True)
  | 8 => .inl (9, [.inr 41, .inr 42, .inr 43, .inr 44, .inr 45, .inr 46, .inl (0, 30), .inl (q 0, q 0)], fun _ => True)
  | 9 => .inl (2, [.inr 16, .inr 17, .inr 18, .inr 19, .inr 20, .inl (0, 1600), .inl (-2147483648, 2147483647)], fun _ => True)
  | 10 => .inl (7, [.inr 30], fun _ => True)
  | 11 => .inr (1, 1600, fun _ => .inl (-128, 127))
  | 12 => .inr (0, 1601, fun _ => .inl (-2147483648, 2147483647))
  | 13 => .inr (0, 1601, fun _ => .inl (-2147483648, 2147483647))
  | 14 => .inr (2, 1601, fun _ => .inr 0)
  | 15 => .inr (0, 1600, fun _ => .inl (-2147483648, 2147483647))
  | 16 => .inr (0, 5, fun _ => .inl (0, 1600))
  | 17 => .inr (0, 5, fun _ => .inl (0, 1600))
  | 18 => .inr (0, 7, fun _ => .inl (-2147483648, 2147483647))
  | 19 => .inr (0, 64, fun _ => .inl (-2147483648, 2147483647))
  | 20 => .inr (2, 3, fun _ => .inr 0)
  | 21 => .inr (2, 4, fun _ => .inr 0)
  | 22 => .inr (2, 8, fun _ => .inr 0)
  | 23 => .inr (0, 4, fun _ => .inl (-2147483648, 2147483647))
  | 24 => .inr (0, 8, fun _ => .inl (-2147483648, 2147483647))
  | 25 => .inr (0, 8, fun _ => .inl (-2147483648, 2147483647))
  | 26 => .inr (0, 4, fun _ => .inl (-2147483648, 2147483647))
  | 27 => .inr (0, 4, fun _ => .inl (-2147483648, 2147483647))
  | 28 => .inr (0, 12, fun _ => .inl (-2147483648, 2147483647))
  | 29 => .inr (0, 43, fun _ => .inl (-2147483648, 2147483647))
  | 30 => .inr (4, 41, fun _ => .inr 11)
  | 31 => .inr (4, 8, fun _ => .inr 11)
  | 32 => .inr (4, 5, fun _ => .inr 11)
  | 33 => .inr (4, 3, fun _ => .inr 11)
  | 34 => .inr (0, 4, fun _ => .inl (-2147483648, 2147483647))
  | 35 => .inr (0, 4, fun _ => .inl (-2147483648, 2147483647))
  | 36 => .inr (0, 4, fun _ => .inl (-2147483648, 2147483647))
  | 37 => .inr (0, 4, fun _ => .inl (-2147483648, 2147483647))
  | 38 => .inr (0, 4, fun _ => .inl (-2147483648, 2147483647))
  | 39 => .inr (0, 0, fun _ => .inr 0)
  | 40 => .inr (0, 90, fun _ => .inl (-2147483648, 2147483647))
  | 41 => .inr (0, 30, fun _ => .inl (-2147483648, 2147483647))
  | 42 => .inr (3, 30, fun _ => .inl (0, 1))
  | 43 => .inr (0, 30, fun _ => .inl (-2147483648, 2147483647))
  | 44 => .inr (0, 30, fun _ => .inl (-2147483648, 2147483647))
  | 45 => .inr (0, 18, fun _ => .inl (-2147483648, 2147483647))
  | 46 => .inl (4, [.inr 48, .inr 49, .inr 50, .inr 51, .inr 52, .inr 53, .inr 54, .inr 55, .inr 56, .inr 57, .inr 11, .inl (q 3, q 3), .inl (q 4, q 4), .inl (q 5, q 5), .inl (-2147483648, 2147483647), .inl (-2147483648, 2147483647), .inl (0, 1), .inl (0, 1), .inl (0, 1)], fun _ => True)
  | 47 => .inr (2, 3, fun _ => .inr 0)
  | 48 => .inr (2, 4, fun _ => .inr 0)
  | 49 => .inr (2, 8, fun _ => .inr 0)
  | 50 => .inr (0, 4, fun _ => .inl (-2147483648, 2147483647))
  | 51 => .inr (0, 8, fun _ => .inl (-2147483648, 2147483647))
  | 52 => .inr (0, 8, fun _ => .inl (-2147483648, 2147483647))
  | 53 => .inr (0, 4, fun _ => .inl (-2147483648, 2147483647))
  | 54 => .inr (0, 4, fun _ => .inl (-2147483648, 2147483647))
  | 55 => .inr (0, 12, fun _ => .inl (-2147483648, 2147483647))
  | 56 => .inl (2, [.inr 58, .inr 59, .inr 60, .inr 61, .inr 62, .inl (0, 1600), .inl (-2147483648, 2147483647)], fun _ => True)
  | 57 => .inr (0, 1600, fun _ => .inl (-2147483648, 2147483647))
  | 58 => .inr (0, 5, fun _ => .inl (0, 1600))
  | 59 => .inr (0, 5, fun _ => .inl (0, 1600))
  | 60 => .inr (0, 7, fun _ => .inl (-2147483648, 2147483647))
  | 61 => .inr (0, 64, fun _ => .inl (-2147483648, 2147483647))
  | _ => .inr (0, 0, fun _ => .inr 0)
theorem kd_0 {q : Nat → Int} : kd q 0 = .inl (10, [.inr 2, .inr 3, .inr 4, .inr 5, .inr 6, .inr 7, .inr 8, .inr 9, .inr 34, .inl (-2147483648, 2147483647)], fun _ => True) := rfl
theorem kd_1 {q : Nat → Int} : kd q 1 = .inl (8, [.inr 12, .inr 13, .inr 14, .inr 15, .inl (0, 1600), .inl (0, 1601)], fun _ => True) := rfl
theorem kd_2 {q : Nat → Int} : kd q 2 = .inl (6, [.inr 2, .inr 47, .inl (-2147483648, 2147483647), .inl (-2147483648, 2147483647), .inl (-2147483648, 2147483647), .inl (-2147483648, 2147483647)], fun _ => True) := rfl
theorem kd_3 {q : Nat → Int} : kd q 3 = .inl (4, [.inr 21, .inr 22, .inr 23, .inr 24, .inr 25, .inr 26, .inr 27, .inr 28, .inr 29, .inr 10, .inr 11, .inl (0, 3), .inl (0, 4), .inl (0, 8), .inl (-2147483648, 2147483647), .inl (-2147483648, 2147483647), .inl (0, 1), .inl (0, 1), .inl (0, 1)], fun _ => True) := rfl
theorem kd_4 {q : Nat → Int} : kd q 4 = .inl (0, [.inr 4], fun _ => True) := rfl
theorem kd_5 {q : Nat → Int} : kd q 5 = .inl (3, [.inr 31, .inl (0, 40), .inl (q 1, q 1), .inl (q 2, q 2)], fun _ => True) := rfl
theorem kd_6 {q : Nat → Int} : kd q 6 = .inl (1, [.inr 5, .inr 32, .inl (-2147483648, 2147483647)], fun _ => True) := rfl
theorem kd_7 {q : Nat → Int} : kd q 7 = .inl (5, [.inr 5, .inr 35, .inl (-2147483648, 2147483647), .inr 33, .inr 36, .inr 37, .inr 38, .inr 39, .inr 39, .inl (0, 2), .inl (-2147483648, 2147483647), .inl (q 6, 25), .inl (-2147483648, 2147483647)], fun _ => True) := rfl
theorem kd_8 {q : Nat → Int} : kd q 8 = .inl (9, [.inr 41, .inr 42, .inr 43, .inr 44, .inr 45, .inr 46, .inl (0, 30), .inl (q 0, q 0)], fun _ => True) := rfl
theorem kd_9 {q : Nat → Int} : kd q 9 = .inl (2, [.inr 16, .inr 17, .inr 18, .inr 19, .inr 20, .inl (0, 1600), .inl (-2147483648, 2147483647)], fun _ => True) := rfl
theorem kd_10 {q : Nat → Int} : kd q 10 = .inl (7, [.inr 30], fun _ => True) := rfl
theorem kd_11 {q : Nat → Int} : kd q 11 = .inr (1, 1600, fun _ => .inl (-128, 127)) := rfl
theorem kd_12 {q : Nat → Int} : kd q 12 = .inr (0, 1601, fun _ => .inl (-2147483648, 2147483647)) := rfl
theorem kd_13 {q : Nat → Int} : kd q 13 = .inr (0, 1601, fun _ => .inl (-2147483648, 2147483647)) := rfl
theorem kd_14 {q : Nat → Int} : kd q 14 = .inr (2, 1601, fun _ => .inr 0) := rfl
theorem kd_15 {q : Nat → Int} : kd q 15 = .inr (0, 1600, fun _ => .inl (-2147483648, 2147483647)) := rfl
theorem kd_16 {q : Nat → Int} : kd q 16 = .inr (0, 5, fun _ => .inl (0, 1600)) := rfl
theorem kd_17 {q : Nat → Int} : kd q 17 = .inr (0, 5, fun _ => .inl (0, 1600)) := rfl
theorem kd_18 {q : Nat → Int} : kd q 18 = .inr (0, 7, fun _ => .inl (-2147483648, 2147483647)) := rfl
theorem kd_19 {q : Nat → Int} : kd q 19 = .inr (0, 64, fun _ => .inl (-2147483648, 2147483647)) := rfl
theorem kd_20 {q : Nat → Int} : kd q 20 = .inr (2, 3, fun _ => .inr 0) := rfl
theorem kd_21 {q : Nat → Int} : kd q 21 = .inr (2, 4, fun _ => .inr 0) := rfl
theorem kd_22 {q : Nat → Int} : kd q 22 = .inr (2, 8, fun _ => .inr 0) := rfl
theorem kd_23 {q : Nat → Int} : kd q 23 = .inr (0, 4, fun _ => .inl (-2147483648, 2147483647)) := rfl
theorem kd_24 {q : Nat → Int} : kd q 24 = .inr (0, 8, fun _ => .inl (-2147483648, 2147483647)) := rfl
theorem kd_25 {q : Nat → Int} : kd q 25 = .inr (0, 8, fun _ => .inl (-2147483648, 2147483647)) := rfl
theorem kd_26 {q : Nat → Int} : kd q 26 = .inr (0, 4, fun _ => .inl (-2147483648, 2147483647)) := rfl
theorem kd_27 {q : Nat → Int} : kd q 27 = .inr (0, 4, fun _ => .inl (-2147483648, 2147483647)) := rfl
theorem kd_28 {q : Nat → Int} : kd q 28 = .inr (0, 12, fun _ => .inl (-2147483648, 2147483647)) := rfl
theorem kd_29 {q : Nat → Int} : kd q 29 = .inr (0, 43, fun _ => .inl (-2147483648, 2147483647)) := rfl
theorem kd_30 {q : Nat → Int} : kd q 30 = .inr (4, 41, fun _ => .inr 11) := rfl
theorem kd_31 {q : Nat → Int} : kd q 31 = .inr (4, 8, fun _ => .inr 11) := rfl
theorem kd_32 {q : Nat → Int} : kd q 32 = .inr (4, 5, fun _ => .inr 11) := rfl
theorem kd_33 {q : Nat → Int} : kd q 33 = .inr (4, 3, fun _ => .inr 11) := rfl
theorem kd_34 {q : Nat → Int} : kd q 34 = .inr (0, 4, fun _ => .inl (-2147483648, 2147483647)) := rfl
theorem kd_35 {q : Nat → Int} : kd q 35 = .inr (0, 4, fun _ => .inl (-2147483648, 2147483647)) := rfl
theorem kd_36 {q : Nat → Int} : kd q 36 = .inr (0, 4, fun _ => .inl (-2147483648, 2147483647)) := rfl
theorem kd_37 {q : Nat → Int} : kd q 37 = .inr (0, 4, fun _ => .inl (-2147483648, 2147483647)) := rfl
theorem kd_38 {q : Nat → Int} : kd q 38 = .inr (0, 4, fun _ => .inl (-2147483648, 2147483647)) := rfl
theorem kd_40 {q : Nat → Int} : kd q 40 = .inr (0, 90, fun _ => .inl (-2147483648, 2147483647)) := rfl
theorem kd_41 {q : Nat → Int} : kd q 41 = .inr (0, 30, fun _ => .inl (-2147483648, 2147483647)) := rfl
theorem kd_42 {q : Nat → Int} : kd q 42 = .inr (3, 30, fun _ => .inl (0, 1)) := rfl
theorem kd_43 {q : Nat → Int} : kd q 43 = .inr (0, 30, fun _ => .inl (-2147483648, 2147483647)) := rfl
theorem kd_44 {q : Nat → Int} : kd q 44 = .inr (0, 30, fun _ => .inl (-2147483648, 2147483647)) := rfl
theorem kd_45 {q : Nat → Int} : kd q 45 = .inr (0, 18, fun _ => .inl (-2147483648, 2147483647)) := rfl
theorem kd_46 {q : Nat → Int} : kd q 46 = .inl (4, [.inr 48, .inr 49, .inr 50, .inr 51, .inr 52, .inr 53, .inr 54, .inr 55, .inr 56, .inr 57, .inr 11, .inl (q 3, q 3), .inl (q 4, q 4), .inl (q 5, q 5), .inl (-2147483648, 2147483647), .inl (-2147483648, 2147483647), .inl (0, 1), .inl (0, 1), .inl (0, 1)], fun _ => True) := rfl
theorem kd_47 {q : Nat → Int} : kd q 47 = .inr (2, 3, fun _ => .inr 0) := rfl
theorem kd_48 {q : Nat → Int} : kd q 48 = .inr (2, 4, fun _ => .inr 0) := rfl
theorem kd_49 {q : Nat → Int} : kd q 49 = .inr (2, 8, fun _ => .inr 0) := rfl
theorem kd_50 {q : Nat → Int} : kd q 50 = .inr (0, 4, fun _ => .inl (-2147483648, 2147483647)) := rfl
theorem kd_51 {q : Nat → Int} : kd q 51 = .inr (0, 8, fun _ => .inl (-2147483648, 2147483647)) := rfl
theorem kd_52 {q : Nat → Int} : kd q 52 = .inr (0, 8, fun _ => .inl (-2147483648, 2147483647)) := rfl
theorem kd_53 {q : Nat → Int} : kd q 53 = .inr (0, 4, fun _ => .inl (-2147483648, 2147483647)) := rfl
theorem kd_54 {q : Nat → Int} : kd q 54 = .inr (0, 4, fun _ => .inl (-2147483648, 2147483647)) := rfl
theorem kd_55 {q : Nat → Int} : kd q 55 = .inr (0, 12, fun _ => .inl (-2147483648, 2147483647)) := rfl
theorem kd_56 {q : Nat → Int} : kd q 56 = .inl (2, [.inr 58, .inr 59, .inr 60, .inr 61, .inr 62, .inl (0, 1600), .inl (-2147483648, 2147483647)], fun _ => True) := rfl
theorem kd_57 {q : Nat → Int} : kd q 57 = .inr (0, 1600, fun _ => .inl (-2147483648, 2147483647)) := rfl
theorem kd_58 {q : Nat → Int} : kd q 58 = .inr (0, 5, fun _ => .inl (0, 1600)) := rfl
theorem kd_59 {q : Nat → Int} : kd q 59 = .inr (0, 5, fun _ => .inl (0, 1600)) := rfl
theorem kd_60 {q : Nat → Int} : kd q 60 = .inr (0, 7, fun _ => .inl (-2147483648, 2147483647)) := rfl
theorem kd_61 {q : Nat → Int} : kd q 61 = .inr (0, 64, fun _ => .inl (-2147483648, 2147483647)) := rfl
def qok (q : Nat → Int) : Prop := (0 ≤ q 0 ∧ q 0 ≤ 100000) ∧ (0 ≤ q 1 ∧ q 1 ≤ 40) ∧ (0 ≤ q 2 ∧ q 2 ≤ 40) ∧ (0 ≤ q 3 ∧ q 3 ≤ 3) ∧ (0 ≤ q 4 ∧ q 4 ≤ 4) ∧ (0 ≤ q 5 ∧ q 5 ≤ 8) ∧ ((-2147483647) ≤ q 6 ∧ q 6 ≤ (-1000))
theorem qok_0 {q : Nat → Int} (h : qok q) : 0 ≤ q 0 ∧ q 0 ≤ 100000 := h.1
theorem qok_1 {q : Nat → Int} (h : qok q) : 0 ≤ q 1 ∧ q 1 ≤ 40 := h.2.1
theorem qok_2 {q : Nat → Int} (h : qok q) : 0 ≤ q 2 ∧ q 2 ≤ 40 := h.2.2.1
theorem qok_3 {q : Nat → Int} (h : qok q) : 0 ≤ q 3 ∧ q 3 ≤ 3 := h.2.2.2.1
theorem qok_4 {q : Nat → Int} (h : qok q) : 0 ≤ q 4 ∧ q 4 ≤ 4 := h.2.2.2.2.1
theorem qok_5 {q : Nat → Int} (h : qok q) : 0 ≤ q 5 ∧ q 5 ≤ 8 := h.2.2.2.2.2.1
theorem qok_6 {q : Nat → Int} (h : qok q) : (-2147483647) ≤ q 6 ∧ q 6 ≤ (-1000) := h.2.2.2.2.2.2
