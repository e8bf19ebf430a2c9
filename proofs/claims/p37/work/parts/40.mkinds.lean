/-! the kinds of the reference's world; q: numbers kept exactly: 7, 8 acts and undone, 9 the time, 10 the bank in use, 11, 12 its maps and whether it has a taste, 13 the bank that is read, 14, 15 its maps and taste, 16 .. 19 foods and places, 20 codes, 21 piled, 22 within, 23 units in the rule, 24, 25 units, 26 .. 30 size, at, end, token, fault, 31 the name, 32 .. 34 nots, signs for two and operands so far; 40 .. the row put; 1000 .. the code; 2200 .., 2300 .. the pile; 2400 .., 2410 .. the rules; 3000 .. the text -/
def nmR (q : Nat → Int) (vs : List Value) : Prop := ∀ y : Int64, vs[10]? = some (.long y) → y.toInt = q 31
def bkF (q : Nat → Int) (a b j : Nat) : th_F := .inl (if (j : Int) = q 10 then (q a, q a) else (q b, q b))
def eaF (q : Nat → Int) (b n j : Nat) : th_F := if j < n then .inl (q (b + j), q (b + j)) else .inl (0, 0)
def km (q : Nat → Int) : Nat → th_K := fun k => match k with
  | 0 => .inl (11, [.inr 2, .inr 3, .inl (0, 1600), .inl (q 26, q 26), .inl (q 30, q 30), .inl (-2147483648, 2147483647), .inl (q 27, q 27), .inl (q 28, q 28), .inl (q 29, q 29), .inl (-2147483648, 2147483647), .inr 0, .inr 4, .inr 5, .inr 6, .inr 7, .inr 8, .inr 9, .inr 10, .inr 11, .inr 12, .inr 13, .inr 14, .inr 15, .inr 16, .inr 17, .inr 18, .inr 19, .inr 20, .inr 21, .inr 22, .inr 23, .inr 24, .inr 25, .inr 26, .inr 27, .inr 28, .inr 29, .inr 30, .inr 31, .inr 32, .inr 33, .inl (q 10, q 10), .inl (q 13, q 13), .inl (q 20, q 20), .inl (q 22, q 22), .inl (q 21, q 21), .inl (q 23, q 23), .inl (-2147483648, 2147483647), .inl (-2147483648, 2147483647), .inl (-2147483648, 2147483647), .inl (-2147483648, 2147483647), .inl (-2147483648, 2147483647), .inr 34, .inr 35, .inl (q 7, q 7), .inl (q 8, q 8), .inr 36, .inr 37, .inr 38, .inl (0, 4), .inr 39, .inr 40, .inr 41, .inr 42, .inr 43, .inl (0, 30), .inl (q 9, q 9), .inr 44, .inr 45], nmR q)
  | 1 => .inr (1, 1620, fun _ => .inl (-128, 127))
  | 2 => .inr (1, 1600, eaF q 3000 1600)
  | 3 => .inr (0, 2, bkF q 16 17)
  | 4 => .inr (0, 2, bkF q 11 14)
  | 5 => .inr (0, 2, bkF q 18 19)
  | 6 => .inr (0, 2, fun _ => .inl (-2147483648, 2147483647))
  | 7 => .inr (0, 2, fun _ => .inl (-2147483648, 2147483647))
  | 8 => .inr (0, 2, bkF q 25 24)
  | 9 => .inr (0, 2, fun _ => .inl (-2147483648, 2147483647))
  | 10 => .inr (0, 6, fun _ => .inl (-2147483648, 2147483647))
  | 11 => .inr (0, 8, fun _ => .inl (-2147483648, 2147483647))
  | 12 => .inr (0, 8, fun _ => .inl (-2147483648, 2147483647))
  | 13 => .inr (0, 2, fun _ => .inl (-2147483648, 2147483647))
  | 14 => .inr (0, 8, fun _ => .inl (-2147483648, 2147483647))
  | 15 => .inr (0, 16, fun _ => .inl (-2147483648, 2147483647))
  | 16 => .inr (0, 16, fun _ => .inl (-2147483648, 2147483647))
  | 17 => .inr (0, 16, fun _ => .inl (-2147483648, 2147483647))
  | 18 => .inr (0, 24, fun _ => .inl (-2147483648, 2147483647))
  | 19 => .inr (0, 8, fun _ => .inl (-2147483648, 2147483647))
  | 20 => .inr (0, 10, eaF q 2400 10)
  | 21 => .inr (0, 10, eaF q 2410 10)
  | 22 => .inr (3, 2, bkF q 12 15)
  | 23 => .inr (3, 2, fun _ => .inl (0, 1))
  | 24 => .inr (3, 2, fun _ => .inl (0, 1))
  | 25 => .inr (2, 6, fun _ => .inr 0)
  | 26 => .inr (2, 8, fun _ => .inr 0)
  | 27 => .inr (2, 16, fun _ => .inr 0)
  | 28 => .inr (0, 1120, eaF q 1000 1120)
  | 29 => .inr (0, 1120, fun _ => .inl (-2147483648, 2147483647))
  | 30 => .inr (0, 90, eaF q 2200 90)
  | 31 => .inr (0, 90, eaF q 2300 90)
  | 32 => .inr (0, 60, fun _ => .inl (-2147483648, 2147483647))
  | 33 => .inr (0, 43, fun _ => .inl (-2147483648, 2147483647))
  | 34 => .inr (0, 1763, fun _ => .inl (-2147483648, 2147483647))
  | 35 => .inr (0, 43, fun _ => .inl (-2147483648, 2147483647))
  | 36 => .inr (0, 4, fun _ => .inl (-2147483648, 2147483647))
  | 37 => .inr (0, 4, eaF q 40 4)
  | 38 => .inr (0, 90, fun _ => .inl (-2147483648, 2147483647))
  | 39 => .inr (0, 30, fun _ => .inl (-2147483648, 2147483647))
  | 40 => .inr (0, 30, fun _ => .inl (-2147483648, 2147483647))
  | 41 => .inr (0, 30, fun _ => .inl (-2147483648, 2147483647))
  | 42 => .inr (0, 30, fun _ => .inl (-2147483648, 2147483647))
  | 43 => .inr (0, 129, fun _ => .inl (-2147483648, 2147483647))
  | 44 => .inr (3, 3, fun _ => .inl (0, 1))
  | _ => .inr (0, 0, fun _ => .inr 0)
theorem km_0 {q : Nat → Int} : km q 0 = .inl (11, [.inr 2, .inr 3, .inl (0, 1600), .inl (q 26, q 26), .inl (q 30, q 30), .inl (-2147483648, 2147483647), .inl (q 27, q 27), .inl (q 28, q 28), .inl (q 29, q 29), .inl (-2147483648, 2147483647), .inr 0, .inr 4, .inr 5, .inr 6, .inr 7, .inr 8, .inr 9, .inr 10, .inr 11, .inr 12, .inr 13, .inr 14, .inr 15, .inr 16, .inr 17, .inr 18, .inr 19, .inr 20, .inr 21, .inr 22, .inr 23, .inr 24, .inr 25, .inr 26, .inr 27, .inr 28, .inr 29, .inr 30, .inr 31, .inr 32, .inr 33, .inl (q 10, q 10), .inl (q 13, q 13), .inl (q 20, q 20), .inl (q 22, q 22), .inl (q 21, q 21), .inl (q 23, q 23), .inl (-2147483648, 2147483647), .inl (-2147483648, 2147483647), .inl (-2147483648, 2147483647), .inl (-2147483648, 2147483647), .inl (-2147483648, 2147483647), .inr 34, .inr 35, .inl (q 7, q 7), .inl (q 8, q 8), .inr 36, .inr 37, .inr 38, .inl (0, 4), .inr 39, .inr 40, .inr 41, .inr 42, .inr 43, .inl (0, 30), .inl (q 9, q 9), .inr 44, .inr 45], nmR q) := rfl
theorem km_1 {q : Nat → Int} : km q 1 = .inr (1, 1620, fun _ => .inl (-128, 127)) := rfl
theorem km_2 {q : Nat → Int} : km q 2 = .inr (1, 1600, eaF q 3000 1600) := rfl
theorem km_3 {q : Nat → Int} : km q 3 = .inr (0, 2, bkF q 16 17) := rfl
theorem km_4 {q : Nat → Int} : km q 4 = .inr (0, 2, bkF q 11 14) := rfl
theorem km_5 {q : Nat → Int} : km q 5 = .inr (0, 2, bkF q 18 19) := rfl
theorem km_6 {q : Nat → Int} : km q 6 = .inr (0, 2, fun _ => .inl (-2147483648, 2147483647)) := rfl
theorem km_7 {q : Nat → Int} : km q 7 = .inr (0, 2, fun _ => .inl (-2147483648, 2147483647)) := rfl
theorem km_8 {q : Nat → Int} : km q 8 = .inr (0, 2, bkF q 25 24) := rfl
theorem km_9 {q : Nat → Int} : km q 9 = .inr (0, 2, fun _ => .inl (-2147483648, 2147483647)) := rfl
theorem km_10 {q : Nat → Int} : km q 10 = .inr (0, 6, fun _ => .inl (-2147483648, 2147483647)) := rfl
theorem km_11 {q : Nat → Int} : km q 11 = .inr (0, 8, fun _ => .inl (-2147483648, 2147483647)) := rfl
theorem km_12 {q : Nat → Int} : km q 12 = .inr (0, 8, fun _ => .inl (-2147483648, 2147483647)) := rfl
theorem km_13 {q : Nat → Int} : km q 13 = .inr (0, 2, fun _ => .inl (-2147483648, 2147483647)) := rfl
theorem km_14 {q : Nat → Int} : km q 14 = .inr (0, 8, fun _ => .inl (-2147483648, 2147483647)) := rfl
theorem km_15 {q : Nat → Int} : km q 15 = .inr (0, 16, fun _ => .inl (-2147483648, 2147483647)) := rfl
theorem km_16 {q : Nat → Int} : km q 16 = .inr (0, 16, fun _ => .inl (-2147483648, 2147483647)) := rfl
theorem km_17 {q : Nat → Int} : km q 17 = .inr (0, 16, fun _ => .inl (-2147483648, 2147483647)) := rfl
theorem km_18 {q : Nat → Int} : km q 18 = .inr (0, 24, fun _ => .inl (-2147483648, 2147483647)) := rfl
theorem km_19 {q : Nat → Int} : km q 19 = .inr (0, 8, fun _ => .inl (-2147483648, 2147483647)) := rfl
theorem km_20 {q : Nat → Int} : km q 20 = .inr (0, 10, eaF q 2400 10) := rfl
theorem km_21 {q : Nat → Int} : km q 21 = .inr (0, 10, eaF q 2410 10) := rfl
theorem km_22 {q : Nat → Int} : km q 22 = .inr (3, 2, bkF q 12 15) := rfl
theorem km_23 {q : Nat → Int} : km q 23 = .inr (3, 2, fun _ => .inl (0, 1)) := rfl
theorem km_24 {q : Nat → Int} : km q 24 = .inr (3, 2, fun _ => .inl (0, 1)) := rfl
theorem km_25 {q : Nat → Int} : km q 25 = .inr (2, 6, fun _ => .inr 0) := rfl
theorem km_26 {q : Nat → Int} : km q 26 = .inr (2, 8, fun _ => .inr 0) := rfl
theorem km_27 {q : Nat → Int} : km q 27 = .inr (2, 16, fun _ => .inr 0) := rfl
theorem km_28 {q : Nat → Int} : km q 28 = .inr (0, 1120, eaF q 1000 1120) := rfl
theorem km_29 {q : Nat → Int} : km q 29 = .inr (0, 1120, fun _ => .inl (-2147483648, 2147483647)) := rfl
theorem km_30 {q : Nat → Int} : km q 30 = .inr (0, 90, eaF q 2200 90) := rfl
theorem km_31 {q : Nat → Int} : km q 31 = .inr (0, 90, eaF q 2300 90) := rfl
theorem km_32 {q : Nat → Int} : km q 32 = .inr (0, 60, fun _ => .inl (-2147483648, 2147483647)) := rfl
theorem km_33 {q : Nat → Int} : km q 33 = .inr (0, 43, fun _ => .inl (-2147483648, 2147483647)) := rfl
theorem km_34 {q : Nat → Int} : km q 34 = .inr (0, 1763, fun _ => .inl (-2147483648, 2147483647)) := rfl
theorem km_35 {q : Nat → Int} : km q 35 = .inr (0, 43, fun _ => .inl (-2147483648, 2147483647)) := rfl
theorem km_36 {q : Nat → Int} : km q 36 = .inr (0, 4, fun _ => .inl (-2147483648, 2147483647)) := rfl
theorem km_37 {q : Nat → Int} : km q 37 = .inr (0, 4, eaF q 40 4) := rfl
theorem km_38 {q : Nat → Int} : km q 38 = .inr (0, 90, fun _ => .inl (-2147483648, 2147483647)) := rfl
theorem km_39 {q : Nat → Int} : km q 39 = .inr (0, 30, fun _ => .inl (-2147483648, 2147483647)) := rfl
theorem km_40 {q : Nat → Int} : km q 40 = .inr (0, 30, fun _ => .inl (-2147483648, 2147483647)) := rfl
theorem km_41 {q : Nat → Int} : km q 41 = .inr (0, 30, fun _ => .inl (-2147483648, 2147483647)) := rfl
theorem km_42 {q : Nat → Int} : km q 42 = .inr (0, 30, fun _ => .inl (-2147483648, 2147483647)) := rfl
theorem km_43 {q : Nat → Int} : km q 43 = .inr (0, 129, fun _ => .inl (-2147483648, 2147483647)) := rfl
theorem km_44 {q : Nat → Int} : km q 44 = .inr (3, 3, fun _ => .inl (0, 1)) := rfl
/-- how deep the pile is behind the first n codes from a on; none where one can't be done -/
def dp (q : Nat → Int) (a : Nat) : Nat → Option Nat
  | 0 => some 0
  | n + 1 => match dp q a n with
    | none => none
    | some d => if q (1000 + (a + n)) = 126 then (if 1 ≤ d then some d else none) else if 97 ≤ q (1000 + (a + n)) ∧ q (1000 + (a + n)) ≤ 122 then (if d < 60 then some (d + 1) else none) else (if 2 ≤ d then some (d - 1) else none)
/-- rule r of bank b is a good row of codes, and lies between lo and hi -/
def rgood (q : Nat → Int) (b r : Nat) (lo hi : Int) : Prop := lo ≤ q (2400 + (5 * b + r)) ∧ q (2400 + (5 * b + r)) ≤ q (2410 + (5 * b + r)) ∧ q (2410 + (5 * b + r)) ≤ hi ∧ ∃ d, dp q (q (2400 + (5 * b + r))).toNat (q (2410 + (5 * b + r)) - q (2400 + (5 * b + r))).toNat = some d
/-- the rules of bank b of m maps, and its taste if it has one, are good -/
def bgood (q : Nat → Int) (b : Nat) (m t hi : Int) : Prop := (∀ r : Nat, (r : Int) < m → rgood q b r (560 * b) hi) ∧ (t = 1 → rgood q b 4 (560 * b) hi)
def good (q : Nat → Int) : Prop := bgood q (q 10).toNat (q 11) (q 12) (560 * q 10 + 560)
def qkm (q : Nat → Int) : Prop := (0 ≤ q 7 ∧ q 7 ≤ 40) ∧ (0 ≤ q 8 ∧ q 8 ≤ 40) ∧ (0 ≤ q 9 ∧ q 9 ≤ 100000) ∧ (0 ≤ q 10 ∧ q 10 ≤ 1) ∧ (0 ≤ q 11 ∧ q 11 ≤ 4) ∧ (0 ≤ q 12 ∧ q 12 ≤ 1) ∧ (0 ≤ q 13 ∧ q 13 ≤ 1) ∧ (0 ≤ q 14 ∧ q 14 ≤ 4) ∧ (0 ≤ q 15 ∧ q 15 ≤ 1) ∧ (0 ≤ q 16 ∧ q 16 ≤ 3) ∧ (0 ≤ q 17 ∧ q 17 ≤ 3) ∧ (0 ≤ q 18 ∧ q 18 ≤ 8) ∧ (0 ≤ q 19 ∧ q 19 ≤ 8) ∧ (0 ≤ q 20 ∧ q 20 ≤ 1120) ∧ (0 ≤ q 21 ∧ q 21 ≤ 90) ∧ (0 ≤ q 22 ∧ q 22 ≤ 7) ∧ (0 ≤ q 23 ∧ q 23 ≤ 30) ∧ (0 ≤ q 24 ∧ q 24 ≤ 90) ∧ (0 ≤ q 25 ∧ q 25 ≤ 90) ∧ (0 ≤ q 26 ∧ q 26 ≤ 1600) ∧ (0 ≤ q 27 ∧ q 27 ≤ 1600) ∧ (0 ≤ q 28 ∧ q 28 ≤ 1601) ∧ (0 ≤ q 29 ∧ q 29 ≤ 5) ∧ (0 ≤ q 30 ∧ q 30 ≤ 5) ∧ ((-9223372036854775808) ≤ q 31 ∧ q 31 ≤ 9223372036854775807) ∧ good q
theorem qkm_7 {q : Nat → Int} (h : qkm q) : 0 ≤ q 7 ∧ q 7 ≤ 40 := h.1
theorem qkm_8 {q : Nat → Int} (h : qkm q) : 0 ≤ q 8 ∧ q 8 ≤ 40 := h.2.1
theorem qkm_9 {q : Nat → Int} (h : qkm q) : 0 ≤ q 9 ∧ q 9 ≤ 100000 := h.2.2.1
theorem qkm_10 {q : Nat → Int} (h : qkm q) : 0 ≤ q 10 ∧ q 10 ≤ 1 := h.2.2.2.1
theorem qkm_11 {q : Nat → Int} (h : qkm q) : 0 ≤ q 11 ∧ q 11 ≤ 4 := h.2.2.2.2.1
theorem qkm_12 {q : Nat → Int} (h : qkm q) : 0 ≤ q 12 ∧ q 12 ≤ 1 := h.2.2.2.2.2.1
theorem qkm_13 {q : Nat → Int} (h : qkm q) : 0 ≤ q 13 ∧ q 13 ≤ 1 := h.2.2.2.2.2.2.1
theorem qkm_14 {q : Nat → Int} (h : qkm q) : 0 ≤ q 14 ∧ q 14 ≤ 4 := h.2.2.2.2.2.2.2.1
theorem qkm_15 {q : Nat → Int} (h : qkm q) : 0 ≤ q 15 ∧ q 15 ≤ 1 := h.2.2.2.2.2.2.2.2.1
theorem qkm_16 {q : Nat → Int} (h : qkm q) : 0 ≤ q 16 ∧ q 16 ≤ 3 := h.2.2.2.2.2.2.2.2.2.1
theorem qkm_17 {q : Nat → Int} (h : qkm q) : 0 ≤ q 17 ∧ q 17 ≤ 3 := h.2.2.2.2.2.2.2.2.2.2.1
theorem qkm_18 {q : Nat → Int} (h : qkm q) : 0 ≤ q 18 ∧ q 18 ≤ 8 := h.2.2.2.2.2.2.2.2.2.2.2.1
theorem qkm_19 {q : Nat → Int} (h : qkm q) : 0 ≤ q 19 ∧ q 19 ≤ 8 := h.2.2.2.2.2.2.2.2.2.2.2.2.1
theorem qkm_20 {q : Nat → Int} (h : qkm q) : 0 ≤ q 20 ∧ q 20 ≤ 1120 := h.2.2.2.2.2.2.2.2.2.2.2.2.2.1
theorem qkm_21 {q : Nat → Int} (h : qkm q) : 0 ≤ q 21 ∧ q 21 ≤ 90 := h.2.2.2.2.2.2.2.2.2.2.2.2.2.2.1
theorem qkm_22 {q : Nat → Int} (h : qkm q) : 0 ≤ q 22 ∧ q 22 ≤ 7 := h.2.2.2.2.2.2.2.2.2.2.2.2.2.2.2.1
theorem qkm_23 {q : Nat → Int} (h : qkm q) : 0 ≤ q 23 ∧ q 23 ≤ 30 := h.2.2.2.2.2.2.2.2.2.2.2.2.2.2.2.2.1
theorem qkm_24 {q : Nat → Int} (h : qkm q) : 0 ≤ q 24 ∧ q 24 ≤ 90 := h.2.2.2.2.2.2.2.2.2.2.2.2.2.2.2.2.2.1
theorem qkm_25 {q : Nat → Int} (h : qkm q) : 0 ≤ q 25 ∧ q 25 ≤ 90 := h.2.2.2.2.2.2.2.2.2.2.2.2.2.2.2.2.2.2.1
theorem qkm_26 {q : Nat → Int} (h : qkm q) : 0 ≤ q 26 ∧ q 26 ≤ 1600 := h.2.2.2.2.2.2.2.2.2.2.2.2.2.2.2.2.2.2.2.1
theorem qkm_27 {q : Nat → Int} (h : qkm q) : 0 ≤ q 27 ∧ q 27 ≤ 1600 := h.2.2.2.2.2.2.2.2.2.2.2.2.2.2.2.2.2.2.2.2.1
theorem qkm_28 {q : Nat → Int} (h : qkm q) : 0 ≤ q 28 ∧ q 28 ≤ 1601 := h.2.2.2.2.2.2.2.2.2.2.2.2.2.2.2.2.2.2.2.2.2.1
theorem qkm_29 {q : Nat → Int} (h : qkm q) : 0 ≤ q 29 ∧ q 29 ≤ 5 := h.2.2.2.2.2.2.2.2.2.2.2.2.2.2.2.2.2.2.2.2.2.2.1
theorem qkm_30 {q : Nat → Int} (h : qkm q) : 0 ≤ q 30 ∧ q 30 ≤ 5 := h.2.2.2.2.2.2.2.2.2.2.2.2.2.2.2.2.2.2.2.2.2.2.2.1
theorem qkm_31 {q : Nat → Int} (h : qkm q) : (-9223372036854775808) ≤ q 31 ∧ q 31 ≤ 9223372036854775807 := h.2.2.2.2.2.2.2.2.2.2.2.2.2.2.2.2.2.2.2.2.2.2.2.2.1
theorem qkm_good {q : Nat → Int} (h : qkm q) : good q := h.2.2.2.2.2.2.2.2.2.2.2.2.2.2.2.2.2.2.2.2.2.2.2.2.2
/-- whose form hangs on number i -/
def kmown (i : Nat) : Option Nat := if i ∈ [7, 8, 9, 13, 20, 21, 22, 23, 26, 27, 28, 29, 30, 31] then some 0 else if i ∈ [16, 17] then some 3 else if i ∈ [11, 14] then some 4 else if i ∈ [18, 19] then some 5 else if i ∈ [24, 25] then some 8 else if i ∈ [12, 15] then some 22 else if 40 ≤ i ∧ i < 44 then some 37 else if 1000 ≤ i ∧ i < 2120 then some 28 else if 2200 ≤ i ∧ i < 2290 then some 30 else if 2300 ≤ i ∧ i < 2390 then some 31 else if 2400 ≤ i ∧ i < 2410 then some 20 else if 2410 ≤ i ∧ i < 2420 then some 21 else if 3000 ≤ i ∧ i < 4600 then some 2 else none
theorem kmown_37 {i : Nat} (h1 : 40 ≤ i) (h2 : i < 44) : kmown i = some 37 := by
  unfold kmown
  rw [if_neg (by simp only [List.mem_cons, List.not_mem_nil, or_false]; omega), if_neg (by simp only [List.mem_cons, List.not_mem_nil, or_false]; omega), if_neg (by simp only [List.mem_cons, List.not_mem_nil, or_false]; omega), if_neg (by simp only [List.mem_cons, List.not_mem_nil, or_false]; omega), if_neg (by simp only [List.mem_cons, List.not_mem_nil, or_false]; omega), if_neg (by simp only [List.mem_cons, List.not_mem_nil, or_false]; omega), if_pos ⟨h1, h2⟩]
theorem kmown_28 {i : Nat} (h1 : 1000 ≤ i) (h2 : i < 2120) : kmown i = some 28 := by
  unfold kmown
  rw [if_neg (by simp only [List.mem_cons, List.not_mem_nil, or_false]; omega), if_neg (by simp only [List.mem_cons, List.not_mem_nil, or_false]; omega), if_neg (by simp only [List.mem_cons, List.not_mem_nil, or_false]; omega), if_neg (by simp only [List.mem_cons, List.not_mem_nil, or_false]; omega), if_neg (by simp only [List.mem_cons, List.not_mem_nil, or_false]; omega), if_neg (by simp only [List.mem_cons, List.not_mem_nil, or_false]; omega), if_neg (by omega), if_pos ⟨h1, h2⟩]
theorem kmown_30 {i : Nat} (h1 : 2200 ≤ i) (h2 : i < 2290) : kmown i = some 30 := by
  unfold kmown
  rw [if_neg (by simp only [List.mem_cons, List.not_mem_nil, or_false]; omega), if_neg (by simp only [List.mem_cons, List.not_mem_nil, or_false]; omega), if_neg (by simp only [List.mem_cons, List.not_mem_nil, or_false]; omega), if_neg (by simp only [List.mem_cons, List.not_mem_nil, or_false]; omega), if_neg (by simp only [List.mem_cons, List.not_mem_nil, or_false]; omega), if_neg (by simp only [List.mem_cons, List.not_mem_nil, or_false]; omega), if_neg (by omega), if_neg (by omega), if_pos ⟨h1, h2⟩]
theorem kmown_31 {i : Nat} (h1 : 2300 ≤ i) (h2 : i < 2390) : kmown i = some 31 := by
  unfold kmown
  rw [if_neg (by simp only [List.mem_cons, List.not_mem_nil, or_false]; omega), if_neg (by simp only [List.mem_cons, List.not_mem_nil, or_false]; omega), if_neg (by simp only [List.mem_cons, List.not_mem_nil, or_false]; omega), if_neg (by simp only [List.mem_cons, List.not_mem_nil, or_false]; omega), if_neg (by simp only [List.mem_cons, List.not_mem_nil, or_false]; omega), if_neg (by simp only [List.mem_cons, List.not_mem_nil, or_false]; omega), if_neg (by omega), if_neg (by omega), if_neg (by omega), if_pos ⟨h1, h2⟩]
theorem kmown_20 {i : Nat} (h1 : 2400 ≤ i) (h2 : i < 2410) : kmown i = some 20 := by
  unfold kmown
  rw [if_neg (by simp only [List.mem_cons, List.not_mem_nil, or_false]; omega), if_neg (by simp only [List.mem_cons, List.not_mem_nil, or_false]; omega), if_neg (by simp only [List.mem_cons, List.not_mem_nil, or_false]; omega), if_neg (by simp only [List.mem_cons, List.not_mem_nil, or_false]; omega), if_neg (by simp only [List.mem_cons, List.not_mem_nil, or_false]; omega), if_neg (by simp only [List.mem_cons, List.not_mem_nil, or_false]; omega), if_neg (by omega), if_neg (by omega), if_neg (by omega), if_neg (by omega), if_pos ⟨h1, h2⟩]
theorem kmown_21 {i : Nat} (h1 : 2410 ≤ i) (h2 : i < 2420) : kmown i = some 21 := by
  unfold kmown
  rw [if_neg (by simp only [List.mem_cons, List.not_mem_nil, or_false]; omega), if_neg (by simp only [List.mem_cons, List.not_mem_nil, or_false]; omega), if_neg (by simp only [List.mem_cons, List.not_mem_nil, or_false]; omega), if_neg (by simp only [List.mem_cons, List.not_mem_nil, or_false]; omega), if_neg (by simp only [List.mem_cons, List.not_mem_nil, or_false]; omega), if_neg (by simp only [List.mem_cons, List.not_mem_nil, or_false]; omega), if_neg (by omega), if_neg (by omega), if_neg (by omega), if_neg (by omega), if_neg (by omega), if_pos ⟨h1, h2⟩]
theorem kmown_2 {i : Nat} (h1 : 3000 ≤ i) (h2 : i < 4600) : kmown i = some 2 := by
  unfold kmown
  rw [if_neg (by simp only [List.mem_cons, List.not_mem_nil, or_false]; omega), if_neg (by simp only [List.mem_cons, List.not_mem_nil, or_false]; omega), if_neg (by simp only [List.mem_cons, List.not_mem_nil, or_false]; omega), if_neg (by simp only [List.mem_cons, List.not_mem_nil, or_false]; omega), if_neg (by simp only [List.mem_cons, List.not_mem_nil, or_false]; omega), if_neg (by simp only [List.mem_cons, List.not_mem_nil, or_false]; omega), if_neg (by omega), if_neg (by omega), if_neg (by omega), if_neg (by omega), if_neg (by omega), if_neg (by omega), if_pos ⟨h1, h2⟩]
theorem km_ext0 {q q2 : Nat → Int} (h10 : q2 10 = q 10) (h : ∀ i, kmown i = some 0 → q2 i = q i) : km q2 0 = km q 0 := by
  have h7 := h 7 (by decide)
  have h8 := h 8 (by decide)
  have h9 := h 9 (by decide)
  have h13 := h 13 (by decide)
  have h20 := h 20 (by decide)
  have h21 := h 21 (by decide)
  have h22 := h 22 (by decide)
  have h23 := h 23 (by decide)
  have h26 := h 26 (by decide)
  have h27 := h 27 (by decide)
  have h28 := h 28 (by decide)
  have h29 := h 29 (by decide)
  have h30 := h 30 (by decide)
  have h31 := h 31 (by decide)
  have hn : nmR q2 = nmR q := by unfold nmR; rw [h31]
  rw [km_0, km_0, hn, h10, h7, h8, h9, h13, h20, h21, h22, h23, h26, h27, h28, h29, h30]
theorem km_ext2 {q q2 : Nat → Int} (h : ∀ i, kmown i = some 2 → q2 i = q i) : km q2 2 = km q 2 := by
  have e : eaF q2 3000 1600 = eaF q 3000 1600 := by
    funext j
    unfold eaF
    by_cases hj : j < 1600
    · rw [if_pos hj, if_pos hj, h (3000 + j) (kmown_2 (Nat.le_add_right _ _) (by omega))]
    · rw [if_neg hj, if_neg hj]
  rw [km_2, km_2, e]
theorem km_ext3 {q q2 : Nat → Int} (h10 : q2 10 = q 10) (h : ∀ i, kmown i = some 3 → q2 i = q i) : km q2 3 = km q 3 := by
  have e : bkF q2 16 17 = bkF q 16 17 := by
    funext j
    unfold bkF
    rw [h10, h 16 (by decide), h 17 (by decide)]
  rw [km_3, km_3, e]
theorem km_ext4 {q q2 : Nat → Int} (h10 : q2 10 = q 10) (h : ∀ i, kmown i = some 4 → q2 i = q i) : km q2 4 = km q 4 := by
  have e : bkF q2 11 14 = bkF q 11 14 := by
    funext j
    unfold bkF
    rw [h10, h 11 (by decide), h 14 (by decide)]
  rw [km_4, km_4, e]
theorem km_ext5 {q q2 : Nat → Int} (h10 : q2 10 = q 10) (h : ∀ i, kmown i = some 5 → q2 i = q i) : km q2 5 = km q 5 := by
  have e : bkF q2 18 19 = bkF q 18 19 := by
    funext j
    unfold bkF
    rw [h10, h 18 (by decide), h 19 (by decide)]
  rw [km_5, km_5, e]
theorem km_ext8 {q q2 : Nat → Int} (h10 : q2 10 = q 10) (h : ∀ i, kmown i = some 8 → q2 i = q i) : km q2 8 = km q 8 := by
  have e : bkF q2 25 24 = bkF q 25 24 := by
    funext j
    unfold bkF
    rw [h10, h 25 (by decide), h 24 (by decide)]
  rw [km_8, km_8, e]
theorem km_ext20 {q q2 : Nat → Int} (h : ∀ i, kmown i = some 20 → q2 i = q i) : km q2 20 = km q 20 := by
  have e : eaF q2 2400 10 = eaF q 2400 10 := by
    funext j
    unfold eaF
    by_cases hj : j < 10
    · rw [if_pos hj, if_pos hj, h (2400 + j) (kmown_20 (Nat.le_add_right _ _) (by omega))]
    · rw [if_neg hj, if_neg hj]
  rw [km_20, km_20, e]
theorem km_ext21 {q q2 : Nat → Int} (h : ∀ i, kmown i = some 21 → q2 i = q i) : km q2 21 = km q 21 := by
  have e : eaF q2 2410 10 = eaF q 2410 10 := by
    funext j
    unfold eaF
    by_cases hj : j < 10
    · rw [if_pos hj, if_pos hj, h (2410 + j) (kmown_21 (Nat.le_add_right _ _) (by omega))]
    · rw [if_neg hj, if_neg hj]
  rw [km_21, km_21, e]
theorem km_ext22 {q q2 : Nat → Int} (h10 : q2 10 = q 10) (h : ∀ i, kmown i = some 22 → q2 i = q i) : km q2 22 = km q 22 := by
  have e : bkF q2 12 15 = bkF q 12 15 := by
    funext j
    unfold bkF
    rw [h10, h 12 (by decide), h 15 (by decide)]
  rw [km_22, km_22, e]
theorem km_ext28 {q q2 : Nat → Int} (h : ∀ i, kmown i = some 28 → q2 i = q i) : km q2 28 = km q 28 := by
  have e : eaF q2 1000 1120 = eaF q 1000 1120 := by
    funext j
    unfold eaF
    by_cases hj : j < 1120
    · rw [if_pos hj, if_pos hj, h (1000 + j) (kmown_28 (Nat.le_add_right _ _) (by omega))]
    · rw [if_neg hj, if_neg hj]
  rw [km_28, km_28, e]
theorem km_ext30 {q q2 : Nat → Int} (h : ∀ i, kmown i = some 30 → q2 i = q i) : km q2 30 = km q 30 := by
  have e : eaF q2 2200 90 = eaF q 2200 90 := by
    funext j
    unfold eaF
    by_cases hj : j < 90
    · rw [if_pos hj, if_pos hj, h (2200 + j) (kmown_30 (Nat.le_add_right _ _) (by omega))]
    · rw [if_neg hj, if_neg hj]
  rw [km_30, km_30, e]
theorem km_ext31 {q q2 : Nat → Int} (h : ∀ i, kmown i = some 31 → q2 i = q i) : km q2 31 = km q 31 := by
  have e : eaF q2 2300 90 = eaF q 2300 90 := by
    funext j
    unfold eaF
    by_cases hj : j < 90
    · rw [if_pos hj, if_pos hj, h (2300 + j) (kmown_31 (Nat.le_add_right _ _) (by omega))]
    · rw [if_neg hj, if_neg hj]
  rw [km_31, km_31, e]
theorem km_ext37 {q q2 : Nat → Int} (h : ∀ i, kmown i = some 37 → q2 i = q i) : km q2 37 = km q 37 := by
  have e : eaF q2 40 4 = eaF q 40 4 := by
    funext j
    unfold eaF
    by_cases hj : j < 4
    · rw [if_pos hj, if_pos hj, h (40 + j) (kmown_37 (Nat.le_add_right _ _) (by omega))]
    · rw [if_neg hj, if_neg hj]
  rw [km_37, km_37, e]
theorem km_ext {q q2 : Nat → Int} (h10 : q2 10 = q 10) : ∀ k : Nat, (∀ i, kmown i = some k → q2 i = q i) → km q2 k = km q k := fun k h => match k, h with
  | 0, h => km_ext0 h10 h
  | 1, h => rfl
  | 2, h => km_ext2 h
  | 3, h => km_ext3 h10 h
  | 4, h => km_ext4 h10 h
  | 5, h => km_ext5 h10 h
  | 6, h => rfl
  | 7, h => rfl
  | 8, h => km_ext8 h10 h
  | 9, h => rfl
  | 10, h => rfl
  | 11, h => rfl
  | 12, h => rfl
  | 13, h => rfl
  | 14, h => rfl
  | 15, h => rfl
  | 16, h => rfl
  | 17, h => rfl
  | 18, h => rfl
  | 19, h => rfl
  | 20, h => km_ext20 h
  | 21, h => km_ext21 h
  | 22, h => km_ext22 h10 h
  | 23, h => rfl
  | 24, h => rfl
  | 25, h => rfl
  | 26, h => rfl
  | 27, h => rfl
  | 28, h => km_ext28 h
  | 29, h => rfl
  | 30, h => km_ext30 h
  | 31, h => km_ext31 h
  | 32, h => rfl
  | 33, h => rfl
  | 34, h => rfl
  | 35, h => rfl
  | 36, h => rfl
  | 37, h => km_ext37 h
  | 38, h => rfl
  | 39, h => rfl
  | 40, h => rfl
  | 41, h => rfl
  | 42, h => rfl
  | 43, h => rfl
  | 44, h => rfl
  | _ + 45, _ => rfl
theorem km_up {q : Nat → Int} {i k : Nat} (z : Int) (hi : i ≠ 10) (ho : kmown i = some k) : ∀ k2 : Nat, k2 ≠ k → km (qup q i z) k2 = km q k2 := fun k2 h => km_ext (if_neg (Ne.symm hi)) k2 (fun j hj => if_neg (fun e => h (by rw [e, ho] at hj; exact (Option.some.inj hj).symm)))
