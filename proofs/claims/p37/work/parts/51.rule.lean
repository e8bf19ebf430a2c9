/-! a rule is read: the pile of signs, the codes, and what they cost -/
def bb (a : Int) : Int := if a = 1 ∨ a = 2 ∨ a = 4 ∨ a = 5 ∨ a = 6 then 1 else 0
def ww (a : Int) : Int := if a = 3 ∨ a = 7 then 1 else 0
def nn (a : Int) : Int := if a = 3 then 1 else 0
def cb (q : Nat → Int) : Nat → Int
  | 0 => 0
  | n + 1 => cb q n + bb (q (2200 + n))
def cw (q : Nat → Int) : Nat → Int
  | 0 => 0
  | n + 1 => cw q n + ww (q (2200 + n))
def cn (q : Nat → Int) : Nat → Int
  | 0 => 0
  | n + 1 => cn q n + nn (q (2200 + n))
theorem cnt_ext {q q2 : Nat → Int} : ∀ n : Nat, (∀ j, j < n → q2 (2200 + j) = q (2200 + j)) → cb q2 n = cb q n ∧ cw q2 n = cw q n ∧ cn q2 n = cn q n
  | 0, _ => ⟨rfl, rfl, rfl⟩
  | n + 1, h => by
    obtain ⟨h1, h2, h3⟩ := cnt_ext n (fun j hj => h j (by omega))
    have h4 := h n (by omega)
    refine ⟨?_, ?_, ?_⟩
    · show cb q2 n + bb (q2 (2200 + n)) = cb q n + bb (q (2200 + n))
      rw [h1, h4]
    · show cw q2 n + ww (q2 (2200 + n)) = cw q n + ww (q (2200 + n))
      rw [h2, h4]
    · show cn q2 n + nn (q2 (2200 + n)) = cn q n + nn (q (2200 + n))
      rw [h3, h4]
theorem bb_r (a : Int) : 0 ≤ bb a ∧ bb a ≤ 1 := by unfold bb; split <;> omega
theorem ww_r (a : Int) : 0 ≤ ww a ∧ ww a ≤ 1 := by unfold ww; split <;> omega
theorem nn_r (a : Int) : 0 ≤ nn a ∧ nn a ≤ ww a := by unfold nn ww; split <;> split <;> omega
theorem cnt_pos (q : Nat → Int) : ∀ n : Nat, 0 ≤ cb q n ∧ 0 ≤ cn q n ∧ cn q n ≤ cw q n
  | 0 => ⟨Int.le_refl _, Int.le_refl _, Int.le_refl _⟩
  | n + 1 => by
    obtain ⟨h1, h2, h3⟩ := cnt_pos q n
    have a1 := bb_r (q (2200 + n))
    have a2 := nn_r (q (2200 + n))
    show 0 ≤ cb q n + bb (q (2200 + n)) ∧ 0 ≤ cn q n + nn (q (2200 + n)) ∧ cn q n + nn (q (2200 + n)) ≤ cw q n + ww (q (2200 + n))
    omega
def ok2 (a s : Int) : Prop := (a = 3 ∧ s = 126) ∨ a = 7 ∨ ((a = 1 ∨ a = 2 ∨ a = 4 ∨ a = 5 ∨ a = 6) ∧ s ≠ 126 ∧ (s < 97 ∨ 122 < s))
def PL (q : Nat → Int) (n : Nat) : Prop := (1 ≤ n → q 2200 = 8) ∧ ∀ j : Nat, 1 ≤ j → j < n → ok2 (q (2200 + j)) (q (2300 + j))
def AC (q : Nat → Int) : Prop := ∃ O B N : Int, q 20 - 560 * q 13 = O + B + N ∧ 0 ≤ B ∧ B ≤ O ∧ O ≤ q 24 ∧ q 24 ≤ 90 ∧ 0 ≤ N ∧ 4 * N + B ≤ q 27
/-- w = 1: a unit is wanted; the rule's codes begin at q 35 -/
def RS (q : Nat → Int) (w : Int) : Prop := (0 ≤ q 21 ∧ q 21 ≤ 90) ∧ PL q (q 21).toNat ∧ q 22 = cw q (q 21).toNat ∧ q 22 ≤ 7 ∧ 560 * q 13 ≤ q 35 ∧ cinv q (q 35) (cb q (q 21).toNat + 1 - w) (q 20) ∧ cb q (q 21).toNat + 1 - w ≤ q 23 ∧ q 23 ≤ 30 ∧ ((q 21 = 0 ∧ w = 0) ∨ q 21 = 1 + q 22 + cb q (q 21).toNat) ∧
  ∃ O B N : Int, q 20 - 560 * q 13 + cb q (q 21).toNat + cn q (q 21).toNat = O + B + N ∧ 0 ≤ B ∧ B + 1 - w ≤ O ∧ O ≤ q 24 ∧ q 24 ≤ 90 ∧ 0 ≤ N ∧ 4 * N + B ≤ q 27 + w ∧ (q 29 = 3 → 4 * N + B ≤ q 27)
def pushq (q : Nat → Int) (a s : Int) : Nat → Int := qup (qup (qup q (2200 + (q 21).toNat) a) (2300 + (q 21).toNat) s) 21 (q 21 + 1)
def emitq (q : Nat → Int) (c : Int) : Nat → Int := qup (qup q (1000 + (q 20).toNat) c) 20 (q 20 + 1)
theorem pushq_of {q q1 q2 q3 : Nat → Int} {i j : Nat} {z1 z2 z3 a s : Int} (e1 : q1 = qup q (2200 + i) z1) (e2 : q2 = qup q1 (2300 + j) z2) (e3 : q3 = qup q2 21 z3) (hi : i = (q 21).toNat) (hj : j = (q 21).toNat) (h1 : z1 = a) (h2 : z2 = s) (h3 : z3 = q 21 + 1) : q3 = pushq q a s := by
  rw [e3, e2, e1, hi, hj, h1, h2, h3]
  rfl
theorem emitq_of {q q1 q2 : Nat → Int} {i : Nat} {z1 z2 c : Int} (e1 : q1 = qup q (1000 + i) z1) (e2 : q2 = qup q1 20 z2) (hi : i = (q 20).toNat) (h1 : z1 = c) (h2 : z2 = q 20 + 1) : q2 = emitq q c := by
  rw [e2, e1, hi, h1, h2]
  rfl
theorem pushq_s {q : Nat → Int} {a s : Int} {i : Nat} (hi : i < 1000) (h : i ≠ 21) : pushq q a s i = q i := by
  unfold pushq
  exact (if_neg h).trans ((if_neg (by omega)).trans (if_neg (by omega)))
theorem pushq_21 {q : Nat → Int} {a s : Int} : pushq q a s 21 = q 21 + 1 := by unfold pushq; exact if_pos rfl
theorem pushq_b {q : Nat → Int} {a s : Int} {i : Nat} (hi : 1000 ≤ i) (h1 : i ≠ 2200 + (q 21).toNat) (h2 : i ≠ 2300 + (q 21).toNat) : pushq q a s i = q i := by
  unfold pushq
  exact (if_neg (by omega)).trans ((if_neg h2).trans (if_neg h1))
theorem pushq_w {q : Nat → Int} {a s : Int} (h : (q 21).toNat < 100) : pushq q a s (2200 + (q 21).toNat) = a := by
  unfold pushq
  exact (if_neg (by omega)).trans ((if_neg (by omega)).trans (if_pos rfl))
theorem pushq_g {q : Nat → Int} {a s : Int} : pushq q a s (2300 + (q 21).toNat) = s := by
  unfold pushq
  exact (if_neg (by omega)).trans (if_pos rfl)
theorem emitq_s {q : Nat → Int} {c : Int} {i : Nat} (hi : i < 1000) (h : i ≠ 20) : emitq q c i = q i := by
  unfold emitq
  exact (if_neg h).trans (if_neg (by omega))
theorem emitq_20 {q : Nat → Int} {c : Int} : emitq q c 20 = q 20 + 1 := by unfold emitq; exact if_pos rfl
theorem emitq_b {q : Nat → Int} {c : Int} {i : Nat} (hi : 1000 ≤ i) (h1 : i ≠ 1000 + (q 20).toNat) : emitq q c i = q i := by
  unfold emitq
  exact (if_neg (by omega)).trans (if_neg h1)
theorem emitq_c {q : Nat → Int} {c : Int} : emitq q c (1000 + (q 20).toNat) = c := by
  unfold emitq
  exact (if_neg (by omega)).trans (if_pos rfl)
theorem cinv_ext {q q2 : Nat → Int} {f n k : Int} (h0 : 0 ≤ f) (hc : ∀ j : Nat, f ≤ j → (j : Int) < k → q2 (1000 + j) = q (1000 + j)) (h : cinv q f n k) : cinv q2 f n k := by
  obtain ⟨h1, h2, h3⟩ := h
  refine ⟨h1, h2, ?_⟩
  rw [dp_ext _ (fun j a1 a2 => hc j (by omega) (by omega))]
  exact h3
/-- a code more -/
theorem cinv_emit {q q2 : Nat → Int} {f n k c n2 : Int} (h0 : 0 ≤ f) (h : cinv q f n k) (hb : ∀ j : Nat, f ≤ j → (j : Int) < k → q2 (1000 + j) = q (1000 + j)) (hc : q2 (1000 + k.toNat) = c) (hn : (c = 126 ∧ 1 ≤ n ∧ n2 = n) ∨ (97 ≤ c ∧ c ≤ 122 ∧ n ≤ 59 ∧ n2 = n + 1) ∨ (c ≠ 126 ∧ (c < 97 ∨ 122 < c) ∧ 2 ≤ n ∧ n2 = n - 1)) : cinv q2 f n2 (k + 1) := by
  obtain ⟨h1, h2, h3⟩ := cinv_ext h0 hb h
  refine ⟨by omega, by omega, ?_⟩
  have e1 : (k + 1 - f).toNat = (k - f).toNat + 1 := by omega
  rw [e1]
  unfold dp
  rw [h3]
  simp only
  have e2 : 1000 + (f.toNat + (k - f).toNat) = 1000 + k.toNat := by omega
  rw [e2, hc]
  rcases hn with ⟨a1, a2, a3⟩ | ⟨a1, a2, a3, a4⟩ | ⟨a1, a2, a3, a4⟩
  · rw [if_pos a1, if_pos (by omega)]
    congr 1; omega
  · rw [if_neg (by omega), if_pos ⟨a1, a2⟩, if_pos (by omega)]
    congr 1; omega
  · rw [if_neg a1, if_neg (by omega), if_pos (by omega)]
    congr 1; omega
theorem RS_piled {q : Nat → Int} {w : Int} (h : RS q w) (hw : 0 ≤ w ∧ w ≤ 1) : q 21 ≤ 39 := by
  obtain ⟨h1, h2, h3, h4, h5, h6, h7, h8, h9, _⟩ := h
  omega
/-- room for an operand's code, behind its units are counted -/
theorem RS_room1 {q : Nat → Int} (h : RS q 1) (h24 : q 24 ≤ 89) (ha : q 27 ≤ 1600) : 560 * q 13 ≤ q 20 ∧ q 20 ≤ 560 * q 13 + 559 := by
  obtain ⟨h1, h2, h3, h4, h5, h6, h7, h8, h9, O, B, N, a1, a2, a3, a4, a5, a6, a7, a8⟩ := h
  have c1 := cnt_pos q (q 21).toNat
  have := h6.1
  omega
/-- room for the code of a sign on the pile -/
theorem RS_room0 {q : Nat → Int} (h : RS q 0) (ha : q 27 ≤ 1600) (hp : 1 ≤ cb q (q 21).toNat + cn q (q 21).toNat) : 560 * q 13 ≤ q 20 ∧ q 20 ≤ 560 * q 13 + 559 := by
  obtain ⟨h1, h2, h3, h4, h5, h6, h7, h8, h9, O, B, N, a1, a2, a3, a4, a5, a6, a7, a8⟩ := h
  have := h6.1
  omega
/-- not, or a bracket, onto the pile -/
theorem RS_push {q qc qe : Nat → Int} {a u : Int} (h20 : q 20 ≤ 1120) (h : RS q 1) (hf : 0 ≤ q 35) (hbig : ∀ i, 1000 ≤ i → qc i = q i) (e13 : qc 13 = q 13) (e20 : qc 20 = q 20) (e21 : qc 21 = q 21) (e35 : qc 35 = q 35) (e23 : qc 23 = q 23 + u) (e24 : qc 24 = q 24 + u) (h23 : q 23 + u ≤ 30) (h24 : q 24 + u ≤ 90) (hu : 0 ≤ u) (hw : q 22 ≤ 6) (hn : 1 ≤ q 21) (hadv : q 28 ≤ qc 27) (hat : q 27 < q 28) (ha : (a = 3 ∧ q 29 = 3 ∧ q 27 + 3 ≤ q 28 ∧ (qc 29 = 3 → q 28 + 1 ≤ qc 27)) ∨ a = 7) (he : qe = qup (pushq qc a 126) 22 (q 22 + 1)) : RS qe 1 := by
  have hp := RS_piled h (by decide)
  obtain ⟨⟨p0, p1⟩, h2, h3, h4, h5, h6, h7, h8, h9, O, B, N, a1, a2, a3, a4, a5, a6, a7, a8⟩ := h
  have g : ∀ i, i < 1000 → i ≠ 21 → i ≠ 22 → qe i = qc i := fun i k1 k2 k3 => by rw [he]; exact (if_neg k3).trans (pushq_s k1 k2)
  have g21 : qe 21 = q 21 + 1 := by rw [he]; exact (if_neg (by decide)).trans (pushq_21.trans (by rw [e21]))
  have g22 : qe 22 = q 22 + 1 := by rw [he]; exact if_pos rfl
  have gb : ∀ i, 1000 ≤ i → i ≠ 2200 + (q 21).toNat → i ≠ 2300 + (q 21).toNat → qe i = q i := fun i k1 k2 k3 => by
    rw [he]; exact (if_neg (by omega)).trans ((pushq_b k1 (by rw [e21]; exact k2) (by rw [e21]; exact k3)).trans (hbig i k1))
  have gw : qe (2200 + (q 21).toNat) = a := by
    rw [he]; refine (if_neg (by omega)).trans ?_
    rw [← e21]; exact pushq_w (by rw [e21]; omega)
  have gs : qe (2300 + (q 21).toNat) = 126 := by
    rw [he]; refine (if_neg (by omega)).trans ?_
    rw [← e21]; exact pushq_g
  have en : (qe 21).toNat = (q 21).toNat + 1 := by rw [g21]; omega
  obtain ⟨x1, x2, x3⟩ := cnt_ext (q := q) (q2 := qe) (q 21).toNat (fun j hj => gb _ (by omega) (by omega) (by omega))
  have y1 : cb qe ((q 21).toNat + 1) = cb q (q 21).toNat + bb a := by show cb qe (q 21).toNat + bb (qe (2200 + (q 21).toNat)) = _; rw [x1, gw]
  have y2 : cw qe ((q 21).toNat + 1) = cw q (q 21).toNat + ww a := by show cw qe (q 21).toNat + ww (qe (2200 + (q 21).toNat)) = _; rw [x2, gw]
  have y3 : cn qe ((q 21).toNat + 1) = cn q (q 21).toNat + nn a := by show cn qe (q 21).toNat + nn (qe (2200 + (q 21).toNat)) = _; rw [x3, gw]
  have b0 : bb a = 0 := by unfold bb; rw [if_neg (by omega)]
  have w1 : ww a = 1 := by unfold ww; rw [if_pos (by omega)]
  have g13 := g 13 (by decide) (by decide) (by decide)
  have g20 := g 20 (by decide) (by decide) (by decide)
  have g23 := g 23 (by decide) (by decide) (by decide)
  have g24 := g 24 (by decide) (by decide) (by decide)
  have g27 := g 27 (by decide) (by decide) (by decide)
  have g29 := g 29 (by decide) (by decide) (by decide)
  have g35 := g 35 (by decide) (by decide) (by decide)
  unfold RS
  rw [en, y1, y2, y3, b0, w1, g21, g22, g13, g20, g23, g24, g27, g29, g35, e13, e20, e23, e24, e35]
  refine ⟨⟨by omega, by omega⟩, ⟨fun _ => ?_, fun j j1 j2 => ?_⟩, by omega, by omega, h5, ?_, by omega, by omega, Or.inr (by omega), ?_⟩
  · rw [gb 2200 (by decide) (by omega) (by omega)]
    exact h2.1 (by omega)
  · by_cases hj : j < (q 21).toNat
    · rw [gb _ (by omega) (by omega) (by omega), gb _ (by omega) (by omega) (by omega)]
      exact h2.2 j j1 hj
    · have : j = (q 21).toNat := by omega
      rw [this, gw, gs]
      rcases ha with ha | ha
      · exact Or.inl ⟨ha.1, rfl⟩
      · exact Or.inr (Or.inl ha)
  · have := cinv_ext (q2 := qe) (by omega) (fun j j1 j2 => gb _ (by omega) (by have := h6.1; omega) (by omega)) h6
    have e : cb q (q 21).toNat + 0 + 1 - 1 = cb q (q 21).toNat + 1 - 1 := by omega
    rw [e]
    exact this
  · rcases ha with ⟨k1, k2, k3, k4⟩ | k1
    · have n1 : nn a = 1 := by unfold nn; rw [if_pos k1]
      exact ⟨O, B, N + 1, by omega, a2, a3, by omega, h24, by omega, by omega, fun k => by have := k4 k; have := a8 k2; omega⟩
    · have n1 : nn a = 0 := by unfold nn; rw [if_neg (by omega)]
      exact ⟨O, B, N, by omega, a2, a3, by omega, h24, a6, by omega, fun k => by omega⟩
/-- an operand's code -/
theorem RS_operand {q qc qe : Nat → Int} {c : Int} (h : RS q 1) (hf : 0 ≤ q 35) (hbig : ∀ i, 1000 ≤ i → qc i = q i) (e13 : qc 13 = q 13) (e20 : qc 20 = q 20) (e21 : qc 21 = q 21) (e22 : qc 22 = q 22) (e35 : qc 35 = q 35) (e23 : qc 23 = q 23 + 1) (e24 : qc 24 = q 24 + 1) (h23 : q 23 + 1 ≤ 30) (h24 : q 24 + 1 ≤ 90) (hadv : q 28 ≤ qc 27) (hat : q 27 < q 28) (hr : q 20 ≤ 560 * q 13 + 559 ∧ q 13 ≤ 1) (hc : 97 ≤ c ∧ c ≤ 122) (hn : 1 ≤ q 21) (he : qe = emitq qc c) : RS qe 0 := by
  have hp := RS_piled h (by decide)
  obtain ⟨⟨p0, p1⟩, h2, h3, h4, h5, h6, h7, h8, h9, O, B, N, a1, a2, a3, a4, a5, a6, a7, a8⟩ := h
  have k20 := h6.1
  have g : ∀ i, i < 1000 → i ≠ 20 → qe i = qc i := fun i k1 k2 => by rw [he]; exact emitq_s k1 k2
  have g20 : qe 20 = q 20 + 1 := by rw [he, emitq_20, e20]
  have gb : ∀ i, 1000 ≤ i → i ≠ 1000 + (q 20).toNat → qe i = q i := fun i k1 k2 => by rw [he, emitq_b k1 (by rw [e20]; exact k2)]; exact hbig i k1
  have gc : qe (1000 + (q 20).toNat) = c := by rw [he, ← e20]; exact emitq_c
  have g13 := g 13 (by decide) (by decide)
  have g21 := g 21 (by decide) (by decide)
  have g22 := g 22 (by decide) (by decide)
  have g23 := g 23 (by decide) (by decide)
  have g24 := g 24 (by decide) (by decide)
  have g27 := g 27 (by decide) (by decide)
  have g29 := g 29 (by decide) (by decide)
  have g35 := g 35 (by decide) (by decide)
  obtain ⟨x1, x2, x3⟩ := cnt_ext (q := q) (q2 := qe) (q 21).toNat (fun j hj => gb _ (by omega) (by omega))
  unfold RS
  rw [g21, g22, g13, g20, g23, g24, g27, g29, g35, e21, e22, e13, e23, e24, e35, x1, x2, x3]
  refine ⟨⟨p0, p1⟩, ⟨fun k => ?_, fun j j1 j2 => ?_⟩, h3, h4, h5, ?_, by omega, by omega, Or.inr (by omega), O + 1, B, N, by omega, a2, by omega, by omega, h24, a6, by omega, fun k => by omega⟩
  · rw [gb 2200 (by decide) (by omega)]
    exact h2.1 k
  · rw [gb _ (by omega) (by omega), gb _ (by omega) (by omega)]
    exact h2.2 j j1 j2
  · refine cinv_emit (c := c) hf h6 (fun j j1 j2 => gb _ (by omega) (by omega)) gc (Or.inr (Or.inl ⟨hc.1, hc.2, ?_, ?_⟩))
    · omega
    · omega
/-- a sign from the pile becomes a code -/
theorem RS_pop {q qb qe : Nat → Int} {n : Nat} {a z : Int} (h : RS q 0) (hf : 0 ≤ q 35) (hn : (q 21).toNat = n + 1) (ha : a = q (2200 + n)) (ha6 : a ≤ 6) (hz : (a = 3 ∧ z = q 22 - 1) ∨ (a ≠ 3 ∧ z = q 22)) (hbig : ∀ i, 1000 ≤ i → qb i = q i) (e13 : qb 13 = q 13) (e20 : qb 20 = q 20) (e21 : qb 21 = q 21 - 1) (e22 : qb 22 = z) (e35 : qb 35 = q 35) (e23 : qb 23 = q 23) (e24 : qb 24 = q 24) (e27 : qb 27 = q 27) (hr : q 20 ≤ 560 * q 13 + 559 ∧ q 13 ≤ 1) (he : qe = emitq qb (q (2300 + n))) : RS qe 0 := by
  have hp := RS_piled h (by decide)
  obtain ⟨⟨p0, p1⟩, h2, h3, h4, h5, h6, h7, h8, h9, O, B, N, a1, a2, a3, a4, a5, a6, a7, a8⟩ := h
  have k20 := h6.1
  have hn0 : 1 ≤ n := by
    by_cases hz : n = 0
    · have := h2.1 (by omega)
      rw [hz] at ha
      have : a = 8 := by rw [ha]; exact this
      omega
    · omega
  have hok := h2.2 n hn0 (by omega)
  rw [← ha] at hok
  have g : ∀ i, i < 1000 → i ≠ 20 → qe i = qb i := fun i k1 k2 => by rw [he]; exact emitq_s k1 k2
  have g20 : qe 20 = q 20 + 1 := by rw [he, emitq_20, e20]
  have gb : ∀ i, 1000 ≤ i → i ≠ 1000 + (q 20).toNat → qe i = q i := fun i k1 k2 => by rw [he, emitq_b k1 (by rw [e20]; exact k2)]; exact hbig i k1
  have gc : qe (1000 + (q 20).toNat) = q (2300 + n) := by
    have := emitq_c (q := qb) (c := q (2300 + n))
    rw [e20] at this
    rw [he]; exact this
  have g13 := g 13 (by decide) (by decide)
  have g21 := g 21 (by decide) (by decide)
  have g22 := g 22 (by decide) (by decide)
  have g23 := g 23 (by decide) (by decide)
  have g24 := g 24 (by decide) (by decide)
  have g27 := g 27 (by decide) (by decide)
  have g35 := g 35 (by decide) (by decide)
  have en : (qe 21).toNat = n := by rw [g21, e21]; omega
  obtain ⟨x1, x2, x3⟩ := cnt_ext (q := q) (q2 := qe) n (fun j hj => gb _ (by omega) (by omega))
  rw [hn] at h3 h6 h7 h9 a1
  have y1 : cb q (n + 1) = cb q n + bb a := by rw [ha]; rfl
  have y2 : cw q (n + 1) = cw q n + ww a := by rw [ha]; rfl
  have y3 : cn q (n + 1) = cn q n + nn a := by rw [ha]; rfl
  rw [y1] at h6 h7 h9 a1
  rw [y2] at h3
  rw [y3] at a1
  have c1 := cnt_pos q n
  have hq21 : qe 21 = q 21 - 1 := by rw [g21, e21]
  unfold RS
  rw [en, x1, x2, x3, hq21, g22, g13, g20, g23, g24, g27, g35, e22, e13, e23, e24, e27, e35]
  have hsp : (a = 3 ∧ q (2300 + n) = 126 ∧ bb a = 0 ∧ ww a = 1 ∧ nn a = 1) ∨ (a ≠ 3 ∧ q (2300 + n) ≠ 126 ∧ (q (2300 + n) < 97 ∨ 122 < q (2300 + n)) ∧ bb a = 1 ∧ ww a = 0 ∧ nn a = 0) := by
    rcases hok with ⟨k1, k2⟩ | k1 | ⟨k1, k2, k3⟩
    · exact Or.inl ⟨k1, k2, by unfold bb; rw [if_neg (by omega)], by unfold ww; rw [if_pos (by omega)], by unfold nn; rw [if_pos k1]⟩
    · omega
    · exact Or.inr ⟨by omega, k2, k3, by unfold bb; rw [if_pos k1], by unfold ww; rw [if_neg (by omega)], by unfold nn; rw [if_neg (by omega)]⟩
  have hpl : PL qe n := ⟨fun _ => by rw [gb 2200 (by decide) (by omega)]; exact h2.1 (by omega), fun j j1 j2 => by rw [gb _ (by omega) (by omega), gb _ (by omega) (by omega)]; exact h2.2 j j1 (by omega)⟩
  rcases hsp with ⟨k1, k2, k3, k4, k5⟩ | ⟨k1, k2, k3, k4, k5, k6⟩
  · rw [k3] at h6 h7 h9 a1
    rw [k4] at h3
    rw [k5] at a1
    refine ⟨⟨by omega, by omega⟩, hpl, by omega, by omega, h5, ?_, by omega, h8, Or.inr (by omega), O, B, N, by omega, a2, by omega, a4, a5, a6, by omega, fun k => by omega⟩
    exact cinv_emit (c := q (2300 + n)) hf h6 (fun j j1 j2 => gb _ (by omega) (by omega)) gc (Or.inl ⟨k2, by omega, by omega⟩)
  · rw [k4] at h6 h7 h9 a1
    rw [k5] at h3
    rw [k6] at a1
    refine ⟨⟨by omega, by omega⟩, hpl, by omega, by omega, h5, ?_, by omega, h8, Or.inr (by omega), O, B, N, by omega, a2, by omega, a4, a5, a6, by omega, fun k => by omega⟩
    exact cinv_emit (c := q (2300 + n)) hf h6 (fun j j1 j2 => gb _ (by omega) (by omega)) gc (Or.inr (Or.inr ⟨k2, k3, by omega, by omega⟩))
/-! what is kept while a rule is read -/
def bg (q q2 : Nat → Int) : Prop := ∀ i : Nat, 1000 ≤ i → q2 i = q i
theorem bg_rf {q : Nat → Int} : bg q q := fun _ _ => rfl
theorem bg_tr {q q2 q3 : Nat → Int} (h1 : bg q q2) (h2 : bg q2 q3) : bg q q3 := fun i hi => (h2 i hi).trans (h1 i hi)
theorem bg_up {q q2 q3 : Nat → Int} {i : Nat} {z : Int} (h : bg q q2) (e : q3 = qup q2 i z) (hi : i < 1000) : bg q q3 := fun j hj => by rw [e]; exact (if_neg (by omega)).trans (h j hj)
theorem bg_fr {q q2 q3 : Nat → Int} {S : List Nat} (h : bg q q2) (hf : fr S q2 q3) (hs : ∀ x ∈ S, x < 1000) : bg q q3 := fun i hi => (hf i (fun e => by have := hs i e; omega) (Or.inr (fun e => by have := hs _ e; omega))).trans (h i hi)
/-- the codes below f, the rules and the text stay -/
def kp (q q2 : Nat → Int) (f : Int) : Prop := ∀ i : Nat, 1000 ≤ i → ((i : Int) < 1000 + f ∨ 2400 ≤ i) → q2 i = q i
theorem kp_bg {q q2 : Nat → Int} {f : Int} (h : bg q q2) : kp q q2 f := fun i h1 _ => h i h1
theorem kp_tr {q q2 q3 : Nat → Int} {f : Int} (h : kp q q2 f) (h2 : kp q2 q3 f) : kp q q3 f := fun i h3 h4 => (h2 i h3 h4).trans (h i h3 h4)
theorem kp_push {q q2 : Nat → Int} {f a s : Int} (e : q2 = pushq q a s) (h : q 21 ≤ 90) (hf : f ≤ 1200) : kp q q2 f := fun i h1 h2 => by rw [e]; exact pushq_b h1 (by omega) (by omega)
theorem kp_emit {q q2 : Nat → Int} {f c : Int} (e : q2 = emitq q c) (h : q 20 ≤ 1120) (hf : f ≤ q 20) (h0 : 0 ≤ f) : kp q q2 f := fun i h1 h2 => by rw [e]; exact emitq_b h1 (by omega)
/-- the text stays -/
def tx (q q2 : Nat → Int) : Prop := ∀ i : Nat, 3000 ≤ i → q2 i = q i
theorem tx_kp {q q2 : Nat → Int} {f : Int} (h : kp q q2 f) : tx q q2 := fun i hi => h i (by omega) (Or.inr (by omega))
theorem tx_bg {q q2 : Nat → Int} (h : bg q q2) : tx q q2 := fun i hi => h i (by omega)
theorem tx_tr {q q2 q3 : Nat → Int} (h : tx q q2) (h2 : tx q2 q3) : tx q q3 := fun i hi => (h2 i hi).trans (h i hi)
theorem tx_up {q q2 : Nat → Int} {i : Nat} {z : Int} (e : q2 = qup q i z) (hi : i < 3000) : tx q q2 := fun j hj => by rw [e]; exact if_neg (by omega)
def NL (q : Nat → Int) : Prop := q 29 = 3 → sg q (q 28) < 97 ∨ 122 < sg q (q 28)
theorem NL_tx {q q2 : Nat → Int} (h : NL q) (ht : tx q q2) (e26 : q2 26 = q 26) (e28 : q2 28 = q 28) (e29 : q2 29 = q 29) : NL q2 := by
  intro h3
  have h4 := h (by omega)
  have e : sg q2 (q2 28) = sg q (q 28) := by
    rw [sg_def, sg_def, e26, e28, ht _ (by omega)]
  rw [e]
  exact h4
theorem sg_tx {q q2 : Nat → Int} {k k2 x : Int} (h : x = sg q2 k) (ht : tx q q2) (e26 : q2 26 = q 26) (e : k = k2) : x = sg q k2 := by
  rw [h, ← e, sg_def, sg_def, e26, ht _ (by omega)]
theorem PL_pos {q : Nat → Int} {n i : Nat} {x : Int} (h : PL q n) (hn : 1 ≤ n) (hx : x = q (2200 + i)) (hne : x ≠ 8) : 1 ≤ i := by
  by_cases hi : i = 0
  · rw [hi] at hx
    exact absurd (hx.trans (h.1 hn)) hne
  · omega
theorem RS_PL {q : Nat → Int} {w : Int} (h : RS q w) : PL q (q 21).toNat := h.2.1
theorem RS_lo {q : Nat → Int} {w : Int} (h : RS q w) : 560 * q 13 ≤ q 35 ∧ q 35 ≤ q 20 ∧ q 22 ≤ 7 := ⟨h.2.2.2.2.1, h.2.2.2.2.2.1.1, h.2.2.2.1⟩
theorem RS_in {q : Nat → Int} {w : Int} {n : Nat} (h : RS q w) (hn : (q 21).toNat = n + 1) (ha : q (2200 + n) = 3 ∨ q (2200 + n) = 7) : 1 ≤ q 22 := by
  have h3 := h.2.2.1
  rw [hn] at h3
  have e : cw q (n + 1) = cw q n + ww (q (2200 + n)) := rfl
  have e2 : ww (q (2200 + n)) = 1 := by unfold ww; rw [if_pos ha]
  have := cnt_pos q n
  omega
theorem RS_low {q : Nat → Int} {n : Nat} (h : RS q 0) (hn : (q 21).toNat = n + 1) (ha : q (2200 + n) ≤ 6) (h27 : q 27 ≤ 1600) : 560 * q 13 ≤ q 20 ∧ q 20 ≤ 560 * q 13 + 559 ∧ 1 ≤ n := by
  have hn0 : 1 ≤ n := by
    by_cases hz : n = 0
    · have := h.2.1.1 (by omega)
      rw [hz] at ha
      have e : q (2200 + 0) = 8 := this
      omega
    · omega
  have hok := h.2.1.2 n hn0 (by omega)
  have hc : 1 ≤ cb q (q 21).toNat + cn q (q 21).toNat := by
    rw [hn]
    have e1 : cb q (n + 1) = cb q n + bb (q (2200 + n)) := rfl
    have e2 : cn q (n + 1) = cn q n + nn (q (2200 + n)) := rfl
    have c1 := cnt_pos q n
    rcases hok with ⟨k1, _⟩ | k1 | ⟨k1, _⟩
    · have : nn (q (2200 + n)) = 1 := by unfold nn; rw [if_pos k1]
      have := bb_r (q (2200 + n))
      omega
    · omega
    · have : bb (q (2200 + n)) = 1 := by unfold bb; rw [if_pos k1]
      have := nn_r (q (2200 + n))
      omega
  have := RS_room0 h h27 hc
  exact ⟨this.1, this.2, hn0⟩
/-- a sign for two onto the pile -/
theorem RS_two {q qp qe : Nat → Int} {a s : Int} (h20 : q 20 ≤ 1120) (h : RS q 0) (hf : 0 ≤ q 35) (hp : qp = pushq q a s) (hbig : bg qp qe) (e13 : qe 13 = q 13) (e20 : qe 20 = q 20) (e21 : qe 21 = q 21 + 1) (e22 : qe 22 = q 22) (e35 : qe 35 = q 35) (e23 : qe 23 = q 23) (e24 : qe 24 = q 24) (hadv : q 27 < qe 27) (hn : 1 ≤ q 21) (ha : a = 1 ∨ a = 2 ∨ a = 4 ∨ a = 5 ∨ a = 6) (hs : s ≠ 126 ∧ (s < 97 ∨ 122 < s)) : RS qe 1 := by
  have hpl := RS_piled h (by decide)
  obtain ⟨⟨p0, p1⟩, h2, h3, h4, h5, h6, h7, h8, h9, O, B, N, a1, a2, a3, a4, a5, a6, a7, a8⟩ := h
  have gb : ∀ i, 1000 ≤ i → i ≠ 2200 + (q 21).toNat → i ≠ 2300 + (q 21).toNat → qe i = q i := fun i k1 k2 k3 => (hbig i k1).trans (by rw [hp]; exact pushq_b k1 k2 k3)
  have gw : qe (2200 + (q 21).toNat) = a := (hbig _ (by omega)).trans (by rw [hp]; exact pushq_w (by omega))
  have gs : qe (2300 + (q 21).toNat) = s := (hbig _ (by omega)).trans (by rw [hp]; exact pushq_g)
  have en : (qe 21).toNat = (q 21).toNat + 1 := by rw [e21]; omega
  obtain ⟨x1, x2, x3⟩ := cnt_ext (q := q) (q2 := qe) (q 21).toNat (fun j hj => gb _ (by omega) (by omega) (by omega))
  have y1 : cb qe ((q 21).toNat + 1) = cb q (q 21).toNat + bb a := by show cb qe (q 21).toNat + bb (qe (2200 + (q 21).toNat)) = _; rw [x1, gw]
  have y2 : cw qe ((q 21).toNat + 1) = cw q (q 21).toNat + ww a := by show cw qe (q 21).toNat + ww (qe (2200 + (q 21).toNat)) = _; rw [x2, gw]
  have y3 : cn qe ((q 21).toNat + 1) = cn q (q 21).toNat + nn a := by show cn qe (q 21).toNat + nn (qe (2200 + (q 21).toNat)) = _; rw [x3, gw]
  have b1 : bb a = 1 := by unfold bb; rw [if_pos ha]
  have w0 : ww a = 0 := by unfold ww; rw [if_neg (by omega)]
  have n0 : nn a = 0 := by unfold nn; rw [if_neg (by omega)]
  unfold RS
  rw [en, y1, y2, y3, b1, w0, n0, e21, e22, e13, e20, e23, e24, e35]
  refine ⟨⟨by omega, by omega⟩, ⟨fun _ => ?_, fun j j1 j2 => ?_⟩, by omega, by omega, h5, ?_, by omega, by omega, Or.inr (by omega), ?_⟩
  · rw [gb 2200 (by decide) (by omega) (by omega)]
    exact h2.1 (by omega)
  · by_cases hj : j < (q 21).toNat
    · rw [gb _ (by omega) (by omega) (by omega), gb _ (by omega) (by omega) (by omega)]
      exact h2.2 j j1 hj
    · have : j = (q 21).toNat := by omega
      rw [this, gw, gs]
      exact Or.inr (Or.inr ⟨ha, hs⟩)
  · have := cinv_ext (q2 := qe) hf (fun j j1 j2 => gb _ (by omega) (by omega) (by omega)) h6
    have e : cb q (q 21).toNat + 1 + 1 - 1 = cb q (q 21).toNat + 1 - 0 := by omega
    rw [e]
    exact this
  · exact ⟨O, B + 1, N, by omega, by omega, by omega, by omega, by omega, a6, by omega, fun k => by omega⟩
/-- a bracket, or the whole, from the pile -/
theorem RS_shut {q qe : Nat → Int} {n : Nat} {a z : Int} (h : RS q 0) (hf : 0 ≤ q 35) (hn : (q 21).toNat = n + 1) (ha : a = q (2200 + n)) (ha7 : 7 ≤ a) (hz : (a = 7 ∧ z = q 22 - 1) ∨ (a ≠ 7 ∧ z = q 22)) (hbig : bg q qe) (e13 : qe 13 = q 13) (e20 : qe 20 = q 20) (e21 : qe 21 = q 21 - 1) (e22 : qe 22 = z) (e35 : qe 35 = q 35) (e23 : qe 23 = q 23) (e24 : qe 24 = q 24) (e27 : q 27 ≤ qe 27) : RS qe 0 := by
  obtain ⟨⟨p0, p1⟩, h2, h3, h4, h5, h6, h7, h8, h9, O, B, N, a1, a2, a3, a4, a5, a6, a7, a8⟩ := h
  have en : (qe 21).toNat = n := by rw [e21]; omega
  obtain ⟨x1, x2, x3⟩ := cnt_ext (q := q) (q2 := qe) n (fun j hj => hbig _ (by omega))
  rw [hn] at h3 h6 h7 h9 a1
  have y1 : cb q (n + 1) = cb q n + bb a := by rw [ha]; rfl
  have y2 : cw q (n + 1) = cw q n + ww a := by rw [ha]; rfl
  have y3 : cn q (n + 1) = cn q n + nn a := by rw [ha]; rfl
  have b0 : bb a = 0 := by unfold bb; rw [if_neg (by omega)]
  have n0 : nn a = 0 := by unfold nn; rw [if_neg (by omega)]
  rw [y1, b0] at h6 h7 h9 a1
  rw [y2] at h3
  rw [y3, n0] at a1
  have c1 := cnt_pos q n
  have hpl : PL qe n := ⟨fun _ => by rw [hbig 2200 (by decide)]; exact h2.1 (by omega), fun j j1 j2 => by rw [hbig _ (by omega), hbig _ (by omega)]; exact h2.2 j j1 (by omega)⟩
  have hsp : (a = 7 ∧ ww a = 1) ∨ (a = 8 ∧ n = 0 ∧ ww a = 0) := by
    by_cases hz : n = 0
    · have h8 := h2.1 (by omega)
      rw [hz] at ha
      have e8 : a = 8 := ha.trans h8
      exact Or.inr ⟨e8, hz, by unfold ww; rw [if_neg (by omega)]⟩
    · have hok := h2.2 n (by omega) (by omega)
      rw [← ha] at hok
      rcases hok with ⟨k1, _⟩ | k1 | ⟨k1, _⟩
      · omega
      · exact Or.inl ⟨k1, by unfold ww; rw [if_pos (by omega)]⟩
      · omega
  unfold RS
  rw [en, x1, x2, x3, e21, e22, e13, e20, e23, e24, e35]
  have hci := cinv_ext (q2 := qe) hf (fun j j1 j2 => hbig _ (by omega)) h6
  have ec : cb q n + 0 + 1 - 0 = cb q n + 1 - 0 := by omega
  rw [ec] at hci
  rcases hsp with ⟨k1, k2⟩ | ⟨k1, k2, k3⟩
  · exact ⟨⟨by omega, by omega⟩, hpl, by omega, by omega, h5, hci, by omega, h8, Or.inr (by omega), O, B, N, by omega, a2, by omega, a4, a5, a6, by omega, fun k => by omega⟩
  · exact ⟨⟨by omega, by omega⟩, hpl, by omega, by omega, h5, hci, by omega, h8, Or.inl ⟨by omega, rfl⟩, O, B, N, by omega, a2, by omega, a4, a5, a6, by omega, fun k => by omega⟩
theorem AC_mv {q q2 : Nat → Int} (h : AC q) (e13 : q2 13 = q 13) (e20 : q2 20 = q 20) (e24 : q2 24 = q 24) (h27 : q 27 ≤ q2 27) : AC q2 := by
  obtain ⟨O, B, N, a1, a2, a3, a4, a5, a6, a7⟩ := h
  exact ⟨O, B, N, by omega, a2, a3, by omega, by omega, a6, by omega⟩
theorem AC_hi {q : Nat → Int} (h : AC q) (h27 : q 27 ≤ 1600) : 560 * q 13 ≤ q 20 ∧ q 20 ≤ 560 * q 13 + 560 := by
  obtain ⟨O, B, N, a1, a2, a3, a4, a5, a6, a7⟩ := h
  omega
theorem RS_start {q qp : Nat → Int} (hp : qp = pushq q 8 0) (h21 : q 21 = 0) (h22 : q 22 = 0) (ha : AC q) (h35 : q 35 = q 20) (h23 : 0 ≤ q 23 ∧ q 23 ≤ 30) (h13 : 0 ≤ q 13) : RS qp 1 := by
  obtain ⟨O, B, N, a1, a2, a3, a4, a5, a6, a7⟩ := ha
  have g : ∀ i, i < 1000 → i ≠ 21 → qp i = q i := fun i k1 k2 => by rw [hp]; exact pushq_s k1 k2
  have g21 : qp 21 = 1 := by rw [hp, pushq_21, h21]; rfl
  have gw : qp 2200 = 8 := by
    have := pushq_w (q := q) (a := 8) (s := 0) (by omega)
    rw [h21] at this
    rw [hp]; exact this
  have en : (qp 21).toNat = 0 + 1 := by rw [g21]; rfl
  have y1 : cb qp (0 + 1) = 0 := by show 0 + bb (qp 2200) = 0; rw [gw]; rfl
  have y2 : cw qp (0 + 1) = 0 := by show 0 + ww (qp 2200) = 0; rw [gw]; rfl
  have y3 : cn qp (0 + 1) = 0 := by show 0 + nn (qp 2200) = 0; rw [gw]; rfl
  unfold RS
  rw [en, y1, y2, y3, g21, g 22 (by decide) (by decide), g 13 (by decide) (by decide), g 35 (by decide) (by decide), g 20 (by decide) (by decide), g 23 (by decide) (by decide), g 24 (by decide) (by decide), g 27 (by decide) (by decide), g 29 (by decide) (by decide), h22, h35]
  refine ⟨⟨by omega, by omega⟩, ⟨fun _ => gw, fun j j1 j2 => by omega⟩, rfl, by omega, by omega, ?_, by omega, by omega, Or.inr (by omega), O, B, N, by omega, a2, by omega, a4, a5, a6, by omega, fun k => by omega⟩
  refine ⟨Int.le_refl _, by decide, ?_⟩
  have e : (q 20 - q 20).toNat = 0 := by omega
  rw [e]
  rfl
theorem RS_end {q : Nat → Int} (h : RS q 0) (h21 : q 21 = 0) : AC q ∧ 560 * q 13 ≤ q 35 ∧ q 35 ≤ q 20 ∧ ∃ d, dp q (q 35).toNat (q 20 - q 35).toNat = some d := by
  obtain ⟨h1, h2, h3, h4, h5, h6, h7, h8, h9, O, B, N, a1, a2, a3, a4, a5, a6, a7, a8⟩ := h
  have en : (q 21).toNat = 0 := by rw [h21]; rfl
  rw [en] at a1
  have y1 : cb q 0 = 0 := rfl
  have y3 : cn q 0 = 0 := rfl
  exact ⟨⟨O, B, N, by omega, a2, by omega, a4, a5, a6, by omega⟩, h5, h6.1, _, h6.2.2⟩
theorem kmg35 {q : Nat → Int} {z : Int} : km (qup q 35 z) = km q := funext fun k => km_ext (if_neg (by decide)) k (fun i h => if_neg (fun e => by
  rw [e] at h
  have e2 : kmown 35 = none := by decide
  rw [e2] at h
  cases h))
theorem qkmg35 {q : Nat → Int} {z : Int} (h : qkm q) : qkm (qup q 35 z) := by have h1 := qkm_10 h; exact qkm_upB h (by decide) (fun _ _ _ => by omega) (fun _ _ => ⟨by omega, by omega⟩)
/-- the codes below c and the other rules stay -/
def kq (q q2 : Nat → Int) (c : Int) (i0 : Nat) : Prop := (∀ j : Nat, (j : Int) < c → q2 (1000 + j) = q (1000 + j)) ∧ ∀ i : Nat, 2400 ≤ i → i ≠ 2400 + i0 → i ≠ 2410 + i0 → q2 i = q i
theorem rule_fin {q q1 q2 q3 q4 q5 : Nat → Int} {i i2 b r : Nat} {z z2 w : Int} (b1 : bg q q1) (e2 : q2 = qup q1 (2400 + i) z) (e3 : q3 = qup q2 35 w) (hk : kp q3 q4 (q3 35)) (e5 : q5 = qup q4 (2410 + i2) z2) (hi : i = 5 * b + r) (hi2 : i2 = 5 * b + r) (hb : b ≤ 1) (hr : r ≤ 4) (hz : z = q 20) (hw : w = q 20) (hz2 : z2 = q4 20) (h0 : 0 ≤ q 20 ∧ q 20 ≤ 1120) (h4 : q4 20 ≤ 1120) : kq q q5 (q 20) (5 * b + r) ∧ tx q q5 ∧ ((560 * (b : Int) ≤ q 20 ∧ q 20 ≤ q4 20 ∧ ∃ d, dp q4 (q 20).toNat (q4 20 - q 20).toNat = some d) → rgood q5 b r (560 * (b : Int)) (q4 20)) := by
  have w35 : q3 35 = q 20 := by rw [e3, ← hw]; exact if_pos rfl
  have g3 : ∀ j, 1000 ≤ j → j ≠ 2400 + i → q3 j = q j := fun j k1 k2 => by rw [e3, e2]; exact (if_neg (by omega)).trans ((if_neg k2).trans (b1 j k1))
  have g5 : ∀ j, j ≠ 2410 + i2 → q5 j = q4 j := fun j k => by rw [e5]; exact if_neg k
  rw [w35] at hk
  refine ⟨⟨fun j hj => ?_, fun j h1 h2 h3 => ?_⟩, fun j hj => ?_, fun hd => ?_⟩
  · rw [g5 _ (by omega), hk _ (by omega) (Or.inl (by omega)), g3 _ (by omega) (by omega)]
  · rw [g5 _ (by omega), hk _ (by omega) (Or.inr (by omega)), g3 _ (by omega) (by omega)]
  · rw [g5 _ (by omega), hk _ (by omega) (Or.inr (by omega)), g3 _ (by omega) (by omega)]
  · obtain ⟨h1, h2, d, h3⟩ := hd
    have f1 : q5 (2400 + (5 * b + r)) = q 20 := by
      rw [g5 _ (by omega), hk _ (by omega) (Or.inr (by omega)), e3, e2, hi]
      exact (if_neg (by omega)).trans ((if_pos rfl).trans hz)
    have f2 : q5 (2410 + (5 * b + r)) = q4 20 := by
      rw [e5, hi2]
      exact (if_pos rfl).trans hz2
    refine ⟨by rw [f1]; exact h1, by rw [f1, f2]; exact h2, by rw [f2]; exact Int.le_refl _, d, ?_⟩
    rw [f1, f2, dp_ext (q := q4) (q2 := q5) _ (fun j k1 k2 => g5 _ (by omega))]
    exact h3
theorem rgood_hi {q : Nat → Int} {b r : Nat} {lo hi hi2 : Int} (h : rgood q b r lo hi) (hh : hi ≤ hi2) : rgood q b r lo hi2 := ⟨h.1, h.2.1, Int.le_trans h.2.2.1 hh, h.2.2.2⟩
theorem bgood_hi {q : Nat → Int} {b : Nat} {m t hi hi2 : Int} (h : bgood q b m t hi) (hh : hi ≤ hi2) : bgood q b m t hi2 := ⟨fun r hr => rgood_hi (h.1 r hr) hh, fun e => rgood_hi (h.2 e) hh⟩
theorem bgood_bg {q q2 : Nat → Int} {b : Nat} {m t hi : Int} (h : bgood q b m t hi) (hb : bg q q2) (hm : m ≤ 4) : bgood q2 b m t hi := bgood_ext hm (fun _ _ => hb _ (by omega)) (fun _ _ => hb _ (by omega)) (fun _ _ _ => hb _ (by omega)) h
theorem rgood_kq {q q2 : Nat → Int} {b r i0 : Nat} {hi hi2 : Int} (h : rgood q b r (560 * (b : Int)) hi) (hk : kq q q2 hi i0) (hne : 5 * b + r ≠ i0) (hi0 : i0 < 10) (hr : 5 * b + r < 10) (hh : hi ≤ hi2) : rgood q2 b r (560 * (b : Int)) hi2 :=
  rgood_hi (rgood_ext (by omega) (hk.2 _ (by omega) (by omega) (by omega)) (hk.2 _ (by omega) (by omega) (by omega)) (fun j _ h2 => hk.1 j h2) h) hh
theorem bgood_map {q q2 : Nat → Int} {b : Nat} {m t hi hi2 : Int} (h : bgood q b m t hi) (hb : b ≤ 1) (hm0 : 0 ≤ m) (hm : m ≤ 3) (hk : kq q q2 hi (5 * b + m.toNat)) (hr : rgood q2 b m.toNat (560 * (b : Int)) hi2) (hh : hi ≤ hi2) : bgood q2 b (m + 1) t hi2 := by
  refine ⟨fun r hr1 => ?_, fun e => rgood_kq (h.2 e) hk (by omega) (by omega) (by omega) hh⟩
  by_cases hc : (r : Int) < m
  · exact rgood_kq (h.1 r hc) hk (by omega) (by omega) (by omega) hh
  · have : r = m.toNat := by omega
    rw [this]
    exact hr
theorem bgood_taste {q q2 : Nat → Int} {b : Nat} {m t hi hi2 : Int} (h : bgood q b m t hi) (hb : b ≤ 1) (hm : m ≤ 4) (hk : kq q q2 hi (5 * b + 4)) (hr : rgood q2 b 4 (560 * (b : Int)) hi2) (hh : hi ≤ hi2) : bgood q2 b m 1 hi2 :=
  ⟨fun r hr1 => rgood_kq (h.1 r hr1) hk (by omega) (by omega) (by omega) hh, fun _ => hr⟩
theorem bgood_0 {q : Nat → Int} {b : Nat} {hi : Int} : bgood q b 0 0 hi := ⟨fun r hr => by omega, fun e => absurd e (by decide)⟩
theorem tx_rf {q : Nat → Int} : tx q q := fun _ _ => rfl
theorem RS_top {q : Nat → Int} {w : Int} {n : Nat} (h : RS q w) (hn : (q 21).toNat = n + 1) : 1 ≤ q (2200 + n) ∧ q (2200 + n) ≤ 8 := by
  by_cases hz : n = 0
  · have h8 := h.2.1.1 (by omega)
    rw [hz]
    have e8 : q (2200 + 0) = 8 := h8
    omega
  · have hok := h.2.1.2 n (by omega) (by omega)
    rcases hok with ⟨k1, _⟩ | k1 | ⟨k1, _⟩ <;> omega
theorem not_adv {q qg qc : Nat → Int} (hN : NL q) (h29 : q 29 = 3) (ht : tx q qg) (e26 : qg 26 = q 26) (h4 : qc 29 = 3 → 97 ≤ sg qg (qc 27) ∧ sg qg (qc 27) ≤ 122) (h3 : q 28 ≤ qc 27) : qc 29 = 3 → q 28 + 1 ≤ qc 27 := by
  intro h
  by_cases hc : qc 27 = q 28
  · have h5 := h4 h
    have e : sg qg (qc 27) = sg q (q 28) := sg_tx rfl ht e26 hc
    have h6 := hN h29
    rw [e] at h5
    omega
  · omega
/-- the account and the rules read so far -/
def MB1 (q : Nat → Int) (m t : Int) : Prop := AC q ∧ bgood q (q 13).toNat m t (q 20)
theorem MB1_mv {q q2 : Nat → Int} {m t m2 t2 : Int} (h : MB1 q m t) (hb : bg q q2) (em : m2 = m) (et : t2 = t) (e13 : q2 13 = q 13) (e20 : q2 20 = q 20) (e24 : q2 24 = q 24) (h27 : q 27 ≤ q2 27) (hm : m ≤ 4) : MB1 q2 m2 t2 := by
  refine ⟨AC_mv h.1 e13 e20 e24 h27, ?_⟩
  rw [em, et, e13, e20]
  exact bgood_bg h.2 hb hm
theorem MB_0 {q : Nat → Int} (h14 : q 14 = 0) (h15 : q 15 = 0) (h20 : q 20 = 560 * q 13) (h24 : q 24 = 0) (h27 : 0 ≤ q 27) : MB1 q (q 14) (q 15) := by
  refine ⟨⟨0, 0, 0, by omega, by omega, by omega, by omega, by omega, by omega, by omega⟩, ?_⟩
  rw [h14, h15]
  exact bgood_0
theorem MB_map {q qc q2 : Nat → Int} {m t k : Int} {r : Nat} (h : MB1 q m t) (hb : bg q qc) (hk : kq qc q2 (qc 20) (5 * (qc 13).toNat + r)) (hr : rgood q2 (qc 13).toNat r (560 * ((qc 13).toNat : Int)) (q2 20)) (ha : AC q2) (hh : qc 20 ≤ q2 20) (e13 : qc 13 = q 13) (f13 : q2 13 = q 13) (e20 : qc 20 = q 20) (h13 : q 13 ≤ 1) (hm0 : 0 ≤ m) (hm : m ≤ 3) (er : r = m.toNat) : MB1 q2 (m + 1) t := by
  refine ⟨ha, ?_⟩
  rw [f13]
  rw [er, e13] at hr
  rw [er, e13] at hk
  rw [e20] at hk
  exact bgood_map (bgood_bg h.2 hb (by omega)) (by omega) hm0 hm hk hr (by omega)
theorem MB_taste {q qc q2 : Nat → Int} {m t m2 t2 : Int} {r : Nat} (h : MB1 q m t) (hb : bg q qc) (hk : kq qc q2 (qc 20) (5 * (qc 13).toNat + r)) (hr : rgood q2 (qc 13).toNat r (560 * ((qc 13).toNat : Int)) (q2 20)) (ha : AC q2) (hh : qc 20 ≤ q2 20) (e13 : qc 13 = q 13) (f13 : q2 13 = q 13) (e20 : qc 20 = q 20) (h13 : q 13 ≤ 1) (hm : m ≤ 4) (er : r = 4) (em : m2 = m) (et : t2 = 1) : MB1 q2 m2 t2 := by
  refine ⟨ha, ?_⟩
  rw [f13, em, et]
  rw [er, e13] at hr
  rw [er, e13] at hk
  rw [e20] at hk
  exact bgood_taste (bgood_bg h.2 hb (by omega)) (by omega) hm hk hr (by omega)
/-! the bank that was read becomes the one in use -/
def sw (i : Nat) : Nat := if i = 10 then 13 else if i = 11 then 14 else if i = 14 then 11 else if i = 12 then 15 else if i = 15 then 12 else if i = 16 then 17 else if i = 17 then 16 else if i = 18 then 19 else if i = 19 then 18 else if i = 24 then 25 else if i = 25 then 24 else i
def qsw (q : Nat → Int) : Nat → Int := fun i => q (sw i)
theorem qsw_hi {q : Nat → Int} {i : Nat} (h : 26 ≤ i) : qsw q i = q i := by
  unfold qsw sw
  rw [if_neg (by omega), if_neg (by omega), if_neg (by omega), if_neg (by omega), if_neg (by omega), if_neg (by omega), if_neg (by omega), if_neg (by omega), if_neg (by omega), if_neg (by omega), if_neg (by omega)]
theorem eaF_sw {q : Nat → Int} {b n : Nat} (h : 26 ≤ b) : eaF (qsw q) b n = eaF q b n := by
  funext j
  unfold eaF
  rw [qsw_hi (by omega)]
theorem bkF_sw {q : Nat → Int} {a b j : Nat} (ha : qsw q a = q b) (hb : qsw q b = q a) (h13 : q 13 = 1 - q 10) (h10 : 0 ≤ q 10 ∧ q 10 ≤ 1) (hj : j < 2) : bkF (qsw q) a b j = bkF q a b j := by
  unfold bkF
  have e : qsw q 10 = q 13 := rfl
  rw [ha, hb, e]
  by_cases hc : (j : Int) = q 10
  · rw [if_pos hc, if_neg (by omega)]
  · rw [if_neg hc, if_pos (by omega)]
theorem C_bk {D : va_G} {cT : Nat → ClassId} {T : Nat → Option Nat} {q : Nat → Int} {H : Heap} {x t a b : Nat} (h : th_C D cT T (.inr (t, 2, bkF q a b)) H x) (ha : qsw q a = q b) (hb : qsw q b = q a) (h13 : q 13 = 1 - q 10) (h10 : 0 ≤ q 10 ∧ q 10 ≤ 1) : th_C D cT T (.inr (t, 2, bkF (qsw q) a b)) H x := by
  obtain ⟨g, h1, h2⟩ := h
  refine ⟨g, h1, fun j hj => ?_⟩
  have h3 := h2 j hj
  have hj2 : j < 2 := hj
  show th_V T (bkF (qsw q) a b j) (g j)
  rw [bkF_sw ha hb h13 h10 hj2]
  exact h3
theorem C_ea {D : va_G} {cT : Nat → ClassId} {T : Nat → Option Nat} {q : Nat → Int} {H : Heap} {x t n b : Nat} (h : th_C D cT T (.inr (t, n, eaF q b n)) H x) (hb : 26 ≤ b) : th_C D cT T (.inr (t, n, eaF (qsw q) b n)) H x := by
  rw [eaF_sw hb]
  exact h
/-! the token that stands here -/
def TI (q : Nat → Int) : Prop := (q 29 = 0 ∧ q 27 = q 26 ∧ q 28 = q 26) ∨ (1 ≤ q 29 ∧ q 27 < q 28 ∧ q 28 ≤ q 26)
def T3 (q : Nat → Int) : Prop := q 29 = 3 → q 31 = 7237492 → q 27 + 3 ≤ q 28
def TS (q : Nat → Int) : Prop := TI q ∧ (q 30 = 0 → NL q ∧ T3 q)
def NX (q0 q : Nat → Int) : Prop := q 29 = 3 → sg q0 (q 28) < 97 ∨ 122 < sg q0 (q 28)
def LX (q0 q : Nat → Int) : Prop := q 29 = 3 → 97 ≤ sg q0 (q 27) ∧ sg q0 (q 27) ≤ 122
theorem TI_end {q : Nat → Int} (h1 : q 29 = 0) (h2 : q 27 = q 26) (h3 : q 28 = q 26) : TI q := Or.inl ⟨h1, h2, h3⟩
theorem TI_in {q : Nat → Int} (h1 : 1 ≤ q 29) (h2 : q 27 < q 28) (h3 : q 28 ≤ q 26) : TI q := Or.inr ⟨h1, h2, h3⟩
theorem TS_of {S : List Nat} {q0 q : Nat → Int} (h : TI q) (h2 : NX q0 q) (h3 : T3 q) (hf : fr S q0 q) (h26 : 26 ∉ S) (hb : 1000 ∉ S) (hs : ∀ x ∈ S, x < 3000) : TS q := ⟨h, fun _ => ⟨fun z => by rw [sg_fr hf h26 hb hs]; exact h2 z, h3⟩⟩
theorem TS_mv {q q2 : Nat → Int} (h : TS q) (ht : tx q q2) (e26 : q2 26 = q 26) (e27 : q2 27 = q 27) (e28 : q2 28 = q 28) (e29 : q2 29 = q 29) (e31 : q2 31 = q 31) (h30 : q2 30 = 0 → q 30 = 0) : TS q2 := by
  refine ⟨?_, fun z => ⟨NL_tx (h.2 (h30 z)).1 ht e26 e28 e29, ?_⟩⟩
  · unfold TI
    rw [e26, e27, e28, e29]
    exact h.1
  · unfold T3
    rw [e27, e28, e29, e31]
    exact (h.2 (h30 z)).2
theorem TS_le {q : Nat → Int} (h : TS q) : q 27 ≤ q 28 ∧ q 28 ≤ q 26 := by
  rcases h.1 with h1 | h1 <;> omega
theorem TS_in {q : Nat → Int} (h : TS q) (h2 : 1 ≤ q 29) : q 27 < q 28 := by
  rcases h.1 with h1 | h1 <;> omega
theorem TS_3 {q : Nat → Int} (h : TS q) (h30 : q 30 = 0) (h29 : q 29 = 3) (h31 : q 31 = 7237492) : q 27 + 3 ≤ q 28 := (h.2 h30).2 h29 h31
/-- it went on, if all is well -/
def AD (q q2 : Nat → Int) : Prop := q2 30 = 0 → q 30 = 0 ∧ 1 ≤ q 29 ∧ q 28 ≤ q2 27
theorem AD_no {q q2 : Nat → Int} (h : 1 ≤ q2 30) : AD q q2 := fun z => absurd z (by omega)
theorem AD_of {q q2 : Nat → Int} (h1 : q 30 = 0) (h2 : 1 ≤ q 29) (h3 : q 28 ≤ q2 27) : AD q q2 := fun _ => ⟨h1, h2, h3⟩
theorem AD_tr {q q1 q2 : Nat → Int} (h : AD q1 q2) (e30 : q1 30 = 0 → q 30 = 0) (e28 : q 28 ≤ q1 28) (e29 : 1 ≤ q1 29 → 1 ≤ q 29) : AD q q2 := fun z => ⟨e30 (h z).1, e29 (h z).2.1, Int.le_trans e28 (h z).2.2⟩
theorem AD_ad {q q1 q2 : Nat → Int} (h : AD q q1) (h2 : q2 30 = 0 → q1 30 = 0) (e : q1 27 ≤ q2 27) : AD q q2 := fun z => ⟨(h (h2 z)).1, (h (h2 z)).2.1, Int.le_trans (h (h2 z)).2.2 e⟩
/-- no fault goes away -/
def GD (q q2 : Nat → Int) : Prop := q2 30 = 0 → q 30 = 0
theorem AD_GD {q q2 : Nat → Int} (h : AD q q2) : GD q q2 := fun z => (h z).1
theorem GD_tr {q q1 q2 : Nat → Int} (h : GD q q1) (h2 : GD q1 q2) : GD q q2 := fun z => h (h2 z)
theorem GD_eq {q q2 : Nat → Int} (h : q2 30 = q 30) : GD q q2 := fun z => h.symm.trans z
theorem GD_no {q q2 : Nat → Int} (h : 1 ≤ q2 30) : GD q q2 := fun z => absurd z (by omega)
theorem GD_f {q q2 : Nat → Int} (h : GD q q2) (h1 : 1 ≤ q 30) (h2 : 0 ≤ q2 30) : 1 ≤ q2 30 := by
  by_cases z : q2 30 = 0
  · have := h z; omega
  · omega
def RU (q : Nat → Int) (r : Int) : Prop := q 30 = 0 → (r ≠ 0 → RS q 1 ∧ 1 ≤ q 21) ∧ (r = 0 → RS q 0)
theorem RU_no {q : Nat → Int} {r : Int} (h : 1 ≤ q 30) : RU q r := fun z => absurd z (by omega)
theorem RU_1 {q : Nat → Int} {r : Int} (h : RS q 1) (h21 : 1 ≤ q 21) (hr : r ≠ 0) : RU q r := fun _ => ⟨fun _ => ⟨h, h21⟩, fun z => absurd z hr⟩
theorem RU_0 {q : Nat → Int} {r : Int} (h : RS q 0) (hr : r = 0) : RU q r := fun _ => ⟨fun z => absurd hr z, fun _ => h⟩
def DM (q q2 : Nat → Int) : Prop := q2 30 = 0 → 2 * q 27 + q2 21 < 2 * q2 27 + q 21
theorem DM_no {q q2 : Nat → Int} (h : 1 ≤ q2 30) : DM q q2 := fun z => absurd z (by omega)
/-- what falls from turn to turn of a rule's reading -/
theorem DM_lt {q q2 : Nat → Int} {n : Nat} (h : DM q q2) (h0 : q 30 = 0) (b : 0 ≤ q2 30 ∧ q2 30 ≤ 5) (b27 : 0 ≤ q 27 ∧ q 27 ≤ 1600) (c27 : 0 ≤ q2 27 ∧ q2 27 ≤ 1600) (b21 : 0 ≤ q 21 ∧ q 21 ≤ 90) (c21 : 0 ≤ q2 21 ∧ q2 21 ≤ 90) (hn : (5000 * (5 - q 30) + 2 * (1600 - q 27) + q 21).toNat < n + 1) : (5000 * (5 - q2 30) + 2 * (1600 - q2 27) + q2 21).toNat < n := by
  by_cases z : q2 30 = 0
  · have := h z; omega
  · omega
def EE (q2 : Nat → Int) : Prop := q2 30 = 0 → AC q2 ∧ 560 * q2 13 ≤ q2 35 ∧ q2 35 ≤ q2 20 ∧ ∃ d, dp q2 (q2 35).toNat (q2 20 - q2 35).toNat = some d
theorem EE_no {q : Nat → Int} (h : 1 ≤ q 30) : EE q := fun z => absurd z (by omega)
theorem EE_of {q : Nat → Int} {r : Int} (h : RU q r) (h21 : q 21 ≤ 0) (h0 : 0 ≤ q 21) : EE q := fun z => by
  obtain ⟨h1, h2⟩ := h z
  by_cases hr : r = 0
  · exact RS_end (h2 hr) (by omega)
  · have := (h1 hr).2
    omega
def RR (q q2 : Nat → Int) (r : Nat) : Prop := q2 30 = 0 → AC q2 ∧ q 20 ≤ q2 20 ∧ rgood q2 (q 13).toNat r (560 * ((q 13).toNat : Int)) (q2 20)
theorem RR_of {q q4 q5 : Nat → Int} {r : Nat} (h : EE q4) (hF : (560 * ((q 13).toNat : Int) ≤ q 20 ∧ q 20 ≤ q4 20 ∧ ∃ d, dp q4 (q 20).toNat (q4 20 - q 20).toNat = some d) → rgood q5 (q 13).toNat r (560 * ((q 13).toNat : Int)) (q4 20)) (e35 : q4 35 = q 20) (e30 : q5 30 = q4 30) (e13 : q5 13 = q4 13) (f13 : q4 13 = q 13) (h13 : 0 ≤ q 13) (e20 : q5 20 = q4 20) (e24 : q5 24 = q4 24) (e27 : q4 27 ≤ q5 27) : RR q q5 r := fun z => by
  obtain ⟨E1, E2, E3, d, E4⟩ := h (by omega)
  rw [e35] at E4
  have R := hF ⟨by omega, by omega, d, E4⟩
  rw [← e20] at R
  exact ⟨AC_mv E1 e13 e20 e24 e27, by omega, R⟩
def MB (q : Nat → Int) (m t : Int) : Prop := q 30 = 0 → MB1 q m t
theorem MB_no {q : Nat → Int} {m t : Int} (h : 1 ≤ q 30) : MB q m t := fun z => absurd z (by omega)
theorem MB_mv {q q2 : Nat → Int} {m t m2 t2 : Int} (h : MB q m t) (hb : bg q q2) (h30 : GD q q2) (em : m2 = m) (et : t2 = t) (e13 : q2 13 = q 13) (e20 : q2 20 = q 20) (e24 : q2 24 = q 24) (h27 : q 27 ≤ q2 27) (hm : m ≤ 4) : MB q2 m2 t2 := fun z => MB1_mv (h (h30 z)) hb em et e13 e20 e24 h27 hm
theorem MB_mapI {q qc q2 : Nat → Int} {m t : Int} {r : Nat} (h : MB1 q m t) (hb : bg q qc) (hk : kq qc q2 (qc 20) (5 * (qc 13).toNat + r)) (hr : RR qc q2 r) (e13 : qc 13 = q 13) (f13 : q2 13 = q 13) (e20 : qc 20 = q 20) (h13 : q 13 ≤ 1) (hm0 : 0 ≤ m) (hm : m ≤ 3) (er : r = m.toNat) : MB q2 (m + 1) t := fun z => by
  obtain ⟨E1, E2, E3⟩ := hr z
  exact MB_map (k := 0) h hb hk E3 E1 E2 e13 f13 e20 h13 hm0 hm er
theorem MB_tasteI {q qc q2 : Nat → Int} {m t m2 t2 : Int} {r : Nat} (h : MB1 q m t) (hb : bg q qc) (hk : kq qc q2 (qc 20) (5 * (qc 13).toNat + r)) (hr : RR qc q2 r) (e13 : qc 13 = q 13) (f13 : q2 13 = q 13) (e20 : qc 20 = q 20) (h13 : q 13 ≤ 1) (hm : m ≤ 4) (er : r = 4) (em : m2 = m) (et : t2 = 1) : MB q2 m2 t2 := fun z => by
  obtain ⟨E1, E2, E3⟩ := hr z
  exact MB_taste h hb hk E3 E1 E2 e13 f13 e20 h13 hm er em et
/-- what falls from line to line -/
def LM (q q2 : Nat → Int) : Prop := q2 30 = 0 → q 27 < q2 27
theorem LM_lt {q q2 : Nat → Int} {n : Nat} (h : LM q q2) (h0 : q 30 = 0) (b : 0 ≤ q2 30 ∧ q2 30 ≤ 5) (b27 : 0 ≤ q 27 ∧ q 27 ≤ 1600) (c27 : 0 ≤ q2 27 ∧ q2 27 ≤ 1600) (hn : (5000 * (5 - q 30) + (1600 - q 27)).toNat < n + 1) : (5000 * (5 - q2 30) + (1600 - q2 27)).toNat < n := by
  by_cases z : q2 30 = 0
  · have := h z; omega
  · omega
/-- the word of a line still has room -/
def FQ (q : Nat → Int) (w : Int) : Prop := (w = 1718579044 → q 17 ≤ 2) ∧ (w = 7168368 → q 14 ≤ 3) ∧ (w = 482854658917 → q 19 ≤ 7)
theorem swC {D : va_G} {cT : Nat → ClassId} {T : Nat → Option Nat} {q : Nat → Int} {H : Heap} {x : Nat} (h13 : q 13 = 1 - q 10) (h10 : 0 ≤ q 10 ∧ q 10 ≤ 1) : ∀ k : Nat, k ≠ 0 → th_C D cT T (km q k) H x → th_C D cT T (km (qsw q) k) H x := fun k hk h => match k, hk, h with
  | 0, hk, _ => absurd rfl hk
  | 1, _, h => h
  | 2, _, h => C_ea (b := 3000) h (by decide)
  | 3, _, h => C_bk (a := 16) (b := 17) h rfl rfl h13 h10
  | 4, _, h => C_bk (a := 11) (b := 14) h rfl rfl h13 h10
  | 5, _, h => C_bk (a := 18) (b := 19) h rfl rfl h13 h10
  | 6, _, h => h
  | 7, _, h => h
  | 8, _, h => C_bk (a := 25) (b := 24) h rfl rfl h13 h10
  | 9, _, h => h
  | 10, _, h => h
  | 11, _, h => h
  | 12, _, h => h
  | 13, _, h => h
  | 14, _, h => h
  | 15, _, h => h
  | 16, _, h => h
  | 17, _, h => h
  | 18, _, h => h
  | 19, _, h => h
  | 20, _, h => C_ea (b := 2400) h (by decide)
  | 21, _, h => C_ea (b := 2410) h (by decide)
  | 22, _, h => C_bk (a := 12) (b := 15) h rfl rfl h13 h10
  | 23, _, h => h
  | 24, _, h => h
  | 25, _, h => h
  | 26, _, h => h
  | 27, _, h => h
  | 28, _, h => C_ea (b := 1000) h (by decide)
  | 29, _, h => h
  | 30, _, h => C_ea (b := 2200) h (by decide)
  | 31, _, h => C_ea (b := 2300) h (by decide)
  | 32, _, h => h
  | 33, _, h => h
  | 34, _, h => h
  | 35, _, h => h
  | 36, _, h => h
  | 37, _, h => C_ea (b := 40) h (by decide)
  | 38, _, h => h
  | 39, _, h => h
  | 40, _, h => h
  | 41, _, h => h
  | 42, _, h => h
  | 43, _, h => h
  | 44, _, h => h
  | _ + 45, _, h => h
section MSW
variable {p : Program} {l : Launch} {e0 : Env} {R : Room} {s : State} {m : MethodId} {args : Array Value} {below : List Frame} {meth : Method} {c : Code} {H : Heap} {locs : List Loc} {cells slots : Nat} {Q : State → Prop}
variable {cc : ByteArray} {pc nL index : Nat} {ls : Array Slot} {rest : List Value} {D : va_G} {cT : Nat → ClassId} {T : Nat → Option Nat} {q : Nat → Int} {A : Nat → Prop} {a : Nat} {H0 : Heap} {own : String} {z : Int} {x i : Int32}
theorem mput_bank (S : CallFix p m c cc nL s args gw own) (hK : va_K D classes (th_tys cT) s) (hH : th_H D cT T (km q) H) (hS : va_S A H0 H locs) (hA : A a) (hT : tokm T) (ha : T a = some 0) (e : x.toInt = q 13) (h13 : q 13 = 1 - q 10) (h10 : 0 ≤ q 10 ∧ q 10 ≤ 1) (hlink : Cond.fieldLink own index RX11 "bank" "I" ∈ gw) (hdg : decode cc pc = .ok (.putfield index, 3)) (kk : ∀ (q2 : Nat → Int) (H1 : Heap) (locs1 : List Loc), q2 = qsw q → th_H D cT T (km q2) H1 → va_S A H0 H1 locs1 → (∀ b : Nat, b ≠ a → H1[b]? = H[b]?) → W p l e0 R s m args below meth c H1 locs1 cells slots Q (F0 m (pc + 3) ls rest)) : W p l e0 R s m args below meth c H locs cells slots Q (F0 m pc ls (.int x :: .ref a :: rest)) := by
  have hH1 : th_H D cT T (fun k => if k = 0 then km q 0 else km (qsw q) k) H := fun b k hb => by
    by_cases hk : k = 0
    · rw [hk] at hb
      rw [hk]
      exact hH b 0 hb
    · have h := swC (H := H) (D := D) (cT := cT) (T := T) h13 h10 k hk (hH b k hb)
      show th_C D cT T (if k = 0 then km q 0 else km (qsw q) k) H b
      rw [if_neg hk]
      exact h
  exact th_putM (Ks := fun k => if k = 0 then km q 0 else km (qsw q) k) (Ks2 := km (qsw q)) S hK hH1 hS hA inG11 tyX11 tyX11_ok nmX11 ha (mo_of hT ha) (km_0 (q := q)) (km_0 (q := qsw q)) (fun k' h => (if_neg h).symm) rfl 41 (by decide) hlink rfl rfl rfl rfl (fun i hi => match i, hi with | 0, _ => rfl | 1, _ => rfl | 2, _ => rfl | 3, _ => rfl | 4, _ => rfl | 5, _ => rfl | 6, _ => rfl | 7, _ => rfl | 8, _ => rfl | 9, _ => rfl | 10, _ => rfl | 11, _ => rfl | 12, _ => rfl | 13, _ => rfl | 14, _ => rfl | 15, _ => rfl | 16, _ => rfl | 17, _ => rfl | 18, _ => rfl | 19, _ => rfl | 20, _ => rfl | 21, _ => rfl | 22, _ => rfl | 23, _ => rfl | 24, _ => rfl | 25, _ => rfl | 26, _ => rfl | 27, _ => rfl | 28, _ => rfl | 29, _ => rfl | 30, _ => rfl | 31, _ => rfl | 32, _ => rfl | 33, _ => rfl | 34, _ => rfl | 35, _ => rfl | 36, _ => rfl | 37, _ => rfl | 38, _ => rfl | 39, _ => rfl | 40, _ => rfl | 41, h => absurd rfl h | 42, _ => rfl | 43, _ => rfl | 44, _ => rfl | 45, _ => rfl | 46, _ => rfl | 47, _ => rfl | 48, _ => rfl | 49, _ => rfl | 50, _ => rfl | 51, _ => rfl | 52, _ => rfl | 53, _ => rfl | 54, _ => rfl | 55, _ => rfl | 56, _ => rfl | 57, _ => rfl | 58, _ => rfl | 59, _ => rfl | 60, _ => rfl | 61, _ => rfl | 62, _ => rfl | 63, _ => rfl | 64, _ => rfl | 65, _ => rfl | 66, _ => rfl | 67, _ => rfl | 68, _ => rfl | _ + 69, _ => rfl) (Nat.le_of_ble_eq_true rfl) (th_selfE e.symm) (fun vs h => nmR_set h.2.2 (by decide) rfl) (ty := .int) (by decide +kernel) rfl rfl hdg (fun H1 locs1 => kk _ H1 locs1 rfl)
end MSW
theorem qkm_sw {q : Nat → Int} (h : qkm q) (hm : MB1 q (q 14) (q 15)) (h27 : q 27 ≤ 1600) : qkm (qsw q) := ⟨qkm_7 (q := q) h, qkm_8 (q := q) h, qkm_9 (q := q) h, qkm_13 (q := q) h, qkm_14 (q := q) h, qkm_15 (q := q) h, qkm_13 (q := q) h, qkm_11 (q := q) h, qkm_12 (q := q) h, qkm_17 (q := q) h, qkm_16 (q := q) h, qkm_19 (q := q) h, qkm_18 (q := q) h, qkm_20 (q := q) h, qkm_21 (q := q) h, qkm_22 (q := q) h, qkm_23 (q := q) h, qkm_25 (q := q) h, qkm_24 (q := q) h, qkm_26 (q := q) h, qkm_27 (q := q) h, qkm_28 (q := q) h, qkm_29 (q := q) h, qkm_30 (q := q) h, qkm_31 (q := q) h, by
  have h1 := AC_hi hm.1 h27
  exact bgood_bg (q := q) (q2 := qsw q) (m := q 14) (bgood_hi hm.2 h1.2) (fun i hi => qsw_hi (by omega)) (qkm_14 h).2⟩
theorem fr_sw {S : List Nat} {q q2 : Nat → Int} (h : fr S q q2) (hs : ∀ x ∈ [10, 11, 12, 14, 15, 16, 17, 18, 19, 24, 25], x ∈ S) (hb : 1000 ∈ S) : fr S q (qsw q2) := fun i hi hbb => by
  have e : qsw q2 i = q2 i := by
    unfold qsw sw
    rw [if_neg (fun e => hi (by rw [e]; exact hs _ (by decide))), if_neg (fun e => hi (by rw [e]; exact hs _ (by decide))), if_neg (fun e => hi (by rw [e]; exact hs _ (by decide))), if_neg (fun e => hi (by rw [e]; exact hs _ (by decide))), if_neg (fun e => hi (by rw [e]; exact hs _ (by decide))), if_neg (fun e => hi (by rw [e]; exact hs _ (by decide))), if_neg (fun e => hi (by rw [e]; exact hs _ (by decide))), if_neg (fun e => hi (by rw [e]; exact hs _ (by decide))), if_neg (fun e => hi (by rw [e]; exact hs _ (by decide))), if_neg (fun e => hi (by rw [e]; exact hs _ (by decide))), if_neg (fun e => hi (by rw [e]; exact hs _ (by decide)))]
  exact e.trans (h i hi hbb)
