theorem th_O.mono {T : Nat → Option Nat} {fs1 fs2 : List th_F} {vs : List Value} (h : th_O T fs1 (fun _ => True) vs) (hl : fs2.length = fs1.length) (hm : ∀ (j : Nat) (f1 f2 : th_F) (v : Value), fs1[j]? = some f1 → fs2[j]? = some f2 → vs[j]? = some v → th_V T f1 v → th_V T f2 v) : th_O T fs2 (fun _ => True) vs := by
  refine ⟨by rw [hl]; exact h.1, fun j f2 h2 => ?_, trivial⟩
  have hj : j < fs1.length := by rw [← hl]; exact (List.getElem?_eq_some_iff.mp h2).1
  obtain ⟨v, h3, h4⟩ := h.2.1 j fs1[j] (List.getElem?_eq_getElem hj)
  exact ⟨v, h3, hm j _ f2 v (List.getElem?_eq_getElem hj) h2 h3 h4⟩
theorem th_fa.same {D : va_G} {H : Heap} {a ci j : Nat} {v : Value} {vs : List Value} {r : vw_C} (hc : classes[ci]? = some r) (hj : j < r.2.2) (h : th_fa D H a ci j v) (hat : va_at D classes (a, .inr (ci, vs)) H) (hl : j < vs.length) : vs[j]? = some v := by
  obtain ⟨us, ⟨r2, e2, cell2, w1, w2, w3, w4⟩, u2⟩ := h
  obtain ⟨r1, e1, cell1, q1, q2, q3, q4⟩ := hat
  have er2 : r2 = r := Option.some.inj (e2.symm.trans hc)
  have er1 : r1 = r := Option.some.inj (e1.symm.trans hc)
  subst er2
  subst er1
  have hcell : cell2 = cell1 := Option.some.inj (w1.symm.trans q1)
  subst hcell
  have hv1 := q4 j hj
  have hv2 := w4 j hj
  rw [hv1] at hv2
  have e5 : vp_V vs j = vp_V us j := Option.some.inj hv2
  have e6 : vp_V us j = v := by simp [vp_V, u2]
  have e7 : vs[j]? = some (vp_V vs j) := by simp [vp_V, hl]
  rw [e7, e5, e6]
theorem th_tight {D : va_G} {cT : Nat → ClassId} {T : Nat → Option Nat} {q : Nat → Int} {H : Heap} {a : Nat} {x : Int32} (hH : th_H D cT T (kd q) H) (huq : ∀ b, T b = some 7 → b = a) (ha : T a = some 7) (hfa : th_fa D H a 5 11 (.int x)) (hx : -1000 ≤ x.toInt) : th_H D cT T (kd (qup q 6 (-1000))) H := by
  intro b k hb
  by_cases hk : k = 7
  · subst hk
    have hba := huq b hb
    subst hba
    have h1 := hH b 7 hb
    rw [kd_7] at h1 ⊢
    obtain ⟨vs, h2, h3⟩ := h1
    refine ⟨vs, h2, h3.mono rfl (fun j f1 f2 v e1 e2 e3 e4 => ?_)⟩
    by_cases hj : j = 11
    · subst hj
      have h5 := hfa.same (r := (RX5, TX5, 13)) rfl (by decide) h2 (by rw [h3.1]; exact Nat.le_of_ble_eq_true rfl)
      rw [e3] at h5
      have hv : v = .int x := Option.some.inj h5
      have ef1 : f1 = .inl (q 6, 25) := (Option.some.inj e1).symm
      have ef2 : f2 = .inl (-1000, 25) := (Option.some.inj e2).symm
      rw [ef1, hv] at e4
      rw [ef2, hv]
      obtain ⟨y, hy, hiv⟩ := e4
      have hxy : x = y := by cases hy; rfl
      exact ⟨x, rfl, hx, by rw [hxy]; exact hiv.2⟩
    · have : f1 = f2 := by
        match j, hj, e1, e2 with
        | 0, _, e1, e2 => exact Option.some.inj (e1.symm.trans e2)
        | 1, _, e1, e2 => exact Option.some.inj (e1.symm.trans e2)
        | 2, _, e1, e2 => exact Option.some.inj (e1.symm.trans e2)
        | 3, _, e1, e2 => exact Option.some.inj (e1.symm.trans e2)
        | 4, _, e1, e2 => exact Option.some.inj (e1.symm.trans e2)
        | 5, _, e1, e2 => exact Option.some.inj (e1.symm.trans e2)
        | 6, _, e1, e2 => exact Option.some.inj (e1.symm.trans e2)
        | 7, _, e1, e2 => exact Option.some.inj (e1.symm.trans e2)
        | 8, _, e1, e2 => exact Option.some.inj (e1.symm.trans e2)
        | 9, _, e1, e2 => exact Option.some.inj (e1.symm.trans e2)
        | 10, _, e1, e2 => exact Option.some.inj (e1.symm.trans e2)
        | 11, h, _, _ => exact absurd rfl h
        | 12, _, e1, e2 => exact Option.some.inj (e1.symm.trans e2)
        | n + 13, _, e1, _ => exact absurd e1 (by simp)
      rw [← this]; exact e4
  · rw [kd_up6 q (-1000) k hk]
    exact hH b k hb
theorem th_loose {D : va_G} {cT : Nat → ClassId} {T : Nat → Option Nat} {q : Nat → Int} {H : Heap} (hH : th_H D cT T (kd (qup q 6 (-1000))) H) (hq : q 6 ≤ -1000) : th_H D cT T (kd q) H := by
  intro b k hb
  by_cases hk : k = 7
  · subst hk
    have h1 := hH b 7 hb
    rw [kd_7] at h1 ⊢
    obtain ⟨vs, h2, h3⟩ := h1
    refine ⟨vs, h2, h3.mono rfl (fun j f1 f2 v e1 e2 e3 e4 => ?_)⟩
    by_cases hj : j = 11
    · subst hj
      have ef1 : f1 = .inl (-1000, 25) := (Option.some.inj e1).symm
      have ef2 : f2 = .inl (q 6, 25) := (Option.some.inj e2).symm
      rw [ef1] at e4
      rw [ef2]
      obtain ⟨y, hy, hiv⟩ := e4
      exact ⟨y, hy, Int.le_trans hq hiv.1, hiv.2⟩
    · have : f1 = f2 := by
        match j, hj, e1, e2 with
        | 0, _, e1, e2 => exact Option.some.inj (e1.symm.trans e2)
        | 1, _, e1, e2 => exact Option.some.inj (e1.symm.trans e2)
        | 2, _, e1, e2 => exact Option.some.inj (e1.symm.trans e2)
        | 3, _, e1, e2 => exact Option.some.inj (e1.symm.trans e2)
        | 4, _, e1, e2 => exact Option.some.inj (e1.symm.trans e2)
        | 5, _, e1, e2 => exact Option.some.inj (e1.symm.trans e2)
        | 6, _, e1, e2 => exact Option.some.inj (e1.symm.trans e2)
        | 7, _, e1, e2 => exact Option.some.inj (e1.symm.trans e2)
        | 8, _, e1, e2 => exact Option.some.inj (e1.symm.trans e2)
        | 9, _, e1, e2 => exact Option.some.inj (e1.symm.trans e2)
        | 10, _, e1, e2 => exact Option.some.inj (e1.symm.trans e2)
        | 11, h, _, _ => exact absurd rfl h
        | 12, _, e1, e2 => exact Option.some.inj (e1.symm.trans e2)
        | n + 13, _, e1, _ => exact absurd e1 (by simp)
      rw [← this]; exact e4
  · have h1 := hH b k hb
    rw [kd_up6 q (-1000) k hk] at h1
    exact h1
