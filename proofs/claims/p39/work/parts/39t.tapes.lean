/-! the class's tapes say what the reference's do -/
def R2 (σ : Nat → Int → Int) : Prop := (∀ t, 0 ≤ t → t < 6 → σ 32 t = σ 109 t ∧ σ 31 t = σ 110 t ∧ (σ 32 t = -1 → σ 31 t = 0)) ∧ (∀ t i, 0 ≤ t → t < 6 → 0 ≤ i → i < 60 → σ (25 + Int.toNat t) i = σ 111 (60 * t + i))
theorem xNT_f {k : Nat} {j : Int} (h : (25 ≤ k ∧ k ≤ 32) ∨ 69 ≤ k) : xNT k j = false := by
  unfold xNT
  simp only [Bool.and_eq_false_iff, Bool.not_eq_false', decide_eq_false_iff_not, Bool.and_eq_true, decide_eq_true_eq]
  omega
theorem jNT_f {k : Nat} {j : Int} (h : k = 109 ∨ k = 110 ∨ k = 111 ∨ k < 69) : jNT k j = false := by
  unfold jNT
  simp only [Bool.and_eq_false_iff, Bool.not_eq_false', decide_eq_false_iff_not, Bool.or_eq_true, beq_iff_eq]
  omega
theorem R2_q {σ σ1 σ2 : Nat → Int → Int} (h : R2 σ) (ha : Fr xNT σ σ1) (hb : Fr jNT σ1 σ2) : R2 σ2 := by
  obtain ⟨h1, h2⟩ := h
  have ex : ∀ k j, 25 ≤ k → k ≤ 32 → σ2 k j = σ k j := fun k j a b => (hb k j (jNT_f (by omega))).trans (ha k j (xNT_f (by omega)))
  have ey : ∀ k j, (k = 109 ∨ k = 110 ∨ k = 111) → σ2 k j = σ k j := fun k j a => (hb k j (jNT_f (by omega))).trans (ha k j (xNT_f (by omega)))
  refine ⟨fun t t0 t1 => ?_, fun t i t0 t1 i0 i1 => ?_⟩
  · rw [ex 32 t (by omega) (by omega), ex 31 t (by omega) (by omega), ey 109 t (by omega), ey 110 t (by omega)]
    exact h1 t t0 t1
  · rw [ex _ i (by omega) (by omega), ey 111 _ (by omega)]
    exact h2 t i t0 t1 i0 i1
theorem scTp_f {k : Nat} {j : Int} (h : 69 ≤ k) : scTp k j = false := by
  unfold scTp
  simp only [Bool.or_eq_false_iff, beq_eq_false_iff_ne, ne_eq]
  omega
theorem jcTp_f {k : Nat} {j : Int} (h : k < 69) : jcTp k j = false := by
  unfold jcTp
  simp only [Bool.or_eq_false_iff, beq_eq_false_iff_ne, ne_eq]
  omega
theorem jcSh_f {k : Nat} {j : Int} (h : k < 111) : jcSh k j = false := by
  unfold jcSh
  simp only [Bool.or_eq_false_iff, beq_eq_false_iff_ne, ne_eq]
  omega
theorem st_tape {σ σ1 σ2 : Nat → Int → Int} {t s n : Int} (h : R2 σ) (hF : Fr scTp σ σ1) (hG : Fr jcTp σ1 σ2) (hx : (¬ tapeOK t s n ∧ σ1 = σ) ∨ (tapeOK t s n ∧ becX σ t s (lenF s n) σ1)) (hj : (¬ tapeOK t s n ∧ σ2 = σ1) ∨ (tapeOK t s n ∧ becJ σ1 t s (lenF s n) σ2)) : R2 σ2 := by
  have h' := h
  obtain ⟨h1, h2⟩ := h'
  rcases hx with ⟨a1, a2⟩ | ⟨a1, a2, a3, a4, a5⟩
  · rcases hj with ⟨b1, b2⟩ | ⟨b1, -⟩
    · rw [b2, a2]; exact h
    · exact absurd b1 a1
  · rcases hj with ⟨b1, -⟩ | ⟨b1, b2, b3, b4⟩
    · exact absurd a1 b1
    · have hok := a1
      unfold tapeOK at hok
      have ex : ∀ k j, k < 69 → σ2 k j = σ1 k j := fun k j a => hG k j (jcTp_f a)
      have ey : ∀ k j, 69 ≤ k → σ1 k j = σ k j := fun k j a => hF k j (scTp_f a)
      refine ⟨fun u u0 u1 => ?_, fun u i u0 u1 i0 i1 => ?_⟩
      · rw [ex 32 u (by omega), ex 31 u (by omega), a2, a3, b2, b3, ey 109 u (by omega), ey 110 u (by omega)]
        by_cases e : u = t
        · rw [if_pos e, if_pos e, if_pos e, if_pos e]
          exact ⟨rfl, rfl, fun hs => if_pos (by omega)⟩
        · rw [if_neg e, if_neg e, if_neg e, if_neg e]
          exact h1 u u0 u1
      · rw [ex _ i (by omega), b4]
        by_cases e : u = t
        · subst e
          rw [if_pos (by omega)]
          exact a4 i i0 i1
        · rw [if_neg (by omega), a5 _ i (by omega) (by omega) (by omega), ey 111 _ (by omega)]
          exact h2 u i u0 u1 i0 i1
theorem st_item {σ σ1 σ2 : Nat → Int → Int} {t i v r r' : Int} (h : R2 σ) (hI : InvX σ) (hF : Fr scTp σ σ1) (hG : Fr jcTp σ1 σ2) (hx : itemX σ t i v r σ1) (hj : itemJ σ1 t i v r' σ2) : r = r' ∧ R2 σ2 := by
  have h' := h
  obtain ⟨h1, h2⟩ := h'
  have ex : ∀ k j, k < 69 → σ2 k j = σ1 k j := fun k j a => hG k j (jcTp_f a)
  have ey : ∀ k j, 69 ≤ k → σ1 k j = σ k j := fun k j a => hF k j (scTp_f a)
  have q : 0 ≤ t → t ≤ 5 → (σ 32 t = σ 109 t ∧ σ 31 t = σ 110 t) ∧ 0 ≤ σ 31 t ∧ σ 31 t ≤ 60 := fun a b => ⟨⟨(h1 t a (by omega)).1, (h1 t a (by omega)).2.1⟩, iv31_0 hI t a (by omega)⟩
  unfold itemX at hx
  unfold itemJ at hj
  rw [ey 109 t (by omega), ey 110 t (by omega)] at hj
  rcases hx with ⟨a1, a2, a3⟩ | ⟨a1, a2, a3⟩ | ⟨a1, a2, a3⟩ | ⟨a1, a2, a3⟩
  · rcases hj with ⟨b1, b2, b3⟩ | ⟨b1, b2, b3⟩ | ⟨b1, b2, b3⟩ | ⟨b1, b2, b3⟩ <;> first | (rw [b3, a3]; exact ⟨by omega, h⟩) | (exfalso; omega)
  · have := q a1.1.1 a1.1.2
    rcases hj with ⟨b1, b2, b3⟩ | ⟨b1, b2, b3⟩ | ⟨b1, b2, b3⟩ | ⟨b1, b2, b3⟩ <;> first | (rw [b3, a3]; exact ⟨by omega, h⟩) | (exfalso; omega)
  · have := q a1.1.1 a1.1.2
    rcases hj with ⟨b1, b2, b3⟩ | ⟨b1, b2, b3⟩ | ⟨b1, b2, b3⟩ | ⟨b1, b2, b3⟩ <;> first | (rw [b3, a3]; exact ⟨by omega, h⟩) | (exfalso; omega)
  · have := q a1.1.1 a1.1.2
    rcases hj with ⟨b1, b2, b3⟩ | ⟨b1, b2, b3⟩ | ⟨b1, b2, b3⟩ | ⟨b1, b2, b3⟩
    · exfalso; omega
    · exfalso; omega
    · exfalso; omega
    · refine ⟨by omega, fun u u0 u1 => ?_, fun u j u0 u1 j0 j1 => ?_⟩
      · have q1 : σ2 32 u = σ 32 u := by rw [ex 32 u (by omega), a3]; exact up_cell (by omega)
        have q2 : σ2 31 u = σ 31 u := by rw [ex 31 u (by omega), a3]; exact up_cell (by omega)
        have q3 : σ2 109 u = σ 109 u := by rw [b3, up_cell (by omega)]; exact ey 109 u (by omega)
        have q4 : σ2 110 u = σ 110 u := by rw [b3, up_cell (by omega)]; exact ey 110 u (by omega)
        rw [q1, q2, q3, q4]
        exact h1 u u0 u1
      · rw [ex _ j (by omega), b3]
        by_cases e : u = t ∧ j = i
        · obtain ⟨rfl, rfl⟩ := e
          rw [up_same, a3, up_same, this.1.1]
        · rw [up_slot (show 60 * u + j ≠ 60 * t + i by omega), ey 111 _ (by omega), a3]
          have q : up σ (25 + Int.toNat t) i (cutF (σ 32 t) v) (25 + Int.toNat u) j = σ (25 + Int.toNat u) j := by
            by_cases e2 : u = t
            · subst e2; exact up_slot (by omega)
            · exact up_cell (by omega)
          rw [q]
          exact h2 u j u0 u1 j0 j1
theorem st_read {σ σ1 : Nat → Int → Int} {t i r r' : Int} (h : R2 σ) (hI : InvX σ) (hx : readX σ t i r σ1) (hj : readJ σ1 t i r' σ1) : r = r' ∧ R2 σ1 := by
  have hs : σ1 = σ := by unfold readX at hx; rcases hx with ⟨-, -, e⟩ | ⟨-, -, e⟩ | ⟨-, -, e⟩ <;> exact e
  subst hs
  refine ⟨?_, h⟩
  obtain ⟨h1, h2⟩ := h
  have q : 0 ≤ t → t ≤ 5 → (σ1 32 t = σ1 109 t ∧ σ1 31 t = σ1 110 t ∧ (σ1 32 t = -1 → σ1 31 t = 0)) ∧ 0 ≤ σ1 31 t ∧ σ1 31 t ≤ 60 := fun a b => ⟨h1 t a (by omega), iv31_0 hI t a (by omega)⟩
  unfold readX at hx
  unfold readJ at hj
  rcases hx with ⟨a1, a2, a3⟩ | ⟨a1, a2, a3⟩ | ⟨a1, a2, a3⟩
  · rcases hj with ⟨b1, b2, b3⟩ | ⟨b1, b2, b3⟩ | ⟨b1, b2, b3⟩ <;> omega
  · have := q a1.1.1 a1.1.2
    rcases hj with ⟨b1, b2, b3⟩ | ⟨b1, b2, b3⟩ | ⟨b1, b2, b3⟩ <;> omega
  · have := q a1.1.1 a1.1.2
    rcases hj with ⟨b1, b2, b3⟩ | ⟨b1, b2, b3⟩ | ⟨b1, b2, b3⟩
    · omega
    · omega
    · rw [a2, b2]; exact h2 t i (by omega) (by omega) (by omega) (by omega)
theorem st_shift {σ σ1 σ2 : Nat → Int → Int} {t i o j n r r' : Int} (h : R2 σ) (hI : InvX σ) (hF : Fr scTp σ σ1) (hG : Fr jcSh σ1 σ2) (hx : shiftX σ t i o j n r σ1) (hj : shiftJ σ1 t i o j n r' σ2) : r = r' ∧ R2 σ2 := by
  have h' := h
  obtain ⟨h1, h2⟩ := h'
  have ex : ∀ k p, k < 111 → σ2 k p = σ1 k p := fun k p a => hG k p (jcSh_f a)
  have ey : ∀ k p, 69 ≤ k → σ1 k p = σ k p := fun k p a => hF k p (scTp_f a)
  have q : ∀ t, 0 ≤ t → t ≤ 5 → (σ 32 t = σ 109 t ∧ σ 31 t = σ 110 t) ∧ 0 ≤ σ 31 t ∧ σ 31 t ≤ 60 := fun t a b => ⟨⟨(h1 t a (by omega)).1, (h1 t a (by omega)).2.1⟩, iv31_0 hI t a (by omega)⟩
  unfold shiftX at hx
  unfold shiftJ at hj
  rw [ey 109 t (by omega), ey 110 t (by omega), ey 109 o (by omega), ey 110 o (by omega)] at hj
  by_cases hT : 0 ≤ t ∧ t ≤ 5 ∧ 0 ≤ o ∧ o ≤ 5
  · have qt := q t (by omega) (by omega)
    have qo := q o (by omega) (by omega)
    rcases hx with ⟨a1, a2, a3⟩ | ⟨a1, a2, a3⟩ | ⟨a1, a2, a3⟩ | ⟨a1, a2, a3⟩ | ⟨a1, a2, a3⟩
    · exfalso; omega
    · rcases hj with ⟨b1, b2, b3⟩ | ⟨b1, b2, b3⟩ | ⟨b1, b2, b3⟩ | ⟨b1, b2, b3⟩ | ⟨b1, b2, b3⟩ <;> first | (exfalso; omega) | (rw [b3, a3]; exact ⟨by omega, h⟩)
    · rcases hj with ⟨b1, b2, b3⟩ | ⟨b1, b2, b3⟩ | ⟨b1, b2, b3⟩ | ⟨b1, b2, b3⟩ | ⟨b1, b2, b3⟩ <;> first | (exfalso; omega) | (rw [b3, a3]; exact ⟨by omega, h⟩)
    · rcases hj with ⟨b1, b2, b3⟩ | ⟨b1, b2, b3⟩ | ⟨b1, b2, b3⟩ | ⟨b1, b2, b3⟩ | ⟨b1, b2, b3⟩ <;> first | (exfalso; omega) | (rw [b3, a3]; exact ⟨by omega, h⟩)
    · rcases hj with ⟨b1, b2, b3⟩ | ⟨b1, b2, b3⟩ | ⟨b1, b2, b3⟩ | ⟨b1, b2, b3⟩ | ⟨b1, b2, b3⟩
      · exfalso; omega
      · exfalso; omega
      · exfalso; omega
      · exfalso; omega
      · refine ⟨by omega, fun u u0 u1 => ?_, fun u p u0 u1 p0 p1 => ?_⟩
        · have c : ∀ k, (k = 31 ∨ k = 32) → σ1 k u = σ k u := fun k hk => by
            rw [a3]; unfold cpy; rw [if_neg (by omega)]
          rw [ex 32 u (by omega), ex 31 u (by omega), ex 109 u (by omega), ex 110 u (by omega), c 32 (by omega), c 31 (by omega), ey 109 u (by omega), ey 110 u (by omega)]
          exact h1 u u0 u1
        · rw [ex _ p (by omega), b3, a3]
          by_cases e : u = o ∧ j ≤ p ∧ p < j + n
          · obtain ⟨rfl, e1, e2⟩ := e
            rw [if_pos (by omega)]
            unfold cpy
            rw [if_pos ⟨rfl, e1, e2⟩, if_neg (by omega), h2 t (i + (p - j)) (by omega) (by omega) (by omega) (by omega)]
            congr 1
            omega
          · rw [if_neg (by omega)]
            unfold cpy
            rw [if_neg (by omega), if_neg (by omega)]
            exact h2 u p u0 u1 p0 p1
  · rcases hx with ⟨a1, a2, a3⟩ | ⟨a1, a2, a3⟩ | ⟨a1, a2, a3⟩ | ⟨a1, a2, a3⟩ | ⟨a1, a2, a3⟩
    · rcases hj with ⟨b1, b2, b3⟩ | ⟨b1, b2, b3⟩ | ⟨b1, b2, b3⟩ | ⟨b1, b2, b3⟩ | ⟨b1, b2, b3⟩ <;> first | (exfalso; omega) | (rw [b3, a3]; exact ⟨by omega, h⟩)
    · exfalso; omega
    · exfalso; omega
    · exfalso; omega
    · exfalso; omega
theorem R2_0 {σ : Nat → Int → Int} (h1 : ∀ j, 0 ≤ j → j < 6 → σ 32 j = -1 ∧ σ 109 j = -1) (hz : ∀ k, k ∈ [25, 26, 27, 28, 29, 30, 31, 110, 111] → ∀ j, σ k j = 0) : R2 σ := by
  refine ⟨fun t t0 t1 => ?_, fun t i t0 t1 i0 i1 => ?_⟩
  · rw [hz 31 (by decide), hz 110 (by decide)]
    have := h1 t t0 t1
    omega
  · have : t = 0 ∨ t = 1 ∨ t = 2 ∨ t = 3 ∨ t = 4 ∨ t = 5 := by omega
    rw [hz 111 (by decide)]
    rcases this with rfl | rfl | rfl | rfl | rfl | rfl
    · exact hz 25 (by decide) i
    · exact hz 26 (by decide) i
    · exact hz 27 (by decide) i
    · exact hz 28 (by decide) i
    · exact hz 29 (by decide) i
    · exact hz 30 (by decide) i
