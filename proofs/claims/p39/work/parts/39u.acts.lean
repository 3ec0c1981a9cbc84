/-! the class's trace says what the reference's does -/
def R3 (σ : Nat → Int → Int) : Prop := σ 21 1 = σ 69 64 ∧ ∀ j, σ 22 j = σ 108 j
theorem xNA_f {k : Nat} {j : Int} (h : k = 22 ∨ (k = 21 ∧ j = 1) ∨ 69 ≤ k) : xNA k j = false := by
  unfold xNA
  simp only [Bool.and_eq_false_iff, Bool.not_eq_false', decide_eq_false_iff_not, Bool.or_eq_true, Bool.and_eq_true, beq_iff_eq]
  omega
theorem jNA_f {k : Nat} {j : Int} (h : k = 108 ∨ (k = 69 ∧ j = 64) ∨ k < 69) : jNA k j = false := by
  unfold jNA
  simp only [Bool.and_eq_false_iff, Bool.not_eq_false', decide_eq_false_iff_not, Bool.or_eq_true, Bool.and_eq_true, beq_iff_eq]
  omega
theorem R3_q {σ σ1 σ2 : Nat → Int → Int} (h : R3 σ) (ha : Fr xNA σ σ1) (hb : Fr jNA σ1 σ2) : R3 σ2 := by
  have ex : ∀ k j, (k = 22 ∨ (k = 21 ∧ j = 1)) → σ2 k j = σ k j := fun k j a => (hb k j (jNA_f (by omega))).trans (ha k j (xNA_f (by omega)))
  have ey : ∀ k j, (k = 108 ∨ (k = 69 ∧ j = 64)) → σ2 k j = σ k j := fun k j a => (hb k j (jNA_f (by omega))).trans (ha k j (xNA_f (by omega)))
  refine ⟨?_, fun j => ?_⟩
  · rw [ex 21 1 (by omega), ey 69 64 (by omega)]; exact h.1
  · rw [ex 22 j (by omega), ey 108 j (by omega)]; exact h.2 j
theorem st_act {σ σ1 σ2 : Nat → Int → Int} {h a x r r' : Int} (h1 : R1 σ) (h3 : R3 σ) (hI : InvX σ) (hF : Fr scAc σ σ1) (hG : Fr jcK σ1 σ2) (hx : actX σ h a x r σ1) (hj : actJ σ1 h a x r' σ2) : r = r' ∧ R3 σ2 := by
  have e0 := h1.1
  have hk := h1.2.2.2.2.2.2.2.2.2.2.2.1
  have hv := h1.2.2.2.2.2.2.2.2.2.2.2.2.1
  have b0 := iv33_0 hI 0 (by omega) (by omega)
  have x1 : σ2 21 1 = σ1 21 1 := hG 21 1 rfl
  have x2 : ∀ j, σ2 22 j = σ1 22 j := fun j => hG 22 j rfl
  have y0 : σ1 69 0 = σ 69 0 := hF 69 0 rfl
  have y2 : σ1 108 = σ 108 := funext fun j => hF 108 j rfl
  have f22 : σ 22 = σ 108 := funext h3.2
  unfold actX at hx
  unfold actJ at hj
  rw [y0, hF 70 h rfl, hF 71 h rfl, y2] at hj
  rcases hx with ⟨a1, a2, a3, a4⟩ | ⟨a1, a2, a3⟩
  · rcases hj with ⟨b1, b2, b3, b4⟩ | ⟨b1, b2, b3⟩
    · exact ⟨by omega, by omega, fun j => by rw [x2, a4, b4]; exact h3.2 j⟩
    · exfalso; omega
  · rcases hj with ⟨b1, b2, b3, b4⟩ | ⟨b1, b2, b3⟩
    · exfalso; omega
    · have c1 : σ 34 h = σ 70 h := hk h (by omega) (by omega)
      have c2 : σ 35 h = σ 71 h := hv h (by omega) (by omega)
      have bk := iv34_0 hI h (by omega) (by omega)
      rw [act_eq (by omega) a1.2, c1, c2, f22] at a2 a3
      have e := a3.trans b3.symm
      have e1 : σ1 21 1 = σ2 69 64 := congrArg (fun p => p.1) e
      have e2 : σ1 22 = σ2 108 := congrArg (fun p => p.2) e
      exact ⟨a2.trans b2.symm, x1.trans e1, fun j => (x2 j).trans (congrFun e2 j)⟩
theorem st_trace {σ σ1 : Nat → Int → Int} {i r r' : Int} (h3 : R3 σ) (hF : Fr scX σ σ1) (hx : (0 ≤ i ∧ i < σ 21 1 ∧ i < 20 ∧ r = σ 22 i) ∨ (¬ (0 ≤ i ∧ i < σ 21 1 ∧ i < 20) ∧ r = -1)) (hj : (0 ≤ i ∧ i < σ1 69 64 ∧ i < 20 ∧ r' = σ1 108 i) ∨ (¬ (0 ≤ i ∧ i < σ1 69 64 ∧ i < 20) ∧ r' = -1)) : r = r' := by
  have y1 : σ1 69 64 = σ 69 64 := hF 69 64 rfl
  have y2 : σ1 108 i = σ 108 i := hF 108 i rfl
  have := h3.1
  have := h3.2 i
  omega
theorem R3_0 {σ : Nat → Int → Int} (h1 : σ 21 1 = σ 69 64) (h2 : ∀ j, σ 22 j = σ 108 j) : R3 σ := ⟨h1, h2⟩
