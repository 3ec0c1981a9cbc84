theorem st_judge {σ σ1 : Nat → Int → Int} {t i r r' : Int} (h : R1 σ) (h2 : R2 σ) (hI : InvX σ) (hF : Fr scX σ σ1) (hx : judX σ t i r) (hj : judJ σ1 t i r') : r = r' := by
  have e0 := h.1
  have hg := h.2.2.2.2.2.2.2.2.2.2.2.2.2.1
  have b0 := iv33_0 hI 0 (by omega) (by omega)
  have e69 : σ1 69 0 = σ 69 0 := hF 69 0 rfl
  have e109 : σ1 109 t = σ 109 t := hF 109 t rfl
  have q : 0 ≤ t → t ≤ 5 → (σ 32 t = σ 109 t ∧ σ 31 t = σ 110 t ∧ (σ 32 t = -1 → σ 31 t = 0)) ∧ (0 ≤ σ 31 t ∧ σ 31 t ≤ 60) ∧ -1 ≤ σ 32 t := fun a b => ⟨h2.1 t a (by omega), iv31_0 hI t a (by omega), (iv32_0 hI t a (by omega)).1⟩
  unfold judX at hx
  unfold judJ at hj
  rcases hx with ⟨a1, a2⟩ | ⟨a1, a2, a3⟩ | ⟨a1, a2, a3⟩
  · rcases hj with ⟨b1, b2⟩ | ⟨b1, b2, b3⟩ | ⟨b1, b2, b3⟩ <;> omega
  · have := q a1.1 a1.2
    rcases hj with ⟨b1, b2⟩ | ⟨b1, b2, b3⟩ | ⟨b1, b2, b3⟩ <;> omega
  · have := q a1.1 a1.2
    rcases hj with ⟨b1, b2⟩ | ⟨b1, b2, b3⟩ | ⟨b1, b2, b3⟩
    · omega
    · omega
    · rw [a3, b3, e69, ← e0]
      refine jd_cong _ _ (fun p p0 p1 => ?_)
      have eg := hg p p0 (by omega)
      unfold fitX fitJ
      rw [e109, hF 110 t rfl, hF 111 _ rfl, hF 72 p rfl, ← this.1.1, ← this.1.2.1]
      by_cases c : i < 0 ∨ σ 31 t - p ≤ i
      · have c' : σ 32 t < 0 ∨ i < 0 ∨ σ 31 t - p ≤ i := by omega
        rw [if_pos c, if_pos c']
      · have c' : ¬ (σ 32 t < 0 ∨ i < 0 ∨ σ 31 t - p ≤ i) := by omega
        rw [if_neg c, if_neg c', h2.2 t (i + p) (by omega) (by omega) (by omega) (by omega), eg, show 60 * t + (i + p) = 60 * t + i + p by omega]
