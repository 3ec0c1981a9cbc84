theorem ite_cg {P : Prop} [Decidable P] {x y z : Int} (h : P → x = y) : (if P then x else z) = if P then y else z := by
  by_cases c : P
  · rw [if_pos c, if_pos c]; exact h c
  · rw [if_neg c, if_neg c]
/-! what both sides are asked of nights: the same street gives the same -/
theorem eXJ {σ : Nat → Int → Int} (hR : R1 σ) (hW : R4 σ) (hX : InvX σ) (hJ : InvJ σ) (hS : JS σ) : eX σ = eJ σ := by
  have hR' := hR
  unfold R1 at hR'
  have hdw := dw_all hW hJ hS
  obtain ⟨s33_0, s33_6, s1_0, s1_6, s0_2, s42_2, s45_2, s48_2, s10_2, s13_2, s16_2, a34, a35, a36, a37, a39, a40, a41, a2, a3, a4, a5, a7, a8, a9, l43, l46, l47, l49, l50, l11, l14, l15, l17, l18, w38, w6⟩ := hR'
  have hs := fun f h g (hf : 0 ≤ f ∧ f < 4) (hh : 0 ≤ h ∧ h < 6) => sl_all (g := g) hR hW hX hJ hS hf hh
  have b42 := iv42_2 hX 2 (by omega) (by omega)
  funext i a b c
  match i with
  | 0 =>
    show (if (0 ≤ a ∧ a < 4) ∧ (0 ≤ b ∧ b < 6) ∧ 0 ≤ c ∧ c ≤ 99 then frX σ a b c else 0) = if (0 ≤ a ∧ a < 4) ∧ (0 ≤ b ∧ b < 6) ∧ 0 ≤ c ∧ c ≤ 99 then frJ σ a b c else 0
    by_cases h : (0 ≤ a ∧ a < 4) ∧ (0 ≤ b ∧ b < 6) ∧ 0 ≤ c ∧ c ≤ 99
    · rw [if_pos h, if_pos h]; exact (hs a b c h.1 h.2.1).2
    · rw [if_neg h, if_neg h]
  | 1 =>
    show (if (0 ≤ a ∧ a < 4) ∧ (0 ≤ b ∧ b < 6) ∧ 0 ≤ c ∧ c ≤ 99 then rup (slX σ a b c * c) (σ 41 a) else 0) = if (0 ≤ a ∧ a < 4) ∧ (0 ≤ b ∧ b < 6) ∧ 0 ≤ c ∧ c ≤ 99 then rup (slJ σ a b c * c) (σ 77 a) else 0
    by_cases h : (0 ≤ a ∧ a < 4) ∧ (0 ≤ b ∧ b < 6) ∧ 0 ≤ c ∧ c ≤ 99
    · rw [if_pos h, if_pos h, (hs a b c h.1 h.2.1).1, a41 a h.1.1 h.1.2]
    · rw [if_neg h, if_neg h]
  | 2 => exact hdw.symm
  | 3 => exact ite_cg (fun h => a34 a h.1 h.2)
  | 4 => exact ite_cg (fun h => a35 a h.1 h.2)
  | 5 => exact ite_cg (fun h => a37 a h.1 h.2)
  | 6 => exact ite_cg (fun h => (w38 a h.1.1 h.1.2).2 b h.2.1 h.2.2)
  | 7 => exact ite_cg (fun h => a39 a h.1 h.2)
  | 8 => exact ite_cg (fun h => a40 a h.1 h.2)
  | 9 => exact ite_cg (fun h => a36 a h.1 h.2)
  | 10 => exact s33_0
  | 11 => exact s33_6
  | 12 => exact s42_2
  | 13 =>
    show (if 0 ≤ a ∧ a < σ 42 2 then σ 43 a else 0) = if 0 ≤ a ∧ a < σ 69 34 then σ 88 a else 0
    rw [← s42_2]; exact ite_cg (fun h => l43 a h.1 h.2)
  | 14 => exact s45_2
  | 15 =>
    show (if 0 ≤ a ∧ a < σ 45 2 then σ 46 a else 0) = if 0 ≤ a ∧ a < σ 69 38 then σ 91 a else 0
    rw [← s45_2]; exact ite_cg (fun h => l46 a h.1 h.2)
  | 16 =>
    show (if 0 ≤ a ∧ a < σ 45 2 then σ 47 a else 0) = if 0 ≤ a ∧ a < σ 69 38 then σ 92 a else 0
    rw [← s45_2]; exact ite_cg (fun h => l47 a h.1 h.2)
  | 17 => exact s48_2
  | 18 =>
    show (if 0 ≤ a ∧ a < σ 48 2 then σ 49 a else 0) = if 0 ≤ a ∧ a < σ 69 41 then σ 93 a else 0
    rw [← s48_2]; exact ite_cg (fun h => l49 a h.1 h.2)
  | 19 =>
    show (if 0 ≤ a ∧ a < σ 48 2 then σ 50 a else 0) = if 0 ≤ a ∧ a < σ 69 41 then σ 94 a else 0
    rw [← s48_2]; exact ite_cg (fun h => l50 a h.1 h.2)
  | 20 =>
    show (if (0 ≤ a ∧ a < 4) ∧ (0 ≤ b ∧ b < 6) ∧ 0 ≤ c ∧ c ≤ 99 then slX σ a b c else 0) = if (0 ≤ a ∧ a < 4) ∧ (0 ≤ b ∧ b < 6) ∧ 0 ≤ c ∧ c ≤ 99 then slJ σ a b c else 0
    by_cases h : (0 ≤ a ∧ a < 4) ∧ (0 ≤ b ∧ b < 6) ∧ 0 ≤ c ∧ c ≤ 99
    · rw [if_pos h, if_pos h]; exact (hs a b c h.1 h.2.1).1
    · rw [if_neg h, if_neg h]
  | 21 => exact ite_cg (fun h => a41 a h.1 h.2)
  | i + 22 => rfl
theorem eJ_X {σ σ1 : Nat → Int → Int} (hF : Fr scX σ σ1) : eJ σ1 = eJ σ := by
  have e : ∀ k j, 69 ≤ k → σ1 k j = σ k j := fun k j hk => hF k j (by
    unfold scX
    simp only [Bool.or_eq_false_iff, Bool.and_eq_false_iff, beq_eq_false_iff_ne, ne_eq]
    omega)
  funext i
  by_cases hi : i = 9
  · subst hi
    funext a b c
    show (if _ then σ1 72 a else 0) = if _ then σ 72 a else 0
    rw [e 72 a (by decide)]
  · exact eJ_cg (fun k j hk => e k j (by unfold kJ at hk; omega)) i hi
theorem st_nt {σ σ1 : Nat → Int → Int} {r r' : Int} (Q : EV → Int) (hR : R1 σ) (hW : R4 σ) (hX : InvX σ) (hJ : InvJ σ) (hS : JS σ) (hF : Fr scX σ σ1) (hx : r = Q (eX σ)) (hj : r' = Q (eJ σ1)) : r = r' := by
  rw [hx, hj, eJ_X hF, eXJ hR hW hX hJ hS]
