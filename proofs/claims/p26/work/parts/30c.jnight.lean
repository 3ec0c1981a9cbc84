/-! a night of the reference's, by the bounds of its numbers -/
theorem sm_b {σ : Nat → Int → Int} {F : Int → Int} {w : Int} (hI : InvJ σ) (h0 : 0 ≤ σ 69 11) : ∀ n : Nat, n ≤ 10 → 0 ≤ (smJ σ F w n).1
  | 0, _ => Int.le_refl 0
  | n + 1, hn => by
    have ih := sm_b (F := F) (w := w) hI h0 n (by omega)
    have b11 := jv69_11 hI 11 (by omega) (by omega)
    have b81 := jv81_0 hI (10 * σ 69 11 + (n : Int)) (by omega) (by omega)
    show 0 ≤ (if σ 80 (10 * σ 69 11 + (n : Int)) = w then ((smJ σ F w n).1 + (if hlJ σ F (10 * σ 69 11 + (n : Int)) = 0 then 0 else σ 81 (10 * σ 69 11 + (n : Int))), (1 : Int)) else smJ σ F w n).1
    split
    · show 0 ≤ (smJ σ F w n).1 + _
      split <;> omega
    · exact ih
theorem sa_b {σ : Nat → Int → Int} {F : Int → Int} {w o : Int} (hI : InvJ σ) (ho : 0 ≤ o) : 0 ≤ saJ σ F w o := by
  unfold saJ
  split
  · exact ho
  · split
    · exact ho
    · have b11 := jv69_11 hI 11 (by omega) (by omega)
      have b79 := jv79_0 hI (σ 69 11) (by omega) (by omega)
      exact sm_b hI (by omega) _ (by omega)
/-- a visit of the reference's night, from a state of the same street -/
theorem rc_J {σ τ : Nat → Int → Int} {f h : Int} (hT : InvJ τ) (hF : Fr scJ σ τ) (hf : 0 ≤ f ∧ f < 4) (hh : 0 ≤ h ∧ h < 6) (hg : 0 ≤ σ 72 h ∧ σ 72 h ≤ 99) (h4 : τ 69 28 = f) : viF (frJ τ f h (τ 72 h)) (rup (slJ τ f h (τ 72 h) * τ 72 h) (τ 77 f)) (dwJ τ) (leF (τ 73 h) (τ 70 h) (τ 71 h) (rwJ τ h) f h) h (nJ τ) = viE (eJ σ) f h (σ 72 h) (nJ τ) := by
  have b3 := jv69_29 hT 29 (by omega) (by omega)
  have e72 : τ 72 h = σ 72 h := hF 72 h rfl
  have g1 : 0 ≤ frJ τ f h (τ 72 h) := sa_b hT (by decide)
  have g2 : 0 ≤ slJ τ f h (τ 72 h) := sa_b hT (by decide)
  rw [← viJ (σ := τ) hf hh (by omega) (mn0 g1 (rup0 (Int.mul_nonneg g2 (by omega))) b3.1), eJ_fr hF, e72]
