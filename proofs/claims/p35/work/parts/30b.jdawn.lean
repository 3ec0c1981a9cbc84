/-! dawn -/
def dwI (w v : Int → Int) (b : Int) : Nat → Int
  | 0 => 60
  | n + 1 => if w (b + (n : Int)) = 2 then v (b + (n : Int)) else dwI w v b n
def dwK (σ : Nat → Int → Int) (q : Int) : Int := if σ 69 11 < 0 then 60 else dwI (σ 80) (σ 81) (10 * σ 69 11) (q - 10 * σ 69 11).toNat
def dwJ (σ : Nat → Int → Int) : Int := dwK σ (10 * σ 69 11 + σ 79 (σ 69 11))
theorem dwK_s {σ : Nat → Int → Int} {q : Int} (h : 0 ≤ σ 69 11) (h0 : 10 * σ 69 11 ≤ q) : dwK σ (q + 1) = if σ 80 q = 2 then σ 81 q else dwK σ q := by
  have hn : ¬ σ 69 11 < 0 := by omega
  unfold dwK
  simp only [if_neg hn]
  rw [show (q + 1 - 10 * σ 69 11).toNat = (q - 10 * σ 69 11).toNat + 1 by omega]
  show (if σ 80 (10 * σ 69 11 + (((q - 10 * σ 69 11).toNat : Nat) : Int)) = 2 then _ else _) = _
  rw [show 10 * σ 69 11 + (((q - 10 * σ 69 11).toNat : Nat) : Int) = q by omega]
theorem dwK_0 {σ : Nat → Int → Int} {q : Int} (h : σ 69 11 < 0 ∨ q = 10 * σ 69 11) : dwK σ q = 60 := by
  unfold dwK
  split
  · rfl
  · rw [show (q - 10 * σ 69 11).toNat = 0 by omega]; rfl
