/-! a tape judged: the first house whose grain the tape has not -/
def jdF : Nat → Int → (Int → Int) → Int
  | 0, _, _ => -5
  | n + 1, h, f => if f h = -1 then jdF n (h + 1) f else f h
theorem jd_end {N q : Int} {f : Int → Int} (h : N ≤ q) : jdF (Int.toNat (N - q)) q f = -5 := by
  rw [show Int.toNat (N - q) = 0 by omega]; rfl
theorem jd_step {N q : Int} {f : Int → Int} (h : q < N) (e : f q = -1) : jdF (Int.toNat (N - q)) q f = jdF (Int.toNat (N - (q + 1))) (q + 1) f := by
  rw [show Int.toNat (N - q) = Int.toNat (N - (q + 1)) + 1 by omega]
  exact if_pos e
theorem jd_here {N q : Int} {f : Int → Int} (h : q < N) (e : f q ≠ -1) : jdF (Int.toNat (N - q)) q f = f q := by
  rw [show Int.toNat (N - q) = Int.toNat (N - (q + 1)) + 1 by omega]
  exact if_neg e
theorem jd_first {N : Int} {f : Int → Int} (h : 0 < N) (e : f 0 ≠ -1) : jdF (Int.toNat N) 0 f = f 0 := by
  have := jd_here (q := 0) h e
  rwa [Int.sub_zero] at this
theorem jd_cong {f g : Int → Int} : ∀ (n : Nat) (a : Int), (∀ h, a ≤ h → h < a + n → f h = g h) → jdF n a f = jdF n a g
  | 0, _, _ => rfl
  | n + 1, a, h => by
    have e := h a (by omega) (by omega)
    have ih := jd_cong n (a + 1) (fun x h0 h1 => h x (by omega) (by omega))
    show (if f a = -1 then jdF n (a + 1) f else f a) = (if g a = -1 then jdF n (a + 1) g else g a)
    rw [e, ih]
def fitX (σ : Nat → Int → Int) (t i h : Int) : Int := if i < 0 ∨ σ 31 t - h ≤ i then 100 + h else if σ (25 + Int.toNat t) (i + h) = σ 36 h then -1 else h
def fitJ (σ : Nat → Int → Int) (t i h : Int) : Int := if σ 109 t < 0 ∨ i < 0 ∨ σ 110 t - h ≤ i then 100 + h else if σ 111 (60 * t + i + h) = σ 72 h then -1 else h
def judX (σ : Nat → Int → Int) (t i r : Int) : Prop := (¬ (0 ≤ t ∧ t ≤ 5) ∧ r = -1) ∨ ((0 ≤ t ∧ t ≤ 5) ∧ ¬ (σ 32 t = -1 ∨ σ 32 t = 0) ∧ r = -12) ∨ ((0 ≤ t ∧ t ≤ 5) ∧ (σ 32 t = -1 ∨ σ 32 t = 0) ∧ r = jdF (Int.toNat (σ 33 0)) 0 (fitX σ t i))
def judJ (σ : Nat → Int → Int) (t i r : Int) : Prop := (¬ (0 ≤ t ∧ t ≤ 5) ∧ r = -1) ∨ ((0 ≤ t ∧ t ≤ 5) ∧ 0 < σ 109 t ∧ r = -12) ∨ ((0 ≤ t ∧ t ≤ 5) ∧ σ 109 t ≤ 0 ∧ r = jdF (Int.toNat (σ 69 0)) 0 (fitJ σ t i))
