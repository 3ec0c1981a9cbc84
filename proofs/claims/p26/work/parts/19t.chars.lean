/-! the class's texts, sign by sign -/
def chK (i : Nat) (j : Int) : Int := ((bytJS.getD i []).getD j.toNat 0).toInt
theorem chK_c {i : Nat} {j : Int} (hi : i < 8) (hj : 0 ≤ j ∧ j < ((lenJS.getD i 0 : Nat) : Int)) : zi2c (zand ((bytJS.getD i []).getD (Int.toNat j) 0).toInt 255) = chK i j := by
  have key : ∀ (a : Fin 8) (b : Fin 11), zi2c (zand ((bytJS.getD a.1 []).getD b.1 0).toInt 255) = ((bytJS.getD a.1 []).getD b.1 0).toInt := by decide +kernel
  have hL := lenJ (i := i)
  have := key ⟨i, hi⟩ ⟨j.toNat, by omega⟩
  exact this
theorem chK_b {i : Nat} {j : Int} (hi : i < 8) (hj : 0 ≤ j ∧ j < ((lenJS.getD i 0 : Nat) : Int)) : 0 ≤ chK i j ∧ chK i j ≤ 127 := by
  have key : ∀ (a : Fin 8) (b : Fin 11), 0 ≤ ((bytJS.getD a.1 []).getD b.1 0).toInt ∧ ((bytJS.getD a.1 []).getD b.1 0).toInt ≤ 127 := by decide +kernel
  have hL := lenJ (i := i)
  have := key ⟨i, hi⟩ ⟨j.toNat, by omega⟩
  exact this
theorem zi2b_id {c : Int} (h : 0 ≤ c ∧ c ≤ 127) : zi2b c = c := by
  have key : ∀ a : Fin 128, zi2b ((a.1 : Nat) : Int) = ((a.1 : Nat) : Int) := by decide +kernel
  have := key ⟨c.toNat, by omega⟩
  simpa only [Int.toNat_of_nonneg h.1] using this
theorem zi2c_id {c : Int} (h : 0 ≤ c ∧ c ≤ 127) : zi2c c = c := by
  have key : ∀ a : Fin 128, zi2c ((a.1 : Nat) : Int) = ((a.1 : Nat) : Int) := by decide +kernel
  have := key ⟨c.toNat, by omega⟩
  simpa only [Int.toNat_of_nonneg h.1] using this
theorem zushr_8 {c : Int} (h : 0 ≤ c ∧ c ≤ 127) : zushr c 8 = 0 := by
  have key : ∀ a : Fin 128, zushr ((a.1 : Nat) : Int) 8 = 0 := by decide +kernel
  have := key ⟨c.toNat, by omega⟩
  simpa only [Int.toNat_of_nonneg h.1] using this
def ixP (i : Nat) (ch a b r : Int) : Prop := (r = -1 ∧ ∀ x, a ≤ x → x < b → chK i x ≠ ch) ∨ (a ≤ r ∧ r < b ∧ chK i r = ch)
theorem ix_3 {ch r : Int} (h : ixP 3 ch 0 ((lenJS.getD 3 0 : Nat) : Int) r) : (48 ≤ ch ∧ ch ≤ 57 ∧ r = ch - 48) ∨ (¬ (48 ≤ ch ∧ ch ≤ 57) ∧ r = -1) := by
  have key : ∀ a : Fin 10, chK 3 ((a.1 : Nat) : Int) = ((a.1 : Nat) : Int) + 48 := by decide +kernel
  have k2 : ∀ x : Int, 0 ≤ x → x < 10 → chK 3 x = x + 48 := fun x h0 h1 => by
    have := key ⟨x.toNat, by omega⟩
    simpa only [Int.toNat_of_nonneg h0] using this
  have e : ((lenJS.getD 3 0 : Nat) : Int) = 10 := rfl
  unfold ixP at h
  rw [e] at h
  rcases h with ⟨a, b⟩ | ⟨a, b, c⟩
  · refine Or.inr ⟨fun hc => ?_, a⟩
    have := b (ch - 48) (by omega) (by omega)
    rw [k2 _ (by omega) (by omega)] at this
    omega
  · rw [k2 r a b] at c; omega
theorem ix_7 {ch r : Int} (h : ixP 7 ch 0 ((lenJS.getD 7 0 : Nat) : Int) r) : (60 ≤ ch ∧ ch ≤ 62 ∧ r = ch - 60) ∨ (¬ (60 ≤ ch ∧ ch ≤ 62) ∧ r = -1) := by
  have key : ∀ a : Fin 3, chK 7 ((a.1 : Nat) : Int) = ((a.1 : Nat) : Int) + 60 := by decide +kernel
  have k2 : ∀ x : Int, 0 ≤ x → x < 3 → chK 7 x = x + 60 := fun x h0 h1 => by
    have := key ⟨x.toNat, by omega⟩
    simpa only [Int.toNat_of_nonneg h0] using this
  have e : ((lenJS.getD 7 0 : Nat) : Int) = 3 := rfl
  unfold ixP at h
  rw [e] at h
  rcases h with ⟨a, b⟩ | ⟨a, b, c⟩
  · refine Or.inr ⟨fun hc => ?_, a⟩
    have := b (ch - 60) (by omega) (by omega)
    rw [k2 _ (by omega) (by omega)] at this
    omega
  · rw [k2 r a b] at c; omega
theorem ix_6 {ch r : Int} (h : ixP 6 ch 0 ((lenJS.getD 6 0 : Nat) : Int) r) : r = ltF ch ∧ -1 ≤ r ∧ r ≤ 5 := by
  have k0 : chK 6 0 = 102 := by decide +kernel
  have k1 : chK 6 1 = 104 := by decide +kernel
  have k2 : chK 6 2 = 107 := by decide +kernel
  have k3 : chK 6 3 = 118 := by decide +kernel
  have k4 : chK 6 4 = 103 := by decide +kernel
  have k5 : chK 6 5 = 99 := by decide +kernel
  have e : ((lenJS.getD 6 0 : Nat) : Int) = 6 := rfl
  unfold ixP at h
  rw [e] at h
  rcases h with ⟨a, b⟩ | ⟨a, b, c⟩
  · have b0 := b 0 (by omega) (by omega)
    have b1 := b 1 (by omega) (by omega)
    have b2 := b 2 (by omega) (by omega)
    have b3 := b 3 (by omega) (by omega)
    have b4 := b 4 (by omega) (by omega)
    have b5 := b 5 (by omega) (by omega)
    rw [k0] at b0; rw [k1] at b1; rw [k2] at b2; rw [k3] at b3; rw [k4] at b4; rw [k5] at b5
    refine ⟨?_, by omega, by omega⟩
    unfold ltF
    rw [if_neg (Ne.symm b0), if_neg (Ne.symm b1), if_neg (Ne.symm b2), if_neg (Ne.symm b3), if_neg (Ne.symm b4), if_neg (Ne.symm b5)]
    exact a
  · have hr : r = 0 ∨ r = 1 ∨ r = 2 ∨ r = 3 ∨ r = 4 ∨ r = 5 := by omega
    refine ⟨?_, by omega, by omega⟩
    rcases hr with rfl | rfl | rfl | rfl | rfl | rfl <;> first | (rw [k0] at c; subst c; rfl) | (rw [k1] at c; subst c; rfl) | (rw [k2] at c; subst c; rfl) | (rw [k3] at c; subst c; rfl) | (rw [k4] at c; subst c; rfl) | (rw [k5] at c; subst c; rfl)
