def rW (x y : Nat) (σ : Nat → Int → Int) : Prop := ∀ h, 0 ≤ h → h < 6 → (0 ≤ σ x h ∧ σ x h ≤ 15) ∧ ∀ q, 0 ≤ q → q < 4 → zbit (σ x h) q = σ y (4 * h + q)
/-- the class's street and its image say what the reference's do -/
def R1 (σ : Nat → Int → Int) : Prop := σ 33 0 = σ 69 0 ∧ σ 33 6 = σ 69 1 ∧ σ 1 0 = σ 69 46 ∧ σ 1 6 = σ 69 47 ∧ σ 0 2 = σ 69 44 ∧ σ 42 2 = σ 69 34 ∧ σ 45 2 = σ 69 38 ∧ σ 48 2 = σ 69 41 ∧ σ 10 2 = σ 69 48 ∧ σ 13 2 = σ 69 49 ∧ σ 16 2 = σ 69 50 ∧ (∀ j, 0 ≤ j → j < 6 → σ 34 j = σ 70 j) ∧ (∀ j, 0 ≤ j → j < 6 → σ 35 j = σ 71 j) ∧ (∀ j, 0 ≤ j → j < 6 → σ 36 j = σ 72 j) ∧ (∀ j, 0 ≤ j → j < 6 → σ 37 j = σ 73 j) ∧ (∀ j, 0 ≤ j → j < 4 → σ 39 j = σ 75 j) ∧ (∀ j, 0 ≤ j → j < 4 → σ 40 j = σ 76 j) ∧ (∀ j, 0 ≤ j → j < 4 → σ 41 j = σ 77 j) ∧ (∀ j, 0 ≤ j → j < 6 → σ 2 j = σ 95 j) ∧ (∀ j, 0 ≤ j → j < 6 → σ 3 j = σ 96 j) ∧ (∀ j, 0 ≤ j → j < 6 → σ 4 j = σ 97 j) ∧ (∀ j, 0 ≤ j → j < 6 → σ 5 j = σ 98 j) ∧ (∀ j, 0 ≤ j → j < 4 → σ 7 j = σ 100 j) ∧ (∀ j, 0 ≤ j → j < 4 → σ 8 j = σ 101 j) ∧ (∀ j, 0 ≤ j → j < 4 → σ 9 j = σ 102 j) ∧ (∀ j, 0 ≤ j → j < σ 42 2 → σ 43 j = σ 88 j) ∧ (∀ j, 0 ≤ j → j < σ 45 2 → σ 46 j = σ 91 j) ∧ (∀ j, 0 ≤ j → j < σ 45 2 → σ 47 j = σ 92 j) ∧ (∀ j, 0 ≤ j → j < σ 48 2 → σ 49 j = σ 93 j) ∧ (∀ j, 0 ≤ j → j < σ 48 2 → σ 50 j = σ 94 j) ∧ (∀ j, 0 ≤ j → j < σ 10 2 → σ 11 j = σ 103 j) ∧ (∀ j, 0 ≤ j → j < σ 13 2 → σ 14 j = σ 104 j) ∧ (∀ j, 0 ≤ j → j < σ 13 2 → σ 15 j = σ 107 j) ∧ (∀ j, 0 ≤ j → j < σ 16 2 → σ 17 j = σ 105 j) ∧ (∀ j, 0 ≤ j → j < σ 16 2 → σ 18 j = σ 106 j) ∧ rW 38 74 σ ∧ rW 6 99 σ
theorem rW_fr {x y x' y' : Nat} {σ σ' : Nat → Int → Int} (h : rW x' y' σ) (ex : ∀ j, 0 ≤ j → j < 6 → σ' x j = σ x' j) (ey : ∀ j, 0 ≤ j → j < 24 → σ' y j = σ y' j) : rW x y σ' := fun a h0 h1 => by
  obtain ⟨e1, e2⟩ := h a h0 h1
  rw [ex a h0 h1]
  exact ⟨e1, fun q q0 q1 => by rw [ey _ (by omega) (by omega)]; exact e2 q q0 q1⟩
theorem zbit_15 {q : Int} (h0 : 0 ≤ q) (h1 : q < 4) : zbit 15 q = 1 := by
  have : q = 0 ∨ q = 1 ∨ q = 2 ∨ q = 3 := by omega
  rcases this with rfl | rfl | rfl | rfl <;> decide
theorem rW_15 {x y : Nat} {σ σ' : Nat → Int → Int} {a : Int} (h : rW x y σ) (ex : ∀ j, σ' x j = if j = a then 15 else σ x j) (ey : ∀ j, σ' y j = if 4 * a ≤ j ∧ j < 4 * a + 4 then 1 else σ y j) : rW x y σ' := fun b h0 h1 => by
  obtain ⟨e1, e2⟩ := h b h0 h1
  by_cases e : b = a
  · subst e
    rw [ex, if_pos rfl]
    exact ⟨by omega, fun q q0 q1 => by rw [ey, if_pos (by omega)]; exact zbit_15 q0 q1⟩
  · rw [ex, if_neg e]
    exact ⟨e1, fun q q0 q1 => by rw [ey, if_neg (by omega)]; exact e2 q q0 q1⟩
theorem zwith_b {b q n : Int} (b0 : 0 ≤ b ∧ b ≤ 15) (q0 : 0 ≤ q ∧ q ≤ 3) (n0 : 0 ≤ n ∧ n ≤ 1) : (0 ≤ zwith b q n ∧ zwith b q n ≤ 15) ∧ ∀ p, 0 ≤ p → p < 4 → zbit (zwith b q n) p = if p = q then n else zbit b p := by
  have key : ∀ (x : Fin 16) (y : Fin 4) (z : Fin 2), (0 ≤ zwith x.1 y.1 z.1 ∧ zwith x.1 y.1 z.1 ≤ 15) ∧ ∀ w : Fin 4, zbit (zwith x.1 y.1 z.1) w.1 = if (w.1 : Int) = y.1 then (z.1 : Int) else zbit x.1 w.1 := by decide +kernel
  have h := key ⟨b.toNat, by omega⟩ ⟨q.toNat, by omega⟩ ⟨n.toNat, by omega⟩
  simp only [Int.toNat_of_nonneg b0.1, Int.toNat_of_nonneg q0.1, Int.toNat_of_nonneg n0.1] at h
  refine ⟨h.1, fun p p0 p1 => ?_⟩
  have h2 := h.2 ⟨p.toNat, by omega⟩
  simpa only [Int.toNat_of_nonneg p0] using h2
theorem rW_row {x y : Nat} {σ σ' : Nat → Int → Int} {a q n : Int} (h : rW x y σ) (a0 : 0 ≤ a ∧ a < 6) (q0 : 0 ≤ q ∧ q ≤ 3) (n0 : 0 ≤ n ∧ n ≤ 1) (ex : ∀ j, σ' x j = if j = a then zwith (σ x a) q n else σ x j) (ey : ∀ j, σ' y j = if j = 4 * a + q then n else σ y j) : rW x y σ' := fun b h0 h1 => by
  obtain ⟨e1, e2⟩ := h b h0 h1
  by_cases e : b = a
  · subst e
    rw [ex, if_pos rfl]
    obtain ⟨z1, z2⟩ := zwith_b e1 q0 n0
    refine ⟨z1, fun p p0 p1 => ?_⟩
    rw [ey, z2 p p0 p1]
    by_cases e : p = q
    · rw [if_pos e, if_pos (by omega)]
    · rw [if_neg e, if_neg (by omega)]; exact e2 p p0 p1
  · rw [ex, if_neg e]
    exact ⟨e1, fun p p0 p1 => by rw [ey, if_neg (by omega)]; exact e2 p p0 p1⟩
theorem rA_up {a b : Nat} {n : Int} {σ σ' : Nat → Int → Int} {i x : Int} (h : ∀ j, 0 ≤ j → j < n → σ a j = σ b j) (e1 : ∀ j, σ' a j = if j = i then x else σ a j) (e2 : ∀ j, σ' b j = if j = i then x else σ b j) : ∀ j, 0 ≤ j → j < n → σ' a j = σ' b j := fun j h0 h1 => by
  rw [e1, e2]
  split
  · rfl
  · exact h j h0 h1
theorem rL_add {a b s : Nat} {σ σ' : Nat → Int → Int} {x : Int} (h : ∀ j, 0 ≤ j → j < σ s 2 → σ a j = σ b j) (es : σ' s 2 = σ s 2 + 1) (e1 : ∀ j, σ' a j = if j = σ s 2 then x else σ a j) (e2 : ∀ j, σ' b j = if j = σ s 2 then x else σ b j) : ∀ j, 0 ≤ j → j < σ' s 2 → σ' a j = σ' b j := fun j h0 h1 => by
  rw [e1, e2]
  split
  · rfl
  · exact h j h0 (by omega)
theorem R1_q {σ σ1 σ2 : Nat → Int → Int} (h : R1 σ) (ha : Fr xNR σ σ1) (hb : Fr jNR σ1 σ2) : R1 σ2 := by
  obtain ⟨c0, c1, c2, c3, c4, c5, c6, c7, c8, c9, c10, c11, c12, c13, c14, c15, c16, c17, c18, c19, c20, c21, c22, c23, c24, c25, c26, c27, c28, c29, c30, c31, c32, c33, c34, c35, c36⟩ := h
  have ex : ∀ k j, xNR k j = false → jNR k j = false → σ2 k j = σ k j := fun k j h1 h2 => (hb k j h2).trans (ha k j h1)
  exact ⟨by rw [ex 33 0 rfl rfl, ex 69 0 rfl rfl]; exact c0, by rw [ex 33 6 rfl rfl, ex 69 1 rfl rfl]; exact c1, by rw [ex 1 0 rfl rfl, ex 69 46 rfl rfl]; exact c2, by rw [ex 1 6 rfl rfl, ex 69 47 rfl rfl]; exact c3, by rw [ex 0 2 rfl rfl, ex 69 44 rfl rfl]; exact c4, by rw [ex 42 2 rfl rfl, ex 69 34 rfl rfl]; exact c5, by rw [ex 45 2 rfl rfl, ex 69 38 rfl rfl]; exact c6, by rw [ex 48 2 rfl rfl, ex 69 41 rfl rfl]; exact c7, by rw [ex 10 2 rfl rfl, ex 69 48 rfl rfl]; exact c8, by rw [ex 13 2 rfl rfl, ex 69 49 rfl rfl]; exact c9, by rw [ex 16 2 rfl rfl, ex 69 50 rfl rfl]; exact c10, fun j h0 h1 => by rw [ex 34 j rfl rfl, ex 70 j rfl rfl]; exact c11 j h0 h1, fun j h0 h1 => by rw [ex 35 j rfl rfl, ex 71 j rfl rfl]; exact c12 j h0 h1, fun j h0 h1 => by rw [ex 36 j rfl rfl, ex 72 j rfl rfl]; exact c13 j h0 h1, fun j h0 h1 => by rw [ex 37 j rfl rfl, ex 73 j rfl rfl]; exact c14 j h0 h1, fun j h0 h1 => by rw [ex 39 j rfl rfl, ex 75 j rfl rfl]; exact c15 j h0 h1, fun j h0 h1 => by rw [ex 40 j rfl rfl, ex 76 j rfl rfl]; exact c16 j h0 h1, fun j h0 h1 => by rw [ex 41 j rfl rfl, ex 77 j rfl rfl]; exact c17 j h0 h1, fun j h0 h1 => by rw [ex 2 j rfl rfl, ex 95 j rfl rfl]; exact c18 j h0 h1, fun j h0 h1 => by rw [ex 3 j rfl rfl, ex 96 j rfl rfl]; exact c19 j h0 h1, fun j h0 h1 => by rw [ex 4 j rfl rfl, ex 97 j rfl rfl]; exact c20 j h0 h1, fun j h0 h1 => by rw [ex 5 j rfl rfl, ex 98 j rfl rfl]; exact c21 j h0 h1, fun j h0 h1 => by rw [ex 7 j rfl rfl, ex 100 j rfl rfl]; exact c22 j h0 h1, fun j h0 h1 => by rw [ex 8 j rfl rfl, ex 101 j rfl rfl]; exact c23 j h0 h1, fun j h0 h1 => by rw [ex 9 j rfl rfl, ex 102 j rfl rfl]; exact c24 j h0 h1, fun j h0 h1 => by rw [ex 43 j rfl rfl, ex 88 j rfl rfl]; exact c25 j h0 (by rw [ex 42 2 rfl rfl] at h1; exact h1), fun j h0 h1 => by rw [ex 46 j rfl rfl, ex 91 j rfl rfl]; exact c26 j h0 (by rw [ex 45 2 rfl rfl] at h1; exact h1), fun j h0 h1 => by rw [ex 47 j rfl rfl, ex 92 j rfl rfl]; exact c27 j h0 (by rw [ex 45 2 rfl rfl] at h1; exact h1), fun j h0 h1 => by rw [ex 49 j rfl rfl, ex 93 j rfl rfl]; exact c28 j h0 (by rw [ex 48 2 rfl rfl] at h1; exact h1), fun j h0 h1 => by rw [ex 50 j rfl rfl, ex 94 j rfl rfl]; exact c29 j h0 (by rw [ex 48 2 rfl rfl] at h1; exact h1), fun j h0 h1 => by rw [ex 11 j rfl rfl, ex 103 j rfl rfl]; exact c30 j h0 (by rw [ex 10 2 rfl rfl] at h1; exact h1), fun j h0 h1 => by rw [ex 14 j rfl rfl, ex 104 j rfl rfl]; exact c31 j h0 (by rw [ex 13 2 rfl rfl] at h1; exact h1), fun j h0 h1 => by rw [ex 15 j rfl rfl, ex 107 j rfl rfl]; exact c32 j h0 (by rw [ex 13 2 rfl rfl] at h1; exact h1), fun j h0 h1 => by rw [ex 17 j rfl rfl, ex 105 j rfl rfl]; exact c33 j h0 (by rw [ex 16 2 rfl rfl] at h1; exact h1), fun j h0 h1 => by rw [ex 18 j rfl rfl, ex 106 j rfl rfl]; exact c34 j h0 (by rw [ex 16 2 rfl rfl] at h1; exact h1), rW_fr c35 (fun j _ _ => ex 38 j rfl rfl) (fun j _ _ => ex 74 j rfl rfl), rW_fr c36 (fun j _ _ => ex 6 j rfl rfl) (fun j _ _ => ex 99 j rfl rfl)⟩
theorem st_house {σ σ1 σ2 : Nat → Int → Int} {k v g r r' : Int} (hR : R1 σ) (hI : InvX σ) (hx : houseX σ k v g r σ1) (hj : houseJ σ1 k v g r' σ2) : r = r' ∧ R1 σ2 := by
  have h' := hR
  obtain ⟨c0, c1, c2, c3, c4, c5, c6, c7, c8, c9, c10, c11, c12, c13, c14, c15, c16, c17, c18, c19, c20, c21, c22, c23, c24, c25, c26, c27, c28, c29, c30, c31, c32, c33, c34, c35, c36⟩ := h'
  have b33 := iv33_0 hI 0 (by omega) (by omega)
  have b36 := iv33_6 hI 6 (by omega) (by omega)
  unfold houseX at hx
  unfold houseJ at hj
  rcases hx with ⟨a1, a2, a3⟩ | ⟨a1, a2, a3⟩ | ⟨a1, a2, a3⟩ | ⟨a1, a2, a3⟩
  · subst a3
    rcases hj with ⟨b1, b2, b3⟩ | ⟨b1, b2, b3⟩ | ⟨b1, b2, b3⟩ | ⟨b1, b2, b3⟩
    · skip
      first | (exfalso; omega) | (subst b3; exact ⟨by first | omega, hR⟩)
    · skip
      first | (exfalso; omega) | (subst b3; exact ⟨by first | omega, hR⟩)
    · skip
      first | (exfalso; omega) | (subst b3; exact ⟨by first | omega, hR⟩)
    · skip
      exfalso; omega
  · subst a3
    rcases hj with ⟨b1, b2, b3⟩ | ⟨b1, b2, b3⟩ | ⟨b1, b2, b3⟩ | ⟨b1, b2, b3⟩
    · skip
      first | (exfalso; omega) | (subst b3; exact ⟨by first | omega, hR⟩)
    · skip
      first | (exfalso; omega) | (subst b3; exact ⟨by first | omega, hR⟩)
    · skip
      first | (exfalso; omega) | (subst b3; exact ⟨by first | omega, hR⟩)
    · skip
      exfalso; omega
  · subst a3
    rcases hj with ⟨b1, b2, b3⟩ | ⟨b1, b2, b3⟩ | ⟨b1, b2, b3⟩ | ⟨b1, b2, b3⟩
    · skip
      first | (exfalso; omega) | (subst b3; exact ⟨by first | omega, hR⟩)
    · skip
      first | (exfalso; omega) | (subst b3; exact ⟨by first | omega, hR⟩)
    · skip
      first | (exfalso; omega) | (subst b3; exact ⟨by first | omega, hR⟩)
    · skip
      exfalso; omega
  · subst a3
    rcases hj with ⟨b1, b2, b3⟩ | ⟨b1, b2, b3⟩ | ⟨b1, b2, b3⟩ | ⟨b1, b2, b3⟩
    · (try simp only [up_same, up_cell, up_slot, ne_eq, not_false_eq_true, Nat.reduceEqDiff, Int.reduceEq, reduceCtorEq, Nat.reduceAdd, Int.reduceAdd, Int.reduceSub] at b1 b2)
      exfalso; omega
    · (try simp only [up_same, up_cell, up_slot, ne_eq, not_false_eq_true, Nat.reduceEqDiff, Int.reduceEq, reduceCtorEq, Nat.reduceAdd, Int.reduceAdd, Int.reduceSub] at b1 b2)
      exfalso; omega
    · (try simp only [up_same, up_cell, up_slot, ne_eq, not_false_eq_true, Nat.reduceEqDiff, Int.reduceEq, reduceCtorEq, Nat.reduceAdd, Int.reduceAdd, Int.reduceSub] at b1 b2)
      exfalso; omega
    · (try simp only [up_same, up_cell, up_slot, ne_eq, not_false_eq_true, Nat.reduceEqDiff, Int.reduceEq, reduceCtorEq, Nat.reduceAdd, Int.reduceAdd, Int.reduceSub] at b1 b2)
      first | (exfalso; omega) | skip
      subst b3
      refine ⟨by omega, ?_, ?_, ?_, ?_, ?_, ?_, ?_, ?_, ?_, ?_, ?_, ?_, ?_, ?_, ?_, ?_, ?_, ?_, ?_, ?_, ?_, ?_, ?_, ?_, ?_, ?_, ?_, ?_, ?_, ?_, ?_, ?_, ?_, ?_, ?_, ?_, ?_⟩
      · simp [up]; omega
      · simpa [up] using c1
      · simpa [up] using c2
      · simpa [up] using c3
      · simpa [up] using c4
      · simpa [up] using c5
      · simpa [up] using c6
      · simpa [up] using c7
      · simpa [up] using c8
      · simpa [up] using c9
      · simpa [up] using c10
      · exact rA_up (i := σ 33 0) (x := k) c11 (fun j => by simp [up]) (fun j => by simp [up, ← c0, ← c1])
      · exact rA_up (i := σ 33 0) (x := v) c12 (fun j => by simp [up]) (fun j => by simp [up, ← c0, ← c1])
      · exact rA_up (i := σ 33 0) (x := g) c13 (fun j => by simp [up]) (fun j => by simp [up, ← c0, ← c1])
      · exact rA_up (i := σ 33 0) (x := 0) c14 (fun j => by simp [up]) (fun j => by simp [up, ← c0, ← c1])
      · exact fun j h0 h1 => by simpa [up] using c15 j h0 h1
      · exact fun j h0 h1 => by simpa [up] using c16 j h0 h1
      · exact fun j h0 h1 => by simpa [up] using c17 j h0 h1
      · exact fun j h0 h1 => by simpa [up] using c18 j h0 h1
      · exact fun j h0 h1 => by simpa [up] using c19 j h0 h1
      · exact fun j h0 h1 => by simpa [up] using c20 j h0 h1
      · exact fun j h0 h1 => by simpa [up] using c21 j h0 h1
      · exact fun j h0 h1 => by simpa [up] using c22 j h0 h1
      · exact fun j h0 h1 => by simpa [up] using c23 j h0 h1
      · exact fun j h0 h1 => by simpa [up] using c24 j h0 h1
      · exact fun j h0 h1 => by simpa [up] using c25 j h0 (by simpa [up] using h1)
      · exact fun j h0 h1 => by simpa [up] using c26 j h0 (by simpa [up] using h1)
      · exact fun j h0 h1 => by simpa [up] using c27 j h0 (by simpa [up] using h1)
      · exact fun j h0 h1 => by simpa [up] using c28 j h0 (by simpa [up] using h1)
      · exact fun j h0 h1 => by simpa [up] using c29 j h0 (by simpa [up] using h1)
      · exact fun j h0 h1 => by simpa [up] using c30 j h0 (by simpa [up] using h1)
      · exact fun j h0 h1 => by simpa [up] using c31 j h0 (by simpa [up] using h1)
      · exact fun j h0 h1 => by simpa [up] using c32 j h0 (by simpa [up] using h1)
      · exact fun j h0 h1 => by simpa [up] using c33 j h0 (by simpa [up] using h1)
      · exact fun j h0 h1 => by simpa [up] using c34 j h0 (by simpa [up] using h1)
      · exact rW_15 (a := σ 33 0) c35 (fun j => by simp [up]) (fun j => by simp only [up]; simp [← c0]; (repeat' split) <;> omega)
      · exact rW_fr c36 (fun j _ _ => by simp [up]) (fun j _ _ => by simp [up])
theorem st_folk {σ σ1 σ2 : Nat → Int → Int} {s k q r r' : Int} (hR : R1 σ) (hI : InvX σ) (hx : folkX σ s k q r σ1) (hj : folkJ σ1 s k q r' σ2) : r = r' ∧ R1 σ2 := by
  have h' := hR
  obtain ⟨c0, c1, c2, c3, c4, c5, c6, c7, c8, c9, c10, c11, c12, c13, c14, c15, c16, c17, c18, c19, c20, c21, c22, c23, c24, c25, c26, c27, c28, c29, c30, c31, c32, c33, c34, c35, c36⟩ := h'
  have b33 := iv33_0 hI 0 (by omega) (by omega)
  have b36 := iv33_6 hI 6 (by omega) (by omega)
  unfold folkX at hx
  unfold folkJ at hj
  rcases hx with ⟨a1, a2, a3⟩ | ⟨a1, a2, a3⟩ | ⟨a1, a2, a3⟩ | ⟨a1, a2, a3⟩
  · subst a3
    rcases hj with ⟨b1, b2, b3⟩ | ⟨b1, b2, b3⟩ | ⟨b1, b2, b3⟩ | ⟨b1, b2, b3⟩
    · skip
      first | (exfalso; omega) | (subst b3; exact ⟨by first | omega, hR⟩)
    · skip
      first | (exfalso; omega) | (subst b3; exact ⟨by first | omega, hR⟩)
    · skip
      first | (exfalso; omega) | (subst b3; exact ⟨by first | omega, hR⟩)
    · skip
      exfalso; omega
  · subst a3
    rcases hj with ⟨b1, b2, b3⟩ | ⟨b1, b2, b3⟩ | ⟨b1, b2, b3⟩ | ⟨b1, b2, b3⟩
    · skip
      first | (exfalso; omega) | (subst b3; exact ⟨by first | omega, hR⟩)
    · skip
      first | (exfalso; omega) | (subst b3; exact ⟨by first | omega, hR⟩)
    · skip
      first | (exfalso; omega) | (subst b3; exact ⟨by first | omega, hR⟩)
    · skip
      exfalso; omega
  · subst a3
    rcases hj with ⟨b1, b2, b3⟩ | ⟨b1, b2, b3⟩ | ⟨b1, b2, b3⟩ | ⟨b1, b2, b3⟩
    · skip
      first | (exfalso; omega) | (subst b3; exact ⟨by first | omega, hR⟩)
    · skip
      first | (exfalso; omega) | (subst b3; exact ⟨by first | omega, hR⟩)
    · skip
      first | (exfalso; omega) | (subst b3; exact ⟨by first | omega, hR⟩)
    · skip
      exfalso; omega
  · subst a3
    rcases hj with ⟨b1, b2, b3⟩ | ⟨b1, b2, b3⟩ | ⟨b1, b2, b3⟩ | ⟨b1, b2, b3⟩
    · (try simp only [up_same, up_cell, up_slot, ne_eq, not_false_eq_true, Nat.reduceEqDiff, Int.reduceEq, reduceCtorEq, Nat.reduceAdd, Int.reduceAdd, Int.reduceSub] at b1 b2)
      exfalso; omega
    · (try simp only [up_same, up_cell, up_slot, ne_eq, not_false_eq_true, Nat.reduceEqDiff, Int.reduceEq, reduceCtorEq, Nat.reduceAdd, Int.reduceAdd, Int.reduceSub] at b1 b2)
      exfalso; omega
    · (try simp only [up_same, up_cell, up_slot, ne_eq, not_false_eq_true, Nat.reduceEqDiff, Int.reduceEq, reduceCtorEq, Nat.reduceAdd, Int.reduceAdd, Int.reduceSub] at b1 b2)
      exfalso; omega
    · (try simp only [up_same, up_cell, up_slot, ne_eq, not_false_eq_true, Nat.reduceEqDiff, Int.reduceEq, reduceCtorEq, Nat.reduceAdd, Int.reduceAdd, Int.reduceSub] at b1 b2)
      first | (exfalso; omega) | skip
      subst b3
      refine ⟨by omega, ?_, ?_, ?_, ?_, ?_, ?_, ?_, ?_, ?_, ?_, ?_, ?_, ?_, ?_, ?_, ?_, ?_, ?_, ?_, ?_, ?_, ?_, ?_, ?_, ?_, ?_, ?_, ?_, ?_, ?_, ?_, ?_, ?_, ?_, ?_, ?_, ?_⟩
      · simpa [up] using c0
      · simp [up]; omega
      · simpa [up] using c2
      · simpa [up] using c3
      · simpa [up] using c4
      · simpa [up] using c5
      · simpa [up] using c6
      · simpa [up] using c7
      · simpa [up] using c8
      · simpa [up] using c9
      · simpa [up] using c10
      · exact fun j h0 h1 => by simpa [up] using c11 j h0 h1
      · exact fun j h0 h1 => by simpa [up] using c12 j h0 h1
      · exact fun j h0 h1 => by simpa [up] using c13 j h0 h1
      · exact fun j h0 h1 => by simpa [up] using c14 j h0 h1
      · exact rA_up (i := σ 33 6) (x := s) c15 (fun j => by simp [up]) (fun j => by simp [up, ← c0, ← c1])
      · exact rA_up (i := σ 33 6) (x := k) c16 (fun j => by simp [up]) (fun j => by simp [up, ← c0, ← c1])
      · exact rA_up (i := σ 33 6) (x := q) c17 (fun j => by simp [up]) (fun j => by simp [up, ← c0, ← c1])
      · exact fun j h0 h1 => by simpa [up] using c18 j h0 h1
      · exact fun j h0 h1 => by simpa [up] using c19 j h0 h1
      · exact fun j h0 h1 => by simpa [up] using c20 j h0 h1
      · exact fun j h0 h1 => by simpa [up] using c21 j h0 h1
      · exact fun j h0 h1 => by simpa [up] using c22 j h0 h1
      · exact fun j h0 h1 => by simpa [up] using c23 j h0 h1
      · exact fun j h0 h1 => by simpa [up] using c24 j h0 h1
      · exact fun j h0 h1 => by simpa [up] using c25 j h0 (by simpa [up] using h1)
      · exact fun j h0 h1 => by simpa [up] using c26 j h0 (by simpa [up] using h1)
      · exact fun j h0 h1 => by simpa [up] using c27 j h0 (by simpa [up] using h1)
      · exact fun j h0 h1 => by simpa [up] using c28 j h0 (by simpa [up] using h1)
      · exact fun j h0 h1 => by simpa [up] using c29 j h0 (by simpa [up] using h1)
      · exact fun j h0 h1 => by simpa [up] using c30 j h0 (by simpa [up] using h1)
      · exact fun j h0 h1 => by simpa [up] using c31 j h0 (by simpa [up] using h1)
      · exact fun j h0 h1 => by simpa [up] using c32 j h0 (by simpa [up] using h1)
      · exact fun j h0 h1 => by simpa [up] using c33 j h0 (by simpa [up] using h1)
      · exact fun j h0 h1 => by simpa [up] using c34 j h0 (by simpa [up] using h1)
      · exact rW_fr c35 (fun j _ _ => by simp [up]) (fun j _ _ => by simp [up])
      · exact rW_fr c36 (fun j _ _ => by simp [up]) (fun j _ _ => by simp [up])
theorem st_strew {σ σ1 σ2 : Nat → Int → Int} {h n r r' : Int} (hR : R1 σ) (hI : InvX σ) (hx : strewX σ h n r σ1) (hj : strewJ σ1 h n r' σ2) : r = r' ∧ R1 σ2 := by
  have h' := hR
  obtain ⟨c0, c1, c2, c3, c4, c5, c6, c7, c8, c9, c10, c11, c12, c13, c14, c15, c16, c17, c18, c19, c20, c21, c22, c23, c24, c25, c26, c27, c28, c29, c30, c31, c32, c33, c34, c35, c36⟩ := h'
  have b33 := iv33_0 hI 0 (by omega) (by omega)
  have b36 := iv33_6 hI 6 (by omega) (by omega)
  unfold strewX at hx
  unfold strewJ at hj
  rcases hx with ⟨a1, a2, a3⟩ | ⟨a1, a2, a3⟩ | ⟨a1, a2, a3⟩
  · subst a3
    rcases hj with ⟨b1, b2, b3⟩ | ⟨b1, b2, b3⟩ | ⟨b1, b2, b3⟩
    · skip
      first | (exfalso; omega) | (subst b3; exact ⟨by first | omega, hR⟩)
    · skip
      first | (exfalso; omega) | (subst b3; exact ⟨by first | omega, hR⟩)
    · skip
      exfalso; omega
  · subst a3
    rcases hj with ⟨b1, b2, b3⟩ | ⟨b1, b2, b3⟩ | ⟨b1, b2, b3⟩
    · skip
      first | (exfalso; omega) | (subst b3; exact ⟨by first | omega, hR⟩)
    · skip
      first | (exfalso; omega) | (subst b3; exact ⟨by first | omega, hR⟩)
    · skip
      exfalso; omega
  · subst a3
    rcases hj with ⟨b1, b2, b3⟩ | ⟨b1, b2, b3⟩ | ⟨b1, b2, b3⟩
    · (try simp only [up_same, up_cell, up_slot, ne_eq, not_false_eq_true, Nat.reduceEqDiff, Int.reduceEq, reduceCtorEq, Nat.reduceAdd, Int.reduceAdd, Int.reduceSub] at b1 b2)
      exfalso; omega
    · (try simp only [up_same, up_cell, up_slot, ne_eq, not_false_eq_true, Nat.reduceEqDiff, Int.reduceEq, reduceCtorEq, Nat.reduceAdd, Int.reduceAdd, Int.reduceSub] at b1 b2)
      exfalso; omega
    · (try simp only [up_same, up_cell, up_slot, ne_eq, not_false_eq_true, Nat.reduceEqDiff, Int.reduceEq, reduceCtorEq, Nat.reduceAdd, Int.reduceAdd, Int.reduceSub] at b1 b2)
      first | (exfalso; omega) | skip
      subst b3
      refine ⟨by rw [a2, b2]; exact c13 h (by omega) (by omega), ?_, ?_, ?_, ?_, ?_, ?_, ?_, ?_, ?_, ?_, ?_, ?_, ?_, ?_, ?_, ?_, ?_, ?_, ?_, ?_, ?_, ?_, ?_, ?_, ?_, ?_, ?_, ?_, ?_, ?_, ?_, ?_, ?_, ?_, ?_, ?_, ?_⟩
      · simpa [up] using c0
      · simpa [up] using c1
      · simpa [up] using c2
      · simpa [up] using c3
      · simpa [up] using c4
      · simpa [up] using c5
      · simpa [up] using c6
      · simpa [up] using c7
      · simpa [up] using c8
      · simpa [up] using c9
      · simpa [up] using c10
      · exact fun j h0 h1 => by simpa [up] using c11 j h0 h1
      · exact fun j h0 h1 => by simpa [up] using c12 j h0 h1
      · exact rA_up (i := h) (x := n) c13 (fun j => by simp [up]) (fun j => by simp [up, ← c0, ← c1])
      · exact fun j h0 h1 => by simpa [up] using c14 j h0 h1
      · exact fun j h0 h1 => by simpa [up] using c15 j h0 h1
      · exact fun j h0 h1 => by simpa [up] using c16 j h0 h1
      · exact fun j h0 h1 => by simpa [up] using c17 j h0 h1
      · exact fun j h0 h1 => by simpa [up] using c18 j h0 h1
      · exact fun j h0 h1 => by simpa [up] using c19 j h0 h1
      · exact fun j h0 h1 => by simpa [up] using c20 j h0 h1
      · exact fun j h0 h1 => by simpa [up] using c21 j h0 h1
      · exact fun j h0 h1 => by simpa [up] using c22 j h0 h1
      · exact fun j h0 h1 => by simpa [up] using c23 j h0 h1
      · exact fun j h0 h1 => by simpa [up] using c24 j h0 h1
      · exact fun j h0 h1 => by simpa [up] using c25 j h0 (by simpa [up] using h1)
      · exact fun j h0 h1 => by simpa [up] using c26 j h0 (by simpa [up] using h1)
      · exact fun j h0 h1 => by simpa [up] using c27 j h0 (by simpa [up] using h1)
      · exact fun j h0 h1 => by simpa [up] using c28 j h0 (by simpa [up] using h1)
      · exact fun j h0 h1 => by simpa [up] using c29 j h0 (by simpa [up] using h1)
      · exact fun j h0 h1 => by simpa [up] using c30 j h0 (by simpa [up] using h1)
      · exact fun j h0 h1 => by simpa [up] using c31 j h0 (by simpa [up] using h1)
      · exact fun j h0 h1 => by simpa [up] using c32 j h0 (by simpa [up] using h1)
      · exact fun j h0 h1 => by simpa [up] using c33 j h0 (by simpa [up] using h1)
      · exact fun j h0 h1 => by simpa [up] using c34 j h0 (by simpa [up] using h1)
      · exact rW_fr c35 (fun j _ _ => by simp [up]) (fun j _ _ => by simp [up])
      · exact rW_fr c36 (fun j _ _ => by simp [up]) (fun j _ _ => by simp [up])
theorem st_ask {σ σ1 σ2 : Nat → Int → Int} {h f z r r' : Int} (hR : R1 σ) (hI : InvX σ) (hx : askX σ h f z r σ1) (hj : askJ σ1 h f z r' σ2) : r = r' ∧ R1 σ2 := by
  have h' := hR
  obtain ⟨c0, c1, c2, c3, c4, c5, c6, c7, c8, c9, c10, c11, c12, c13, c14, c15, c16, c17, c18, c19, c20, c21, c22, c23, c24, c25, c26, c27, c28, c29, c30, c31, c32, c33, c34, c35, c36⟩ := h'
  have b33 := iv33_0 hI 0 (by omega) (by omega)
  have b36 := iv33_6 hI 6 (by omega) (by omega)
  unfold askX at hx
  unfold askJ at hj
  rcases hx with ⟨a1, a2, a3⟩ | ⟨a1, a2, a3⟩
  · subst a3
    rcases hj with ⟨b1, b2, b3⟩ | ⟨b1, b2, b3⟩
    · skip
      first | (exfalso; omega) | (subst b3; exact ⟨by first | omega, hR⟩)
    · skip
      exfalso; omega
  · subst a3
    rcases hj with ⟨b1, b2, b3⟩ | ⟨b1, b2, b3⟩
    · (try simp only [up_same, up_cell, up_slot, ne_eq, not_false_eq_true, Nat.reduceEqDiff, Int.reduceEq, reduceCtorEq, Nat.reduceAdd, Int.reduceAdd, Int.reduceSub] at b1 b2)
      exfalso; omega
    · (try simp only [up_same, up_cell, up_slot, ne_eq, not_false_eq_true, Nat.reduceEqDiff, Int.reduceEq, reduceCtorEq, Nat.reduceAdd, Int.reduceAdd, Int.reduceSub] at b1 b2)
      first | (exfalso; omega) | skip
      subst b3
      refine ⟨by rw [a2, b2, c14 h (by omega) (by omega)], ?_, ?_, ?_, ?_, ?_, ?_, ?_, ?_, ?_, ?_, ?_, ?_, ?_, ?_, ?_, ?_, ?_, ?_, ?_, ?_, ?_, ?_, ?_, ?_, ?_, ?_, ?_, ?_, ?_, ?_, ?_, ?_, ?_, ?_, ?_, ?_, ?_⟩
      · simpa [up] using c0
      · simpa [up] using c1
      · simpa [up] using c2
      · simpa [up] using c3
      · simpa [up] using c4
      · simpa [up] using c5
      · simpa [up] using c6
      · simpa [up] using c7
      · simpa [up] using c8
      · simpa [up] using c9
      · simpa [up] using c10
      · exact fun j h0 h1 => by simpa [up] using c11 j h0 h1
      · exact fun j h0 h1 => by simpa [up] using c12 j h0 h1
      · exact fun j h0 h1 => by simpa [up] using c13 j h0 h1
      · exact rA_up (i := h) (x := zwith (σ 37 h) f z) c14 (fun j => by simp [up]) (fun j => by simp [up, c14 h (by omega) (by omega)])
      · exact fun j h0 h1 => by simpa [up] using c15 j h0 h1
      · exact fun j h0 h1 => by simpa [up] using c16 j h0 h1
      · exact fun j h0 h1 => by simpa [up] using c17 j h0 h1
      · exact fun j h0 h1 => by simpa [up] using c18 j h0 h1
      · exact fun j h0 h1 => by simpa [up] using c19 j h0 h1
      · exact fun j h0 h1 => by simpa [up] using c20 j h0 h1
      · exact fun j h0 h1 => by simpa [up] using c21 j h0 h1
      · exact fun j h0 h1 => by simpa [up] using c22 j h0 h1
      · exact fun j h0 h1 => by simpa [up] using c23 j h0 h1
      · exact fun j h0 h1 => by simpa [up] using c24 j h0 h1
      · exact fun j h0 h1 => by simpa [up] using c25 j h0 (by simpa [up] using h1)
      · exact fun j h0 h1 => by simpa [up] using c26 j h0 (by simpa [up] using h1)
      · exact fun j h0 h1 => by simpa [up] using c27 j h0 (by simpa [up] using h1)
      · exact fun j h0 h1 => by simpa [up] using c28 j h0 (by simpa [up] using h1)
      · exact fun j h0 h1 => by simpa [up] using c29 j h0 (by simpa [up] using h1)
      · exact fun j h0 h1 => by simpa [up] using c30 j h0 (by simpa [up] using h1)
      · exact fun j h0 h1 => by simpa [up] using c31 j h0 (by simpa [up] using h1)
      · exact fun j h0 h1 => by simpa [up] using c32 j h0 (by simpa [up] using h1)
      · exact fun j h0 h1 => by simpa [up] using c33 j h0 (by simpa [up] using h1)
      · exact fun j h0 h1 => by simpa [up] using c34 j h0 (by simpa [up] using h1)
      · exact rW_fr c35 (fun j _ _ => by simp [up]) (fun j _ _ => by simp [up])
      · exact rW_fr c36 (fun j _ _ => by simp [up]) (fun j _ _ => by simp [up])
theorem st_sack {σ σ1 σ2 : Nat → Int → Int} {f h r r' : Int} (hR : R1 σ) (hI : InvX σ) (hx : sackX σ f h r σ1) (hj : sackJ σ1 f h r' σ2) : r = r' ∧ R1 σ2 := by
  have h' := hR
  obtain ⟨c0, c1, c2, c3, c4, c5, c6, c7, c8, c9, c10, c11, c12, c13, c14, c15, c16, c17, c18, c19, c20, c21, c22, c23, c24, c25, c26, c27, c28, c29, c30, c31, c32, c33, c34, c35, c36⟩ := h'
  have b33 := iv33_0 hI 0 (by omega) (by omega)
  have b36 := iv33_6 hI 6 (by omega) (by omega)
  unfold sackX at hx
  unfold sackJ at hj
  rcases hx with ⟨a1, a2, a3⟩ | ⟨a1, a2, a3⟩
  · subst a3
    rcases hj with ⟨b1, b2, b3⟩ | ⟨b1, b2, b3⟩
    · skip
      first | (exfalso; omega) | (subst b3; exact ⟨by first | omega, hR⟩)
    · skip
      exfalso; omega
  · subst a3
    rcases hj with ⟨b1, b2, b3⟩ | ⟨b1, b2, b3⟩
    · (try simp only [up_same, up_cell, up_slot, ne_eq, not_false_eq_true, Nat.reduceEqDiff, Int.reduceEq, reduceCtorEq, Nat.reduceAdd, Int.reduceAdd, Int.reduceSub] at b1 b2)
      exfalso; omega
    · (try simp only [up_same, up_cell, up_slot, ne_eq, not_false_eq_true, Nat.reduceEqDiff, Int.reduceEq, reduceCtorEq, Nat.reduceAdd, Int.reduceAdd, Int.reduceSub] at b1 b2)
      first | (exfalso; omega) | skip
      subst b3
      refine ⟨by rw [a2, b2]; exact c15 f (by omega) (by omega), ?_, ?_, ?_, ?_, ?_, ?_, ?_, ?_, ?_, ?_, ?_, ?_, ?_, ?_, ?_, ?_, ?_, ?_, ?_, ?_, ?_, ?_, ?_, ?_, ?_, ?_, ?_, ?_, ?_, ?_, ?_, ?_, ?_, ?_, ?_, ?_, ?_⟩
      · simpa [up] using c0
      · simpa [up] using c1
      · simpa [up] using c2
      · simpa [up] using c3
      · simpa [up] using c4
      · simpa [up] using c5
      · simpa [up] using c6
      · simpa [up] using c7
      · simpa [up] using c8
      · simpa [up] using c9
      · simpa [up] using c10
      · exact fun j h0 h1 => by simpa [up] using c11 j h0 h1
      · exact fun j h0 h1 => by simpa [up] using c12 j h0 h1
      · exact fun j h0 h1 => by simpa [up] using c13 j h0 h1
      · exact fun j h0 h1 => by simpa [up] using c14 j h0 h1
      · exact rA_up (i := f) (x := h) c15 (fun j => by simp [up]) (fun j => by simp [up, ← c0, ← c1])
      · exact fun j h0 h1 => by simpa [up] using c16 j h0 h1
      · exact fun j h0 h1 => by simpa [up] using c17 j h0 h1
      · exact fun j h0 h1 => by simpa [up] using c18 j h0 h1
      · exact fun j h0 h1 => by simpa [up] using c19 j h0 h1
      · exact fun j h0 h1 => by simpa [up] using c20 j h0 h1
      · exact fun j h0 h1 => by simpa [up] using c21 j h0 h1
      · exact fun j h0 h1 => by simpa [up] using c22 j h0 h1
      · exact fun j h0 h1 => by simpa [up] using c23 j h0 h1
      · exact fun j h0 h1 => by simpa [up] using c24 j h0 h1
      · exact fun j h0 h1 => by simpa [up] using c25 j h0 (by simpa [up] using h1)
      · exact fun j h0 h1 => by simpa [up] using c26 j h0 (by simpa [up] using h1)
      · exact fun j h0 h1 => by simpa [up] using c27 j h0 (by simpa [up] using h1)
      · exact fun j h0 h1 => by simpa [up] using c28 j h0 (by simpa [up] using h1)
      · exact fun j h0 h1 => by simpa [up] using c29 j h0 (by simpa [up] using h1)
      · exact fun j h0 h1 => by simpa [up] using c30 j h0 (by simpa [up] using h1)
      · exact fun j h0 h1 => by simpa [up] using c31 j h0 (by simpa [up] using h1)
      · exact fun j h0 h1 => by simpa [up] using c32 j h0 (by simpa [up] using h1)
      · exact fun j h0 h1 => by simpa [up] using c33 j h0 (by simpa [up] using h1)
      · exact fun j h0 h1 => by simpa [up] using c34 j h0 (by simpa [up] using h1)
      · exact rW_fr c35 (fun j _ _ => by simp [up]) (fun j _ _ => by simp [up])
      · exact rW_fr c36 (fun j _ _ => by simp [up]) (fun j _ _ => by simp [up])
theorem st_sell {σ σ1 σ2 : Nat → Int → Int} {h k n r r' : Int} (hR : R1 σ) (hI : InvX σ) (hx : sellX σ h k n r σ1) (hj : sellJ σ1 h k n r' σ2) : r = r' ∧ R1 σ2 := by
  have h' := hR
  obtain ⟨c0, c1, c2, c3, c4, c5, c6, c7, c8, c9, c10, c11, c12, c13, c14, c15, c16, c17, c18, c19, c20, c21, c22, c23, c24, c25, c26, c27, c28, c29, c30, c31, c32, c33, c34, c35, c36⟩ := h'
  have b33 := iv33_0 hI 0 (by omega) (by omega)
  have b36 := iv33_6 hI 6 (by omega) (by omega)
  unfold sellX at hx
  unfold sellJ at hj
  rcases hx with ⟨a1, a2, a3⟩ | ⟨a1, a2, a3⟩ | ⟨a1, a2, a3⟩
  · subst a3
    rcases hj with ⟨b1, b2, b3⟩ | ⟨b1, b2, b3⟩ | ⟨b1, b2, b3⟩
    · skip
      first | (exfalso; omega) | (subst b3; exact ⟨by first | omega, hR⟩)
    · skip
      first | (exfalso; omega) | (subst b3; exact ⟨by first | omega, hR⟩)
    · skip
      exfalso; omega
  · subst a3
    rcases hj with ⟨b1, b2, b3⟩ | ⟨b1, b2, b3⟩ | ⟨b1, b2, b3⟩
    · skip
      first | (exfalso; omega) | (subst b3; exact ⟨by first | omega, hR⟩)
    · skip
      first | (exfalso; omega) | (subst b3; exact ⟨by first | omega, hR⟩)
    · skip
      exfalso; omega
  · subst a3
    rcases hj with ⟨b1, b2, b3⟩ | ⟨b1, b2, b3⟩ | ⟨b1, b2, b3⟩
    · (try simp only [up_same, up_cell, up_slot, ne_eq, not_false_eq_true, Nat.reduceEqDiff, Int.reduceEq, reduceCtorEq, Nat.reduceAdd, Int.reduceAdd, Int.reduceSub] at b1 b2)
      exfalso; omega
    · (try simp only [up_same, up_cell, up_slot, ne_eq, not_false_eq_true, Nat.reduceEqDiff, Int.reduceEq, reduceCtorEq, Nat.reduceAdd, Int.reduceAdd, Int.reduceSub] at b1 b2)
      exfalso; omega
    · (try simp only [up_same, up_cell, up_slot, ne_eq, not_false_eq_true, Nat.reduceEqDiff, Int.reduceEq, reduceCtorEq, Nat.reduceAdd, Int.reduceAdd, Int.reduceSub] at b1 b2)
      first | (exfalso; omega) | skip
      subst b3
      refine ⟨by rw [a2, b2]; exact c11 h (by omega) (by omega), ?_, ?_, ?_, ?_, ?_, ?_, ?_, ?_, ?_, ?_, ?_, ?_, ?_, ?_, ?_, ?_, ?_, ?_, ?_, ?_, ?_, ?_, ?_, ?_, ?_, ?_, ?_, ?_, ?_, ?_, ?_, ?_, ?_, ?_, ?_, ?_, ?_⟩
      · simpa [up] using c0
      · simpa [up] using c1
      · simpa [up] using c2
      · simpa [up] using c3
      · simpa [up] using c4
      · simpa [up] using c5
      · simpa [up] using c6
      · simpa [up] using c7
      · simpa [up] using c8
      · simpa [up] using c9
      · simpa [up] using c10
      · exact rA_up (i := h) (x := k) c11 (fun j => by simp [up]) (fun j => by simp [up, ← c0, ← c1])
      · exact rA_up (i := h) (x := n) c12 (fun j => by simp [up]) (fun j => by simp [up, ← c0, ← c1])
      · exact fun j h0 h1 => by simpa [up] using c13 j h0 h1
      · exact fun j h0 h1 => by simpa [up] using c14 j h0 h1
      · exact fun j h0 h1 => by simpa [up] using c15 j h0 h1
      · exact fun j h0 h1 => by simpa [up] using c16 j h0 h1
      · exact fun j h0 h1 => by simpa [up] using c17 j h0 h1
      · exact fun j h0 h1 => by simpa [up] using c18 j h0 h1
      · exact fun j h0 h1 => by simpa [up] using c19 j h0 h1
      · exact fun j h0 h1 => by simpa [up] using c20 j h0 h1
      · exact fun j h0 h1 => by simpa [up] using c21 j h0 h1
      · exact fun j h0 h1 => by simpa [up] using c22 j h0 h1
      · exact fun j h0 h1 => by simpa [up] using c23 j h0 h1
      · exact fun j h0 h1 => by simpa [up] using c24 j h0 h1
      · exact fun j h0 h1 => by simpa [up] using c25 j h0 (by simpa [up] using h1)
      · exact fun j h0 h1 => by simpa [up] using c26 j h0 (by simpa [up] using h1)
      · exact fun j h0 h1 => by simpa [up] using c27 j h0 (by simpa [up] using h1)
      · exact fun j h0 h1 => by simpa [up] using c28 j h0 (by simpa [up] using h1)
      · exact fun j h0 h1 => by simpa [up] using c29 j h0 (by simpa [up] using h1)
      · exact fun j h0 h1 => by simpa [up] using c30 j h0 (by simpa [up] using h1)
      · exact fun j h0 h1 => by simpa [up] using c31 j h0 (by simpa [up] using h1)
      · exact fun j h0 h1 => by simpa [up] using c32 j h0 (by simpa [up] using h1)
      · exact fun j h0 h1 => by simpa [up] using c33 j h0 (by simpa [up] using h1)
      · exact fun j h0 h1 => by simpa [up] using c34 j h0 (by simpa [up] using h1)
      · exact rW_15 (a := h) c35 (fun j => by simp [up]) (fun j => by simp only [up]; simp; (repeat' split) <;> omega)
      · exact rW_fr c36 (fun j _ _ => by simp [up]) (fun j _ _ => by simp [up])
theorem st_row {σ σ1 σ2 : Nat → Int → Int} {h q n r r' : Int} (hR : R1 σ) (hI : InvX σ) (hx : rowX σ h q n r σ1) (hj : rowJ σ1 h q n r' σ2) : r = r' ∧ R1 σ2 := by
  have h' := hR
  obtain ⟨c0, c1, c2, c3, c4, c5, c6, c7, c8, c9, c10, c11, c12, c13, c14, c15, c16, c17, c18, c19, c20, c21, c22, c23, c24, c25, c26, c27, c28, c29, c30, c31, c32, c33, c34, c35, c36⟩ := h'
  have b33 := iv33_0 hI 0 (by omega) (by omega)
  have b36 := iv33_6 hI 6 (by omega) (by omega)
  have hk : (0 ≤ h ∧ h < σ 33 0) → σ 34 h = σ 70 h := fun e => c11 h e.1 (by omega)
  unfold rowX at hx
  unfold rowJ at hj
  rcases hx with ⟨a1, a2, a3⟩ | ⟨a1, a2, a3⟩ | ⟨a1, a2, a3⟩ | ⟨a1, a2, a3⟩
  · subst a3
    rcases hj with ⟨b1, b2, b3⟩ | ⟨b1, b2, b3⟩ | ⟨b1, b2, b3⟩ | ⟨b1, b2, b3⟩
    · skip
      first | (exfalso; omega) | (subst b3; exact ⟨by first | omega, hR⟩)
    · skip
      first | (exfalso; omega) | (subst b3; exact ⟨by first | omega, hR⟩)
    · skip
      first | (exfalso; omega) | (subst b3; exact ⟨by first | omega, hR⟩)
    · skip
      exfalso; omega
  · subst a3
    rcases hj with ⟨b1, b2, b3⟩ | ⟨b1, b2, b3⟩ | ⟨b1, b2, b3⟩ | ⟨b1, b2, b3⟩
    · skip
      first | (exfalso; omega) | (subst b3; exact ⟨by first | omega, hR⟩)
    · skip
      first | (exfalso; omega) | (subst b3; exact ⟨by first | omega, hR⟩)
    · skip
      first | (exfalso; omega) | (subst b3; exact ⟨by first | omega, hR⟩)
    · skip
      exfalso; omega
  · subst a3
    rcases hj with ⟨b1, b2, b3⟩ | ⟨b1, b2, b3⟩ | ⟨b1, b2, b3⟩ | ⟨b1, b2, b3⟩
    · skip
      first | (exfalso; omega) | (subst b3; exact ⟨by first | omega, hR⟩)
    · skip
      first | (exfalso; omega) | (subst b3; exact ⟨by first | omega, hR⟩)
    · skip
      first | (exfalso; omega) | (subst b3; exact ⟨by first | omega, hR⟩)
    · skip
      exfalso; omega
  · subst a3
    rcases hj with ⟨b1, b2, b3⟩ | ⟨b1, b2, b3⟩ | ⟨b1, b2, b3⟩ | ⟨b1, b2, b3⟩
    · (try simp only [up_same, up_cell, up_slot, ne_eq, not_false_eq_true, Nat.reduceEqDiff, Int.reduceEq, reduceCtorEq, Nat.reduceAdd, Int.reduceAdd, Int.reduceSub] at b1 b2)
      exfalso; omega
    · (try simp only [up_same, up_cell, up_slot, ne_eq, not_false_eq_true, Nat.reduceEqDiff, Int.reduceEq, reduceCtorEq, Nat.reduceAdd, Int.reduceAdd, Int.reduceSub] at b1 b2)
      exfalso; omega
    · (try simp only [up_same, up_cell, up_slot, ne_eq, not_false_eq_true, Nat.reduceEqDiff, Int.reduceEq, reduceCtorEq, Nat.reduceAdd, Int.reduceAdd, Int.reduceSub] at b1 b2)
      exfalso; omega
    · (try simp only [up_same, up_cell, up_slot, ne_eq, not_false_eq_true, Nat.reduceEqDiff, Int.reduceEq, reduceCtorEq, Nat.reduceAdd, Int.reduceAdd, Int.reduceSub] at b1 b2)
      first | (exfalso; omega) | skip
      subst b3
      refine ⟨by rw [a2, b2]; exact (c35 h (by omega) (by omega)).2 q (by omega) (by omega), ?_, ?_, ?_, ?_, ?_, ?_, ?_, ?_, ?_, ?_, ?_, ?_, ?_, ?_, ?_, ?_, ?_, ?_, ?_, ?_, ?_, ?_, ?_, ?_, ?_, ?_, ?_, ?_, ?_, ?_, ?_, ?_, ?_, ?_, ?_, ?_, ?_⟩
      · simpa [up] using c0
      · simpa [up] using c1
      · simpa [up] using c2
      · simpa [up] using c3
      · simpa [up] using c4
      · simpa [up] using c5
      · simpa [up] using c6
      · simpa [up] using c7
      · simpa [up] using c8
      · simpa [up] using c9
      · simpa [up] using c10
      · exact fun j h0 h1 => by simpa [up] using c11 j h0 h1
      · exact fun j h0 h1 => by simpa [up] using c12 j h0 h1
      · exact fun j h0 h1 => by simpa [up] using c13 j h0 h1
      · exact fun j h0 h1 => by simpa [up] using c14 j h0 h1
      · exact fun j h0 h1 => by simpa [up] using c15 j h0 h1
      · exact fun j h0 h1 => by simpa [up] using c16 j h0 h1
      · exact fun j h0 h1 => by simpa [up] using c17 j h0 h1
      · exact fun j h0 h1 => by simpa [up] using c18 j h0 h1
      · exact fun j h0 h1 => by simpa [up] using c19 j h0 h1
      · exact fun j h0 h1 => by simpa [up] using c20 j h0 h1
      · exact fun j h0 h1 => by simpa [up] using c21 j h0 h1
      · exact fun j h0 h1 => by simpa [up] using c22 j h0 h1
      · exact fun j h0 h1 => by simpa [up] using c23 j h0 h1
      · exact fun j h0 h1 => by simpa [up] using c24 j h0 h1
      · exact fun j h0 h1 => by simpa [up] using c25 j h0 (by simpa [up] using h1)
      · exact fun j h0 h1 => by simpa [up] using c26 j h0 (by simpa [up] using h1)
      · exact fun j h0 h1 => by simpa [up] using c27 j h0 (by simpa [up] using h1)
      · exact fun j h0 h1 => by simpa [up] using c28 j h0 (by simpa [up] using h1)
      · exact fun j h0 h1 => by simpa [up] using c29 j h0 (by simpa [up] using h1)
      · exact fun j h0 h1 => by simpa [up] using c30 j h0 (by simpa [up] using h1)
      · exact fun j h0 h1 => by simpa [up] using c31 j h0 (by simpa [up] using h1)
      · exact fun j h0 h1 => by simpa [up] using c32 j h0 (by simpa [up] using h1)
      · exact fun j h0 h1 => by simpa [up] using c33 j h0 (by simpa [up] using h1)
      · exact fun j h0 h1 => by simpa [up] using c34 j h0 (by simpa [up] using h1)
      · exact rW_row (a := h) (q := q) (n := n) c35 (by omega) (by omega) (by omega) (fun j => by simp [up]) (fun j => by simp [up])
      · exact rW_fr c36 (fun j _ _ => by simp [up]) (fun j _ _ => by simp [up])
theorem st_way {σ σ1 σ2 : Nat → Int → Int} {h r r' : Int} (hR : R1 σ) (hI : InvX σ) (hx : wayX σ h r σ1) (hj : wayJ σ1 h r' σ2) : r = r' ∧ R1 σ2 := by
  have h' := hR
  obtain ⟨c0, c1, c2, c3, c4, c5, c6, c7, c8, c9, c10, c11, c12, c13, c14, c15, c16, c17, c18, c19, c20, c21, c22, c23, c24, c25, c26, c27, c28, c29, c30, c31, c32, c33, c34, c35, c36⟩ := h'
  have b33 := iv33_0 hI 0 (by omega) (by omega)
  have b36 := iv33_6 hI 6 (by omega) (by omega)
  unfold wayX at hx
  unfold wayJ at hj
  rcases hx with ⟨a1, a2, a3⟩ | ⟨a1, a2, a3⟩ | ⟨a1, a2, a3⟩ | ⟨a1, a2, a3⟩
  · subst a3
    rcases hj with ⟨b1, b2, b3⟩ | ⟨b1, b2, b3⟩ | ⟨b1, b2, b3⟩ | ⟨b1, b2, b3⟩
    · (try simp only [up_same, up_cell, up_slot, ne_eq, not_false_eq_true, Nat.reduceEqDiff, Int.reduceEq, reduceCtorEq, Nat.reduceAdd, Int.reduceAdd, Int.reduceSub] at b1 b2)
      first | (exfalso; omega) | skip
      subst b3
      refine ⟨by omega, ?_, ?_, ?_, ?_, ?_, ?_, ?_, ?_, ?_, ?_, ?_, ?_, ?_, ?_, ?_, ?_, ?_, ?_, ?_, ?_, ?_, ?_, ?_, ?_, ?_, ?_, ?_, ?_, ?_, ?_, ?_, ?_, ?_, ?_, ?_, ?_, ?_⟩
      · simpa [up] using c0
      · simpa [up] using c1
      · simpa [up] using c2
      · simpa [up] using c3
      · simpa [up] using c4
      · simp [up]
      · simpa [up] using c6
      · simpa [up] using c7
      · simpa [up] using c8
      · simpa [up] using c9
      · simpa [up] using c10
      · exact fun j h0 h1 => by simpa [up] using c11 j h0 h1
      · exact fun j h0 h1 => by simpa [up] using c12 j h0 h1
      · exact fun j h0 h1 => by simpa [up] using c13 j h0 h1
      · exact fun j h0 h1 => by simpa [up] using c14 j h0 h1
      · exact fun j h0 h1 => by simpa [up] using c15 j h0 h1
      · exact fun j h0 h1 => by simpa [up] using c16 j h0 h1
      · exact fun j h0 h1 => by simpa [up] using c17 j h0 h1
      · exact fun j h0 h1 => by simpa [up] using c18 j h0 h1
      · exact fun j h0 h1 => by simpa [up] using c19 j h0 h1
      · exact fun j h0 h1 => by simpa [up] using c20 j h0 h1
      · exact fun j h0 h1 => by simpa [up] using c21 j h0 h1
      · exact fun j h0 h1 => by simpa [up] using c22 j h0 h1
      · exact fun j h0 h1 => by simpa [up] using c23 j h0 h1
      · exact fun j h0 h1 => by simpa [up] using c24 j h0 h1
      · exact fun j h0 h1 => by simp [up] at h1; omega
      · exact fun j h0 h1 => by simpa [up] using c26 j h0 (by simpa [up] using h1)
      · exact fun j h0 h1 => by simpa [up] using c27 j h0 (by simpa [up] using h1)
      · exact fun j h0 h1 => by simpa [up] using c28 j h0 (by simpa [up] using h1)
      · exact fun j h0 h1 => by simpa [up] using c29 j h0 (by simpa [up] using h1)
      · exact fun j h0 h1 => by simpa [up] using c30 j h0 (by simpa [up] using h1)
      · exact fun j h0 h1 => by simpa [up] using c31 j h0 (by simpa [up] using h1)
      · exact fun j h0 h1 => by simpa [up] using c32 j h0 (by simpa [up] using h1)
      · exact fun j h0 h1 => by simpa [up] using c33 j h0 (by simpa [up] using h1)
      · exact fun j h0 h1 => by simpa [up] using c34 j h0 (by simpa [up] using h1)
      · exact rW_fr c35 (fun j _ _ => by simp [up]) (fun j _ _ => by simp [up])
      · exact rW_fr c36 (fun j _ _ => by simp [up]) (fun j _ _ => by simp [up])
    · (try simp only [up_same, up_cell, up_slot, ne_eq, not_false_eq_true, Nat.reduceEqDiff, Int.reduceEq, reduceCtorEq, Nat.reduceAdd, Int.reduceAdd, Int.reduceSub] at b1 b2)
      exfalso; omega
    · (try simp only [up_same, up_cell, up_slot, ne_eq, not_false_eq_true, Nat.reduceEqDiff, Int.reduceEq, reduceCtorEq, Nat.reduceAdd, Int.reduceAdd, Int.reduceSub] at b1 b2)
      exfalso; omega
    · (try simp only [up_same, up_cell, up_slot, ne_eq, not_false_eq_true, Nat.reduceEqDiff, Int.reduceEq, reduceCtorEq, Nat.reduceAdd, Int.reduceAdd, Int.reduceSub] at b1 b2)
      exfalso; omega
  · subst a3
    rcases hj with ⟨b1, b2, b3⟩ | ⟨b1, b2, b3⟩ | ⟨b1, b2, b3⟩ | ⟨b1, b2, b3⟩
    · skip
      exfalso; omega
    · skip
      first | (exfalso; omega) | (subst b3; exact ⟨by first | omega, hR⟩)
    · skip
      first | (exfalso; omega) | (subst b3; exact ⟨by first | omega, hR⟩)
    · skip
      exfalso; omega
  · subst a3
    rcases hj with ⟨b1, b2, b3⟩ | ⟨b1, b2, b3⟩ | ⟨b1, b2, b3⟩ | ⟨b1, b2, b3⟩
    · skip
      exfalso; omega
    · skip
      first | (exfalso; omega) | (subst b3; exact ⟨by first | omega, hR⟩)
    · skip
      first | (exfalso; omega) | (subst b3; exact ⟨by first | omega, hR⟩)
    · skip
      exfalso; omega
  · subst a3
    rcases hj with ⟨b1, b2, b3⟩ | ⟨b1, b2, b3⟩ | ⟨b1, b2, b3⟩ | ⟨b1, b2, b3⟩
    · (try simp only [up_same, up_cell, up_slot, ne_eq, not_false_eq_true, Nat.reduceEqDiff, Int.reduceEq, reduceCtorEq, Nat.reduceAdd, Int.reduceAdd, Int.reduceSub] at b1 b2)
      exfalso; omega
    · (try simp only [up_same, up_cell, up_slot, ne_eq, not_false_eq_true, Nat.reduceEqDiff, Int.reduceEq, reduceCtorEq, Nat.reduceAdd, Int.reduceAdd, Int.reduceSub] at b1 b2)
      exfalso; omega
    · (try simp only [up_same, up_cell, up_slot, ne_eq, not_false_eq_true, Nat.reduceEqDiff, Int.reduceEq, reduceCtorEq, Nat.reduceAdd, Int.reduceAdd, Int.reduceSub] at b1 b2)
      exfalso; omega
    · (try simp only [up_same, up_cell, up_slot, ne_eq, not_false_eq_true, Nat.reduceEqDiff, Int.reduceEq, reduceCtorEq, Nat.reduceAdd, Int.reduceAdd, Int.reduceSub] at b1 b2)
      first | (exfalso; omega) | skip
      subst b3
      refine ⟨by omega, ?_, ?_, ?_, ?_, ?_, ?_, ?_, ?_, ?_, ?_, ?_, ?_, ?_, ?_, ?_, ?_, ?_, ?_, ?_, ?_, ?_, ?_, ?_, ?_, ?_, ?_, ?_, ?_, ?_, ?_, ?_, ?_, ?_, ?_, ?_, ?_, ?_⟩
      · simpa [up] using c0
      · simpa [up] using c1
      · simpa [up] using c2
      · simpa [up] using c3
      · simpa [up] using c4
      · simp [up]; omega
      · simpa [up] using c6
      · simpa [up] using c7
      · simpa [up] using c8
      · simpa [up] using c9
      · simpa [up] using c10
      · exact fun j h0 h1 => by simpa [up] using c11 j h0 h1
      · exact fun j h0 h1 => by simpa [up] using c12 j h0 h1
      · exact fun j h0 h1 => by simpa [up] using c13 j h0 h1
      · exact fun j h0 h1 => by simpa [up] using c14 j h0 h1
      · exact fun j h0 h1 => by simpa [up] using c15 j h0 h1
      · exact fun j h0 h1 => by simpa [up] using c16 j h0 h1
      · exact fun j h0 h1 => by simpa [up] using c17 j h0 h1
      · exact fun j h0 h1 => by simpa [up] using c18 j h0 h1
      · exact fun j h0 h1 => by simpa [up] using c19 j h0 h1
      · exact fun j h0 h1 => by simpa [up] using c20 j h0 h1
      · exact fun j h0 h1 => by simpa [up] using c21 j h0 h1
      · exact fun j h0 h1 => by simpa [up] using c22 j h0 h1
      · exact fun j h0 h1 => by simpa [up] using c23 j h0 h1
      · exact fun j h0 h1 => by simpa [up] using c24 j h0 h1
      · exact rL_add (x := h) c25 (by simp [up]) (fun j => by simp [up]) (fun j => by simp [up, ← c5])
      · exact fun j h0 h1 => by simpa [up] using c26 j h0 (by simpa [up] using h1)
      · exact fun j h0 h1 => by simpa [up] using c27 j h0 (by simpa [up] using h1)
      · exact fun j h0 h1 => by simpa [up] using c28 j h0 (by simpa [up] using h1)
      · exact fun j h0 h1 => by simpa [up] using c29 j h0 (by simpa [up] using h1)
      · exact fun j h0 h1 => by simpa [up] using c30 j h0 (by simpa [up] using h1)
      · exact fun j h0 h1 => by simpa [up] using c31 j h0 (by simpa [up] using h1)
      · exact fun j h0 h1 => by simpa [up] using c32 j h0 (by simpa [up] using h1)
      · exact fun j h0 h1 => by simpa [up] using c33 j h0 (by simpa [up] using h1)
      · exact fun j h0 h1 => by simpa [up] using c34 j h0 (by simpa [up] using h1)
      · exact rW_fr c35 (fun j _ _ => by simp [up]) (fun j _ _ => by simp [up])
      · exact rW_fr c36 (fun j _ _ => by simp [up]) (fun j _ _ => by simp [up])
theorem st_watch {σ σ1 σ2 : Nat → Int → Int} {h z r r' : Int} (hR : R1 σ) (hI : InvX σ) (hx : watchX σ h z r σ1) (hj : watchJ σ1 h z r' σ2) : r = r' ∧ R1 σ2 := by
  have h' := hR
  obtain ⟨c0, c1, c2, c3, c4, c5, c6, c7, c8, c9, c10, c11, c12, c13, c14, c15, c16, c17, c18, c19, c20, c21, c22, c23, c24, c25, c26, c27, c28, c29, c30, c31, c32, c33, c34, c35, c36⟩ := h'
  have b33 := iv33_0 hI 0 (by omega) (by omega)
  have b36 := iv33_6 hI 6 (by omega) (by omega)
  unfold watchX at hx
  unfold watchJ at hj
  rcases hx with ⟨a1, a2, a3⟩ | ⟨a1, a2, a3⟩ | ⟨a1, a2, a3⟩ | ⟨a1, a2, a3⟩
  · subst a3
    rcases hj with ⟨b1, b2, b3⟩ | ⟨b1, b2, b3⟩ | ⟨b1, b2, b3⟩ | ⟨b1, b2, b3⟩
    · (try simp only [up_same, up_cell, up_slot, ne_eq, not_false_eq_true, Nat.reduceEqDiff, Int.reduceEq, reduceCtorEq, Nat.reduceAdd, Int.reduceAdd, Int.reduceSub] at b1 b2)
      first | (exfalso; omega) | skip
      subst b3
      refine ⟨by omega, ?_, ?_, ?_, ?_, ?_, ?_, ?_, ?_, ?_, ?_, ?_, ?_, ?_, ?_, ?_, ?_, ?_, ?_, ?_, ?_, ?_, ?_, ?_, ?_, ?_, ?_, ?_, ?_, ?_, ?_, ?_, ?_, ?_, ?_, ?_, ?_, ?_⟩
      · simpa [up] using c0
      · simpa [up] using c1
      · simpa [up] using c2
      · simpa [up] using c3
      · simpa [up] using c4
      · simpa [up] using c5
      · simp [up]
      · simpa [up] using c7
      · simpa [up] using c8
      · simpa [up] using c9
      · simpa [up] using c10
      · exact fun j h0 h1 => by simpa [up] using c11 j h0 h1
      · exact fun j h0 h1 => by simpa [up] using c12 j h0 h1
      · exact fun j h0 h1 => by simpa [up] using c13 j h0 h1
      · exact fun j h0 h1 => by simpa [up] using c14 j h0 h1
      · exact fun j h0 h1 => by simpa [up] using c15 j h0 h1
      · exact fun j h0 h1 => by simpa [up] using c16 j h0 h1
      · exact fun j h0 h1 => by simpa [up] using c17 j h0 h1
      · exact fun j h0 h1 => by simpa [up] using c18 j h0 h1
      · exact fun j h0 h1 => by simpa [up] using c19 j h0 h1
      · exact fun j h0 h1 => by simpa [up] using c20 j h0 h1
      · exact fun j h0 h1 => by simpa [up] using c21 j h0 h1
      · exact fun j h0 h1 => by simpa [up] using c22 j h0 h1
      · exact fun j h0 h1 => by simpa [up] using c23 j h0 h1
      · exact fun j h0 h1 => by simpa [up] using c24 j h0 h1
      · exact fun j h0 h1 => by simpa [up] using c25 j h0 (by simpa [up] using h1)
      · exact fun j h0 h1 => by simp [up] at h1; omega
      · exact fun j h0 h1 => by simp [up] at h1; omega
      · exact fun j h0 h1 => by simpa [up] using c28 j h0 (by simpa [up] using h1)
      · exact fun j h0 h1 => by simpa [up] using c29 j h0 (by simpa [up] using h1)
      · exact fun j h0 h1 => by simpa [up] using c30 j h0 (by simpa [up] using h1)
      · exact fun j h0 h1 => by simpa [up] using c31 j h0 (by simpa [up] using h1)
      · exact fun j h0 h1 => by simpa [up] using c32 j h0 (by simpa [up] using h1)
      · exact fun j h0 h1 => by simpa [up] using c33 j h0 (by simpa [up] using h1)
      · exact fun j h0 h1 => by simpa [up] using c34 j h0 (by simpa [up] using h1)
      · exact rW_fr c35 (fun j _ _ => by simp [up]) (fun j _ _ => by simp [up])
      · exact rW_fr c36 (fun j _ _ => by simp [up]) (fun j _ _ => by simp [up])
    · (try simp only [up_same, up_cell, up_slot, ne_eq, not_false_eq_true, Nat.reduceEqDiff, Int.reduceEq, reduceCtorEq, Nat.reduceAdd, Int.reduceAdd, Int.reduceSub] at b1 b2)
      exfalso; omega
    · (try simp only [up_same, up_cell, up_slot, ne_eq, not_false_eq_true, Nat.reduceEqDiff, Int.reduceEq, reduceCtorEq, Nat.reduceAdd, Int.reduceAdd, Int.reduceSub] at b1 b2)
      exfalso; omega
    · (try simp only [up_same, up_cell, up_slot, ne_eq, not_false_eq_true, Nat.reduceEqDiff, Int.reduceEq, reduceCtorEq, Nat.reduceAdd, Int.reduceAdd, Int.reduceSub] at b1 b2)
      exfalso; omega
  · subst a3
    rcases hj with ⟨b1, b2, b3⟩ | ⟨b1, b2, b3⟩ | ⟨b1, b2, b3⟩ | ⟨b1, b2, b3⟩
    · skip
      exfalso; omega
    · skip
      first | (exfalso; omega) | (subst b3; exact ⟨by first | omega, hR⟩)
    · skip
      first | (exfalso; omega) | (subst b3; exact ⟨by first | omega, hR⟩)
    · skip
      exfalso; omega
  · subst a3
    rcases hj with ⟨b1, b2, b3⟩ | ⟨b1, b2, b3⟩ | ⟨b1, b2, b3⟩ | ⟨b1, b2, b3⟩
    · skip
      exfalso; omega
    · skip
      first | (exfalso; omega) | (subst b3; exact ⟨by first | omega, hR⟩)
    · skip
      first | (exfalso; omega) | (subst b3; exact ⟨by first | omega, hR⟩)
    · skip
      exfalso; omega
  · subst a3
    rcases hj with ⟨b1, b2, b3⟩ | ⟨b1, b2, b3⟩ | ⟨b1, b2, b3⟩ | ⟨b1, b2, b3⟩
    · (try simp only [up_same, up_cell, up_slot, ne_eq, not_false_eq_true, Nat.reduceEqDiff, Int.reduceEq, reduceCtorEq, Nat.reduceAdd, Int.reduceAdd, Int.reduceSub] at b1 b2)
      exfalso; omega
    · (try simp only [up_same, up_cell, up_slot, ne_eq, not_false_eq_true, Nat.reduceEqDiff, Int.reduceEq, reduceCtorEq, Nat.reduceAdd, Int.reduceAdd, Int.reduceSub] at b1 b2)
      exfalso; omega
    · (try simp only [up_same, up_cell, up_slot, ne_eq, not_false_eq_true, Nat.reduceEqDiff, Int.reduceEq, reduceCtorEq, Nat.reduceAdd, Int.reduceAdd, Int.reduceSub] at b1 b2)
      exfalso; omega
    · (try simp only [up_same, up_cell, up_slot, ne_eq, not_false_eq_true, Nat.reduceEqDiff, Int.reduceEq, reduceCtorEq, Nat.reduceAdd, Int.reduceAdd, Int.reduceSub] at b1 b2)
      first | (exfalso; omega) | skip
      subst b3
      refine ⟨by omega, ?_, ?_, ?_, ?_, ?_, ?_, ?_, ?_, ?_, ?_, ?_, ?_, ?_, ?_, ?_, ?_, ?_, ?_, ?_, ?_, ?_, ?_, ?_, ?_, ?_, ?_, ?_, ?_, ?_, ?_, ?_, ?_, ?_, ?_, ?_, ?_, ?_⟩
      · simpa [up] using c0
      · simpa [up] using c1
      · simpa [up] using c2
      · simpa [up] using c3
      · simpa [up] using c4
      · simpa [up] using c5
      · simp [up]; omega
      · simpa [up] using c7
      · simpa [up] using c8
      · simpa [up] using c9
      · simpa [up] using c10
      · exact fun j h0 h1 => by simpa [up] using c11 j h0 h1
      · exact fun j h0 h1 => by simpa [up] using c12 j h0 h1
      · exact fun j h0 h1 => by simpa [up] using c13 j h0 h1
      · exact fun j h0 h1 => by simpa [up] using c14 j h0 h1
      · exact fun j h0 h1 => by simpa [up] using c15 j h0 h1
      · exact fun j h0 h1 => by simpa [up] using c16 j h0 h1
      · exact fun j h0 h1 => by simpa [up] using c17 j h0 h1
      · exact fun j h0 h1 => by simpa [up] using c18 j h0 h1
      · exact fun j h0 h1 => by simpa [up] using c19 j h0 h1
      · exact fun j h0 h1 => by simpa [up] using c20 j h0 h1
      · exact fun j h0 h1 => by simpa [up] using c21 j h0 h1
      · exact fun j h0 h1 => by simpa [up] using c22 j h0 h1
      · exact fun j h0 h1 => by simpa [up] using c23 j h0 h1
      · exact fun j h0 h1 => by simpa [up] using c24 j h0 h1
      · exact fun j h0 h1 => by simpa [up] using c25 j h0 (by simpa [up] using h1)
      · exact rL_add (x := h) c26 (by simp [up]) (fun j => by simp [up]) (fun j => by simp [up, ← c6])
      · exact rL_add (x := z) c27 (by simp [up]) (fun j => by simp [up]) (fun j => by simp [up, ← c6])
      · exact fun j h0 h1 => by simpa [up] using c28 j h0 (by simpa [up] using h1)
      · exact fun j h0 h1 => by simpa [up] using c29 j h0 (by simpa [up] using h1)
      · exact fun j h0 h1 => by simpa [up] using c30 j h0 (by simpa [up] using h1)
      · exact fun j h0 h1 => by simpa [up] using c31 j h0 (by simpa [up] using h1)
      · exact fun j h0 h1 => by simpa [up] using c32 j h0 (by simpa [up] using h1)
      · exact fun j h0 h1 => by simpa [up] using c33 j h0 (by simpa [up] using h1)
      · exact fun j h0 h1 => by simpa [up] using c34 j h0 (by simpa [up] using h1)
      · exact rW_fr c35 (fun j _ _ => by simp [up]) (fun j _ _ => by simp [up])
      · exact rW_fr c36 (fun j _ _ => by simp [up]) (fun j _ _ => by simp [up])
theorem st_book {σ σ1 σ2 : Nat → Int → Int} {f h r r' : Int} (hR : R1 σ) (hI : InvX σ) (hx : bookX σ f h r σ1) (hj : bookJ σ1 f h r' σ2) : r = r' ∧ R1 σ2 := by
  have h' := hR
  obtain ⟨c0, c1, c2, c3, c4, c5, c6, c7, c8, c9, c10, c11, c12, c13, c14, c15, c16, c17, c18, c19, c20, c21, c22, c23, c24, c25, c26, c27, c28, c29, c30, c31, c32, c33, c34, c35, c36⟩ := h'
  have b33 := iv33_0 hI 0 (by omega) (by omega)
  have b36 := iv33_6 hI 6 (by omega) (by omega)
  unfold bookX at hx
  unfold bookJ at hj
  rcases hx with ⟨a1, a2, a3⟩ | ⟨a1, a2, a3⟩ | ⟨a1, a2, a3⟩ | ⟨a1, a2, a3⟩
  · subst a3
    rcases hj with ⟨b1, b2, b3⟩ | ⟨b1, b2, b3⟩ | ⟨b1, b2, b3⟩ | ⟨b1, b2, b3⟩
    · (try simp only [up_same, up_cell, up_slot, ne_eq, not_false_eq_true, Nat.reduceEqDiff, Int.reduceEq, reduceCtorEq, Nat.reduceAdd, Int.reduceAdd, Int.reduceSub] at b1 b2)
      first | (exfalso; omega) | skip
      subst b3
      refine ⟨by omega, ?_, ?_, ?_, ?_, ?_, ?_, ?_, ?_, ?_, ?_, ?_, ?_, ?_, ?_, ?_, ?_, ?_, ?_, ?_, ?_, ?_, ?_, ?_, ?_, ?_, ?_, ?_, ?_, ?_, ?_, ?_, ?_, ?_, ?_, ?_, ?_, ?_⟩
      · simpa [up] using c0
      · simpa [up] using c1
      · simpa [up] using c2
      · simpa [up] using c3
      · simpa [up] using c4
      · simpa [up] using c5
      · simpa [up] using c6
      · simp [up]
      · simpa [up] using c8
      · simpa [up] using c9
      · simpa [up] using c10
      · exact fun j h0 h1 => by simpa [up] using c11 j h0 h1
      · exact fun j h0 h1 => by simpa [up] using c12 j h0 h1
      · exact fun j h0 h1 => by simpa [up] using c13 j h0 h1
      · exact fun j h0 h1 => by simpa [up] using c14 j h0 h1
      · exact fun j h0 h1 => by simpa [up] using c15 j h0 h1
      · exact fun j h0 h1 => by simpa [up] using c16 j h0 h1
      · exact fun j h0 h1 => by simpa [up] using c17 j h0 h1
      · exact fun j h0 h1 => by simpa [up] using c18 j h0 h1
      · exact fun j h0 h1 => by simpa [up] using c19 j h0 h1
      · exact fun j h0 h1 => by simpa [up] using c20 j h0 h1
      · exact fun j h0 h1 => by simpa [up] using c21 j h0 h1
      · exact fun j h0 h1 => by simpa [up] using c22 j h0 h1
      · exact fun j h0 h1 => by simpa [up] using c23 j h0 h1
      · exact fun j h0 h1 => by simpa [up] using c24 j h0 h1
      · exact fun j h0 h1 => by simpa [up] using c25 j h0 (by simpa [up] using h1)
      · exact fun j h0 h1 => by simpa [up] using c26 j h0 (by simpa [up] using h1)
      · exact fun j h0 h1 => by simpa [up] using c27 j h0 (by simpa [up] using h1)
      · exact fun j h0 h1 => by simp [up] at h1; omega
      · exact fun j h0 h1 => by simp [up] at h1; omega
      · exact fun j h0 h1 => by simpa [up] using c30 j h0 (by simpa [up] using h1)
      · exact fun j h0 h1 => by simpa [up] using c31 j h0 (by simpa [up] using h1)
      · exact fun j h0 h1 => by simpa [up] using c32 j h0 (by simpa [up] using h1)
      · exact fun j h0 h1 => by simpa [up] using c33 j h0 (by simpa [up] using h1)
      · exact fun j h0 h1 => by simpa [up] using c34 j h0 (by simpa [up] using h1)
      · exact rW_fr c35 (fun j _ _ => by simp [up]) (fun j _ _ => by simp [up])
      · exact rW_fr c36 (fun j _ _ => by simp [up]) (fun j _ _ => by simp [up])
    · (try simp only [up_same, up_cell, up_slot, ne_eq, not_false_eq_true, Nat.reduceEqDiff, Int.reduceEq, reduceCtorEq, Nat.reduceAdd, Int.reduceAdd, Int.reduceSub] at b1 b2)
      exfalso; omega
    · (try simp only [up_same, up_cell, up_slot, ne_eq, not_false_eq_true, Nat.reduceEqDiff, Int.reduceEq, reduceCtorEq, Nat.reduceAdd, Int.reduceAdd, Int.reduceSub] at b1 b2)
      exfalso; omega
    · (try simp only [up_same, up_cell, up_slot, ne_eq, not_false_eq_true, Nat.reduceEqDiff, Int.reduceEq, reduceCtorEq, Nat.reduceAdd, Int.reduceAdd, Int.reduceSub] at b1 b2)
      exfalso; omega
  · subst a3
    rcases hj with ⟨b1, b2, b3⟩ | ⟨b1, b2, b3⟩ | ⟨b1, b2, b3⟩ | ⟨b1, b2, b3⟩
    · skip
      exfalso; omega
    · skip
      first | (exfalso; omega) | (subst b3; exact ⟨by first | omega, hR⟩)
    · skip
      first | (exfalso; omega) | (subst b3; exact ⟨by first | omega, hR⟩)
    · skip
      exfalso; omega
  · subst a3
    rcases hj with ⟨b1, b2, b3⟩ | ⟨b1, b2, b3⟩ | ⟨b1, b2, b3⟩ | ⟨b1, b2, b3⟩
    · skip
      exfalso; omega
    · skip
      first | (exfalso; omega) | (subst b3; exact ⟨by first | omega, hR⟩)
    · skip
      first | (exfalso; omega) | (subst b3; exact ⟨by first | omega, hR⟩)
    · skip
      exfalso; omega
  · subst a3
    rcases hj with ⟨b1, b2, b3⟩ | ⟨b1, b2, b3⟩ | ⟨b1, b2, b3⟩ | ⟨b1, b2, b3⟩
    · (try simp only [up_same, up_cell, up_slot, ne_eq, not_false_eq_true, Nat.reduceEqDiff, Int.reduceEq, reduceCtorEq, Nat.reduceAdd, Int.reduceAdd, Int.reduceSub] at b1 b2)
      exfalso; omega
    · (try simp only [up_same, up_cell, up_slot, ne_eq, not_false_eq_true, Nat.reduceEqDiff, Int.reduceEq, reduceCtorEq, Nat.reduceAdd, Int.reduceAdd, Int.reduceSub] at b1 b2)
      exfalso; omega
    · (try simp only [up_same, up_cell, up_slot, ne_eq, not_false_eq_true, Nat.reduceEqDiff, Int.reduceEq, reduceCtorEq, Nat.reduceAdd, Int.reduceAdd, Int.reduceSub] at b1 b2)
      exfalso; omega
    · (try simp only [up_same, up_cell, up_slot, ne_eq, not_false_eq_true, Nat.reduceEqDiff, Int.reduceEq, reduceCtorEq, Nat.reduceAdd, Int.reduceAdd, Int.reduceSub] at b1 b2)
      first | (exfalso; omega) | skip
      subst b3
      refine ⟨by omega, ?_, ?_, ?_, ?_, ?_, ?_, ?_, ?_, ?_, ?_, ?_, ?_, ?_, ?_, ?_, ?_, ?_, ?_, ?_, ?_, ?_, ?_, ?_, ?_, ?_, ?_, ?_, ?_, ?_, ?_, ?_, ?_, ?_, ?_, ?_, ?_, ?_⟩
      · simpa [up] using c0
      · simpa [up] using c1
      · simpa [up] using c2
      · simpa [up] using c3
      · simpa [up] using c4
      · simpa [up] using c5
      · simpa [up] using c6
      · simp [up]; omega
      · simpa [up] using c8
      · simpa [up] using c9
      · simpa [up] using c10
      · exact fun j h0 h1 => by simpa [up] using c11 j h0 h1
      · exact fun j h0 h1 => by simpa [up] using c12 j h0 h1
      · exact fun j h0 h1 => by simpa [up] using c13 j h0 h1
      · exact fun j h0 h1 => by simpa [up] using c14 j h0 h1
      · exact fun j h0 h1 => by simpa [up] using c15 j h0 h1
      · exact fun j h0 h1 => by simpa [up] using c16 j h0 h1
      · exact fun j h0 h1 => by simpa [up] using c17 j h0 h1
      · exact fun j h0 h1 => by simpa [up] using c18 j h0 h1
      · exact fun j h0 h1 => by simpa [up] using c19 j h0 h1
      · exact fun j h0 h1 => by simpa [up] using c20 j h0 h1
      · exact fun j h0 h1 => by simpa [up] using c21 j h0 h1
      · exact fun j h0 h1 => by simpa [up] using c22 j h0 h1
      · exact fun j h0 h1 => by simpa [up] using c23 j h0 h1
      · exact fun j h0 h1 => by simpa [up] using c24 j h0 h1
      · exact fun j h0 h1 => by simpa [up] using c25 j h0 (by simpa [up] using h1)
      · exact fun j h0 h1 => by simpa [up] using c26 j h0 (by simpa [up] using h1)
      · exact fun j h0 h1 => by simpa [up] using c27 j h0 (by simpa [up] using h1)
      · exact rL_add (x := f) c28 (by simp [up]) (fun j => by simp [up]) (fun j => by simp [up, ← c7])
      · exact rL_add (x := h) c29 (by simp [up]) (fun j => by simp [up]) (fun j => by simp [up, ← c7])
      · exact fun j h0 h1 => by simpa [up] using c30 j h0 (by simpa [up] using h1)
      · exact fun j h0 h1 => by simpa [up] using c31 j h0 (by simpa [up] using h1)
      · exact fun j h0 h1 => by simpa [up] using c32 j h0 (by simpa [up] using h1)
      · exact fun j h0 h1 => by simpa [up] using c33 j h0 (by simpa [up] using h1)
      · exact fun j h0 h1 => by simpa [up] using c34 j h0 (by simpa [up] using h1)
      · exact rW_fr c35 (fun j _ _ => by simp [up]) (fun j _ _ => by simp [up])
      · exact rW_fr c36 (fun j _ _ => by simp [up]) (fun j _ _ => by simp [up])
theorem st_who {σ σ1 σ2 : Nat → Int → Int} {f w r r' : Int} (hR : R1 σ) (hI : InvX σ) (hx : whoX σ f w r σ1) (hj : whoJ σ1 f w r' σ2) : r = r' ∧ R1 σ2 := by
  have h' := hR
  obtain ⟨c0, c1, c2, c3, c4, c5, c6, c7, c8, c9, c10, c11, c12, c13, c14, c15, c16, c17, c18, c19, c20, c21, c22, c23, c24, c25, c26, c27, c28, c29, c30, c31, c32, c33, c34, c35, c36⟩ := h'
  have b33 := iv33_0 hI 0 (by omega) (by omega)
  have b36 := iv33_6 hI 6 (by omega) (by omega)
  unfold whoX at hx
  unfold whoJ at hj
  rcases hx with ⟨a1, a2, a3⟩ | ⟨a1, a2, a3⟩ | ⟨a1, a2, a3⟩ | ⟨a1, a2, a3⟩ | ⟨a1, a2, a3⟩
  · subst a3
    rcases hj with ⟨b1, b2, b3⟩ | ⟨b1, b2, b3⟩ | ⟨b1, b2, b3⟩ | ⟨b1, b2, b3⟩ | ⟨b1, b2, b3⟩
    · skip
      first | (exfalso; omega) | (subst b3; exact ⟨by first | omega | (rw [a2, b2]; exact c15 f (by omega) (by omega)) | (rw [a2, b2]; exact c16 f (by omega) (by omega)) | (rw [a2, b2]; exact c17 f (by omega) (by omega)), hR⟩)
    · skip
      first | (exfalso; omega) | (subst b3; exact ⟨by first | omega | (rw [a2, b2]; exact c15 f (by omega) (by omega)) | (rw [a2, b2]; exact c16 f (by omega) (by omega)) | (rw [a2, b2]; exact c17 f (by omega) (by omega)), hR⟩)
    · skip
      first | (exfalso; omega) | (subst b3; exact ⟨by first | omega | (rw [a2, b2]; exact c15 f (by omega) (by omega)) | (rw [a2, b2]; exact c16 f (by omega) (by omega)) | (rw [a2, b2]; exact c17 f (by omega) (by omega)), hR⟩)
    · skip
      first | (exfalso; omega) | (subst b3; exact ⟨by first | omega | (rw [a2, b2]; exact c15 f (by omega) (by omega)) | (rw [a2, b2]; exact c16 f (by omega) (by omega)) | (rw [a2, b2]; exact c17 f (by omega) (by omega)), hR⟩)
    · skip
      first | (exfalso; omega) | (subst b3; exact ⟨by first | omega | (rw [a2, b2]; exact c15 f (by omega) (by omega)) | (rw [a2, b2]; exact c16 f (by omega) (by omega)) | (rw [a2, b2]; exact c17 f (by omega) (by omega)), hR⟩)
  · subst a3
    rcases hj with ⟨b1, b2, b3⟩ | ⟨b1, b2, b3⟩ | ⟨b1, b2, b3⟩ | ⟨b1, b2, b3⟩ | ⟨b1, b2, b3⟩
    · skip
      first | (exfalso; omega) | (subst b3; exact ⟨by first | omega | (rw [a2, b2]; exact c15 f (by omega) (by omega)) | (rw [a2, b2]; exact c16 f (by omega) (by omega)) | (rw [a2, b2]; exact c17 f (by omega) (by omega)), hR⟩)
    · skip
      first | (exfalso; omega) | (subst b3; exact ⟨by first | omega | (rw [a2, b2]; exact c15 f (by omega) (by omega)) | (rw [a2, b2]; exact c16 f (by omega) (by omega)) | (rw [a2, b2]; exact c17 f (by omega) (by omega)), hR⟩)
    · skip
      first | (exfalso; omega) | (subst b3; exact ⟨by first | omega | (rw [a2, b2]; exact c15 f (by omega) (by omega)) | (rw [a2, b2]; exact c16 f (by omega) (by omega)) | (rw [a2, b2]; exact c17 f (by omega) (by omega)), hR⟩)
    · skip
      first | (exfalso; omega) | (subst b3; exact ⟨by first | omega | (rw [a2, b2]; exact c15 f (by omega) (by omega)) | (rw [a2, b2]; exact c16 f (by omega) (by omega)) | (rw [a2, b2]; exact c17 f (by omega) (by omega)), hR⟩)
    · skip
      first | (exfalso; omega) | (subst b3; exact ⟨by first | omega | (rw [a2, b2]; exact c15 f (by omega) (by omega)) | (rw [a2, b2]; exact c16 f (by omega) (by omega)) | (rw [a2, b2]; exact c17 f (by omega) (by omega)), hR⟩)
  · subst a3
    rcases hj with ⟨b1, b2, b3⟩ | ⟨b1, b2, b3⟩ | ⟨b1, b2, b3⟩ | ⟨b1, b2, b3⟩ | ⟨b1, b2, b3⟩
    · skip
      first | (exfalso; omega) | (subst b3; exact ⟨by first | omega | (rw [a2, b2]; exact c15 f (by omega) (by omega)) | (rw [a2, b2]; exact c16 f (by omega) (by omega)) | (rw [a2, b2]; exact c17 f (by omega) (by omega)), hR⟩)
    · skip
      first | (exfalso; omega) | (subst b3; exact ⟨by first | omega | (rw [a2, b2]; exact c15 f (by omega) (by omega)) | (rw [a2, b2]; exact c16 f (by omega) (by omega)) | (rw [a2, b2]; exact c17 f (by omega) (by omega)), hR⟩)
    · skip
      first | (exfalso; omega) | (subst b3; exact ⟨by first | omega | (rw [a2, b2]; exact c15 f (by omega) (by omega)) | (rw [a2, b2]; exact c16 f (by omega) (by omega)) | (rw [a2, b2]; exact c17 f (by omega) (by omega)), hR⟩)
    · skip
      first | (exfalso; omega) | (subst b3; exact ⟨by first | omega | (rw [a2, b2]; exact c15 f (by omega) (by omega)) | (rw [a2, b2]; exact c16 f (by omega) (by omega)) | (rw [a2, b2]; exact c17 f (by omega) (by omega)), hR⟩)
    · skip
      first | (exfalso; omega) | (subst b3; exact ⟨by first | omega | (rw [a2, b2]; exact c15 f (by omega) (by omega)) | (rw [a2, b2]; exact c16 f (by omega) (by omega)) | (rw [a2, b2]; exact c17 f (by omega) (by omega)), hR⟩)
  · subst a3
    rcases hj with ⟨b1, b2, b3⟩ | ⟨b1, b2, b3⟩ | ⟨b1, b2, b3⟩ | ⟨b1, b2, b3⟩ | ⟨b1, b2, b3⟩
    · skip
      first | (exfalso; omega) | (subst b3; exact ⟨by first | omega | (rw [a2, b2]; exact c15 f (by omega) (by omega)) | (rw [a2, b2]; exact c16 f (by omega) (by omega)) | (rw [a2, b2]; exact c17 f (by omega) (by omega)), hR⟩)
    · skip
      first | (exfalso; omega) | (subst b3; exact ⟨by first | omega | (rw [a2, b2]; exact c15 f (by omega) (by omega)) | (rw [a2, b2]; exact c16 f (by omega) (by omega)) | (rw [a2, b2]; exact c17 f (by omega) (by omega)), hR⟩)
    · skip
      first | (exfalso; omega) | (subst b3; exact ⟨by first | omega | (rw [a2, b2]; exact c15 f (by omega) (by omega)) | (rw [a2, b2]; exact c16 f (by omega) (by omega)) | (rw [a2, b2]; exact c17 f (by omega) (by omega)), hR⟩)
    · skip
      first | (exfalso; omega) | (subst b3; exact ⟨by first | omega | (rw [a2, b2]; exact c15 f (by omega) (by omega)) | (rw [a2, b2]; exact c16 f (by omega) (by omega)) | (rw [a2, b2]; exact c17 f (by omega) (by omega)), hR⟩)
    · skip
      first | (exfalso; omega) | (subst b3; exact ⟨by first | omega | (rw [a2, b2]; exact c15 f (by omega) (by omega)) | (rw [a2, b2]; exact c16 f (by omega) (by omega)) | (rw [a2, b2]; exact c17 f (by omega) (by omega)), hR⟩)
  · subst a3
    rcases hj with ⟨b1, b2, b3⟩ | ⟨b1, b2, b3⟩ | ⟨b1, b2, b3⟩ | ⟨b1, b2, b3⟩ | ⟨b1, b2, b3⟩
    · skip
      first | (exfalso; omega) | (subst b3; exact ⟨by first | omega | (rw [a2, b2]; exact c15 f (by omega) (by omega)) | (rw [a2, b2]; exact c16 f (by omega) (by omega)) | (rw [a2, b2]; exact c17 f (by omega) (by omega)), hR⟩)
    · skip
      first | (exfalso; omega) | (subst b3; exact ⟨by first | omega | (rw [a2, b2]; exact c15 f (by omega) (by omega)) | (rw [a2, b2]; exact c16 f (by omega) (by omega)) | (rw [a2, b2]; exact c17 f (by omega) (by omega)), hR⟩)
    · skip
      first | (exfalso; omega) | (subst b3; exact ⟨by first | omega | (rw [a2, b2]; exact c15 f (by omega) (by omega)) | (rw [a2, b2]; exact c16 f (by omega) (by omega)) | (rw [a2, b2]; exact c17 f (by omega) (by omega)), hR⟩)
    · skip
      first | (exfalso; omega) | (subst b3; exact ⟨by first | omega | (rw [a2, b2]; exact c15 f (by omega) (by omega)) | (rw [a2, b2]; exact c16 f (by omega) (by omega)) | (rw [a2, b2]; exact c17 f (by omega) (by omega)), hR⟩)
    · skip
      first | (exfalso; omega) | (subst b3; exact ⟨by first | omega | (rw [a2, b2]; exact c15 f (by omega) (by omega)) | (rw [a2, b2]; exact c16 f (by omega) (by omega)) | (rw [a2, b2]; exact c17 f (by omega) (by omega)), hR⟩)
theorem st_taken {σ σ1 σ2 : Nat → Int → Int} {h k r r' : Int} (hR : R1 σ) (hI : InvX σ) (hx : takenX σ h k r σ1) (hj : takenJ σ1 h k r' σ2) : r = r' ∧ R1 σ2 := by
  have h' := hR
  obtain ⟨c0, c1, c2, c3, c4, c5, c6, c7, c8, c9, c10, c11, c12, c13, c14, c15, c16, c17, c18, c19, c20, c21, c22, c23, c24, c25, c26, c27, c28, c29, c30, c31, c32, c33, c34, c35, c36⟩ := h'
  have b33 := iv33_0 hI 0 (by omega) (by omega)
  have b36 := iv33_6 hI 6 (by omega) (by omega)
  have hk : ∀ h, 0 ≤ h → h < σ 33 0 → σ 34 h = σ 70 h := fun h h0 h1 => c11 h h0 (by omega)
  unfold takenX at hx
  unfold takenJ at hj
  rcases hx with ⟨a1, a2, a3⟩ | ⟨a1, a2, a3⟩ | ⟨a1, a2, a3⟩ | ⟨a1, a2, a3⟩
  · subst a3
    rcases hj with ⟨b1, b2, b3⟩ | ⟨b1, b2, b3⟩ | ⟨b1, b2, b3⟩ | ⟨b1, b2, b3⟩
    · skip
      first | (exfalso; omega) | (have e := hk h (by omega) (by omega); rw [e] at a1; exact absurd (a1.2.2.symm.trans b1.2.2) (by decide)) | (subst b3; exact ⟨by first | omega | (rw [a2, b2]; exact hk h (by omega) (by omega)), hR⟩)
    · skip
      first | (exfalso; omega) | (have e := hk h (by omega) (by omega); rw [e] at a1; exact absurd (a1.2.2.symm.trans b1.2.2) (by decide)) | (subst b3; exact ⟨by first | omega | (rw [a2, b2]; exact hk h (by omega) (by omega)), hR⟩)
    · skip
      first | (exfalso; omega) | (have e := hk h (by omega) (by omega); rw [e] at a1; exact absurd (a1.2.2.symm.trans b1.2.2) (by decide)) | (subst b3; exact ⟨by first | omega | (rw [a2, b2]; exact hk h (by omega) (by omega)), hR⟩)
    · skip
      first | (exfalso; omega) | (have e := hk h (by omega) (by omega); rw [e] at a1; exact absurd (a1.2.2.symm.trans b1.2.2) (by decide)) | (subst b3; exact ⟨by first | omega | (rw [a2, b2]; exact hk h (by omega) (by omega)), hR⟩)
  · subst a3
    rcases hj with ⟨b1, b2, b3⟩ | ⟨b1, b2, b3⟩ | ⟨b1, b2, b3⟩ | ⟨b1, b2, b3⟩
    · skip
      first | (exfalso; omega) | (have e := hk h (by omega) (by omega); rw [e] at a1; exact absurd (a1.2.2.symm.trans b1.2.2) (by decide)) | (subst b3; exact ⟨by first | omega | (rw [a2, b2]; exact hk h (by omega) (by omega)), hR⟩)
    · skip
      first | (exfalso; omega) | (have e := hk h (by omega) (by omega); rw [e] at a1; exact absurd (a1.2.2.symm.trans b1.2.2) (by decide)) | (subst b3; exact ⟨by first | omega | (rw [a2, b2]; exact hk h (by omega) (by omega)), hR⟩)
    · skip
      first | (exfalso; omega) | (have e := hk h (by omega) (by omega); rw [e] at a1; exact absurd (a1.2.2.symm.trans b1.2.2) (by decide)) | (subst b3; exact ⟨by first | omega | (rw [a2, b2]; exact hk h (by omega) (by omega)), hR⟩)
    · skip
      first | (exfalso; omega) | (have e := hk h (by omega) (by omega); rw [e] at a1; exact absurd (a1.2.2.symm.trans b1.2.2) (by decide)) | (subst b3; exact ⟨by first | omega | (rw [a2, b2]; exact hk h (by omega) (by omega)), hR⟩)
  · subst a3
    rcases hj with ⟨b1, b2, b3⟩ | ⟨b1, b2, b3⟩ | ⟨b1, b2, b3⟩ | ⟨b1, b2, b3⟩
    · skip
      first | (exfalso; omega) | (have e := hk h (by omega) (by omega); rw [e] at a1; exact absurd (a1.2.2.symm.trans b1.2.2) (by decide)) | (subst b3; exact ⟨by first | omega | (rw [a2, b2]; exact hk h (by omega) (by omega)), hR⟩)
    · skip
      first | (exfalso; omega) | (have e := hk h (by omega) (by omega); rw [e] at a1; exact absurd (a1.2.2.symm.trans b1.2.2) (by decide)) | (subst b3; exact ⟨by first | omega | (rw [a2, b2]; exact hk h (by omega) (by omega)), hR⟩)
    · skip
      first | (exfalso; omega) | (have e := hk h (by omega) (by omega); rw [e] at a1; exact absurd (a1.2.2.symm.trans b1.2.2) (by decide)) | (subst b3; exact ⟨by first | omega | (rw [a2, b2]; exact hk h (by omega) (by omega)), hR⟩)
    · skip
      first | (exfalso; omega) | (have e := hk h (by omega) (by omega); rw [e] at a1; exact absurd (a1.2.2.symm.trans b1.2.2) (by decide)) | (subst b3; exact ⟨by first | omega | (rw [a2, b2]; exact hk h (by omega) (by omega)), hR⟩)
  · subst a3
    rcases hj with ⟨b1, b2, b3⟩ | ⟨b1, b2, b3⟩ | ⟨b1, b2, b3⟩ | ⟨b1, b2, b3⟩
    · skip
      first | (exfalso; omega) | (have e := hk h (by omega) (by omega); rw [e] at a1; exact absurd (a1.2.2.symm.trans b1.2.2) (by decide)) | (subst b3; exact ⟨by first | omega | (rw [a2, b2]; exact hk h (by omega) (by omega)), hR⟩)
    · skip
      first | (exfalso; omega) | (have e := hk h (by omega) (by omega); rw [e] at a1; exact absurd (a1.2.2.symm.trans b1.2.2) (by decide)) | (subst b3; exact ⟨by first | omega | (rw [a2, b2]; exact hk h (by omega) (by omega)), hR⟩)
    · skip
      first | (exfalso; omega) | (have e := hk h (by omega) (by omega); rw [e] at a1; exact absurd (a1.2.2.symm.trans b1.2.2) (by decide)) | (subst b3; exact ⟨by first | omega | (rw [a2, b2]; exact hk h (by omega) (by omega)), hR⟩)
    · skip
      first | (exfalso; omega) | (have e := hk h (by omega) (by omega); rw [e] at a1; exact absurd (a1.2.2.symm.trans b1.2.2) (by decide)) | (subst b3; exact ⟨by first | omega | (rw [a2, b2]; exact hk h (by omega) (by omega)), hR⟩)
theorem st_image {σ σ1 σ2 : Nat → Int → Int} (h : R1 σ) (hI : InvX σ) (hJ : InvJ σ) (hF : Fr scCk σ σ1) (hG : Fr jcI σ1 σ2) (hx : cpP 1 33 σ σ1) (hj : imgCp σ1 σ2) (hx2 : σ1 0 2 = 1) (hj2 : σ2 69 44 = 1) : R1 σ2 := by
  obtain ⟨c0, c1, c2, c3, c4, c5, c6, c7, c8, c9, c10, c11, c12, c13, c14, c15, c16, c17, c18, c19, c20, c21, c22, c23, c24, c25, c26, c27, c28, c29, c30, c31, c32, c33, c34, c35, c36⟩ := h
  obtain ⟨s0, s6, s13, a1, a2, a3, a4, a5, a6, a7, a8, z9, l10, l11, z12, l13, l14, z15, l16, l17⟩ := hx
  obtain ⟨f0, f1, f2, f3, f4, f5, g95, g96, g97, g98, g99, g100, g101, g102, g103, g104, g107, g105, g106⟩ := hj
  have b10 := iv42_2 hI 2 (by omega) (by omega)
  have b13 := iv45_2 hI 2 (by omega) (by omega)
  have b16 := iv48_2 hI 2 (by omega) (by omega)
  exact ⟨by rw [hG 33 0 rfl, hF 33 0 rfl, hG 69 0 rfl, hF 69 0 rfl]; exact c0, by rw [hG 33 6 rfl, hF 33 6 rfl, hG 69 1 rfl, hF 69 1 rfl]; exact c1, by rw [hG 1 0 rfl, s0, f1, hF 69 0 rfl]; exact c0, by rw [hG 1 6 rfl, s6, f2, hF 69 1 rfl]; exact c1, by rw [show σ2 0 2 = σ1 0 2 from hG 0 2 rfl, hx2, hj2], by rw [hG 42 2 rfl, hF 42 2 rfl, hG 69 34 rfl, hF 69 34 rfl]; exact c5, by rw [hG 45 2 rfl, hF 45 2 rfl, hG 69 38 rfl, hF 69 38 rfl]; exact c6, by rw [hG 48 2 rfl, hF 48 2 rfl, hG 69 41 rfl, hF 69 41 rfl]; exact c7, by rw [hG 10 2 rfl, z9, f3, hF 69 34 rfl]; exact c5, by rw [hG 13 2 rfl, z12, f4, hF 69 38 rfl]; exact c6, by rw [hG 16 2 rfl, z15, f5, hF 69 41 rfl]; exact c7, fun j h0 h1 => by rw [hG 34 j rfl, hF 34 j rfl, hG 70 j rfl, hF 70 j rfl]; exact c11 j h0 h1, fun j h0 h1 => by rw [hG 35 j rfl, hF 35 j rfl, hG 71 j rfl, hF 71 j rfl]; exact c12 j h0 h1, fun j h0 h1 => by rw [hG 36 j rfl, hF 36 j rfl, hG 72 j rfl, hF 72 j rfl]; exact c13 j h0 h1, fun j h0 h1 => by rw [hG 37 j rfl, hF 37 j rfl, hG 73 j rfl, hF 73 j rfl]; exact c14 j h0 h1, fun j h0 h1 => by rw [hG 39 j rfl, hF 39 j rfl, hG 75 j rfl, hF 75 j rfl]; exact c15 j h0 h1, fun j h0 h1 => by rw [hG 40 j rfl, hF 40 j rfl, hG 76 j rfl, hF 76 j rfl]; exact c16 j h0 h1, fun j h0 h1 => by rw [hG 41 j rfl, hF 41 j rfl, hG 77 j rfl, hF 77 j rfl]; exact c17 j h0 h1, fun j h0 h1 => by rw [hG 2 j rfl, a1 j h0 h1, g95 j h0 h1, hF 70 j rfl]; exact c11 j h0 h1, fun j h0 h1 => by rw [hG 3 j rfl, a2 j h0 h1, g96 j h0 h1, hF 71 j rfl]; exact c12 j h0 h1, fun j h0 h1 => by rw [hG 4 j rfl, a3 j h0 h1, g97 j h0 h1, hF 72 j rfl]; exact c13 j h0 h1, fun j h0 h1 => by rw [hG 5 j rfl, a4 j h0 h1, g98 j h0 h1, hF 73 j rfl]; exact c14 j h0 h1, fun j h0 h1 => by rw [hG 7 j rfl, a6 j h0 h1, g100 j h0 h1, hF 75 j rfl]; exact c15 j h0 h1, fun j h0 h1 => by rw [hG 8 j rfl, a7 j h0 h1, g101 j h0 h1, hF 76 j rfl]; exact c16 j h0 h1, fun j h0 h1 => by rw [hG 9 j rfl, a8 j h0 h1, g102 j h0 h1, hF 77 j rfl]; exact c17 j h0 h1, fun j h0 h1 => by rw [hG 42 2 rfl, hF 42 2 rfl] at h1; rw [hG 43 j rfl, hF 43 j rfl, hG 88 j rfl, hF 88 j rfl]; exact c25 j h0 h1, fun j h0 h1 => by rw [hG 45 2 rfl, hF 45 2 rfl] at h1; rw [hG 46 j rfl, hF 46 j rfl, hG 91 j rfl, hF 91 j rfl]; exact c26 j h0 h1, fun j h0 h1 => by rw [hG 45 2 rfl, hF 45 2 rfl] at h1; rw [hG 47 j rfl, hF 47 j rfl, hG 92 j rfl, hF 92 j rfl]; exact c27 j h0 h1, fun j h0 h1 => by rw [hG 48 2 rfl, hF 48 2 rfl] at h1; rw [hG 49 j rfl, hF 49 j rfl, hG 93 j rfl, hF 93 j rfl]; exact c28 j h0 h1, fun j h0 h1 => by rw [hG 48 2 rfl, hF 48 2 rfl] at h1; rw [hG 50 j rfl, hF 50 j rfl, hG 94 j rfl, hF 94 j rfl]; exact c29 j h0 h1, fun j h0 h1 => by rw [hG 10 2 rfl, z9] at h1; have h1 : j < σ 42 2 := h1; rw [hG 11 j rfl, l10 j h0 h1, g103 j h0 (by omega), hF 88 j rfl]; exact c25 j h0 h1, fun j h0 h1 => by rw [hG 13 2 rfl, z12] at h1; have h1 : j < σ 45 2 := h1; rw [hG 14 j rfl, l13 j h0 h1, g104 j h0 (by omega), hF 91 j rfl]; exact c26 j h0 h1, fun j h0 h1 => by rw [hG 13 2 rfl, z12] at h1; have h1 : j < σ 45 2 := h1; rw [hG 15 j rfl, l14 j h0 h1, g107 j h0 (by omega), hF 92 j rfl]; exact c27 j h0 h1, fun j h0 h1 => by rw [hG 16 2 rfl, z15] at h1; have h1 : j < σ 48 2 := h1; rw [hG 17 j rfl, l16 j h0 h1, g105 j h0 (by omega), hF 93 j rfl]; exact c28 j h0 h1, fun j h0 h1 => by rw [hG 16 2 rfl, z15] at h1; have h1 : j < σ 48 2 := h1; rw [hG 18 j rfl, l17 j h0 h1, g106 j h0 (by omega), hF 94 j rfl]; exact c29 j h0 h1, rW_fr c35 (fun j _ _ => (hG 38 j rfl).trans (hF 38 j rfl)) (fun j _ _ => (hG 74 j rfl).trans (hF 74 j rfl)), rW_fr c35 (fun j h0 h1 => (hG 6 j rfl).trans (a5 j h0 h1)) (fun j h0 h1 => (g99 j h0 h1).trans (hF 74 j rfl))⟩
theorem st_undo {σ σ1 σ2 : Nat → Int → Int} (h : R1 σ) (hI : InvX σ) (hJ : InvJ σ) (hF : Fr scCn σ σ1) (hG : Fr jcU σ1 σ2) (hx : cpP 33 1 σ σ1) (hj : undoCp σ1 σ2) : R1 σ2 := by
  obtain ⟨c0, c1, c2, c3, c4, c5, c6, c7, c8, c9, c10, c11, c12, c13, c14, c15, c16, c17, c18, c19, c20, c21, c22, c23, c24, c25, c26, c27, c28, c29, c30, c31, c32, c33, c34, c35, c36⟩ := h
  obtain ⟨s0, s6, s13, a1, a2, a3, a4, a5, a6, a7, a8, z9, l10, l11, z12, l13, l14, z15, l16, l17⟩ := hx
  obtain ⟨f0, f1, f2, f3, f4, f5, g95, g96, g97, g98, g99, g100, g101, g102, g103, g104, g107, g105, g106⟩ := hj
  have b10 := iv10_2 hI 2 (by omega) (by omega)
  have b13 := iv13_2 hI 2 (by omega) (by omega)
  have b16 := iv16_2 hI 2 (by omega) (by omega)
  exact ⟨by rw [hG 33 0 rfl, s0, f1, hF 69 46 rfl]; exact c2, by rw [hG 33 6 rfl, s6, f2, hF 69 47 rfl]; exact c3, by rw [hG 1 0 rfl, hF 1 0 rfl, hG 69 46 rfl, hF 69 46 rfl]; exact c2, by rw [hG 1 6 rfl, hF 1 6 rfl, hG 69 47 rfl, hF 69 47 rfl]; exact c3, by rw [show σ2 0 2 = σ1 0 2 from hG 0 2 rfl, hF 0 2 rfl, hG 69 44 rfl, hF 69 44 rfl]; exact c4, by rw [hG 42 2 rfl, z9, f3, hF 69 48 rfl]; exact c8, by rw [hG 45 2 rfl, z12, f4, hF 69 49 rfl]; exact c9, by rw [hG 48 2 rfl, z15, f5, hF 69 50 rfl]; exact c10, by rw [hG 10 2 rfl, hF 10 2 rfl, hG 69 48 rfl, hF 69 48 rfl]; exact c8, by rw [hG 13 2 rfl, hF 13 2 rfl, hG 69 49 rfl, hF 69 49 rfl]; exact c9, by rw [hG 16 2 rfl, hF 16 2 rfl, hG 69 50 rfl, hF 69 50 rfl]; exact c10, fun j h0 h1 => by rw [hG 34 j rfl, a1 j h0 h1, g95 j h0 h1, hF 95 j rfl]; exact c18 j h0 h1, fun j h0 h1 => by rw [hG 35 j rfl, a2 j h0 h1, g96 j h0 h1, hF 96 j rfl]; exact c19 j h0 h1, fun j h0 h1 => by rw [hG 36 j rfl, a3 j h0 h1, g97 j h0 h1, hF 97 j rfl]; exact c20 j h0 h1, fun j h0 h1 => by rw [hG 37 j rfl, a4 j h0 h1, g98 j h0 h1, hF 98 j rfl]; exact c21 j h0 h1, fun j h0 h1 => by rw [hG 39 j rfl, a6 j h0 h1, g100 j h0 h1, hF 100 j rfl]; exact c22 j h0 h1, fun j h0 h1 => by rw [hG 40 j rfl, a7 j h0 h1, g101 j h0 h1, hF 101 j rfl]; exact c23 j h0 h1, fun j h0 h1 => by rw [hG 41 j rfl, a8 j h0 h1, g102 j h0 h1, hF 102 j rfl]; exact c24 j h0 h1, fun j h0 h1 => by rw [hG 2 j rfl, hF 2 j rfl, hG 95 j rfl, hF 95 j rfl]; exact c18 j h0 h1, fun j h0 h1 => by rw [hG 3 j rfl, hF 3 j rfl, hG 96 j rfl, hF 96 j rfl]; exact c19 j h0 h1, fun j h0 h1 => by rw [hG 4 j rfl, hF 4 j rfl, hG 97 j rfl, hF 97 j rfl]; exact c20 j h0 h1, fun j h0 h1 => by rw [hG 5 j rfl, hF 5 j rfl, hG 98 j rfl, hF 98 j rfl]; exact c21 j h0 h1, fun j h0 h1 => by rw [hG 7 j rfl, hF 7 j rfl, hG 100 j rfl, hF 100 j rfl]; exact c22 j h0 h1, fun j h0 h1 => by rw [hG 8 j rfl, hF 8 j rfl, hG 101 j rfl, hF 101 j rfl]; exact c23 j h0 h1, fun j h0 h1 => by rw [hG 9 j rfl, hF 9 j rfl, hG 102 j rfl, hF 102 j rfl]; exact c24 j h0 h1, fun j h0 h1 => by rw [hG 42 2 rfl, z9] at h1; have h1 : j < σ 10 2 := h1; rw [hG 43 j rfl, l10 j h0 h1, g103 j h0 (by omega), hF 103 j rfl]; exact c30 j h0 h1, fun j h0 h1 => by rw [hG 45 2 rfl, z12] at h1; have h1 : j < σ 13 2 := h1; rw [hG 46 j rfl, l13 j h0 h1, g104 j h0 (by omega), hF 104 j rfl]; exact c31 j h0 h1, fun j h0 h1 => by rw [hG 45 2 rfl, z12] at h1; have h1 : j < σ 13 2 := h1; rw [hG 47 j rfl, l14 j h0 h1, g107 j h0 (by omega), hF 107 j rfl]; exact c32 j h0 h1, fun j h0 h1 => by rw [hG 48 2 rfl, z15] at h1; have h1 : j < σ 16 2 := h1; rw [hG 49 j rfl, l16 j h0 h1, g105 j h0 (by omega), hF 105 j rfl]; exact c33 j h0 h1, fun j h0 h1 => by rw [hG 48 2 rfl, z15] at h1; have h1 : j < σ 16 2 := h1; rw [hG 50 j rfl, l17 j h0 h1, g106 j h0 (by omega), hF 106 j rfl]; exact c34 j h0 h1, fun j h0 h1 => by rw [hG 10 2 rfl, hF 10 2 rfl] at h1; rw [hG 11 j rfl, hF 11 j rfl, hG 103 j rfl, hF 103 j rfl]; exact c30 j h0 h1, fun j h0 h1 => by rw [hG 13 2 rfl, hF 13 2 rfl] at h1; rw [hG 14 j rfl, hF 14 j rfl, hG 104 j rfl, hF 104 j rfl]; exact c31 j h0 h1, fun j h0 h1 => by rw [hG 13 2 rfl, hF 13 2 rfl] at h1; rw [hG 15 j rfl, hF 15 j rfl, hG 107 j rfl, hF 107 j rfl]; exact c32 j h0 h1, fun j h0 h1 => by rw [hG 16 2 rfl, hF 16 2 rfl] at h1; rw [hG 17 j rfl, hF 17 j rfl, hG 105 j rfl, hF 105 j rfl]; exact c33 j h0 h1, fun j h0 h1 => by rw [hG 16 2 rfl, hF 16 2 rfl] at h1; rw [hG 18 j rfl, hF 18 j rfl, hG 106 j rfl, hF 106 j rfl]; exact c34 j h0 h1, rW_fr c36 (fun j h0 h1 => (hG 38 j rfl).trans (a5 j h0 h1)) (fun j h0 h1 => (g99 j h0 h1).trans (hF 99 j rfl)), rW_fr c36 (fun j _ _ => (hG 6 j rfl).trans (hF 6 j rfl)) (fun j _ _ => (hG 99 j rfl).trans (hF 99 j rfl))⟩
theorem st_undo2 {σ σ1 σ2 : Nat → Int → Int} {r r' : Int} (h : R1 σ) (hI : InvX σ) (hJ : InvJ σ) (hF : Fr scCn σ σ1) (hG : Fr jcU σ1 σ2) (hx : (σ 0 2 = 0 ∧ r = -3 ∧ σ1 = σ) ∨ (σ 0 2 ≠ 0 ∧ r = σ 1 0 ∧ cpP 33 1 σ σ1)) (hj : (σ1 69 44 = 0 ∧ r' = -3 ∧ σ2 = σ1) ∨ (σ1 69 44 ≠ 0 ∧ r' = σ2 69 0 ∧ undoCp σ1 σ2)) : r = r' ∧ R1 σ2 := by
  have h' := h
  obtain ⟨c0, c1, c2, c3, c4, c5, c6, c7, c8, c9, c10, c11, c12, c13, c14, c15, c16, c17, c18, c19, c20, c21, c22, c23, c24, c25, c26, c27, c28, c29, c30, c31, c32, c33, c34, c35, c36⟩ := h'
  have e44 := hF 69 44 rfl
  rcases hx with ⟨a1, a2, a3⟩ | ⟨a1, a2, a3⟩
  · rcases hj with ⟨b1, b2, b3⟩ | ⟨b1, b2, b3⟩
    · subst b3; subst a3; exact ⟨by omega, h⟩
    · exfalso; omega
  · rcases hj with ⟨b1, b2, b3⟩ | ⟨b1, b2, b3⟩
    · exfalso; omega
    · have b46 := b3.2.1
      have e46 := hF 69 46 rfl
      exact ⟨by omega, st_undo h hI hJ hF hG a3 b3⟩
theorem Fr_keep {σ σ' : Nat → Int → Int} (hG : Fr jcKeep σ σ') (g : ∀ j, σ' 72 j = σ 72 j) : Fr jNR σ σ' := fun k j h => by
  by_cases e : k = 72
  · rw [e]; exact g j
  · refine hG k j ?_
    unfold jNR at h
    unfold jcKeep
    simp only [Bool.and_eq_false_iff, Bool.not_eq_false', decide_eq_false_iff_not, Bool.or_eq_false_iff, beq_eq_false_iff_ne, ne_eq, Bool.or_eq_true, Bool.and_eq_true, beq_iff_eq] at h ⊢
    omega
theorem rW_0 {x y : Nat} {σ : Nat → Int → Int} (ex : ∀ j, σ x j = 0) (ey : ∀ j, σ y j = 0) : rW x y σ := fun a _ _ => by
  rw [ex]
  refine ⟨by omega, fun q q0 q1 => ?_⟩
  rw [ey]
  have : q = 0 ∨ q = 1 ∨ q = 2 ∨ q = 3 := by omega
  rcases this with rfl | rfl | rfl | rfl <;> decide
def zcL : List Nat := [2, 3, 4, 5, 6, 7, 8, 9, 11, 14, 15, 17, 18, 34, 35, 36, 37, 38, 39, 40, 41, 43, 46, 47, 49, 50, 70, 71, 72, 73, 74, 75, 76, 77, 88, 91, 92, 93, 94, 95, 96, 97, 98, 99, 100, 101, 102, 103, 104, 105, 106, 107]
theorem R1_0 {σ : Nat → Int → Int} (hs : σ 33 0 = σ 69 0 ∧ σ 33 6 = σ 69 1 ∧ σ 1 0 = σ 69 46 ∧ σ 1 6 = σ 69 47 ∧ σ 0 2 = σ 69 44 ∧ σ 42 2 = σ 69 34 ∧ σ 45 2 = σ 69 38 ∧ σ 48 2 = σ 69 41 ∧ σ 10 2 = σ 69 48 ∧ σ 13 2 = σ 69 49 ∧ σ 16 2 = σ 69 50) (hz : ∀ k, k ∈ zcL → ∀ j, σ k j = 0) : R1 σ := by
  obtain ⟨s0, s1, s2, s3, s4, s5, s6, s7, s8, s9, s10⟩ := hs
  exact ⟨s0, s1, s2, s3, s4, s5, s6, s7, s8, s9, s10, fun j _ _ => by rw [hz 34 (by decide), hz 70 (by decide)], fun j _ _ => by rw [hz 35 (by decide), hz 71 (by decide)], fun j _ _ => by rw [hz 36 (by decide), hz 72 (by decide)], fun j _ _ => by rw [hz 37 (by decide), hz 73 (by decide)], fun j _ _ => by rw [hz 39 (by decide), hz 75 (by decide)], fun j _ _ => by rw [hz 40 (by decide), hz 76 (by decide)], fun j _ _ => by rw [hz 41 (by decide), hz 77 (by decide)], fun j _ _ => by rw [hz 2 (by decide), hz 95 (by decide)], fun j _ _ => by rw [hz 3 (by decide), hz 96 (by decide)], fun j _ _ => by rw [hz 4 (by decide), hz 97 (by decide)], fun j _ _ => by rw [hz 5 (by decide), hz 98 (by decide)], fun j _ _ => by rw [hz 7 (by decide), hz 100 (by decide)], fun j _ _ => by rw [hz 8 (by decide), hz 101 (by decide)], fun j _ _ => by rw [hz 9 (by decide), hz 102 (by decide)], fun j _ _ => by rw [hz 43 (by decide), hz 88 (by decide)], fun j _ _ => by rw [hz 46 (by decide), hz 91 (by decide)], fun j _ _ => by rw [hz 47 (by decide), hz 92 (by decide)], fun j _ _ => by rw [hz 49 (by decide), hz 93 (by decide)], fun j _ _ => by rw [hz 50 (by decide), hz 94 (by decide)], fun j _ _ => by rw [hz 11 (by decide), hz 103 (by decide)], fun j _ _ => by rw [hz 14 (by decide), hz 104 (by decide)], fun j _ _ => by rw [hz 15 (by decide), hz 107 (by decide)], fun j _ _ => by rw [hz 17 (by decide), hz 105 (by decide)], fun j _ _ => by rw [hz 18 (by decide), hz 106 (by decide)], rW_0 (hz 38 (by decide)) (hz 74 (by decide)), rW_0 (hz 6 (by decide)) (hz 99 (by decide))⟩
