/-! the towns that both sides have read -/
def TWN (σ : Nat → Int → Int) (t : Int) : Prop := ∃ L, (∃ f n, n ≤ 100 ∧ txF f n 10 0 = .inr L) ∧ twX σ t = tksF L ∧ σ 60 t = dwF 60 L ∧ (L.length : Int) = σ 79 t ∧ TJ σ t L
def R4 (σ : Nat → Int → Int) : Prop := LJ σ ∧ σ 19 1 = σ 69 12 ∧ (∀ j, σ 20 j = σ 78 j) ∧ σ 51 3 = σ 69 10 ∧ σ 33 13 = σ 69 11 ∧ σ 1 13 = σ 69 45 ∧ ∀ t, 0 ≤ t → t < σ 69 10 → TWN σ t
def kW (k : Nat) (j : Int) : Prop := k = 20 ∨ (53 ≤ k ∧ k ≤ 60) ∨ (k = 19 ∧ j = 1) ∨ (k = 51 ∧ j = 3) ∨ (k = 33 ∧ j = 13) ∨ (k = 1 ∧ j = 13) ∨ (78 ≤ k ∧ k ≤ 84) ∨ k = 86 ∨ (k = 69 ∧ (j = 10 ∨ j = 11 ∨ j = 12 ∨ j = 45))
theorem twX_cong {σ σ' : Nat → Int → Int} {t : Int} (e59 : σ' 59 t = σ 59 t) (e : ∀ j, σ' (53 + Int.toNat t) j = σ (53 + Int.toNat t) j) : twX σ' t = twX σ t := by
  unfold twX
  rw [e59]
  exact List.map_congr_left (fun k _ => e k)
theorem R4_cg {σ σ2 : Nat → Int → Int} (hJ : InvJ σ) (h : R4 σ) (e : ∀ k j, kW k j → σ2 k j = σ k j) : R4 σ2 := by
  obtain ⟨h1, h2, h3, h4, h5, h6, h7⟩ := h
  have b10 := jv69_10 hJ 10 (by omega) (by omega)
  have q : ∀ k j, (78 ≤ k ∧ k ≤ 84) → σ2 k j = σ k j := fun k j hk => e k j (by unfold kW; omega)
  refine ⟨fun j h0 h1' => (e 86 j (by unfold kW; omega)).trans (h1 j h0 h1'), ?_, fun j => ?_, ?_, ?_, ?_, fun t t0 t1 => ?_⟩
  · rw [e 19 1 (by unfold kW; omega), e 69 12 (by unfold kW; omega)]; exact h2
  · rw [e 20 j (by unfold kW; omega), e 78 j (by unfold kW; omega)]; exact h3 j
  · rw [e 51 3 (by unfold kW; omega), e 69 10 (by unfold kW; omega)]; exact h4
  · rw [e 33 13 (by unfold kW; omega), e 69 11 (by unfold kW; omega)]; exact h5
  · rw [e 1 13 (by unfold kW; omega), e 69 45 (by unfold kW; omega)]; exact h6
  · rw [e 69 10 (by unfold kW; omega)] at t1
    obtain ⟨L, l1, l2, l3, l4, l5⟩ := h7 t t0 t1
    refine ⟨L, l1, ?_, ?_, ?_, ?_⟩
    · rw [twX_cong (σ := σ) (e 59 t (by unfold kW; omega)) (fun j => e _ j (by unfold kW; omega))]; exact l2
    · rw [e 60 t (by unfold kW; omega)]; exact l3
    · rw [q 79 t (by omega)]; exact l4
    · exact TJ_cong l5 (fun j => q 80 j (by omega)) (fun j => q 81 j (by omega)) (fun j => q 82 j (by omega)) (fun j => q 83 j (by omega)) (fun j => q 84 j (by omega))
theorem xNW_f {k : Nat} {j : Int} (h : kW k j) : xNW k j = false := by
  unfold kW at h
  unfold xNW
  simp only [Bool.and_eq_false_iff, Bool.not_eq_false', decide_eq_false_iff_not, Bool.or_eq_true, Bool.and_eq_true, beq_iff_eq]
  omega
theorem jNW_f {k : Nat} {j : Int} (h : kW k j) : jNW k j = false := by
  unfold kW at h
  unfold jNW
  simp only [Bool.and_eq_false_iff, Bool.not_eq_false', decide_eq_false_iff_not, Bool.or_eq_true, Bool.and_eq_true, beq_iff_eq]
  omega
theorem R4_q {σ σ1 σ2 : Nat → Int → Int} (hJ : InvJ σ) (h : R4 σ) (ha : Fr xNW σ σ1) (hb : Fr jNW σ1 σ2) : R4 σ2 := R4_cg hJ h (fun k j hk => (hb k j (jNW_f hk)).trans (ha k j (xNW_f hk)))
theorem R4_0 {σ : Nat → Int → Int} (h1 : LJ σ) (h2 : σ 19 1 = σ 69 12) (h3 : ∀ j, σ 20 j = σ 78 j) (h4 : σ 51 3 = σ 69 10) (h5 : σ 33 13 = σ 69 11) (h6 : σ 1 13 = σ 69 45) (h7 : σ 69 10 = 0) : R4 σ := ⟨h1, h2, h3, h4, h5, h6, fun t a b => by omega⟩
theorem LJ_0 {σ : Nat → Int → Int} (e : σ 86 0 = 99 ∧ σ 86 1 = 111 ∧ σ 86 2 = 117 ∧ σ 86 3 = 110 ∧ σ 86 4 = 116 ∧ σ 86 5 = 119 ∧ σ 86 6 = 97 ∧ σ 86 7 = 108 ∧ σ 86 8 = 107 ∧ σ 86 9 = 100 ∧ σ 86 10 = 97 ∧ σ 86 11 = 119 ∧ σ 86 12 = 110) : LJ σ := by
  intro j h0 h1
  obtain ⟨e0, e1, e2, e3, e4, e5, e6, e7, e8, e9, e10, e11, e12⟩ := e
  have hj : j = 0 ∨ j = 1 ∨ j = 2 ∨ j = 3 ∨ j = 4 ∨ j = 5 ∨ j = 6 ∨ j = 7 ∨ j = 8 ∨ j = 9 ∨ j = 10 ∨ j = 11 ∨ j = 12 := by omega
  rcases hj with rfl | rfl | rfl | rfl | rfl | rfl | rfl | rfl | rfl | rfl | rfl | rfl | rfl <;> assumption
theorem st_feed {σ σ1 σ2 : Nat → Int → Int} {s r r' : Int} (h : R4 σ) (hJ : InvJ σ) (hF : Fr scFd σ σ1) (hG : Fr jcFd σ1 σ2) (hx : feedX σ s r σ1) (hj : feedJ σ1 s r' σ2) : r = r' ∧ R4 σ2 := by
  have h' := h
  obtain ⟨h1, h2, h3, h4, h5, h6, h7⟩ := h'
  have e12 : σ1 69 12 = σ 69 12 := hF 69 12 rfl
  unfold feedJ at hj
  rw [e12] at hj
  rcases hx with ⟨a, b, c⟩ | ⟨a, a', b, c⟩ | ⟨a, a', b, c⟩
  · subst c
    rcases hj with ⟨x, y, z⟩ | ⟨x, y, z⟩ | ⟨x, y, z⟩
    · subst z; exact ⟨by omega, h⟩
    · omega
    · omega
  · subst c
    rcases hj with ⟨x, y, z⟩ | ⟨x, y, z⟩ | ⟨x, y, z⟩
    · omega
    · subst z; exact ⟨by omega, h⟩
    · omega
  · rcases hj with ⟨x, y, z⟩ | ⟨x, y, z⟩ | ⟨x, y, z⟩
    · omega
    · omega
    · refine ⟨by omega, ?_⟩
      have k1 : ∀ k j, ¬ (k = 20 ∨ (k = 19 ∧ j = 1) ∨ k = 78 ∨ (k = 69 ∧ j = 12)) → σ2 k j = σ k j := fun k j hk => by
        rw [z, c]; simp only [up]
        rw [if_neg (by omega), if_neg (by omega), if_neg (by omega), if_neg (by omega)]
      refine ⟨fun j a b => (k1 86 j (by omega)).trans (h1 j a b), ?_, fun j => ?_, ?_, ?_, ?_, fun t t0 t1 => ?_⟩
      · rw [z, c]; simp [up, h2]
      · rw [z, c]; simp [up, h2, h3 j]
      · rw [k1 51 3 (by omega), k1 69 10 (by omega)]; exact h4
      · rw [k1 33 13 (by omega), k1 69 11 (by omega)]; exact h5
      · rw [k1 1 13 (by omega), k1 69 45 (by omega)]; exact h6
      · rw [k1 69 10 (by omega)] at t1
        obtain ⟨L, l1, l2, l3, l4, l5⟩ := h7 t t0 t1
        refine ⟨L, l1, ?_, ?_, ?_, ?_⟩
        · rw [twX_cong (σ := σ) (k1 59 t (by omega)) (fun j => k1 _ j (by have := jv69_10 hJ 10 (by omega) (by omega); omega))]; exact l2
        · rw [k1 60 t (by omega)]; exact l3
        · rw [k1 79 t (by omega)]; exact l4
        · exact TJ_cong l5 (fun j => k1 80 j (by omega)) (fun j => k1 81 j (by omega)) (fun j => k1 82 j (by omega)) (fun j => k1 83 j (by omega)) (fun j => k1 84 j (by omega))
/-- a town that was read before stays as it was -/
theorem TWN_old {σ σ1 σ2 : Nat → Int → Int} {t f : Int} (hJ : InvJ σ) (hS : JS σ) (ht : 0 ≤ t ∧ t < f) (hf : f = σ 69 10) (h : TWN σ t) (e59 : σ2 59 t = σ 59 t) (e60 : σ2 60 t = σ 60 t) (ek : ∀ j, σ2 (53 + Int.toNat t) j = σ (53 + Int.toNat t) j) (hF : ∀ k j, 69 ≤ k → σ1 k j = σ k j) (hb : KB σ1 σ2 f) (hq : ∀ j, j < 10 * f → σ2 81 j = σ1 81 j) : TWN σ2 t := by
  obtain ⟨L, l1, l2, l3, l4, l5⟩ := h
  have b79 := jv79_0 hJ t (by omega) (by have := jv69_10 hJ 10 (by omega) (by omega); omega)
  refine ⟨L, l1, by rw [twX_cong e59 ek]; exact l2, by rw [e60]; exact l3, ?_, ?_⟩
  · rw [hb.2.2 t (by omega), hF 79 t (by decide)]; exact l4
  · intro i w v l hi
    have hl := (List.getElem?_eq_some_iff.mp hi).1
    obtain ⟨a, b, c⟩ := l5 i w v l hi
    have hlt : 10 * t + (i : Int) < 10 * f := by omega
    obtain ⟨q1, q2, q3⟩ := hb.1 _ hlt
    rw [q1, q2, q3, hq _ hlt, hF 80 _ (by decide), hF 81 _ (by decide), hF 82 _ (by decide), hF 83 _ (by decide)]
    refine ⟨a, b, ?_⟩
    rcases c with c | c
    · exact Or.inl c
    · by_cases hw : w = 2
      · exact Or.inl hw
      · have wf := hS.2 t (by omega) (by omega) (10 * t + (i : Int)) (by omega) (by omega) (by rw [a]; exact hw)
        refine Or.inr ?_
        rw [c]
        refine (sgL_cong (fun j j0 j1 => ?_)).symm
        have := wf.2.1
        rw [hb.2.1 j (by omega)]
        exact hF 84 j (by decide)
theorem scTw_f {k : Nat} {j : Int} (h : 69 ≤ k) : scTw k j = false := by
  unfold scTw
  simp only [Bool.or_eq_false_iff, Bool.and_eq_false_iff, beq_eq_false_iff_ne, ne_eq]
  omega
theorem jcTw_f {k : Nat} {j : Int} (h : k < 69) : jcTw k j = false := by
  unfold jcTw
  simp only [Bool.or_eq_false_iff, Bool.and_eq_false_iff, beq_eq_false_iff_ne, ne_eq]
  omega
theorem st_town {σ σ1 σ2 : Nat → Int → Int} {r r' : Int} (h : R4 σ) (hJ : InvJ σ) (hS : JS σ) (hF : Fr scTw σ σ1) (hG : Fr jcTw σ1 σ2) (hx : townX σ r σ1) (hj : townJ σ1 r' σ2) : r = r' ∧ R4 σ2 := by
  have h' := h
  obtain ⟨h1, h2, h3, h4, h5, h6, h7⟩ := h'
  have b10 := jv69_10 hJ 10 (by omega) (by omega)
  have b12 := jv69_12 hJ 12 (by omega) (by omega)
  have fx : ∀ k j, 69 ≤ k → σ1 k j = σ k j := fun k j hk => hF k j (scTw_f hk)
  have gx : ∀ k j, k < 69 → σ2 k j = σ1 k j := fun k j hk => hG k j (jcTw_f hk)
  have e78 : σ1 78 = σ 20 := funext fun j => (fx 78 j (by decide)).trans (h3 j).symm
  have LJ2 : LJ σ2 := fun j a b => (hG 86 j rfl).trans ((fx 86 j (by decide)).trans (h1 j a b))
  have T2 : ∀ j, σ2 20 j = σ2 78 j := fun j => by
    rw [gx 20 j (by decide), hF 20 j rfl, hG 78 j rfl, fx 78 j (by decide)]; exact h3 j
  have I2 : σ2 1 13 = σ2 69 45 := by
    rw [gx 1 13 (by decide), hF 1 13 rfl, hG 69 45 rfl, fx 69 45 (by decide)]; exact h6
  unfold townJ at hj
  rw [fx 69 10 (by decide), fx 69 11 (by decide), fx 69 12 (by decide), e78, ← h4, ← h2] at hj
  rcases hx with ⟨a, b, c⟩ | ⟨a, a19, ak, hx⟩
  · rcases hj with ⟨x, y, z⟩ | ⟨x, -⟩
    · subst c; subst z; exact ⟨by omega, h⟩
    · omega
  · rcases hj with ⟨x, -⟩ | ⟨x, x12, xb, xq, hj⟩
    · omega
    · have old : ∀ t, 0 ≤ t → t < σ 51 3 → σ1 59 t = σ 59 t → σ1 60 t = σ 60 t → TWN σ2 t := fun t t0 t1 e59 e60 =>
        TWN_old (σ1 := σ1) hJ hS ⟨t0, t1⟩ h4 (h7 t t0 (by omega)) ((gx 59 t (by decide)).trans e59) ((gx 60 t (by decide)).trans e60) (fun j => (gx _ j (by omega)).trans (ak _ j (by omega) (by omega) (by omega))) fx xb xq
      rcases hx with ⟨p, p0, c1, c2, c3, c4, c5, c6⟩ | ⟨L, c1, c2, c3, c4, c5, c6, c7, c8⟩
      · rw [c1] at hj
        rcases hj with ⟨p', d1, d2, d3, d4⟩ | ⟨L', d1, -⟩
        · simp only [Sum.inl.injEq] at d1
          refine ⟨by omega, LJ2, ?_, T2, ?_, ?_, I2, fun t t0 t1 => ?_⟩
          · rw [gx 19 1 (by decide), a19, x12]
          · rw [gx 51 3 (by decide), c3, d3]
          · rw [gx 33 13 (by decide), c4, d4]; exact h5
          · exact old t t0 (by omega) (c5 t) (c6 t)
        · simp at d1
      · rw [c1] at hj
        rcases hj with ⟨p', d1, -⟩ | ⟨L', d1, d2, d3, d4, d5, d6⟩
        · simp at d1
        · simp only [Sum.inr.injEq] at d1
          subst d1
          refine ⟨by omega, LJ2, ?_, T2, ?_, ?_, I2, fun t t0 t1 => ?_⟩
          · rw [gx 19 1 (by decide), a19, x12]
          · rw [gx 51 3 (by decide), c3, d3]
          · rw [gx 33 13 (by decide), c4, d4]
          · by_cases e : t = σ 51 3
            · subst e
              refine ⟨L, ⟨_, _, by omega, c1⟩, ?_, by rw [gx 60 _ (by decide)]; exact c6, d5, d6⟩
              rw [twX_cong (σ := σ1) (gx 59 _ (by decide)) (fun j => gx _ j (by omega))]; exact c5
            · exact old t t0 (by omega) (c7 t e) (c8 t e)
theorem st_imgW {σ σ1 σ2 : Nat → Int → Int} (h : R4 σ) (hJ : InvJ σ) (hF : Fr scCk σ σ1) (hG : Fr jcI σ1 σ2) (hx : cpP 1 33 σ σ1) (hj : imgCp σ1 σ2) : R4 σ2 := by
  have k1 : ∀ k j, kW k j → ¬ (k = 1 ∧ j = 13) → ¬ (k = 69 ∧ j = 45) → σ2 k j = σ k j := fun k j hk n1 n2 => by
    refine (hG k j ?_).trans (hF k j ?_)
    · unfold kW at hk; unfold jcI
      simp only [Bool.or_eq_false_iff, Bool.and_eq_false_iff, beq_eq_false_iff_ne, ne_eq]
      omega
    · unfold kW at hk; unfold scCk
      simp only [Bool.or_eq_false_iff, Bool.and_eq_false_iff, beq_eq_false_iff_ne, ne_eq]
      omega
  have e1 : σ2 1 13 = σ 33 13 := (hG 1 13 rfl).trans hx.2.2.1
  have e2 : σ2 69 45 = σ 69 11 := hj.1.trans (hF 69 11 rfl)
  have h' := h
  obtain ⟨h1, h2, h3, h4, h5, h6, h7⟩ := h'
  have hb := R4_cg (σ2 := fun k j => if (k = 1 ∧ j = 13) ∨ (k = 69 ∧ j = 45) then σ k j else σ2 k j) hJ h (fun k j hk => by
    show (if _ then _ else _) = _
    split
    · rfl
    · exact k1 k j hk (by omega) (by omega))
  obtain ⟨g1, g2, g3, g4, g5, g6, g7⟩ := hb
  refine ⟨fun j a b => by simpa using g1 j a b, by simpa using g2, fun j => by simpa using g3 j, by simpa using g4, by simpa using g5, by rw [e1, e2]; exact h5, fun t t0 t1 => ?_⟩
  obtain ⟨L, l1, l2, l3, l4, l5⟩ := g7 t t0 (by simpa using t1)
  have hb10 := jv69_10 hJ 10 (by omega) (by omega)
  have ht : t < 6 := by
    have : σ2 69 10 = σ 69 10 := k1 69 10 (by unfold kW; omega) (by omega) (by omega)
    omega
  refine ⟨L, l1, ?_, by simpa using l3, by simpa using l4, ?_⟩
  · rw [← l2]; exact (twX_cong (by simp) (fun j => by show _ = (if _ then _ else _); rw [if_neg (by omega)]))
  · exact TJ_cong l5 (fun j => by simp) (fun j => by simp) (fun j => by simp) (fun j => by simp) (fun j => by simp)
theorem st_undW {σ σ1 σ2 : Nat → Int → Int} {r r' : Int} (h : R4 σ) (hR : R1 σ) (hJ : InvJ σ) (hF : Fr scCn σ σ1) (hG : Fr jcU σ1 σ2) (hx : (σ 0 2 = 0 ∧ r = -3 ∧ σ1 = σ) ∨ (σ 0 2 ≠ 0 ∧ r = σ 1 0 ∧ cpP 33 1 σ σ1)) (hj : (σ1 69 44 = 0 ∧ r' = -3 ∧ σ2 = σ1) ∨ (σ1 69 44 ≠ 0 ∧ r' = σ2 69 0 ∧ undoCp σ1 σ2)) : R4 σ2 := by
  have e44 : σ 0 2 = σ 69 44 := hR.2.2.2.2.1
  rw [hF 69 44 rfl] at hj
  rcases hx with ⟨a, b, c⟩ | ⟨a, b, c⟩
  · rcases hj with ⟨x, y, z⟩ | ⟨x, y, z⟩
    · subst c; subst z; exact h
    · omega
  · rcases hj with ⟨x, y, z⟩ | ⟨x, y, z⟩
    · omega
    · have k1 : ∀ k j, kW k j → ¬ (k = 33 ∧ j = 13) → ¬ (k = 69 ∧ j = 11) → σ2 k j = σ k j := fun k j hk n1 n2 => by
        refine (hG k j ?_).trans (hF k j ?_)
        · unfold kW at hk; unfold jcU
          simp only [Bool.or_eq_false_iff, Bool.and_eq_false_iff, beq_eq_false_iff_ne, ne_eq]
          omega
        · unfold kW at hk; unfold scCn
          simp only [Bool.or_eq_false_iff, Bool.and_eq_false_iff, beq_eq_false_iff_ne, ne_eq]
          omega
      have e1 : σ2 33 13 = σ 1 13 := (hG 33 13 rfl).trans c.2.2.1
      have e2 : σ2 69 11 = σ 69 45 := z.1.trans (hF 69 45 rfl)
      have h' := h
      obtain ⟨h1, h2, h3, h4, h5, h6, h7⟩ := h'
      have hb := R4_cg (σ2 := fun k j => if (k = 33 ∧ j = 13) ∨ (k = 69 ∧ j = 11) then σ k j else σ2 k j) hJ h (fun k j hk => by
        show (if _ then _ else _) = _
        split
        · rfl
        · exact k1 k j hk (by omega) (by omega))
      obtain ⟨g1, g2, g3, g4, g5, g6, g7⟩ := hb
      refine ⟨fun j a b => by simpa using g1 j a b, by simpa using g2, fun j => by simpa using g3 j, by simpa using g4, by rw [e1, e2]; exact h6, by simpa using g6, fun t t0 t1 => ?_⟩
      obtain ⟨L, l1, l2, l3, l4, l5⟩ := g7 t t0 (by simpa using t1)
      have hb10 := jv69_10 hJ 10 (by omega) (by omega)
      have ht : t < 6 := by
        have : σ2 69 10 = σ 69 10 := k1 69 10 (by unfold kW; omega) (by omega) (by omega)
        omega
      refine ⟨L, l1, ?_, by simpa using l3, by simpa using l4, ?_⟩
      · rw [← l2]; exact (twX_cong (by simp) (fun j => by show _ = (if _ then _ else _); rw [if_neg (by omega)]))
      · exact TJ_cong l5 (fun j => by simp) (fun j => by simp) (fun j => by simp) (fun j => by simp) (fun j => by simp)
theorem dwI_take {σ : Nat → Int → Int} {f : Int} {L : List (Int × Int × List Int)} (h : TJ σ f L) : ∀ n : Nat, n ≤ L.length → dwI (σ 80) (σ 81) (10 * f) n = dwF 60 (L.take n)
  | 0, _ => rfl
  | n + 1, hn => by
    have hg : L[n]? = some L[n] := List.getElem?_eq_getElem (by omega)
    obtain ⟨a, b, -⟩ := h n L[n].1 L[n].2.1 L[n].2.2 hg
    show (if σ 80 (10 * f + (n : Int)) = 2 then σ 81 (10 * f + (n : Int)) else dwI (σ 80) (σ 81) (10 * f) n) = _
    rw [a, b, dwI_take h n (by omega), List.take_succ_eq_append_getElem (by omega)]
    exact (dw_snoc (w := L[n].1) (v := L[n].2.1) (l := L[n].2.2) (L.take n) 60).symm
theorem dw_all {σ : Nat → Int → Int} (h : R4 σ) (hJ : InvJ σ) (hS : JS σ) : dwJ σ = if 0 ≤ σ 33 13 ∧ σ 33 13 ≤ σ 51 3 - 1 then σ 60 (σ 33 13) else 60 := by
  obtain ⟨h1, h2, h3, h4, h5, h6, h7⟩ := h
  have ht := JS_t hS
  unfold dwJ dwK
  by_cases e : σ 69 11 < 0
  · rw [if_pos e, if_neg (by omega)]
  · rw [if_neg e, if_pos (by omega), h5]
    obtain ⟨L, l1, l2, l3, l4, l5⟩ := h7 (σ 69 11) (by omega) ht
    rw [show (10 * σ 69 11 + σ 79 (σ 69 11) - 10 * σ 69 11).toNat = L.length by omega, dwI_take l5 _ (Nat.le_refl _), List.take_length, l3]
theorem st_dawn {σ σ1 : Nat → Int → Int} {r r' : Int} (h : R4 σ) (hJ : InvJ σ) (hS : JS σ) (hF : Fr scX σ σ1) (hx : (0 ≤ σ 33 13 ∧ σ 33 13 ≤ σ 51 3 - 1 ∧ r = σ 60 (σ 33 13)) ∨ (¬ (0 ≤ σ 33 13 ∧ σ 33 13 ≤ σ 51 3 - 1) ∧ r = 60)) (hj : r' = dwJ σ1) : r = r' := by
  have e : dwJ σ1 = dwJ σ := by
    unfold dwJ dwK
    rw [hF 69 11 rfl, hF 79 _ rfl, show σ1 80 = σ 80 from funext fun j => hF 80 j rfl, show σ1 81 = σ 81 from funext fun j => hF 81 j rfl]
  rw [hj, e, dw_all h hJ hS]
  rcases hx with ⟨a, b, c⟩ | ⟨a, b⟩
  · rw [if_pos ⟨a, b⟩, c]
  · rw [if_neg a, b]
theorem st_count {σ σ1 : Nat → Int → Int} {w r r' : Int} (hR : R1 σ) (hA : R3 σ) (h : R4 σ) (hF : Fr scX σ σ1) (hx : (w = 0 ∧ r = σ 33 0) ∨ (w = 1 ∧ r = σ 33 6) ∨ (w = 2 ∧ r = σ 51 3) ∨ (w = 3 ∧ r = σ 42 2) ∨ (w = 4 ∧ r = σ 45 2) ∨ (w = 5 ∧ r = σ 48 2) ∨ (w = 6 ∧ r = σ 19 1) ∨ (w = 7 ∧ r = σ 21 1) ∨ ((w < 0 ∨ 7 < w) ∧ r = -2)) (hj : (w = 0 ∧ r' = σ1 69 0) ∨ (w = 1 ∧ r' = σ1 69 1) ∨ (w = 2 ∧ r' = σ1 69 10) ∨ (w = 3 ∧ r' = σ1 69 34) ∨ (w = 4 ∧ r' = σ1 69 38) ∨ (w = 5 ∧ r' = σ1 69 41) ∨ (w = 6 ∧ r' = σ1 69 12) ∨ (w = 7 ∧ r' = σ1 69 64) ∨ ((w < 0 ∨ 7 < w) ∧ r' = -2)) : r = r' := by
  rw [hF 69 0 rfl, hF 69 1 rfl, hF 69 10 rfl, hF 69 34 rfl, hF 69 38 rfl, hF 69 41 rfl, hF 69 12 rfl, hF 69 64 rfl] at hj
  obtain ⟨r0, r1, -, -, -, r5, r6, r7, -⟩ := hR
  have a1 := hA.1
  have h2 := h.2.1
  have h4 := h.2.2.2.1
  omega
