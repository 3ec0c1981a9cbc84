/-! the class reads a text: its places, faults and tokens against PR -/
theorem up_self {σ : Nat → Int → Int} {k : Nat} {j x : Int} (h : x = σ k j) : up σ k j x = σ := by
  funext a b
  unfold up
  split
  · rename_i e; rw [e.1, e.2, h]
  · rfl
theorem up_up {σ : Nat → Int → Int} {k : Nat} {j x y : Int} : up (up σ k j x) k j y = up σ k j y := by
  funext a b
  unfold up
  split <;> rfl
def tkP (σ : Nat → Int → Int) (s r : Int) (σ' : Nat → Int → Int) : Prop := (r = 1 ∧ (σ 19 3 = -1 ∧ σ 19 2 < σ 19 1 ∧ σ 20 (σ 19 2) = s) ∧ σ' = up σ 19 2 (σ 19 2 + 1)) ∨ (r = 0 ∧ ¬ (σ 19 3 = -1 ∧ σ 19 2 < σ 19 1 ∧ σ 20 (σ 19 2) = s) ∧ σ' = σ)
def chP (i : Nat) (σ : Nat → Int → Int) (r : Int) (σ' : Nat → Int → Int) : Prop := (σ 19 3 ≠ -1 ∧ r = 0 ∧ σ' = σ) ∨ (σ 19 3 = -1 ∧ σ 19 2 < σ 19 1 ∧ 0 ≤ r ∧ ixP i (σ 20 (σ 19 2)) 0 ((lenJS.getD i 0 : Nat) : Int) r ∧ σ' = up σ 19 2 (σ 19 2 + 1)) ∨ (σ 19 3 = -1 ∧ (σ 19 1 ≤ σ 19 2 ∨ ixP i (σ 20 (σ 19 2)) 0 ((lenJS.getD i 0 : Nat) : Int) (-1)) ∧ r = 0 ∧ σ' = up σ 19 3 (σ 19 2))
def litF (i : Nat) : List Int := (bytJS.getD i []).map (fun x => x.toInt)
theorem lit_drop {i : Nat} {q : Int} (hi : i < 8) (hq : 0 ≤ q ∧ q < ((lenJS.getD i 0 : Nat) : Int)) : (litF i).drop q.toNat = chK i q :: (litF i).drop (q + 1).toNat := by
  have key : ∀ (a : Fin 8) (b : Fin 11), b.1 < lenJS.getD a.1 0 → (litF a.1).drop b.1 = ((bytJS.getD a.1 []).getD b.1 0).toInt :: (litF a.1).drop (b.1 + 1) := by decide +kernel
  have hL := lenJ (i := i)
  have hb : q.toNat < lenJS.getD i 0 := by omega
  have := key ⟨i, hi⟩ ⟨q.toNat, by omega⟩ hb
  rw [show (q + 1).toNat = q.toNat + 1 by omega]
  exact this
theorem lit_end {i : Nat} {q : Int} (hi : i < 8) (hq : ((lenJS.getD i 0 : Nat) : Int) ≤ q) : (litF i).drop q.toNat = [] := by
  have key : ∀ (a : Fin 8), (litF a.1).length = lenJS.getD a.1 0 := by decide +kernel
  have := key ⟨i, hi⟩
  exact List.drop_eq_nil_of_le (by show (litF i).length ≤ _; simp only at this; omega)
theorem wd_cons {f : Int → Int} {n c p : Int} {cs : List Int} : wdF f n (c :: cs) p = if p < n ∧ f p = c then wdF f n cs (p + 1) else .inl p := rfl
def TF (F : PR) (σ σ' : Nat → Int → Int) : Prop := (σ 19 3 ≠ -1 ∧ σ' = σ) ∨ (σ 19 3 = -1 ∧ ((∃ q l, F = .inr (q, l) ∧ σ' = up σ 19 2 q) ∨ (∃ q, 0 ≤ q ∧ F = .inl q ∧ σ' = up (up σ 19 2 q) 19 3 q)))
def WI (i : Nat) (σ τ : Nat → Int → Int) (q : Int) : Prop := (σ 19 3 ≠ -1 ∧ τ = σ) ∨ (σ 19 3 = -1 ∧ ((τ = up σ 19 2 (σ 19 2 + q) ∧ wdF (σ 20) (σ 19 1) (litF i) (σ 19 2) = wdF (σ 20) (σ 19 1) ((litF i).drop q.toNat) (σ 19 2 + q)) ∨ (∃ p, 0 ≤ p ∧ wdF (σ 20) (σ 19 1) (litF i) (σ 19 2) = .inl p ∧ τ = up (up σ 19 2 p) 19 3 p)))
theorem WI_0 {i : Nat} {σ : Nat → Int → Int} : WI i σ σ 0 := by
  by_cases h : σ 19 3 = -1
  · exact Or.inr ⟨h, Or.inl ⟨(up_self (by omega)).symm, by rw [Int.add_zero]; rfl⟩⟩
  · exact Or.inl ⟨h, rfl⟩
theorem WI_s {i : Nat} {σ τ τ' : Nat → Int → Int} {q r : Int} (hi : i < 8) (h0 : 0 ≤ σ 19 2) (hq : 0 ≤ q ∧ q < ((lenJS.getD i 0 : Nat) : Int)) (h : WI i σ τ q) (ht : tkP τ (chK i q) r τ') : (r ≠ 0 → WI i σ τ' (q + 1)) ∧ (r = 0 → τ' 19 3 ≠ -1 → WI i σ τ' (q + 1)) ∧ (r = 0 → τ' 19 3 = -1 → WI i σ (up τ' 19 3 (τ' 19 2)) (q + 1)) := by
  have ed := lit_drop hi hq
  rcases h with ⟨a, rfl⟩ | ⟨a, ⟨b, c⟩ | ⟨p, b, c, d⟩⟩
  · rcases ht with ⟨t1, t2, t3⟩ | ⟨t1, t2, t3⟩
    · exact absurd t2.1 a
    · subst t3
      exact ⟨fun h => absurd t1 h, fun _ _ => Or.inl ⟨a, rfl⟩, fun _ h => absurd h a⟩
  · have e3 : τ 19 3 = -1 := by rw [b]; exact (up_slot (by decide)).trans a
    have e2 : τ 19 2 = σ 19 2 + q := by rw [b]; exact up_same
    have e1 : τ 19 1 = σ 19 1 := by rw [b]; exact up_slot (by decide)
    have e20 : τ 20 = σ 20 := by rw [b]; funext j; exact up_cell (by decide)
    unfold tkP at ht
    rw [e3, e2, e1, e20] at ht
    rw [ed, wd_cons] at c
    rcases ht with ⟨t1, t2, t3⟩ | ⟨t1, t2, t3⟩
    · refine ⟨fun _ => Or.inr ⟨a, Or.inl ⟨?_, ?_⟩⟩, fun h => by omega, fun h => by omega⟩
      · rw [t3, b, up_up, Int.add_assoc]
      · rw [if_pos ⟨t2.2.1, t2.2.2⟩, Int.add_assoc] at c
        exact c
    · subst t3
      have hn : ¬ (σ 19 2 + q < σ 19 1 ∧ σ 20 (σ 19 2 + q) = chK i q) := fun hc => t2 ⟨rfl, hc.1, hc.2⟩
      rw [if_neg hn] at c
      refine ⟨fun h => absurd t1 h, fun _ h => absurd e3 h, fun _ _ => Or.inr ⟨a, Or.inr ⟨σ 19 2 + q, by omega, c, ?_⟩⟩⟩
      rw [e2, b]
  · have e3 : τ 19 3 = p := by rw [d]; exact up_same
    rcases ht with ⟨t1, t2, t3⟩ | ⟨t1, t2, t3⟩
    · omega
    · subst t3
      exact ⟨fun h => absurd t1 h, fun _ _ => Or.inr ⟨a, Or.inr ⟨p, b, c, d⟩⟩, fun _ h => by omega⟩
theorem WI_e {i : Nat} {σ τ : Nat → Int → Int} {q : Int} (hi : i < 8) (hq : ((lenJS.getD i 0 : Nat) : Int) ≤ q) (h : WI i σ τ q) : TF (wdF (σ 20) (σ 19 1) (litF i) (σ 19 2)) σ τ := by
  rcases h with ⟨a, b⟩ | ⟨a, ⟨b, c⟩ | ⟨p, b, c, d⟩⟩
  · exact Or.inl ⟨a, b⟩
  · rw [lit_end hi hq] at c
    exact Or.inr ⟨a, Or.inl ⟨_, _, c, b⟩⟩
  · exact Or.inr ⟨a, Or.inr ⟨p, b, c, d⟩⟩
def NbP (σ : Nat → Int → Int) (r : Int) (σ' : Nat → Int → Int) : Prop := (σ 19 3 ≠ -1 ∧ σ' = σ) ∨ (σ 19 3 = -1 ∧ digB (σ 20) (σ 19 1) (σ 19 2) ∧ r = numV (σ 20) (σ 19 1) (σ 19 2) ∧ σ' = up σ 19 2 (numE (σ 20) (σ 19 1) (σ 19 2))) ∨ (σ 19 3 = -1 ∧ ¬ digB (σ 20) (σ 19 1) (σ 19 2) ∧ σ' = up σ 19 3 (σ 19 2))
theorem ch_dig {σ σ' : Nat → Int → Int} {r : Int} (h0 : 0 ≤ σ 19 2) (h : chP 3 σ r σ') : (σ 19 3 ≠ -1 ∧ r = 0 ∧ σ' = σ) ∨ (σ 19 3 = -1 ∧ digB (σ 20) (σ 19 1) (σ 19 2) ∧ r = σ 20 (σ 19 2) - 48 ∧ σ' = up σ 19 2 (σ 19 2 + 1)) ∨ (σ 19 3 = -1 ∧ ¬ digB (σ 20) (σ 19 1) (σ 19 2) ∧ r = 0 ∧ σ' = up σ 19 3 (σ 19 2)) := by
  rcases h with h | ⟨a, b, c, d, e⟩ | ⟨a, b, c, d⟩
  · exact Or.inl h
  · have := ix_3 d
    exact Or.inr (Or.inl ⟨a, by unfold digB; omega, by omega, e⟩)
  · refine Or.inr (Or.inr ⟨a, ?_, c, d⟩)
    unfold digB
    rcases b with b | b
    · omega
    · have := ix_3 b; omega
theorem Nb_1 {σ τ : Nat → Int → Int} {r : Int} (h0 : 0 ≤ σ 19 2) (h : chP 3 σ r τ) (hn : ¬ digB (τ 20) (τ 19 1) (τ 19 2)) : NbP σ r τ := by
  rcases ch_dig h0 h with ⟨a, b, c⟩ | ⟨a, b, c, d⟩ | ⟨a, b, c, d⟩
  · exact Or.inl ⟨a, c⟩
  · have e1 : τ 19 1 = σ 19 1 := by rw [d]; exact up_slot (by decide)
    have e2 : τ 19 2 = σ 19 2 + 1 := by rw [d]; exact up_same
    have e20 : τ 20 = σ 20 := by rw [d]; funext j; exact up_cell (by decide)
    rw [e1, e2, e20] at hn
    refine Or.inr (Or.inl ⟨a, b, ?_, ?_⟩)
    · unfold numV; rw [if_neg hn]; exact c
    · unfold numE; rw [if_neg hn]; exact d
  · exact Or.inr (Or.inr ⟨a, b, d⟩)
theorem Nb_2 {σ τ τ' : Nat → Int → Int} {r r' : Int} (h0 : 0 ≤ σ 19 2) (h0' : 0 ≤ τ 19 2) (h : chP 3 σ r τ) (hn : digB (τ 20) (τ 19 1) (τ 19 2)) (h' : chP 3 τ r' τ') : NbP σ (r * 10 + r') τ' := by
  rcases ch_dig h0 h with ⟨a, b, c⟩ | ⟨a, b, c, d⟩ | ⟨a, b, c, d⟩
  · subst c
    rcases ch_dig h0' h' with ⟨a', b', c'⟩ | ⟨a', b', c', d'⟩ | ⟨a', b', c', d'⟩
    · exact Or.inl ⟨a, c'⟩
    · exact absurd a' a
    · exact absurd a' a
  · have e1 : τ 19 1 = σ 19 1 := by rw [d]; exact up_slot (by decide)
    have e2 : τ 19 2 = σ 19 2 + 1 := by rw [d]; exact up_same
    have e3 : τ 19 3 = -1 := by rw [d]; exact (up_slot (by decide)).trans a
    have e20 : τ 20 = σ 20 := by rw [d]; funext j; exact up_cell (by decide)
    rcases ch_dig h0' h' with ⟨a', b', c'⟩ | ⟨a', b', c', d'⟩ | ⟨a', b', c', d'⟩
    · exact absurd e3 a'
    · rw [e1, e2, e20] at b'
      rw [e2, e20] at c'
      refine Or.inr (Or.inl ⟨a, b, ?_, ?_⟩)
      · unfold numV; rw [if_pos b', c, c']
      · unfold numE; rw [if_pos b', d', e2, d, up_up, show σ 19 2 + 1 + 1 = σ 19 2 + 2 by omega]
    · exact absurd hn b'
  · have e1 : τ 19 1 = σ 19 1 := by rw [d]; exact up_slot (by decide)
    have e2 : τ 19 2 = σ 19 2 := by rw [d]; exact up_slot (by decide)
    have e20 : τ 20 = σ 20 := by rw [d]; funext j; exact up_cell (by decide)
    rw [e1, e2, e20] at hn
    exact absurd hn b
theorem kc_test {a b c : Int} (ha : 0 ≤ a ∧ a ≤ 5) (hb : 0 ≤ b ∧ b ≤ 2) (hc : 0 ≤ c ∧ c ≤ 99) : kcF (1000 * a + 100 * b + c) = (a * 3 + b) * 100 + c := by
  unfold kcF
  rw [if_neg (by omega), if_neg (by omega), if_neg (by omega)]
  have e1 : Int.tdiv (1000 * a + 100 * b + c) 1000 = a := by rw [Int.tdiv_eq_ediv_of_nonneg (by omega)]; omega
  have e2 : Int.tdiv (1000 * a + 100 * b + c) 100 = 10 * a + b := by rw [Int.tdiv_eq_ediv_of_nonneg (by omega)]; omega
  have e3 : Int.tmod (10 * a + b) 10 = b := by rw [Int.tmod_eq_emod_of_nonneg (by omega)]; omega
  have e4 : Int.tmod (1000 * a + 100 * b + c) 100 = c := by rw [Int.tmod_eq_emod_of_nonneg (by omega)]; omega
  rw [e1, e2, e3, e4]
/-! tokens -/
def tkL (m : Int) (σ : Nat → Int → Int) : List Int := (List.range (σ 19 5).toNat).map (fun k : Nat => σ (53 + Int.toNat m) (k : Int))
def ntP (m : Int) (σ : Nat → Int → Int) (w n : Int) (σ' : Nat → Int → Int) : Prop := (σ 19 3 ≠ -1 ∧ σ' = σ) ∨ (σ 19 3 = -1 ∧ 100 ≤ σ 19 5 ∧ σ' = σ) ∨ (σ 19 3 = -1 ∧ σ 19 5 < 100 ∧ σ' = up (up σ (53 + Int.toNat m) (σ 19 5) (w * 100 + n)) 19 5 (σ 19 5 + 1))
def TQ (m : Int) (F : PR) (σ σ' : Nat → Int → Int) : Prop := (σ 19 3 ≠ -1 ∧ σ' 19 3 = σ 19 3) ∨ (σ 19 3 = -1 ∧ ((∃ q, 0 ≤ q ∧ F = .inl q ∧ σ' 19 3 = q) ∨ (∃ q l, F = .inr (q, l) ∧ σ' 19 3 = -1 ∧ σ' 19 2 = q ∧ tkL m σ' = tkL m σ ++ l.map kcF ∧ σ' 19 5 = σ 19 5 + l.length)))
theorem tkL_cong {m : Int} {σ σ' : Nat → Int → Int} (h : σ' 19 5 = σ 19 5) (h2 : ∀ j, σ' (53 + Int.toNat m) j = σ (53 + Int.toNat m) j) : tkL m σ' = tkL m σ := by
  unfold tkL
  rw [h]
  exact List.map_congr_left (fun k _ => h2 k)
theorem nt_ok {m : Int} {σ σ' : Nat → Int → Int} {w n : Int} (h : ntP m σ w n σ') (h3 : σ 19 3 = -1) (h5 : 0 ≤ σ 19 5 ∧ σ 19 5 < 100) : σ' 19 3 = -1 ∧ σ' 19 2 = σ 19 2 ∧ tkL m σ' = tkL m σ ++ [w * 100 + n] ∧ σ' 19 5 = σ 19 5 + 1 ∧ σ' 20 = σ 20 ∧ σ' 19 1 = σ 19 1 := by
  rcases h with ⟨a, -⟩ | ⟨-, a, -⟩ | ⟨-, -, e⟩
  · exact absurd h3 a
  · omega
  · subst e
    have g : ∀ j, j ≠ 5 → up (up σ (53 + Int.toNat m) (σ 19 5) (w * 100 + n)) 19 5 (σ 19 5 + 1) 19 j = σ 19 j := fun j hj => (up_slot hj).trans (up_cell (by omega))
    refine ⟨(g 3 (by decide)).trans h3, g 2 (by decide), ?_, up_same, by funext j; exact (up_cell (by decide)).trans (up_cell (by omega)), g 1 (by decide)⟩
    unfold tkL
    rw [show up (up σ (53 + Int.toNat m) (σ 19 5) (w * 100 + n)) 19 5 (σ 19 5 + 1) 19 5 = σ 19 5 + 1 from up_same, show (σ 19 5 + 1).toNat = (σ 19 5).toNat + 1 by omega, List.range_succ, List.map_append]
    congr 1
    · refine List.map_congr_left (fun k hk => ?_)
      have := List.mem_range.mp hk
      exact (up_cell (by omega)).trans (up_slot (by omega))
    · show [_] = [_]
      congr 1
      show up (up σ (53 + Int.toNat m) (σ 19 5) (w * 100 + n)) 19 5 (σ 19 5 + 1) (53 + Int.toNat m) (((σ 19 5).toNat : Nat) : Int) = w * 100 + n
      rw [show (((σ 19 5).toNat : Nat) : Int) = σ 19 5 by omega]
      exact (up_cell (by omega)).trans up_same
theorem nt_no {m : Int} {σ σ' : Nat → Int → Int} {w n : Int} (h : ntP m σ w n σ') (h3 : σ 19 3 ≠ -1) : σ' = σ := by
  rcases h with ⟨-, e⟩ | ⟨a, -⟩ | ⟨a, -⟩
  · exact e
  · exact absurd a h3
  · exact absurd a h3
theorem tk_1 {σ τ : Nat → Int → Int} {s r : Int} (h : tkP σ s r τ) (hr : r ≠ 0) : σ 19 3 = -1 ∧ σ 19 2 < σ 19 1 ∧ σ 20 (σ 19 2) = s ∧ τ 19 3 = -1 ∧ τ 19 2 = σ 19 2 + 1 ∧ τ 19 5 = σ 19 5 ∧ τ 20 = σ 20 ∧ τ 19 1 = σ 19 1 ∧ (∀ m, 0 ≤ m → tkL m τ = tkL m σ) := by
  rcases h with ⟨a, b, e⟩ | ⟨a, -⟩
  · subst e
    exact ⟨b.1, b.2.1, b.2.2, (up_slot (by decide)).trans b.1, up_same, up_slot (by decide), by funext j; exact up_cell (by decide), up_slot (by decide), fun m _ => tkL_cong (up_slot (by decide)) (fun j => up_cell (by omega))⟩
  · exact absurd a hr
theorem tk_0 {σ τ : Nat → Int → Int} {s r : Int} (h : tkP σ s r τ) (hr : r = 0) : ¬ (σ 19 3 = -1 ∧ σ 19 2 < σ 19 1 ∧ σ 20 (σ 19 2) = s) ∧ τ = σ := by
  rcases h with ⟨a, -⟩ | ⟨-, b, e⟩
  · omega
  · exact ⟨b, e⟩
/-- what a state must be for tokens to be noted: in step with the signs read -/
def stp0 (σ : Nat → Int → Int) : Prop := 0 ≤ σ 19 5 ∧ 0 ≤ σ 19 2 ∧ σ 19 1 ≤ 100 ∧ (σ 19 3 = -1 → σ 19 5 ≤ σ 19 2)
theorem TQ_tst {m rA rB rC : Int} {σ τA τB τC τD : Nat → Int → Int} (hs : stp0 σ) (hA : chP 6 σ rA τA) (hB : chP 7 τA rB τB) (hC : NbP τB rC τC) (hD : ntP m τC (rA * 3 + rB) rC τD) : TQ m (tstF (σ 20) (σ 19 1) (σ 19 2)) σ τD := by
  obtain ⟨s1, s2, s3, s4⟩ := hs
  by_cases hf : σ 19 3 = -1
  · refine Or.inr ⟨hf, ?_⟩
    have hle := s4 hf
    rcases hA with ⟨a, -⟩ | ⟨-, a1, a2, a3, a4⟩ | ⟨-, a1, a2, a3⟩
    · exact absurd hf a
    · have ka := ix_6 a3
      have e2 : τA 19 2 = σ 19 2 + 1 := by rw [a4]; exact up_same
      have e3 : τA 19 3 = -1 := by rw [a4]; exact (up_slot (by decide)).trans hf
      have e1 : τA 19 1 = σ 19 1 := by rw [a4]; exact up_slot (by decide)
      have e5 : τA 19 5 = σ 19 5 := by rw [a4]; exact up_slot (by decide)
      have e20 : τA 20 = σ 20 := by rw [a4]; funext j; exact up_cell (by decide)
      have h1 : σ 19 2 < σ 19 1 ∧ 0 ≤ ltF (σ 20 (σ 19 2)) := ⟨a1, by omega⟩
      unfold tstF
      rw [if_neg (fun h => h h1)]
      unfold chP at hB
      rw [e1, e2, e3, e20] at hB
      rcases hB with ⟨b, -⟩ | ⟨-, b1, b2, b3, b4⟩ | ⟨-, b1, b2, b3⟩
      · exact absurd rfl b
      · have kb := ix_7 b3
        have f2 : τB 19 2 = σ 19 2 + 2 := by rw [b4]; exact up_same.trans (by omega)
        have f3 : τB 19 3 = -1 := by rw [b4]; exact (up_slot (by decide)).trans e3
        have f1 : τB 19 1 = σ 19 1 := by rw [b4]; exact (up_slot (by decide)).trans e1
        have f5 : τB 19 5 = σ 19 5 := by rw [b4]; exact (up_slot (by decide)).trans e5
        have f20 : τB 20 = σ 20 := by rw [b4]; funext j; exact (up_cell (by decide)).trans (congrFun e20 j)
        have h2 : σ 19 2 + 1 < σ 19 1 ∧ 60 ≤ σ 20 (σ 19 2 + 1) ∧ σ 20 (σ 19 2 + 1) ≤ 62 := ⟨b1, by omega, by omega⟩
        rw [if_neg (fun h => h h2)]
        unfold NbP at hC
        rw [f1, f2, f3, f20] at hC
        rcases hC with ⟨c, -⟩ | ⟨-, c1, c2, c3⟩ | ⟨-, c1, c2⟩
        · exact absurd rfl c
        · rw [if_neg (fun h => h c1)]
          have g3 : τC 19 3 = -1 := by rw [c3]; exact (up_slot (by decide)).trans f3
          have g2 : τC 19 2 = numE (σ 20) (σ 19 1) (σ 19 2 + 2) := by rw [c3]; exact up_same
          have g5 : τC 19 5 = σ 19 5 := by rw [c3]; exact (up_slot (by decide)).trans f5
          have gv : ∀ k j, 53 ≤ k → τC k j = σ k j := fun k j hk => by
            rw [c3, up_cell (by omega), b4, up_cell (by omega), a4, up_cell (by omega)]
          obtain ⟨n1, n2, n3, n4, -, -⟩ := nt_ok hD g3 ⟨by omega, by omega⟩
          refine Or.inr ⟨_, _, rfl, n1, n2.trans g2, ?_, by rw [n4, g5]; rfl⟩
          rw [n3, tkL_cong (σ := σ) g5 (fun j => gv _ j (by omega))]
          congr 1
          have nb := num_b c1
          show [_] = [kcF _]
          congr 1
          have kl : rA = ltF (σ 20 (σ 19 2)) := ka.1
          have kr : rB = σ 20 (σ 19 2 + 1) - 60 := by omega
          rw [← kl, ← kr, ← c2]
          rw [← c2] at nb
          exact (kc_test (by omega) (by omega) nb).symm
        · rw [if_pos c1]
          have g3 : τC 19 3 = σ 19 2 + 2 := by rw [c2]; exact up_same
          have := nt_no hD (by omega)
          exact Or.inl ⟨_, by omega, rfl, by rw [this, g3]⟩
      · have kb : ¬ (σ 19 2 + 1 < σ 19 1 ∧ 60 ≤ σ 20 (σ 19 2 + 1) ∧ σ 20 (σ 19 2 + 1) ≤ 62) := by
          rcases b1 with b1 | b1
          · omega
          · have := ix_7 b1; omega
        rw [if_pos kb]
        have f3 : τB 19 3 = σ 19 2 + 1 := by rw [b3]; exact up_same
        have hC' : τC = τB := by
          rcases hC with ⟨-, c⟩ | ⟨c, -⟩ | ⟨c, -⟩
          · exact c
          · omega
          · omega
        have := nt_no hD (by rw [hC']; omega)
        exact Or.inl ⟨_, by omega, rfl, by rw [this, hC', f3]⟩
    · have ka : ¬ (σ 19 2 < σ 19 1 ∧ 0 ≤ ltF (σ 20 (σ 19 2))) := by
        rcases a1 with a1 | a1
        · omega
        · have := ix_6 a1; omega
      unfold tstF
      rw [if_pos ka]
      have e3 : τA 19 3 = σ 19 2 := by rw [a3]; exact up_same
      have hB' : τB = τA := by
        rcases hB with ⟨-, -, b⟩ | ⟨b, -⟩ | ⟨b, -⟩
        · exact b
        · omega
        · omega
      have hC' : τC = τB := by
        rcases hC with ⟨-, c⟩ | ⟨c, -⟩ | ⟨c, -⟩
        · exact c
        · rw [hB'] at c; omega
        · rw [hB'] at c; omega
      have := nt_no hD (by rw [hC', hB']; omega)
      exact Or.inl ⟨_, s2, rfl, by rw [this, hC', hB', e3]⟩
  · refine Or.inl ⟨hf, ?_⟩
    have hA' : τA = σ := by
      rcases hA with ⟨-, -, b⟩ | ⟨b, -⟩ | ⟨b, -⟩
      · exact b
      · exact absurd b hf
      · exact absurd b hf
    subst hA'
    have hB' : τB = τA := by
      rcases hB with ⟨-, -, b⟩ | ⟨b, -⟩ | ⟨b, -⟩
      · exact b
      · exact absurd b hf
      · exact absurd b hf
    subst hB'
    have hC' : τC = τB := by
      rcases hC with ⟨-, c⟩ | ⟨c, -⟩ | ⟨c, -⟩
      · exact c
      · exact absurd c hf
      · exact absurd c hf
    subst hC'
    rw [nt_no hD hf]
theorem stp0_of {σ τ : Nat → Int → Int} (h : stp0 σ) (e1 : τ 19 1 = σ 19 1) (h5 : 0 ≤ τ 19 5) (h2 : 0 ≤ τ 19 2) (h : τ 19 3 = -1 → τ 19 5 ≤ τ 19 2) : stp0 τ := by
  rename_i h0
  exact ⟨h5, h2, by have := h0.2.2.1; omega, h⟩
/-- '!', a part, and the token of not -/
theorem TQ_not {m : Int} {j : Nat} {r : Int} {σ τ1 τ2 τ3 : Nat → Int → Int} (hm : 0 ≤ m) (hs : stp0 σ) (h1 : tkP σ 33 r τ1) (hr : r ≠ 0) (h2 : TQ m (ptF (τ1 20) (τ1 19 1) j (τ1 19 2)) τ1 τ2) (h5 : 0 ≤ τ2 19 5) (h3 : ntP m τ2 18 0 τ3) : TQ m (ptF (σ 20) (σ 19 1) (j + 1) (σ 19 2)) σ τ3 := by
  obtain ⟨s1, s2, s3, s4⟩ := hs
  obtain ⟨t1, t2, t3, t4, t5, t6, t7, t8, t9⟩ := tk_1 h1 hr
  have hle := s4 t1
  refine Or.inr ⟨t1, ?_⟩
  have ep : ptF (σ 20) (σ 19 1) (j + 1) (σ 19 2) = match ptF (σ 20) (σ 19 1) j (σ 19 2 + 1) with
      | .inl q => .inl q
      | .inr (q, l) => .inr (q, (l ++ [-33])) := if_pos ⟨t2, t3⟩
  rw [ep]
  rw [t7, t8, t5] at h2
  rcases h2 with ⟨a, -⟩ | ⟨-, ⟨q, q0, a, b⟩ | ⟨q, l, a, b, c, d, e⟩⟩
  · exact absurd t4 a
  · rw [a]
    exact Or.inl ⟨q, q0, rfl, by rw [nt_no h3 (by omega), b]⟩
  · rw [a]
    have hl := pt_len j _ _ _ a
    obtain ⟨n1, n2, n3, n4, -, -⟩ := nt_ok h3 b ⟨by omega, by omega⟩
    refine Or.inr ⟨q, _, rfl, n1, n2.trans c, ?_, ?_⟩
    · rw [n3, d, t9 m hm, List.map_append, List.append_assoc]; rfl
    · rw [n4, e, t6, List.length_append]; simp; omega
/-- '(', what stands between, ')' -/
theorem TQ_par {m : Int} {j : Nat} {r r' : Int} {σ σ' τ1 τ2 τ3 : Nat → Int → Int} (hm : 0 ≤ m) (h0 : tkP σ 33 r' σ') (hr' : r' = 0) (h1 : tkP σ' 40 r τ1) (hr : r ≠ 0) (h2 : TQ m (eiF (ptF (τ1 20) (τ1 19 1) j) (τ1 20) (τ1 19 1) 100 false false (τ1 19 2)) τ1 τ2) (e20 : τ2 20 = τ1 20) (e1 : τ2 19 1 = τ1 19 1) (h3 : TF (wdF (τ2 20) (τ2 19 1) (litF 5) (τ2 19 2)) τ2 τ3) : TQ m (ptF (σ 20) (σ 19 1) (j + 1) (σ 19 2)) σ τ3 := by
  obtain ⟨u1, rfl⟩ := tk_0 h0 hr'
  obtain ⟨t1, t2, t3, t4, t5, t6, t7, t8, t9⟩ := tk_1 h1 hr
  refine Or.inr ⟨t1, ?_⟩
  have ep : ptF (σ' 20) (σ' 19 1) (j + 1) (σ' 19 2) = match eiF (ptF (σ' 20) (σ' 19 1) j) (σ' 20) (σ' 19 1) 100 false false (σ' 19 2 + 1) with
      | .inl q => .inl q
      | .inr (q, l) => if q < σ' 19 1 ∧ σ' 20 q = 41 then .inr ((q + 1), l) else .inl q := by
    have hn : ¬ (σ' 19 2 < σ' 19 1 ∧ σ' 20 (σ' 19 2) = 33) := fun h => u1 ⟨t1, h.1, h.2⟩
    show (if _ then _ else _) = _
    rw [if_neg hn, if_pos ⟨t2, t3⟩]
    rcases eiF (ptF (σ' 20) (σ' 19 1) j) (σ' 20) (σ' 19 1) 100 false false (σ' 19 2 + 1) with _ | ⟨_, _⟩ <;> rfl
  rw [ep]
  rw [t7, t8, t5] at h2
  rw [e20, e1, t7, t8] at h3
  rcases h2 with ⟨a, -⟩ | ⟨-, ⟨q, q0, a, b⟩ | ⟨q, l, a, b, c, d, e⟩⟩
  · exact absurd t4 a
  · rw [a]
    rcases h3 with ⟨-, f⟩ | ⟨f, -⟩
    · exact Or.inl ⟨q, q0, rfl, by rw [f, b]⟩
    · omega
  · rw [a]
    rw [c] at h3
    have el : litF 5 = [41] := by decide +kernel
    rw [el, wd_cons] at h3
    simp only []
    rcases h3 with ⟨f, -⟩ | ⟨-, ⟨q', l', f, g⟩ | ⟨q', q0', f, g⟩⟩
    · exact absurd b f
    · by_cases hc : q < σ' 19 1 ∧ σ' 20 q = 41
      · rw [if_pos hc] at f ⊢
        have f2 : (Sum.inr ((q + 1), []) : PR) = (Sum.inr (q', l') : PR) := f
        simp only [Sum.inr.injEq, Prod.mk.injEq] at f2
        obtain ⟨rfl, rfl⟩ := f2
        refine Or.inr ⟨q + 1, l, rfl, ?_, ?_, ?_, ?_⟩
        · rw [g]; exact (up_slot (by decide)).trans b
        · rw [g]; exact up_same
        · rw [tkL_cong (σ := τ2) (by rw [g]; exact up_slot (by decide)) (fun j => by rw [g]; exact up_cell (by omega)), d, t9 m hm]
        · rw [show τ3 19 5 = τ2 19 5 by rw [g]; exact up_slot (by decide), e, t6]
      · rw [if_neg hc] at f; simp at f
    · by_cases hc : q < σ' 19 1 ∧ σ' 20 q = 41
      · rw [if_pos hc] at f
        have f2 : (Sum.inr ((q + 1), []) : PR) = (Sum.inl q' : PR) := f
        simp at f2
      · rw [if_neg hc] at f ⊢
        simp only [Sum.inl.injEq] at f
        subst f
        exact Or.inl ⟨q, q0', rfl, by rw [g]; exact up_same⟩
theorem TQ_lvl {m : Int} {j : Nat} {r r' : Int} {σ σ' σ'' τ : Nat → Int → Int} (h0 : tkP σ 33 r' σ') (hr' : r' = 0) (h1 : tkP σ' 40 r σ'') (hr : r = 0) (h : TQ m (tstF (σ'' 20) (σ'' 19 1) (σ'' 19 2)) σ'' τ) : TQ m (ptF (σ 20) (σ 19 1) (j + 1) (σ 19 2)) σ τ := by
  obtain ⟨u1, rfl⟩ := tk_0 h0 hr'
  obtain ⟨u2, rfl⟩ := tk_0 h1 hr
  rcases h with h | ⟨t1, h⟩
  · exact Or.inl h
  · have hn : ¬ (σ'' 19 2 < σ'' 19 1 ∧ σ'' 20 (σ'' 19 2) = 33) := fun h => u1 ⟨t1, h.1, h.2⟩
    have hn2 : ¬ (σ'' 19 2 < σ'' 19 1 ∧ σ'' 20 (σ'' 19 2) = 40) := fun h => u2 ⟨t1, h.1, h.2⟩
    have ep : ptF (σ'' 20) (σ'' 19 1) (j + 1) (σ'' 19 2) = tstF (σ'' 20) (σ'' 19 1) (σ'' 19 2) := by
      show (if _ then _ else _) = _
      rw [if_neg hn, if_neg hn2]
    rw [ep]
    exact Or.inr ⟨t1, h⟩
/-! what stands between & and |: the loop of either -/
def preP (l0 : List Int) : PR → PR
  | .inl q => .inl q
  | .inr (q, l) => .inr (q, (l0 ++ l))
def EI (m : Int) (E : PR) (P : Int → PR) (σ τ : Nat → Int → Int) (a o : Int) (k : Nat) : Prop := (σ 19 3 ≠ -1 ∧ τ 19 3 = σ 19 3) ∨ (σ 19 3 = -1 ∧ ((∃ p, 0 ≤ p ∧ E = .inl p ∧ τ 19 3 = p) ∨ (τ 19 3 = -1 ∧ ∃ l0, tkL m τ = tkL m σ ++ l0.map kcF ∧ τ 19 5 = σ 19 5 + l0.length ∧ E = preP l0 (eiF P (σ 20) (σ 19 1) k (decide (a = 1)) (decide (o = 1)) (τ 19 2)) ∧ τ 19 5 + a + o ≤ τ 19 2)))
theorem EI_0 {m : Int} {P : Int → PR} {σ : Nat → Int → Int} (hs : stp0 σ) : EI m (eiF P (σ 20) (σ 19 1) 100 false false (σ 19 2)) P σ σ 0 0 100 := by
  by_cases h : σ 19 3 = -1
  · refine Or.inr ⟨h, Or.inr ⟨h, [], by simp, by simp, ?_, by have := hs.2.2.2 h; omega⟩⟩
    have e : decide ((0 : Int) = 1) = false := rfl
    rw [e]
    rcases eiF P (σ 20) (σ 19 1) 100 false false (σ 19 2) with _ | ⟨_, _⟩ <;> rfl
  · exact Or.inl ⟨h, rfl⟩
/-- no fuel is left: what was read stands -/
theorem EI_e {m : Int} {E : PR} {P : Int → PR} {σ τ : Nat → Int → Int} {a o : Int} (h : EI m E P σ τ a o 0) : TQ m E σ τ := by
  rcases h with h | ⟨s, ⟨p, p0, e, f⟩ | ⟨e, l0, f, g, i, j⟩⟩
  · exact Or.inl h
  · exact Or.inr ⟨s, Or.inl ⟨p, p0, e, f⟩⟩
  · unfold eiF at i
    simp only [preP, List.append_nil] at i
    exact Or.inr ⟨s, Or.inr ⟨_, _, i, e, rfl, f, g⟩⟩
/-- a token that is noted only if it is due -/
def nta (m a w : Int) (τ τ' : Nat → Int → Int) : Prop := (a = 0 ∧ τ' = τ) ∨ (a = 1 ∧ ntP m τ w 0 τ')
theorem nta_no {m a w : Int} {τ τ' : Nat → Int → Int} (h : nta m a w τ τ') (h3 : τ 19 3 ≠ -1) : τ' = τ := by
  rcases h with ⟨-, e⟩ | ⟨-, e⟩
  · exact e
  · exact nt_no e h3
theorem nta_ok {m a w s : Int} {τ τ' : Nat → Int → Int} (h : nta m a w τ τ') (h3 : τ 19 3 = -1) (h5 : 0 ≤ τ 19 5 ∧ τ 19 5 + a ≤ 100) (hk : kcF s = w * 100 + 0) : τ' 19 3 = -1 ∧ τ' 19 2 = τ 19 2 ∧ tkL m τ' = tkL m τ ++ (if decide (a = 1) then [s] else []).map kcF ∧ τ' 19 5 = τ 19 5 + (if decide (a = 1) then [s] else []).length ∧ τ' 20 = τ 20 ∧ τ' 19 1 = τ 19 1 ∧ τ' 19 5 = τ 19 5 + a := by
  rcases h with ⟨a0, e⟩ | ⟨a1, e⟩
  · subst e; subst a0
    refine ⟨h3, rfl, ?_, ?_, rfl, rfl, by omega⟩ <;> simp
  · subst a1
    obtain ⟨n1, n2, n3, n4, n5, n6⟩ := nt_ok e h3 ⟨h5.1, by omega⟩
    refine ⟨n1, n2, ?_, ?_, n5, n6, n4⟩
    · rw [n3]; simp [hk]
    · rw [n4]; simp
/-- between & and | -/
def EM (m : Int) (E : PR) (P : Int → PR) (σ τ3 : Nat → Int → Int) (o : Int) (k : Nat) : Prop := (σ 19 3 ≠ -1 ∧ τ3 19 3 = σ 19 3) ∨ (σ 19 3 = -1 ∧ ((∃ p, 0 ≤ p ∧ E = .inl p ∧ τ3 19 3 = p) ∨ (τ3 19 3 = -1 ∧ ∃ l0, tkL m τ3 = tkL m σ ++ l0.map kcF ∧ τ3 19 5 = σ 19 5 + l0.length ∧ τ3 19 5 + o ≤ τ3 19 2 ∧ τ3 19 2 ≤ σ 19 1 ∧ E = preP l0 (if τ3 19 2 < σ 19 1 ∧ σ 20 (τ3 19 2) = 124 then preP (if decide (o = 1) then [-124] else []) (eiF P (σ 20) (σ 19 1) k false true (τ3 19 2 + 1)) else .inr ((τ3 19 2), (if decide (o = 1) then [-124] else []))))))
/-- one turn: a part, its and; a further & -/
theorem EI_and {m : Int} {E : PR} {P : Int → PR} {σ τ τ1 τ2 τ3 : Nat → Int → Int} {a o r : Int} {k : Nat} (hm : 0 ≤ m) (hn : σ 19 1 ≤ 100) (h2 : 0 ≤ τ2 19 2) (ha : 0 ≤ a ∧ a ≤ 1) (ho : 0 ≤ o ∧ o ≤ 1) (h : EI m E P σ τ a o (k + 1)) (hlen : ∀ p q l, P p = .inr (q, l) → (l.length : Int) ≤ q - p ∧ q ≤ σ 19 1) (hp : TQ m (P (τ 19 2)) τ τ1) (h5 : 0 ≤ τ1 19 5) (hA : nta m a 19 τ1 τ2) (e20 : τ2 20 = σ 20) (e1 : τ2 19 1 = σ 19 1) (ht : tkP τ2 38 r τ3) :
    (r ≠ 0 → EI m E P σ τ3 1 o k) ∧ (r = 0 → τ3 = τ2 ∧ EM m E P σ τ3 o k) := by
  rcases h with ⟨s, f⟩ | ⟨s, ⟨p, p0, e, f⟩ | ⟨e, l0, f, g, i, j⟩⟩
  · have hp1 : τ1 19 3 = τ 19 3 := by
      rcases hp with ⟨-, b⟩ | ⟨b, -⟩
      · exact b
      · omega
    have hA' := nta_no hA (by omega)
    subst hA'
    refine ⟨fun hr => ?_, fun hr => ?_⟩
    · have := (tk_1 ht hr).1; omega
    · obtain ⟨-, rfl⟩ := tk_0 ht hr
      exact ⟨rfl, Or.inl ⟨s, by omega⟩⟩
  · have hp1 : τ1 19 3 = τ 19 3 := by
      rcases hp with ⟨-, b⟩ | ⟨b, -⟩
      · exact b
      · omega
    have hA' := nta_no hA (by omega)
    subst hA'
    refine ⟨fun hr => ?_, fun hr => ?_⟩
    · have := (tk_1 ht hr).1; omega
    · obtain ⟨-, rfl⟩ := tk_0 ht hr
      exact ⟨rfl, Or.inr ⟨s, Or.inl ⟨p, p0, e, by omega⟩⟩⟩
  · unfold eiF at i
    rcases hp with ⟨b, -⟩ | ⟨-, ⟨q, q0, b, c⟩ | ⟨q, l, b, c, d, b2, b3⟩⟩
    · exact absurd e b
    · have hA' := nta_no hA (by omega)
      subst hA'
      rw [b] at i
      simp only [preP] at i
      refine ⟨fun hr => ?_, fun hr => ?_⟩
      · have := (tk_1 ht hr).1; omega
      · obtain ⟨-, rfl⟩ := tk_0 ht hr
        exact ⟨rfl, Or.inr ⟨s, Or.inl ⟨q, q0, i, c⟩⟩⟩
    · rw [b] at i
      simp only [] at i
      have hl := hlen _ _ _ b
      obtain ⟨n1, n2, n3, n4, n5, n6, n7⟩ := nta_ok (s := -38) hA c ⟨h5, by omega⟩ rfl
      have tk2 : tkL m τ2 = tkL m σ ++ (l0 ++ l ++ (if decide (a = 1) then [-38] else [])).map kcF := by
        rw [n3, b2, f]; simp only [List.map_append, List.append_assoc]
      have no2 : τ2 19 5 = σ 19 5 + ((l0 ++ l ++ (if decide (a = 1) then [-38] else [])).length : Nat) := by
        rw [n4, b3, g]; simp only [List.length_append]; omega
      have at2 : τ2 19 2 = q := n2.trans d
      have le2 : τ2 19 5 + o ≤ τ2 19 2 := by omega
      refine ⟨fun hr => ?_, fun hr => ?_⟩
      · obtain ⟨t1, t2, t3, t4, t5, t6, t7, t8, t9⟩ := tk_1 ht hr
        rw [e1, at2] at t2
        rw [e20, at2] at t3
        refine Or.inr ⟨s, Or.inr ⟨t4, l0 ++ l ++ (if decide (a = 1) then [-38] else []), (t9 m hm).trans tk2, t6.trans no2, ?_, by omega⟩⟩
        rw [i, if_pos ⟨t2, t3⟩, t5, at2]
        have e11 : decide ((1 : Int) = 1) = true := rfl
        rw [e11]
        rcases eiF P (σ 20) (σ 19 1) k true (decide (o = 1)) (q + 1) with _ | ⟨_, _⟩ <;> simp [preP, List.append_assoc]
      · obtain ⟨u, rfl⟩ := tk_0 ht hr
        have hn1 : ¬ (q < σ 19 1 ∧ σ 20 q = 38) := fun hc => u ⟨n1, by rw [at2, e1]; exact hc.1, by rw [at2, e20]; exact hc.2⟩
        refine ⟨rfl, Or.inr ⟨s, Or.inr ⟨n1, l0 ++ l ++ (if decide (a = 1) then [-38] else []), tk2, no2, le2, by omega, ?_⟩⟩⟩
        rw [i, if_neg hn1, at2]
        by_cases hc : q < σ 19 1 ∧ σ 20 q = 124
        · rw [if_pos hc, if_pos hc]
          rcases eiF P (σ 20) (σ 19 1) k false true (q + 1) with _ | ⟨_, _⟩ <;> simp [preP, List.append_assoc]
        · rw [if_neg hc, if_neg hc]
          simp [preP, List.append_assoc]
/-- the or that is due, a further |, or the end -/
theorem EI_or {m : Int} {E : PR} {P : Int → PR} {σ τ τ4 τ5 : Nat → Int → Int} {o r : Int} {k : Nat} (hm : 0 ≤ m) (hn : σ 19 1 ≤ 100) (ho : 0 ≤ o ∧ o ≤ 1) (h5 : 0 ≤ τ 19 5) (e20 : τ4 20 = σ 20) (e1 : τ4 19 1 = σ 19 1)
    (h : EM m E P σ τ o k) (hO : nta m o 20 τ τ4) (ht : tkP τ4 124 r τ5) : (r ≠ 0 → EI m E P σ τ5 0 1 k) ∧ (r = 0 → TQ m E σ τ5) := by
  rcases h with ⟨s, f⟩ | ⟨s, ⟨p, p0, e, f⟩ | ⟨e, l0, f, g, i, j, x⟩⟩
  · have hA' := nta_no hO (by omega)
    subst hA'
    refine ⟨fun hr => ?_, fun hr => ?_⟩
    · have := (tk_1 ht hr).1; omega
    · obtain ⟨-, rfl⟩ := tk_0 ht hr
      exact Or.inl ⟨s, f⟩
  · have hA' := nta_no hO (by omega)
    subst hA'
    refine ⟨fun hr => ?_, fun hr => ?_⟩
    · have := (tk_1 ht hr).1; omega
    · obtain ⟨-, rfl⟩ := tk_0 ht hr
      exact Or.inr ⟨s, Or.inl ⟨p, p0, e, f⟩⟩
  · obtain ⟨n1, n2, n3, n4, n5, n6, n7⟩ := nta_ok (s := -124) hO e ⟨h5, by omega⟩ rfl
    have tk2 : tkL m τ4 = tkL m σ ++ (l0 ++ (if decide (o = 1) then [-124] else [])).map kcF := by
      rw [n3, f]; simp only [List.map_append, List.append_assoc]
    have no2 : τ4 19 5 = σ 19 5 + ((l0 ++ (if decide (o = 1) then [-124] else [])).length : Nat) := by
      rw [n4, g]; simp only [List.length_append]; omega
    refine ⟨fun hr => ?_, fun hr => ?_⟩
    · obtain ⟨t1, t2, t3, t4, t5, t6, t7, t8, t9⟩ := tk_1 ht hr
      rw [e1, n2] at t2
      rw [e20, n2] at t3
      refine Or.inr ⟨s, Or.inr ⟨t4, l0 ++ (if decide (o = 1) then [-124] else []), (t9 m hm).trans tk2, t6.trans no2, ?_, by omega⟩⟩
      rw [x, if_pos ⟨t2, t3⟩, t5, n2]
      have e01 : decide ((0 : Int) = 1) = false := rfl
      have e11 : decide ((1 : Int) = 1) = true := rfl
      rw [e01, e11]
      rcases eiF P (σ 20) (σ 19 1) k false true (τ 19 2 + 1) with _ | ⟨_, _⟩ <;> simp [preP, List.append_assoc]
    · obtain ⟨u, rfl⟩ := tk_0 ht hr
      have hn1 : ¬ (τ 19 2 < σ 19 1 ∧ σ 20 (τ 19 2) = 124) := fun hc => u ⟨n1, by rw [n2, e1]; exact hc.1, by rw [n2, e20]; exact hc.2⟩
      rw [if_neg hn1] at x
      exact Or.inr ⟨s, Or.inr ⟨_, _, x, n1, n2, tk2, no2⟩⟩
theorem EI_stp {m : Int} {E : PR} {P : Int → PR} {σ τ : Nat → Int → Int} {a o : Int} {k : Nat} (h : EI m E P σ τ a o k) (ha : 0 ≤ a) (ho : 0 ≤ o) (b1 : τ 19 1 ≤ 100) (b2 : 0 ≤ τ 19 2) (b5 : 0 ≤ τ 19 5) : stp0 τ := by
  refine ⟨b5, b2, b1, fun e => ?_⟩
  rcases h with ⟨s, f⟩ | ⟨s, ⟨p, p0, -, f⟩ | ⟨-, l0, f, g, i, j⟩⟩
  · omega
  · omega
  · omega
theorem stp0_tk {σ τ : Nat → Int → Int} {s r : Int} (h : stp0 σ) (ht : tkP σ s r τ) : stp0 τ := by
  obtain ⟨s1, s2, s3, s4⟩ := h
  rcases ht with ⟨-, a, b⟩ | ⟨-, -, b⟩
  · subst b
    have e5 : up σ 19 2 (σ 19 2 + 1) 19 5 = σ 19 5 := up_slot (by decide)
    have e1 : up σ 19 2 (σ 19 2 + 1) 19 1 = σ 19 1 := up_slot (by decide)
    have e2 : up σ 19 2 (σ 19 2 + 1) 19 2 = σ 19 2 + 1 := up_same
    have := s4 a.1
    exact ⟨by omega, by omega, by omega, fun _ => by omega⟩
  · subst b; exact ⟨s1, s2, s3, s4⟩
/-! a clause -/
def CQ (m : Int) (F : CR) (σ σ' : Nat → Int → Int) : Prop := (σ 19 3 ≠ -1 ∧ σ' 19 3 = σ 19 3) ∨ (σ 19 3 = -1 ∧ ((∃ q, 0 ≤ q ∧ F = .inl q ∧ σ' 19 3 = q) ∨ (∃ q w v l, F = .inr (q, w, v, l) ∧ σ' 19 3 = -1 ∧ σ' 19 2 = q ∧ tkL m σ' = tkL m σ ++ l.map kcF ++ (if w = 2 then [] else [(21 + w) * 100 + v]) ∧ σ' 19 5 = σ 19 5 + l.length + (if w = 2 then 0 else 1) ∧ σ' 19 6 = (if w = 2 then v else σ 19 6))))
theorem CQ_b2 {m v : Int} {τ1 τ2 : Nat → Int → Int} (h0 : 0 ≤ τ1 19 2) (hm : 0 ≤ m) (hN : NbP τ1 v τ2) : CQ m (cl2F (τ1 20) (τ1 19 1) 2 (τ1 19 2)) τ1 (up τ2 19 6 v) := by
  have e3 : up τ2 19 6 v 19 3 = τ2 19 3 := up_slot (by decide)
  rcases hN with ⟨a, b⟩ | ⟨a, b, c, d⟩ | ⟨a, b, c⟩
  · exact Or.inl ⟨a, by rw [e3, b]⟩
  · refine Or.inr ⟨a, Or.inr ⟨numE (τ1 20) (τ1 19 1) (τ1 19 2), 2, numV (τ1 20) (τ1 19 1) (τ1 19 2), [], ?_, ?_, ?_, ?_, ?_, ?_⟩⟩
    · unfold cl2F; rw [if_neg (fun h => h b), if_pos rfl]
    · rw [e3, d]; exact (up_slot (by decide)).trans a
    · rw [show up τ2 19 6 v 19 2 = τ2 19 2 from up_slot (by decide), d]; exact up_same
    · rw [if_pos rfl, tkL_cong (σ := τ1) ((up_slot (by decide)).trans (by rw [d]; exact up_slot (by decide))) (fun j => (up_cell (by omega)).trans (by rw [d]; exact up_cell (by omega)))]; simp
    · rw [if_pos rfl, show up τ2 19 6 v 19 5 = τ2 19 5 from up_slot (by decide), d, show up τ1 19 2 (numE (τ1 20) (τ1 19 1) (τ1 19 2)) 19 5 = τ1 19 5 from up_slot (by decide)]; simp
    · rw [if_pos rfl, ← c]; exact up_same
  · refine Or.inr ⟨a, Or.inl ⟨_, h0, ?_, ?_⟩⟩
    · unfold cl2F; rw [if_pos b]
    · rw [e3, c]; exact up_same
theorem CQ_bw {m v w : Int} {τ1 τ2 τ3 τ4 τ5 : Nat → Int → Int} (h0 : 0 ≤ τ1 19 2) (hm : 0 ≤ m) (hn : τ1 19 1 ≤ 100) (hw : w = 0 ∨ w = 1) (h5 : 0 ≤ τ1 19 5 ∧ 0 ≤ τ4 19 5) (hle : τ1 19 3 = -1 → τ1 19 5 ≤ τ1 19 2) (hN : NbP τ1 v τ2) (hS : TF (wdF (τ2 20) (τ2 19 1) (litF 4) (τ2 19 2)) τ2 τ3) (hE : TQ m (eiF (ptF (τ3 20) (τ3 19 1) 4) (τ3 20) (τ3 19 1) 100 false false (τ3 19 2)) τ3 τ4) (h6 : τ4 19 6 = τ3 19 6) (hD : ntP m τ4 (21 + w) v τ5) : CQ m (cl2F (τ1 20) (τ1 19 1) w (τ1 19 2)) τ1 τ5 := by
  have hfr : ∀ τ τ' : Nat → Int → Int, ∀ F, TF F τ τ' → τ 19 3 ≠ -1 → τ' 19 3 = τ 19 3 := fun τ τ' F h a => by
    rcases h with ⟨-, b⟩ | ⟨b, -⟩
    · rw [b]
    · exact absurd b a
  have hfe : ∀ τ τ' : Nat → Int → Int, ∀ F, TQ m F τ τ' → τ 19 3 ≠ -1 → τ' 19 3 = τ 19 3 := fun τ τ' F h a => by
    rcases h with ⟨-, b⟩ | ⟨b, -⟩
    · exact b
    · exact absurd b a
  have tail : τ2 19 3 ≠ -1 → τ5 19 3 = τ2 19 3 := fun h => by
    have a := hfr _ _ _ hS h
    have b := hfe _ _ _ hE (by omega)
    rw [nt_no hD (by omega), b, a]
  rcases hN with ⟨a, b⟩ | ⟨a, b, c, d⟩ | ⟨a, b, c⟩
  · subst b
    exact Or.inl ⟨a, tail a⟩
  · have hnl := num_le b
    have e3 : τ2 19 3 = -1 := by rw [d]; exact (up_slot (by decide)).trans a
    have e2 : τ2 19 2 = numE (τ1 20) (τ1 19 1) (τ1 19 2) := by rw [d]; exact up_same
    have e1 : τ2 19 1 = τ1 19 1 := by rw [d]; exact up_slot (by decide)
    have e5 : τ2 19 5 = τ1 19 5 := by rw [d]; exact up_slot (by decide)
    have e6 : τ2 19 6 = τ1 19 6 := by rw [d]; exact up_slot (by decide)
    have e20 : τ2 20 = τ1 20 := by rw [d]; funext j; exact up_cell (by decide)
    have etk : tkL m τ2 = tkL m τ1 := tkL_cong e5 (fun j => by rw [d]; exact up_cell (by omega))
    have el : litF 4 = [32] := by decide +kernel
    rw [el, wd_cons, e20, e1, e2] at hS
    refine Or.inr ⟨a, ?_⟩
    unfold cl2F
    rw [if_neg (fun h => h b), if_neg (by omega)]
    have hle' := hle a
    rcases hS with ⟨s, -⟩ | ⟨-, ⟨q', l', f, g⟩ | ⟨q', q0', f, g⟩⟩
    · exact absurd e3 s
    · by_cases hc : numE (τ1 20) (τ1 19 1) (τ1 19 2) < τ1 19 1 ∧ (τ1 20) (numE (τ1 20) (τ1 19 1) (τ1 19 2)) = 32
      · rw [if_pos hc] at f
        rw [if_neg (fun h => h hc)]
        have f2 : (Sum.inr ((numE (τ1 20) (τ1 19 1) (τ1 19 2) + 1), []) : PR) = (Sum.inr (q', l') : PR) := f
        simp only [Sum.inr.injEq, Prod.mk.injEq] at f2
        obtain ⟨rfl, rfl⟩ := f2
        have g3 : τ3 19 3 = -1 := by rw [g]; exact (up_slot (by decide)).trans e3
        have g2 : τ3 19 2 = numE (τ1 20) (τ1 19 1) (τ1 19 2) + 1 := by rw [g]; exact up_same
        have g1 : τ3 19 1 = τ1 19 1 := by rw [g]; exact (up_slot (by decide)).trans e1
        have g5 : τ3 19 5 = τ1 19 5 := by rw [g]; exact (up_slot (by decide)).trans e5
        have g6 : τ3 19 6 = τ1 19 6 := by rw [g]; exact (up_slot (by decide)).trans e6
        have g20 : τ3 20 = τ1 20 := by rw [g]; funext j; exact (up_cell (by decide)).trans (congrFun e20 j)
        have gtk : tkL m τ3 = tkL m τ1 := (tkL_cong (by rw [g]; exact up_slot (by decide)) (fun j => by rw [g]; exact up_cell (by omega))).trans etk
        rw [g20, g1, g2] at hE
        rcases hE with ⟨s, -⟩ | ⟨-, ⟨q, q0, x, y⟩ | ⟨q, l, x, y, z, z2, z3⟩⟩
        · exact absurd g3 s
        · rw [x]
          exact Or.inl ⟨q, q0, rfl, by rw [nt_no hD (by omega), y]⟩
        · rw [x]
          have hl := ei_len (fun p q l h => pt_len 4 p q l h) 100 false false _ q l (by omega) x
          simp only [Bool.false_eq_true, if_false] at hl
          obtain ⟨n1, n2, n3, n4, -, -⟩ := nt_ok hD y ⟨h5.2, by omega⟩
          have n6 : τ5 19 6 = τ4 19 6 := by
            rcases hD with ⟨-, u⟩ | ⟨-, -, u⟩ | ⟨-, -, u⟩
            · rw [u]
            · rw [u]
            · rw [u]; exact (up_slot (by decide)).trans (up_cell (by omega))
          refine Or.inr ⟨q, w, numV (τ1 20) (τ1 19 1) (τ1 19 2), l, rfl, n1, n2.trans z, ?_, ?_, ?_⟩
          · rw [if_neg (by omega), n3, z2, gtk, ← c]
          · rw [if_neg (by omega), n4, z3, g5]
          · rw [if_neg (by omega), n6, h6, g6]
      · rw [if_neg hc] at f; simp at f
    · by_cases hc : numE (τ1 20) (τ1 19 1) (τ1 19 2) < τ1 19 1 ∧ (τ1 20) (numE (τ1 20) (τ1 19 1) (τ1 19 2)) = 32
      · rw [if_pos hc] at f
        have f2 : (Sum.inr ((numE (τ1 20) (τ1 19 1) (τ1 19 2) + 1), []) : PR) = (Sum.inl q' : PR) := f
        simp at f2
      · rw [if_neg hc] at f
        rw [if_pos hc]
        simp only [Sum.inl.injEq] at f
        subst f
        have g3 : τ3 19 3 = numE (τ1 20) (τ1 19 1) (τ1 19 2) := by rw [g]; exact up_same
        have b := hfe _ _ _ hE (by omega)
        exact Or.inl ⟨_, q0', rfl, by rw [nt_no hD (by omega), b, g3]⟩
  · have e3 : τ2 19 3 = τ1 19 2 := by rw [c]; exact up_same
    refine Or.inr ⟨a, Or.inl ⟨_, h0, ?_, by rw [tail (by omega), e3]⟩⟩
    unfold cl2F
    rw [if_pos b]
theorem CQ_seq {m w : Int} {W : List Int} {σ τ0 τ1 τ5 : Nat → Int → Int} (hm : 0 ≤ m) (h3 : σ 19 3 = -1) (e3 : τ0 19 3 = -1) (e5 : τ0 19 5 = σ 19 5) (e6 : τ0 19 6 = σ 19 6) (e1 : τ0 19 1 = σ 19 1) (e20 : τ0 20 = σ 20) (etk : tkL m τ0 = tkL m σ) (hT : TF (wdF (τ0 20) (τ0 19 1) W (τ0 19 2)) τ0 τ1) (hC : CQ m (cl2F (τ1 20) (τ1 19 1) w (τ1 19 2)) τ1 τ5) (F : CR) (hb : ∀ q, wdF (σ 20) (σ 19 1) W (τ0 19 2) = .inl q → F = .inl q) (hk : ∀ q l, wdF (σ 20) (σ 19 1) W (τ0 19 2) = .inr (q, l) → F = cl2F (σ 20) (σ 19 1) w q) : CQ m F σ τ5 := by
  rw [e20, e1] at hT
  rcases hT with ⟨a, -⟩ | ⟨-, ⟨q, l, f, g⟩ | ⟨q, q0, f, g⟩⟩
  · exact absurd e3 a
  · have g1 : τ1 19 1 = σ 19 1 := by rw [g]; exact (up_slot (by decide)).trans e1
    have g2 : τ1 19 2 = q := by rw [g]; exact up_same
    have g3 : τ1 19 3 = -1 := by rw [g]; exact (up_slot (by decide)).trans e3
    have g5 : τ1 19 5 = σ 19 5 := by rw [g]; exact (up_slot (by decide)).trans e5
    have g6 : τ1 19 6 = σ 19 6 := by rw [g]; exact (up_slot (by decide)).trans e6
    have g20 : τ1 20 = σ 20 := by rw [g]; funext j; exact (up_cell (by decide)).trans (congrFun e20 j)
    have gtk : tkL m τ1 = tkL m σ := (tkL_cong (by rw [g]; exact up_slot (by decide)) (fun j => by rw [g]; exact up_cell (by omega))).trans etk
    rw [hk q l f]
    rw [g20, g1, g2] at hC
    unfold CQ at hC
    rw [gtk, g5, g6] at hC
    rcases hC with ⟨s, -⟩ | ⟨-, hC⟩
    · exact absurd g3 s
    · exact Or.inr ⟨h3, hC⟩
  · have g3 : τ1 19 3 = q := by rw [g]; exact up_same
    rw [hb q f]
    rcases hC with ⟨-, s⟩ | ⟨s, -⟩
    · exact Or.inr ⟨h3, Or.inl ⟨q, q0, rfl, by rw [s, g3]⟩⟩
    · omega
theorem CQ_no {m : Int} {F F' : CR} {σ τ1 τ5 : Nat → Int → Int} (h3 : σ 19 3 ≠ -1) (e : τ1 19 3 = σ 19 3) (hC : CQ m F' τ1 τ5) : CQ m F σ τ5 := by
  rcases hC with ⟨-, s⟩ | ⟨s, -⟩
  · exact Or.inl ⟨h3, by omega⟩
  · omega
theorem tk_6 {σ τ : Nat → Int → Int} {s r : Int} (h : tkP σ s r τ) : τ 19 6 = σ 19 6 := by
  rcases h with ⟨-, -, e⟩ | ⟨-, -, e⟩
  · rw [e]; exact up_slot (by decide)
  · rw [e]
theorem CQ_c {m r : Int} {σ τ0 τ1 τ5 : Nat → Int → Int} (hm : 0 ≤ m) (h : tkP σ 99 r τ0) (hr : r ≠ 0) (hT : TF (wdF (τ0 20) (τ0 19 1) (litF 0) (τ0 19 2)) τ0 τ1) (hC : CQ m (cl2F (τ1 20) (τ1 19 1) 0 (τ1 19 2)) τ1 τ5) : CQ m (clF (σ 20) (σ 19 1) (σ 19 2)) σ τ5 := by
  obtain ⟨t1, t2, t3, t4, t5, t6, t7, t8, t9⟩ := tk_1 h hr
  have el : litF 0 = [111, 117, 110, 116, 32] := by decide +kernel
  rw [el] at hT
  refine CQ_seq hm t1 t4 t6 (tk_6 h) t8 t7 (t9 m hm) hT hC _ (fun q f => ?_) (fun q l f => ?_)
  · rw [t5] at f
    unfold clF
    rw [if_pos ⟨t2, t3⟩, f]
  · rw [t5] at f
    unfold clF
    rw [if_pos ⟨t2, t3⟩, f]
theorem CQ_w {m r r' : Int} {σ σ' τ0 τ1 τ5 : Nat → Int → Int} (hm : 0 ≤ m) (h0 : tkP σ 99 r' σ') (hr' : r' = 0) (h : tkP σ' 119 r τ0) (hr : r ≠ 0) (hT : TF (wdF (τ0 20) (τ0 19 1) (litF 1) (τ0 19 2)) τ0 τ1) (hC : CQ m (cl2F (τ1 20) (τ1 19 1) 1 (τ1 19 2)) τ1 τ5) : CQ m (clF (σ 20) (σ 19 1) (σ 19 2)) σ τ5 := by
  obtain ⟨u, rfl⟩ := tk_0 h0 hr'
  obtain ⟨t1, t2, t3, t4, t5, t6, t7, t8, t9⟩ := tk_1 h hr
  have el : litF 1 = [97, 108, 107, 32] := by decide +kernel
  rw [el] at hT
  have hn : ¬ (σ' 19 2 < σ' 19 1 ∧ σ' 20 (σ' 19 2) = 99) := fun hc => u ⟨t1, hc.1, hc.2⟩
  refine CQ_seq hm t1 t4 t6 (tk_6 h) t8 t7 (t9 m hm) hT hC _ (fun q f => ?_) (fun q l f => ?_)
  · rw [t5] at f
    unfold clF
    rw [if_neg hn, if_pos ⟨t2, t3⟩, f]
  · rw [t5] at f
    unfold clF
    rw [if_neg hn, if_pos ⟨t2, t3⟩, f]
theorem CQ_d {m r r' : Int} {σ σ' τ0 τ1 τ5 : Nat → Int → Int} (hm : 0 ≤ m) (h0 : tkP σ 99 r' σ') (hr' : r' = 0) (h : tkP σ' 119 r τ0) (hr : r = 0) (hT : TF (wdF (τ0 20) (τ0 19 1) (litF 2) (τ0 19 2)) τ0 τ1) (hC : CQ m (cl2F (τ1 20) (τ1 19 1) 2 (τ1 19 2)) τ1 τ5) : CQ m (clF (σ 20) (σ 19 1) (σ 19 2)) σ τ5 := by
  obtain ⟨u, rfl⟩ := tk_0 h0 hr'
  obtain ⟨u2, rfl⟩ := tk_0 h hr
  by_cases h3 : τ0 19 3 = -1
  · have el : litF 2 = [100, 97, 119, 110, 32] := by decide +kernel
    rw [el] at hT
    have hn : ¬ (τ0 19 2 < τ0 19 1 ∧ τ0 20 (τ0 19 2) = 99) := fun hc => u ⟨h3, hc.1, hc.2⟩
    have hn2 : ¬ (τ0 19 2 < τ0 19 1 ∧ τ0 20 (τ0 19 2) = 119) := fun hc => u2 ⟨h3, hc.1, hc.2⟩
    refine CQ_seq hm h3 h3 rfl rfl rfl rfl rfl hT hC _ (fun q f => ?_) (fun q l f => ?_)
    · unfold clF
      rw [if_neg hn, if_neg hn2, f]
    · unfold clF
      rw [if_neg hn, if_neg hn2, f]
  · refine CQ_no h3 ?_ hC
    rcases hT with ⟨-, b⟩ | ⟨b, -⟩
    · rw [b]
    · exact absurd b h3
theorem wd_le {f : Int → Int} {n : Int} : ∀ (cs : List Int) (p q : Int) (l : List Int), wdF f n cs p = .inr (q, l) → p ≤ q
  | [], p, q, l, h => by
    unfold wdF at h
    simp only [Sum.inr.injEq, Prod.mk.injEq] at h
    omega
  | c :: cs, p, q, l, h => by
    rw [wd_cons] at h
    split at h
    · have := wd_le cs (p + 1) q l h
      omega
    · simp at h
theorem stp0_TF {σ τ : Nat → Int → Int} {W : List Int} (h : stp0 σ) (ht : TF (wdF (σ 20) (σ 19 1) W (σ 19 2)) σ τ) (h2 : 0 ≤ τ 19 2) : stp0 τ := by
  obtain ⟨s1, s2, s3, s4⟩ := h
  rcases ht with ⟨-, b⟩ | ⟨a, ⟨q, l, f, g⟩ | ⟨q, q0, f, g⟩⟩
  · rw [b]; exact ⟨s1, s2, s3, s4⟩
  · have e5 : τ 19 5 = σ 19 5 := by rw [g]; exact up_slot (by decide)
    have e1 : τ 19 1 = σ 19 1 := by rw [g]; exact up_slot (by decide)
    have e2 : τ 19 2 = q := by rw [g]; exact up_same
    have := s4 a
    have hq := wd_le _ _ _ _ f
    exact ⟨by omega, h2, by omega, fun _ => by omega⟩
  · have e5 : τ 19 5 = σ 19 5 := by rw [g]; exact (up_slot (by decide)).trans (up_slot (by decide))
    have e1 : τ 19 1 = σ 19 1 := by rw [g]; exact (up_slot (by decide)).trans (up_slot (by decide))
    have e3 : τ 19 3 = q := by rw [g]; exact up_same
    exact ⟨by omega, h2, by omega, fun e => by omega⟩
theorem stp0_NbP {σ τ : Nat → Int → Int} {r : Int} (h : stp0 σ) (ht : NbP σ r τ) (h2 : 0 ≤ τ 19 2) : stp0 τ := by
  obtain ⟨s1, s2, s3, s4⟩ := h
  rcases ht with ⟨-, b⟩ | ⟨a, b, c, g⟩ | ⟨a, b, g⟩
  · rw [b]; exact ⟨s1, s2, s3, s4⟩
  · have e5 : τ 19 5 = σ 19 5 := by rw [g]; exact up_slot (by decide)
    have e1 : τ 19 1 = σ 19 1 := by rw [g]; exact up_slot (by decide)
    have e2 : τ 19 2 = numE (σ 20) (σ 19 1) (σ 19 2) := by rw [g]; exact up_same
    have := s4 a
    have hq := num_le b
    exact ⟨by omega, h2, by omega, fun _ => by omega⟩
  · have e5 : τ 19 5 = σ 19 5 := by rw [g]; exact up_slot (by decide)
    have e1 : τ 19 1 = σ 19 1 := by rw [g]; exact up_slot (by decide)
    have e3 : τ 19 3 = σ 19 2 := by rw [g]; exact up_same
    exact ⟨by omega, h2, by omega, fun e => by omega⟩
/-! a whole text -/
def preT (L0 : List (Int × Int × List Int)) : TR → TR
  | .inl q => .inl q
  | .inr L => .inr (L0 ++ L)
def cnF (f : Int → Int) (n : Int) (k : Nat) (p : Int) : TR := if n ≤ p then .inr [] else if k = 0 ∨ f p ≠ 59 then .inl p else txF f n k (p + 1)
theorem tx_bad {f : Int → Int} {n p q : Int} {k : Nat} (h : clF f n p = .inl q) : txF f n (k + 1) p = .inl q := by
  unfold txF; rw [h]
theorem tx_ok {f : Int → Int} {n p q w v : Int} {l : List Int} {k : Nat} (h : clF f n p = .inr (q, w, v, l)) : txF f n (k + 1) p = preT [(w, v, l)] (cnF f n k q) := by
  unfold txF cnF
  rw [h]
  simp only []
  by_cases h1 : n ≤ q
  · rw [if_pos h1, if_pos h1]; rfl
  · rw [if_neg h1, if_neg h1]
    by_cases h2 : k = 0 ∨ f q ≠ 59
    · rw [if_pos h2, if_pos h2]; rfl
    · rw [if_neg h2, if_neg h2]
      cases txF f n k (q + 1) <;> rfl
theorem preT_app {a b : List (Int × Int × List Int)} {T : TR} : preT a (preT b T) = preT (a ++ b) T := by
  cases T <;> simp [preT, List.append_assoc]
theorem tks_snoc {w v : Int} {l : List Int} : ∀ L0 : List (Int × Int × List Int), tksF (L0 ++ [(w, v, l)]) = tksF L0 ++ (l.map kcF ++ (if w = 2 then [] else [(21 + w) * 100 + v]))
  | [] => by simp [tksF]
  | (w', v', l') :: L => by
    show _ ++ _ ++ tksF (L ++ _) = _ ++ _ ++ tksF L ++ _
    rw [tks_snoc L]
    simp only [List.append_assoc]
theorem dw_snoc {w v : Int} {l : List Int} : ∀ (L0 : List (Int × Int × List Int)) (d : Int), dwF d (L0 ++ [(w, v, l)]) = if w = 2 then v else dwF d L0
  | [], d => rfl
  | (w', v', l') :: L, d => dw_snoc L _
def CI (m : Int) (T : TR) (f : Int → Int) (n : Int) (τ : Nat → Int → Int) (k : Nat) : Prop := (∃ p, 0 ≤ p ∧ T = .inl p ∧ τ 19 3 = p) ∨ (τ 19 3 = -1 ∧ ∃ L0, tkL m τ = tksF L0 ∧ τ 19 6 = dwF 60 L0 ∧ T = preT L0 (cnF f n k (τ 19 2)) ∧ τ 19 5 ≤ τ 19 2 ∧ 0 ≤ τ 19 2 ∧ τ 19 2 ≤ n)
def CF (m : Int) (T : TR) (τ : Nat → Int → Int) : Prop := (∃ p, 0 ≤ p ∧ T = .inl p ∧ τ 19 3 = p) ∨ (∃ L, T = .inr L ∧ τ 19 3 = -1 ∧ tkL m τ = tksF L ∧ τ 19 6 = dwF 60 L)
theorem CI_c {m : Int} {T : TR} {f : Int → Int} {n : Int} {σ τ : Nat → Int → Int} {k : Nat} {L0 : List (Int × Int × List Int)} (hC : CQ m (clF (σ 20) (σ 19 1) (σ 19 2)) σ τ) (e20 : σ 20 = f) (e1 : σ 19 1 = n) (h3 : σ 19 3 = -1) (h2 : 0 ≤ σ 19 2 ∧ σ 19 2 ≤ n) (h5 : σ 19 5 ≤ σ 19 2) (htk : tkL m σ = tksF L0) (h6 : σ 19 6 = dwF 60 L0) (hT : T = preT L0 (txF f n (k + 1) (σ 19 2))) : CI m T f n τ k := by
  rw [e20, e1] at hC
  rcases hC with ⟨a, -⟩ | ⟨-, ⟨q, q0, a, b⟩ | ⟨q, w, v, l, a, b, c, d, e, g⟩⟩
  · exact absurd h3 a
  · rw [tx_bad a] at hT
    exact Or.inl ⟨q, q0, hT, b⟩
  · rw [tx_ok a, preT_app] at hT
    have hl := cl_len h2.2 a
    refine Or.inr ⟨b, L0 ++ [(w, v, l)], ?_, ?_, by rw [c]; exact hT, ?_, by omega, by omega⟩
    · rw [d, htk, tks_snoc, List.append_assoc]
    · rw [g, dw_snoc, h6]
    · rw [e]; split <;> omega
theorem CI_s {m r : Int} {T : TR} {f : Int → Int} {n : Int} {τ τ1 τ2 : Nat → Int → Int} {k : Nat} (hm : 0 ≤ m) (h : CI m T f n τ (k + 1)) (f20 : τ 20 = f) (f1 : τ 19 1 = n) (ht : tkP τ 59 r τ1) (hr : r ≠ 0) (hC : CQ m (clF (τ1 20) (τ1 19 1) (τ1 19 2)) τ1 τ2) : CI m T f n τ2 k := by
  obtain ⟨t1, t2, t3, t4, t5, t6, t7, t8, t9⟩ := tk_1 ht hr
  rcases h with ⟨p, p0, -, b⟩ | ⟨-, L0, a, b, c, d, e, g⟩
  · omega
  · rw [f20] at t3 t7
    rw [f1] at t2 t8
    refine CI_c hC t7 t8 t4 (by omega) (by omega) ((t9 m hm).trans a) ((tk_6 ht).trans b) ?_
    rw [c, t5]
    congr 1
    unfold cnF
    rw [if_neg (by omega), if_neg (by rw [t3]; simp)]
theorem CI_e {m : Int} {T : TR} {f : Int → Int} {n : Int} {τ τ' : Nat → Int → Int} {k : Nat} (hm : 0 ≤ m) (h : CI m T f n τ k) (f20 : τ 20 = f) (f1 : τ 19 1 = n) (hk : k = 0 ∨ ¬ (τ 19 3 = -1 ∧ τ 19 2 < τ 19 1 ∧ τ 20 (τ 19 2) = 59)) (hx : (¬ (τ 19 3 = -1 ∧ τ 19 2 < τ 19 1) ∧ τ' = τ) ∨ ((τ 19 3 = -1 ∧ τ 19 2 < τ 19 1) ∧ τ' = up τ 19 3 (τ 19 2))) : CF m T τ' := by
  rcases h with ⟨p, p0, a, b⟩ | ⟨a3, L0, a, b, c, d, e, g⟩
  · rcases hx with ⟨-, x⟩ | ⟨x, -⟩
    · rw [x]; exact Or.inl ⟨p, p0, a, b⟩
    · omega
  · rcases hx with ⟨x1, x⟩ | ⟨x1, x⟩
    · subst x
      unfold cnF at c
      rw [if_pos (by omega)] at c
      simp only [preT, List.append_nil] at c
      exact Or.inr ⟨L0, c, a3, a, b⟩
    · unfold cnF at c
      rw [f1] at x1
      have hc : k = 0 ∨ f (τ 19 2) ≠ 59 := by
        rcases hk with hk | hk
        · exact Or.inl hk
        · exact Or.inr (fun h => hk ⟨a3, by omega, by rw [f20]; exact h⟩)
      rw [if_neg (by omega), if_pos hc] at c
      exact Or.inl ⟨_, e, c, by rw [x]; exact up_same⟩
theorem preT_nil (T : TR) : preT [] T = T := by cases T <;> rfl
theorem CI_stp {m : Int} {T : TR} {f : Int → Int} {n : Int} {τ : Nat → Int → Int} {k : Nat} (h : CI m T f n τ k) (b1 : τ 19 1 ≤ 100) (b2 : 0 ≤ τ 19 2) (b5 : 0 ≤ τ 19 5) : stp0 τ := by
  refine ⟨b5, b2, b1, fun e => ?_⟩
  rcases h with ⟨p, p0, a, b⟩ | ⟨-, L0, -, -, -, d, -, -⟩
  · omega
  · exact d
theorem k2_f {k : Nat} (j : Int) (h : 53 ≤ k) : scK2 k j = false := by
  unfold scK2
  simp only [Bool.and_eq_false_iff, beq_eq_false_iff_ne, ne_eq]
  omega
/-! a town is told -/
def twX (σ : Nat → Int → Int) (t : Int) : List Int := (List.range (σ 59 t).toNat).map (fun k : Nat => σ (53 + Int.toNat t) (k : Int))
def feedX (σ : Nat → Int → Int) (s r : Int) (σ' : Nat → Int → Int) : Prop := (¬ (0 ≤ s ∧ s ≤ 127) ∧ r = -2 ∧ σ' = σ) ∨ ((0 ≤ s ∧ s ≤ 127) ∧ 100 ≤ σ 19 1 ∧ r = -4 ∧ σ' = σ) ∨ ((0 ≤ s ∧ s ≤ 127) ∧ σ 19 1 < 100 ∧ r = σ 19 1 + 1 ∧ σ' = up (up σ 20 (σ 19 1) s) 19 1 (σ 19 1 + 1))
def townX (σ : Nat → Int → Int) (r : Int) (σ' : Nat → Int → Int) : Prop := (6 ≤ σ 51 3 ∧ r = -4 ∧ σ' = σ) ∨ (σ 51 3 < 6 ∧ σ' 19 1 = 0 ∧ (∀ k j, 53 ≤ k → k ≤ 58 → k ≠ 53 + Int.toNat (σ 51 3) → σ' k j = σ k j) ∧
  ((∃ p, 0 ≤ p ∧ txF (σ 20) (σ 19 1) 10 0 = .inl p ∧ r = -10 - p ∧ σ' 51 3 = σ 51 3 ∧ σ' 33 13 = σ 33 13 ∧ (∀ j, σ' 59 j = σ 59 j) ∧ (∀ j, σ' 60 j = σ 60 j)) ∨
   (∃ L, txF (σ 20) (σ 19 1) 10 0 = .inr L ∧ r = σ 51 3 ∧ σ' 51 3 = σ 51 3 + 1 ∧ σ' 33 13 = σ 51 3 ∧ twX σ' (σ 51 3) = tksF L ∧ σ' 60 (σ 51 3) = dwF 60 L ∧ (∀ j, j ≠ σ 51 3 → σ' 59 j = σ 59 j) ∧ (∀ j, j ≠ σ 51 3 → σ' 60 j = σ 60 j))))
theorem town_bad {m : Int} {σ τ : Nat → Int → Int} (h : CF m (txF (σ 20) (σ 19 1) 10 0) τ) (hm : m = σ 51 3) (hm6 : σ 51 3 < 6) (hf : Fr scP σ τ) (ho : ∀ k j, 53 ≤ k → k ≤ 58 → k ≠ 53 + Int.toNat m → τ k j = σ k j) (h3 : τ 19 3 ≠ -1) : townX σ (-10 - τ 19 3) (up τ 19 1 0) := by
  subst hm
  refine Or.inr ⟨hm6, up_same, fun k j h0 h1 h2 => (up_cell (by omega)).trans (ho k j h0 h1 h2), ?_⟩
  rcases h with ⟨p, p0, a, b⟩ | ⟨L, -, b, -⟩
  · exact Or.inl ⟨p, p0, a, by rw [b], (up_cell (by decide)).trans (hf 51 3 rfl), (up_cell (by decide)).trans (hf 33 13 rfl), fun j => (up_cell (by decide)).trans (hf 59 j rfl), fun j => (up_cell (by decide)).trans (hf 60 j rfl)⟩
  · exact absurd b h3
theorem town_ok {m : Int} {σ τ : Nat → Int → Int} (h : CF m (txF (σ 20) (σ 19 1) 10 0) τ) (hm : m = σ 51 3) (h0m : 0 ≤ σ 51 3) (hm6 : σ 51 3 < 6) (hf : Fr scP σ τ) (ho : ∀ k j, 53 ≤ k → k ≤ 58 → k ≠ 53 + Int.toNat m → τ k j = σ k j) (h3 : τ 19 3 = -1) : townX σ (σ 51 3) (up (up (up (up (up τ 19 1 0) 59 (σ 51 3) (τ 19 5)) 60 (σ 51 3) (τ 19 6)) 51 3 (σ 51 3 + 1)) 33 13 (σ 51 3)) := by
  subst hm
  have g : ∀ k j, k ≠ 19 → k ≠ 59 → k ≠ 60 → k ≠ 51 → k ≠ 33 → (up (up (up (up (up τ 19 1 0) 59 (σ 51 3) (τ 19 5)) 60 (σ 51 3) (τ 19 6)) 51 3 (σ 51 3 + 1)) 33 13 (σ 51 3)) k j = τ k j := fun k j a b c d e => (up_cell e).trans ((up_cell d).trans ((up_cell c).trans ((up_cell b).trans (up_cell a))))
  have g59 : ∀ j, (up (up (up (up (up τ 19 1 0) 59 (σ 51 3) (τ 19 5)) 60 (σ 51 3) (τ 19 6)) 51 3 (σ 51 3 + 1)) 33 13 (σ 51 3)) 59 j = up (up τ 19 1 0) 59 (σ 51 3) (τ 19 5) 59 j := fun j => (up_cell (by decide)).trans ((up_cell (by decide)).trans (up_cell (by decide)))
  have g60 : ∀ j, (up (up (up (up (up τ 19 1 0) 59 (σ 51 3) (τ 19 5)) 60 (σ 51 3) (τ 19 6)) 51 3 (σ 51 3 + 1)) 33 13 (σ 51 3)) 60 j = up (up (up τ 19 1 0) 59 (σ 51 3) (τ 19 5)) 60 (σ 51 3) (τ 19 6) 60 j := fun j => (up_cell (by decide)).trans (up_cell (by decide))
  refine Or.inr ⟨hm6, ?_, fun k j h0 h1 h2 => (g k j (by omega) (by omega) (by omega) (by omega) (by omega)).trans (ho k j h0 h1 h2), ?_⟩
  · exact (up_cell (by decide)).trans ((up_cell (by decide)).trans ((up_cell (by decide)).trans ((up_cell (by decide)).trans up_same)))
  rcases h with ⟨p, p0, a, b⟩ | ⟨L, a, b, c, d⟩
  · omega
  · refine Or.inr ⟨L, a, rfl, (up_cell (by decide)).trans up_same, up_same, ?_, ?_, fun j hj => ?_, fun j hj => ?_⟩
    · rw [← c]
      unfold twX tkL
      rw [g59, up_same]
      exact List.map_congr_left (fun k _ => g _ _ (by omega) (by omega) (by omega) (by omega) (by omega))
    · rw [g60, up_same]; exact d
    · rw [g59]; exact (up_slot hj).trans ((up_cell (by decide)).trans (hf 59 j rfl))
    · rw [g60]; exact (up_slot hj).trans ((up_cell (by decide)).trans ((up_cell (by decide)).trans (hf 60 j rfl)))
