/-! a town's text: what both sides read of it -/
abbrev PR : Type := Int ⊕ (Int × List Int)
abbrev digB (f : Int → Int) (n p : Int) : Prop := p < n ∧ 48 ≤ f p ∧ f p ≤ 57
def numV (f : Int → Int) (n p : Int) : Int := if digB f n (p + 1) then (f p - 48) * 10 + (f (p + 1) - 48) else f p - 48
def numE (f : Int → Int) (n p : Int) : Int := if digB f n (p + 1) then p + 2 else p + 1
def ltF (c : Int) : Int := if c = 102 then 0 else if c = 104 then 1 else if c = 107 then 2 else if c = 118 then 3 else if c = 103 then 4 else if c = 99 then 5 else -1
def tstF (f : Int → Int) (n p : Int) : PR :=
  if ¬ (p < n ∧ 0 ≤ ltF (f p)) then .inl p
  else if ¬ (p + 1 < n ∧ 60 ≤ f (p + 1) ∧ f (p + 1) ≤ 62) then .inl (p + 1)
  else if ¬ digB f n (p + 2) then .inl (p + 2)
  else .inr ((numE f n (p + 2)), [1000 * ltF (f p) + 100 * (f (p + 1) - 60) + numV f n (p + 2)])
def eiF (P : Int → PR) (f : Int → Int) (n : Int) : Nat → Bool → Bool → Int → PR
  | 0, _, _, p => .inr (p, [])
  | m + 1, a, o, p => match P p with
    | .inl q => .inl q
    | .inr (q, l) =>
      if q < n ∧ f q = 38 then match eiF P f n m true o (q + 1) with
        | .inl q' => .inl q'
        | .inr (q', l') => .inr (q', (l ++ (if a then [-38] else []) ++ l'))
      else if q < n ∧ f q = 124 then match eiF P f n m false true (q + 1) with
        | .inl q' => .inl q'
        | .inr (q', l') => .inr (q', (l ++ (if a then [-38] else []) ++ (if o then [-124] else []) ++ l'))
      else .inr (q, (l ++ (if a then [-38] else []) ++ (if o then [-124] else [])))
def ptF (f : Int → Int) (n : Int) : Nat → Int → PR
  | 0, p => tstF f n p
  | j + 1, p =>
    if p < n ∧ f p = 33 then match ptF f n j (p + 1) with
      | .inl q => .inl q
      | .inr (q, l) => .inr (q, (l ++ [-33]))
    else if p < n ∧ f p = 40 then match eiF (ptF f n j) f n 100 false false (p + 1) with
      | .inl q => .inl q
      | .inr (q, l) => if q < n ∧ f q = 41 then .inr ((q + 1), l) else .inl q
    else tstF f n p
/-- the reference's machine -/
abbrev MC : Type := Bool × Int × List Int × Int × List Int
def whl : List Int → Nat
  | [] => 0
  | b :: s => if b = 33 then whl s + 1 else 0
def nots (k : Nat) : List Int := List.replicate k (-33)
def stl (b : Int) : List Int → List Int × List Int
  | [] => ([], [])
  | x :: s => if x = 38 ∨ (x = 124 ∧ b ≠ 38) then ((-x) :: (stl b s).1, (stl b s).2) else ([], x :: s)
def pk (f : Int → Int) (n p : Int) : Int := if p < n then f p else -1
def stp (f : Int → Int) (n : Int) (c : MC) : PR ⊕ MC :=
  if c.1 then
    if pk f n c.2.1 = 33 ∨ pk f n c.2.1 = 40 then
      if c.2.2.2.1 = 4 then .inl (.inl c.2.1) else .inr ⟨true, c.2.1 + 1, pk f n c.2.1 :: c.2.2.1, c.2.2.2.1 + 1, c.2.2.2.2⟩
    else match tstF f n c.2.1 with
      | .inl q => .inl (.inl q)
      | .inr (q, l) => .inr ⟨false, q, c.2.2.1.drop (whl c.2.2.1), c.2.2.2.1 - whl c.2.2.1, c.2.2.2.2 ++ l ++ nots (whl c.2.2.1)⟩
  else if pk f n c.2.1 = 38 ∨ pk f n c.2.1 = 124 then
    .inr ⟨true, c.2.1 + 1, pk f n c.2.1 :: (stl (pk f n c.2.1) c.2.2.1).2, c.2.2.2.1, c.2.2.2.2 ++ (stl (pk f n c.2.1) c.2.2.1).1⟩
  else match (stl 124 c.2.2.1).2 with
    | [] => .inl (.inr (c.2.1, (c.2.2.2.2 ++ (stl 124 c.2.2.1).1)))
    | _ :: s => if pk f n c.2.1 ≠ 41 then .inl (.inl c.2.1)
      else .inr ⟨false, c.2.1 + 1, s.drop (whl s), c.2.2.2.1 - 1 - whl s, c.2.2.2.2 ++ (stl 124 c.2.2.1).1 ++ nots (whl s)⟩
def mch (f : Int → Int) (n : Int) : Nat → MC → Option PR
  | 0, _ => none
  | k + 1, c => match stp f n c with
    | .inl r => some r
    | .inr c' => mch f n k c'
def Rch (f : Int → Int) (n : Int) (c : MC) (r : PR) : Prop := ∃ k, mch f n k c = some r
theorem rch_l {f n c r} (h : stp f n c = .inl r) : Rch f n c r := ⟨1, by unfold mch; rw [h]⟩
theorem rch_r {f n c c' r} (h : stp f n c = .inr c') (hr : Rch f n c' r) : Rch f n c r := by
  obtain ⟨k, hk⟩ := hr
  exact ⟨k + 1, by unfold mch; rw [h]; exact hk⟩
theorem mch_s {f n r} : ∀ {k : Nat} {c : MC}, mch f n k c = some r → mch f n (k + 1) c = some r
  | 0, c, h => by simp [mch] at h
  | k + 1, c, h => by
    unfold mch at h ⊢
    cases e : stp f n c with
    | inl x => rw [e] at h; exact h
    | inr c' => rw [e] at h; exact mch_s h
theorem mch_le {f n r} {k k' : Nat} {c : MC} (h : mch f n k c = some r) (hk : k ≤ k') : mch f n k' c = some r := by
  induction hk with
  | refl => exact h
  | step _ ih => exact mch_s ih
theorem rch_det {f n c r r'} (h : Rch f n c r) (h' : Rch f n c r') : r = r' := by
  obtain ⟨k, hk⟩ := h
  obtain ⟨k', hk'⟩ := h'
  have a := mch_le hk (Nat.le_max_left k k')
  have b := mch_le hk' (Nat.le_max_right k k')
  rw [a] at b
  exact Option.some.inj b
def hd33 (s : List Int) : Prop := ∀ x s', s = x :: s' → x ≠ 33
theorem whl_0 {s : List Int} (h : hd33 s) : whl s = 0 := by
  cases s with
  | nil => rfl
  | cons x t => exact if_neg (h x t rfl)
theorem whl_k {s : List Int} (h : hd33 s) : ∀ m, whl (List.replicate m 33 ++ s) = m
  | 0 => whl_0 h
  | m + 1 => by
    show (if (33 : Int) = 33 then whl (List.replicate m 33 ++ s) + 1 else 0) = m + 1
    rw [if_pos rfl, whl_k h m]
theorem drop_k {s : List Int} : ∀ m, (List.replicate m (33 : Int) ++ s).drop m = s
  | 0 => rfl
  | m + 1 => by
    show (33 :: (List.replicate m (33 : Int) ++ s)).drop (m + 1) = s
    exact drop_k m
theorem drop_k_whl {s : List Int} (h : hd33 s) {m : Nat} : (List.replicate m (33 : Int) ++ s).drop (whl (List.replicate m (33 : Int) ++ s)) = s := by
  rw [whl_k h]; exact drop_k m
theorem pk_33 {f n p} (h : ¬ (p < n ∧ f p = 33)) : pk f n p ≠ 33 := by
  unfold pk; split
  · intro e; exact h ⟨by assumption, e⟩
  · decide
theorem pk_c {f : Int → Int} {n p c : Int} (hc : 0 ≤ c) (h : ¬ (p < n ∧ f p = c)) : pk f n p ≠ c := by
  unfold pk; split
  · intro e; exact h ⟨by assumption, e⟩
  · omega
theorem pk_e {f : Int → Int} {n p c : Int} (h : p < n ∧ f p = c) : pk f n p = c := by
  unfold pk; rw [if_pos h.1]; exact h.2
theorem tst_bad {f n p} (h : pk f n p = 33 ∨ pk f n p = 40) : tstF f n p = .inl p := by
  unfold tstF
  rw [if_pos]
  intro ⟨h1, h2⟩
  unfold pk at h
  rw [if_pos h1] at h
  rcases h with h | h <;> rw [h] at h2 <;> exact absurd h2 (by decide)
/-- a test, with m nots due -/
theorem st_test {f n p q l S m o e r} (hS : hd33 S) (hw : ¬ (pk f n p = 33 ∨ pk f n p = 40)) (ht : tstF f n p = .inr (q, l)) (hr : Rch f n ⟨false, q, S, o - (m : Nat), e ++ l ++ nots m⟩ r) : Rch f n ⟨true, p, List.replicate m 33 ++ S, o, e⟩ r := by
  refine rch_r (c' := ⟨false, q, S, o - (m : Nat), e ++ l ++ nots m⟩) ?_ hr
  unfold stp
  simp only [if_true, ht, whl_k hS, drop_k]
  rw [if_neg hw]
theorem st_testb {f n p q s o e} (hw : ¬ (pk f n p = 33 ∨ pk f n p = 40)) (ht : tstF f n p = .inl q) : Rch f n ⟨true, p, s, o, e⟩ (.inl q) := by
  refine rch_l ?_
  unfold stp
  simp only [if_true, ht]
  rw [if_neg hw]
def opsL (a o : Bool) : List Int := (if a then [38] else []) ++ (if o then [124] else [])
def endS (S : List Int) : Prop := ∀ x s', S = x :: s' → x = 40
theorem stl_e {b : Int} {S : List Int} (h : endS S) : stl b S = ([], S) := by
  cases S with
  | nil => rfl
  | cons x t =>
    have := h x t rfl
    subst this
    exact if_neg (by omega)
theorem stl_38 {a o : Bool} {S : List Int} (h : endS S) : stl 38 (opsL a o ++ S) = ((if a then [-38] else []), (if o then [124] else []) ++ S) := by
  cases a <;> cases o <;> simp [opsL, stl, stl_e h]
theorem stl_124 {a o : Bool} {S : List Int} (h : endS S) : stl 124 (opsL a o ++ S) = ((if a then [-38] else []) ++ (if o then [-124] else []), S) := by
  cases a <;> cases o <;> simp [opsL, stl, stl_e h]
/-- what the machine does from a part on -/
def PtOK (f : Int → Int) (n : Int) (j : Nat) : Prop := ∀ (p : Int) (S : List Int) (m : Nat) (e : List Int), 0 ≤ p → hd33 S →
  (∀ q, ptF f n j p = .inl q → Rch f n ⟨true, p, List.replicate m 33 ++ S, 4 - (j : Int), e⟩ (.inl q)) ∧
  (∀ q l, ptF f n j p = .inr (q, l) → p < q ∧ (∀ r, Rch f n ⟨false, q, S, 4 - (j : Int) - (m : Nat), e ++ l ++ nots m⟩ r → Rch f n ⟨true, p, List.replicate m 33 ++ S, 4 - (j : Int), e⟩ r))
theorem ops_hd {a o : Bool} {S : List Int} (h : endS S) : hd33 (opsL a o ++ S) := by
  intro x s' hx
  cases a <;> cases o <;> simp [opsL] at hx
  · have := h x s' hx; omega
  · omega
  · omega
  · omega
theorem ei_ok {f n j} (hP : PtOK f n j) : ∀ (k : Nat) (a o : Bool) (p : Int) (S e : List Int), endS S → 0 ≤ p → (n - p).toNat < k →
    (∀ q, eiF (ptF f n j) f n k a o p = .inl q → Rch f n ⟨true, p, opsL a o ++ S, 4 - (j : Int), e⟩ (.inl q)) ∧
    (∀ q l, eiF (ptF f n j) f n k a o p = .inr (q, l) → p < q ∧ ((S = [] → Rch f n ⟨true, p, opsL a o ++ S, 4 - (j : Int), e⟩ (.inr (q, (e ++ l)))) ∧
      (∀ T, S = 40 :: T → (¬ (q < n ∧ f q = 41) → Rch f n ⟨true, p, opsL a o ++ S, 4 - (j : Int), e⟩ (.inl q)) ∧
        ((q < n ∧ f q = 41) → ∀ r, Rch f n ⟨false, q + 1, T.drop (whl T), 4 - (j : Int) - 1 - (whl T : Nat), e ++ l ++ nots (whl T)⟩ r → Rch f n ⟨true, p, opsL a o ++ S, 4 - (j : Int), e⟩ r))))
  | 0, _, _, _, _, _, _, _, hk => absurd hk (Nat.not_lt_zero _)
  | k + 1, a, o, p, S, e, hS, hp0, hk => by
    obtain ⟨p1, p2⟩ := hP p (opsL a o ++ S) 0 e hp0 (ops_hd hS)
    simp only [List.replicate, List.nil_append, nots, List.append_nil] at p1 p2
    unfold eiF
    cases hp : ptF f n j p with
    | inl q0 =>
      refine ⟨fun q h => ?_, fun q l h => ?_⟩
      · simp only [Sum.inl.injEq] at h; subst h; exact p1 _ hp
      · simp at h
    | inr z =>
      obtain ⟨q0, l0⟩ := z
      obtain ⟨hpq, p3⟩ := p2 q0 l0 hp
      rw [show (4 : Int) - (j : Int) - ((0 : Nat) : Int) = 4 - (j : Int) by omega] at p3
      simp only []
      by_cases h1 : q0 < n ∧ f q0 = 38
      · rw [if_pos h1]
        have hpk := pk_e h1
        have ih := ei_ok hP k true o (q0 + 1) S (e ++ l0 ++ (if a then [-38] else [])) hS (by omega) (by omega)
        have go : ∀ r, Rch f n ⟨true, q0 + 1, opsL true o ++ S, 4 - (j : Int), e ++ l0 ++ (if a then [-38] else [])⟩ r → Rch f n ⟨true, p, opsL a o ++ S, 4 - (j : Int), e⟩ r := fun r hr => p3 r (rch_r (by
          unfold stp
          simp only [hpk, stl_38 hS]
          rfl) hr)
        cases he : eiF (ptF f n j) f n k true o (q0 + 1) with
        | inl q' =>
          refine ⟨fun q h => ?_, fun q l h => ?_⟩
          · simp only [Sum.inl.injEq] at h; subst h; exact go _ (ih.1 _ he)
          · simp at h
        | inr z =>
          obtain ⟨q', l'⟩ := z
          refine ⟨fun q h => ?_, fun q l h => ?_⟩
          · simp at h
          · simp only [Sum.inr.injEq, Prod.mk.injEq] at h
            obtain ⟨rfl, rfl⟩ := h
            obtain ⟨i0, i1, i2⟩ := ih.2 _ _ he
            refine ⟨by omega, fun hs => ?_, fun T hT => ⟨fun hn => go _ ((i2 T hT).1 hn), fun hy r hr => go _ ((i2 T hT).2 hy r ?_)⟩⟩
            · have := go _ (i1 hs); simpa [List.append_assoc] using this
            · simpa [List.append_assoc] using hr
      · rw [if_neg h1]
        by_cases h2 : q0 < n ∧ f q0 = 124
        · rw [if_pos h2]
          have hpk := pk_e h2
          have ih := ei_ok hP k false true (q0 + 1) S (e ++ l0 ++ ((if a then [-38] else []) ++ (if o then [-124] else []))) hS (by omega) (by omega)
          have go : ∀ r, Rch f n ⟨true, q0 + 1, opsL false true ++ S, 4 - (j : Int), e ++ l0 ++ ((if a then [-38] else []) ++ (if o then [-124] else []))⟩ r → Rch f n ⟨true, p, opsL a o ++ S, 4 - (j : Int), e⟩ r := fun r hr => p3 r (rch_r (by
            unfold stp
            simp only [hpk, stl_124 hS]
            rfl) hr)
          cases he : eiF (ptF f n j) f n k false true (q0 + 1) with
          | inl q' =>
            refine ⟨fun q h => ?_, fun q l h => ?_⟩
            · simp only [Sum.inl.injEq] at h; subst h; exact go _ (ih.1 _ he)
            · simp at h
          | inr z =>
            obtain ⟨q', l'⟩ := z
            refine ⟨fun q h => ?_, fun q l h => ?_⟩
            · simp at h
            · simp only [Sum.inr.injEq, Prod.mk.injEq] at h
              obtain ⟨rfl, rfl⟩ := h
              obtain ⟨i0, i1, i2⟩ := ih.2 _ _ he
              refine ⟨by omega, fun hs => ?_, fun T hT => ⟨fun hn => go _ ((i2 T hT).1 hn), fun hy r hr => go _ ((i2 T hT).2 hy r ?_)⟩⟩
              · have := go _ (i1 hs); simpa [List.append_assoc] using this
              · simpa [List.append_assoc] using hr
        · rw [if_neg h2]
          have k1 := pk_c (f := f) (by decide) h1
          have k2 := pk_c (f := f) (by decide) h2
          refine ⟨fun q h => by simp at h, fun q l h => ?_⟩
          simp only [Sum.inr.injEq, Prod.mk.injEq] at h
          obtain ⟨rfl, rfl⟩ := h
          refine ⟨hpq, fun hs => ?_, fun T hT => ⟨fun hn => ?_, fun hy r hr => ?_⟩⟩
          · subst hs
            refine p3 _ (rch_l ?_)
            unfold stp
            simp only [stl_124 hS, k1, k2]
            simp [List.append_assoc]
          · subst hT
            have k3 := pk_c (f := f) (by decide) hn
            refine p3 _ (rch_l ?_)
            unfold stp
            simp only [stl_124 hS, k1, k2]
            simp [k3]
          · subst hT
            have k3 := pk_e hy
            refine p3 _ (rch_r (c' := ⟨false, q0 + 1, T.drop (whl T), 4 - (j : Int) - 1 - (whl T : Nat), e ++ (l0 ++ (if a then [-38] else []) ++ (if o then [-124] else [])) ++ nots (whl T)⟩) ?_ hr)
            unfold stp
            simp only [stl_124 hS, k1, k2]
            simp [k3, List.append_assoc]
theorem tst_lt {f n p q l} (h : tstF f n p = .inr (q, l)) : p < q := by
  unfold tstF at h
  split at h
  · simp at h
  · split at h
    · simp at h
    · split at h
      · simp at h
      · simp only [Sum.inr.injEq, Prod.mk.injEq] at h
        have := h.1
        unfold numE at this
        split at this <;> omega
theorem pt_ok {f : Int → Int} {n : Int} (hn : n ≤ 100) : ∀ (j : Nat), j ≤ 4 → PtOK f n j
  | 0, _ => by
    intro p S m e hp0 hS
    unfold ptF
    by_cases hw : pk f n p = 33 ∨ pk f n p = 40
    · rw [tst_bad hw]
      refine ⟨fun q h => ?_, fun q l h => by simp at h⟩
      simp only [Sum.inl.injEq] at h
      subst h
      refine rch_l ?_
      unfold stp
      simp only [if_true]
      rw [if_pos hw, if_pos (by omega)]
    · refine ⟨fun q h => st_testb hw h, fun q l h => ⟨tst_lt h, fun r hr => st_test hS hw h hr⟩⟩
  | j + 1, hj => by
    have ih := pt_ok (f := f) hn j (by omega)
    intro p S m e hp0 hS
    unfold ptF
    by_cases h1 : p < n ∧ f p = 33
    · rw [if_pos h1]
      have hpk := pk_e h1
      obtain ⟨i1, i2⟩ := ih (p + 1) S (m + 1) e (by omega) hS
      have go : ∀ r, Rch f n ⟨true, p + 1, List.replicate (m + 1) 33 ++ S, 4 - (j : Int), e⟩ r → Rch f n ⟨true, p, List.replicate m 33 ++ S, 4 - ((j + 1 : Nat) : Int), e⟩ r := fun r hr => rch_r (by
        unfold stp
        simp only [if_true, hpk]
        rw [if_pos (by simp), if_neg (by omega), show (4 : Int) - ((j + 1 : Nat) : Int) + 1 = 4 - (j : Int) by omega]
        rfl) hr
      cases he : ptF f n j (p + 1) with
      | inl q' =>
        refine ⟨fun q h => ?_, fun q l h => by simp at h⟩
        simp only [Sum.inl.injEq] at h; subst h; exact go _ (i1 _ he)
      | inr z =>
        obtain ⟨q', l'⟩ := z
        refine ⟨fun q h => by simp at h, fun q l h => ?_⟩
        simp only [Sum.inr.injEq, Prod.mk.injEq] at h
        obtain ⟨rfl, rfl⟩ := h
        obtain ⟨i3, i4⟩ := i2 _ _ he
        refine ⟨by omega, fun r hr => go _ (i4 r ?_)⟩
        have e1 : (4 : Int) - (j : Int) - ((m + 1 : Nat) : Int) = 4 - ((j + 1 : Nat) : Int) - (m : Nat) := by omega
        rw [e1]
        simpa [nots, List.replicate_succ, List.append_assoc] using hr
    · rw [if_neg h1]
      by_cases h2 : p < n ∧ f p = 40
      · rw [if_pos h2]
        have hpk := pk_e h2
        have hT : endS (40 :: (List.replicate m 33 ++ S)) := fun x s' h => by
          simp only [List.cons.injEq] at h; exact h.1.symm
        obtain ⟨i1, i2⟩ := ei_ok ih 100 false false (p + 1) (40 :: (List.replicate m 33 ++ S)) e hT (by omega) (by omega)
        have go : ∀ r, Rch f n ⟨true, p + 1, opsL false false ++ 40 :: (List.replicate m 33 ++ S), 4 - (j : Int), e⟩ r → Rch f n ⟨true, p, List.replicate m 33 ++ S, 4 - ((j + 1 : Nat) : Int), e⟩ r := fun r hr => rch_r (by
          unfold stp
          simp only [if_true, hpk]
          rw [if_pos (by simp), if_neg (by omega), show (4 : Int) - ((j + 1 : Nat) : Int) + 1 = 4 - (j : Int) by omega]
          rfl) hr
        cases he : eiF (ptF f n j) f n 100 false false (p + 1) with
        | inl q' =>
          refine ⟨fun q h => ?_, fun q l h => by simp at h⟩
          simp only [Sum.inl.injEq] at h; subst h; exact go _ (i1 _ he)
        | inr z =>
          obtain ⟨q', l'⟩ := z
          obtain ⟨i3, i4, i5⟩ := i2 _ _ he
          obtain ⟨i6, i7⟩ := i5 _ rfl
          simp only []
          by_cases h3 : q' < n ∧ f q' = 41
          · rw [if_pos h3]
            refine ⟨fun q h => by simp at h, fun q l h => ?_⟩
            simp only [Sum.inr.injEq, Prod.mk.injEq] at h
            obtain ⟨rfl, rfl⟩ := h
            refine ⟨by omega, fun r hr => go _ (i7 h3 r ?_)⟩
            rw [drop_k_whl hS, whl_k hS]
            have e1 : (4 : Int) - (j : Int) - 1 - (m : Nat) = 4 - ((j + 1 : Nat) : Int) - (m : Nat) := by omega
            rw [e1]
            exact hr
          · rw [if_neg h3]
            refine ⟨fun q h => ?_, fun q l h => by simp at h⟩
            simp only [Sum.inl.injEq] at h; subst h; exact go _ (i6 h3)
      · rw [if_neg h2]
        have hw : ¬ (pk f n p = 33 ∨ pk f n p = 40) := by
          have a := pk_c (f := f) (by decide) h1
          have b := pk_c (f := f) (by decide) h2
          omega
        refine ⟨fun q h => st_testb hw h, fun q l h => ⟨tst_lt h, fun r hr => st_test hS hw h hr⟩⟩
/-- a whole expression: the machine answers what the descent does -/
theorem ex_ok {f n} (hn : n ≤ 100) {p : Int} (hp : 0 ≤ p) : Rch f n ⟨true, p, [], 0, []⟩ (eiF (ptF f n 4) f n 100 false false p) ∨ (100 ≤ (n - p).toNat) := by
  by_cases hb : 100 ≤ (n - p).toNat
  · exact Or.inr hb
  · refine Or.inl ?_
    obtain ⟨i1, i2⟩ := ei_ok (pt_ok hn 4 (by omega)) 100 false false p [] [] (fun x s' h => by simp at h) hp (by omega)
    have e4 : (4 : Int) - ((4 : Nat) : Int) = 0 := by omega
    rw [e4] at i1 i2
    cases he : eiF (ptF f n 4) f n 100 false false p with
    | inl q => exact i1 q he
    | inr z =>
      obtain ⟨q, l⟩ := z
      have := (i2 q l he).2.1 rfl; simpa [opsL] using this
theorem tst_len {f n p q l} (h : tstF f n p = .inr (q, l)) : (l.length : Int) ≤ q - p ∧ q ≤ n := by
  unfold tstF at h
  split at h
  · simp at h
  · split at h
    · simp at h
    · rename_i h1 h2
      split at h
      · simp at h
      · rename_i h3
        simp only [Sum.inr.injEq, Prod.mk.injEq] at h
        obtain ⟨h4, h5⟩ := h
        have h3' : digB f n (p + 2) := Classical.byContradiction h3
        unfold digB at h3'
        subst h5
        unfold numE at h4
        split at h4
        · rename_i h6; unfold digB at h6; simp; omega
        · simp; omega
theorem ei_len {P : Int → PR} {f : Int → Int} {n : Int} (hP : ∀ p q l, P p = .inr (q, l) → (l.length : Int) ≤ q - p ∧ q ≤ n) : ∀ (k : Nat) (a o : Bool) (p q : Int) (l : List Int), p ≤ n → eiF P f n k a o p = .inr (q, l) → (l.length : Int) ≤ q - p + (if a then 1 else 0) + (if o then 1 else 0) ∧ q ≤ n
  | 0, a, o, p, q, l, hp, h => by
    unfold eiF at h
    simp only [Sum.inr.injEq, Prod.mk.injEq] at h
    obtain ⟨rfl, rfl⟩ := h
    cases a <;> cases o <;> simp <;> exact hp
  | k + 1, a, o, p, q, l, hp, h => by
    unfold eiF at h
    cases e : P p with
    | inl q0 => rw [e] at h; simp at h
    | inr z =>
      obtain ⟨q0, l0⟩ := z
      rw [e] at h
      simp only [] at h
      have h0 := hP _ _ _ e
      split at h
      · rename_i hc
        cases e2 : eiF P f n k true o (q0 + 1) with
        | inl _ => rw [e2] at h; simp at h
        | inr z =>
          obtain ⟨q1, l1⟩ := z
          rw [e2] at h
          simp only [Sum.inr.injEq, Prod.mk.injEq] at h
          obtain ⟨rfl, rfl⟩ := h
          have := ei_len hP k true o (q0 + 1) q1 l1 (by omega) e2
          cases a <;> cases o <;> simp at this ⊢ <;> omega
      · split at h
        · rename_i hc
          cases e2 : eiF P f n k false true (q0 + 1) with
          | inl _ => rw [e2] at h; simp at h
          | inr z =>
            obtain ⟨q1, l1⟩ := z
            rw [e2] at h
            simp only [Sum.inr.injEq, Prod.mk.injEq] at h
            obtain ⟨rfl, rfl⟩ := h
            have := ei_len hP k false true (q0 + 1) q1 l1 (by omega) e2
            cases a <;> cases o <;> simp at this ⊢ <;> omega
        · simp only [Sum.inr.injEq, Prod.mk.injEq] at h
          obtain ⟨rfl, rfl⟩ := h
          cases a <;> cases o <;> simp <;> omega
theorem pt_len {f : Int → Int} {n : Int} : ∀ (j : Nat) (p q : Int) (l : List Int), ptF f n j p = .inr (q, l) → (l.length : Int) ≤ q - p ∧ q ≤ n
  | 0, p, q, l, h => tst_len h
  | j + 1, p, q, l, h => by
    unfold ptF at h
    split at h
    · rename_i hc
      cases e : ptF f n j (p + 1) with
      | inl _ => rw [e] at h; simp at h
      | inr z =>
        obtain ⟨q0, l0⟩ := z
        rw [e] at h
        simp only [Sum.inr.injEq, Prod.mk.injEq] at h
        obtain ⟨rfl, rfl⟩ := h
        have := pt_len j _ _ _ e
        simp; omega
    · split at h
      · rename_i hc
        cases e : eiF (ptF f n j) f n 100 false false (p + 1) with
        | inl _ => rw [e] at h; simp at h
        | inr z =>
          obtain ⟨q0, l0⟩ := z
          rw [e] at h
          simp only [] at h
          split at h
          · rename_i hc2
            simp only [Sum.inr.injEq, Prod.mk.injEq] at h
            obtain ⟨rfl, rfl⟩ := h
            have := ei_len (fun p q l h => pt_len j p q l h) 100 false false (p + 1) q0 l0 (by omega) e
            simp at this; omega
          · simp at h
      · exact tst_len h
/-! words, clauses, a text -/
def wdF (f : Int → Int) (n : Int) : List Int → Int → PR
  | [], p => .inr (p, [])
  | c :: cs, p => if p < n ∧ f p = c then wdF f n cs (p + 1) else .inl p
abbrev CR : Type := Int ⊕ (Int × Int × Int × List Int)
def cl2F (f : Int → Int) (n w : Int) (q : Int) : CR :=
  if ¬ digB f n q then .inl q
  else if w = 2 then .inr ((numE f n q), 2, (numV f n q), [])
  else if ¬ (numE f n q < n ∧ f (numE f n q) = 32) then .inl (numE f n q)
  else match eiF (ptF f n 4) f n 100 false false (numE f n q + 1) with
    | .inl q' => .inl q'
    | .inr (q', l) => .inr (q', w, (numV f n q), l)
def clF (f : Int → Int) (n p : Int) : CR :=
  if p < n ∧ f p = 99 then match wdF f n [111, 117, 110, 116, 32] (p + 1) with
    | .inl q => .inl q
    | .inr (q, _) => cl2F f n 0 q
  else if p < n ∧ f p = 119 then match wdF f n [97, 108, 107, 32] (p + 1) with
    | .inl q => .inl q
    | .inr (q, _) => cl2F f n 1 q
  else match wdF f n [100, 97, 119, 110, 32] p with
    | .inl q => .inl q
    | .inr (q, _) => cl2F f n 2 q
abbrev TR : Type := Int ⊕ List (Int × Int × List Int)
def txF (f : Int → Int) (n : Int) : Nat → Int → TR
  | 0, p => .inl p
  | m + 1, p => match clF f n p with
    | .inl q => .inl q
    | .inr (q, w, v, l) =>
      if n ≤ q then .inr [(w, v, l)]
      else if m = 0 ∨ f q ≠ 59 then .inl q
      else match txF f n m (q + 1) with
        | .inl q' => .inl q'
        | .inr L => .inr ((w, v, l) :: L)
/-- the class's token for a sign of the reference's -/
def kcF (r : Int) : Int := if r = -33 then 1800 else if r = -38 then 1900 else if r = -124 then 2000 else (Int.tdiv r 1000 * 3 + Int.tmod (Int.tdiv r 100) 10) * 100 + Int.tmod r 100
/-- the class's tokens of a text -/
def tksF : List (Int × Int × List Int) → List Int
  | [] => []
  | (w, v, l) :: L => l.map kcF ++ (if w = 2 then [] else [(21 + w) * 100 + v]) ++ tksF L
def dwF (d : Int) : List (Int × Int × List Int) → Int
  | [] => d
  | (w, v, _) :: L => dwF (if w = 2 then v else d) L
theorem wd_len {f : Int → Int} {n : Int} : ∀ (cs : List Int) (p q : Int) (l : List Int), p ≤ n → wdF f n cs p = .inr (q, l) → q = p + cs.length ∧ l = [] ∧ q ≤ n
  | [], p, q, l, hp, h => by
    unfold wdF at h
    simp only [Sum.inr.injEq, Prod.mk.injEq] at h
    obtain ⟨rfl, rfl⟩ := h
    simp; exact hp
  | c :: cs, p, q, l, hp, h => by
    unfold wdF at h
    split at h
    · rename_i hc
      obtain ⟨a, b, c⟩ := wd_len cs (p + 1) q l (by omega) h
      refine ⟨?_, b, c⟩
      rw [List.length_cons]; omega
    · simp at h
theorem num_le {f : Int → Int} {n p : Int} (h : digB f n p) : p < numE f n p ∧ numE f n p ≤ n := by
  unfold digB at h
  unfold numE
  split
  · rename_i h2; unfold digB at h2; omega
  · omega
theorem num_b {f : Int → Int} {n p : Int} (h : digB f n p) : 0 ≤ numV f n p ∧ numV f n p ≤ 99 := by
  unfold digB at h
  unfold numV
  split
  · rename_i h2; unfold digB at h2; omega
  · omega
theorem cl2_len {f : Int → Int} {n w p q w' v : Int} {l : List Int} (h : cl2F f n w p = .inr (q, w', v, l)) : w' = w ∧ (l.length : Int) + 1 ≤ q - p ∧ q ≤ n ∧ 0 ≤ v ∧ v ≤ 99 ∧ (w = 2 → l = []) := by
  unfold cl2F at h
  split at h
  · simp at h
  · rename_i h1
    have h1' := Classical.not_not.mp h1
    have hn := num_le h1'
    have hb := num_b h1'
    split at h
    · rename_i h2
      simp only [Sum.inr.injEq, Prod.mk.injEq] at h
      obtain ⟨rfl, rfl, rfl, rfl⟩ := h
      refine ⟨h2.symm, ?_, hn.2, hb.1, hb.2, fun _ => rfl⟩
      simp; omega
    · rename_i h2
      split at h
      · simp at h
      · rename_i h3
        have h3' := Classical.not_not.mp h3
        cases e : eiF (ptF f n 4) f n 100 false false (numE f n p + 1) with
        | inl _ => rw [e] at h; simp at h
        | inr z =>
          obtain ⟨q0, l0⟩ := z
          rw [e] at h
          simp only [Sum.inr.injEq, Prod.mk.injEq] at h
          obtain ⟨rfl, rfl, rfl, rfl⟩ := h
          have := ei_len (fun p q l h => pt_len 4 p q l h) 100 false false (numE f n p + 1) q0 l0 (by omega) e
          simp at this
          exact ⟨rfl, by omega, this.2, hb.1, hb.2, fun e => absurd e h2⟩
theorem cl_len {f : Int → Int} {n p q w v : Int} {l : List Int} (hp : p ≤ n) (h : clF f n p = .inr (q, w, v, l)) : (w = 0 ∨ w = 1 ∨ w = 2) ∧ (l.length : Int) + 1 ≤ q - p ∧ q ≤ n ∧ 0 ≤ v ∧ v ≤ 99 ∧ (w = 2 → l = []) := by
  unfold clF at h
  split at h
  · rename_i hc
    cases e : wdF f n [111, 117, 110, 116, 32] (p + 1) with
    | inl _ => rw [e] at h; simp at h
    | inr z =>
      obtain ⟨q0, l0⟩ := z
      rw [e] at h
      have h1 := wd_len _ _ _ _ (by omega) e
      have h2 := cl2_len h
      exact ⟨Or.inl h2.1, by have := h1.1; simp at this; omega, h2.2.2.1, h2.2.2.2.1, h2.2.2.2.2.1, fun e => by omega⟩
  · split at h
    · rename_i hc
      cases e : wdF f n [97, 108, 107, 32] (p + 1) with
      | inl _ => rw [e] at h; simp at h
      | inr z =>
        obtain ⟨q0, l0⟩ := z
        rw [e] at h
        have h1 := wd_len _ _ _ _ (by omega) e
        have h2 := cl2_len h
        exact ⟨Or.inr (Or.inl h2.1), by have := h1.1; simp at this; omega, h2.2.2.1, h2.2.2.2.1, h2.2.2.2.2.1, fun e => by omega⟩
    · cases e : wdF f n [100, 97, 119, 110, 32] p with
      | inl _ => rw [e] at h; simp at h
      | inr z =>
        obtain ⟨q0, l0⟩ := z
        rw [e] at h
        have h1 := wd_len _ _ _ _ (by omega) e
        have h2 := cl2_len h
        exact ⟨Or.inr (Or.inr h2.1), by have := h1.1; simp at this; omega, h2.2.2.1, h2.2.2.2.1, h2.2.2.2.2.1, fun _ => h2.2.2.2.2.2 rfl⟩
