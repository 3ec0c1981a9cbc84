/-! signs that are well formed: both sides come to the same -/
def okT (t : Int) : Prop := ∃ a b c : Int, (0 ≤ a ∧ a ≤ 5) ∧ (0 ≤ b ∧ b ≤ 2) ∧ (0 ≤ c ∧ c ≤ 99) ∧ t = 1000 * a + 100 * b + c
def wfT (D : Nat) : Nat → List Int → Nat → Prop
  | n, [], m => n = m
  | n, t :: l, m => (t = -33 ∧ 1 ≤ n ∧ wfT D n l m) ∨ ((t = -38 ∨ t = -124) ∧ 2 ≤ n ∧ wfT D (n - 1) l m) ∨ (okT t ∧ n + 1 ≤ D ∧ wfT D (n + 1) l m)
theorem wf_app {D : Nat} : ∀ {l1 l2 : List Int} {n k m : Nat}, wfT D n l1 k → wfT D k l2 m → wfT D n (l1 ++ l2) m
  | [], l2, n, k, m, h1, h2 => by
    have e : n = k := h1
    subst e; exact h2
  | t :: l1, l2, n, k, m, h1, h2 => by
    rcases h1 with ⟨a, b, c⟩ | ⟨a, b, c⟩ | ⟨a, b, c⟩
    · exact Or.inl ⟨a, b, wf_app c h2⟩
    · exact Or.inr (Or.inl ⟨a, b, wf_app c h2⟩)
    · exact Or.inr (Or.inr ⟨a, b, wf_app c h2⟩)
theorem lt_b {c : Int} (h : 0 ≤ ltF c) : ltF c ≤ 5 := by
  unfold ltF at h ⊢
  repeat (split at h; omega)
  omega
theorem wf_tst {f : Int → Int} {n p q : Int} {l : List Int} {D k : Nat} (h : tstF f n p = .inr (q, l)) (hD : k + 1 ≤ D) : wfT D k l (k + 1) := by
  unfold tstF at h
  split at h
  · simp at h
  · split at h
    · simp at h
    · rename_i h1 h2
      split at h
      · simp at h
      · rename_i h3
        simp only [Sum.inr.injEq, Prod.mk.injEq] at h
        obtain ⟨-, h5⟩ := h
        subst h5
        have h1' := Classical.not_not.mp h1
        have h2' := Classical.not_not.mp h2
        have hb := num_b (Classical.not_not.mp h3)
        exact Or.inr (Or.inr ⟨⟨ltF (f p), f (p + 1) - 60, numV f n (p + 2), ⟨h1'.2, lt_b h1'.2⟩, ⟨by omega, by omega⟩, hb, rfl⟩, hD, rfl⟩)
def bN (a : Bool) : Nat := if a then 1 else 0
theorem wf_ei {P : Int → PR} {f : Int → Int} {n : Int} {D j : Nat} (hP : ∀ p q l, 0 ≤ p → P p = .inr (q, l) → p < q ∧ ∀ k, k + j ≤ D → wfT D k l (k + 1)) : ∀ (m : Nat) (a o : Bool) (p q : Int) (l : List Int), 0 ≤ p → (n - p).toNat < m → eiF P f n m a o p = .inr (q, l) → p < q ∧ ∀ k, k + 2 + j ≤ D → wfT D (k + bN a + bN o) l (k + 1)
  | 0, _, _, _, _, _, _, h, _ => absurd h (Nat.not_lt_zero _)
  | m + 1, a, o, p, q, l, hp, hm, h => by
    have hba : bN a ≤ 1 := by cases a <;> decide
    have hbo : bN o ≤ 1 := by cases o <;> decide
    unfold eiF at h
    cases e : P p with
    | inl q0 => rw [e] at h; simp at h
    | inr z =>
      obtain ⟨q0, l0⟩ := z
      rw [e] at h
      simp only [] at h
      obtain ⟨hpq, hl0⟩ := hP _ _ _ hp e
      have wa : ∀ k, k + 2 + j ≤ D → wfT D (k + bN a + bN o) (l0 ++ (if a then [-38] else [])) (k + bN o + 1) := fun k hD => by
        refine wf_app (hl0 (k + bN a + bN o) (by omega)) ?_
        cases a
        · show k + 0 + bN o + 1 = k + bN o + 1
          omega
        · exact Or.inr (Or.inl ⟨Or.inl rfl, by show 2 ≤ k + 1 + bN o + 1; omega, by show k + 1 + bN o + 1 - 1 = k + bN o + 1; omega⟩)
      have wo : ∀ k, wfT D (k + bN o + 1) (if o then [-124] else []) (k + 1) := fun k => by
        cases o
        · show k + 0 + 1 = k + 1
          omega
        · exact Or.inr (Or.inl ⟨Or.inr rfl, by show 2 ≤ k + 1 + 1; omega, by show k + 1 + 1 - 1 = k + 1; omega⟩)
      split at h
      · rename_i hc
        cases e2 : eiF P f n m true o (q0 + 1) with
        | inl _ => rw [e2] at h; simp at h
        | inr z =>
          obtain ⟨q1, l1⟩ := z
          rw [e2] at h
          simp only [Sum.inr.injEq, Prod.mk.injEq] at h
          obtain ⟨rfl, rfl⟩ := h
          obtain ⟨i1, i2⟩ := wf_ei hP m true o (q0 + 1) q1 l1 (by omega) (by omega) e2
          refine ⟨by omega, fun k hD => wf_app (wa k hD) ?_⟩
          rw [show k + bN o + 1 = k + bN true + bN o by show k + bN o + 1 = k + 1 + bN o; omega]
          exact i2 k hD
      · split at h
        · rename_i hc
          cases e2 : eiF P f n m false true (q0 + 1) with
          | inl _ => rw [e2] at h; simp at h
          | inr z =>
            obtain ⟨q1, l1⟩ := z
            rw [e2] at h
            simp only [Sum.inr.injEq, Prod.mk.injEq] at h
            obtain ⟨rfl, rfl⟩ := h
            obtain ⟨i1, i2⟩ := wf_ei hP m false true (q0 + 1) q1 l1 (by omega) (by omega) e2
            exact ⟨by omega, fun k hD => wf_app (wf_app (wa k hD) (wo k)) (i2 k hD)⟩
        · simp only [Sum.inr.injEq, Prod.mk.injEq] at h
          obtain ⟨rfl, rfl⟩ := h
          exact ⟨hpq, fun k hD => wf_app (wa k hD) (wo k)⟩
theorem wf_pt {f : Int → Int} {n : Int} {D : Nat} (hn : n ≤ 100) : ∀ (j : Nat) (p q : Int) (l : List Int), 0 ≤ p → ptF f n j p = .inr (q, l) → p < q ∧ ∀ k, k + (1 + 2 * j) ≤ D → wfT D k l (k + 1)
  | 0, p, q, l, hp, h => ⟨tst_lt h, fun k hk => wf_tst h (by omega)⟩
  | j + 1, p, q, l, hp, h => by
    unfold ptF at h
    split at h
    · rename_i hc
      cases e : ptF f n j (p + 1) with
      | inl _ => rw [e] at h; simp at h
      | inr z =>
        obtain ⟨q0, l0⟩ := z
        rw [e] at h
        simp only [Sum.inr.injEq, Prod.mk.injEq] at h
        obtain ⟨rfl, rfl⟩ := h
        obtain ⟨h1, h2⟩ := wf_pt hn j _ _ _ (by omega) e
        exact ⟨by omega, fun k hk => wf_app (h2 k (by omega)) (Or.inl ⟨rfl, by omega, rfl⟩)⟩
    · split at h
      · rename_i hc
        cases e : eiF (ptF f n j) f n 100 false false (p + 1) with
        | inl _ => rw [e] at h; simp at h
        | inr z =>
          obtain ⟨q0, l0⟩ := z
          rw [e] at h
          simp only [] at h
          split at h
          · simp only [Sum.inr.injEq, Prod.mk.injEq] at h
            obtain ⟨rfl, rfl⟩ := h
            obtain ⟨i1, i2⟩ := wf_ei (j := 1 + 2 * j) (fun p q l hp h => wf_pt hn j p q l hp h) 100 false false (p + 1) q0 l0 (by omega) (by omega) e
            exact ⟨by omega, fun k hk => i2 k (by omega)⟩
          · simp at h
      · exact ⟨tst_lt h, fun k hk => wf_tst h (by omega)⟩
theorem wf_cl {f : Int → Int} {n p q w v : Int} {l : List Int} (hn : n ≤ 100) (hp : 0 ≤ p ∧ p ≤ n) (h : clF f n p = .inr (q, w, v, l)) : (w = 2 ∧ l = []) ∨ ((w = 0 ∨ w = 1) ∧ wfT 11 0 l 1) := by
  rw [cl_hd] at h
  cases e : wdF f n (wdlF (hwF f n p)) p with
  | inl _ => rw [e] at h; simp at h
  | inr z =>
    obtain ⟨q0, l0⟩ := z
    rw [e] at h
    simp only [] at h
    have hw := wd_len _ _ _ _ hp.2 e
    have hc := cl2_len h
    have hh : hwF f n p = 0 ∨ hwF f n p = 1 ∨ hwF f n p = 2 := by
      unfold hwF
      split
      · exact Or.inl rfl
      · split
        · exact Or.inr (Or.inl rfl)
        · exact Or.inr (Or.inr rfl)
    by_cases h2 : hwF f n p = 2
    · exact Or.inl ⟨hc.1.trans h2, hc.2.2.2.2.2 h2⟩
    · refine Or.inr ⟨by have := hc.1; omega, ?_⟩
      unfold cl2F at h
      split at h
      · simp at h
      · rename_i h1
        have hnl := num_le (Classical.not_not.mp h1)
        try rw [if_neg h2] at h
        split at h
        · simp at h
        · rename_i h3
          have h3' := Classical.not_not.mp h3
          cases e2 : eiF (ptF f n 4) f n 100 false false (numE f n q0 + 1) with
          | inl _ => rw [e2] at h; simp at h
          | inr z =>
            obtain ⟨q1, l1⟩ := z
            rw [e2] at h
            simp only [Sum.inr.injEq, Prod.mk.injEq] at h
            obtain ⟨-, -, -, rfl⟩ := h
            exact (wf_ei (D := 11) (j := 1 + 2 * 4) (fun p q l hp h => wf_pt hn 4 p q l hp h) 100 false false _ q1 l1 (by omega) (by omega) e2).2 0 (by omega)
/-- a clause as it is read -/
def wfC (c : Int × Int × List Int) : Prop := (0 ≤ c.2.1 ∧ c.2.1 ≤ 99) ∧ ((c.1 = 2 ∧ c.2.2 = []) ∨ ((c.1 = 0 ∨ c.1 = 1) ∧ wfT 11 0 c.2.2 1))
theorem wf_tx {f : Int → Int} {n : Int} (hn : n ≤ 100) : ∀ (m : Nat) (p : Int) (L : List (Int × Int × List Int)), 0 ≤ p ∧ p ≤ n → txF f n m p = .inr L → ∀ c ∈ L, wfC c
  | 0, p, L, hp, h => by simp [txF] at h
  | m + 1, p, L, hp, h => by
    unfold txF at h
    cases e : clF f n p with
    | inl _ => rw [e] at h; simp at h
    | inr z =>
      obtain ⟨q, w, v, l⟩ := z
      rw [e] at h
      simp only [] at h
      have hl := cl_len hp.2 e
      have hc : wfC (w, v, l) := ⟨⟨hl.2.2.2.1, hl.2.2.2.2.1⟩, wf_cl hn hp e⟩
      split at h
      · simp only [Sum.inr.injEq] at h
        subst h
        intro c hc'
        rw [List.mem_singleton.mp hc']; exact hc
      · rename_i hq
        split at h
        · simp at h
        · cases e2 : txF f n m (q + 1) with
          | inl _ => rw [e2] at h; simp at h
          | inr L' =>
            rw [e2] at h
            simp only [Sum.inr.injEq] at h
            subst h
            intro c hc'
            rcases List.mem_cons.mp hc' with rfl | hc'
            · exact hc
            · exact wf_tx hn m (q + 1) L' (by omega) e2 c hc'
/-! the class's bits beside the reference's pile -/
def knF : List Int → Int
  | [] => 0
  | b :: s => 2 * knF s + b
def bits (s : List Int) : Prop := ∀ b ∈ s, b = 0 ∨ b = 1
theorem bits_c {b : Int} {s : List Int} (h : bits (b :: s)) : (b = 0 ∨ b = 1) ∧ bits s := ⟨h b List.mem_cons_self, fun x hx => h x (List.mem_cons_of_mem _ hx)⟩
theorem bits_m {b : Int} {s : List Int} (hb : b = 0 ∨ b = 1) (h : bits s) : bits (b :: s) := fun x hx => by
  rcases List.mem_cons.mp hx with rfl | hx
  · exact hb
  · exact h x hx
theorem kn_b : ∀ {s : List Int} {m : Nat}, bits s → s.length ≤ m → 0 ≤ knF s ∧ knF s < 2 ^ m
  | [], m, _, _ => by
    show 0 ≤ (0 : Int) ∧ (0 : Int) < 2 ^ m
    exact ⟨Int.le_refl 0, Int.pow_pos (by decide)⟩
  | b :: s, 0, _, h => by simp at h
  | b :: s, m + 1, hb, h => by
    obtain ⟨b1, b2⟩ := bits_c hb
    obtain ⟨i1, i2⟩ := kn_b (m := m) b2 (by simpa using h)
    show 0 ≤ 2 * knF s + b ∧ 2 * knF s + b < 2 ^ (m + 1)
    rw [Int.pow_succ]
    omega
theorem kb_all : ∀ (x : Fin 1024) (b : Fin 2), zxor (2 * (x.1 : Int) + b.1) 1 = 2 * (x.1 : Int) + (1 - b.1) ∧ zshr (2 * (x.1 : Int) + b.1) 1 = x.1 ∧ zand (2 * (x.1 : Int) + b.1) 1 = b.1 ∧ zor (zshl (x.1 : Int) 1) b.1 = 2 * (x.1 : Int) + b.1 := by decide +kernel
theorem kb_and : ∀ (x : Fin 512) (c b : Fin 2), zand (zshr (2 * (2 * (x.1 : Int) + c.1) + b.1) 1) (zor (2 * (2 * (x.1 : Int) + c.1) + b.1) (-2)) = 2 * (x.1 : Int) + (if (c.1 : Int) ≠ 0 ∧ (b.1 : Int) ≠ 0 then 1 else 0) ∧ zor (zshr (2 * (2 * (x.1 : Int) + c.1) + b.1) 1) (zand (2 * (2 * (x.1 : Int) + c.1) + b.1) 1) = 2 * (x.1 : Int) + (if (c.1 : Int) ≠ 0 ∨ (b.1 : Int) ≠ 0 then 1 else 0) := by decide +kernel
theorem kb {x b : Int} (hx : 0 ≤ x ∧ x < 1024) (hb : b = 0 ∨ b = 1) : zxor (2 * x + b) 1 = 2 * x + (1 - b) ∧ zshr (2 * x + b) 1 = x ∧ zand (2 * x + b) 1 = b ∧ zor (zshl x 1) b = 2 * x + b := by
  have := kb_all ⟨x.toNat, by omega⟩ ⟨b.toNat, by omega⟩
  simp only [Int.toNat_of_nonneg hx.1, Int.toNat_of_nonneg (show 0 ≤ b by omega)] at this
  exact this
theorem kb2 {x c b : Int} (hx : 0 ≤ x ∧ x < 512) (hc : c = 0 ∨ c = 1) (hb : b = 0 ∨ b = 1) : zand (zshr (2 * (2 * x + c) + b) 1) (zor (2 * (2 * x + c) + b) (-2)) = 2 * x + (if c ≠ 0 ∧ b ≠ 0 then 1 else 0) ∧ zor (zshr (2 * (2 * x + c) + b) 1) (zand (2 * (2 * x + c) + b) 1) = 2 * x + (if c ≠ 0 ∨ b ≠ 0 then 1 else 0) := by
  have := kb_and ⟨x.toNat, by omega⟩ ⟨c.toNat, by omega⟩ ⟨b.toNat, by omega⟩
  simp only [Int.toNat_of_nonneg hx.1, Int.toNat_of_nonneg (show 0 ≤ b by omega), Int.toNat_of_nonneg (show 0 ≤ c by omega)] at this
  exact this
theorem kc_parts {a b c : Int} (ha : 0 ≤ a ∧ a ≤ 5) (hb : 0 ≤ b ∧ b ≤ 2) (hc : 0 ≤ c ∧ c ≤ 99) : Int.tdiv (kcF (1000 * a + 100 * b + c)) 100 = a * 3 + b ∧ Int.tmod (kcF (1000 * a + 100 * b + c)) 100 = c ∧ Int.tdiv (a * 3 + b) 3 = a ∧ Int.tmod (a * 3 + b) 3 = b ∧ Int.tdiv (1000 * a + 100 * b + c) 1000 = a ∧ Int.tmod (Int.tdiv (1000 * a + 100 * b + c) 100) 10 = b ∧ Int.tmod (1000 * a + 100 * b + c) 100 = c := by
  rw [kc_test ha hb hc]
  have e2 : Int.tdiv (1000 * a + 100 * b + c) 100 = 10 * a + b := by rw [Int.tdiv_eq_ediv_of_nonneg (by omega)]; omega
  rw [e2]
  refine ⟨?_, ?_, ?_, ?_, ?_, ?_, ?_⟩
  · rw [Int.tdiv_eq_ediv_of_nonneg (by omega)]; omega
  · rw [Int.tmod_eq_emod_of_nonneg (by omega)]; omega
  · rw [Int.tdiv_eq_ediv_of_nonneg (by omega)]; omega
  · rw [Int.tmod_eq_emod_of_nonneg (by omega)]; omega
  · rw [Int.tdiv_eq_ediv_of_nonneg (by omega)]; omega
  · rw [Int.tmod_eq_emod_of_nonneg (by omega)]; omega
  · rw [Int.tmod_eq_emod_of_nonneg (by omega)]; omega
theorem ev_l {F : Int → Int} : ∀ {l : List Int} {s : List Int} {m : Nat} (sl fr cn wk : Int), bits s → wfT 11 s.length l m → s.length ≤ 11 →
    (l.map kcF).foldl (wgS F) (sl, fr, cn, wk, knF s) = (sl, fr, cn, wk, knF (evF F l s)) ∧ bits (evF F l s) ∧ (evF F l s).length = m
  | [], s, m, sl, fr, cn, wk, hs, hw, h11 => ⟨rfl, hs, hw⟩
  | t :: l, s, m, sl, fr, cn, wk, hs, hw, h11 => by
    have hf : ∀ s', evS F s t = s' → evF F (t :: l) s = evF F l s' := fun s' e => by rw [← e]; rfl
    have hstep : ∀ s', evS F s t = s' → wgS F (sl, fr, cn, wk, knF s) (kcF t) = (sl, fr, cn, wk, knF s') → bits s' → wfT 11 s'.length l m → s'.length ≤ 11 →
        ((t :: l).map kcF).foldl (wgS F) (sl, fr, cn, wk, knF s) = (sl, fr, cn, wk, knF (evF F (t :: l) s)) ∧ bits (evF F (t :: l) s) ∧ (evF F (t :: l) s).length = m := fun s' e1 e2 e3 e4 e5 => by
      rw [hf s' e1]
      show (l.map kcF).foldl (wgS F) (wgS F (sl, fr, cn, wk, knF s) (kcF t)) = _ ∧ _
      rw [e2]
      exact ev_l sl fr cn wk e3 e4 e5
    rcases hw with ⟨a, b, c⟩ | ⟨a, b, c⟩ | ⟨a, b, c⟩
    · subst a
      match s, hs, b, c, h11, hstep with
      | x :: s, hs, b, c, h11, hstep =>
        obtain ⟨x1, x2⟩ := bits_c hs
        have hk := kn_b (m := 10) x2 (by simpa using h11)
        have key := kb (x := knF s) (b := x) (by omega) x1
        refine hstep ((if x = 0 then 1 else 0) :: s) rfl ?_ (bits_m (by split <;> omega) x2) c h11
        rw [wg_18 (by decide)]
        show (sl, fr, cn, wk, zxor (2 * knF s + x) 1) = (sl, fr, cn, wk, 2 * knF s + (if x = 0 then 1 else 0))
        rw [key.1]
        have : (1 : Int) - x = if x = 0 then 1 else 0 := by split <;> omega
        rw [this]
    · match s, hs, b, c, h11, hstep with
      | x :: y :: s, hs, b, c, h11, hstep =>
        obtain ⟨x1, x2⟩ := bits_c hs
        obtain ⟨y1, y2⟩ := bits_c x2
        have hk := kn_b (m := 9) y2 (by simp at h11; omega)
        have key := kb2 (x := knF s) (c := y) (b := x) (by omega) y1 x1
        rcases a with a | a
        · subst a
          refine hstep ((if y ≠ 0 ∧ x ≠ 0 then 1 else 0) :: s) rfl ?_ (bits_m (by split <;> omega) y2) (by simpa using c) (by simp at h11 ⊢; omega)
          rw [wg_19 (by decide)]
          show (sl, fr, cn, wk, zand (zshr (2 * (2 * knF s + y) + x) 1) (zor (2 * (2 * knF s + y) + x) (-2))) = _
          rw [key.1]; rfl
        · subst a
          refine hstep ((if y ≠ 0 ∨ x ≠ 0 then 1 else 0) :: s) rfl ?_ (bits_m (by split <;> omega) y2) (by simpa using c) (by simp at h11 ⊢; omega)
          rw [wg_20 (by decide)]
          show (sl, fr, cn, wk, zor (zshr (2 * (2 * knF s + y) + x) 1) (zand (2 * (2 * knF s + y) + x) 1)) = _
          rw [key.2]; rfl
    · obtain ⟨u, v, w, hu, hv, hw, rfl⟩ := a
      obtain ⟨k1, k2, k3, k4, k5, k6, k7⟩ := kc_parts hu hv hw
      have hk := kn_b (m := 10) hs (by omega)
      have hcm := cmF_b v (F u) w
      have key := kb (x := knF s) (b := cmF v (F u) w) (by omega) (by omega)
      refine hstep (cmF v (F u) w :: s) ?_ ?_ (bits_m (by omega) hs) (by simpa using c) (by simp; omega)
      · unfold evS
        rw [if_neg (by omega), if_neg (by omega), k5, k6, k7]
      · rw [wg_x (by rw [k1]; omega), k1, k2]
        unfold hdF
        rw [k3, k4, if_pos (by omega)]
        show (sl, fr, cn, wk, zor (zshl (knF s) 1) (cmF v (F u) w)) = (sl, fr, cn, wk, 2 * knF s + cmF v (F u) w)
        rw [key.2.2.2]
/-- a clause's worth -/
def clB (F : Int → Int) (l : List Int) : Int := (evF F l []).headD 0
theorem ev_c {F : Int → Int} {l : List Int} (sl fr cn wk : Int) (h : wfT 11 0 l 1) : (l.map kcF).foldl (wgS F) (sl, fr, cn, wk, 0) = (sl, fr, cn, wk, clB F l) ∧ (clB F l = 0 ∨ clB F l = 1) := by
  obtain ⟨a, b, c⟩ := ev_l (F := F) (s := []) sl fr cn wk (fun x h => absurd h List.not_mem_nil) h (by decide)
  unfold clB
  match e : evF F l [], b, c, a with
  | [x], b, c, a =>
    have hx := (bits_c b).1
    refine ⟨a.trans ?_, hx⟩
    show (sl, fr, cn, wk, 2 * 0 + x) = (sl, fr, cn, wk, x)
    rw [show 2 * 0 + x = x by omega]
def suS (F : Int → Int) (w : Int) (s : Int × Int) (c : Int × Int × List Int) : Int × Int := if c.1 = w then (s.1 + (if clB F c.2.2 = 0 then 0 else c.2.1), 1) else s
theorem ev_all {F : Int → Int} : ∀ (L : List (Int × Int × List Int)) (sl fr cn wk : Int), (∀ c ∈ L, wfC c) → (tksF L).foldl (wgS F) (sl, fr, cn, wk, 0) = ((L.foldl (suS F 0) (sl, cn)).1, (L.foldl (suS F 1) (fr, wk)).1, (L.foldl (suS F 0) (sl, cn)).2, (L.foldl (suS F 1) (fr, wk)).2, 0)
  | [], sl, fr, cn, wk, _ => rfl
  | (w, v, l) :: L, sl, fr, cn, wk, h => by
    obtain ⟨hv, hc⟩ := h _ List.mem_cons_self
    have ih := ev_all (F := F) L
    have hL : ∀ c ∈ L, wfC c := fun c hc => h c (List.mem_cons_of_mem _ hc)
    have et : tksF ((w, v, l) :: L) = l.map kcF ++ (if w = 2 then [] else [(21 + w) * 100 + v]) ++ tksF L := rfl
    rw [et, List.foldl_append, List.foldl_append, List.foldl_cons, List.foldl_cons]
    have hv : 0 ≤ v ∧ v ≤ 99 := hv
    have hc : (w = 2 ∧ l = []) ∨ ((w = 0 ∨ w = 1) ∧ wfT 11 0 l 1) := hc
    rcases hc with ⟨rfl, rfl⟩ | ⟨hw, hl⟩
    · rw [if_pos rfl]
      show (tksF L).foldl (wgS F) (sl, fr, cn, wk, 0) = _
      rw [ih sl fr cn wk hL]
      have e0 : suS F 0 (sl, cn) (2, v, []) = (sl, cn) := if_neg (show ¬ (2 : Int) = 0 by decide)
      have e1 : suS F 1 (fr, wk) (2, v, []) = (fr, wk) := if_neg (show ¬ (2 : Int) = 1 by decide)
      rw [e0, e1]
    · obtain ⟨a, b⟩ := ev_c (F := F) sl fr cn wk hl
      rw [if_neg (by omega), a]
      have key := kb (x := 0) (b := clB F l) (by omega) b
      rw [show 2 * (0 : Int) + clB F l = clB F l by omega] at key
      have t1 : Int.tdiv ((21 + w) * 100 + v) 100 = 21 + w := by rw [Int.tdiv_eq_ediv_of_nonneg (by omega)]; omega
      have t2 : Int.tmod ((21 + w) * 100 + v) 100 = v := by rw [Int.tmod_eq_emod_of_nonneg (by omega)]; omega
      have hb : clB F l * v = if clB F l = 0 then 0 else v := by
        rcases b with b | b <;> rw [b] <;> simp
      rcases hw with rfl | rfl
      · have e0 : suS F 0 (sl, cn) (0, v, l) = (sl + (if clB F l = 0 then 0 else v), 1) := if_pos rfl
        have e1 : suS F 1 (fr, wk) (0, v, l) = (fr, wk) := if_neg (show ¬ (0 : Int) = 1 by decide)
        rw [e0, e1]
        show (tksF L).foldl (wgS F) (wgS F (sl, fr, cn, wk, clB F l) ((21 + 0) * 100 + v)) = _
        rw [wg_21 t1, t2]
        show (tksF L).foldl (wgS F) (sl + zand (clB F l) 1 * v, fr, 1, wk, zshr (clB F l) 1) = _
        rw [key.2.1, key.2.2.1, hb]
        exact ih _ _ _ _ hL
      · have e0 : suS F 0 (sl, cn) (1, v, l) = (sl, cn) := if_neg (show ¬ (1 : Int) = 0 by decide)
        have e1 : suS F 1 (fr, wk) (1, v, l) = (fr + (if clB F l = 0 then 0 else v), 1) := if_pos rfl
        rw [e0, e1]
        show (tksF L).foldl (wgS F) (wgS F (sl, fr, cn, wk, clB F l) ((21 + 1) * 100 + v)) = _
        rw [wg_22 t1, t2]
        show (tksF L).foldl (wgS F) (sl, fr + zand (clB F l) 1 * v, cn, 1, zshr (clB F l) 1) = _
        rw [key.2.1, key.2.2.1, hb]
        exact ih _ _ _ _ hL
theorem wg_list {tok F : Int → Int} : ∀ n : Nat, wgF tok F n = ((List.range n).map (fun k : Nat => tok (k : Int))).foldl (wgS F) (0, 0, 0, 0, 0)
  | 0 => rfl
  | n + 1 => by
    rw [List.range_succ, List.map_append, List.foldl_append, ← wg_list n]
    rfl
theorem sm_take {σ : Nat → Int → Int} {F : Int → Int} {L : List (Int × Int × List Int)} {w : Int} (hw : w ≠ 2) (h : TJ σ (σ 69 11) L) : ∀ n : Nat, n ≤ L.length → smJ σ F w n = (L.take n).foldl (suS F w) (0, 0)
  | 0, _ => rfl
  | n + 1, hn => by
    have hg : L[n]? = some L[n] := List.getElem?_eq_getElem (by omega)
    obtain ⟨a, b, c⟩ := h n L[n].1 L[n].2.1 L[n].2.2 hg
    rw [List.take_succ_eq_append_getElem (by omega), List.foldl_append, ← sm_take hw h n (by omega)]
    show (if σ 80 (10 * σ 69 11 + (n : Int)) = w then _ else _) = suS F w (smJ σ F w n) L[n]
    unfold suS
    rw [a, b]
    by_cases e : L[n].1 = w
    · rw [if_pos e, if_pos e]
      have c' := c.resolve_left (by omega)
      unfold hlJ clB
      rw [c']
    · rw [if_neg e, if_neg e]
/-- both sides find the same slowness, the same farness -/
theorem sl_all {σ : Nat → Int → Int} {f h g : Int} (hR : R1 σ) (hW : R4 σ) (hX : InvX σ) (hJ : InvJ σ) (hS : JS σ) (hf : 0 ≤ f ∧ f < 4) (hh : 0 ≤ h ∧ h < 6) : slX σ f h g = slJ σ f h g ∧ frX σ f h g = frJ σ f h g := by
  obtain ⟨h1, h2, h3, h4, h5, h6, h7⟩ := hW
  have ht := JS_t hS
  have e34 := hR.2.2.2.2.2.2.2.2.2.2.2.1 h hh.1 hh.2
  have e35 := hR.2.2.2.2.2.2.2.2.2.2.2.2.1 h hh.1 hh.2
  have e40 := hR.2.2.2.2.2.2.2.2.2.2.2.2.2.2.2.2.1 f hf.1 hf.2
  have eF : ltX σ f h g = fcF f h (σ 70 h) (σ 71 h) g (σ 76 f) := by
    unfold ltX
    rw [e34, e35, e40]
  unfold slX frX slJ frJ saJ wgX
  rw [eF]
  by_cases e : σ 69 11 < 0
  · have el : lnX σ = 0 := (lnX_c σ).elim (fun a => absurd a.1.1 (by omega)) (fun a => a.2)
    rw [el, if_pos e, if_pos e]
    exact ⟨if_pos rfl, if_pos rfl⟩
  · have el0 : lnX σ = σ 59 (σ 69 11) := (lnX_c σ).elim (fun a => by rw [a.2, h5]) (fun a => absurd (⟨by omega, by omega⟩ : 0 ≤ σ 33 13 ∧ σ 33 13 ≤ σ 51 3 - 1) a.1)
    obtain ⟨L, ⟨f0, n0, hn0, l1⟩, l2, l3, l4, l5⟩ := h7 (σ 69 11) (by omega) ht
    have hwf : ∀ c ∈ L, wfC c := by
      intro c hc
      by_cases hn : 0 ≤ n0
      · exact wf_tx hn0 10 0 L ⟨Int.le_refl 0, hn⟩ l1 c hc
      · exfalso
        have : txF f0 n0 10 0 = .inl 0 := by
          show txF f0 n0 (9 + 1) 0 = _
          have hw : hwF f0 n0 0 = 2 := by unfold hwF; rw [if_neg (by omega), if_neg (by omega)]
          have hd : wdF f0 n0 (wdlF 2) 0 = .inl 0 := by rw [show wdlF 2 = [100, 97, 119, 110, 32] from rfl, wd_cons, if_neg (by omega)]
          refine tx_bad ?_
          simp only [cl_hd, hw, hd]
        rw [this] at l1
        simp at l1
    rw [el0, if_neg e, if_neg e, h5, wg_list]
    have el : (List.range (σ 59 (σ 69 11)).toNat).map (fun k : Nat => σ (53 + Int.toNat (σ 69 11)) (k : Int)) = tksF L := l2
    rw [el, ev_all L 0 0 0 0 hwf, show (σ 79 (σ 69 11)).toNat = L.length by omega, sm_take (by decide) l5 _ (Nat.le_refl _), sm_take (by decide) l5 _ (Nat.le_refl _), List.take_length]
    exact ⟨rfl, rfl⟩
