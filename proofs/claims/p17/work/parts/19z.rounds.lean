/-! a night by an order of houses; the best of the orders of a set -/
def rdF (e : EV) (f : Int) (o : Int → Int) : Nat → NT × Int
  | 0 => ((0, e 7 f 0 0, e 8 f 0 0, 0, 0), 0)
  | k + 1 => ((viE e f (o (k : Int)) (e 9 (o (k : Int)) 0 0) (rdF e f o k).1).2, (rdF e f o k).2 + (if (viE e f (o (k : Int)) (e 9 (o (k : Int)) 0 0) (rdF e f o k).1).1 = 0 then 0 else 1))
theorem rd_0 {e : EV} {f : Int} {o : Int → Int} : rdF e f o 0 = ((0, e 7 f 0 0, e 8 f 0 0, 0, 0), 0) := rfl
theorem rd_s {e : EV} {f q : Int} {o : Int → Int} (hq : 0 ≤ q) : rdF e f o (q + 1).toNat = ((viE e f (o q) (e 9 (o q) 0 0) (rdF e f o q.toNat).1).2, (rdF e f o q.toNat).2 + (if (viE e f (o q) (e 9 (o q) 0 0) (rdF e f o q.toNat).1).1 = 0 then 0 else 1)) := by
  rw [show (q + 1).toNat = q.toNat + 1 by omega]
  show ((viE e f (o ((q.toNat : Nat) : Int)) (e 9 (o ((q.toNat : Nat) : Int)) 0 0) (rdF e f o q.toNat).1).2, (rdF e f o q.toNat).2 + (if (viE e f (o ((q.toNat : Nat) : Int)) (e 9 (o ((q.toNat : Nat) : Int)) 0 0) (rdF e f o q.toNat).1).1 = 0 then (0 : Int) else 1)) = _
  rw [show ((q.toNat : Nat) : Int) = q by omega]
theorem rd_cg {e : EV} {f : Int} {o o' : Int → Int} : ∀ k : Nat, (∀ j, 0 ≤ j → j < (k : Int) → o' j = o j) → rdF e f o' k = rdF e f o k
  | 0, _ => rfl
  | k + 1, h => by
    show ((viE e f (o' (k : Int)) (e 9 (o' (k : Int)) 0 0) (rdF e f o' k).1).2, (rdF e f o' k).2 + (if (viE e f (o' (k : Int)) (e 9 (o' (k : Int)) 0 0) (rdF e f o' k).1).1 = 0 then (0 : Int) else 1)) = _
    rw [rd_cg k (fun j h0 h1 => h j h0 (by omega)), h (k : Int) (by omega) (by omega)]
    rfl
theorem rd_b {e : EV} {f : Int} {o : Int → Int} : ∀ k : Nat, 0 ≤ (rdF e f o k).2
  | 0 => Int.le_refl 0
  | k + 1 => by
    have ih := rd_b (e := e) (f := f) (o := o) k
    show 0 ≤ (rdF e f o k).2 + (if (viE e f (o (k : Int)) (e 9 (o (k : Int)) 0 0) (rdF e f o k).1).1 = 0 then (0 : Int) else 1)
    split <;> omega
/-- where one has been in, behind a visit -/
theorem vi_inn {e : EV} {f h g : Int} {N : NT} : (viE e f h g N).2.2.2.2.1 = if (viE e f h g N).1 = 0 then N.2.2.2.1 else zwith N.2.2.2.1 h 1 := by
  unfold viE viF
  split
  · rfl
  · exact (if_pos rfl).symm
theorem pop_up : ∀ (x : Fin 64) (y : Fin 6), zbit x.1 y.1 = 0 → (0 ≤ zwith x.1 y.1 1 ∧ zwith x.1 y.1 1 ≤ 63) ∧ popc (zwith x.1 y.1 1) = popc x.1 + 1 ∧ ∀ z : Fin 6, zbit (zwith x.1 y.1 1) z.1 = if z = y then 1 else zbit x.1 z.1 := by decide +kernel
theorem pop_I {b h : Int} (h0 : 0 ≤ b) (h1 : b ≤ 63) (h2 : 0 ≤ h) (h3 : h ≤ 5) (hz : zbit b h = 0) : (0 ≤ zwith b h 1 ∧ zwith b h 1 ≤ 63) ∧ popc (zwith b h 1) = popc b + 1 ∧ ∀ z, 0 ≤ z → z ≤ 5 → z ≠ h → zbit (zwith b h 1) z = zbit b z := by
  have k := pop_up ⟨b.toNat, by omega⟩ ⟨h.toNat, by omega⟩
  simp only [Int.toNat_of_nonneg h0, Int.toNat_of_nonneg h2] at k
  obtain ⟨k1, k2, k3⟩ := k hz
  refine ⟨k1, k2, fun z z0 z1 zh => ?_⟩
  have w := k3 ⟨z.toNat, by omega⟩
  simp only [Int.toNat_of_nonneg z0] at w
  rw [if_neg (by intro c; have := congrArg Fin.val c; simp only [] at this; omega)] at w
  exact w
/-- as many as came in are counted as in -/
theorem rd_pop {e : EV} {f s t : Int} (h0 : 0 ≤ s) (h1 : s < 64) (hp : popc s ≤ 5) (h2 : 0 ≤ t) (h3 : t < facI (popc s)) : ∀ k : Nat, (k : Int) ≤ popc s → (0 ≤ (rdF e f (lexI s t) k).1.2.2.2.1 ∧ (rdF e f (lexI s t) k).1.2.2.2.1 ≤ 63) ∧ popc (rdF e f (lexI s t) k).1.2.2.2.1 = (rdF e f (lexI s t) k).2 ∧ ∀ j, (k : Int) ≤ j → j < popc s → zbit (rdF e f (lexI s t) k).1.2.2.2.1 (lexI s t j) = 0
  | 0, _ => by
    refine ⟨⟨by show (0 : Int) ≤ 0; decide, by show (0 : Int) ≤ 63; decide⟩, by show popc 0 = 0; decide, fun j j0 j1 => ?_⟩
    have b := (lex_b h0 h1 hp h2 h3 (j := j) (by omega) j1).1
    show zbit 0 (lexI s t j) = 0
    rw [(nbI (s := 0) (by decide) (by decide) b.1 b.2).1]
    simp
  | k + 1, hk => by
    obtain ⟨⟨a0, a1⟩, a2, a3⟩ := rd_pop (e := e) (f := f) h0 h1 hp h2 h3 k (by omega)
    have b := lex_b h0 h1 hp h2 h3 (j := (k : Int)) (by omega) (by omega)
    have hz := a3 (k : Int) (by omega) (by omega)
    obtain ⟨p1, p2, p3⟩ := pop_I a0 a1 b.1.1 b.1.2 hz
    have ei : (rdF e f (lexI s t) (k + 1)).1.2.2.2.1 = if (viE e f (lexI s t (k : Int)) (e 9 (lexI s t (k : Int)) 0 0) (rdF e f (lexI s t) k).1).1 = 0 then (rdF e f (lexI s t) k).1.2.2.2.1 else zwith (rdF e f (lexI s t) k).1.2.2.2.1 (lexI s t (k : Int)) 1 := vi_inn
    have ec : (rdF e f (lexI s t) (k + 1)).2 = (rdF e f (lexI s t) k).2 + (if (viE e f (lexI s t (k : Int)) (e 9 (lexI s t (k : Int)) 0 0) (rdF e f (lexI s t) k).1).1 = 0 then 0 else 1) := rfl
    rw [ei, ec]
    by_cases c : (viE e f (lexI s t (k : Int)) (e 9 (lexI s t (k : Int)) 0 0) (rdF e f (lexI s t) k).1).1 = 0
    · rw [if_pos c, if_pos c]
      exact ⟨⟨a0, a1⟩, by omega, fun j j0 j1 => a3 j (by omega) j1⟩
    · rw [if_neg c, if_neg c]
      refine ⟨p1, by omega, fun j j0 j1 => ?_⟩
      have bj := lex_b h0 h1 hp h2 h3 (j := j) (by omega) j1
      rw [p3 _ bj.1.1 bj.1.2 (fun z => bj.2.2 (k : Int) (by omega) (by omega) z.symm)]
      exact a3 j (by omega) j1
/-- ins, minute and number of the best of the first orders -/
def bsF (e : EV) (f s : Int) : Nat → Int × Int × Int
  | 0 => (-1, 0, 0)
  | t + 1 => if (bsF e f s t).1 < (rdF e f (lexI s (t : Int)) (popc s).toNat).2 ∨ ((rdF e f (lexI s (t : Int)) (popc s).toNat).2 = (bsF e f s t).1 ∧ (rdF e f (lexI s (t : Int)) (popc s).toNat).1.1 < (bsF e f s t).2.1) then ((rdF e f (lexI s (t : Int)) (popc s).toNat).2, (rdF e f (lexI s (t : Int)) (popc s).toNat).1.1, (t : Int)) else bsF e f s t
theorem bs_s {e : EV} {f s t : Int} (ht : 0 ≤ t) : bsF e f s (t + 1).toNat = if (bsF e f s t.toNat).1 < (rdF e f (lexI s t) (popc s).toNat).2 ∨ ((rdF e f (lexI s t) (popc s).toNat).2 = (bsF e f s t.toNat).1 ∧ (rdF e f (lexI s t) (popc s).toNat).1.1 < (bsF e f s t.toNat).2.1) then ((rdF e f (lexI s t) (popc s).toNat).2, (rdF e f (lexI s t) (popc s).toNat).1.1, t) else bsF e f s t.toNat := by
  rw [show (t + 1).toNat = t.toNat + 1 by omega]
  show (if (bsF e f s t.toNat).1 < (rdF e f (lexI s ((t.toNat : Nat) : Int)) (popc s).toNat).2 ∨ ((rdF e f (lexI s ((t.toNat : Nat) : Int)) (popc s).toNat).2 = (bsF e f s t.toNat).1 ∧ (rdF e f (lexI s ((t.toNat : Nat) : Int)) (popc s).toNat).1.1 < (bsF e f s t.toNat).2.1) then ((rdF e f (lexI s ((t.toNat : Nat) : Int)) (popc s).toNat).2, (rdF e f (lexI s ((t.toNat : Nat) : Int)) (popc s).toNat).1.1, ((t.toNat : Nat) : Int)) else bsF e f s t.toNat) = _
  rw [show ((t.toNat : Nat) : Int) = t by omega]
theorem bs_b {e : EV} {f s : Int} : ∀ t : Nat, (t = 0 ∧ (bsF e f s t).1 = -1) ∨ 0 ≤ (bsF e f s t).1
  | 0 => Or.inl ⟨rfl, rfl⟩
  | t + 1 => by
    right
    have ih := bs_b (e := e) (f := f) (s := s) t
    have r := rd_b (e := e) (f := f) (o := lexI s (t : Int)) (popc s).toNat
    have E := bs_s (e := e) (f := f) (s := s) (t := (t : Int)) (by omega)
    rw [show ((t : Int) + 1).toNat = t + 1 by omega, Int.toNat_natCast] at E
    rw [E]
    split
    · exact r
    · rename_i c
      omega
def rouQ (e : EV) (f s w : Int) : Int := if ¬ ((0 ≤ f ∧ f < e 11 0 0 0) ∧ ((0 ≤ w ∧ w ≤ 1) ∨ (10 ≤ w ∧ w ≤ 14))) then -1 else if ¬ ((0 ≤ s ∧ s < zshl 1 (e 10 0 0 0)) ∧ popc s ≤ 5) then -2 else if w = 0 then (bsF e f s (facI (popc s)).toNat).1 else if w = 1 then (bsF e f s (facI (popc s)).toNat).2.1 else if w - 10 < popc s then lexI s (bsF e f s (facI (popc s)).toNat).2.2 (w - 10) else -5
/-! a row is changed to the next one -/
theorem rv_s {o1 o2 o3 : Int → Int} {n f le ri : Int} (h2 : ∀ j, 0 ≤ j → j < n → o2 j = if (f < j ∧ j < le) ∨ ri < j then o1 (n + f - j) else o1 j) (h3 : ∀ j, o3 j = if j = ri then o2 le else if j = le then o2 ri else o2 j) (hf : 0 ≤ f) (hl : le + ri = f + n) (h4 : le < ri) (h5 : f + 1 ≤ le) (h6 : ri < n) : ∀ j, 0 ≤ j → j < n → o3 j = if (f < j ∧ j < le + 1) ∨ ri - 1 < j then o1 (n + f - j) else o1 j := by
  intro j j0 j1
  rw [h3 j]
  by_cases e1 : j = ri
  · rw [if_pos e1, h2 le (by omega) (by omega), if_neg (show ¬ ((f < le ∧ le < le) ∨ ri < le) by omega), if_pos (show (f < j ∧ j < le + 1) ∨ ri - 1 < j by omega)]
    exact congrArg o1 (by omega)
  · rw [if_neg e1]
    by_cases e2 : j = le
    · rw [if_pos e2, h2 ri (by omega) (by omega), if_neg (show ¬ ((f < ri ∧ ri < le) ∨ ri < ri) by omega), if_pos (show (f < j ∧ j < le + 1) ∨ ri - 1 < j by omega)]
      exact congrArg o1 (by omega)
    · rw [if_neg e2, h2 j j0 j1]
      by_cases c : (f < j ∧ j < le) ∨ ri < j
      · rw [if_pos c, if_pos (show (f < j ∧ j < le + 1) ∨ ri - 1 < j by omega)]
      · rw [if_neg c, if_neg (show ¬ ((f < j ∧ j < le + 1) ∨ ri - 1 < j) by omega)]
theorem nx_of {o o1 o2 : Int → Int} {n f e le ri : Int} (h1 : ∀ j, o1 j = if j = e then o f else if j = f then o e else o j) (h2 : ∀ j, 0 ≤ j → j < n → o2 j = if (f < j ∧ j < le) ∨ ri < j then o1 (n + f - j) else o1 j) (hf : 0 ≤ f ∧ f + 1 < n) (he : f ≤ e ∧ e < n) (hl : le + ri = f + n) (ha : ri ≤ le) (hb : le ≤ ri + 1) : ∀ j, 0 ≤ j → j < n → o2 j = nxI2 o n f e j := by
  intro j j0 j1
  rw [h2 j j0 j1]
  unfold nxI2
  by_cases c1 : j < f
  · rw [if_neg (show ¬ ((f < j ∧ j < le) ∨ ri < j) by omega), if_pos c1, h1 j, if_neg (show ¬ j = e by omega), if_neg (show ¬ j = f by omega)]
  · rw [if_neg c1]
    by_cases c2 : j = f
    · rw [if_neg (show ¬ ((f < j ∧ j < le) ∨ ri < j) by omega), if_pos c2, h1 j]
      by_cases c3 : j = e
      · rw [if_pos c3, ← c2, c3]
      · rw [if_neg c3, if_pos c2]
    · rw [if_neg c2]
      have hm : (if (f < j ∧ j < le) ∨ ri < j then o1 (n + f - j) else o1 j) = o1 (n + f - j) := by
        by_cases c : (f < j ∧ j < le) ∨ ri < j
        · rw [if_pos c]
        · rw [if_neg c]; exact congrArg o1 (by omega)
      rw [hm, h1 (n + f - j)]
      by_cases c3 : n + f - j = e
      · rw [if_pos c3, if_pos c3]
      · rw [if_neg c3, if_neg c3, if_neg (show ¬ n + f - j = f by omega)]
/-- a house is measured for one of the folk -/
abbrev MSX (σ τ : Nat → Int → Int) (f h : Int) : Prop := τ 67 h = frX σ f h (σ 36 h) ∧ τ 68 h = rup (slX σ f h (σ 36 h) * σ 36 h) (σ 41 f)
theorem rem_le : ∀ (x : Fin 64) (y : Fin 6), remB x.1 y.1 ≤ popc x.1 ∧ (zbit x.1 y.1 = 1 → 1 ≤ remB x.1 y.1) := by decide +kernel
theorem set_all {P : Int → Prop} {s : Int} (h0 : 0 ≤ s) (h1 : s < 64) (hp : popc s ≤ 5) (h : ∀ j, 0 ≤ j → j < popc s → P (lexI s 0 j)) : ∀ x, 0 ≤ x → x ≤ 5 → zbit s x = 1 → P x := by
  intro x x0 x1 hx
  have k := rem_le ⟨s.toNat, by omega⟩ ⟨x.toNat, by omega⟩
  simp only [Int.toNat_of_nonneg h0, Int.toNat_of_nonneg x0] at k
  have e := asc_I h0 h1 x0 x1 hx hp
  have z := h (popc s - remB s x) (by omega) (by have := k.2 hx; omega)
  rw [e] at z
  exact z
/-- the best is weighed against one more order -/
theorem bs_w {e : EV} {f s t i m a b a' b' : Int} {row row' ord : Int → Int} (ht : 0 ≤ t) (hi : i = (rdF e f (lexI s t) (popc s).toNat).2) (hm : m = (rdF e f (lexI s t) (popc s).toNat).1.1) (ha : a = (bsF e f s t.toNat).1) (hb : b = (bsF e f s t.toNat).2.1) (hr : t = 0 ∨ ∀ j, 0 ≤ j → j < popc s → row j = lexI s (bsF e f s t.toNat).2.2 j) (ho : ∀ j, 0 ≤ j → j < popc s → ord j = lexI s t j) (h : ((a < i ∨ (i = a ∧ m < b)) ∧ a' = i ∧ b' = m ∧ ∀ j, 0 ≤ j → j < popc s → row' j = ord j) ∨ (¬ (a < i ∨ (i = a ∧ m < b)) ∧ a' = a ∧ b' = b ∧ ∀ j, row' j = row j)) : a' = (bsF e f s (t + 1).toNat).1 ∧ b' = (bsF e f s (t + 1).toNat).2.1 ∧ ∀ j, 0 ≤ j → j < popc s → row' j = lexI s (bsF e f s (t + 1).toNat).2.2 j := by
  rw [bs_s ht, ← hi, ← hm, ← ha, ← hb]
  rcases h with ⟨c, h1, h2, h3⟩ | ⟨c, h1, h2, h3⟩
  · rw [if_pos c]
    exact ⟨h1, h2, fun j j0 j1 => (h3 j j0 j1).trans (ho j j0 j1)⟩
  · rw [if_neg c]
    refine ⟨h1.trans ha, h2.trans hb, fun j j0 j1 => ?_⟩
    rcases hr with hr | hr
    · exfalso
      have z : a = -1 := by rw [ha, hr]; rfl
      have r := rd_b (e := e) (f := f) (o := lexI s t) (popc s).toNat
      omega
    · exact (h3 j).trans (hr j j0 j1)
/-- ten less, where it may leave the ints -/
theorem w32_10 {w : Int} (h : R32 w) : (-2147483648 ≤ w - 10 ∧ w32 (w - 10) = w - 10) ∨ (w - 10 < -2147483648 ∧ 2147483638 ≤ w32 (w - 10)) := by
  by_cases c : -2147483648 ≤ w - 10
  · exact Or.inl ⟨c, z_toInt ⟨c, by have := h.2; omega⟩⟩
  · right
    have : w = -2147483648 ∨ w = -2147483647 ∨ w = -2147483646 ∨ w = -2147483645 ∨ w = -2147483644 ∨ w = -2147483643 ∨ w = -2147483642 ∨ w = -2147483641 ∨ w = -2147483640 ∨ w = -2147483639 := by have := h.1; omega
    rcases this with rfl | rfl | rfl | rfl | rfl | rfl | rfl | rfl | rfl | rfl <;> decide +kernel
