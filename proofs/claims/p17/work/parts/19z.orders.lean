/-- how many orders n have -/
def facI (n : Int) : Int := if n ≤ 1 then 1 else if n = 2 then 2 else if n = 3 then 6 else if n = 4 then 24 else if n = 5 then 120 else 720
theorem facI_b (n : Int) : 1 ≤ facI n ∧ facI n ≤ 720 := by unfold facI; split; omega; split; omega; split; omega; split; omega; split <;> omega
theorem facI_5 {n : Int} (h : n ≤ 5) : facI n ≤ 120 := by unfold facI; split; omega; split; omega; split; omega; split; omega; split <;> omega
theorem fac_s {k : Int} (h0 : 2 ≤ k) (h1 : k ≤ 6) : facI (k - 1) * k = facI k := by
  have : k = 2 ∨ k = 3 ∨ k = 4 ∨ k = 5 ∨ k = 6 := by omega
  rcases this with rfl | rfl | rfl | rfl | rfl <;> decide
theorem fac_d {m : Int} (h0 : 1 ≤ m) (h1 : m ≤ 6) : Int.tdiv (facI m) m = facI (m - 1) := by
  have : m = 1 ∨ m = 2 ∨ m = 3 ∨ m = 4 ∨ m = 5 ∨ m = 6 := by omega
  rcases this with rfl | rfl | rfl | rfl | rfl | rfl <;> decide
theorem fac_q {m r : Int} (h0 : 1 ≤ m) (h1 : m ≤ 6) (h2 : 0 ≤ r) (h3 : r < facI m) : 0 ≤ Int.tdiv r (facI (m - 1)) ∧ Int.tdiv r (facI (m - 1)) < m ∧ 0 ≤ Int.tmod r (facI (m - 1)) ∧ Int.tmod r (facI (m - 1)) < facI (m - 1) := by
  have hb := facI_b (m - 1)
  have hm := tmodB (a := r) (b := facI (m - 1)) (by omega)
  rw [Int.tdiv_eq_ediv_of_nonneg h2]
  refine ⟨Int.ediv_nonneg h2 (by omega), ?_, by omega, by omega⟩
  apply Int.ediv_lt_of_lt_mul (by omega)
  have e : facI m = m * facI (m - 1) := by
    have : m = 1 ∨ m = 2 ∨ m = 3 ∨ m = 4 ∨ m = 5 ∨ m = 6 := by omega
    rcases this with rfl | rfl | rfl | rfl | rfl | rfl <;> decide
  omega
/-- the set bits from place h on -/
def remB (s h : Int) : Int := popc (zshr s h)
theorem rem_0 {s : Int} (h0 : 0 ≤ s) (h1 : s < 64) : remB s 0 = popc s := by
  unfold remB; rw [shr0 s (by omega)]
theorem rem_s {s h : Int} (h0 : 0 ≤ s) (h1 : s < 64) (h2 : 0 ≤ h) (h3 : h ≤ 6) : (h = 6 ∧ remB s h = 0) ∨ (h ≤ 5 ∧ remB s h = remB s (h + 1) + zbit s h ∧ 0 ≤ remB s (h + 1)) := by
  have key : ∀ (x : Fin 64) (y : Fin 7), ((y.1 : Int) = 6 ∧ remB x.1 y.1 = 0) ∨ ((y.1 : Int) ≤ 5 ∧ remB x.1 y.1 = remB x.1 (y.1 + 1) + zbit x.1 y.1 ∧ 0 ≤ remB x.1 (y.1 + 1)) := by decide +kernel
  have := key ⟨s.toNat, by omega⟩ ⟨h.toNat, by omega⟩
  simp only [Int.toNat_of_nonneg h0, Int.toNat_of_nonneg h2] at this
  exact this
theorem clr_bit {s h : Int} (h0 : 0 ≤ s) (h1 : s < 64) (h2 : 0 ≤ h) (h3 : h ≤ 5) (hb : zbit s h = 1) : 0 ≤ zand s (zxor (zshl 1 h) (-1)) ∧ zand s (zxor (zshl 1 h) (-1)) < 64 ∧ popc (zand s (zxor (zshl 1 h) (-1))) = popc s - 1 := by
  have key : ∀ (x : Fin 64) (y : Fin 6), zbit x.1 y.1 = 1 → 0 ≤ zand x.1 (zxor (zshl 1 y.1) (-1)) ∧ zand x.1 (zxor (zshl 1 y.1) (-1)) < 64 ∧ popc (zand x.1 (zxor (zshl 1 y.1) (-1))) = popc x.1 - 1 := by decide +kernel
  have := key ⟨s.toNat, by omega⟩ ⟨h.toNat, by omega⟩
  simp only [Int.toNat_of_nonneg h0, Int.toNat_of_nonneg h2] at this
  exact this hb
/-! the orders of a set of houses -/
def popN (s : Nat) : Nat := Nat.shiftRight 5266721624626081916652898579601397356032429460333936579656 (3 * s) % 8
def facN (n : Nat) : Nat := Nat.shiftRight 132044575342849 (8 * n) % 256
/-- the j-th house of a set -/
def ascN (s j : Nat) : Nat := Nat.shiftRight 5370121827907758239160449632001046187966603380258939241563507128221922730461894127119155958876742089920787854318736084059175617031749791617786730080121305410282228898606040001818968102536737474681710482818575091277611138462435953309162933852945186001701246842233295873869794935631165521920 (15 * s + 3 * j) % 8
/-- the j-th of the t-th order of n -/
def perN (n t j : Nat) : Nat := Nat.shiftRight 4883159012392963467685536129433147656768210834228537211063994671939557489207415654320924107039909870454345842684842273659668928855728225359429714018109639782079827940865250303628411226260989923840740363458154591518694616336338754474752640685604123479627594076129342332089489168306829077731152371623964493916569410355928638049779298261655355176259861362628923214754511938047647721856662421912212791708092783535859554897712899494716785442701223032132515976767648049235687860171005817215062242634276122003441020861943117684167387715361882925010833408644605784459582181887406968883636455928674772067236114339789706116074063191912998182196413226051930171150848498633351453395523928683973265695178752 (15 * (Nat.shiftRight 37426412257536 (8 * n) % 256 + t) + 3 * j) % 8
def lexN (s t j : Nat) : Nat := ascN s (perN (popN s) t j)
def lexI (s t j : Int) : Int := (lexN s.toNat t.toNat j.toNat : Nat)
def allB (p : Nat → Bool) : Nat → Bool
  | 0 => true
  | k + 1 => p k && allB p k
theorem allB_of {p : Nat → Bool} : ∀ {n : Nat}, allB p n = true → ∀ k, k < n → p k = true
  | 0, _, k, hk => absurd hk (Nat.not_lt_zero k)
  | n + 1, h, k, hk => by
    have h' : (p n && allB p n) = true := h
    rw [Bool.and_eq_true] at h'
    by_cases c : k = n
    · rw [c]; exact h'.1
    · exact allB_of h'.2 k (by omega)
/-- each set of at most five, each of its orders -/
def allS (p : Nat → Nat → Bool) : Bool := allB (fun s => !(popN s ≤ 5 : Bool) || allB (fun t => p s t) (facN (popN s))) 64
theorem allS_of {p : Nat → Nat → Bool} (h : allS p = true) {s t : Nat} (hs : s < 64) (hp : popN s ≤ 5) (ht : t < facN (popN s)) : p s t = true := by
  have h1 := allB_of h s hs
  rw [Bool.or_eq_true] at h1
  rcases h1 with h1 | h1
  · simp [hp] at h1
  · exact allB_of h1 t ht
/-- the order behind it, as a row is changed to the next one -/
def cF (o : Nat → Nat) (n f : Nat) : Bool := (f + 1 < n : Bool) && !(o (f + 1) < o f : Bool) && allB (fun g => !((f < g : Bool) && (g + 1 < n : Bool)) || (o (g + 1) < o g : Bool)) 4
def cE (o : Nat → Nat) (n f e : Nat) : Bool := (f ≤ e : Bool) && (e < n : Bool) && ((e = f : Bool) || !(o e < o f : Bool)) && allB (fun g => !((e < g : Bool) && (g < n : Bool)) || (o g < o f : Bool)) 5
def nxO (o : Nat → Nat) (n f e j : Nat) : Nat := if j < f then o j else if j = f then o e else if n + f - j = e then o f else o (n + f - j)
theorem lex_next : allS (fun s t => allB (fun f => !(cF (lexN s t) (popN s) f) || ((t + 1 < facN (popN s) : Bool) && allB (fun e => !(cE (lexN s t) (popN s) f e) || allB (fun j => !(j < popN s : Bool) || (nxO (lexN s t) (popN s) f e j = lexN s (t + 1) j : Bool)) 5) 5)) 4) = true := by decide +kernel
theorem lex_last : allS (fun s t => !(allB (fun g => !(g + 1 < popN s : Bool) || (lexN s t (g + 1) < lexN s t g : Bool)) 4) || (t + 1 = facN (popN s) : Bool)) = true := by decide +kernel
theorem lex_set : allS (fun s t => allB (fun j => !(j < popN s : Bool) || ((lexN s t j < 6 : Bool) && (s / 2 ^ lexN s t j % 2 = 1 : Bool) && allB (fun i => !(i < j : Bool) || !(lexN s t i = lexN s t j : Bool)) 5)) 5) = true := by decide +kernel
/-- what is left of a set -/
def lfN (s t : Nat) : Nat → Nat
  | 0 => s
  | k + 1 => lfN s t k - 2 ^ lexN s t k
theorem lex_pick : allS (fun s t => allB (fun k => !(k < popN s : Bool) || ((lfN s t k < 64 : Bool) && allB (fun h => !(lfN s t k / 2 ^ h % 2 = 1 : Bool) || !(popN (lfN s t k % 2 ^ h) = t % facN (popN s - k) / facN (popN s - (k + 1)) : Bool) || (h = lexN s t k : Bool)) 6)) 5) = true := by decide +kernel
/-! numbers and their naturals -/
theorem nat_all : ∀ (x : Fin 64) (y : Fin 6), zbit x.1 y.1 = ((x.1 / 2 ^ y.1 % 2 : Nat) : Int) ∧ popc x.1 = ((popN x.1 : Nat) : Int) ∧ popc x.1 - remB x.1 y.1 = ((popN (x.1 % 2 ^ y.1) : Nat) : Int) ∧ (x.1 / 2 ^ y.1 % 2 = 1 → zand x.1 (zxor (zshl 1 y.1) (-1)) = ((x.1 - 2 ^ y.1 : Nat) : Int)) := by decide +kernel
theorem asc_all : ∀ (x : Fin 64) (y : Fin 6), zbit x.1 y.1 = 1 → popc x.1 ≤ 5 → lexI x.1 0 (popc x.1 - remB x.1 y.1) = y.1 := by decide +kernel
theorem fac_all : ∀ x : Fin 6, facI x.1 = ((facN x.1 : Nat) : Int) ∧ 1 ≤ facN x.1 ∧ facN x.1 ≤ 120 := by decide +kernel
theorem nbI {s h : Int} (h0 : 0 ≤ s) (h1 : s < 64) (h2 : 0 ≤ h) (h3 : h ≤ 5) : zbit s h = ((s.toNat / 2 ^ h.toNat % 2 : Nat) : Int) ∧ popc s = ((popN s.toNat : Nat) : Int) ∧ popc s - remB s h = ((popN (s.toNat % 2 ^ h.toNat) : Nat) : Int) ∧ (s.toNat / 2 ^ h.toNat % 2 = 1 → zand s (zxor (zshl 1 h) (-1)) = ((s.toNat - 2 ^ h.toNat : Nat) : Int)) := by
  have k := nat_all ⟨s.toNat, by omega⟩ ⟨h.toNat, by omega⟩
  simp only [Int.toNat_of_nonneg h0, Int.toNat_of_nonneg h2] at k
  exact k
theorem asc_I {s h : Int} (h0 : 0 ≤ s) (h1 : s < 64) (h2 : 0 ≤ h) (h3 : h ≤ 5) (hb : zbit s h = 1) (hp : popc s ≤ 5) : lexI s 0 (popc s - remB s h) = h := by
  have k := asc_all ⟨s.toNat, by omega⟩ ⟨h.toNat, by omega⟩
  simp only [Int.toNat_of_nonneg h0, Int.toNat_of_nonneg h2] at k
  exact k hb hp
theorem fac_I {n : Int} (h0 : 0 ≤ n) (h1 : n ≤ 5) : facI n = ((facN n.toNat : Nat) : Int) ∧ 1 ≤ facI n ∧ facI n ≤ 120 := by
  have k := fac_all ⟨n.toNat, by omega⟩
  simp only [Int.toNat_of_nonneg h0] at k
  exact ⟨k.1, by omega, by omega⟩
theorem pN_I {s : Int} (h0 : 0 ≤ s) (h1 : s < 64) : ((popN s.toNat : Nat) : Int) = popc s := (nbI h0 h1 (h := 0) (by decide) (by decide)).2.1.symm
theorem fac_p {s : Int} (h0 : 0 ≤ s) (h1 : s < 64) (hp : popc s ≤ 5) : facI (popc s) = ((facN (popN s.toNat) : Nat) : Int) := by
  have ep := pN_I h0 h1
  rw [(fac_I (n := popc s) (by omega) hp).1, show (popc s).toNat = popN s.toNat by omega]
theorem lex_N {s t : Int} {j : Nat} : lexI s t (j : Int) = ((lexN s.toNat t.toNat j : Nat) : Int) := rfl
theorem lex_b {s t j : Int} (h0 : 0 ≤ s) (h1 : s < 64) (hp : popc s ≤ 5) (h2 : 0 ≤ t) (h3 : t < facI (popc s)) (h4 : 0 ≤ j) (h5 : j < popc s) : (0 ≤ lexI s t j ∧ lexI s t j ≤ 5) ∧ zbit s (lexI s t j) = 1 ∧ ∀ i, 0 ≤ i → i < j → lexI s t i ≠ lexI s t j := by
  have ep := pN_I h0 h1
  have hf := fac_p h0 h1 hp
  have k := allB_of (allS_of lex_set (s := s.toNat) (t := t.toNat) (by omega) (by omega) (by omega)) j.toNat (by omega)
  simp only [Bool.or_eq_true, Bool.and_eq_true, Bool.not_eq_true', decide_eq_false_iff_not, decide_eq_true_eq] at k
  obtain ⟨⟨k1, k2⟩, k3⟩ := k.resolve_left (by omega)
  have e : lexI s t j = ((lexN s.toNat t.toNat j.toNat : Nat) : Int) := rfl
  refine ⟨by omega, ?_, ?_⟩
  · have z := (nbI h0 h1 (h := lexI s t j) (by omega) (by omega)).1
    rw [e, Int.toNat_natCast, k2] at z
    rw [e]
    exact z
  · intro i i0 i1 c
    have z := allB_of k3 i.toNat (by omega)
    simp only [Bool.or_eq_true, Bool.not_eq_true', decide_eq_false_iff_not] at z
    have c' : ((lexN s.toNat t.toNat i.toNat : Nat) : Int) = ((lexN s.toNat t.toNat j.toNat : Nat) : Int) := c
    omega
/-- the next row, as it is found -/
def cFI (o : Int → Int) (n f : Int) : Prop := (0 ≤ f ∧ f + 1 < n) ∧ o f ≤ o (f + 1) ∧ ∀ g, f < g → g + 1 < n → o (g + 1) < o g
def cEI (o : Int → Int) (n f e : Int) : Prop := (f ≤ e ∧ e < n) ∧ (e = f ∨ o f ≤ o e) ∧ ∀ g, e < g → g < n → o g < o f
def nxI2 (o : Int → Int) (n f e j : Int) : Int := if j < f then o j else if j = f then o e else if n + f - j = e then o f else o (n + f - j)
theorem allB_to {p : Nat → Bool} : ∀ {n : Nat}, (∀ k, k < n → p k = true) → allB p n = true
  | 0, _ => rfl
  | n + 1, h => by
    show (p n && allB p n) = true
    rw [Bool.and_eq_true]
    exact ⟨h n (by omega), allB_to (fun k hk => h k (by omega))⟩
theorem row_next {s t : Int} {o : Int → Int} {f e : Int} (h0 : 0 ≤ s) (h1 : s < 64) (hp : popc s ≤ 5) (h2 : 0 ≤ t) (h3 : t < facI (popc s)) (ho : ∀ j, 0 ≤ j → j < popc s → o j = lexI s t j) (hf : cFI o (popc s) f) (he : cEI o (popc s) f e) : t + 1 < facI (popc s) ∧ ∀ j, 0 ≤ j → j < popc s → nxI2 o (popc s) f e j = lexI s (t + 1) j := by
  have ep := pN_I h0 h1
  have hfa := fac_p h0 h1 hp
  have ol : ∀ j : Nat, j < popN s.toNat → o (j : Int) = ((lexN s.toNat t.toNat j : Nat) : Int) := fun j hj => ho j (by omega) (by omega)
  obtain ⟨⟨f0, f1⟩, f2, f3⟩ := hf
  obtain ⟨⟨e0, e1⟩, e2, e3⟩ := he
  have of := ol f.toNat (by omega)
  have of1 := ol (f.toNat + 1) (by omega)
  have oe := ol e.toNat (by omega)
  rw [show ((f.toNat : Nat) : Int) = f by omega] at of
  rw [show ((f.toNat + 1 : Nat) : Int) = f + 1 by omega] at of1
  rw [show ((e.toNat : Nat) : Int) = e by omega] at oe
  have k := allB_of (allS_of lex_next (s := s.toNat) (t := t.toNat) (by omega) (by omega) (by omega)) f.toNat (by omega)
  have cf : cF (lexN s.toNat t.toNat) (popN s.toNat) f.toNat = true := by
    unfold cF
    simp only [Bool.and_eq_true, Bool.not_eq_true', decide_eq_false_iff_not, decide_eq_true_eq]
    refine ⟨⟨by omega, by omega⟩, allB_to (fun g hg => ?_)⟩
    simp only [Bool.or_eq_true, Bool.and_eq_true, Bool.not_eq_true', Bool.and_eq_false_iff, decide_eq_false_iff_not, decide_eq_true_eq]
    by_cases c : f.toNat < g ∧ g + 1 < popN s.toNat
    · right
      have z := f3 (g : Int) (by omega) (by omega)
      have a := ol g (by omega)
      have b := ol (g + 1) (by omega)
      rw [show ((g + 1 : Nat) : Int) = (g : Int) + 1 by omega] at b
      omega
    · left; omega
  simp only [cf, Bool.not_true, Bool.false_or, Bool.and_eq_true, decide_eq_true_eq] at k
  have k2 := allB_of k.2 e.toNat (by omega)
  have ce : cE (lexN s.toNat t.toNat) (popN s.toNat) f.toNat e.toNat = true := by
    unfold cE
    simp only [Bool.and_eq_true, Bool.or_eq_true, Bool.not_eq_true', decide_eq_false_iff_not, decide_eq_true_eq]
    refine ⟨⟨⟨by omega, by omega⟩, by omega⟩, allB_to (fun g hg => ?_)⟩
    simp only [Bool.or_eq_true, Bool.and_eq_true, Bool.not_eq_true', Bool.and_eq_false_iff, decide_eq_false_iff_not, decide_eq_true_eq]
    by_cases c : e.toNat < g ∧ g < popN s.toNat
    · right
      have z := e3 (g : Int) (by omega) (by omega)
      have a := ol g (by omega)
      omega
    · left; omega
  simp only [ce, Bool.not_true, Bool.false_or] at k2
  refine ⟨by have := k.1; omega, fun j j0 j1 => ?_⟩
  have k3 := allB_of k2 j.toNat (by omega)
  simp only [Bool.or_eq_true, Bool.not_eq_true', decide_eq_false_iff_not, decide_eq_true_eq] at k3
  have k4 := k3.resolve_left (by omega)
  have el : lexI s (t + 1) j = ((lexN s.toNat (t.toNat + 1) j.toNat : Nat) : Int) := by
    unfold lexI; rw [show (t + 1).toNat = t.toNat + 1 by omega]
  rw [el, ← k4]
  have oj := ol j.toNat (by omega)
  rw [show ((j.toNat : Nat) : Int) = j by omega] at oj
  unfold nxI2 nxO
  by_cases c1 : j < f
  · rw [if_pos c1, if_pos (show j.toNat < f.toNat by omega)]; exact oj
  · rw [if_neg c1, if_neg (show ¬ j.toNat < f.toNat by omega)]
    by_cases c2 : j = f
    · rw [if_pos c2, if_pos (show j.toNat = f.toNat by omega)]; exact oe
    · rw [if_neg c2, if_neg (show ¬ j.toNat = f.toNat by omega)]
      have om := ol (popN s.toNat + f.toNat - j.toNat) (by omega)
      rw [show ((popN s.toNat + f.toNat - j.toNat : Nat) : Int) = popc s + f - j by omega] at om
      by_cases c3 : popc s + f - j = e
      · rw [if_pos c3, if_pos (show popN s.toNat + f.toNat - j.toNat = e.toNat by omega)]; exact of
      · rw [if_neg c3, if_neg (show ¬ popN s.toNat + f.toNat - j.toNat = e.toNat by omega)]; exact om
theorem row_last {s t : Int} {o : Int → Int} (h0 : 0 ≤ s) (h1 : s < 64) (hp : popc s ≤ 5) (h2 : 0 ≤ t) (h3 : t < facI (popc s)) (ho : ∀ j, 0 ≤ j → j < popc s → o j = lexI s t j) (hg : ∀ g, 0 ≤ g → g + 1 < popc s → o (g + 1) < o g) : t + 1 = facI (popc s) := by
  have ep := pN_I h0 h1
  have hfa := fac_p h0 h1 hp
  have ol : ∀ j : Nat, j < popN s.toNat → o (j : Int) = ((lexN s.toNat t.toNat j : Nat) : Int) := fun j hj => ho j (by omega) (by omega)
  have k := allS_of lex_last (s := s.toNat) (t := t.toNat) (by omega) (by omega) (by omega)
  rw [Bool.or_eq_true] at k
  rcases k with k | k
  · exfalso
    have z : allB (fun g => !(g + 1 < popN s.toNat : Bool) || (lexN s.toNat t.toNat (g + 1) < lexN s.toNat t.toNat g : Bool)) 4 = true := by
      refine allB_to (fun g hg' => ?_)
      simp only [Bool.or_eq_true, Bool.not_eq_true', decide_eq_false_iff_not, decide_eq_true_eq]
      by_cases c : g + 1 < popN s.toNat
      · right
        have z := hg (g : Int) (by omega) (by omega)
        have a := ol g (by omega)
        have b := ol (g + 1) (by omega)
        rw [show ((g + 1 : Nat) : Int) = (g : Int) + 1 by omega] at b
        omega
      · left; exact c
    rw [z] at k
    exact absurd k (by decide)
  · have k' := of_decide_eq_true k
    omega
/-- the house that is picked from what is left -/
def lfI (s t k : Int) : Int := (lfN s.toNat t.toNat k.toNat : Nat)
theorem lex_take {s t k h : Int} (h0 : 0 ≤ s) (h1 : s < 64) (hp : popc s ≤ 5) (h2 : 0 ≤ t) (h3 : t < facI (popc s)) (h4 : 0 ≤ k) (h5 : k < popc s) (h6 : 0 ≤ h) (h7 : h ≤ 5) (hb : zbit (lfI s t k) h = 1) (hc : popc (lfI s t k) - remB (lfI s t k) h = Int.tdiv (Int.tmod t (facI (popc s - k))) (facI (popc s - k - 1))) : h = lexI s t k ∧ zand (lfI s t k) (zxor (zshl 1 h) (-1)) = lfI s t (k + 1) := by
  have ep := pN_I h0 h1
  have hfa := fac_p h0 h1 hp
  have fa := fac_I (n := popc s - k) (by omega) (by omega)
  have fb := fac_I (n := popc s - k - 1) (by omega) (by omega)
  have k0 := allB_of (allS_of lex_pick (s := s.toNat) (t := t.toNat) (by omega) (by omega) (by omega)) k.toNat (by omega)
  simp only [Bool.or_eq_true, Bool.and_eq_true, Bool.not_eq_true', decide_eq_false_iff_not, decide_eq_true_eq] at k0
  obtain ⟨k1, k2⟩ := k0.resolve_left (by omega)
  have k3 := allB_of k2 h.toNat (by omega)
  simp only [Bool.or_eq_true, Bool.not_eq_true', decide_eq_false_iff_not, decide_eq_true_eq] at k3
  have el : lfI s t k = ((lfN s.toNat t.toNat k.toNat : Nat) : Int) := rfl
  have N := nbI (s := lfI s t k) (h := h) (by omega) (by omega) h6 h7
  rw [el, Int.toNat_natCast] at N
  rw [el] at hb hc
  rw [hb] at N
  have hc2 : popN (lfN s.toNat t.toNat k.toNat % 2 ^ h.toNat) = t.toNat % facN (popN s.toNat - k.toNat) / facN (popN s.toNat - (k.toNat + 1)) := by
    have et : ((t.toNat : Nat) : Int) = t := by omega
    have z : ((popN (lfN s.toNat t.toNat k.toNat % 2 ^ h.toNat) : Nat) : Int) = Int.tdiv (Int.tmod ((t.toNat : Nat) : Int) ((facN (popN s.toNat - k.toNat) : Nat) : Int)) ((facN (popN s.toNat - (k.toNat + 1)) : Nat) : Int) := by
      rw [et, ← show (popc s - k).toNat = popN s.toNat - k.toNat by omega, ← show (popc s - k - 1).toNat = popN s.toNat - (k.toNat + 1) by omega, ← fa.1, ← fb.1]
      exact N.2.2.1.symm.trans hc
    exact Int.ofNat.inj z
  have hb2 : lfN s.toNat t.toNat k.toNat / 2 ^ h.toNat % 2 = 1 := by first | exact (Int.ofNat.inj N.1).symm | exact_mod_cast N.1.symm
  have eh : h.toNat = lexN s.toNat t.toNat k.toNat := by
    rcases k3 with (a | a) | a
    · exact absurd hb2 a
    · exact absurd hc2 a
    · exact a
  constructor
  · show h = ((lexN s.toNat t.toNat k.toNat : Nat) : Int)
    omega
  · rw [el, N.2.2.2 hb2]
    unfold lfI
    rw [show (k + 1).toNat = k.toNat + 1 by omega, eh]
    rfl
theorem lf_0 {s t : Int} (h0 : 0 ≤ s) : lfI s t 0 = s := Int.toNat_of_nonneg h0
theorem tm_fac {t m : Int} (h : 0 ≤ t) (h0 : 1 ≤ m) (h1 : m ≤ 5) : Int.tmod (Int.tmod t (facI m)) (facI (m - 1)) = Int.tmod t (facI (m - 1)) := by
  rw [Int.tmod_eq_emod_of_nonneg h, Int.tmod_eq_emod_of_nonneg (Int.emod_nonneg _ (by have := facI_b m; omega)), Int.tmod_eq_emod_of_nonneg h]
  have : m = 1 ∨ m = 2 ∨ m = 3 ∨ m = 4 ∨ m = 5 := by omega
  rcases this with rfl | rfl | rfl | rfl | rfl
  · rw [show facI 1 = 1 by decide, show facI (1 - 1) = 1 by decide]; omega
  · rw [show facI 2 = 2 by decide, show facI (2 - 1) = 1 by decide]; omega
  · rw [show facI 3 = 6 by decide, show facI (3 - 1) = 2 by decide]; omega
  · rw [show facI 4 = 24 by decide, show facI (4 - 1) = 6 by decide]; omega
  · rw [show facI 5 = 120 by decide, show facI (5 - 1) = 24 by decide]; omega
