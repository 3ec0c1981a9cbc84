/-! what the reference keeps between the calls, beside its bounds -/
/-- how many of the first n waiting signs join two -/
def nbF (w : Int → Int) : Nat → Int
  | 0 => 0
  | n + 1 => nbF w n + (if w (n : Int) = 38 ∨ w (n : Int) = 124 then 1 else 0)
def dl (t : Int) : Int := if 0 ≤ t then 1 else if t = -33 then 0 else -1
/-- how many lie on the pile behind n signs from a on -/
def depF (s : Int → Int) (a : Int) : Nat → Int
  | 0 => 0
  | n + 1 => depF s a n + dl (s (a + (n : Int)))
/-- no sign of these takes more than lies there -/
def okS (s : Int → Int) (a : Int) (n : Nat) : Prop := ∀ i : Nat, i < n → (s (a + (i : Int)) = -33 → 1 ≤ depF s a i) ∧ (s (a + (i : Int)) < 0 → s (a + (i : Int)) ≠ -33 → 2 ≤ depF s a i)
theorem nbF_s (w : Int → Int) (n : Nat) : nbF w (n + 1) = nbF w n + (if w (n : Int) = 38 ∨ w (n : Int) = 124 then 1 else 0) := rfl
theorem nbF_b (w : Int → Int) (n : Nat) : 0 ≤ nbF w n ∧ nbF w n ≤ n := by
  induction n with
  | zero => exact ⟨Int.le_refl 0, Int.le_refl 0⟩
  | succ n ih => rw [nbF_s]; split <;> omega
theorem depF_s (s : Int → Int) (a : Int) (n : Nat) : depF s a (n + 1) = depF s a n + dl (s (a + (n : Int))) := rfl
theorem dl_b (t : Int) : -1 ≤ dl t ∧ dl t ≤ 1 ∧ (0 ≤ t → dl t = 1) ∧ (t = -33 → dl t = 0) ∧ (t < 0 → t ≠ -33 → dl t = -1) := by
  unfold dl
  split
  · omega
  · split <;> omega
theorem depF_b {s : Int → Int} {a : Int} {n : Nat} (h : okS s a n) : 0 ≤ depF s a n ∧ depF s a n ≤ n := by
  induction n with
  | zero => exact ⟨Int.le_refl 0, Int.le_refl 0⟩
  | succ n ih =>
    have h1 := ih (fun i hi => h i (by omega))
    have h2 := h n (by omega)
    have h3 := dl_b (s (a + (n : Int)))
    rw [depF_s]
    by_cases e : s (a + (n : Int)) = -33
    · have := h2.1 e; omega
    · by_cases e2 : s (a + (n : Int)) < 0
      · have := h2.2 e2 e; omega
      · omega
/-- at a place of these signs -/
theorem okAt {s : Int → Int} {a q b : Int} (h : okS s a (b - a).toNat) (h0 : a ≤ q) (h1 : q < b) : (s q = -33 → 1 ≤ depF s a (q - a).toNat) ∧ (s q < 0 → s q ≠ -33 → 2 ≤ depF s a (q - a).toNat) ∧ 0 ≤ depF s a (q - a).toNat ∧ depF s a (q - a).toNat ≤ q - a ∧ depF s a (q + 1 - a).toNat = depF s a (q - a).toNat + dl (s q) := by
  have hi : (q - a).toNat < (b - a).toNat := by omega
  have e : a + (((q - a).toNat : Nat) : Int) = q := by omega
  have h2 := h _ hi
  rw [e] at h2
  have h3 := depF_b (s := s) (a := a) (n := (q - a).toNat) (fun i hi' => h i (by omega))
  have e2 : (q + 1 - a).toNat = (q - a).toNat + 1 := by omega
  refine ⟨h2.1, h2.2, h3.1, by omega, ?_⟩
  rw [e2, depF_s, e]
theorem depF_cong {s s' : Int → Int} {a : Int} : ∀ {n : Nat}, (∀ i : Nat, i < n → s' (a + (i : Int)) = s (a + (i : Int))) → depF s' a n = depF s a n
  | 0, _ => rfl
  | n + 1, h => by
    rw [depF_s, depF_s, h n (by omega), depF_cong (n := n) (fun i hi => h i (by omega))]
theorem okS_cong {s s' : Int → Int} {a : Int} {n : Nat} (h : ∀ i : Nat, i < n → s' (a + (i : Int)) = s (a + (i : Int))) (hk : okS s a n) : okS s' a n := by
  intro i hi
  rw [h i hi, depF_cong (n := i) (fun j hj => h j (by omega))]
  exact hk i hi
theorem nbF_cong {w w' : Int → Int} : ∀ {n : Nat}, (∀ i : Nat, i < n → w' (i : Int) = w (i : Int)) → nbF w' n = nbF w n
  | 0, _ => rfl
  | n + 1, h => by rw [nbF_s, nbF_s, h n (by omega), nbF_cong (n := n) (fun i hi => h i (by omega))]
def WFc (σ : Nat → Int → Int) (f c : Int) : Prop := 100 * f ≤ σ 82 c ∧ σ 83 c ≤ 100 * f + 100 ∧ okS (σ 84) (σ 82 c) (σ 83 c - σ 82 c).toNat
def JW (σ : Nat → Int → Int) : Prop := ∀ f, 0 ≤ f → f < σ 69 10 → ∀ c, 10 * f ≤ c → c < 10 * f + σ 79 f → σ 80 c ≠ 2 → WFc σ f c
def JR (σ : Nat → Int → Int) : Prop := (∀ f, 0 ≤ f → f < σ 69 1 → 1 ≤ σ 77 f) ∧ (∀ f, 0 ≤ f → f < σ 69 47 → 1 ≤ σ 102 f) ∧ (∀ k, 0 ≤ k → k < σ 69 41 → σ 93 k < σ 69 1) ∧ (∀ k, 0 ≤ k → k < σ 69 50 → σ 105 k < σ 69 47) ∧ σ 69 11 < σ 69 10 ∧ σ 69 45 < σ 69 10
def JS (σ : Nat → Int → Int) : Prop := JR σ ∧ JW σ
theorem WFc_cong {σ σ' : Nat → Int → Int} {f c : Int} (e1 : σ' 82 c = σ 82 c) (e2 : σ' 83 c = σ 83 c) (e3 : ∀ j, σ 82 c ≤ j → j < σ 83 c → σ' 84 j = σ 84 j) (h : WFc σ f c) : WFc σ' f c := by
  obtain ⟨h1, h2, h3⟩ := h
  refine ⟨by rw [e1]; exact h1, by rw [e2]; exact h2, ?_⟩
  rw [e1, e2]
  exact okS_cong (fun i hi => e3 _ (by omega) (by omega)) h3
theorem JR_fr {σ σ' : Nat → Int → Int} (h : JR σ) (hF : Fr jNS σ σ') : JR σ' := by
  obtain ⟨h1, h2, h3, h4, h5, h6⟩ := h
  have e1 := hF 69 1 rfl
  have e10 := hF 69 10 rfl
  have e11 := hF 69 11 rfl
  have e41 := hF 69 41 rfl
  have e45 := hF 69 45 rfl
  have e47 := hF 69 47 rfl
  have e50 := hF 69 50 rfl
  refine ⟨fun f a b => ?_, fun f a b => ?_, fun f a b => ?_, fun f a b => ?_, by omega, by omega⟩
  · rw [hF 77 f rfl]; exact h1 f a (by omega)
  · rw [hF 102 f rfl]; exact h2 f a (by omega)
  · rw [hF 93 f rfl, e1]; exact h3 f a (by omega)
  · rw [hF 105 f rfl, e47]; exact h4 f a (by omega)
theorem JW_fr {σ σ' : Nat → Int → Int} (h : JW σ) (hF : Fr jNS σ σ') : JW σ' := by
  intro f a b c d e g
  have e10 := hF 69 10 rfl
  rw [hF 79 f rfl] at e
  rw [hF 80 c rfl] at g
  exact WFc_cong (hF 82 c rfl) (hF 83 c rfl) (fun j _ _ => hF 84 j rfl) (h f a (by omega) c d e g)
theorem JS_fr {σ σ' : Nat → Int → Int} (h : JS σ) (hF : Fr jNS σ σ') : JS σ' := ⟨JR_fr h.1 hF, JW_fr h.2 hF⟩
theorem JS_q {σ : Nat → Int → Int} (h : JS σ) {f : Int} (h0 : 0 ≤ f) (h1 : f < σ 69 1) : 1 ≤ σ 77 f := h.1.1 f h0 h1
theorem JS_b {σ : Nat → Int → Int} (h : JS σ) {k : Int} (h0 : 0 ≤ k) (h1 : k < σ 69 41) : σ 93 k < σ 69 1 := h.1.2.2.1 k h0 h1
theorem JS_t {σ : Nat → Int → Int} (h : JS σ) : σ 69 11 < σ 69 10 := h.1.2.2.2.2.1
theorem JS_w {σ : Nat → Int → Int} (h : JS σ) {c : Int} (h0 : 0 ≤ σ 69 11) (h1 : 10 * σ 69 11 ≤ c) (h2 : c < 10 * σ 69 11 + σ 79 (σ 69 11)) (h3 : σ 80 c ≠ 2) : WFc σ (σ 69 11) c := h.2 _ h0 (JS_t h) c h1 h2 h3
theorem upB {n q : Int} (h0 : 0 ≤ n) (h1 : 1 ≤ q) : 0 ≤ Int.tdiv (n + q - 1) q ∧ Int.tdiv (n + q - 1) q ≤ n := by
  rw [Int.tdiv_eq_ediv_of_nonneg (by omega)]
  refine ⟨Int.ediv_nonneg (by omega) (by omega), ?_⟩
  apply Int.le_of_lt_add_one
  apply Int.ediv_lt_of_lt_mul (by omega)
  have e : (n + 1) * q = n * q + q := by rw [Int.add_mul]; omega
  have h3 : n * 1 ≤ n * q := Int.mul_le_mul_of_nonneg_left (by omega) h0
  omega
/-- the number of set bits of a set of six -/
def popc (s : Int) : Int := s % 2 + s / 2 % 2 + s / 4 % 2 + s / 8 % 2 + s / 16 % 2 + s / 32 % 2
theorem pop_step {s : Int} (h0 : 0 ≤ s) (h1 : s < 64) (hn : s ≠ 0) : 0 ≤ zand s (s - 1) ∧ zand s (s - 1) < s ∧ popc (zand s (s - 1)) = popc s - 1 := by
  have key : ∀ x : Fin 64, (x.1 : Int) ≠ 0 → 0 ≤ zand (x.1 : Int) ((x.1 : Int) - 1) ∧ zand (x.1 : Int) ((x.1 : Int) - 1) < (x.1 : Int) ∧ popc (zand (x.1 : Int) ((x.1 : Int) - 1)) = popc (x.1 : Int) - 1 := by decide +kernel
  have := key ⟨s.toNat, by omega⟩
  simp only [Int.toNat_of_nonneg h0] at this
  exact this hn
theorem pop_b {s : Int} (h0 : 0 ≤ s) (h1 : s < 64) : 0 ≤ popc s ∧ popc s ≤ 6 := by unfold popc; omega
/-- an int as a number from 0 on -/
def uns (a : Int) : Nat := (Int32.ofInt a).toBitVec.toNat
theorem uns_step {a : Int} (ha : R32 a) (hn : a ≠ 0) : uns (zand a (a - 1)) < uns a := by
  unfold uns zand
  rw [Int32.ofInt_toInt, Int32.toBitVec_and, BitVec.toNat_and]
  have h1 : (Int32.ofInt (a - 1)).toBitVec = (Int32.ofInt a).toBitVec - 1 := by
    rw [Int32.ofInt_sub]; rfl
  have h2 : (Int32.ofInt a).toBitVec ≠ 0#32 := fun e => hn ((z_eq ha (by omega)).mp (Int32.toBitVec_inj.mp (e.trans (by decide))))
  have h3 : 0 < (Int32.ofInt a).toBitVec.toNat := by
    rcases Nat.eq_zero_or_pos (Int32.ofInt a).toBitVec.toNat with h | h
    · exact absurd (BitVec.eq_of_toNat_eq h) h2
    · exact h
  have h4 : ((Int32.ofInt a).toBitVec - 1).toNat = (Int32.ofInt a).toBitVec.toNat - 1 := by
    have hl := (Int32.ofInt a).toBitVec.isLt
    rw [BitVec.toNat_sub]
    simp only [BitVec.ofNat_eq_ofNat, BitVec.toNat_ofNat]
    omega
  rw [h1, h4]
  have := Nat.and_le_right (n := (Int32.ofInt a).toBitVec.toNat) (m := (Int32.ofInt a).toBitVec.toNat - 1)
  omega
/-- how many orders n have -/
def facI (n : Int) : Int := if n ≤ 1 then 1 else if n = 2 then 2 else if n = 3 then 6 else if n = 4 then 24 else if n = 5 then 120 else 720
theorem facI_b (n : Int) : 1 ≤ facI n ∧ facI n ≤ 720 := by unfold facI; split; omega; split; omega; split; omega; split; omega; split <;> omega
theorem facI_5 {n : Int} (h : n ≤ 5) : facI n ≤ 120 := by unfold facI; split; omega; split; omega; split; omega; split; omega; split <;> omega
theorem fac_s {k : Int} (h0 : 2 ≤ k) (h1 : k ≤ 6) : facI (k - 1) * k = facI k := by
  have : k = 2 ∨ k = 3 ∨ k = 4 ∨ k = 5 ∨ k = 6 := by omega
  rcases this with rfl | rfl | rfl | rfl | rfl <;> decide
theorem fac_d {m : Int} (h0 : 1 ≤ m) (h1 : m ≤ 6) : Int.tdiv (facI m) m = facI (m - 1) := by
  have : m = 1 ∨ m = 2 ∨ m = 3 ∨ m = 4 ∨ m = 5 ∨ m = 6 := by omega
  rcases this with rfl | rfl | rfl | rfl | rfl | rfl <;> decide
theorem fac_q {m r : Int} (h0 : 1 ≤ m) (h1 : m ≤ 6) (h2 : 0 ≤ r) (h3 : r < facI m) : 0 ≤ Int.tdiv r (facI (m - 1)) ∧ Int.tdiv r (facI (m - 1)) < m ∧ 0 ≤ Int.tmod r (facI (m - 1)) ∧ Int.tmod r (facI (m - 1)) < facI (m - 1) := by
  have hb := facI_b (m - 1)
  have hm := tmodB (a := r) (b := facI (m - 1)) (by omega)
  rw [Int.tdiv_eq_ediv_of_nonneg h2]
  refine ⟨Int.ediv_nonneg h2 (by omega), ?_, by omega, by omega⟩
  apply Int.ediv_lt_of_lt_mul (by omega)
  have e : facI m = m * facI (m - 1) := by
    have : m = 1 ∨ m = 2 ∨ m = 3 ∨ m = 4 ∨ m = 5 ∨ m = 6 := by omega
    rcases this with rfl | rfl | rfl | rfl | rfl | rfl <;> decide
  omega
/-- the set bits from place h on -/
def remB (s h : Int) : Int := popc (zshr s h)
theorem rem_0 {s : Int} (h0 : 0 ≤ s) (h1 : s < 64) : remB s 0 = popc s := by
  unfold remB; rw [shr0 s (by omega)]
theorem rem_s {s h : Int} (h0 : 0 ≤ s) (h1 : s < 64) (h2 : 0 ≤ h) (h3 : h ≤ 6) : (h = 6 ∧ remB s h = 0) ∨ (h ≤ 5 ∧ remB s h = remB s (h + 1) + zbit s h ∧ 0 ≤ remB s (h + 1)) := by
  have key : ∀ (x : Fin 64) (y : Fin 7), ((y.1 : Int) = 6 ∧ remB x.1 y.1 = 0) ∨ ((y.1 : Int) ≤ 5 ∧ remB x.1 y.1 = remB x.1 (y.1 + 1) + zbit x.1 y.1 ∧ 0 ≤ remB x.1 (y.1 + 1)) := by decide +kernel
  have := key ⟨s.toNat, by omega⟩ ⟨h.toNat, by omega⟩
  simp only [Int.toNat_of_nonneg h0, Int.toNat_of_nonneg h2] at this
  exact this
theorem clr_bit {s h : Int} (h0 : 0 ≤ s) (h1 : s < 64) (h2 : 0 ≤ h) (h3 : h ≤ 5) (hb : zbit s h = 1) : 0 ≤ zand s (zxor (zshl 1 h) (-1)) ∧ zand s (zxor (zshl 1 h) (-1)) < 64 ∧ popc (zand s (zxor (zshl 1 h) (-1))) = popc s - 1 := by
  have key : ∀ (x : Fin 64) (y : Fin 6), zbit x.1 y.1 = 1 → 0 ≤ zand x.1 (zxor (zshl 1 y.1) (-1)) ∧ zand x.1 (zxor (zshl 1 y.1) (-1)) < 64 ∧ popc (zand x.1 (zxor (zshl 1 y.1) (-1))) = popc x.1 - 1 := by decide +kernel
  have := key ⟨s.toNat, by omega⟩ ⟨h.toNat, by omega⟩
  simp only [Int.toNat_of_nonneg h0, Int.toNat_of_nonneg h2] at this
  exact this hb
theorem tdivG {a b : Int} (hb : b ≠ 0) : (a < 0 ∨ (-a ≤ a.tdiv b ∧ a.tdiv b ≤ a)) ∧ (0 ≤ a ∨ (a ≤ a.tdiv b ∧ a.tdiv b ≤ -a)) := by
  rcases Int.lt_or_gt_of_ne hb with h | h
  · have := tdivB (a := a) (b := -b) (by omega)
    rw [Int.tdiv_neg] at this
    omega
  · have := tdivB (a := a) (b := b) h
    omega
/-- what the image takes; what it gives back -/
def imgCp (σ σ' : Nat → Int → Int) : Prop := σ' 69 45 = σ 69 11 ∧ σ' 69 46 = σ 69 0 ∧ σ' 69 47 = σ 69 1 ∧ σ' 69 48 = σ 69 34 ∧ σ' 69 49 = σ 69 38 ∧ σ' 69 50 = σ 69 41 ∧ (∀ j, 0 ≤ j → j < 6 → σ' 95 j = σ 70 j) ∧ (∀ j, 0 ≤ j → j < 6 → σ' 96 j = σ 71 j) ∧ (∀ j, 0 ≤ j → j < 6 → σ' 97 j = σ 72 j) ∧ (∀ j, 0 ≤ j → j < 6 → σ' 98 j = σ 73 j) ∧ (∀ j, 0 ≤ j → j < 24 → σ' 99 j = σ 74 j) ∧ (∀ j, 0 ≤ j → j < 4 → σ' 100 j = σ 75 j) ∧ (∀ j, 0 ≤ j → j < 4 → σ' 101 j = σ 76 j) ∧ (∀ j, 0 ≤ j → j < 4 → σ' 102 j = σ 77 j) ∧ (∀ j, 0 ≤ j → j < 8 → σ' 103 j = σ 88 j) ∧ (∀ j, 0 ≤ j → j < 8 → σ' 104 j = σ 91 j) ∧ (∀ j, 0 ≤ j → j < 8 → σ' 107 j = σ 92 j) ∧ (∀ j, 0 ≤ j → j < 12 → σ' 105 j = σ 93 j) ∧ (∀ j, 0 ≤ j → j < 12 → σ' 106 j = σ 94 j)
def undoCp (σ σ' : Nat → Int → Int) : Prop := σ' 69 11 = σ 69 45 ∧ σ' 69 0 = σ 69 46 ∧ σ' 69 1 = σ 69 47 ∧ σ' 69 34 = σ 69 48 ∧ σ' 69 38 = σ 69 49 ∧ σ' 69 41 = σ 69 50 ∧ (∀ j, 0 ≤ j → j < 6 → σ' 70 j = σ 95 j) ∧ (∀ j, 0 ≤ j → j < 6 → σ' 71 j = σ 96 j) ∧ (∀ j, 0 ≤ j → j < 6 → σ' 72 j = σ 97 j) ∧ (∀ j, 0 ≤ j → j < 6 → σ' 73 j = σ 98 j) ∧ (∀ j, 0 ≤ j → j < 24 → σ' 74 j = σ 99 j) ∧ (∀ j, 0 ≤ j → j < 4 → σ' 75 j = σ 100 j) ∧ (∀ j, 0 ≤ j → j < 4 → σ' 76 j = σ 101 j) ∧ (∀ j, 0 ≤ j → j < 4 → σ' 77 j = σ 102 j) ∧ (∀ j, 0 ≤ j → j < 8 → σ' 88 j = σ 103 j) ∧ (∀ j, 0 ≤ j → j < 8 → σ' 91 j = σ 104 j) ∧ (∀ j, 0 ≤ j → j < 8 → σ' 92 j = σ 107 j) ∧ (∀ j, 0 ≤ j → j < 12 → σ' 93 j = σ 105 j) ∧ (∀ j, 0 ≤ j → j < 12 → σ' 94 j = σ 106 j)
theorem JW_of {σ σ' : Nat → Int → Int} (h : JW σ) (e10 : σ' 69 10 = σ 69 10) (e79 : ∀ j, σ' 79 j = σ 79 j) (e80 : ∀ j, σ' 80 j = σ 80 j) (e82 : ∀ j, σ' 82 j = σ 82 j) (e83 : ∀ j, σ' 83 j = σ 83 j) (e84 : ∀ j, σ' 84 j = σ 84 j) : JW σ' := by
  intro f a b c d e g
  rw [e79] at e
  rw [e80] at g
  exact WFc_cong (e82 c) (e83 c) (fun j _ _ => e84 j) (h f a (by omega) c d e g)
theorem JS_folk {σ : Nat → Int → Int} {s k q : Int} (h : JS σ) (h0 : 0 ≤ σ 69 1) (hq : 1 ≤ q) : JS (up (up (up (up σ 75 (σ 69 1) s) 76 (σ 69 1) k) 77 (σ 69 1) q) 69 1 (σ 69 1 + 1)) := by
  obtain ⟨⟨h1, h2, h3, h4, h5, h6⟩, hw⟩ := h
  refine ⟨⟨fun f a b => ?_, fun f a b => ?_, fun f a b => ?_, fun f a b => ?_, ?_, ?_⟩, ?_⟩
  · have b' : f < σ 69 1 + 1 := by simpa [up] using b
    by_cases e : f = σ 69 1
    · rw [e]; simpa [up] using hq
    · have := h1 f a (by omega)
      simpa [up, e] using this
  · have b' : f < σ 69 47 := by simpa [up] using b
    have := h2 f a b'
    simpa [up] using this
  · have b' : f < σ 69 41 := by simpa [up] using b
    have := h3 f a b'
    have e : σ 93 f < σ 69 1 + 1 := by omega
    simpa [up] using e
  · have b' : f < σ 69 50 := by simpa [up] using b
    have := h4 f a b'
    simpa [up] using this
  · simpa [up] using h5
  · simpa [up] using h6
  · exact JW_of hw (by simp [up]) (by simp [up]) (by simp [up]) (by simp [up]) (by simp [up]) (by simp [up])
theorem JS_book {σ : Nat → Int → Int} {f h : Int} (hs : JS σ) (h0 : 0 ≤ σ 69 41) (hf : f < σ 69 1) : JS (up (up (up σ 93 (σ 69 41) f) 94 (σ 69 41) h) 69 41 (σ 69 41 + 1)) := by
  obtain ⟨⟨h1, h2, h3, h4, h5, h6⟩, hw⟩ := hs
  refine ⟨⟨fun k a b => ?_, fun k a b => ?_, fun k a b => ?_, fun k a b => ?_, ?_, ?_⟩, ?_⟩
  · have b' : k < σ 69 1 := by simpa [up] using b
    have := h1 k a b'
    simpa [up] using this
  · have b' : k < σ 69 47 := by simpa [up] using b
    have := h2 k a b'
    simpa [up] using this
  · have b' : k < σ 69 41 + 1 := by simpa [up] using b
    by_cases e : k = σ 69 41
    · rw [e]; simpa [up] using hf
    · have := h3 k a (by omega)
      simpa [up, e] using this
  · have b' : k < σ 69 50 := by simpa [up] using b
    have := h4 k a b'
    simpa [up] using this
  · simpa [up] using h5
  · simpa [up] using h6
  · exact JW_of hw (by simp [up]) (by simp [up]) (by simp [up]) (by simp [up]) (by simp [up]) (by simp [up])
theorem JS_book0 {σ : Nat → Int → Int} (hs : JS σ) : JS (up σ 69 41 0) := by
  obtain ⟨⟨h1, h2, h3, h4, h5, h6⟩, hw⟩ := hs
  refine ⟨⟨fun k a b => ?_, fun k a b => ?_, fun k a b => ?_, fun k a b => ?_, ?_, ?_⟩, ?_⟩
  · have b' : k < σ 69 1 := by simpa [up] using b
    have := h1 k a b'
    simpa [up] using this
  · have b' : k < σ 69 47 := by simpa [up] using b
    have := h2 k a b'
    simpa [up] using this
  · have b' : k < 0 := by simpa [up] using b
    omega
  · have b' : k < σ 69 50 := by simpa [up] using b
    have := h4 k a b'
    simpa [up] using this
  · simpa [up] using h5
  · simpa [up] using h6
  · exact JW_of hw (by simp [up]) (by simp [up]) (by simp [up]) (by simp [up]) (by simp [up]) (by simp [up])
theorem JS_img {σ σ' : Nat → Int → Int} (hI : InvJ σ) (hs : JS σ) (hF : Fr jcI σ σ') (hc : imgCp σ σ') : JS σ' := by
  obtain ⟨⟨h1, h2, h3, h4, h5, h6⟩, hw⟩ := hs
  obtain ⟨c45, c46, c47, c48, c49, c50, -, -, -, -, -, -, -, c102, -, -, -, c105, -⟩ := hc
  have b1 := jv69_1 hI 1 (by omega) (by omega)
  have b41 := jv69_41 hI 41 (by omega) (by omega)
  have e1 := hF 69 1 rfl
  have e10 := hF 69 10 rfl
  have e11 := hF 69 11 rfl
  have e41 := hF 69 41 rfl
  refine ⟨⟨fun k a b => ?_, fun k a b => ?_, fun k a b => ?_, fun k a b => ?_, by omega, by omega⟩, ?_⟩
  · rw [hF 77 k rfl]; exact h1 k a (by omega)
  · rw [c102 k a (by omega)]; exact h1 k a (by omega)
  · rw [hF 93 k rfl, e1]; exact h3 k a (by omega)
  · rw [c105 k a (by omega), c47]; exact h3 k a (by omega)
  · exact JW_of hw e10 (fun j => hF 79 j rfl) (fun j => hF 80 j rfl) (fun j => hF 82 j rfl) (fun j => hF 83 j rfl) (fun j => hF 84 j rfl)
theorem JS_undo {σ σ' : Nat → Int → Int} (hI : InvJ σ) (hs : JS σ) (hF : Fr jcU σ σ') (hc : undoCp σ σ') : JS σ' := by
  obtain ⟨⟨h1, h2, h3, h4, h5, h6⟩, hw⟩ := hs
  obtain ⟨c45, c46, c47, c48, c49, c50, -, -, -, -, -, -, -, c102, -, -, -, c105, -⟩ := hc
  have b47 := jv69_47 hI 47 (by omega) (by omega)
  have b50 := jv69_50 hI 50 (by omega) (by omega)
  have e47 := hF 69 47 rfl
  have e10 := hF 69 10 rfl
  have e45 := hF 69 45 rfl
  have e50 := hF 69 50 rfl
  refine ⟨⟨fun k a b => ?_, fun k a b => ?_, fun k a b => ?_, fun k a b => ?_, by omega, by omega⟩, ?_⟩
  · rw [c102 k a (by omega)]; exact h2 k a (by omega)
  · rw [hF 102 k rfl]; exact h2 k a (by omega)
  · rw [c105 k a (by omega), c47]; exact h4 k a (by omega)
  · rw [hF 105 k rfl, e47]; exact h4 k a (by omega)
  · exact JW_of hw e10 (fun j => hF 79 j rfl) (fun j => hF 80 j rfl) (fun j => hF 82 j rfl) (fun j => hF 83 j rfl) (fun j => hF 84 j rfl)
