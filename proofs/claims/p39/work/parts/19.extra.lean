/-! numbers' facts -/
theorem zandR (a b : Int) : R32 (zand a b) := z_R _
theorem zorR (a b : Int) : R32 (zor a b) := z_R _
theorem zxorR (a b : Int) : R32 (zxor a b) := z_R _
theorem zshlR (a b : Int) : R32 (zshl a b) := z_R _
theorem zshrR (a b : Int) : R32 (zshr a b) := z_R _
theorem zushrR (a b : Int) : R32 (zushr a b) := z_R _
theorem zl2iR (a : Int) : R32 (zl2i a) := z_R _
theorem zi2bR (a : Int) : -128 ≤ zi2b a ∧ zi2b a < 128 := by
  unfold zi2b
  rw [Int8.toInt_toInt32]
  have h1 := (Int32.ofInt a).toInt8.le_toInt
  have h2 := (Int32.ofInt a).toInt8.toInt_lt
  omega
theorem zi2sR (a : Int) : -32768 ≤ zi2s a ∧ zi2s a < 32768 := by
  unfold zi2s
  rw [Int16.toInt_toInt32]
  have h1 := (Int32.ofInt a).toInt16.le_toInt
  have h2 := (Int32.ofInt a).toInt16.toInt_lt
  omega
theorem zi2cR (a : Int) : R32 (zi2c a) := z_R _
theorem zand1 (a : Int) : zand a 1 = 0 ∨ zand a 1 = 1 := by
  unfold zand
  have h : (Int32.ofInt a &&& Int32.ofInt 1).toBitVec = BitVec.setWidth 32 (BitVec.ofBool ((Int32.ofInt a).toBitVec.getLsbD 0)) := by
    rw [← BitVec.and_one_eq_setWidth_ofBool_getLsbD]; rfl
  cases hb : (Int32.ofInt a).toBitVec.getLsbD 0 with
  | true =>
    rw [hb] at h
    have e : Int32.ofInt a &&& Int32.ofInt 1 = 1 := Int32.toBitVec_inj.mp (h.trans (by decide))
    rw [e]; exact Or.inr (by decide)
  | false =>
    rw [hb] at h
    have e : Int32.ofInt a &&& Int32.ofInt 1 = 0 := Int32.toBitVec_inj.mp (h.trans (by decide))
    rw [e]; exact Or.inl (by decide)
theorem shr0 (a : Int) (h : R32 a) : zshr a 0 = a := by
  unfold zshr
  rw [show (Int32.ofInt 0 &&& 31 : Int32) = 0 by decide, Int32.shiftRight_zero, z_toInt h]
theorem zlshlR (a b : Int) : R64 (zlshl a b) := z_RL _
theorem zlandR (a b : Int) : R64 (zland a b) := z_RL _
theorem zlorR (a b : Int) : R64 (zlor a b) := z_RL _
theorem tdivB {a b : Int} (hb : 0 < b) : (a < 0 ∨ (0 ≤ a.tdiv b ∧ a.tdiv b ≤ a)) ∧ (0 ≤ a ∨ (a ≤ a.tdiv b ∧ a.tdiv b ≤ 0)) := by
  constructor
  · by_cases h : a < 0
    · exact Or.inl h
    · right
      rw [Int.tdiv_eq_ediv_of_nonneg (by omega)]
      exact ⟨Int.ediv_nonneg (by omega) (by omega), Int.ediv_le_self b (by omega)⟩
  · by_cases h : 0 ≤ a
    · exact Or.inl h
    · right
      have e : a.tdiv b = -((-a).tdiv b) := by rw [Int.neg_tdiv]; omega
      rw [e, Int.tdiv_eq_ediv_of_nonneg (by omega)]
      have h1 := Int.ediv_nonneg (a := -a) (b := b) (by omega) (by omega)
      have h2 := Int.ediv_le_self (a := -a) b (by omega)
      omega
theorem tmodB {a b : Int} (hb : 0 < b) : -b < a.tmod b ∧ a.tmod b < b ∧ (a < 0 ∨ 0 ≤ a.tmod b) := by
  refine ⟨?_, Int.tmod_lt_of_pos a hb, ?_⟩
  · have e : a.tmod b = -((-a).tmod b) := by rw [Int.neg_tmod]; omega
    have := Int.tmod_lt_of_pos (-a) hb
    omega
  · by_cases h : a < 0
    · exact Or.inl h
    · exact Or.inr (Int.tmod_nonneg b (by omega))
/-- a product with a bit -/
theorem mul01 {a n : Int} (h : a = 0 ∨ a = 1) : a * n = 0 ∨ a * n = n := by
  rcases h with rfl | rfl
  · left; omega
  · right; omega
/-- a product of bounded numbers -/
theorem mulB {a b A C : Int} (ha : -A ≤ a ∧ a ≤ A) (hb : 0 ≤ b ∧ b ≤ C) : -(A * C) ≤ a * b ∧ a * b ≤ A * C := by
  have hA : 0 ≤ A := by omega
  have h1 : a * b ≤ A * b := Int.mul_le_mul_of_nonneg_right ha.2 hb.1
  have h2 : A * b ≤ A * C := Int.mul_le_mul_of_nonneg_left hb.2 hA
  have h3 : -A * b ≤ a * b := Int.mul_le_mul_of_nonneg_right ha.1 hb.1
  have h4 : -A * b = -(A * b) := Int.neg_mul A b
  omega
theorem mulP {a b A C : Int} (ha : 0 ≤ a ∧ a ≤ A) (hb : 0 ≤ b ∧ b ≤ C) : 0 ≤ a * b ∧ a * b ≤ A * C :=
  ⟨Int.mul_nonneg ha.1 hb.1, (mulB (a := a) (b := b) (A := A) (C := C) (by omega) hb).2⟩
/-- the place's bit; a number with the bit set, or not -/
def zbit (b i : Int) : Int := zand (zshr b i) 1
theorem zbitR (b i : Int) : 0 ≤ zbit b i ∧ zbit b i ≤ 1 := by
  have := zand1 (zshr b i); unfold zbit; omega
def zwith (b i is : Int) : Int := if is = 0 then zand b (zxor (zshl 1 i) (-1)) else zor b (zshl 1 i)
theorem zwithR (b i is : Int) : R32 (zwith b i is) := by unfold zwith; split; exact z_R _; exact z_R _
def rup (w b : Int) : Int := if b ≤ 0 then 0 else Int.tdiv (w + b - 1) b
theorem rupB {w b : Int} (h : -1000000 ≤ w ∧ w ≤ 1000000) (hb : b ≤ 18) : -1000000 ≤ rup w b ∧ rup w b ≤ 1000018 := by
  unfold rup
  split
  · omega
  · have := tdivB (a := w + b - 1) (b := b) (by omega)
    omega
theorem rupC {w b : Int} (h : -1000000 ≤ w ∧ w ≤ 999999) : -1000000 ≤ rup w b ∧ rup w b ≤ 1000000 := by
  unfold rup
  split
  · omega
  · by_cases h0 : 0 < w
    · rw [Int.tdiv_eq_ediv_of_nonneg (by omega)]
      have h1 := Int.ediv_nonneg (a := w + b - 1) (b := b) (by omega) (by omega)
      have h2 : (w + b - 1) / b ≤ w := by
        apply Int.le_of_lt_add_one
        apply Int.ediv_lt_of_lt_mul (by omega)
        have : (w + 1) * b = w * b + b := by rw [Int.add_mul]; omega
        have h3 : w * 1 ≤ w * b := Int.mul_le_mul_of_nonneg_left (by omega) (by omega)
        omega
      omega
    · have := tdivB (a := w + b - 1) (b := b) (by omega)
      by_cases h1 : w + b - 1 < 0
      · omega
      · rw [Int.tdiv_eq_ediv_of_nonneg (by omega)]
        have h2 : (w + b - 1) / b ≤ 0 := by
          apply Int.le_of_lt_add_one
          apply Int.ediv_lt_of_lt_mul (by omega)
          omega
        have h3 := Int.ediv_nonneg (a := w + b - 1) (b := b) (by omega) (by omega)
        omega
/-! rows of rows, by a number -/
theorem shp_item {i : Int} (h0 : 0 ≤ i) (h1 : i < 6) : shp (25 + Int.toNat i) = (2, 60) := by
  have : i = 0 ∨ i = 1 ∨ i = 2 ∨ i = 3 ∨ i = 4 ∨ i = 5 := by omega
  rcases this with rfl | rfl | rfl | rfl | rfl | rfl <;> rfl
theorem shp_tok {i : Int} (h0 : 0 ≤ i) (h1 : i < 6) : shp (53 + Int.toNat i) = (1, 100) := by
  have : i = 0 ∨ i = 1 ∨ i = 2 ∨ i = 3 ∨ i = 4 ∨ i = 5 := by omega
  rcases this with rfl | rfl | rfl | rfl | rfl | rfl <;> rfl
theorem items_ref {t : Nat} {i : Int} (h0 : 0 ≤ i) (h1 : i < 6) : ρT t 24 (Int.toNat i) = (25 + Int.toNat i) + 1 := by
  have : i = 0 ∨ i = 1 ∨ i = 2 ∨ i = 3 ∨ i = 4 ∨ i = 5 := by omega
  rcases this with rfl | rfl | rfl | rfl | rfl | rfl <;> rfl
theorem toks_ref {t : Nat} {i : Int} (h0 : 0 ≤ i) (h1 : i < 6) : ρT t 52 (Int.toNat i) = (53 + Int.toNat i) + 1 := by
  have : i = 0 ∨ i = 1 ∨ i = 2 ∨ i = 3 ∨ i = 4 ∨ i = 5 := by omega
  rcases this with rfl | rfl | rfl | rfl | rfl | rfl <;> rfl
theorem tok_own {t : Nat} {i : Int} (h0 : 0 ≤ i) (h1 : i < 6) (h : t = 54 + Int.toNat i) : ρT t 19 4 = (53 + Int.toNat i) + 1 := by
  subst h; show (if (19 : Nat) = 19 ∧ (4 : Nat) = 4 then 54 + Int.toNat i else refF 19 4) = _; simp; omega
theorem aboveB {i : Int} (h0 : 0 ≤ i) (h1 : i < 7) : -1 ≤ aboveF (Int.toNat i) ∧ aboveF (Int.toNat i) ≤ 3 := by
  have : i = 0 ∨ i = 1 ∨ i = 2 ∨ i = 3 ∨ i = 4 ∨ i = 5 ∨ i = 6 := by omega
  rcases this with rfl | rfl | rfl | rfl | rfl | rfl | rfl <;> decide
theorem bodiesB (j : Nat) : 0 ≤ bodiesF j ∧ bodiesF j ≤ 71 := by
  unfold bodiesF
  rw [List.getD_eq_getElem?_getD]
  cases h : ([10, 11, 12, 0, 20, 0, 30, 0, 0, 0, 0, 40, 50, 51, 0, 0, 0, 60, 71, 70, 0] : List Int)[j]? with
  | none => simp
  | some x =>
    have := List.mem_of_getElem? h
    have key : ∀ x ∈ ([10, 11, 12, 0, 20, 0, 30, 0, 0, 0, 0, 40, 50, 51, 0, 0, 0, 60, 71, 70, 0] : List Int), 0 ≤ x ∧ x ≤ 71 := by decide
    exact key x this
theorem aboveE {i : Int} (h0 : 0 ≤ i) (h1 : i < 7) : (i = 0 ∧ aboveF (Int.toNat i) = -1) ∨ (1 ≤ i ∧ i ≤ 3 ∧ aboveF (Int.toNat i) = 0) ∨ (4 ≤ i ∧ aboveF (Int.toNat i) = i - 3) := by
  have : i = 0 ∨ i = 1 ∨ i = 2 ∨ i = 3 ∨ i = 4 ∨ i = 5 ∨ i = 6 := by omega
  rcases this with rfl | rfl | rfl | rfl | rfl | rfl | rfl <;> decide
/-- whether kind a is kind k, or under it -/
def undB (a k : Int) : Bool := a == k || (k == 0 && decide (0 ≤ a)) || (a == 4 && k == 1) || (a == 5 && k == 2) || (a == 6 && k == 3)
theorem undS {q k : Int} (h0 : 0 ≤ q) (h1 : q < 7) (k0 : 0 ≤ k ∧ k ≤ 6) (hn : q ≠ k) : undB (aboveF (Int.toNat q)) k = undB q k := by
  have hq : q = 0 ∨ q = 1 ∨ q = 2 ∨ q = 3 ∨ q = 4 ∨ q = 5 ∨ q = 6 := by omega
  have hk : k = 0 ∨ k = 1 ∨ k = 2 ∨ k = 3 ∨ k = 4 ∨ k = 5 ∨ k = 6 := by omega
  rcases hq with rfl | rfl | rfl | rfl | rfl | rfl | rfl <;> rcases hk with rfl | rfl | rfl | rfl | rfl | rfl | rfl <;> first | (exact absurd rfl hn) | decide
theorem undK (k : Int) : undB k k = true := by unfold undB; simp
theorem undN {k : Int} (k0 : 0 ≤ k ∧ k ≤ 6) : undB (-1) k = false := by
  have hk : k = 0 ∨ k = 1 ∨ k = 2 ∨ k = 3 ∨ k = 4 ∨ k = 5 ∨ k = 6 := by omega
  rcases hk with rfl | rfl | rfl | rfl | rfl | rfl | rfl <;> decide
theorem tmodG {a b : Int} (hb : b ≠ 0) : (0 < b ∧ -b < a.tmod b ∧ a.tmod b < b) ∨ (b < 0 ∧ b < a.tmod b ∧ a.tmod b < -b) := by
  rcases Int.lt_or_gt_of_ne hb with h | h
  · right
    have := tmodB (a := a) (b := -b) (by omega)
    rw [Int.tmod_neg] at this
    omega
  · left
    have := tmodB (a := a) (b := b) (by omega)
    omega
theorem iv_cpy {σ : Nat → Int → Int} {k0 k1 : Nat} {sp dp len : Int} (h : InvX σ) (hk : ∀ q ∈ ivL, q.1 = k1 → (k0, q.2) ∈ ivL) (hsd : sp = dp) : InvX (cpy σ k0 k1 sp dp len) := by
  intro q hq j h0 h1
  by_cases e : q.1 = k1 ∧ dp ≤ j ∧ j < dp + len
  · have e2 : cpy σ k0 k1 sp dp len q.1 j = σ k0 j := by
      unfold cpy
      rw [if_pos e]
      congr 1
      omega
    rw [e2]
    exact h (k0, q.2) (hk q hq e.1) j h0 h1
  · rw [show cpy σ k0 k1 sp dp len q.1 j = σ q.1 j from if_neg e]
    exact h q hq j h0 h1
theorem iv_cpyV {σ : Nat → Int → Int} {k0 k1 : Nat} {sp dp len : Int} (h : InvX σ) (hk : 25 ≤ k1 ∧ k1 ≤ 30) : InvX (cpy σ k0 k1 sp dp len) := by
  have key : ∀ q ∈ ivL, ¬ (25 ≤ q.1 ∧ q.1 ≤ 30) := by decide
  intro q hq j h0 h1
  have e2 : cpy σ k0 k1 sp dp len q.1 j = σ q.1 j := by
    unfold cpy
    refine if_neg (fun e => key q hq ?_)
    rw [e.1]; exact hk
  rw [e2]
  exact h q hq j h0 h1
theorem Fr.cpy {F : Nat → Int → Bool} {a b : Nat → Int → Int} {k0 k1 : Nat} {sp dp len : Int} (h : Fr F a b) (hF : ∀ j, F k1 j = true) : Fr F a (_root_.Jvm.Pilot.@@N@@.cpy b k0 k1 sp dp len) := fun k j q => by
  by_cases e : k = k1 ∧ dp ≤ j ∧ j < dp + len
  · rw [e.1, hF j] at q; cases q
  · rw [show _root_.Jvm.Pilot.@@N@@.cpy b k0 k1 sp dp len k j = b k j from if_neg e]
    exact h k j q
/-- how many bodies at most a call with k levels left begins -/
def acN : Nat → Int
  | 0 => 0
  | k + 1 => 1 + 2 * acN k
theorem acN_s (k : Nat) : acN (k + 1) = 1 + 2 * acN k := rfl
theorem acN_0 (k : Nat) : 0 ≤ acN k := by
  induction k with
  | zero => exact Int.le_refl 0
  | succ k ih => rw [acN_s]; omega
theorem zshl1 {h : Int} (h0 : 0 ≤ h ∧ h ≤ 6) : 1 ≤ zshl 1 h ∧ zshl 1 h ≤ 64 := by
  have hh : h = 0 ∨ h = 1 ∨ h = 2 ∨ h = 3 ∨ h = 4 ∨ h = 5 ∨ h = 6 := by omega
  rcases hh with rfl | rfl | rfl | rfl | rfl | rfl | rfl <;> decide
/-- what a tape answers that is to become a row of n of sort s -/
def tapeF (t s n : Int) : Int := if ¬ (0 ≤ t ∧ t ≤ 5) then -1 else if s = -1 then 1 else if ¬ (0 ≤ s ∧ s ≤ 4 ∧ n ≤ 60) then -2 else if n < 0 then -14 else 1
/-- a number as an item of sort s -/
def cutF (s v : Int) : Int := if s = 0 then zi2b (zl2i v) else if s = 1 then zi2s (zl2i v) else if s = 2 then zl2i v else if s = 4 then (if v = 0 then 0 else 1) else v
theorem cutFR {s v : Int} (h : R64 v) : R64 (cutF s v) := by
  unfold cutF
  have h1 := zi2bR (zl2i v)
  have h2 := zi2sR (zl2i v)
  have h3 := zl2iR v
  split
  · omega
  split
  · omega
  split
  · omega
  split
  · split <;> omega
  · exact h
section GX
variable {Γ : KT} {M : MI} {d : Nat} {B : Nat × Nat} {post : Option Value → St → Prop} {u : Nat × Nat} {pc : Nat} {L : List (Option Value)} {st : List Value} {τ : St} {n : Nat} {ρ : Nat → Nat → Nat} {σ : Nat → Int → Int}
theorem g_lcmp2 {a b : Int} (ha : R64 a) (hb : R64 b) (hd : decode M.2.1 pc = .ok (.lcmp, 1)) (k : ∀ c : Int, (c = 1 ∧ b < a ∨ c = 0 ∧ a = b ∨ c = -1 ∧ a < b) → G Γ M d B post u (pc + 1) L (vI c :: st) τ) : G Γ M d B post u pc L (vL b :: vL a :: st) τ := by
  refine g_lcmp ha hb hd (k _ ?_)
  by_cases h : b < a
  · simp [h]
  · by_cases h2 : a = b
    · simp [h2]
    · rw [if_neg h, if_neg h2]; right; right; exact ⟨rfl, by omega⟩
theorem g_max2 {idx : Nat} {a b : Int} (ha : R32 a) (hb : R32 b) (hl : Cond.methodLink M.1.cls idx Lib.Math.max.name ∈ tblG) (h1 : NM Lib.Math.max.name Lib.Math.max.code 2) (hd : decode M.2.1 pc = .ok (.invokestatic idx, 3)) (hdp : 1 ≤ d) (hu : u = B) (hst : stW st ≤ 8 := by exact Nat.le_of_ble_eq_true rfl) (k : ∀ c : Int, (a < b ∧ c = b ∨ b ≤ a ∧ c = a) → G Γ M d B post u (pc + 3) L (vI c :: st) τ) : G Γ M d B post u pc L (vI b :: vI a :: st) τ := by
  refine g_max ha hb hl h1 hd hdp hu hst (k _ ?_)
  by_cases h : a < b
  · simp [h]
  · rw [if_neg h]; right; exact ⟨by omega, rfl⟩
theorem g_min2 {idx : Nat} {a b : Int} (ha : R32 a) (hb : R32 b) (hl : Cond.methodLink M.1.cls idx Lib.Math.min.name ∈ tblG) (h1 : NM Lib.Math.min.name Lib.Math.min.code 2) (hd : decode M.2.1 pc = .ok (.invokestatic idx, 3)) (hdp : 1 ≤ d) (hu : u = B) (hst : stW st ≤ 8 := by exact Nat.le_of_ble_eq_true rfl) (k : ∀ c : Int, (b < a ∧ c = b ∨ a ≤ b ∧ c = a) → G Γ M d B post u (pc + 3) L (vI c :: st) τ) : G Γ M d B post u pc L (vI b :: vI a :: st) τ := by
  refine g_min ha hb hl h1 hd hdp hu hst (k _ ?_)
  by_cases h : b < a
  · simp [h]
  · rw [if_neg h]; right; exact ⟨by omega, rfl⟩
theorem g_abs2 {idx : Nat} {a : Int} (ha : R32 a) (hl : Cond.methodLink M.1.cls idx Lib.Math.abs.name ∈ tblG) (h1 : NM Lib.Math.abs.name Lib.Math.abs.code 1) (hd : decode M.2.1 pc = .ok (.invokestatic idx, 3)) (hdp : 1 ≤ d) (hu : u = B) (hst : stW st ≤ 8 := by exact Nat.le_of_ble_eq_true rfl) (k : ∀ c : Int, (0 ≤ a ∧ c = a ∨ a < 0 ∧ c = -a) → G Γ M d B post u (pc + 3) L (vI c :: st) τ) : G Γ M d B post u pc L (vI a :: st) τ := by
  refine g_abs ha hl h1 hd hdp hu hst (k _ ?_)
  by_cases h : 0 ≤ a
  · simp [h]
  · rw [if_neg h]; right; exact ⟨by omega, rfl⟩
/-- a number that may be beyond an int's: wrapped -/
theorem g_wrap {a : Int} (k : ∀ c : Int, R32 c → (R32 a → c = a) → G Γ M d B post u pc L (vI c :: st) τ) : G Γ M d B post u pc L (vI a :: st) τ := by
  have h := k (Int32.ofInt a).toInt (z_R _) (fun h => z_toInt h)
  unfold vI at h ⊢
  rwa [Int32.ofInt_toInt] at h
/-! texts -/
theorem strS {s : State} (hK : KS Γ s) {i : Nat} (hi : i < 8) : va_O "java/lang/String" (adK Γ i) (stA Γ) s (kH Γ) ∧ va_OF "java/lang/String" "coder" "B" (.int 0) (adK Γ i) (stA Γ) s (kH Γ) ∧ va_OF "java/lang/String" "value" "[B" (.ref (adV Γ i)) (adK Γ i) (stA Γ) s (kH Γ) ∧ va_T .byte (adV Γ i) (lenJS.getD i 0) (fun j => .int ((bytJS.getD i []).getD j 0)) (stA Γ) s (kH Γ) := hK.2.2.2.2.2.2.2.2.2.1.1 i hi
theorem w_kf {p : Program} {e : Env} {R : Room} {s : State} {m : MethodId} {args : Array Value} {below : List Frame} {meth : Method} {cd : Code} {Q : State → Prop} {H : Heap} {locs : List Loc} {ls : Array Slot} {cells slots : Nat} {nm ds : String} {a idx : Nat} {v : Value} (C : Cx Γ M d B p R s m args meth cd) (hW : Wd Γ τ H) (hE : va_OF "java/lang/String" nm ds v a (stA Γ) s (kH Γ)) (hl : LinkF M.1.cls idx "java/lang/String" nm ds) (hd : decode M.2.1 pc = .ok (.getfield idx, 3))
    (kk : W p (kL Γ) e R s m args below meth cd H locs cells slots Q (F0 m (pc + 3) ls (v :: st))) : W p (kL Γ) e R s m args below meth cd H locs cells slots Q (F0 m pc ls (.ref a :: st)) := by
  obtain ⟨hx, hb, hml, hown, hts, hKS, -⟩ := C
  obtain ⟨cf, k, fi, f, cell, h1, h2, h3, h4, h5, h6⟩ := hE
  rcases hl with hl | ⟨host, hl⟩
  · exact W.getf hx hb hown (hts _ hl) h1 h2 (kept_cell hW h3) h4 (v := v) h5 rfl rfl hd kk
  · have key : ∀ w ∈ nestL, ∀ a i n d q, w ≠ Cond.fieldLinkNest a i "java/lang/String" n d q := by unfold nestL; simp
    exact absurd rfl (key _ hl _ _ _ _ _)
theorem g_kval {i idx : Nat} (hi : i < 8) (hl : LinkF M.1.cls idx "java/lang/String" "value" "[B") (hd : decode M.2.1 pc = .ok (.getfield idx, 3)) (k : G Γ M d B post u (pc + 3) L (.ref (adV Γ i) :: st) τ) : G Γ M d B post u pc L (.ref (adK Γ i) :: st) τ := by
  intro p e R s m args below meth cd Q H locs ls C F hl' hW hS
  exact w_kf C hW (strS C.2.2.2.2.2.1 hi).2.2.1 hl hd (k p e R s m args below meth cd Q H locs ls C F hl' hW hS)
theorem g_kcoder {i idx : Nat} (hi : i < 8) (hl : LinkF M.1.cls idx "java/lang/String" "coder" "B") (hd : decode M.2.1 pc = .ok (.getfield idx, 3)) (k : G Γ M d B post u (pc + 3) L (vI 0 :: st) τ) : G Γ M d B post u pc L (.ref (adK Γ i) :: st) τ := by
  intro p e R s m args below meth cd Q H locs ls C F hl' hW hS
  exact w_kf C hW (strS C.2.2.2.2.2.1 hi).2.1 hl hd (k p e R s m args below meth cd Q H locs ls C F hl' hW hS)
theorem g_compact {idx : Nat} (hl : LinkF M.1.cls idx "java/lang/String" "COMPACT_STRINGS" "Z") (hd : decode M.2.1 pc = .ok (.getstatic idx, 3)) (k : G Γ M d B post u (pc + 3) L (vI 1 :: st) τ) : G Γ M d B post u pc L st τ := by
  intro p e R s m args below meth cd Q H locs ls C F hl' hW hS
  exact w_gets C hW C.2.2.2.2.2.1.2.2.2.2.2.2.2.1 hl hd (k p e R s m args below meth cd Q H locs ls C F hl' hW hS)
/-- a reference that nobody looks into: null, or some cell -/
theorem g_sioobe {idx : Nat} (hl : LinkF M.1.cls idx "jdk/internal/util/Preconditions" "SIOOBE_FORMATTER" "Ljava/util/function/BiFunction;") (hd : decode M.2.1 pc = .ok (.getstatic idx, 3)) (k0 : G Γ M d B post u (pc + 3) L (.null :: st) τ) (k1 : ∀ z : Nat, G Γ M d B post u (pc + 3) L (.ref z :: st) τ) : G Γ M d B post u pc L st τ := by
  intro p e R s m args below meth cd Q H locs ls C F hl' hW hS
  rcases C.2.2.2.2.2.1.2.2.2.2.2.2.2.2.1 with h | ⟨t, h⟩
  · exact w_gets C hW h hl hd (k0 p e R s m args below meth cd Q H locs ls C F hl' hW hS)
  · exact w_gets C hW h hl hd (k1 t p e R s m args below meth cd Q H locs ls C F hl' hW hS)
theorem lenJ {i : Nat} : lenJS.getD i 0 ≤ 10 := by
  rw [List.getD_eq_getElem?_getD]
  cases h : lenJS[i]? with
  | none => simp
  | some x => exact (by decide : ∀ x ∈ lenJS, x ≤ 10) x (List.mem_of_getElem? h)
theorem g_kalen {i : Nat} (hi : i < 8) (hd : decode M.2.1 pc = .ok (.arraylength, 1)) (k : G Γ M d B post u (pc + 1) L (vI (lenJS.getD i 0 : Nat) :: st) τ) : G Γ M d B post u pc L (.ref (adV Γ i) :: st) τ := by
  intro p e R s m args below meth cd Q H locs ls C F hl' hW hS
  obtain ⟨cell, h2, h3, h4, h5, h6, h7, h8⟩ := (strS C.2.2.2.2.2.1 hi).2.2.2
  refine W.alen C.1 C.2.1 (kept_cell hW h2) h3 (n := Int32.ofInt (lenJS.getD i 0 : Nat)) ?_ rfl rfl hd (k p e R s m args below meth cd Q H locs ls C F hl' hW hS)
  rw [h6, Int32.ofInt_eq_ofNat]
theorem g_kbald {i : Nat} {j : Int} (hi : i < 8) (h0 : 0 ≤ j) (h1 : j < (lenJS.getD i 0 : Nat)) (hd : decode M.2.1 pc = .ok (.baload, 1)) (k : G Γ M d B post u (pc + 1) L (vI ((bytJS.getD i []).getD j.toNat 0).toInt :: st) τ) : G Γ M d B post u pc L (vI j :: .ref (adV Γ i) :: st) τ := by
  intro p e R s m args below meth cd Q H locs ls C F hl' hW hS
  obtain ⟨cell, h2, h3, h4, h5, h6, h7, h8⟩ := (strS C.2.2.2.2.2.1 hi).2.2.2
  have hl := lenJ (i := i)
  have hr : R32 j := by omega
  have hz := z_in h0 h1 hr
  refine W.bald (v := vI ((bytJS.getD i []).getD j.toNat 0).toInt) C.1 C.2.1 (kept_cell hW h2) h3 h4 (fun q => ?_) ?_ rfl rfl hd (k p e R s m args below meth cd Q H locs ls C F hl' hW hS)
  · rcases q with q | q
    · exact hz (Or.inl q)
    · exact hz (Or.inr (by omega))
  · rw [z_clamp h0 hr, h7 _ (by omega)]
    unfold vI
    rw [Int32.ofInt_toInt]
theorem g_callK {M' : MI} {d' : Nat} {B' : Nat × Nat} {as rest : List Value} {post' : Option Value → St → Prop} {np i idx : Nat} (hc : Ct Γ M' d' B' (.ref (adK Γ i) :: as) τ post') (hq : Cal M' np) (hv : Cond.instanceMethod M'.1 ∈ tblG) (hsl : Cond.selects M'.1.cls M'.1 M'.1 ∈ tblG) (hi : i < 8) (hcl : M'.1.cls = "java/lang/String") (hl : LinkM M.1.cls idx M'.1)
    (hn : as.length = np) (hd' : d' + 1 ≤ d) (hm : M'.2.2.1 ≤ 45) (hB : u.1 + B'.1 ≤ B.1 ∧ u.2 + B'.2 ≤ B.2) (hst : stW rest ≤ 8) (hd : decode M.2.1 pc = .ok (.invokevirtual idx, 3)) (hstk : st = as.reverse ++ .ref (adK Γ i) :: rest)
    (kk : ∀ v τ', post' v τ' → G Γ M d B post (u.1 + B'.1, u.2 + B'.2) (pc + 3) L (v.toList ++ rest) τ') : G Γ M d B post u pc L st τ := by
  intro p e R s m args below meth cd Q H locs ls C F hl' hW hS
  subst hstk
  obtain ⟨hx, hb, hml, hown, hts, hKS, hname, hR⟩ := id C
  obtain ⟨q1, q2, q3, q4⟩ := hq
  obtain ⟨cell, g1, g2, g3, -⟩ := (strS hKS hi).1
  have hrecv : ∃ cell : Cell, H[adK Γ i]? = some cell ∧ cell.vm.isStatics = false ∧ s.vm.findClass M'.1.cls = some cell.cls := ⟨cell, kept_cell hW g1, g2, by rw [hcl]; exact g3⟩
  have hrm := room_fit (mL := M'.2.2.1) (B' := B') C hd' hm
  have hpre : PreV s H M'.1.cls (adK Γ i) (PreG Γ (.ref (adK Γ i) :: as) τ) as := ⟨pre_blind, hrecv, fun U hU hWm => ⟨rfl, hKS.warm hWm, by rw [hU]; exact hW⟩⟩
  have hF : u.1 + B'.1 ≤ R.cells ∧ u.2 + B'.2 ≤ R.slots := by omega
  have fin := fun (v : Option Value) (τ' : St) (H' : Heap) (locs' : List Loc) (a : post' v τ') (b : Wd Γ τ' H') (c : ∀ q ∈ locs', stA Γ q.base) => kk v τ' a p e R s m args below meth cd Q H' locs' ls C F hl' b c
  rcases hl with hl | ⟨host, hl⟩
  · refine w_run (va_runV (As := as) (rest := rest) ⟨hx, hb, hml, hown, hts⟩ hc (cwV (ws' := tblG) np hts (tblG_goods ?_) rfl rfl rfl ⟨rfl, q3.1, q3.2, q4⟩ hrm) hpre rfl hn hl'.1 rfl (lv_room hst) hd hF) hS fin
    intro w hw
    rcases List.mem_append.mp hw with h | h
    · simp only [List.mem_cons, List.not_mem_nil, or_false] at h
      rcases h with rfl | rfl | rfl | rfl
      · exact hl
      · exact hv
      · exact hsl
      · exact q1
    · exact (tblG_good q2 w h).1
  · exact w_run (va_runVN (As := as) (rest := rest) ⟨hx, hb, hml, hown, hts⟩ hc ⟨va_cnB (ws' := tblG) np hts (tblG_good q2) rfl rfl rfl (hKS.2.2.1 _ hl) (hts _ q1) ⟨q3.1, q3.2, q4⟩ hrm, hts _ hv, hts _ hsl⟩ hpre rfl hn hl'.1 rfl (lv_room hst) hd hF) hS fin
theorem g_cK0I {M' : MI} {d' : Nat} {rest : List Value} {P : Int → (Nat → Int → Int) → Prop} {i idx : Nat} (hc : Ct Γ M' d' (0, 0) (.ref (adK Γ i) :: []) (n, ρ, σ) (pI n ρ P)) (hq : Cal M' 0) (hv : Cond.instanceMethod M'.1 ∈ tblG) (hsl : Cond.selects M'.1.cls M'.1 M'.1 ∈ tblG) (hl : LinkM M.1.cls idx M'.1) (hd : decode M.2.1 pc = .ok (.invokevirtual idx, 3)) (hi : i < 8) (hcl : M'.1.cls = "java/lang/String" := by rfl) (hu : u = B := by rfl) (hd' : d' + 1 ≤ d := by omega) (hm : M'.2.2.1 ≤ 45 := by decide) (hst : stW rest ≤ 8 := by exact Nat.le_of_ble_eq_true rfl)
    (kk : ∀ r σ', P r σ' → G Γ M d B post u (pc + 3) L (vI r :: rest) (n, ρ, σ')) : G Γ M d B post u pc L (.ref (adK Γ i) :: rest) (n, ρ, σ) :=
  g_callK hc hq hv hsl hi hcl hl rfl hd' hm (by subst hu; exact ⟨Nat.le_refl _, Nat.le_refl _⟩) hst hd rfl (fun v τ' h => by obtain ⟨r, σ', rfl, rfl, hP⟩ := h; exact kk r σ' hP)
theorem g_cK1I {M' : MI} {d' : Nat} {w1 : Value} {rest : List Value} {P : Int → (Nat → Int → Int) → Prop} {i idx : Nat} (hc : Ct Γ M' d' (0, 0) (.ref (adK Γ i) :: [w1]) (n, ρ, σ) (pI n ρ P)) (hq : Cal M' 1) (hv : Cond.instanceMethod M'.1 ∈ tblG) (hsl : Cond.selects M'.1.cls M'.1 M'.1 ∈ tblG) (hl : LinkM M.1.cls idx M'.1) (hd : decode M.2.1 pc = .ok (.invokevirtual idx, 3)) (hi : i < 8) (hcl : M'.1.cls = "java/lang/String" := by rfl) (hu : u = B := by rfl) (hd' : d' + 1 ≤ d := by omega) (hm : M'.2.2.1 ≤ 45 := by decide) (hst : stW rest ≤ 8 := by exact Nat.le_of_ble_eq_true rfl)
    (kk : ∀ r σ', P r σ' → G Γ M d B post u (pc + 3) L (vI r :: rest) (n, ρ, σ')) : G Γ M d B post u pc L (w1 :: .ref (adK Γ i) :: rest) (n, ρ, σ) :=
  g_callK hc hq hv hsl hi hcl hl rfl hd' hm (by subst hu; exact ⟨Nat.le_refl _, Nat.le_refl _⟩) hst hd rfl (fun v τ' h => by obtain ⟨r, σ', rfl, rfl, hP⟩ := h; exact kk r σ' hP)
theorem g_cK2I {M' : MI} {d' : Nat} {w1 w2 : Value} {rest : List Value} {P : Int → (Nat → Int → Int) → Prop} {i idx : Nat} (hc : Ct Γ M' d' (0, 0) (.ref (adK Γ i) :: [w1, w2]) (n, ρ, σ) (pI n ρ P)) (hq : Cal M' 2) (hv : Cond.instanceMethod M'.1 ∈ tblG) (hsl : Cond.selects M'.1.cls M'.1 M'.1 ∈ tblG) (hl : LinkM M.1.cls idx M'.1) (hd : decode M.2.1 pc = .ok (.invokevirtual idx, 3)) (hi : i < 8) (hcl : M'.1.cls = "java/lang/String" := by rfl) (hu : u = B := by rfl) (hd' : d' + 1 ≤ d := by omega) (hm : M'.2.2.1 ≤ 45 := by decide) (hst : stW rest ≤ 8 := by exact Nat.le_of_ble_eq_true rfl)
    (kk : ∀ r σ', P r σ' → G Γ M d B post u (pc + 3) L (vI r :: rest) (n, ρ, σ')) : G Γ M d B post u pc L (w2 :: w1 :: .ref (adK Γ i) :: rest) (n, ρ, σ) :=
  g_callK hc hq hv hsl hi hcl hl rfl hd' hm (by subst hu; exact ⟨Nat.le_refl _, Nat.le_refl _⟩) hst hd rfl (fun v τ' h => by obtain ⟨r, σ', rfl, rfl, hP⟩ := h; exact kk r σ' hP)
theorem narC (a : Int) : narrow .char (.int (Int32.ofInt (zi2c a))) = .int (Int32.ofInt (zi2c a)) := by
  unfold zi2c; rw [Int32.ofInt_toInt]; exact pk_nc _
theorem narC' {r : Int} (h : ∃ a, r = zi2c a) : narrow .char (.int (Int32.ofInt r)) = .int (Int32.ofInt r) := by
  obtain ⟨a, rfl⟩ := h; exact narC a
def pVT (P : Nat → (Nat → Int → Int) → Prop) : Option Value → St → Prop := fun v τ => ∃ t' σ', v = none ∧ τ = (113, ρT t', σ') ∧ P t' σ'
def pIT (P : Int → Nat → (Nat → Int → Int) → Prop) : Option Value → St → Prop := fun v τ => ∃ r t' σ', v = some (vI r) ∧ τ = (113, ρT t', σ') ∧ P r t' σ'
theorem g_cV1T {M' : MI} {d' : Nat} {w1 : Value} {rest : List Value} {P : Nat → (Nat → Int → Int) → Prop} {k ci idx : Nat} {T : u_T} {N : Nat} (hc : Ct Γ M' d' (0, 0) (vR Γ k :: [w1]) (113, ρ, σ) (pVT P)) (hq : Cal M' 1) (hv : Cond.instanceMethod M'.1 ∈ tblG) (hsl : Cond.selects M'.1.cls M'.1 M'.1 ∈ tblG) (hl : LinkM M.1.cls idx M'.1) (hd : decode M.2.1 pc = .ok (.invokevirtual idx, 3)) (hs : shp k = (0, ci) := by rfl) (hcl : vwCl[ci]? = some (M'.1.cls, T, N) := by rfl) (hu : u = B := by rfl) (hk : k < 113 := by decide) (hd' : d' + 1 ≤ d := by omega) (hm : M'.2.2.1 ≤ 45 := by decide) (hst : stW rest ≤ 8 := by exact Nat.le_of_ble_eq_true rfl)
    (kk : ∀ t' σ', P t' σ' → G Γ M d B post u (pc + 3) L rest (113, ρT t', σ')) : G Γ M d B post u pc L (w1 :: vR Γ k :: rest) (113, ρ, σ) :=
  g_callV hc hq hv hsl hk hs hcl hl rfl hd' hm (by subst hu; exact ⟨Nat.le_refl _, Nat.le_refl _⟩) hst hd rfl (fun v τ' h => by obtain ⟨t', σ', rfl, rfl, hP⟩ := h; exact kk t' σ' hP)
theorem g_cV0U {M' : MI} {d' : Nat} {rest : List Value} {P : Int → Nat → (Nat → Int → Int) → Prop} {k ci idx : Nat} {T : u_T} {N : Nat} (hc : Ct Γ M' d' (0, 0) (vR Γ k :: []) (113, ρ, σ) (pIT P)) (hq : Cal M' 0) (hv : Cond.instanceMethod M'.1 ∈ tblG) (hsl : Cond.selects M'.1.cls M'.1 M'.1 ∈ tblG) (hl : LinkM M.1.cls idx M'.1) (hd : decode M.2.1 pc = .ok (.invokevirtual idx, 3)) (hs : shp k = (0, ci) := by rfl) (hcl : vwCl[ci]? = some (M'.1.cls, T, N) := by rfl) (hu : u = B := by rfl) (hk : k < 113 := by decide) (hd' : d' + 1 ≤ d := by omega) (hm : M'.2.2.1 ≤ 45 := by decide) (hst : stW rest ≤ 8 := by exact Nat.le_of_ble_eq_true rfl)
    (kk : ∀ r t' σ', P r t' σ' → G Γ M d B post u (pc + 3) L (vI r :: rest) (113, ρT t', σ')) : G Γ M d B post u pc L (vR Γ k :: rest) (113, ρ, σ) :=
  g_callV hc hq hv hsl hk hs hcl hl rfl hd' hm (by subst hu; exact ⟨Nat.le_refl _, Nat.le_refl _⟩) hst hd rfl (fun v τ' h => by obtain ⟨r, t', σ', rfl, rfl, hP⟩ := h; exact kk r t' σ' hP)
end GX
