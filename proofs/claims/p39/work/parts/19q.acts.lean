/-! acts: both sides' answers and traces as functions of a kind, a number and the trace before -/
def w32 (a : Int) : Int := (Int32.ofInt a).toInt
theorem w32R (a : Int) : R32 (w32 a) := z_R _
section GW
variable {Γ : KT} {M : MI} {d : Nat} {B : Nat × Nat} {post : Option Value → St → Prop} {u : Nat × Nat} {pc : Nat} {L : List (Option Value)} {st : List Value} {τ : St}
theorem g_wrapE {a : Int} (k : G Γ M d B post u pc L (vI (w32 a) :: st) τ) : G Γ M d B post u pc L (vI a :: st) τ := by
  unfold vI w32 at k
  unfold vI
  rwa [Int32.ofInt_toInt] at k
end GW
abbrev AQ : Type := Int × (Int → Int)
def ntF (q : AQ) (b : Int) : AQ := (q.1 + 1, if q.1 < 20 then (fun j => if j = q.1 then b else q.2 j) else q.2)
def bdF (o a : Int) : Int := if 0 ≤ o ∧ o ≤ 6 then [10, 11, 12, 10, 20, 12, 30, 11, 12, 10, 11, 40, 50, 51, 12, 30, 11, 60, 71, 70, 40].getD (o * 3 + a).toNat 0 else 0
def abF (o a : Int) : Int := if 0 ≤ o ∧ o ≤ 6 then [-1, -1, -1, -1, 0, -1, 0, -1, -1, -1, -1, 0, 1, 1, -1, 0, -1, 2, 3, 3, 0].getD (o * 3 + a).toNat 0 else 0
def runF (C : Int → Int → Int → AQ → Int × AQ) (nb kd v b ab x : Int) (q : AQ) : Int × AQ :=
  if b = 10 then (x + nb, ntF q b)
  else if b = 11 then ((C 0 kd x (ntF q b)).1 - v, (C 0 kd x (ntF q b)).2)
  else if b = 12 then ((C 1 kd x (ntF q b)).1 * 2, (C 1 kd x (ntF q b)).2)
  else if b = 20 then (zxor (C 1 ab x (ntF q b)).1 6, (C 1 ab x (ntF q b)).2)
  else if b = 30 then C 0 ab (x * 3) (ntF q b)
  else if b = 40 then ((C 2 ab x (ntF q b)).1 + (C 1 kd 1 (C 2 ab x (ntF q b)).2).1, (C 1 kd 1 (C 2 ab x (ntF q b)).2).2)
  else if b = 50 then (-(C 0 ab x (ntF q b)).1, (C 0 ab x (ntF q b)).2)
  else if b = 51 then C 1 ab (x + 1) (ntF q b)
  else if b = 60 then C 2 ab (x - nb) (ntF q b)
  else if b = 70 then ((C 1 ab x (ntF q b)).1 + (C 0 ab 2 (C 1 ab x (ntF q b)).2).1, (C 0 ab 2 (C 1 ab x (ntF q b)).2).2)
  else if b = 71 then (zxor (C 0 ab x (ntF q b)).1 v, (C 0 ab x (ntF q b)).2)
  else (0, ntF q b)
theorem run10 {C nb kd v ab x q} : runF C nb kd v 10 ab x q = (x + nb, ntF q 10) := rfl
theorem run11 {C nb kd v ab x q} : runF C nb kd v 11 ab x q = ((C 0 kd x (ntF q 11)).1 - v, (C 0 kd x (ntF q 11)).2) := rfl
theorem run12 {C nb kd v ab x q} : runF C nb kd v 12 ab x q = ((C 1 kd x (ntF q 12)).1 * 2, (C 1 kd x (ntF q 12)).2) := rfl
theorem run20 {C nb kd v ab x q} : runF C nb kd v 20 ab x q = (zxor (C 1 ab x (ntF q 20)).1 6, (C 1 ab x (ntF q 20)).2) := rfl
theorem run30 {C nb kd v ab x q} : runF C nb kd v 30 ab x q = C 0 ab (x * 3) (ntF q 30) := rfl
theorem run40 {C nb kd v ab x q} : runF C nb kd v 40 ab x q = ((C 2 ab x (ntF q 40)).1 + (C 1 kd 1 (C 2 ab x (ntF q 40)).2).1, (C 1 kd 1 (C 2 ab x (ntF q 40)).2).2) := rfl
theorem run50 {C nb kd v ab x q} : runF C nb kd v 50 ab x q = (-(C 0 ab x (ntF q 50)).1, (C 0 ab x (ntF q 50)).2) := rfl
theorem run51 {C nb kd v ab x q} : runF C nb kd v 51 ab x q = C 1 ab (x + 1) (ntF q 51) := rfl
theorem run60 {C nb kd v ab x q} : runF C nb kd v 60 ab x q = C 2 ab (x - nb) (ntF q 60) := rfl
theorem run70 {C nb kd v ab x q} : runF C nb kd v 70 ab x q = ((C 1 ab x (ntF q 70)).1 + (C 0 ab 2 (C 1 ab x (ntF q 70)).2).1, (C 0 ab 2 (C 1 ab x (ntF q 70)).2).2) := rfl
theorem run71 {C nb kd v ab x q} : runF C nb kd v 71 ab x q = (zxor (C 0 ab x (ntF q 71)).1 v, (C 0 ab x (ntF q 71)).2) := rfl
theorem runN {C nb kd v b ab x q} (h : b ≠ 10 ∧ b ≠ 11 ∧ b ≠ 12 ∧ b ≠ 20 ∧ b ≠ 30 ∧ b ≠ 40 ∧ b ≠ 50 ∧ b ≠ 51 ∧ b ≠ 60 ∧ b ≠ 70 ∧ b ≠ 71) : runF C nb kd v b ab x q = (0, ntF q b) := by
  unfold runF
  simp [h]
def calF : Nat → Int → Int → Int → Int → Int → Int → AQ → Int × AQ
  | 0, _, _, _, _, _, _, q => (0, q)
  | k + 1, nb, kd, v, a, fr, x, q => if bdF fr a = 0 then (0, q) else runF (calF k nb kd v) nb kd v (bdF fr a) (abF fr a) x q
theorem cal_0 {k nb kd v a fr x q} (h : bdF fr a = 0) : calF (k + 1) nb kd v a fr x q = (0, q) := if_pos h
theorem cal_S {k nb kd v a fr x q} (h : bdF fr a ≠ 0) : calF (k + 1) nb kd v a fr x q = runF (calF k nb kd v) nb kd v (bdF fr a) (abF fr a) x q := if_neg h
theorem bd_out {o a : Int} (h : ¬ (0 ≤ o ∧ o ≤ 6)) : bdF o a = 0 := if_neg h
theorem bd_step {o a : Int} (h : 0 ≤ o ∧ o ≤ 6) (ha : 0 ≤ a ∧ a ≤ 2) (hz : bodiesF (o * 3 + a).toNat = 0) : bdF (aboveF o.toNat) a = bdF o a ∧ abF (aboveF o.toNat) a = abF o a := by
  have key : ∀ (p : Fin 7) (q : Fin 3), bodiesF ((p.1 : Int) * 3 + q.1).toNat = 0 → bdF (aboveF (p.1 : Int).toNat) q.1 = bdF p.1 q.1 ∧ abF (aboveF (p.1 : Int).toNat) q.1 = abF p.1 q.1 := by decide +kernel
  have h2 := key ⟨o.toNat, by omega⟩ ⟨a.toNat, by omega⟩
  simp only [Int.toNat_of_nonneg h.1, Int.toNat_of_nonneg ha.1] at h2
  exact h2 hz
theorem bd_here {o a : Int} (h : 0 ≤ o ∧ o ≤ 6) (ha : 0 ≤ a ∧ a ≤ 2) (hz : bodiesF (o * 3 + a).toNat ≠ 0) : bdF o a = bodiesF (o * 3 + a).toNat ∧ abF o a = aboveF o.toNat := by
  have key : ∀ (p : Fin 7) (q : Fin 3), bodiesF ((p.1 : Int) * 3 + q.1).toNat ≠ 0 → bdF p.1 q.1 = bodiesF ((p.1 : Int) * 3 + q.1).toNat ∧ abF p.1 q.1 = aboveF (p.1 : Int).toNat := by decide +kernel
  have h2 := key ⟨o.toNat, by omega⟩ ⟨a.toNat, by omega⟩
  simp only [Int.toNat_of_nonneg h.1, Int.toNat_of_nonneg ha.1] at h2
  exact h2 hz
/-! the reference's -/
def hA (i x : Int) (q : AQ) : Int × AQ := (x + i, ntF q 10)
def aA (kd v i x : Int) (q : AQ) : Int × AQ :=
  if kd = 2 ∨ kd = 5 then hA i (x * 3) (ntF q 30)
  else if kd = 4 then (-(hA i x (ntF q 50)).1, (hA i x (ntF q 50)).2)
  else if kd = 6 then (zxor (hA i x (ntF q 71)).1 v, (hA i x (ntF q 71)).2)
  else hA i x q
def hO (kd v i x : Int) (q : AQ) : Int × AQ := ((aA kd v i x (ntF q 11)).1 - v, (aA kd v i x (ntF q 11)).2)
def lO (kd v i x : Int) (q : AQ) : Int × AQ := (zxor (hO kd v i x (ntF q 20)).1 6, (hO kd v i x (ntF q 20)).2)
def oA (kd v i x : Int) (q : AQ) : Int × AQ :=
  if kd = 1 then lO kd v i x q
  else if kd = 4 then lO kd v i (x + 1) (ntF q 51)
  else if kd = 6 then ((hO kd v i x (ntF q 70)).1 + (hA i 2 (hO kd v i x (ntF q 70)).2).1, (hA i 2 (hO kd v i x (ntF q 70)).2).2)
  else hO kd v i x q
def hT (kd v i x : Int) (q : AQ) : Int × AQ := ((oA kd v i x (ntF q 12)).1 * 2, (oA kd v i x (ntF q 12)).2)
def tA (kd v i x : Int) (q : AQ) : Int × AQ :=
  if kd = 3 ∨ kd = 6 then ((hT kd v i x (ntF q 40)).1 + (oA kd v i 1 (hT kd v i x (ntF q 40)).2).1, (oA kd v i 1 (hT kd v i x (ntF q 40)).2).2)
  else if kd = 5 then hT kd v i (x - i) (ntF q 60)
  else hT kd v i x q
def aJ (a kd v i x : Int) (q : AQ) : Int × AQ := if a = 0 then aA kd v i x q else if a = 1 then oA kd v i x q else tA kd v i x q
theorem act_eq {kd v i a x : Int} {q : AQ} (hk : 0 ≤ kd ∧ kd ≤ 6) (ha : 0 ≤ a ∧ a ≤ 2) : calF 20 i kd v a kd x q = aJ a kd v i x q := by
  have h1 : kd = 0 ∨ kd = 1 ∨ kd = 2 ∨ kd = 3 ∨ kd = 4 ∨ kd = 5 ∨ kd = 6 := by omega
  have h2 : a = 0 ∨ a = 1 ∨ a = 2 := by omega
  rcases h1 with rfl | rfl | rfl | rfl | rfl | rfl | rfl <;> rcases h2 with rfl | rfl | rfl <;> rfl

def actX (σ : Nat → Int → Int) (h a x r : Int) (σ' : Nat → Int → Int) : Prop := (¬ ((0 ≤ h ∧ h < σ 33 0) ∧ 0 ≤ a ∧ a ≤ 2) ∧ r = 0 ∧ σ' 21 1 = 0 ∧ σ' 22 = σ 22) ∨ (((0 ≤ h ∧ h < σ 33 0) ∧ 0 ≤ a ∧ a ≤ 2) ∧ r = w32 (calF 20 h (σ 34 h) (σ 35 h) a (σ 34 h) x (0, σ 22)).1 ∧ (σ' 21 1, σ' 22) = (calF 20 h (σ 34 h) (σ 35 h) a (σ 34 h) x (0, σ 22)).2)
def actJ (σ : Nat → Int → Int) (h a x r : Int) (σ' : Nat → Int → Int) : Prop := (¬ ((0 ≤ h ∧ h < σ 69 0) ∧ 0 ≤ a ∧ a ≤ 2) ∧ r = 0 ∧ σ' 69 64 = 0 ∧ σ' 108 = σ 108) ∨ (((0 ≤ h ∧ h < σ 69 0) ∧ 0 ≤ a ∧ a ≤ 2) ∧ r = w32 (aJ a (σ 70 h) (σ 71 h) h x (0, σ 108)).1 ∧ (σ' 69 64, σ' 108) = (aJ a (σ 70 h) (σ 71 h) h x (0, σ 108)).2)
