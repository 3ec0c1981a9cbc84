/-! cells that are not made yet hold nothing -/
def Z (n : Nat) (ρ : Nat → Nat → Nat) (σ : Nat → Int → Int) : Prop := ∀ k, n ≤ k → (∀ j, ρ k j = 0) ∧ ∀ j, σ k j = 0
theorem Z_at {n : Nat} {ρ : Nat → Nat → Nat} {σ : Nat → Int → Int} (h : Z n ρ σ) : zeroAt n ρ σ := h n (Nat.le_refl n)
theorem Z_n {n : Nat} {ρ : Nat → Nat → Nat} {σ : Nat → Int → Int} (h : Z n ρ σ) : Z (n + 1) ρ σ := fun k hk => h k (by omega)
theorem Z_6 {n : Nat} {ρ : Nat → Nat → Nat} {σ : Nat → Int → Int} (h : Z n ρ σ) : Z (n + 7) ρ σ := fun k hk => h k (by omega)
theorem Z_u {n : Nat} {ρ : Nat → Nat → Nat} {σ : Nat → Int → Int} {k : Nat} {j x : Int} (h : Z n ρ σ) (hk : k < n) : Z n ρ (up σ k j x) := fun a ha => ⟨(h a ha).1, fun b => by rw [up_cell (by omega)]; exact (h a ha).2 b⟩
theorem Z_r {n : Nat} {ρ : Nat → Nat → Nat} {σ : Nat → Int → Int} {k j v : Nat} (h : Z n ρ σ) (hk : k < n) : Z n (upr ρ k j v) σ := fun a ha => ⟨fun b => by
  have : ¬ (a = k ∧ b = j) := fun q => by omega
  rw [show upr ρ k j v a b = ρ a b from if_neg this]; exact (h a ha).1 b, (h a ha).2⟩
theorem grd6 {ρ : Nat → Nat → Nat} {n : Nat} : grd ρ n 6 = upr (upr (upr (upr (upr (upr ρ n 0 (n + 2)) n 1 (n + 3)) n 2 (n + 4)) n 3 (n + 5)) n 4 (n + 6)) n 5 (n + 7) := by
  funext a b
  unfold grd upr
  by_cases e : a = n
  · subst e
    by_cases h : b < 6
    · have : b = 0 ∨ b = 1 ∨ b = 2 ∨ b = 3 ∨ b = 4 ∨ b = 5 := by omega
      rcases this with rfl | rfl | rfl | rfl | rfl | rfl <;> simp
    · have h0 : ¬ b = 0 := by omega
      have h1 : ¬ b = 1 := by omega
      have h2 : ¬ b = 2 := by omega
      have h3 : ¬ b = 3 := by omega
      have h4 : ¬ b = 4 := by omega
      have h5 : ¬ b = 5 := by omega
      simp [h, h0, h1, h2, h3, h4, h5]
  · simp [e]
def pC (n : Nat) (ρ : Nat → Nat → Nat) (σ : Nat → Int → Int) : Option Value → St → Prop := fun v τ => v = none ∧ τ = (n, ρ, σ) ∧ Z n ρ σ
theorem linkP {own : String} {idx : Nat} {ref nm ds : String} (h : LinkF own idx ref nm ds) (hn : ∀ w ∈ nestL, ∀ host, w ≠ Cond.fieldLinkNest own idx ref nm ds host := by unfold nestL; simp) : Cond.fieldLink own idx ref nm ds ∈ tblG := h.elim id (fun ⟨host, q⟩ => absurd rfl (hn _ q host))
section GZ
variable {Γ : KT} {M : MI} {d : Nat} {B : Nat × Nat} {post : Option Value → St → Prop} {u : Nat × Nat} {pc : Nat} {L : List (Option Value)} {st : List Value} {τ : St} {n : Nat} {ρ : Nat → Nat → Nat} {σ : Nat → Int → Int}
theorem g_cIC {y : MethodName} {bt : ByteArray} {mL : Nat} {d' : Nat} {B' : Nat × Nat} {as rest : List Value} {np k idx n' : Nat} {ρ' : Nat → Nat → Nat} {σ' : Nat → Int → Int} (hc : Ct Γ (y, bt, mL, none) d' B' (vR Γ k :: as) τ (pC n' ρ' σ')) (hq : Cal (y, bt, mL, none) np) (hv : Cond.instanceMethod y ∈ tblG) (hy : y.name = "<init>") (hl : LinkM M.1.cls idx y)
    (hn : as.length = np) (hd' : d' + 1 ≤ d) (hm : mL ≤ 45) (hB : u.1 + B'.1 ≤ B.1 ∧ u.2 + B'.2 ≤ B.2) (hst : stW rest ≤ 8) (hd : decode M.2.1 pc = .ok (.invokespecial idx, 3)) (hstk : st = as.reverse ++ vR Γ k :: rest)
    (kk : Z n' ρ' σ' → G Γ M d B post (u.1 + B'.1, u.2 + B'.2) (pc + 3) L rest (n', ρ', σ')) : G Γ M d B post u pc L st τ :=
  g_callI hc hq hv hy hl hn hd' hm hB hst hd hstk (fun v τ' h => by obtain ⟨rfl, rfl, hZ⟩ := h; exact kk hZ)
theorem g_max3 {idx : Nat} {a b : Int} (ha : R32 a) (hb : R32 b) (hl : Cond.methodLink M.1.cls idx Lib.Math.max.name ∈ tblG) (h1 : NM Lib.Math.max.name Lib.Math.max.code 2) (hd : decode M.2.1 pc = .ok (.invokestatic idx, 3)) (hdp : 1 ≤ d) (hu : u.1 ≤ B.1 ∧ u.2 ≤ B.2) (hst : stW st ≤ 8) (k : ∀ c : Int, (a < b ∧ c = b ∨ b ≤ a ∧ c = a) → G Γ M d B post u (pc + 3) L (vI c :: st) τ) : G Γ M d B post u pc L (vI b :: vI a :: st) τ := by
  intro p e R s m args below meth cd Q H locs ls C F hl' hW hS
  obtain ⟨hx, hb', hml, hown, hts, hKS, hname, hR⟩ := id C
  have hroom : stW st + 13 ≤ R.locals := by omega
  refine va_mmax hx hb' (hml.trans hl'.1.symm) hown (hts _ hl) (hts _ h1.1) (hts _ h1.2.1) (hts _ h1.2.2) (by omega) hroom (by omega) (by omega) hd ?_
  by_cases h : a < b
  · have K := k b (Or.inl ⟨h, rfl⟩) p e R s m args below meth cd Q H locs ls C F hl' hW hS
    have e : (if Int32.ofInt a < Int32.ofInt b then Int32.ofInt b else Int32.ofInt a) = Int32.ofInt b := if_pos ((z_lt ha hb).mpr h)
    unfold vI at K
    rwa [e]
  · have K := k a (Or.inr ⟨by omega, rfl⟩) p e R s m args below meth cd Q H locs ls C F hl' hW hS
    have e : (if Int32.ofInt a < Int32.ofInt b then Int32.ofInt b else Int32.ofInt a) = Int32.ofInt a := if_neg (fun q => h ((z_lt ha hb).mp q))
    unfold vI at K
    rwa [e]
end GZ
