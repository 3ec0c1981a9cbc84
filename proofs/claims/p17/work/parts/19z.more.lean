/-! more grain at one of the houses -/
/-- how many come in at a house that has so much more -/
def stE (e : EV) (h x : Int) : Int := inF e h (if e 9 h 0 0 + x ≤ 99 then e 9 h 0 0 + x else 99) (e 11 0 0 0).toNat
def svE (e : EV) (n h : Int) : Int := stE e h 0 - stE e h n
/-- the first of these houses that saves the most -/
def moF (e : EV) (n : Int) : Nat → Int × Int
  | 0 => (-5, -1)
  | k + 1 => if (moF e n k).1 = -5 ∨ (moF e n k).2 < svE e n (k : Int) then ((k : Int), svE e n (k : Int)) else moF e n k
theorem mo_s {e : EV} {n q : Int} (hq : 0 ≤ q) : moF e n (q + 1).toNat = if (moF e n q.toNat).1 = -5 ∨ (moF e n q.toNat).2 < svE e n q then (q, svE e n q) else moF e n q.toNat := by
  rw [show (q + 1).toNat = q.toNat + 1 by omega]
  show (if (moF e n q.toNat).1 = -5 ∨ (moF e n q.toNat).2 < svE e n ((q.toNat : Nat) : Int) then (((q.toNat : Nat) : Int), svE e n ((q.toNat : Nat) : Int)) else moF e n q.toNat) = _
  rw [show ((q.toNat : Nat) : Int) = q by omega]
theorem mo_b {e : EV} {n : Int} : ∀ k : Nat, ((moF e n k).1 = -5 ∧ k = 0) ∨ ((0 ≤ (moF e n k).1 ∧ (moF e n k).1 < (k : Int)) ∧ (moF e n k).2 = svE e n (moF e n k).1)
  | 0 => Or.inl ⟨rfl, rfl⟩
  | k + 1 => by
    have ih := mo_b (e := e) (n := n) k
    refine Or.inr ?_
    by_cases c : (moF e n k).1 = -5 ∨ (moF e n k).2 < svE e n (k : Int)
    · have E : moF e n (k + 1) = ((k : Int), svE e n (k : Int)) := if_pos c
      rw [E]
      show (0 ≤ (k : Int) ∧ (k : Int) < ((k + 1 : Nat) : Int)) ∧ svE e n (k : Int) = svE e n (k : Int)
      exact ⟨⟨by omega, by omega⟩, rfl⟩
    · have E : moF e n (k + 1) = moF e n k := if_neg c
      rw [E]
      rcases ih with ⟨a, _⟩ | ⟨a, b⟩
      · exact absurd (Or.inl a) c
      · exact ⟨⟨a.1, by omega⟩, b⟩
/-- the pairs that come in with so much more at house w -/
def paF (e : EV) (w n : Int) : Nat → Int
  | 0 => 0
  | k + 1 => paF e w n k + stE e (k : Int) (if (k : Int) = w then n else 0)
theorem pa_s {e : EV} {w n q : Int} (hq : 0 ≤ q) : paF e w n (q + 1).toNat = paF e w n q.toNat + stE e q (if q = w then n else 0) := by
  rw [show (q + 1).toNat = q.toNat + 1 by omega]
  show paF e w n q.toNat + stE e ((q.toNat : Nat) : Int) (if ((q.toNat : Nat) : Int) = w then n else 0) = _
  rw [show ((q.toNat : Nat) : Int) = q by omega]
theorem pa_lt {e : EV} {w n : Int} : ∀ k : Nat, (k : Int) ≤ w → paF e w n k = paF e (-1) n k
  | 0, _ => rfl
  | k + 1, h => by
    show paF e w n k + stE e (k : Int) (if (k : Int) = w then n else 0) = paF e (-1) n k + stE e (k : Int) (if (k : Int) = -1 then n else 0)
    rw [pa_lt k (by omega), if_neg (by omega), if_neg (by omega)]
theorem pa_ge {e : EV} {w n : Int} (hw : 0 ≤ w) : ∀ k : Nat, w < (k : Int) → paF e w n k = paF e (-1) n k - svE e n w
  | 0, h => by omega
  | k + 1, h => by
    show paF e w n k + stE e (k : Int) (if (k : Int) = w then n else 0) = paF e (-1) n k + stE e (k : Int) (if (k : Int) = -1 then n else 0) - svE e n w
    rw [if_neg (show ¬ (k : Int) = -1 by omega)]
    by_cases c : (k : Int) = w
    · rw [if_pos c, pa_lt k (by omega), c]
      unfold svE
      omega
    · rw [if_neg c, pa_ge hw k (by omega)]
      omega
def moQ (e : EV) (n w : Int) : Int := if ¬ (0 ≤ w ∧ w ≤ 1) then -1 else if ¬ (0 ≤ n ∧ n ≤ 99) then -2 else if (moF e n (e 10 0 0 0).toNat).1 = -5 ∨ w = 0 then (moF e n (e 10 0 0 0).toNat).1 else paF e (moF e n (e 10 0 0 0).toNat).1 n (e 10 0 0 0).toNat
/-- the reference's way to it -/
def moI (e : EV) (n : Int) (H : Nat) (q fo fe : Int) : Prop := (fo = -5 ∧ q = 0) ∨ (0 ≤ fo ∧ fo = (moF e n q.toNat).1 ∧ fe = paF e fo n H)
theorem moI_s {e : EV} {n : Int} {H : Nat} {q fo fe a : Int} (hi : moI e n H q fo fe) (hq : 0 ≤ q) (hH : q < (H : Int)) (ha : a = paF e q n H) : ((fo < 0 ∨ a < fe) → moI e n H (q + 1) q a) ∧ (¬ fo < 0 → fe ≤ a → moI e n H (q + 1) fo fe) := by
  have E := mo_s (e := e) (n := n) hq
  have ea := pa_ge (e := e) (n := n) hq H hH
  rcases hi with ⟨h1, h2⟩ | ⟨h1, h2, h3⟩
  · constructor
    · intro _
      refine Or.inr ⟨hq, ?_, ha⟩
      exact (congrArg Prod.fst (E.trans (if_pos (Or.inl (by rw [h2]; rfl))))).symm
    · intro h; omega
  · have b := mo_b (e := e) (n := n) q.toNat
    rw [← h2] at b
    obtain ⟨b1, b2⟩ := b.resolve_left (by omega)
    have ef := pa_ge (e := e) (n := n) h1 H (by omega)
    constructor
    · intro h
      refine Or.inr ⟨hq, ?_, ha⟩
      exact (congrArg Prod.fst (E.trans (if_pos (Or.inr (by rw [b2]; omega))))).symm
    · intro _ h
      refine Or.inr ⟨h1, ?_, h3⟩
      exact h2.trans (congrArg Prod.fst (E.trans (if_neg (by rw [← h2, b2]; omega)))).symm
theorem moI_e {e : EV} {n : Int} {H : Nat} {q fo fe : Int} (hi : moI e n H q fo fe) : fo = (moF e n q.toNat).1 ∧ (fo = -5 ∨ (0 ≤ fo ∧ fe = paF e fo n H)) := by
  rcases hi with ⟨h1, h2⟩ | ⟨h1, h2, h3⟩
  · exact ⟨by rw [h1, h2]; rfl, Or.inl h1⟩
  · exact ⟨h2, Or.inr ⟨h1, h3⟩⟩
/-- all pairs, one of the folk after another -/
def onE (e : EV) (f h : Int) : Int := if (cmE e f h (e 9 h 0 0) 0).1 = 0 then 0 else 1
def rwF (e : EV) (f : Int) : Nat → Int
  | 0 => 0
  | k + 1 => rwF e f k + onE e f (k : Int)
def prF (e : EV) (H : Nat) : Nat → Int
  | 0 => 0
  | k + 1 => prF e H k + rwF e (k : Int) H
def pnE (e : EV) : Int := prF e (e 10 0 0 0).toNat (e 11 0 0 0).toNat
theorem on_0 {e : EV} {f h r : Int} {N : NT} (hc : (r, N) = cmE e f h (e 9 h 0 0) 0) (h0 : r = 0) : onE e f h = 0 := by
  unfold onE
  rw [← hc]
  exact if_pos h0
theorem on_1 {e : EV} {f h r : Int} {N : NT} (hc : (r, N) = cmE e f h (e 9 h 0 0) 0) (h0 : r ≠ 0) : onE e f h = 1 := by
  unfold onE
  rw [← hc]
  exact if_neg h0
theorem rw_s {e : EV} {f q : Int} (hq : 0 ≤ q) : rwF e f (q + 1).toNat = rwF e f q.toNat + onE e f q := by
  rw [show (q + 1).toNat = q.toNat + 1 by omega]
  show rwF e f q.toNat + onE e f ((q.toNat : Nat) : Int) = _
  rw [show ((q.toNat : Nat) : Int) = q by omega]
theorem pr_s {e : EV} {H : Nat} {q : Int} (hq : 0 ≤ q) : prF e H (q + 1).toNat = prF e H q.toNat + rwF e q H := by
  rw [show (q + 1).toNat = q.toNat + 1 by omega]
  show prF e H q.toNat + rwF e ((q.toNat : Nat) : Int) H = _
  rw [show ((q.toNat : Nat) : Int) = q by omega]
/-- the same pairs, one house after another -/
def clF2 (e : EV) (h : Int) : Nat → Int
  | 0 => 0
  | k + 1 => clF2 e h k + onE e (k : Int) h
def clS (e : EV) (F : Nat) : Nat → Int
  | 0 => 0
  | k + 1 => clS e F k + clF2 e (k : Int) F
theorem cs_0 {e : EV} : ∀ H : Nat, clS e 0 H = 0
  | 0 => rfl
  | k + 1 => by
    show clS e 0 k + 0 = 0
    rw [cs_0 k]; rfl
theorem cs_s {e : EV} {F : Nat} : ∀ H : Nat, clS e (F + 1) H = clS e F H + rwF e (F : Int) H
  | 0 => rfl
  | k + 1 => by
    show clS e (F + 1) k + (clF2 e (k : Int) F + onE e (F : Int) (k : Int)) = clS e F k + clF2 e (k : Int) F + (rwF e (F : Int) k + onE e (F : Int) (k : Int))
    rw [cs_s k]
    omega
theorem pr_cs {e : EV} {H : Nat} : ∀ F : Nat, prF e H F = clS e F H
  | 0 => (cs_0 H).symm
  | F + 1 => by
    show prF e H F + rwF e (F : Int) H = _
    rw [pr_cs F, cs_s H]
theorem c2_in {e e' : EV} (hc : cmE e' = cmE e) (h : Int) : ∀ k : Nat, clF2 e' h k = inF e h (e' 9 h 0 0) k
  | 0 => rfl
  | k + 1 => by
    show clF2 e' h k + onE e' (k : Int) h = inF e h (e' 9 h 0 0) k + (if (cmE e (k : Int) h (e' 9 h 0 0) 0).1 = 0 then 0 else 1)
    rw [c2_in hc h k]
    unfold onE
    rw [hc]
theorem pn_cs {e e' : EV} {w n : Int} (hc : cmE e' = cmE e) (h9 : ∀ h, 0 ≤ h → h < 6 → e' 9 h 0 0 = (if e 9 h 0 0 + (if h = w then n else 0) ≤ 99 then e 9 h 0 0 + (if h = w then n else 0) else 99)) : ∀ k : Nat, (k : Int) ≤ 6 → clS e' (e 11 0 0 0).toNat k = paF e w n k
  | 0, _ => rfl
  | k + 1, hk => by
    show clS e' (e 11 0 0 0).toNat k + clF2 e' (k : Int) (e 11 0 0 0).toNat = paF e w n k + stE e (k : Int) (if (k : Int) = w then n else 0)
    rw [pn_cs hc h9 k (by omega), c2_in hc, h9 (k : Int) (by omega) (by omega)]
    rfl
theorem pn_up {e e' : EV} {w n : Int} (hc : ∀ i, i ≠ 9 → e' i = e i) (h9 : ∀ h, 0 ≤ h → h < 6 → e' 9 h 0 0 = (if e 9 h 0 0 + (if h = w then n else 0) ≤ 99 then e 9 h 0 0 + (if h = w then n else 0) else 99)) (hH : e 10 0 0 0 ≤ 6) : pnE e' = paF e w n (e 10 0 0 0).toNat := by
  unfold pnE
  rw [pr_cs, hc 10 (by decide), hc 11 (by decide)]
  exact pn_cs (cm_cg hc) h9 _ (by omega)
theorem g9_up {σ τ : Nat → Int → Int} {q n v : Int} (hs : ∀ j, τ 72 j = σ 72 j) (hg : ∀ j, 0 ≤ j → j < 6 → 0 ≤ σ 72 j ∧ σ 72 j ≤ 99) (hv : v = if σ 72 q + n ≤ 99 then σ 72 q + n else 99) : ∀ h, 0 ≤ h → h < 6 → eJ (up τ 72 q v) 9 h 0 0 = (if eJ σ 9 h 0 0 + (if h = q then n else 0) ≤ 99 then eJ σ 9 h 0 0 + (if h = q then n else 0) else 99) := by
  intro h h0 h1
  rw [show eJ (up τ 72 q v) 9 h 0 0 = up τ 72 q v 72 h from if_pos ⟨h0, h1⟩, show eJ σ 9 h 0 0 = σ 72 h from if_pos ⟨h0, h1⟩]
  by_cases z : h = q
  · rw [z, up_same, if_pos rfl]; exact hv
  · rw [up_slot z, if_neg z, hs h, Int.add_zero, if_pos (hg h h0 h1).2]
