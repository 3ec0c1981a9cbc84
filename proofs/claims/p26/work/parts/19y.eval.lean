/-! tests and signs: what they come to -/
def fcF (f h kd vv g cn : Int) (k : Int) : Int := if k = 0 then f else if k = 1 then h else if k = 2 then kd else if k = 3 then vv else if k = 4 then Int.tdiv g 10 else cn
def cmF (s x n : Int) : Int := if s = 0 then b2 (x < n) else if s = 1 then b2 (x = n) else b2 (n < x)
theorem cmF_b (s x n : Int) : 0 ≤ cmF s x n ∧ cmF s x n ≤ 1 := by
  unfold cmF
  split
  · exact b2_r
  · split <;> exact b2_r
/-- a test of the class's tokens -/
def hdF (F : Int → Int) (w n : Int) : Int := cmF (Int.tmod w 3) (if 0 ≤ Int.tdiv w 3 ∧ Int.tdiv w 3 < 6 then F (Int.tdiv w 3) else 0) n
theorem hd_cg {F F' : Int → Int} {w n : Int} (h : ∀ j, 0 ≤ j → j < 6 → F j = F' j) : hdF F w n = hdF F' w n := by
  unfold hdF
  by_cases c : 0 ≤ Int.tdiv w 3 ∧ Int.tdiv w 3 < 6
  · rw [if_pos c, if_pos c, h _ c.1 c.2]
  · rw [if_neg c, if_neg c]
abbrev WS : Type := Int × Int × Int × Int × Int
/-- a token of the class: how slow, how far, whether there are count, walk; what is known to hold -/
def wgS (F : Int → Int) (s : WS) (t : Int) : WS :=
  if Int.tdiv t 100 = 18 then (s.1, s.2.1, s.2.2.1, s.2.2.2.1, zxor s.2.2.2.2 1)
  else if Int.tdiv t 100 = 19 then (s.1, s.2.1, s.2.2.1, s.2.2.2.1, zand (zshr s.2.2.2.2 1) (zor s.2.2.2.2 (-2)))
  else if Int.tdiv t 100 = 20 then (s.1, s.2.1, s.2.2.1, s.2.2.2.1, zor (zshr s.2.2.2.2 1) (zand s.2.2.2.2 1))
  else if Int.tdiv t 100 = 21 then (s.1 + zand s.2.2.2.2 1 * Int.tmod t 100, s.2.1, 1, s.2.2.2.1, zshr s.2.2.2.2 1)
  else if Int.tdiv t 100 = 22 then (s.1, s.2.1 + zand s.2.2.2.2 1 * Int.tmod t 100, s.2.2.1, 1, zshr s.2.2.2.2 1)
  else (s.1, s.2.1, s.2.2.1, s.2.2.2.1, zor (zshl s.2.2.2.2 1) (hdF F (Int.tdiv t 100) (Int.tmod t 100)))
def wgF (tok F : Int → Int) : Nat → WS
  | 0 => (0, 0, 0, 0, 0)
  | n + 1 => wgS F (wgF tok F n) (tok (n : Int))
theorem wg_s {tok F : Int → Int} {q : Int} (h : 0 ≤ q) : wgF tok F (q + 1).toNat = wgS F (wgF tok F q.toNat) (tok q) := by
  rw [show (q + 1).toNat = q.toNat + 1 by omega]
  show wgS F _ (tok ((q.toNat : Nat) : Int)) = _
  rw [show ((q.toNat : Nat) : Int) = q by omega]
theorem wg_18 {F : Int → Int} {s : WS} {t : Int} (h : Int.tdiv t 100 = 18) : wgS F s t = (s.1, s.2.1, s.2.2.1, s.2.2.2.1, zxor s.2.2.2.2 1) := if_pos h
theorem wg_19 {F : Int → Int} {s : WS} {t : Int} (h : Int.tdiv t 100 = 19) : wgS F s t = (s.1, s.2.1, s.2.2.1, s.2.2.2.1, zand (zshr s.2.2.2.2 1) (zor s.2.2.2.2 (-2))) := by
  unfold wgS; rw [if_neg (by omega), if_pos h]
theorem wg_20 {F : Int → Int} {s : WS} {t : Int} (h : Int.tdiv t 100 = 20) : wgS F s t = (s.1, s.2.1, s.2.2.1, s.2.2.2.1, zor (zshr s.2.2.2.2 1) (zand s.2.2.2.2 1)) := by
  unfold wgS; rw [if_neg (by omega), if_neg (by omega), if_pos h]
theorem wg_21 {F : Int → Int} {s : WS} {t : Int} (h : Int.tdiv t 100 = 21) : wgS F s t = (s.1 + zand s.2.2.2.2 1 * Int.tmod t 100, s.2.1, 1, s.2.2.2.1, zshr s.2.2.2.2 1) := by
  unfold wgS; rw [if_neg (by omega), if_neg (by omega), if_neg (by omega), if_pos h]
theorem wg_22 {F : Int → Int} {s : WS} {t : Int} (h : Int.tdiv t 100 = 22) : wgS F s t = (s.1, s.2.1 + zand s.2.2.2.2 1 * Int.tmod t 100, s.2.2.1, 1, zshr s.2.2.2.2 1) := by
  unfold wgS; rw [if_neg (by omega), if_neg (by omega), if_neg (by omega), if_neg (by omega), if_pos h]
theorem wg_x {F : Int → Int} {s : WS} {t : Int} (h : Int.tdiv t 100 < 18 ∨ 22 < Int.tdiv t 100) : wgS F s t = (s.1, s.2.1, s.2.2.1, s.2.2.2.1, zor (zshl s.2.2.2.2 1) (hdF F (Int.tdiv t 100) (Int.tmod t 100))) := by
  unfold wgS; rw [if_neg (by omega), if_neg (by omega), if_neg (by omega), if_neg (by omega), if_neg (by omega)]
/-- of one at a house with this grain, by the class's cells -/
def ltX (σ : Nat → Int → Int) (f h g : Int) : Int → Int := fcF f h (σ 34 h) (σ 35 h) g (σ 40 f)
def lnX (σ : Nat → Int → Int) : Int := if 0 ≤ σ 33 13 ∧ σ 33 13 ≤ σ 51 3 - 1 then σ 59 (σ 33 13) else 0
theorem lnX_c (σ : Nat → Int → Int) : ((0 ≤ σ 33 13 ∧ σ 33 13 ≤ σ 51 3 - 1) ∧ lnX σ = σ 59 (σ 33 13)) ∨ (¬ (0 ≤ σ 33 13 ∧ σ 33 13 ≤ σ 51 3 - 1) ∧ lnX σ = 0) := by
  unfold lnX
  by_cases c : 0 ≤ σ 33 13 ∧ σ 33 13 ≤ σ 51 3 - 1
  · exact Or.inl ⟨c, if_pos c⟩
  · exact Or.inr ⟨c, if_neg c⟩
def wgX (σ : Nat → Int → Int) (f h g : Int) : WS := wgF (σ (53 + Int.toNat (σ 33 13))) (ltX σ f h g) (lnX σ).toNat
def slX (σ : Nat → Int → Int) (f h g : Int) : Int := if (wgX σ f h g).2.2.1 = 0 then 5 else (wgX σ f h g).1
def frX (σ : Nat → Int → Int) (f h g : Int) : Int := if (wgX σ f h g).2.2.2.1 = 0 then 3 else (wgX σ f h g).2.1
def dwX (σ : Nat → Int → Int) : Int := if 0 ≤ σ 33 13 ∧ σ 33 13 ≤ σ 51 3 - 1 then σ 60 (σ 33 13) else 60
/-! the reference's signs -/
def stkF (w : Int → Int) : Nat → List Int
  | 0 => []
  | n + 1 => w (n : Int) :: stkF w n
def sgL (s : Int → Int) (a b : Int) : List Int := (List.range (b - a).toNat).map (fun i : Nat => s (a + (i : Int)))
theorem stkF_cong {w w' : Int → Int} : ∀ {n : Nat}, (∀ i : Nat, i < n → w' (i : Int) = w (i : Int)) → stkF w' n = stkF w n
  | 0, _ => rfl
  | n + 1, h => by
    show w' (n : Int) :: stkF w' n = w (n : Int) :: stkF w n
    rw [h n (by omega), stkF_cong (n := n) (fun i hi => h i (by omega))]
theorem sgL_cong {s s' : Int → Int} {a b : Int} (h : ∀ j, a ≤ j → j < b → s' j = s j) : sgL s' a b = sgL s a b := by
  unfold sgL
  refine List.map_congr_left (fun i hi => ?_)
  have := List.mem_range.mp hi
  exact h _ (by omega) (by omega)
theorem sgL_snoc {s : Int → Int} {a b : Int} (h : a ≤ b) : sgL s a (b + 1) = sgL s a b ++ [s b] := by
  unfold sgL
  rw [show (b + 1 - a).toNat = (b - a).toNat + 1 by omega, List.range_succ, List.map_append]
  show _ ++ [s (a + (((b - a).toNat : Nat) : Int))] = _
  rw [show a + (((b - a).toNat : Nat) : Int) = b by omega]
theorem sgL_nil {s : Int → Int} {a : Int} : sgL s a a = [] := by
  unfold sgL
  rw [show (a - a).toNat = 0 by omega]; rfl
theorem sgL_le {s : Int → Int} {a b : Int} (h : b ≤ a) : sgL s a b = [] := by
  unfold sgL
  rw [show (b - a).toNat = 0 by omega]; rfl
def evN : List Int → List Int
  | [] => []
  | b :: s => (if b = 0 then 1 else 0) :: s
def evB (t : Int) : List Int → List Int
  | b :: c :: s => (if t = -38 then (if c ≠ 0 ∧ b ≠ 0 then 1 else 0) else (if c ≠ 0 ∨ b ≠ 0 then 1 else 0)) :: s
  | s => s
def evS (F : Int → Int) (s : List Int) (t : Int) : List Int :=
  if t = -33 then evN s else if t < 0 then evB t s else cmF (Int.tmod (Int.tdiv t 100) 10) (F (Int.tdiv t 1000)) (Int.tmod t 100) :: s
def evF (F : Int → Int) (l : List Int) (s : List Int) : List Int := l.foldl (evS F) s
theorem ev_snoc {F : Int → Int} {l s : List Int} {t : Int} : evF F (l ++ [t]) s = evS F (evF F l s) t := by
  unfold evF
  rw [List.foldl_append]; rfl
theorem stk_top {w : Int → Int} {n : Int} (h : 0 < n) : stkF w n.toNat = w (n - 1) :: stkF w (n - 1).toNat := by
  rw [show n.toNat = (n - 1).toNat + 1 by omega]
  show w (((n - 1).toNat : Nat) : Int) :: _ = _
  rw [show (((n - 1).toNat : Nat) : Int) = n - 1 by omega]
/-- the pile's steps -/
theorem pl_not {F : Int → Int} {w w' : Int → Int} {n v t : Int} {E : List Int} (h : stkF w n.toNat = E) (hn : 1 ≤ n) (ht : t = -33) (hw : ∀ j, w' j = if j = n - 1 then v else w j) (hv : v = if w (n - 1) = 0 then 1 else 0) : stkF w' n.toNat = evS F E t := by
  unfold evS
  rw [if_pos ht, ← h, stk_top (w := w) (by omega), stk_top (w := w') (by omega), hw, if_pos rfl, hv]
  show _ = _ :: _
  rw [stkF_cong (w := w) (fun i hi => by rw [hw, if_neg (by omega)])]
theorem pl_bin {F : Int → Int} {w w' : Int → Int} {n v t : Int} {E : List Int} (h : stkF w n.toNat = E) (hn : 2 ≤ n) (ht : t ≠ -33) (ht2 : t < 0) (hw : ∀ j, w' j = if j = n + (-1) - 1 then v else w j) (hv : v = if t = -38 then (if w (n + (-1) - 1) ≠ 0 ∧ w (n + (-1)) ≠ 0 then 1 else 0) else (if w (n + (-1) - 1) ≠ 0 ∨ w (n + (-1)) ≠ 0 then 1 else 0)) : stkF w' (n + (-1)).toNat = evS F E t := by
  have e1 : n + (-1) = n - 1 := by omega
  rw [e1] at hw hv ⊢
  unfold evS
  rw [if_neg ht, if_pos ht2, ← h, stk_top (w := w) (by omega), stk_top (w := w) (n := n - 1) (by omega), stk_top (w := w') (by omega), hw, if_pos rfl, hv]
  show _ = _ :: _
  rw [stkF_cong (w := w) (fun i hi => by rw [hw, if_neg (by omega)])]
theorem pl_tst {F : Int → Int} {w w' : Int → Int} {n v t : Int} {E : List Int} (h : stkF w n.toNat = E) (hn : 0 ≤ n) (ht2 : 0 ≤ t) (hw : ∀ j, w' j = if j = n then v else w j) (hv : v = cmF (Int.tmod (Int.tdiv t 100) 10) (F (Int.tdiv t 1000)) (Int.tmod t 100)) : stkF w' (n + 1).toNat = evS F E t := by
  unfold evS
  rw [if_neg (by omega), if_neg (by omega), ← h, stk_top (w := w') (by omega), show n + 1 - 1 = n by omega, hw, if_pos rfl, hv]
  rw [stkF_cong (w := w) (fun i hi => by rw [hw, if_neg (by omega)])]
/-- whether a clause's expression holds, by the reference's cells -/
def hlJ (σ : Nat → Int → Int) (F : Int → Int) (c : Int) : Int := (evF F (sgL (σ 84) (σ 82 c) (σ 83 c)) []).headD 0
def smJ (σ : Nat → Int → Int) (F : Int → Int) (w : Int) : Nat → Int × Int
  | 0 => (0, 0)
  | n + 1 => if σ 80 (10 * σ 69 11 + (n : Int)) = w then ((smJ σ F w n).1 + (if hlJ σ F (10 * σ 69 11 + (n : Int)) = 0 then 0 else σ 81 (10 * σ 69 11 + (n : Int))), 1) else smJ σ F w n
def saJ (σ : Nat → Int → Int) (F : Int → Int) (w o : Int) : Int := if σ 69 11 < 0 then o else if (smJ σ F w (σ 79 (σ 69 11)).toNat).2 = 0 then o else (smJ σ F w (σ 79 (σ 69 11)).toNat).1
def slJ (σ : Nat → Int → Int) (f h g : Int) : Int := saJ σ (fcF f h (σ 70 h) (σ 71 h) g (σ 76 f)) 0 5
def frJ (σ : Nat → Int → Int) (f h g : Int) : Int := saJ σ (fcF f h (σ 70 h) (σ 71 h) g (σ 76 f)) 1 3
theorem sm_s {σ : Nat → Int → Int} {F : Int → Int} {w q : Int} (h : 10 * σ 69 11 ≤ q) : smJ σ F w (q + 1 - 10 * σ 69 11).toNat = if σ 80 q = w then ((smJ σ F w (q - 10 * σ 69 11).toNat).1 + (if hlJ σ F q = 0 then 0 else σ 81 q), 1) else smJ σ F w (q - 10 * σ 69 11).toNat := by
  rw [show (q + 1 - 10 * σ 69 11).toNat = (q - 10 * σ 69 11).toNat + 1 by omega]
  show (if σ 80 (10 * σ 69 11 + (((q - 10 * σ 69 11).toNat : Nat) : Int)) = w then _ else _) = _
  rw [show 10 * σ 69 11 + (((q - 10 * σ 69 11).toNat : Nat) : Int) = q by omega]
theorem scT_f {k : Nat} {j : Int} (h : 53 ≤ k ∧ k ≤ 60) : scT k j = false := by
  unfold scT
  simp only [Bool.or_eq_false_iff, Bool.and_eq_false_iff, beq_eq_false_iff_ne, ne_eq]
  omega
/-! a clause's signs, between the calls -/
def smI (σ : Nat → Int → Int) (F : Int → Int) (w q sm hs : Int) : Prop := (σ 69 11 < 0 ∧ hs = 0) ∨ (0 ≤ σ 69 11 ∧ (sm, hs) = smJ σ F w (q - 10 * σ 69 11).toNat)
theorem smI_0 {σ : Nat → Int → Int} {F : Int → Int} {w q : Int} (h : σ 69 11 < 0 ∨ (0 ≤ σ 69 11 ∧ q = 10 * σ 69 11)) : smI σ F w q 0 0 := by
  rcases h with h | ⟨h, e⟩
  · exact Or.inl ⟨h, rfl⟩
  · refine Or.inr ⟨h, ?_⟩
    rw [show (q - 10 * σ 69 11).toNat = 0 by omega]; rfl
theorem smI_n {σ : Nat → Int → Int} {F : Int → Int} {w q sm hs : Int} (h : smI σ F w q sm hs) (hq : 0 ≤ σ 69 11 ∧ 10 * σ 69 11 ≤ q) (hw : σ 80 q ≠ w) : smI σ F w (q + 1) sm hs := by
  rcases h with ⟨h, -⟩ | ⟨h, e⟩
  · omega
  · exact Or.inr ⟨h, by rw [sm_s hq.2, if_neg hw]; exact e⟩
theorem smI_y {σ : Nat → Int → Int} {F : Int → Int} {w q sm hs v : Int} (h : smI σ F w q sm hs) (hq : 0 ≤ σ 69 11 ∧ 10 * σ 69 11 ≤ q) (hw : σ 80 q = w) (hv : v = if hlJ σ F q = 0 then 0 else σ 81 q) : smI σ F w (q + 1) (sm + v) 1 := by
  rcases h with ⟨h, -⟩ | ⟨h, e⟩
  · omega
  · refine Or.inr ⟨h, ?_⟩
    rw [sm_s hq.2, if_pos hw, ← e, ← hv]
theorem smI_e {σ : Nat → Int → Int} {F : Int → Int} {w q sm hs o : Int} (h : smI σ F w q sm hs) (hq : σ 69 11 < 0 ∨ q = 10 * σ 69 11 + σ 79 (σ 69 11)) : saJ σ F w o = if hs = 0 then o else sm := by
  unfold saJ
  rcases h with ⟨h, e⟩ | ⟨h, e⟩
  · rw [if_pos h, if_pos e]
  · have hq' := hq.resolve_left (by omega)
    rw [if_neg (by omega), show (σ 79 (σ 69 11)).toNat = (q - 10 * σ 69 11).toNat by omega, ← e]
theorem jcH_f {k : Nat} {j : Int} (h : k ≠ 87) : jcH k j = false := by
  unfold jcH
  simp only [beq_eq_false_iff_ne, ne_eq]
  exact h
theorem hl_fr {σ τ : Nat → Int → Int} {F : Int → Int} {c : Int} (hF : Fr jcH σ τ) : hlJ τ F c = hlJ σ F c := by
  unfold hlJ
  rw [hF 82 c rfl, hF 83 c rfl, show τ 84 = σ 84 from funext fun j => hF 84 j rfl]
/-! a night: minute, place, coins, where in, where counted -/
/-- the number of set bits of a set of six -/
def popc (s : Int) : Int := s % 2 + s / 2 % 2 + s / 4 % 2 + s / 8 % 2 + s / 16 % 2 + s / 32 % 2
theorem pop_b {s : Int} (h0 : 0 ≤ s) (h1 : s < 64) : 0 ≤ popc s ∧ popc s ≤ 6 := by unfold popc; omega
def bc1 (j : Int) : Int := j - (zand (zushr j 1) 1431655765)
def bc2 (i : Int) : Int := (zand i 858993459) + (zand (zushr i 2) 858993459)
def bc3 (i : Int) : Int := zand (i + (zushr i 4)) 252645135
def bc4 (i : Int) : Int := i + (zushr i 8)
def bc5 (i : Int) : Int := i + (zushr i 16)
theorem bc_ok {j : Int} (h0 : 0 ≤ j) (h1 : j ≤ 63) : zand (bc5 (bc4 (bc3 (bc2 (bc1 j))))) 63 = popc j := by
  have key : ∀ x : Fin 64, zand (bc5 (bc4 (bc3 (bc2 (bc1 (x.1 : Int)))))) 63 = popc (x.1 : Int) := by decide +kernel
  have := key ⟨j.toNat, by omega⟩
  simpa only [Int.toNat_of_nonneg h0] using this
theorem zw63 (b p z : Int) : (b < 0 ∨ 63 < b ∨ p < 0 ∨ 5 < p) ∨ (0 ≤ zwith b p z ∧ zwith b p z ≤ 63) := by
  by_cases hc : 0 ≤ b ∧ b ≤ 63 ∧ 0 ≤ p ∧ p ≤ 5
  · right
    have key : ∀ (x : Fin 64) (y : Fin 6), (0 ≤ zwith x.1 y.1 0 ∧ zwith x.1 y.1 0 ≤ 63) ∧ (0 ≤ zwith x.1 y.1 1 ∧ zwith x.1 y.1 1 ≤ 63) := by decide +kernel
    have := key ⟨b.toNat, by omega⟩ ⟨p.toNat, by omega⟩
    simp only [Int.toNat_of_nonneg hc.1, Int.toNat_of_nonneg hc.2.2.1] at this
    by_cases hz : z = 0
    · subst hz; exact this.1
    · have e : zwith b p z = zwith b p 1 := by
        unfold zwith; rw [if_neg hz, if_neg (by decide)]
      rw [e]; exact this.2
  · left; omega
theorem zw_set {b h : Int} (hb : 0 ≤ b ∧ b ≤ 63) (hh : 0 ≤ h ∧ h ≤ 5) (hs : zbit b h ≠ 0) : zwith b h 1 = b := by
  have key : ∀ (x : Fin 64) (y : Fin 6), zbit x.1 y.1 ≠ 0 → zwith x.1 y.1 1 = x.1 := by decide +kernel
  have := key ⟨b.toNat, by omega⟩ ⟨h.toNat, by omega⟩
  simp only [Int.toNat_of_nonneg hb.1, Int.toNat_of_nonneg hh.1] at this
  exact this hs
def knB (v inn h : Int) : Int := b2 (Int.tmod v 3 ≤ popc (zwith inn h 0))
def pyF (v c : Int) : Int × Int := if v ≤ c then (1, c - v) else (0, c)
/-- whether a house lets one in, and the coins then -/
def leF (ak kd v : Int) (rw : Int → Int) (f h m c inn : Int) : Int × Int :=
  if zbit ak f = 1 then (1, c)
  else if kd = 1 then (b2 (5 * v ≤ m), c)
  else if kd = 2 then (knB v inn h, c)
  else if kd = 3 then pyF v c
  else if kd = 4 then (if 7 < v then 1 else b2 (5 * v ≤ m), c)
  else if kd = 5 then (if 0 < c then knB v inn h else 0, c)
  else if kd = 6 then (if rw (Int.tmod m 4) = 1 then pyF v c else (0, c))
  else (0, c)
theorem le_a {ak kd v : Int} {rw : Int → Int} {f h m c inn : Int} (ha : zbit ak f = 1) : leF ak kd v rw f h m c inn = (1, c) := if_pos ha
theorem le_1 {ak kd v : Int} {rw : Int → Int} {f h m c inn : Int} (ha : ¬ zbit ak f = 1) (hk : kd = 1) : leF ak kd v rw f h m c inn = (b2 (5 * v ≤ m), c) := by
  unfold leF; rw [if_neg ha, if_pos hk]
theorem le_2 {ak kd v : Int} {rw : Int → Int} {f h m c inn : Int} (ha : ¬ zbit ak f = 1) (hk : kd = 2) : leF ak kd v rw f h m c inn = (knB v inn h, c) := by
  unfold leF; rw [if_neg ha, if_neg (by omega), if_pos hk]
theorem le_3 {ak kd v : Int} {rw : Int → Int} {f h m c inn : Int} (ha : ¬ zbit ak f = 1) (hk : kd = 3) : leF ak kd v rw f h m c inn = pyF v c := by
  unfold leF; rw [if_neg ha, if_neg (by omega), if_neg (by omega), if_pos hk]
theorem le_4 {ak kd v : Int} {rw : Int → Int} {f h m c inn : Int} (ha : ¬ zbit ak f = 1) (hk : kd = 4) : leF ak kd v rw f h m c inn = (if 7 < v then 1 else b2 (5 * v ≤ m), c) := by
  unfold leF; rw [if_neg ha, if_neg (by omega), if_neg (by omega), if_neg (by omega), if_pos hk]
theorem le_5 {ak kd v : Int} {rw : Int → Int} {f h m c inn : Int} (ha : ¬ zbit ak f = 1) (hk : kd = 5) : leF ak kd v rw f h m c inn = (if 0 < c then knB v inn h else 0, c) := by
  unfold leF; rw [if_neg ha, if_neg (by omega), if_neg (by omega), if_neg (by omega), if_neg (by omega), if_pos hk]
theorem le_6 {ak kd v : Int} {rw : Int → Int} {f h m c inn : Int} (ha : ¬ zbit ak f = 1) (hk : kd = 6) : leF ak kd v rw f h m c inn = (if rw (Int.tmod m 4) = 1 then pyF v c else (0, c)) := by
  unfold leF; rw [if_neg ha, if_neg (by omega), if_neg (by omega), if_neg (by omega), if_neg (by omega), if_neg (by omega), if_pos hk]
theorem le_7 {ak kd v : Int} {rw : Int → Int} {f h m c inn : Int} (ha : ¬ zbit ak f = 1) (hk : kd < 1 ∨ 6 < kd) : leF ak kd v rw f h m c inn = (0, c) := by
  unfold leF; rw [if_neg ha, if_neg (by omega), if_neg (by omega), if_neg (by omega), if_neg (by omega), if_neg (by omega), if_neg (by omega)]
theorem le_cg {ak kd v : Int} {rw rw' : Int → Int} {f h m c inn : Int} (e : rw (Int.tmod m 4) = rw' (Int.tmod m 4)) : leF ak kd v rw f h m c inn = leF ak kd v rw' f h m c inn := by
  unfold leF
  rw [e]
abbrev NT : Type := Int × Int × Int × Int × Int
def abI (x : Int) : Int := if 0 ≤ x then x else -x
def mnF (far cn h : Int) (N : NT) : Int := N.1 + far * abI (h - N.2.1) + (if zbit N.2.2.2.2 h = 0 then cn else 0)
def viF (far cn dw : Int) (lt : Int → Int → Int → Int × Int) (h : Int) (N : NT) : Int × NT :=
  if mnF far cn h N < dw then ((lt (mnF far cn h N) N.2.2.1 N.2.2.2.1).1, mnF far cn h N, h, (lt (mnF far cn h N) N.2.2.1 N.2.2.2.1).2, (if (lt (mnF far cn h N) N.2.2.1 N.2.2.2.1).1 = 0 then N.2.2.2.1 else zwith N.2.2.2.1 h 1), zwith N.2.2.2.2 h 1)
  else (0, mnF far cn h N, h, N.2.2.1, N.2.2.2.1, zwith N.2.2.2.2 h 1)
theorem vi_in {far cn dw h m r c' : Int} {N : NT} {lt : Int → Int → Int → Int × Int} (hm : mnF far cn h N = m) (hd : m < dw) (hl : (r, c') = lt m N.2.2.1 N.2.2.2.1) : viF far cn dw lt h N = (r, m, h, c', (if r = 0 then N.2.2.2.1 else zwith N.2.2.2.1 h 1), zwith N.2.2.2.2 h 1) := by
  unfold viF
  rw [hm, if_pos hd, ← hl]
theorem vi_out {far cn dw h m : Int} {N : NT} {lt : Int → Int → Int → Int × Int} (hm : mnF far cn h N = m) (hd : ¬ m < dw) : viF far cn dw lt h N = (0, m, h, N.2.2.1, N.2.2.2.1, zwith N.2.2.2.2 h 1) := by
  unfold viF
  rw [hm, if_neg hd]
theorem dwX_of {σ : Nat → Int → Int} {r : Int} (h : (0 ≤ σ 33 13 ∧ σ 33 13 ≤ σ 51 3 - 1 ∧ r = σ 60 (σ 33 13)) ∨ (¬ (0 ≤ σ 33 13 ∧ σ 33 13 ≤ σ 51 3 - 1) ∧ r = 60)) : r = dwX σ := by
  unfold dwX
  rcases h with ⟨a, b, c⟩ | ⟨a, b⟩
  · rw [if_pos ⟨a, b⟩, c]
  · rw [if_neg a, b]
/-! dawn -/
def dwI (w v : Int → Int) (b : Int) : Nat → Int
  | 0 => 60
  | n + 1 => if w (b + (n : Int)) = 2 then v (b + (n : Int)) else dwI w v b n
def dwK (σ : Nat → Int → Int) (q : Int) : Int := if σ 69 11 < 0 then 60 else dwI (σ 80) (σ 81) (10 * σ 69 11) (q - 10 * σ 69 11).toNat
def dwJ (σ : Nat → Int → Int) : Int := dwK σ (10 * σ 69 11 + σ 79 (σ 69 11))
theorem dwK_s {σ : Nat → Int → Int} {q : Int} (h : 0 ≤ σ 69 11) (h0 : 10 * σ 69 11 ≤ q) : dwK σ (q + 1) = if σ 80 q = 2 then σ 81 q else dwK σ q := by
  have hn : ¬ σ 69 11 < 0 := by omega
  unfold dwK
  simp only [if_neg hn]
  rw [show (q + 1 - 10 * σ 69 11).toNat = (q - 10 * σ 69 11).toNat + 1 by omega]
  show (if σ 80 (10 * σ 69 11 + (((q - 10 * σ 69 11).toNat : Nat) : Int)) = 2 then _ else _) = _
  rw [show 10 * σ 69 11 + (((q - 10 * σ 69 11).toNat : Nat) : Int) = q by omega]
theorem dwK_0 {σ : Nat → Int → Int} {q : Int} (h : σ 69 11 < 0 ∨ q = 10 * σ 69 11) : dwK σ q = 60 := by
  unfold dwK
  split
  · rfl
  · rw [show (q - 10 * σ 69 11).toNat = 0 by omega]; rfl
/-! what is asked of a street: all of it as one function -/
abbrev EV : Type := Nat → Int → Int → Int → Int
def vf (a : Int) : Prop := 0 ≤ a ∧ a < 4
def vh (a : Int) : Prop := 0 ≤ a ∧ a < 6
def viE (e : EV) (f h g : Int) (N : NT) : Int × NT := viF (e 0 f h g) (e 1 f h g) (e 2 0 0 0) (leF (e 5 h 0 0) (e 3 h 0 0) (e 4 h 0 0) (fun p => e 6 h p 0) f h) h N
def cmE (e : EV) (f h g m : Int) : Int × NT := viE e f h g (m, e 7 f 0 0, e 8 f 0 0, 0, 0)
def eX (σ : Nat → Int → Int) : EV := fun i a b c => match i with
  | 0 => if (0 ≤ a ∧ a < 4) ∧ (0 ≤ b ∧ b < 6) ∧ 0 ≤ c ∧ c ≤ 99 then frX σ a b c else 0
  | 1 => if (0 ≤ a ∧ a < 4) ∧ (0 ≤ b ∧ b < 6) ∧ 0 ≤ c ∧ c ≤ 99 then rup (slX σ a b c * c) (σ 41 a) else 0
  | 2 => dwX σ
  | 3 => if 0 ≤ a ∧ a < 6 then σ 34 a else 0
  | 4 => if 0 ≤ a ∧ a < 6 then σ 35 a else 0
  | 5 => if 0 ≤ a ∧ a < 6 then σ 37 a else 0
  | 6 => if (0 ≤ a ∧ a < 6) ∧ 0 ≤ b ∧ b < 4 then zbit (σ 38 a) b else 0
  | 7 => if 0 ≤ a ∧ a < 4 then σ 39 a else 0
  | 8 => if 0 ≤ a ∧ a < 4 then σ 40 a else 0
  | 9 => if 0 ≤ a ∧ a < 6 then σ 36 a else 0
  | 10 => σ 33 0
  | 11 => σ 33 6
  | 12 => σ 42 2
  | 13 => if 0 ≤ a ∧ a < σ 42 2 then σ 43 a else 0
  | 14 => σ 45 2
  | 15 => if 0 ≤ a ∧ a < σ 45 2 then σ 46 a else 0
  | 16 => if 0 ≤ a ∧ a < σ 45 2 then σ 47 a else 0
  | 17 => σ 48 2
  | 18 => if 0 ≤ a ∧ a < σ 48 2 then σ 49 a else 0
  | 19 => if 0 ≤ a ∧ a < σ 48 2 then σ 50 a else 0
  | 20 => if (0 ≤ a ∧ a < 4) ∧ (0 ≤ b ∧ b < 6) ∧ 0 ≤ c ∧ c ≤ 99 then slX σ a b c else 0
  | 21 => if 0 ≤ a ∧ a < 4 then σ 41 a else 0
  | _ => 0
def rwJ (σ : Nat → Int → Int) (h p : Int) : Int := σ 74 (4 * h + p)
def eJ (σ : Nat → Int → Int) : EV := fun i a b c => match i with
  | 0 => if (0 ≤ a ∧ a < 4) ∧ (0 ≤ b ∧ b < 6) ∧ 0 ≤ c ∧ c ≤ 99 then frJ σ a b c else 0
  | 1 => if (0 ≤ a ∧ a < 4) ∧ (0 ≤ b ∧ b < 6) ∧ 0 ≤ c ∧ c ≤ 99 then rup (slJ σ a b c * c) (σ 77 a) else 0
  | 2 => dwJ σ
  | 3 => if 0 ≤ a ∧ a < 6 then σ 70 a else 0
  | 4 => if 0 ≤ a ∧ a < 6 then σ 71 a else 0
  | 5 => if 0 ≤ a ∧ a < 6 then σ 73 a else 0
  | 6 => if (0 ≤ a ∧ a < 6) ∧ 0 ≤ b ∧ b < 4 then rwJ σ a b else 0
  | 7 => if 0 ≤ a ∧ a < 4 then σ 75 a else 0
  | 8 => if 0 ≤ a ∧ a < 4 then σ 76 a else 0
  | 9 => if 0 ≤ a ∧ a < 6 then σ 72 a else 0
  | 10 => σ 69 0
  | 11 => σ 69 1
  | 12 => σ 69 34
  | 13 => if 0 ≤ a ∧ a < σ 69 34 then σ 88 a else 0
  | 14 => σ 69 38
  | 15 => if 0 ≤ a ∧ a < σ 69 38 then σ 91 a else 0
  | 16 => if 0 ≤ a ∧ a < σ 69 38 then σ 92 a else 0
  | 17 => σ 69 41
  | 18 => if 0 ≤ a ∧ a < σ 69 41 then σ 93 a else 0
  | 19 => if 0 ≤ a ∧ a < σ 69 41 then σ 94 a else 0
  | 20 => if (0 ≤ a ∧ a < 4) ∧ (0 ≤ b ∧ b < 6) ∧ 0 ≤ c ∧ c ≤ 99 then slJ σ a b c else 0
  | 21 => if 0 ≤ a ∧ a < 4 then σ 77 a else 0
  | _ => 0
def nX (σ : Nat → Int → Int) : NT := (σ 66 7, σ 66 5, σ 66 8, σ 66 9, σ 66 6)
def nJ (σ : Nat → Int → Int) : NT := (σ 69 29, σ 69 30, σ 69 31, σ 69 33, σ 69 32)
theorem viX {σ : Nat → Int → Int} {f h g : Int} {N : NT} (hf : 0 ≤ f ∧ f < 4) (hh : 0 ≤ h ∧ h < 6) (hg : 0 ≤ g ∧ g ≤ 99) (h0 : 0 ≤ mnF (frX σ f h g) (rup (slX σ f h g * g) (σ 41 f)) h N) : viE (eX σ) f h g N = viF (frX σ f h g) (rup (slX σ f h g * g) (σ 41 f)) (dwX σ) (leF (σ 37 h) (σ 34 h) (σ 35 h) (zbit (σ 38 h)) f h) h N := by
  have e0 : eX σ 0 f h g = frX σ f h g := if_pos ⟨hf, hh, hg⟩
  have e1 : eX σ 1 f h g = rup (slX σ f h g * g) (σ 41 f) := if_pos ⟨hf, hh, hg⟩
  have e3 : eX σ 3 h 0 0 = σ 34 h := if_pos hh
  have e4 : eX σ 4 h 0 0 = σ 35 h := if_pos hh
  have e5 : eX σ 5 h 0 0 = σ 37 h := if_pos hh
  have hm := tmodB (a := mnF (frX σ f h g) (rup (slX σ f h g * g) (σ 41 f)) h N) (b := 4) (by decide)
  have e6 : eX σ 6 h (Int.tmod (mnF (frX σ f h g) (rup (slX σ f h g * g) (σ 41 f)) h N) 4) 0 = zbit (σ 38 h) (Int.tmod (mnF (frX σ f h g) (rup (slX σ f h g * g) (σ 41 f)) h N) 4) := if_pos ⟨hh, by omega, by omega⟩
  unfold viE
  rw [e0, e1, e3, e4, e5]
  unfold viF
  rw [le_cg (rw := fun p => eX σ 6 h p 0) (rw' := zbit (σ 38 h)) e6]
  rfl
theorem viJ {σ : Nat → Int → Int} {f h g : Int} {N : NT} (hf : 0 ≤ f ∧ f < 4) (hh : 0 ≤ h ∧ h < 6) (hg : 0 ≤ g ∧ g ≤ 99) (h0 : 0 ≤ mnF (frJ σ f h g) (rup (slJ σ f h g * g) (σ 77 f)) h N) : viE (eJ σ) f h g N = viF (frJ σ f h g) (rup (slJ σ f h g * g) (σ 77 f)) (dwJ σ) (leF (σ 73 h) (σ 70 h) (σ 71 h) (rwJ σ h) f h) h N := by
  have e0 : eJ σ 0 f h g = frJ σ f h g := if_pos ⟨hf, hh, hg⟩
  have e1 : eJ σ 1 f h g = rup (slJ σ f h g * g) (σ 77 f) := if_pos ⟨hf, hh, hg⟩
  have e3 : eJ σ 3 h 0 0 = σ 70 h := if_pos hh
  have e4 : eJ σ 4 h 0 0 = σ 71 h := if_pos hh
  have e5 : eJ σ 5 h 0 0 = σ 73 h := if_pos hh
  have hm := tmodB (a := mnF (frJ σ f h g) (rup (slJ σ f h g * g) (σ 77 f)) h N) (b := 4) (by decide)
  have e6 : eJ σ 6 h (Int.tmod (mnF (frJ σ f h g) (rup (slJ σ f h g * g) (σ 77 f)) h N) 4) 0 = rwJ σ h (Int.tmod (mnF (frJ σ f h g) (rup (slJ σ f h g * g) (σ 77 f)) h N) 4) := if_pos ⟨hh, by omega, by omega⟩
  unfold viE
  rw [e0, e1, e3, e4, e5]
  unfold viF
  rw [le_cg (rw := fun p => eJ σ 6 h p 0) (rw' := rwJ σ h) e6]
  rfl
theorem rup0 {w b : Int} (h : 0 ≤ w) : 0 ≤ rup w b := by
  unfold rup
  split
  · exact Int.le_refl 0
  · rw [Int.tdiv_eq_ediv_of_nonneg (by omega)]
    exact Int.ediv_nonneg (by omega) (by omega)
theorem rup0D (w b : Int) : w < 0 ∨ 0 ≤ rup w b := by
  rcases Classical.em (w < 0) with h | h
  · exact Or.inl h
  · exact Or.inr (rup0 (by omega))
theorem abI_0 (x : Int) : 0 ≤ abI x := by unfold abI; split <;> omega
theorem mn0 {far cn h : Int} {N : NT} (h1 : 0 ≤ far) (h2 : 0 ≤ cn) (h3 : 0 ≤ N.1) : 0 ≤ mnF far cn h N := by
  unfold mnF
  have := Int.mul_nonneg h1 (abI_0 (h - N.2.1))
  split <;> omega
/-! a frame that leaves all of it as it was -/
theorem wgX_fr {σ τ : Nat → Int → Int} (h6 : σ 51 3 ≤ 6) (e34 : τ 34 = σ 34) (e35 : τ 35 = σ 35) (e40 : τ 40 = σ 40) (eh : τ 33 13 = σ 33 13) (es : τ 51 3 = σ 51 3) (e59 : τ 59 = σ 59) (ek : ∀ k, 53 ≤ k → k ≤ 58 → τ k = σ k) : wgX τ = wgX σ := by
  funext f h g
  unfold wgX ltX
  have el : lnX τ = lnX σ := by unfold lnX; rw [eh, es, e59]
  rw [e34, e35, e40, eh, el]
  rcases lnX_c σ with ⟨a, -⟩ | ⟨a, b⟩
  · rw [ek _ (by omega) (by omega)]
  · rw [b]; rfl
theorem scX_f {k : Nat} {j : Int} (h : (k ≤ 60 ∧ k ≠ 51) ∨ (k = 51 ∧ j ≠ 5 ∧ j ≠ 6)) : scX k j = false := by
  unfold scX
  simp only [Bool.or_eq_false_iff, Bool.and_eq_false_iff, beq_eq_false_iff_ne, ne_eq]
  omega
theorem eX_fr {σ τ : Nat → Int → Int} (hI : InvX σ) (hF : Fr scX σ τ) : eX τ = eX σ := by
  have e : ∀ k, k ≤ 60 → k ≠ 51 → τ k = σ k := fun k h1 h2 => funext fun j => hF k j (scX_f (by omega))
  have e51 : τ 51 3 = σ 51 3 := hF 51 3 (scX_f (by omega))
  have b51 := iv51_3 hI 3 (by omega) (by omega)
  have ew := wgX_fr (σ := σ) (τ := τ) b51.2 (e 34 (by decide) (by decide)) (e 35 (by decide) (by decide)) (e 40 (by decide) (by decide)) (congrFun (e 33 (by decide) (by decide)) 13) e51 (e 59 (by decide) (by decide)) (fun k h0 h1 => e k (by omega) (by omega))
  have e1 : slX τ = slX σ := by funext f h g; unfold slX; rw [ew]
  have e2 : frX τ = frX σ := by funext f h g; unfold frX; rw [ew]
  have e3 : dwX τ = dwX σ := by unfold dwX; rw [e51, e 33 (by decide) (by decide), e 60 (by decide) (by decide)]
  funext i a b c
  unfold eX
  rw [e1, e2, e3, e 33 (by decide) (by decide), e 34 (by decide) (by decide), e 35 (by decide) (by decide), e 36 (by decide) (by decide), e 37 (by decide) (by decide), e 38 (by decide) (by decide), e 39 (by decide) (by decide), e 40 (by decide) (by decide), e 41 (by decide) (by decide), e 42 (by decide) (by decide), e 43 (by decide) (by decide), e 45 (by decide) (by decide), e 46 (by decide) (by decide), e 47 (by decide) (by decide), e 48 (by decide) (by decide), e 49 (by decide) (by decide), e 50 (by decide) (by decide)]
theorem cm_X {σ : Nat → Int → Int} {f h g m : Int} (hf : 0 ≤ f ∧ f < 4) : cmE (eX σ) f h g m = viE (eX σ) f h g (m, σ 39 f, σ 40 f, 0, 0) := by
  unfold cmE
  rw [show eX σ 7 f 0 0 = σ 39 f from if_pos hf, show eX σ 8 f 0 0 = σ 40 f from if_pos hf]
theorem nX_c {σ : Nat → Int → Int} {a b c d e : Int} (h : nX σ = (a, b, c, d, e)) : σ 66 7 = a ∧ σ 66 5 = b ∧ σ 66 8 = c ∧ σ 66 9 = d ∧ σ 66 6 = e := by
  unfold nX at h
  simp only [Prod.mk.injEq] at h
  exact h
/-- a visit of the class's night, from a state of the same street, once measured -/
theorem rc_X {σ τ : Nat → Int → Int} {f h g : Int} (hI : InvX σ) (hT : InvX τ) (hF : Fr scX σ τ) (hf : 0 ≤ f ∧ f < 4) (hh : 0 ≤ h ∧ h < 6) (hg : 0 ≤ g ∧ g ≤ 99) (h67 : τ 67 h = frX σ f h g) (h68 : τ 68 h = rup (slX σ f h g * g) (σ 41 f)) (h4 : τ 66 4 = f) : viF (τ 67 h) (τ 68 h) (dwX τ) (leF (τ 37 h) (τ 34 h) (τ 35 h) (zbit (τ 38 h)) (τ 66 4) h) h (nX τ) = viE (eX σ) f h g (nX τ) := by
  have b1 := iv67_0 hT h (by omega) (by omega)
  have b2 := iv68_0 hT h (by omega) (by omega)
  have b3 := iv66_7 hT 7 (by omega) (by omega)
  have e3 : dwX τ = dwX σ := congrFun (congrFun (congrFun (congrFun (eX_fr hI hF) 2) 0) 0) 0
  rw [viX hf hh hg (mn0 (by omega) (by omega) b3.1), e3, h67, h68, h4, hF 37 h (scX_f (by omega)), hF 34 h (scX_f (by omega)), hF 35 h (scX_f (by omega)), hF 38 h (scX_f (by omega))]
/-! what is asked of nights -/
/-- the first grain from g on by which one does not come in -/
def kpF (e : EV) (f h : Int) : Nat → Int → Int
  | 0, _ => -5
  | n + 1, g => if (cmE e f h g 0).1 = 0 then g else kpF e f h n (g + 1)
theorem kp_s {e : EV} {f h q : Int} {n : Nat} (hn : n = (100 - q).toNat) (hq : q < 100) (hc : (cmE e f h q 0).1 ≠ 0) : kpF e f h (100 - (q + 1)).toNat (q + 1) = kpF e f h n q := by
  rw [hn, show (100 - q).toNat = (100 - (q + 1)).toNat + 1 by omega]
  exact (if_neg hc).symm
theorem kp_h {e : EV} {f h q : Int} (hq : q < 100) (hc : (cmE e f h q 0).1 = 0) : kpF e f h (100 - q).toNat q = q := by
  rw [show (100 - q).toNat = (100 - (q + 1)).toNat + 1 by omega]
  exact if_pos hc
theorem kp_e {e : EV} {f h q : Int} (hq : 100 ≤ q) : kpF e f h (100 - q).toNat q = -5 := by
  rw [show (100 - q).toNat = 0 by omega]; rfl
/-- how many of the first n folk come in at a house by this grain -/
def inF (e : EV) (h g : Int) : Nat → Int
  | 0 => 0
  | n + 1 => inF e h g n + (if (cmE e (n : Int) h g 0).1 = 0 then 0 else 1)
theorem in_s {e : EV} {h g q : Int} (hq : 0 ≤ q) : inF e h g (q + 1).toNat = inF e h g q.toNat + (if (cmE e q h g 0).1 = 0 then 0 else 1) := by
  rw [show (q + 1).toNat = q.toNat + 1 by omega]
  show inF e h g q.toNat + (if (cmE e ((q.toNat : Nat) : Int) h g 0).1 = 0 then 0 else 1) = _
  rw [show ((q.toNat : Nat) : Int) = q by omega]
/-- the first minute from m on that is good to begin with -/
def whF (e : EV) (f h : Int) : Nat → Int → Int
  | 0, _ => -5
  | n + 1, m => if (cmE e f h (e 9 h 0 0) m).1 = 0 then whF e f h n (m + 1) else m
theorem wh_s {e : EV} {f h q : Int} {n : Nat} (hn : n = (99 - q).toNat) (hq : q < 99) (hc : (cmE e f h (e 9 h 0 0) q).1 = 0) : whF e f h (99 - (q + 1)).toNat (q + 1) = whF e f h n q := by
  rw [hn, show (99 - q).toNat = (99 - (q + 1)).toNat + 1 by omega]
  exact (if_pos hc).symm
theorem wh_h {e : EV} {f h q : Int} (hq : q < 99) (hc : (cmE e f h (e 9 h 0 0) q).1 ≠ 0) : whF e f h (99 - q).toNat q = q := by
  rw [show (99 - q).toNat = (99 - (q + 1)).toNat + 1 by omega]
  exact if_neg hc
theorem wh_e {e : EV} {f h q : Int} (hq : 99 ≤ q) : whF e f h (99 - q).toNat q = -5 := by
  rw [show (99 - q).toNat = 0 by omega]; rfl
/-- how many of the first n minutes are good to begin with -/
def odF (e : EV) (f h : Int) : Nat → Int
  | 0 => 0
  | n + 1 => odF e f h n + (if (cmE e f h (e 9 h 0 0) (n : Int)).1 = 0 then 0 else 1)
theorem od_s {e : EV} {f h q : Int} (hq : 0 ≤ q) : odF e f h (q + 1).toNat = odF e f h q.toNat + (if (cmE e f h (e 9 h 0 0) q).1 = 0 then 0 else 1) := by
  rw [show (q + 1).toNat = q.toNat + 1 by omega]
  show odF e f h q.toNat + (if (cmE e f h (e 9 h 0 0) ((q.toNat : Nat) : Int)).1 = 0 then 0 else 1) = _
  rw [show ((q.toNat : Nat) : Int) = q by omega]
/-- the minutes behind a visit of each of the first n folk, together -/
def meF (e : EV) (h : Int) : Nat → Int
  | 0 => 0
  | n + 1 => meF e h n + (cmE e (n : Int) h (e 9 h 0 0) 0).2.1
theorem me_s {e : EV} {h q : Int} (hq : 0 ≤ q) : meF e h (q + 1).toNat = meF e h q.toNat + (cmE e q h (e 9 h 0 0) 0).2.1 := by
  rw [show (q + 1).toNat = q.toNat + 1 by omega]
  show meF e h q.toNat + (cmE e ((q.toNat : Nat) : Int) h (e 9 h 0 0) 0).2.1 = _
  rw [show ((q.toNat : Nat) : Int) = q by omega]
/-- the way told, n houses of it: the night, and the first place at which it did not come in -/
def gsF (e : EV) (f : Int) : Nat → NT × Int
  | 0 => ((0, e 7 f 0 0, e 8 f 0 0, 0, 0), -5)
  | n + 1 => ((viE e f (e 13 (n : Int) 0 0) (e 9 (e 13 (n : Int) 0 0) 0 0) (gsF e f n).1).2, if (viE e f (e 13 (n : Int) 0 0) (e 9 (e 13 (n : Int) 0 0) 0 0) (gsF e f n).1).1 = 0 ∧ (gsF e f n).2 = -5 then (n : Int) else (gsF e f n).2)
theorem gs_0 {e : EV} {f : Int} : gsF e f 0 = ((0, e 7 f 0 0, e 8 f 0 0, 0, 0), -5) := rfl
theorem gs_s {e : EV} {f q : Int} (hq : 0 ≤ q) : gsF e f (q + 1).toNat = ((viE e f (e 13 q 0 0) (e 9 (e 13 q 0 0) 0 0) (gsF e f q.toNat).1).2, if (viE e f (e 13 q 0 0) (e 9 (e 13 q 0 0) 0 0) (gsF e f q.toNat).1).1 = 0 ∧ (gsF e f q.toNat).2 = -5 then q else (gsF e f q.toNat).2) := by
  rw [show (q + 1).toNat = q.toNat + 1 by omega]
  show ((viE e f (e 13 ((q.toNat : Nat) : Int) 0 0) (e 9 (e 13 ((q.toNat : Nat) : Int) 0 0) 0 0) (gsF e f q.toNat).1).2, if (viE e f (e 13 ((q.toNat : Nat) : Int) 0 0) (e 9 (e 13 ((q.toNat : Nat) : Int) 0 0) 0 0) (gsF e f q.toNat).1).1 = 0 ∧ (gsF e f q.toNat).2 = -5 then ((q.toNat : Nat) : Int) else (gsF e f q.toNat).2) = _
  rw [show ((q.toNat : Nat) : Int) = q by omega]
theorem fst_of {α β : Type} {a : α} {b : β} {p : α × β} (h : (a, b) = p) : a = p.1 := congrArg Prod.fst h
theorem snd_of {α β : Type} {a : α} {b : β} {p : α × β} (h : (a, b) = p) : b = p.2 := congrArg Prod.snd h
/-! the reference's side of it -/
theorem zw_1 (b h : Int) : zor b (zshl 1 h) = zwith b h 1 := (if_neg (by decide)).symm
theorem zw_0 (b h : Int) : zand b (zxor (zshl 1 h) (-1)) = zwith b h 0 := (if_pos rfl).symm
theorem zor0 {b : Int} (hb : 0 ≤ b ∧ b ≤ 63) : zor b 0 = b := by
  have key : ∀ x : Fin 64, zor x.1 0 = x.1 := by decide +kernel
  have := key ⟨b.toNat, by omega⟩
  simp only [Int.toNat_of_nonneg hb.1] at this
  exact this
theorem nJ_c {σ : Nat → Int → Int} {a b c d e : Int} (h : nJ σ = (a, b, c, d, e)) : σ 69 29 = a ∧ σ 69 30 = b ∧ σ 69 31 = c ∧ σ 69 33 = d ∧ σ 69 32 = e := by
  unfold nJ at h
  simp only [Prod.mk.injEq] at h
  exact h
theorem rup_1 {w b : Int} (h : 1 ≤ b) : rup w b = Int.tdiv (w + b - 1) b := if_neg (by omega)
/-- the cells that the reference's answers of nights hang on -/
def kJ (k : Nat) (j : Int) : Prop := (70 ≤ k ∧ k ≤ 77 ∧ k ≠ 72) ∨ (79 ≤ k ∧ k ≤ 84) ∨ k = 88 ∨ (91 ≤ k ∧ k ≤ 94) ∨ (k = 69 ∧ (j = 0 ∨ j = 1 ∨ j = 11 ∨ j = 34 ∨ j = 38 ∨ j = 41))
theorem sm_cg {σ τ : Nat → Int → Int} {F : Int → Int} {w : Int} (e : ∀ k j, kJ k j → τ k j = σ k j) : ∀ n, smJ τ F w n = smJ σ F w n
  | 0 => rfl
  | n + 1 => by
    have q : ∀ k, (79 ≤ k ∧ k ≤ 84) → τ k = σ k := fun k hk => funext fun j => e k j (by unfold kJ; omega)
    show (if τ 80 (10 * τ 69 11 + (n : Int)) = w then _ else _) = if σ 80 (10 * σ 69 11 + (n : Int)) = w then _ else _
    unfold hlJ
    rw [sm_cg e n, e 69 11 (by unfold kJ; omega), q 80 (by omega), q 81 (by omega), q 82 (by omega), q 83 (by omega), q 84 (by omega)]
theorem sa_cg {σ τ : Nat → Int → Int} {F : Int → Int} {w o : Int} (e : ∀ k j, kJ k j → τ k j = σ k j) : saJ τ F w o = saJ σ F w o := by
  unfold saJ
  rw [e 69 11 (by unfold kJ; omega), e 79 _ (by unfold kJ; omega), sm_cg e]
theorem dwI_cg {w w' v v' : Int → Int} {b : Int} (hw : w' = w) (hv : v' = v) : ∀ n, dwI w' v' b n = dwI w v b n := fun n => by rw [hw, hv]
theorem dwJ_cg {σ τ : Nat → Int → Int} (e : ∀ k j, kJ k j → τ k j = σ k j) : dwJ τ = dwJ σ := by
  unfold dwJ dwK
  rw [e 69 11 (by unfold kJ; omega), e 79 _ (by unfold kJ; omega), show τ 80 = σ 80 from funext fun j => e 80 j (by unfold kJ; omega), show τ 81 = σ 81 from funext fun j => e 81 j (by unfold kJ; omega)]
/-- all but the grain -/
theorem eJ_cg {σ τ : Nat → Int → Int} (e : ∀ k j, kJ k j → τ k j = σ k j) (i : Nat) (hi : i ≠ 9) : eJ τ i = eJ σ i := by
  have q : ∀ k, ((70 ≤ k ∧ k ≤ 77 ∧ k ≠ 72) ∨ k = 88 ∨ (91 ≤ k ∧ k ≤ 94)) → τ k = σ k := fun k hk => funext fun j => e k j (by unfold kJ; omega)
  have e1 : slJ τ = slJ σ := by funext f h g; unfold slJ; rw [sa_cg e, q 70 (by omega), q 71 (by omega), q 76 (by omega)]
  have e2 : frJ τ = frJ σ := by funext f h g; unfold frJ; rw [sa_cg e, q 70 (by omega), q 71 (by omega), q 76 (by omega)]
  have e3 : rwJ τ = rwJ σ := by funext a b; unfold rwJ; rw [q 74 (by omega)]
  have e4 := dwJ_cg e
  funext a b c
  match i, hi with
  | 0, _ => show (if _ then frJ τ a b c else 0) = if _ then frJ σ a b c else 0; rw [e2]
  | 1, _ => show (if _ then rup (slJ τ a b c * c) (τ 77 a) else 0) = if _ then rup (slJ σ a b c * c) (σ 77 a) else 0; rw [e1, q 77 (by omega)]
  | 2, _ => exact e4
  | 3, _ => show (if _ then τ 70 a else 0) = if _ then σ 70 a else 0; rw [q 70 (by omega)]
  | 4, _ => show (if _ then τ 71 a else 0) = if _ then σ 71 a else 0; rw [q 71 (by omega)]
  | 5, _ => show (if _ then τ 73 a else 0) = if _ then σ 73 a else 0; rw [q 73 (by omega)]
  | 6, _ => show (if _ then rwJ τ a b else 0) = if _ then rwJ σ a b else 0; rw [e3]
  | 7, _ => show (if _ then τ 75 a else 0) = if _ then σ 75 a else 0; rw [q 75 (by omega)]
  | 8, _ => show (if _ then τ 76 a else 0) = if _ then σ 76 a else 0; rw [q 76 (by omega)]
  | 9, h => exact absurd rfl h
  | 10, _ => exact e 69 0 (by unfold kJ; omega)
  | 11, _ => exact e 69 1 (by unfold kJ; omega)
  | 12, _ => exact e 69 34 (by unfold kJ; omega)
  | 13, _ => show (if 0 ≤ a ∧ a < τ 69 34 then τ 88 a else 0) = if 0 ≤ a ∧ a < σ 69 34 then σ 88 a else 0; rw [q 88 (by omega), e 69 34 (by unfold kJ; omega)]
  | 14, _ => exact e 69 38 (by unfold kJ; omega)
  | 15, _ => show (if 0 ≤ a ∧ a < τ 69 38 then τ 91 a else 0) = if 0 ≤ a ∧ a < σ 69 38 then σ 91 a else 0; rw [q 91 (by omega), e 69 38 (by unfold kJ; omega)]
  | 16, _ => show (if 0 ≤ a ∧ a < τ 69 38 then τ 92 a else 0) = if 0 ≤ a ∧ a < σ 69 38 then σ 92 a else 0; rw [q 92 (by omega), e 69 38 (by unfold kJ; omega)]
  | 17, _ => exact e 69 41 (by unfold kJ; omega)
  | 18, _ => show (if 0 ≤ a ∧ a < τ 69 41 then τ 93 a else 0) = if 0 ≤ a ∧ a < σ 69 41 then σ 93 a else 0; rw [q 93 (by omega), e 69 41 (by unfold kJ; omega)]
  | 19, _ => show (if 0 ≤ a ∧ a < τ 69 41 then τ 94 a else 0) = if 0 ≤ a ∧ a < σ 69 41 then σ 94 a else 0; rw [q 94 (by omega), e 69 41 (by unfold kJ; omega)]
  | 20, _ => show (if _ then slJ τ a b c else 0) = if _ then slJ σ a b c else 0; rw [e1]
  | 21, _ => show (if _ then τ 77 a else 0) = if _ then σ 77 a else 0; rw [q 77 (by omega)]
  | i + 22, _ => rfl
theorem cm_cg {e e' : EV} (h : ∀ i, i ≠ 9 → e' i = e i) : cmE e' = cmE e := by
  funext f h' g m
  unfold cmE viE
  rw [h 0 (by decide), h 1 (by decide), h 2 (by decide), h 3 (by decide), h 4 (by decide), h 5 (by decide), h 6 (by decide), h 7 (by decide), h 8 (by decide)]
theorem kJ_fr {σ τ : Nat → Int → Int} (hF : Fr scJ σ τ) : ∀ k j, kJ k j → τ k j = σ k j := fun k j hk => hF k j (by
  unfold kJ at hk; unfold scJ
  simp only [Bool.or_eq_false_iff, Bool.and_eq_false_iff, beq_eq_false_iff_ne, ne_eq]
  omega)
theorem eJ_fr {σ τ : Nat → Int → Int} (hF : Fr scJ σ τ) : eJ τ = eJ σ := by
  funext i
  by_cases hi : i = 9
  · subst hi
    funext a b c
    show (if _ then τ 72 a else 0) = if _ then σ 72 a else 0
    rw [hF 72 a rfl]
  · exact eJ_cg (kJ_fr hF) i hi
theorem cm_J {σ : Nat → Int → Int} {f h g m : Int} (hf : 0 ≤ f ∧ f < 4) : cmE (eJ σ) f h g m = viE (eJ σ) f h g (m, σ 75 f, σ 76 f, 0, 0) := by
  unfold cmE
  rw [show eJ σ 7 f 0 0 = σ 75 f from if_pos hf, show eJ σ 8 f 0 0 = σ 76 f from if_pos hf]
/-- the answer of a night's question -/
def visQ (e : EV) (f h w : Int) : Int := if ¬ ((0 ≤ f ∧ f < e 11 0 0 0) ∧ 0 ≤ h ∧ h < e 10 0 0 0) then -1 else if w = 0 then (cmE e f h (e 9 h 0 0) 0).2.1 else if w = 1 then (cmE e f h (e 9 h 0 0) 0).1 else if w = 2 then (cmE e f h (e 9 h 0 0) 0).2.2.2.1 else -1
def keeQ (e : EV) (h f : Int) : Int := if ¬ ((0 ≤ h ∧ h < e 10 0 0 0) ∧ 0 ≤ f ∧ f < e 11 0 0 0) then -1 else kpF e f h 100 0
def wheQ (e : EV) (f h : Int) : Int := if ¬ ((0 ≤ f ∧ f < e 11 0 0 0) ∧ 0 ≤ h ∧ h < e 10 0 0 0) then -1 else whF e f h 99 0
/-- Euclid's way, n steps of it -/
def euF : Nat → Int → Int → Int
  | 0, a, _ => a
  | n + 1, a, b => if b = 0 then a else euF n b (Int.tmod a b)
theorem eu_0 {n : Nat} {a b : Int} (h : b = 0) : euF n a b = a := by
  cases n with
  | zero => rfl
  | succ n => exact if_pos h
theorem eu_s {a b q : Int} {n : Nat} (hn : n = (100 - q).toNat) (hq : q < 100) (h : b ≠ 0) : euF (100 - (q + 1)).toNat b (Int.tmod a b) = euF n a b := by
  rw [hn, show (100 - q).toNat = (100 - (q + 1)).toNat + 1 by omega]
  exact (if_neg h).symm
def sdF (a b p : Int) : Int := if 0 < euF 100 a b then Int.tdiv (if p = 0 then a else b) (euF 100 a b) else (if p = 0 then a else b)
def oddQ (e : EV) (f h p : Int) : Int := if ¬ (((0 ≤ f ∧ f < e 11 0 0 0) ∧ 0 ≤ h ∧ h < e 10 0 0 0) ∧ 0 ≤ p ∧ p ≤ 1) then -9223372036854775808 else sdF (odF e f h 60) 60 p
def meaQ (e : EV) (h p : Int) : Int := if ¬ (((0 ≤ h ∧ h < e 10 0 0 0) ∧ 0 ≤ p ∧ p ≤ 1) ∧ e 11 0 0 0 ≠ 0) then -9223372036854775808 else sdF (meF e h (e 11 0 0 0).toNat) (e 11 0 0 0) p
def ofQ (e : EV) (h w : Int) : Int := if ¬ (0 ≤ h ∧ h < e 10 0 0 0) then -1 else if w = 0 then e 3 h 0 0 else if w = 1 then e 4 h 0 0 else if w = 2 then e 9 h 0 0 else if w = 3 then e 5 h 0 0 else if 10 ≤ w ∧ w - 10 < e 11 0 0 0 then e 20 (w - 10) h (e 9 h 0 0) else if 20 ≤ w ∧ w - 20 < e 11 0 0 0 then e 0 (w - 20) h (e 9 h 0 0) else -1
def goeQ (e : EV) (f w : Int) : Int := if ¬ (0 ≤ f ∧ f < e 11 0 0 0) then -1 else if w = 0 then (gsF e f (e 12 0 0 0).toNat).1.1 else if w = 1 then (gsF e f (e 12 0 0 0).toNat).1.2.2.1 else if w = 2 then (gsF e f (e 12 0 0 0).toNat).1.2.2.2.1 else if w = 3 then (gsF e f (e 12 0 0 0).toNat).2 else -1
theorem eX_sl {σ τ : Nat → Int → Int} (hI : InvX σ) (hF : Fr scX σ τ) : frX τ = frX σ := by
  have e : ∀ k, k ≤ 60 → k ≠ 51 → τ k = σ k := fun k h1 h2 => funext fun j => hF k j (scX_f (by omega))
  have ew := wgX_fr (σ := σ) (τ := τ) (iv51_3 hI 3 (by omega) (by omega)).2 (e 34 (by decide) (by decide)) (e 35 (by decide) (by decide)) (e 40 (by decide) (by decide)) (congrFun (e 33 (by decide) (by decide)) 13) (hF 51 3 (scX_f (by omega))) (e 59 (by decide) (by decide)) (fun k h0 h1 => e k (by omega) (by omega))
  funext f h g; unfold frX; rw [ew]
theorem eX_sl2 {σ τ : Nat → Int → Int} (hI : InvX σ) (hF : Fr scX σ τ) : slX τ = slX σ := by
  have e : ∀ k, k ≤ 60 → k ≠ 51 → τ k = σ k := fun k h1 h2 => funext fun j => hF k j (scX_f (by omega))
  have ew := wgX_fr (σ := σ) (τ := τ) (iv51_3 hI 3 (by omega) (by omega)).2 (e 34 (by decide) (by decide)) (e 35 (by decide) (by decide)) (e 40 (by decide) (by decide)) (congrFun (e 33 (by decide) (by decide)) 13) (hF 51 3 (scX_f (by omega))) (e 59 (by decide) (by decide)) (fun k h0 h1 => e k (by omega) (by omega))
  funext f h g; unfold slX; rw [ew]
theorem nX_fr {τ τ' : Nat → Int → Int} (h : ∀ j, τ' 66 j = τ 66 j) : nX τ' = nX τ := by
  unfold nX; rw [h, h, h, h, h]
theorem nJ_fr {τ τ' : Nat → Int → Int} (h : ∀ j, 29 ≤ j → j ≤ 33 → τ' 69 j = τ 69 j) : nJ τ' = nJ τ := by
  unfold nJ; rw [h 29 (by omega) (by omega), h 30 (by omega) (by omega), h 31 (by omega) (by omega), h 32 (by omega) (by omega), h 33 (by omega) (by omega)]
theorem kJ_jH {σ τ : Nat → Int → Int} (hF : Fr jcH σ τ) : ∀ k j, kJ k j → τ k j = σ k j := fun k j hk => hF k j (jcH_f (by unfold kJ at hk; omega))
theorem kJ_jV {σ τ : Nat → Int → Int} (hF : Fr jcV σ τ) : ∀ k j, kJ k j → τ k j = σ k j := fun k j hk => hF k j (by
  unfold kJ at hk; unfold jcV
  simp only [Bool.or_eq_false_iff, Bool.and_eq_false_iff, beq_eq_false_iff_ne, ne_eq]
  omega)
theorem rwJ_of {σ τ : Nat → Int → Int} {h : Int} (e : ∀ p, τ 74 p = σ 74 p) : rwJ τ h = rwJ σ h := funext fun p => e _
/-- what is left of Euclid's way -/
def euI (p q E : Int) : Prop := ∃ k : Nat, q < (k : Int) ∧ euF k p q = E
theorem euI_0 {a b : Int} (h : b < 100) : euI a b (euF 100 a b) := ⟨100, by omega, rfl⟩
theorem euI_s {p q E : Int} (h : euI p q E) (hp : 0 ≤ p) (hq : 0 < q) : euI q (Int.tmod p q) E := by
  obtain ⟨k, h1, h2⟩ := h
  have hm := tmodB (a := p) (b := q) hq
  match k, h1, h2 with
  | 0, h1, _ => exact absurd h1 (by omega)
  | k + 1, h1, h2 =>
    refine ⟨k, by omega, ?_⟩
    rw [← h2]
    exact (if_neg (by omega)).symm
theorem euI_e {p q E : Int} (h : euI p q E) (hq : q = 0) : p = E := by
  obtain ⟨k, h1, h2⟩ := h
  rw [← h2, eu_0 hq]
theorem kJ_kp {σ τ : Nat → Int → Int} (hF : Fr jcKeep σ τ) : ∀ k j, kJ k j → τ k j = σ k j := fun k j hk => hF k j (by
  unfold kJ at hk; unfold jcKeep
  simp only [Bool.or_eq_false_iff, Bool.and_eq_false_iff, beq_eq_false_iff_ne, ne_eq]
  omega)
def kpI (e : EV) (f h g fo : Int) : Prop := (fo = -5 ∧ kpF e f h (100 - g).toNat g = kpF e f h 100 0) ∨ (0 ≤ fo ∧ fo = kpF e f h 100 0)
theorem kpI_0 {e : EV} {f h : Int} : kpI e f h 0 (-5) := Or.inl ⟨rfl, rfl⟩
theorem kpI_s {e : EV} {f h g fo : Int} (hi : kpI e f h g fo) (hf : fo < 0) (hg : 0 ≤ g ∧ g < 100) : ((cmE e f h g 0).1 ≠ 0 → kpI e f h (g + 1) (-5)) ∧ ((cmE e f h g 0).1 = 0 → kpI e f h (g + 1) g) := by
  rcases hi with ⟨-, hi⟩ | ⟨hi, -⟩
  · exact ⟨fun hc => Or.inl ⟨rfl, (kp_s rfl hg.2 hc).trans hi⟩, fun hc => Or.inr ⟨hg.1, (kp_h hg.2 hc).symm.trans hi⟩⟩
  · omega
theorem kpI_e {e : EV} {f h g fo : Int} (hi : kpI e f h g fo) (he : 100 ≤ g ∨ 0 ≤ fo) : fo = kpF e f h 100 0 := by
  rcases hi with ⟨a, hi⟩ | ⟨-, hi⟩
  · rw [a]; exact (kp_e (he.resolve_right (by omega))).symm.trans hi
  · exact hi
/-! who it was, the next house to watch, two who share the counting -/
def wkF (e : EV) (f : Int) : Nat → Int
  | 0 => 1
  | n + 1 => if wkF e f n = 0 then 0 else if (cmE e f (e 15 (n : Int) 0 0) (e 9 (e 15 (n : Int) 0 0) 0 0) 0).1 = (if e 16 (n : Int) 0 0 = 1 then 1 else 0) then 1 else 0
theorem wk_st {e : EV} {f q r s : Int} {N : NT} (hq : 0 ≤ q) (h1 : wkF e f q.toNat ≠ 0) (hc : (r, N) = cmE e f (e 15 q 0 0) (e 9 (e 15 q 0 0) 0 0) 0) (hs : e 16 q 0 0 = s) : (r = (if s = 1 then 1 else 0) → wkF e f (q + 1).toNat = 1) ∧ (r ≠ (if s = 1 then 1 else 0) → wkF e f (q + 1).toNat = 0) := by
  have hu : wkF e f (q + 1).toNat = if (cmE e f (e 15 q 0 0) (e 9 (e 15 q 0 0) 0 0) 0).1 = (if e 16 q 0 0 = 1 then 1 else 0) then 1 else 0 := by
    rw [show (q + 1).toNat = q.toNat + 1 by omega]
    show (if wkF e f q.toNat = 0 then 0 else if (cmE e f (e 15 ((q.toNat : Nat) : Int) 0 0) (e 9 (e 15 ((q.toNat : Nat) : Int) 0 0) 0 0) 0).1 = (if e 16 ((q.toNat : Nat) : Int) 0 0 = 1 then 1 else 0) then 1 else 0) = _
    rw [show ((q.toNat : Nat) : Int) = q by omega, if_neg h1]
  rw [hu, ← hc, hs]
  exact ⟨fun h => if_pos h, fun h => if_neg h⟩
theorem wk_z {e : EV} {f : Int} {n m : Nat} (h : wkF e f n = 0) (hm : n ≤ m) : wkF e f m = 0 := by
  induction hm with
  | refl => exact h
  | step _ ih => exact if_pos ih
def wkT (e : EV) (f : Int) : Int := wkF e f (e 14 0 0 0).toNat
def wsF (e : EV) : Nat → Int
  | 0 => 0
  | n + 1 => zwith (wsF e n) (n : Int) (wkT e (n : Int))
theorem ws_s {e : EV} {q : Int} (hq : 0 ≤ q) : wsF e (q + 1).toNat = zwith (wsF e q.toNat) q (wkT e q) := by
  rw [show (q + 1).toNat = q.toNat + 1 by omega]
  show zwith (wsF e q.toNat) ((q.toNat : Nat) : Int) (wkT e ((q.toNat : Nat) : Int)) = _
  rw [show ((q.toNat : Nat) : Int) = q by omega]
theorem zw_lt : ∀ (n : Fin 4) (b : Fin 8), (b.1 : Int) < 2 ^ n.1 → zwith b.1 n.1 0 = b.1 ∧ 0 ≤ zwith b.1 n.1 1 ∧ zwith b.1 n.1 1 < 2 ^ (n.1 + 1) := by decide +kernel
theorem zw_any {b p z : Int} : zwith b p z = zwith b p 0 ∨ zwith b p z = zwith b p 1 := by
  by_cases h : z = 0
  · exact Or.inl (by rw [h])
  · refine Or.inr ?_
    unfold zwith
    rw [if_neg h, if_neg (by decide)]
theorem ws_b {e : EV} : ∀ n : Nat, n ≤ 4 → 0 ≤ wsF e n ∧ wsF e n < 2 ^ n
  | 0, _ => ⟨Int.le_refl 0, by show (0 : Int) < 2 ^ 0; decide⟩
  | n + 1, hn => by
    obtain ⟨i1, i2⟩ := ws_b (e := e) n (by omega)
    have hp : (2 : Int) ^ n ≤ 8 := by
      have : n = 0 ∨ n = 1 ∨ n = 2 ∨ n = 3 := by omega
      rcases this with rfl | rfl | rfl | rfl <;> decide
    have key := zw_lt ⟨n, by omega⟩ ⟨(wsF e n).toNat, by omega⟩
    simp only [Int.toNat_of_nonneg i1] at key
    obtain ⟨k1, k2, k3⟩ := key i2
    show 0 ≤ zwith (wsF e n) (n : Int) (wkT e (n : Int)) ∧ zwith (wsF e n) (n : Int) (wkT e (n : Int)) < 2 ^ (n + 1)
    rcases zw_any (b := wsF e n) (p := (n : Int)) (z := wkT e (n : Int)) with h | h
    · rw [h, k1]
      exact ⟨i1, by rw [Int.pow_succ]; omega⟩
    · rw [h]
      exact ⟨k2, k3⟩
theorem ws_z {e : EV} {q : Int} (hq : 0 ≤ q ∧ q < 4) : zwith (wsF e q.toNat) q 0 = wsF e q.toNat ∧ 0 ≤ wsF e q.toNat ∧ wsF e q.toNat ≤ 15 := by
  obtain ⟨i1, i2⟩ := ws_b (e := e) q.toNat (by omega)
  have hp : (2 : Int) ^ q.toNat ≤ 8 := by
    have : q.toNat = 0 ∨ q.toNat = 1 ∨ q.toNat = 2 ∨ q.toNat = 3 := by omega
    rcases this with h | h | h | h <;> rw [h] <;> decide
  have key := zw_lt ⟨q.toNat, by omega⟩ ⟨(wsF e q.toNat).toNat, by omega⟩
  simp only [Int.toNat_of_nonneg i1, Int.toNat_of_nonneg hq.1] at key
  exact ⟨(key i2).1, i1, by omega⟩
def susQ (e : EV) : Int := wsF e (e 11 0 0 0).toNat
def baF (e : EV) (w h : Int) : Nat → Int
  | 0 => 0
  | n + 1 => baF e w h n + (if zbit w (n : Int) = 1 then (if (cmE e (n : Int) h (e 9 h 0 0) 0).1 = 0 then -1 else 1) else 0)
theorem ba_s {e : EV} {w h q : Int} (hq : 0 ≤ q) : baF e w h (q + 1).toNat = baF e w h q.toNat + (if zbit w q = 1 then (if (cmE e q h (e 9 h 0 0) 0).1 = 0 then -1 else 1) else 0) := by
  rw [show (q + 1).toNat = q.toNat + 1 by omega]
  show baF e w h q.toNat + (if zbit w ((q.toNat : Nat) : Int) = 1 then (if (cmE e ((q.toNat : Nat) : Int) h (e 9 h 0 0) 0).1 = 0 then -1 else 1) else 0) = _
  rw [show ((q.toNat : Nat) : Int) = q by omega]
def apQ (e : EV) (w h : Int) : Int := abI (baF e w h (e 11 0 0 0).toNat)
def nxF (e : EV) (w : Int) : Nat → Int × Int
  | 0 => (-5, 5)
  | n + 1 => if apQ e w (n : Int) < (nxF e w n).2 then ((n : Int), apQ e w (n : Int)) else nxF e w n
theorem nx_s {e : EV} {w q : Int} (hq : 0 ≤ q) : nxF e w (q + 1).toNat = if apQ e w q < (nxF e w q.toNat).2 then (q, apQ e w q) else nxF e w q.toNat := by
  rw [show (q + 1).toNat = q.toNat + 1 by omega]
  show (if apQ e w ((q.toNat : Nat) : Int) < (nxF e w q.toNat).2 then (((q.toNat : Nat) : Int), apQ e w ((q.toNat : Nat) : Int)) else nxF e w q.toNat) = _
  rw [show ((q.toNat : Nat) : Int) = q by omega]
def neQ (e : EV) : Int := if susQ e = 0 then -5 else (nxF e (susQ e) (e 10 0 0 0).toNat).1
def nxI (e : EV) (w q fo le : Int) : Prop := (fo = -5 ∧ q = 0) ∨ (0 ≤ fo ∧ (fo, le) = nxF e w q.toNat)
theorem nxI_t {e : EV} {w q fo le a : Int} (h : nxI e w q fo le) (hq : 0 ≤ q) (ha : a = apQ e w q) (h4 : a ≤ 4) (hc : fo < 0 ∨ a < le) : nxI e w (q + 1) q a := by
  refine Or.inr ⟨hq, ?_⟩
  rcases h with ⟨h1, h2⟩ | ⟨h1, h2⟩
  · rw [nx_s hq, ← ha, if_pos (by rw [h2]; show a < 5; omega)]
  · rw [nx_s hq, ← ha, ← h2, if_pos (by show a < le; omega)]
theorem nxI_k {e : EV} {w q fo le a : Int} (h : nxI e w q fo le) (hq : 0 ≤ q) (ha : a = apQ e w q) (hf : 0 ≤ fo) (hc : le ≤ a) : nxI e w (q + 1) fo le := by
  rcases h with ⟨h1, h2⟩ | ⟨h1, h2⟩
  · omega
  · refine Or.inr ⟨h1, ?_⟩
    rw [nx_s hq, ← ha, ← h2, if_neg (by show ¬ a < le; omega)]
theorem nxI_e {e : EV} {w q fo le : Int} (h : nxI e w q fo le) : fo = (nxF e w q.toNat).1 := by
  rcases h with ⟨h1, h2⟩ | ⟨h1, h2⟩
  · rw [h1, h2]; rfl
  · exact fst_of h2
def letE (e : EV) (f h m : Int) : Int := if m < e 2 0 0 0 then (leF (e 5 h 0 0) (e 3 h 0 0) (e 4 h 0 0) (fun p => e 6 h p 0) f h m (e 8 f 0 0) 0).1 else 0
def wkE (e : EV) (f h : Int) : Int := e 0 f h (e 9 h 0 0) * abI (h - e 7 f 0 0)
def dnE (e : EV) (a b h : Int) : Int := (if wkE e a h < wkE e b h then wkE e b h else wkE e a h) + rup (e 20 a h (e 9 h 0 0) * e 9 h 0 0) (e 21 a 0 0 + e 21 b 0 0)
def shaQ (e : EV) (a b h w : Int) : Int := if ¬ ((((0 ≤ a ∧ a < e 11 0 0 0) ∧ 0 ≤ b ∧ b < e 11 0 0 0) ∧ 0 ≤ h ∧ h < e 10 0 0 0) ∧ 0 ≤ w ∧ w ≤ 1) then -1 else if a = b then -2 else if w = 0 then dnE e a b h else letE e a h (dnE e a b h) + 2 * letE e b h (dnE e a b h)
theorem wk_X {σ : Nat → Int → Int} {f h : Int} (hf : 0 ≤ f ∧ f < 4) (hh : 0 ≤ h ∧ h < 6) (hg : 0 ≤ σ 36 h ∧ σ 36 h ≤ 99) : wkE (eX σ) f h = frX σ f h (σ 36 h) * abI (h - σ 39 f) := by
  unfold wkE
  rw [show eX σ 9 h 0 0 = σ 36 h from if_pos hh, show eX σ 0 f h (σ 36 h) = frX σ f h (σ 36 h) from if_pos ⟨hf, hh, hg⟩, show eX σ 7 f 0 0 = σ 39 f from if_pos hf]
theorem dn_X {σ : Nat → Int → Int} {a b h c : Int} (ha : 0 ≤ a ∧ a < 4) (hb : 0 ≤ b ∧ b < 4) (hh : 0 ≤ h ∧ h < 6) (hg : 0 ≤ σ 36 h ∧ σ 36 h ≤ 99) (hc : c = if wkE (eX σ) a h < wkE (eX σ) b h then wkE (eX σ) b h else wkE (eX σ) a h) : c + rup (slX σ a h (σ 36 h) * σ 36 h) (σ 41 a + σ 41 b) = dnE (eX σ) a b h := by
  unfold dnE
  rw [← hc, show eX σ 9 h 0 0 = σ 36 h from if_pos hh, show eX σ 20 a h (σ 36 h) = slX σ a h (σ 36 h) from if_pos ⟨ha, hh, hg⟩, show eX σ 21 a 0 0 = σ 41 a from if_pos ha, show eX σ 21 b 0 0 = σ 41 b from if_pos hb]
theorem let_X {σ : Nat → Int → Int} {f h m : Int} (hf : 0 ≤ f ∧ f < 4) (hh : 0 ≤ h ∧ h < 6) (hm : 0 ≤ m) : letE (eX σ) f h m = if m < dwX σ then (leF (σ 37 h) (σ 34 h) (σ 35 h) (zbit (σ 38 h)) f h m (σ 40 f) 0).1 else 0 := by
  have ht := tmodB (a := m) (b := 4) (by decide)
  unfold letE
  rw [show eX σ 5 h 0 0 = σ 37 h from if_pos hh, show eX σ 3 h 0 0 = σ 34 h from if_pos hh, show eX σ 4 h 0 0 = σ 35 h from if_pos hh, show eX σ 8 f 0 0 = σ 40 f from if_pos hf, le_cg (rw := fun p => eX σ 6 h p 0) (rw' := zbit (σ 38 h)) (if_pos ⟨hh, by omega, by omega⟩)]
  rfl
theorem wk_J {σ : Nat → Int → Int} {f h : Int} (hf : 0 ≤ f ∧ f < 4) (hh : 0 ≤ h ∧ h < 6) (hg : 0 ≤ σ 72 h ∧ σ 72 h ≤ 99) : wkE (eJ σ) f h = frJ σ f h (σ 72 h) * abI (h - σ 75 f) := by
  unfold wkE
  rw [show eJ σ 9 h 0 0 = σ 72 h from if_pos hh, show eJ σ 0 f h (σ 72 h) = frJ σ f h (σ 72 h) from if_pos ⟨hf, hh, hg⟩, show eJ σ 7 f 0 0 = σ 75 f from if_pos hf]
theorem dn_J {σ : Nat → Int → Int} {a b h c : Int} (ha : 0 ≤ a ∧ a < 4) (hb : 0 ≤ b ∧ b < 4) (hh : 0 ≤ h ∧ h < 6) (hg : 0 ≤ σ 72 h ∧ σ 72 h ≤ 99) (hc : c = if wkE (eJ σ) a h < wkE (eJ σ) b h then wkE (eJ σ) b h else wkE (eJ σ) a h) : c + rup (slJ σ a h (σ 72 h) * σ 72 h) (σ 77 a + σ 77 b) = dnE (eJ σ) a b h := by
  unfold dnE
  rw [← hc, show eJ σ 9 h 0 0 = σ 72 h from if_pos hh, show eJ σ 20 a h (σ 72 h) = slJ σ a h (σ 72 h) from if_pos ⟨ha, hh, hg⟩, show eJ σ 21 a 0 0 = σ 77 a from if_pos ha, show eJ σ 21 b 0 0 = σ 77 b from if_pos hb]
theorem let_J {σ : Nat → Int → Int} {f h m : Int} (hf : 0 ≤ f ∧ f < 4) (hh : 0 ≤ h ∧ h < 6) (hm : 0 ≤ m) : letE (eJ σ) f h m = if m < dwJ σ then (leF (σ 73 h) (σ 70 h) (σ 71 h) (rwJ σ h) f h m (σ 76 f) 0).1 else 0 := by
  have ht := tmodB (a := m) (b := 4) (by decide)
  unfold letE
  rw [show eJ σ 5 h 0 0 = σ 73 h from if_pos hh, show eJ σ 3 h 0 0 = σ 70 h from if_pos hh, show eJ σ 4 h 0 0 = σ 71 h from if_pos hh, show eJ σ 8 f 0 0 = σ 76 f from if_pos hf, le_cg (rw := fun p => eJ σ 6 h p 0) (rw' := rwJ σ h) (if_pos ⟨hh, by omega, by omega⟩)]
  rfl
theorem sa_frJ {σ τ : Nat → Int → Int} (e : ∀ k j, kJ k j → τ k j = σ k j) : frJ τ = frJ σ := by
  funext f h g
  unfold frJ
  rw [sa_cg e, e 70 h (by unfold kJ; omega), e 71 h (by unfold kJ; omega), e 76 f (by unfold kJ; omega)]
