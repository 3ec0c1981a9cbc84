/-! the reference's reading, sign by sign, against the descent -/
theorem upF {σ : Nat → Int → Int} {k k' : Nat} {j x : Int} (h : k' ≠ k) : up σ k j x k' = σ k' := funext fun _ => up_cell h
def ST (σ : Nat → Int → Int) : List Int := stkF (σ 85) (σ 69 24).toNat
def SG (a : Int) (σ : Nat → Int → Int) : List Int := sgL (σ 84) a (σ 69 23)
theorem ST_cong {σ σ' : Nat → Int → Int} (e85 : ∀ j, σ' 85 j = σ 85 j) (e24 : σ' 69 24 = σ 69 24) : ST σ' = ST σ := by
  unfold ST
  rw [e24]
  exact stkF_cong (fun i _ => e85 _)
theorem SG_cong {a : Int} {σ σ' : Nat → Int → Int} (e84 : ∀ j, σ' 84 j = σ 84 j) (e23 : σ' 69 23 = σ 69 23) : SG a σ' = SG a σ := by
  unfold SG
  rw [e23]
  exact sgL_cong (fun j _ _ => e84 j)
theorem ST_nil {σ : Nat → Int → Int} (h : σ 69 24 ≤ 0) : ST σ = [] := by
  unfold ST
  rw [show (σ 69 24).toNat = 0 by omega]; rfl
theorem ST_pop {σ σ' : Nat → Int → Int} (h : 0 < σ 69 24) (e85 : ∀ j, σ' 85 j = σ 85 j) (e24 : σ' 69 24 = σ 69 24 - 1) : ST σ = σ 85 (σ 69 24 - 1) :: ST σ' := by
  unfold ST
  rw [e24, show (σ 69 24).toNat = (σ 69 24 - 1).toNat + 1 by omega]
  show σ 85 (((σ 69 24 - 1).toNat : Nat) : Int) :: _ = _
  rw [show (((σ 69 24 - 1).toNat : Nat) : Int) = σ 69 24 - 1 by omega, stkF_cong (fun i _ => e85 _)]
theorem ST_push {σ σ' : Nat → Int → Int} {v : Int} (h : 0 ≤ σ 69 24) (e85 : ∀ j, σ' 85 j = if j = σ 69 24 then v else σ 85 j) (e24 : σ' 69 24 = σ 69 24 + 1) : ST σ' = v :: ST σ := by
  unfold ST
  rw [e24, show (σ 69 24 + 1).toNat = (σ 69 24).toNat + 1 by omega]
  show σ' 85 (((σ 69 24).toNat : Nat) : Int) :: _ = _
  rw [e85, if_pos (by omega), stkF_cong (w := σ 85) (fun i hi => by rw [e85, if_neg (by omega)])]
theorem SG_emit {a t : Int} {σ σ' : Nat → Int → Int} (h : a ≤ σ 69 23) (e84 : ∀ j, σ' 84 j = if j = σ 69 23 then t else σ 84 j) (e23 : σ' 69 23 = σ 69 23 + 1) : SG a σ' = SG a σ ++ [t] := by
  unfold SG
  rw [e23, sgL_snoc h, e84, if_pos rfl, sgL_cong (s := σ 84) (fun j _ h1 => by rw [e84, if_neg (by omega)])]
/-! the nots that are due -/
def wlI (a : Int) (σ τ : Nat → Int → Int) : Prop := ∃ k : Nat, ST σ = List.replicate k 33 ++ ST τ ∧ SG a τ = SG a σ ++ nots k ∧ τ 69 25 = σ 69 25 - (k : Int)
def wlP (a : Int) (σ τ : Nat → Int → Int) : Prop := ST τ = (ST σ).drop (whl (ST σ)) ∧ SG a τ = SG a σ ++ nots (whl (ST σ)) ∧ τ 69 25 = σ 69 25 - (whl (ST σ) : Int)
theorem wlI_0 {a : Int} {σ : Nat → Int → Int} : wlI a σ σ := ⟨0, rfl, (List.append_nil _).symm, by omega⟩
theorem rep_s {k : Nat} {x : Int} {l : List Int} : List.replicate (k + 1) x ++ l = List.replicate k x ++ (x :: l) := by
  rw [List.replicate_succ', List.append_assoc]; rfl
theorem wlI_s {a : Int} {σ τ : Nat → Int → Int} (h : wlI a σ τ) (ha : a ≤ τ 69 23) (h0 : 0 < τ 69 24) (ht : τ 85 (τ 69 24 - 1) = 33) : wlI a σ (up (up (up (up τ 84 (τ 69 23) (-33)) 69 23 (τ 69 23 + 1)) 69 24 (τ 69 24 - 1)) 69 25 (τ 69 25 - 1)) := by
  obtain ⟨k, h1, h2, h3⟩ := h
  refine ⟨k + 1, ?_, ?_, ?_⟩
  · rw [rep_s, h1, ST_pop (σ' := up (up (up (up τ 84 (τ 69 23) (-33)) 69 23 (τ 69 23 + 1)) 69 24 (τ 69 24 - 1)) 69 25 (τ 69 25 - 1)) h0 (fun j => by simp [up]) (by simp [up]), ht]
  · rw [SG_emit (σ := τ) (t := -33) ha (fun j => by simp [up]) (by simp [up]), h2, List.append_assoc]
    unfold nots
    rw [List.replicate_succ']
  · simp [up]; omega
theorem hd33_of {τ : Nat → Int → Int} (h : τ 69 24 ≤ 0 ∨ τ 85 (τ 69 24 - 1) ≠ 33) : hd33 (ST τ) := by
  intro x s' e
  by_cases h0 : 0 < τ 69 24
  · rw [ST_pop (σ' := up τ 69 24 (τ 69 24 - 1)) h0 (fun j => by simp [up]) (by simp [up])] at e
    have := (List.cons.inj e).1
    omega
  · rw [ST_nil (by omega)] at e; simp at e
theorem wlI_e {a : Int} {σ τ : Nat → Int → Int} (h : wlI a σ τ) (ht : τ 69 24 ≤ 0 ∨ τ 85 (τ 69 24 - 1) ≠ 33) : wlP a σ τ := by
  obtain ⟨k, h1, h2, h3⟩ := h
  have hd := hd33_of ht
  have e : whl (ST σ) = k := by rw [h1]; exact whl_k hd k
  refine ⟨?_, by rw [e]; exact h2, by rw [e]; exact h3⟩
  rw [e, h1, drop_k]
/-! what is settled -/
def stI (a s : Int) (σ τ : Nat → Int → Int) : Prop := ∃ l, (stl s (ST σ)).1 = l ++ (stl s (ST τ)).1 ∧ (stl s (ST σ)).2 = (stl s (ST τ)).2 ∧ SG a τ = SG a σ ++ l
def stP (a s : Int) (σ τ : Nat → Int → Int) : Prop := ST τ = (stl s (ST σ)).2 ∧ SG a τ = SG a σ ++ (stl s (ST σ)).1
theorem stI_0 {a s : Int} {σ : Nat → Int → Int} : stI a s σ σ := ⟨[], rfl, rfl, (List.append_nil _).symm⟩
theorem stI_s {a s : Int} {σ τ : Nat → Int → Int} (h : stI a s σ τ) (ha : a ≤ τ 69 23) (h0 : 0 < τ 69 24) (ht : τ 85 (τ 69 24 - 1) = 38 ∨ (τ 85 (τ 69 24 - 1) = 124 ∧ s ≠ 38)) : stI a s σ (up (up (up τ 69 24 (τ 69 24 - 1)) 84 (τ 69 23) (-(τ 85 (τ 69 24 - 1)))) 69 23 (τ 69 23 + 1)) := by
  obtain ⟨l, h1, h2, h3⟩ := h
  have e := ST_pop (σ' := up (up (up τ 69 24 (τ 69 24 - 1)) 84 (τ 69 23) (-(τ 85 (τ 69 24 - 1)))) 69 23 (τ 69 23 + 1)) h0 (fun j => by simp [up]) (by simp [up])
  have es : stl s (ST τ) = ((-(τ 85 (τ 69 24 - 1))) :: (stl s (ST (up (up (up τ 69 24 (τ 69 24 - 1)) 84 (τ 69 23) (-(τ 85 (τ 69 24 - 1)))) 69 23 (τ 69 23 + 1)))).1, (stl s (ST (up (up (up τ 69 24 (τ 69 24 - 1)) 84 (τ 69 23) (-(τ 85 (τ 69 24 - 1)))) 69 23 (τ 69 23 + 1)))).2) := by
    rw [e]
    exact if_pos ht
  refine ⟨l ++ [-(τ 85 (τ 69 24 - 1))], ?_, ?_, ?_⟩
  · rw [h1, es, List.append_assoc]; rfl
  · rw [h2, es]
  · rw [SG_emit (σ := τ) (t := -(τ 85 (τ 69 24 - 1))) ha (fun j => by simp [up]) (by simp [up]), h3, List.append_assoc]
theorem stI_e {a s : Int} {σ τ : Nat → Int → Int} (h : stI a s σ τ) (ht : τ 69 24 ≤ 0 ∨ ¬ (τ 85 (τ 69 24 - 1) = 38 ∨ (τ 85 (τ 69 24 - 1) = 124 ∧ s ≠ 38))) : stP a s σ τ := by
  obtain ⟨l, h1, h2, h3⟩ := h
  have es : stl s (ST τ) = ([], ST τ) := by
    by_cases h0 : 0 < τ 69 24
    · rw [ST_pop (σ' := up τ 69 24 (τ 69 24 - 1)) h0 (fun j => by simp [up]) (by simp [up])]
      exact if_neg (by omega)
    · rw [ST_nil (by omega)]; rfl
  rw [es] at h1 h2
  refine ⟨h2.symm, ?_⟩
  rw [h3, h1]; simp
/-! words -/
def tkJ (σ : Nat → Int → Int) (s r : Int) (σ' : Nat → Int → Int) : Prop := (r = 1 ∧ (σ 69 13 < σ 69 12 ∧ σ 78 (σ 69 13) = s) ∧ σ' = up σ 69 13 (σ 69 13 + 1)) ∨ (r = 0 ∧ ¬ (σ 69 13 < σ 69 12 ∧ σ 78 (σ 69 13) = s) ∧ σ' = σ)
def wfF (w : Int → Int) (u : Int) : Nat → List Int
  | 0 => [32]
  | n + 1 => w u :: wfF w (u + 1) n
def twP (σ : Nat → Int → Int) (u m r : Int) (σ' : Nat → Int → Int) : Prop := (r = 1 ∧ ∃ l, wdF (σ 78) (σ 69 12) (wfF (σ 86) u m.toNat) (σ 69 13) = .inr (σ' 69 13, l)) ∨ (r = 0 ∧ wdF (σ 78) (σ 69 12) (wfF (σ 86) u m.toNat) (σ 69 13) = .inl (σ' 69 13))
def twI (σ τ : Nat → Int → Int) (u m k : Int) : Prop := wdF (σ 78) (σ 69 12) (wfF (σ 86) u m.toNat) (σ 69 13) = wdF (σ 78) (σ 69 12) (wfF (σ 86) (u + k) (m - k).toNat) (τ 69 13)
theorem twI_0 {σ : Nat → Int → Int} {u m : Int} : twI σ σ u m 0 := by
  unfold twI
  rw [Int.add_zero, Int.sub_zero]
theorem tk_in {σ τ τ' : Nat → Int → Int} {r : Int} {c : Int} {cs : List Int} (hF : Fr jcA σ τ) (h : tkJ τ c r τ') : (r ≠ 0 → wdF (σ 78) (σ 69 12) (c :: cs) (τ 69 13) = wdF (σ 78) (σ 69 12) cs (τ' 69 13)) ∧ (r = 0 → wdF (σ 78) (σ 69 12) (c :: cs) (τ 69 13) = .inl (τ' 69 13)) := by
  rw [wd_cons]
  unfold tkJ at h
  rw [hF 69 12 rfl, hF 78 _ rfl] at h
  rcases h with ⟨a, b, e⟩ | ⟨a, b, e⟩
  · refine ⟨fun _ => ?_, fun h => by omega⟩
    rw [if_pos b, e, up_same]
  · refine ⟨fun h => absurd a h, fun _ => ?_⟩
    rw [if_neg b, e]
theorem tw_s {σ τ τ' : Nat → Int → Int} {u m k r : Int} (hF : Fr jcA σ τ) (h : twI σ τ u m k) (hk : 0 ≤ k ∧ k < m) (ht : tkJ τ (τ 86 (u + k)) r τ') : (r ≠ 0 → twI σ τ' u m (k + 1)) ∧ (r = 0 → twP σ u m 0 τ') := by
  unfold twI at h
  rw [show (m - k).toNat = (m - (k + 1)).toNat + 1 by omega] at h
  rw [hF 86 _ rfl] at ht
  have h2 := tk_in (cs := wfF (σ 86) (u + k + 1) (m - (k + 1)).toNat) hF ht
  refine ⟨fun hr => ?_, fun hr => Or.inr ⟨rfl, h.trans (h2.2 hr)⟩⟩
  unfold twI
  rw [← Int.add_assoc]
  exact h.trans (h2.1 hr)
theorem tw_e {σ τ τ' : Nat → Int → Int} {u m k r : Int} (hF : Fr jcA σ τ) (h : twI σ τ u m k) (hk : m ≤ k) (hr : 0 ≤ r ∧ r ≤ 1) (ht : tkJ τ 32 r τ') : twP σ u m r τ' := by
  unfold twI at h
  rw [show (m - k).toNat = 0 by omega] at h
  have h2 := tk_in (cs := []) hF ht
  by_cases e : r = 0
  · exact Or.inr ⟨e, h.trans (h2.2 e)⟩
  · exact Or.inl ⟨by omega, [], h.trans (h2.1 e)⟩
/-! numbers, tests -/
def tnP (f : Int → Int) (n p : Int) (r : Int) (p' d' : Int) : Prop := (r = 0 ∧ ¬ digB f n p ∧ p' = p) ∨ (r = 1 ∧ digB f n p ∧ p' = numE f n p ∧ d' = numV f n p)
def tnI (f : Int → Int) (n p q p' d' : Int) : Prop := (q = 0 ∧ p' = p ∧ d' = 0) ∨ (q = 1 ∧ p' = p + 1 ∧ d' = f p - 48) ∨ (q = 2 ∧ digB f n (p + 1) ∧ p' = p + 2 ∧ d' = (f p - 48) * 10 + (f (p + 1) - 48))
theorem tn_s {f : Int → Int} {n p q p' d' : Int} (h : tnI f n p q p' d') (hq : q < 2) (hd : p' < n ∧ 48 ≤ f p' ∧ f p' ≤ 57) : tnI f n p (q + 1) (p' + 1) (10 * d' + f p' - 48) := by
  rcases h with ⟨a, b, c⟩ | ⟨a, b, c⟩ | ⟨a, -⟩
  · subst a; subst b; subst c
    exact Or.inr (Or.inl ⟨rfl, rfl, by omega⟩)
  · subst a; subst b; subst c
    exact Or.inr (Or.inr ⟨rfl, hd, by omega, by omega⟩)
  · omega
theorem tn_e {f : Int → Int} {n p q p' d' : Int} (h : tnI f n p q p' d') (h0 : p < n ∧ 48 ≤ f p ∧ f p ≤ 57) (hq : 2 ≤ q ∨ ¬ (p' < n ∧ 48 ≤ f p' ∧ f p' ≤ 57)) : tnP f n p 1 p' d' := by
  refine Or.inr ⟨rfl, h0, ?_⟩
  unfold numE numV
  rcases h with ⟨a, b, c⟩ | ⟨a, b, c⟩ | ⟨a, d, b, c⟩
  · subst b; exact absurd h0 (hq.resolve_left (by omega))
  · subst b
    have hn : ¬ digB f n (p + 1) := hq.resolve_left (by omega)
    rw [if_neg hn, if_neg hn]
    exact ⟨rfl, c⟩
  · rw [if_pos d, if_pos d]
    exact ⟨b, c⟩
def pkE (f : Int → Int) (n p r : Int) : Prop := (p < n ∧ r = f p) ∨ (n ≤ p ∧ r = -1)
theorem pk_of {f : Int → Int} {n p r : Int} (h : pkE f n p r) : pk f n p = r := by
  unfold pk
  rcases h with ⟨a, b⟩ | ⟨a, b⟩
  · rw [if_pos a, b]
  · rw [if_neg (by omega), b]
theorem tt_1 {f : Int → Int} {n p r : Int} (h2 : pkE f n p r) (h : ltF r < 0) : tstF f n p = .inl p := by
  unfold tstF
  refine if_pos (fun ⟨a, b⟩ => ?_)
  rcases h2 with ⟨c, d⟩ | ⟨c, d⟩
  · rw [d] at h; omega
  · omega
theorem tt_h {f : Int → Int} {n p r : Int} (h2 : pkE f n p r) (h : 0 ≤ ltF r) : p < n ∧ r = f p ∧ 0 ≤ ltF (f p) := by
  rcases h2 with ⟨c, d⟩ | ⟨c, d⟩
  · subst d; exact ⟨c, rfl, h⟩
  · subst d; exact absurd h (by decide)
theorem tt_2 {f : Int → Int} {n p r r' : Int} (h2 : pkE f n p r) (h : 0 ≤ ltF r) (h26 : pkE f n (p + 1) r') (h' : ¬ (60 ≤ r' ∧ r' ≤ 62)) : tstF f n p = .inl (p + 1) := by
  obtain ⟨a, b, c⟩ := tt_h h2 h
  unfold tstF
  rw [if_neg (fun x => x ⟨a, c⟩)]
  refine if_pos (fun ⟨x, y, z⟩ => ?_)
  rcases h26 with ⟨c, d⟩ | ⟨c, d⟩ <;> omega
theorem tt_g {f : Int → Int} {n p r' : Int} (h26 : pkE f n (p + 1) r') (h' : 60 ≤ r' ∧ r' ≤ 62) : p + 1 < n ∧ r' = f (p + 1) ∧ 60 ≤ f (p + 1) ∧ f (p + 1) ≤ 62 := by
  rcases h26 with ⟨c, d⟩ | ⟨c, d⟩ <;> omega
theorem tt_3 {f : Int → Int} {n p r r' : Int} (h2 : pkE f n p r) (h : 0 ≤ ltF r) (h26 : pkE f n (p + 1) r') (h' : 60 ≤ r' ∧ r' ≤ 62) (hn : ¬ digB f n (p + 2)) : tstF f n p = .inl (p + 2) := by
  obtain ⟨a, b, c⟩ := tt_h h2 h
  obtain ⟨a', b', c'⟩ := tt_g h26 h'
  unfold tstF
  rw [if_neg (fun x => x ⟨a, c⟩), if_neg (fun x => x ⟨a', c'⟩), if_pos hn]
theorem tt_4 {f : Int → Int} {n p r r' : Int} (h2 : pkE f n p r) (h : 0 ≤ ltF r) (h26 : pkE f n (p + 1) r') (h' : 60 ≤ r' ∧ r' ≤ 62) (hn : digB f n (p + 2)) : tstF f n p = .inr (numE f n (p + 2), [1000 * ltF r + 100 * (r' - 60) + numV f n (p + 2)]) := by
  obtain ⟨a, b, c⟩ := tt_h h2 h
  obtain ⟨a', b', c'⟩ := tt_g h26 h'
  unfold tstF
  rw [if_neg (fun x => x ⟨a, c⟩), if_neg (fun x => x ⟨a', c'⟩), if_neg (fun x => x hn), b, b']
def ttP (a : Int) (σ : Nat → Int → Int) (r : Int) (σ' : Nat → Int → Int) : Prop := (r = 0 ∧ tstF (σ 78) (σ 69 12) (σ 69 13) = .inl (σ' 69 13)) ∨ (r = 1 ∧ ∃ l, tstF (σ 78) (σ 69 12) (σ 69 13) = .inr (σ' 69 13, l) ∧ SG a σ' = SG a σ ++ l ++ nots (whl (ST σ)) ∧ ST σ' = (ST σ).drop (whl (ST σ)) ∧ σ' 69 25 = σ 69 25 - (whl (ST σ) : Int))
/-- a test was read: its sign, the nots that are due -/
theorem tt_ok {a t : Int} {σ τ τ' : Nat → Int → Int} (ha : a ≤ σ 69 23) (hF : Fr jcD σ τ) (ht : tstF (σ 78) (σ 69 12) (σ 69 13) = .inr (τ 69 13, [t])) (hw : wlP a (up (up τ 84 (τ 69 23) t) 69 23 (τ 69 23 + 1)) τ') (e13 : τ' 69 13 = τ 69 13) : ttP a σ 1 τ' := by
  have e23 : τ 69 23 = σ 69 23 := hF 69 23 rfl
  have es : ST (up (up τ 84 (τ 69 23) t) 69 23 (τ 69 23 + 1)) = ST σ := ST_cong (fun j => by simp [up]; exact hF 85 j rfl) (by simp [up]; exact hF 69 24 rfl)
  have eg : SG a (up (up τ 84 (τ 69 23) t) 69 23 (τ 69 23 + 1)) = SG a σ ++ [t] := SG_emit ha (fun j => by simp [up, e23]; split; rfl; exact hF 84 j rfl) (by simp [up, e23])
  unfold wlP at hw
  rw [es, eg] at hw
  obtain ⟨h1, h2, h3⟩ := hw
  refine Or.inr ⟨rfl, [t], by rw [e13]; exact ht, h2, h1, ?_⟩
  rw [h3]
  simp [up]
  rw [hF 69 25 rfl]
/-! an expression: the machine of the descent's file, told by the cells -/
def mcF (a : Int) (τ : Nat → Int → Int) (w : Int) : MC := (decide (w = 1), τ 69 13, ST τ, τ 69 25, SG a τ)
def ME (f : Int → Int) (n : Int) (c0 c : MC) : Prop := ∀ r, Rch f n c r → Rch f n c0 r
theorem me_init {f : Int → Int} {n : Int} {σ : Nat → Int → Int} {c : Int} : ME f n (true, σ 69 13, [], 0, []) (mcF (σ 69 23) (up (up (up σ 69 24 0) 69 25 0) 82 c (σ 69 23)) 1) := by
  have e1 : ST (up (up (up σ 69 24 0) 69 25 0) 82 c (σ 69 23)) = [] := ST_nil (by simp [up])
  have e2 : SG (σ 69 23) (up (up (up σ 69 24 0) 69 25 0) 82 c (σ 69 23)) = [] := by
    unfold SG
    rw [show (up (up (up σ 69 24 0) 69 25 0) 82 c (σ 69 23)) 69 23 = σ 69 23 by simp [up]]
    exact sgL_nil
  have e : mcF (σ 69 23) (up (up (up σ 69 24 0) 69 25 0) 82 c (σ 69 23)) 1 = (true, σ 69 13, [], 0, []) := by
    unfold mcF
    rw [e1, e2]
    simp [up]
  rw [e]
  exact fun r h => h
theorem me_openb {f : Int → Int} {n a b : Int} {c0 : MC} {τ : Nat → Int → Int} (h : ME f n c0 (mcF a τ 1)) (hp : pk f n (τ 69 13) = b) (hb : b = 33 ∨ b = 40) (h4 : τ 69 25 = 4) : Rch f n c0 (.inl (τ 69 13)) := by
  refine h _ (rch_l ?_)
  unfold stp mcF
  simp only [decide_true, if_true]
  rw [if_pos (by rw [hp]; exact hb), if_pos h4]
theorem me_open {f : Int → Int} {n a b : Int} {c0 : MC} {τ : Nat → Int → Int} (h : ME f n c0 (mcF a τ 1)) (h0 : 0 ≤ τ 69 24) (hp : pk f n (τ 69 13) = b) (hb : b = 33 ∨ b = 40) (h4 : τ 69 25 ≠ 4) : ME f n c0 (mcF a (up (up (up (up τ 69 25 (τ 69 25 + 1)) 85 (τ 69 24) b) 69 24 (τ 69 24 + 1)) 69 13 (τ 69 13 + 1)) 1) := by
  have e1 := ST_push (σ := τ) (σ' := up (up (up (up τ 69 25 (τ 69 25 + 1)) 85 (τ 69 24) b) 69 24 (τ 69 24 + 1)) 69 13 (τ 69 13 + 1)) (v := b) h0 (fun j => by simp [up]) (by simp [up])
  have e2 : SG a (up (up (up (up τ 69 25 (τ 69 25 + 1)) 85 (τ 69 24) b) 69 24 (τ 69 24 + 1)) 69 13 (τ 69 13 + 1)) = SG a τ := SG_cong (fun j => by simp [up]) (by simp [up])
  refine fun r hr => h r (rch_r (c' := mcF a (up (up (up (up τ 69 25 (τ 69 25 + 1)) 85 (τ 69 24) b) 69 24 (τ 69 24 + 1)) 69 13 (τ 69 13 + 1)) 1) ?_ hr)
  unfold stp mcF
  rw [e1, e2]
  simp only [decide_true, if_true]
  rw [if_pos (by rw [hp]; exact hb), if_neg h4, hp]
  simp [up]
theorem me_testb {f : Int → Int} {n a b : Int} {c0 : MC} {τ τ' : Nat → Int → Int} (h : ME f n c0 (mcF a τ 1)) (e78 : τ 78 = f) (e12 : τ 69 12 = n) (hp : pk f n (τ 69 13) = b) (hb : ¬ (b = 33 ∨ b = 40)) (ht : ttP a τ 0 τ') : Rch f n c0 (.inl (τ' 69 13)) := by
  rcases ht with ⟨-, t⟩ | ⟨t, -⟩
  · rw [e78, e12] at t
    refine h _ (rch_l ?_)
    unfold stp mcF
    simp only [decide_true, if_true]
    rw [if_neg (by rw [hp]; exact hb), t]
  · omega
theorem me_test {f : Int → Int} {n a b r : Int} {c0 : MC} {τ τ' : Nat → Int → Int} (h : ME f n c0 (mcF a τ 1)) (e78 : τ 78 = f) (e12 : τ 69 12 = n) (hp : pk f n (τ 69 13) = b) (hb : ¬ (b = 33 ∨ b = 40)) (hr : r ≠ 0) (ht : ttP a τ r τ') : ME f n c0 (mcF a τ' 0) := by
  rcases ht with ⟨t, -⟩ | ⟨-, l, t, t1, t2, t3⟩
  · exact absurd t hr
  · rw [e78, e12] at t
    refine fun r hr => h r (rch_r (c' := mcF a τ' 0) ?_ hr)
    unfold stp mcF
    simp only [decide_true, if_true]
    rw [if_neg (by rw [hp]; exact hb), t, t1, t2, t3]
    simp
theorem me_join {f : Int → Int} {n a b : Int} {c0 : MC} {τ τ' : Nat → Int → Int} (h : ME f n c0 (mcF a τ 0)) (hp : pk f n (τ 69 13) = b) (hb : b = 38 ∨ b = 124) (ht : stP a b τ τ') (h0 : 0 ≤ τ' 69 24) (e13 : τ' 69 13 = τ 69 13) (e25 : τ' 69 25 = τ 69 25) : ME f n c0 (mcF a (up (up (up τ' 85 (τ' 69 24) b) 69 24 (τ' 69 24 + 1)) 69 13 (τ' 69 13 + 1)) 1) := by
  have e1 := ST_push (σ := τ') (σ' := up (up (up τ' 85 (τ' 69 24) b) 69 24 (τ' 69 24 + 1)) 69 13 (τ' 69 13 + 1)) (v := b) h0 (fun j => by simp [up]) (by simp [up])
  have e2 : SG a (up (up (up τ' 85 (τ' 69 24) b) 69 24 (τ' 69 24 + 1)) 69 13 (τ' 69 13 + 1)) = SG a τ' := SG_cong (fun j => by simp [up]) (by simp [up])
  obtain ⟨t1, t2⟩ := ht
  refine fun r hr => h r (rch_r (c' := mcF a (up (up (up τ' 85 (τ' 69 24) b) 69 24 (τ' 69 24 + 1)) 69 13 (τ' 69 13 + 1)) 1) ?_ hr)
  have e0 : decide ((0 : Int) = 1) = false := rfl
  unfold stp mcF
  rw [e1, e2, e0]
  simp only [Bool.false_eq_true, if_false]
  rw [if_pos (by rw [hp]; exact hb), hp, t1, t2]
  simp [up, e13, e25]
theorem me_end {f : Int → Int} {n a b : Int} {c0 : MC} {τ τ' : Nat → Int → Int} (h : ME f n c0 (mcF a τ 0)) (hp : pk f n (τ 69 13) = b) (hb : ¬ (b = 38 ∨ b = 124)) (ht : stP a 124 τ τ') (h0 : τ' 69 24 ≤ 0) : Rch f n c0 (.inr (τ 69 13, SG a τ')) := by
  obtain ⟨t1, t2⟩ := ht
  rw [ST_nil h0] at t1
  have e0 : decide ((0 : Int) = 1) = false := rfl
  refine h _ (rch_l ?_)
  unfold stp mcF
  rw [e0]
  simp only [Bool.false_eq_true, if_false]
  rw [if_neg (by rw [hp]; exact hb), ← t1, t2]
theorem me_endb {f : Int → Int} {n a b : Int} {c0 : MC} {τ τ' : Nat → Int → Int} (h : ME f n c0 (mcF a τ 0)) (hp : pk f n (τ 69 13) = b) (hb : ¬ (b = 38 ∨ b = 124)) (ht : stP a 124 τ τ') (h0 : 0 < τ' 69 24) (h41 : b ≠ 41) : Rch f n c0 (.inl (τ 69 13)) := by
  obtain ⟨t1, t2⟩ := ht
  rw [ST_pop (σ' := up τ' 69 24 (τ' 69 24 - 1)) h0 (fun j => by simp [up]) (by simp [up])] at t1
  have e0 : decide ((0 : Int) = 1) = false := rfl
  refine h _ (rch_l ?_)
  unfold stp mcF
  rw [e0]
  simp only [Bool.false_eq_true, if_false]
  rw [if_neg (by rw [hp]; exact hb), ← t1]
  simp only []
  rw [if_pos (by rw [hp]; exact h41)]
theorem me_close {f : Int → Int} {n a b c x : Int} {c0 : MC} {τ τ' τ2 : Nat → Int → Int} (h : ME f n c0 (mcF a τ 0)) (hp : pk f n (τ 69 13) = b) (hb : ¬ (b = 38 ∨ b = 124)) (ht : stP a 124 τ τ') (h0 : 0 < τ' 69 24) (h41 : b = 41) (e13 : τ' 69 13 = τ 69 13) (e25 : τ' 69 25 = τ 69 25) (hw : wlP a (up (up (up (up τ' 83 c x) 69 24 (τ' 69 24 - 1)) 69 25 (τ' 69 25 - 1)) 69 13 (τ' 69 13 + 1)) τ2) (f13 : τ2 69 13 = τ' 69 13 + 1) : ME f n c0 (mcF a τ2 0) := by
  obtain ⟨t1, t2⟩ := ht
  have e1 := ST_pop (σ' := up (up (up (up τ' 83 c x) 69 24 (τ' 69 24 - 1)) 69 25 (τ' 69 25 - 1)) 69 13 (τ' 69 13 + 1)) h0 (fun j => by simp [up]) (by simp [up])
  have e2 : SG a (up (up (up (up τ' 83 c x) 69 24 (τ' 69 24 - 1)) 69 25 (τ' 69 25 - 1)) 69 13 (τ' 69 13 + 1)) = SG a τ' := SG_cong (fun j => by simp [up]) (by simp [up])
  obtain ⟨w1, w2, w3⟩ := hw
  rw [e2] at w2
  have w3' : τ2 69 25 = τ' 69 25 - 1 - (whl (ST (up (up (up (up τ' 83 c x) 69 24 (τ' 69 24 - 1)) 69 25 (τ' 69 25 - 1)) 69 13 (τ' 69 13 + 1))) : Int) := by
    rw [w3]; simp [up]
  rw [e1] at t1
  have e0 : decide ((0 : Int) = 1) = false := rfl
  refine fun r hr => h r (rch_r (c' := mcF a τ2 0) ?_ hr)
  unfold stp mcF
  rw [e0]
  simp only [Bool.false_eq_true, if_false]
  rw [if_neg (by rw [hp]; exact hb), ← t1]
  simp only []
  rw [if_neg (by rw [hp]; exact fun h => h h41), w1, w2, w3', f13, e13, e25, t2]
def teP (σ : Nat → Int → Int) (c r : Int) (σ' : Nat → Int → Int) : Prop := (r = 0 ∧ Rch (σ 78) (σ 69 12) (true, σ 69 13, [], 0, []) (.inl (σ' 69 13))) ∨ (r = 1 ∧ Rch (σ 78) (σ 69 12) (true, σ 69 13, [], 0, []) (.inr (σ' 69 13, sgL (σ' 84) (σ 69 23) (σ' 83 c))))
/-! a clause -/
def LJ (σ : Nat → Int → Int) : Prop := ∀ j, 0 ≤ j → j < 13 → σ 86 j = ([99, 111, 117, 110, 116, 119, 97, 108, 107, 100, 97, 119, 110] : List Int).getD j.toNat 0
def hwF (f : Int → Int) (n p : Int) : Int := if p < n ∧ f p = 99 then 0 else if p < n ∧ f p = 119 then 1 else 2
def wdlF (w : Int) : List Int := if w = 0 then [99, 111, 117, 110, 116, 32] else if w = 1 then [119, 97, 108, 107, 32] else [100, 97, 119, 110, 32]
def hdP (σ : Nat → Int → Int) (c r : Int) (σ' : Nat → Int → Int) : Prop := σ' 80 c = hwF (σ 78) (σ 69 12) (σ 69 13) ∧ ((r = 1 ∧ ∃ l, wdF (σ 78) (σ 69 12) (wdlF (hwF (σ 78) (σ 69 12) (σ 69 13))) (σ 69 13) = .inr (σ' 69 13, l)) ∨ (r = 0 ∧ wdF (σ 78) (σ 69 12) (wdlF (hwF (σ 78) (σ 69 12) (σ 69 13))) (σ 69 13) = .inl (σ' 69 13)))
theorem wf_0 {σ : Nat → Int → Int} (h : LJ σ) : wfF (σ 86) 0 5 = [99, 111, 117, 110, 116, 32] := by
  show [σ 86 0, σ 86 (0 + 1), σ 86 (0 + 1 + 1), σ 86 (0 + 1 + 1 + 1), σ 86 (0 + 1 + 1 + 1 + 1), 32] = _
  rw [h 0 (by omega) (by omega), h (0 + 1) (by omega) (by omega), h (0 + 1 + 1) (by omega) (by omega), h (0 + 1 + 1 + 1) (by omega) (by omega), h (0 + 1 + 1 + 1 + 1) (by omega) (by omega)]
  rfl
theorem wf_1 {σ : Nat → Int → Int} (h : LJ σ) : wfF (σ 86) 5 4 = [119, 97, 108, 107, 32] := by
  show [σ 86 5, σ 86 (5 + 1), σ 86 (5 + 1 + 1), σ 86 (5 + 1 + 1 + 1), 32] = _
  rw [h 5 (by omega) (by omega), h (5 + 1) (by omega) (by omega), h (5 + 1 + 1) (by omega) (by omega), h (5 + 1 + 1 + 1) (by omega) (by omega)]
  rfl
theorem wf_2 {σ : Nat → Int → Int} (h : LJ σ) : wfF (σ 86) 9 4 = [100, 97, 119, 110, 32] := by
  show [σ 86 9, σ 86 (9 + 1), σ 86 (9 + 1 + 1), σ 86 (9 + 1 + 1 + 1), 32] = _
  rw [h 9 (by omega) (by omega), h (9 + 1) (by omega) (by omega), h (9 + 1 + 1) (by omega) (by omega), h (9 + 1 + 1 + 1) (by omega) (by omega)]
  rfl
theorem hd_ok {σ τ τ' : Nat → Int → Int} {c u m w r : Int} (e78 : τ 78 = σ 78) (e12 : τ 69 12 = σ 69 12) (e13 : τ 69 13 = σ 69 13) (hw : hwF (σ 78) (σ 69 12) (σ 69 13) = w) (h : twP τ u m r τ') (hl : wfF (τ 86) u m.toNat = wdlF w) (h80 : τ' 80 c = w) : hdP σ c r τ' := by
  unfold twP at h
  rw [e78, e12, e13, hl] at h
  unfold hdP
  rw [hw]
  exact ⟨h80, h⟩
theorem hw_0 {f : Int → Int} {n p r : Int} (h : pkE f n p r) (hr : r = 99) : hwF f n p = 0 := by
  refine if_pos ?_
  rcases h with ⟨a, b⟩ | ⟨a, b⟩ <;> omega
theorem hw_1 {f : Int → Int} {n p r : Int} (h : pkE f n p r) (hr : r = 119) : hwF f n p = 1 := by
  unfold hwF
  rw [if_neg (by rcases h with ⟨a, b⟩ | ⟨a, b⟩ <;> omega), if_pos (by rcases h with ⟨a, b⟩ | ⟨a, b⟩ <;> omega)]
theorem hw_2 {f : Int → Int} {n p r : Int} (h : pkE f n p r) (h1 : r ≠ 99) (h2 : r ≠ 119) : hwF f n p = 2 := by
  unfold hwF
  rw [if_neg (by rcases h with ⟨a, b⟩ | ⟨a, b⟩ <;> omega), if_neg (by rcases h with ⟨a, b⟩ | ⟨a, b⟩ <;> omega)]
theorem cl_hd {f : Int → Int} {n p : Int} : clF f n p = match wdF f n (wdlF (hwF f n p)) p with
    | .inl q => .inl q
    | .inr (q, _) => cl2F f n (hwF f n p) q := by
  unfold clF hwF wdlF
  by_cases h1 : p < n ∧ f p = 99
  · rw [if_pos h1, if_pos h1, if_pos rfl, wd_cons (c := 99), if_pos h1]
    rcases wdF f n [111, 117, 110, 116, 32] (p + 1) with _ | ⟨_, _⟩ <;> rfl
  · rw [if_neg h1, if_neg h1]
    by_cases h2 : p < n ∧ f p = 119
    · rw [if_pos h2, if_pos h2, if_neg (by decide), if_pos rfl, wd_cons (c := 119), if_pos h2]
      rcases wdF f n [97, 108, 107, 32] (p + 1) with _ | ⟨_, _⟩ <;> rfl
    · rw [if_neg h2, if_neg h2, if_neg (by decide), if_neg (by decide)]
      rcases wdF f n [100, 97, 119, 110, 32] p with _ | ⟨_, _⟩ <;> rfl
theorem cl_hb {σ τ : Nat → Int → Int} {c : Int} (h : hdP σ c 0 τ) : clF (σ 78) (σ 69 12) (σ 69 13) = .inl (τ 69 13) := by
  rcases h.2 with ⟨a, -⟩ | ⟨-, a⟩
  · omega
  · rw [cl_hd, a]
theorem cl_ho {σ τ : Nat → Int → Int} {c r : Int} (h : hdP σ c r τ) (hr : r ≠ 0) : clF (σ 78) (σ 69 12) (σ 69 13) = cl2F (σ 78) (σ 69 12) (τ 80 c) (τ 69 13) ∧ (σ 69 13 ≤ σ 69 12 → σ 69 13 + 1 ≤ τ 69 13 ∧ τ 69 13 ≤ σ 69 12) ∧ (τ 80 c = 0 ∨ τ 80 c = 1 ∨ τ 80 c = 2) := by
  obtain ⟨h80, h⟩ := h
  rcases h with ⟨-, l, a⟩ | ⟨a, -⟩
  · refine ⟨by rw [cl_hd, a, h80], fun hn => ?_, ?_⟩
    · have := wd_len _ _ _ _ hn a
      have hl : 1 ≤ (wdlF (hwF (σ 78) (σ 69 12) (σ 69 13))).length := by
        unfold wdlF
        split
        · decide
        · split <;> decide
      omega
    · rw [h80]; unfold hwF; split
      · exact Or.inl rfl
      · split
        · exact Or.inr (Or.inl rfl)
        · exact Or.inr (Or.inr rfl)
  · exact absurd a hr
def tcP (σ : Nat → Int → Int) (c r : Int) (σ' : Nat → Int → Int) : Prop := (r = 0 ∧ clF (σ 78) (σ 69 12) (σ 69 13) = .inl (σ' 69 13)) ∨ (r = 1 ∧ ∃ l, clF (σ 78) (σ 69 12) (σ 69 13) = .inr (σ' 69 13, σ' 80 c, σ' 81 c, l) ∧ (σ' 80 c = 2 ∨ l = sgL (σ' 84) (σ' 82 c) (σ' 83 c)))
theorem tc_nb {σ τ : Nat → Int → Int} {c r p' d' : Int} (h : hdP σ c r τ) (hr : r ≠ 0) (hn : tnP (σ 78) (σ 69 12) (τ 69 13) 0 p' d') : clF (σ 78) (σ 69 12) (σ 69 13) = .inl p' := by
  rw [(cl_ho h hr).1]
  unfold cl2F
  rcases hn with ⟨-, a, b⟩ | ⟨a, -⟩
  · rw [if_pos a, b]
  · omega
theorem tc_dw {σ τ : Nat → Int → Int} {c r r' p' d' : Int} (h : hdP σ c r τ) (hr : r ≠ 0) (hn : tnP (σ 78) (σ 69 12) (τ 69 13) r' p' d') (hr' : r' ≠ 0) (h2 : τ 80 c = 2) : clF (σ 78) (σ 69 12) (σ 69 13) = .inr (p', 2, d', []) := by
  rw [(cl_ho h hr).1]
  unfold cl2F
  rcases hn with ⟨a, -⟩ | ⟨-, a, b, d⟩
  · exact absurd a hr'
  · rw [if_neg (fun h => h a), if_pos h2, b, d]
theorem tc_tb {σ τ : Nat → Int → Int} {c r r' p' d' : Int} (h : hdP σ c r τ) (hr : r ≠ 0) (hn : tnP (σ 78) (σ 69 12) (τ 69 13) r' p' d') (hr' : r' ≠ 0) (h2 : τ 80 c ≠ 2) (ht : ¬ (p' < σ 69 12 ∧ σ 78 p' = 32)) : clF (σ 78) (σ 69 12) (σ 69 13) = .inl p' := by
  rw [(cl_ho h hr).1]
  unfold cl2F
  rcases hn with ⟨a, -⟩ | ⟨-, a, b, d⟩
  · exact absurd a hr'
  · rw [← b, if_neg (fun h => h a), if_neg h2, if_pos ht]
theorem tc_e {σ τ : Nat → Int → Int} {c r r' p' d' : Int} {E : PR} (h : hdP σ c r τ) (hr : r ≠ 0) (hn : tnP (σ 78) (σ 69 12) (τ 69 13) r' p' d') (hr' : r' ≠ 0) (h2 : τ 80 c ≠ 2) (ht : p' < σ 69 12 ∧ σ 78 p' = 32) (h0 : 0 ≤ σ 69 13 ∧ σ 69 13 ≤ σ 69 12 ∧ σ 69 12 ≤ 100) (hE : Rch (σ 78) (σ 69 12) (true, p' + 1, [], 0, []) E) : clF (σ 78) (σ 69 12) (σ 69 13) = match E with
    | .inl q => .inl q
    | .inr (q, l) => .inr (q, τ 80 c, d', l) := by
  obtain ⟨ho, hb, -⟩ := cl_ho h hr
  have hb := hb h0.2.1
  rw [ho]
  unfold cl2F
  rcases hn with ⟨a, -⟩ | ⟨-, a, b, d⟩
  · exact absurd a hr'
  · have hl := num_le a
    rw [← b, if_neg (fun h => h a), if_neg h2, if_neg (fun h => h ht), d]
    have hx := (ex_ok (f := σ 78) (n := σ 69 12) h0.2.2 (p := p' + 1) (by omega)).resolve_right (by omega)
    rw [rch_det hx hE]
    rcases E with _ | ⟨_, _⟩ <;> rfl
/-! a whole text -/
def TJ (σ : Nat → Int → Int) (f : Int) (L : List (Int × Int × List Int)) : Prop := ∀ (i : Nat) (w v : Int) (l : List Int), L[i]? = some (w, v, l) → σ 80 (10 * f + (i : Int)) = w ∧ σ 81 (10 * f + (i : Int)) = v ∧ (w = 2 ∨ l = sgL (σ 84) (σ 82 (10 * f + (i : Int))) (σ 83 (10 * f + (i : Int))))
def GX (σ τ : Nat → Int → Int) (f n : Int) : Prop := ∃ L0, txF (σ 78) (σ 69 12) 10 0 = preT L0 (txF (σ 78) (σ 69 12) (10 - n).toNat (τ 69 13)) ∧ (L0.length : Int) = n ∧ TJ τ f L0
/-- behind a clause -/
def GY (σ τ : Nat → Int → Int) (f n : Int) : Prop := ∃ L0, txF (σ 78) (σ 69 12) 10 0 = preT L0 (cnF (σ 78) (σ 69 12) (10 - n).toNat (τ 69 13)) ∧ (L0.length : Int) = n ∧ TJ τ f L0
def gtP (σ : Nat → Int → Int) (f r : Int) (σ' : Nat → Int → Int) : Prop := (r = 0 ∧ txF (σ 78) (σ 69 12) 10 0 = .inl (σ' 69 13)) ∨ (r = 1 ∧ ∃ L, txF (σ 78) (σ 69 12) 10 0 = .inr L ∧ (L.length : Int) = σ' 79 f ∧ TJ σ' f L)
theorem TJ_cong {σ σ' : Nat → Int → Int} {f : Int} {L : List (Int × Int × List Int)} (h : TJ σ f L) (e80 : ∀ j, σ' 80 j = σ 80 j) (e81 : ∀ j, σ' 81 j = σ 81 j) (e82 : ∀ j, σ' 82 j = σ 82 j) (e83 : ∀ j, σ' 83 j = σ 83 j) (e84 : ∀ j, σ' 84 j = σ 84 j) : TJ σ' f L := by
  intro i w v l hi
  obtain ⟨a, b, c⟩ := h i w v l hi
  rw [e80, e81, e82, e83]
  exact ⟨a, b, c.imp id (fun e => by rw [e]; exact (sgL_cong (fun j _ _ => e84 j)).symm)⟩
theorem GX_0 {σ τ : Nat → Int → Int} {f : Int} (h : τ 69 13 = 0) : GX σ τ f 0 := by
  refine ⟨[], ?_, rfl, fun i w v l hi => by simp at hi⟩
  rw [h, preT_nil]; rfl
theorem GX_b {σ τ τ' : Nat → Int → Int} {f n : Int} {c : Int} (h : GX σ τ f n) (hn : 0 ≤ n ∧ n ≤ 9) (e78 : τ 78 = σ 78) (e12 : τ 69 12 = σ 69 12) (hc : tcP τ c 0 τ') : txF (σ 78) (σ 69 12) 10 0 = .inl (τ' 69 13) := by
  obtain ⟨L0, h1, h2, h3⟩ := h
  rcases hc with ⟨-, a⟩ | ⟨a, -⟩
  · rw [e78, e12] at a
    rw [h1, show (10 - n).toNat = (10 - (n + 1)).toNat + 1 by omega, tx_bad a]
    rfl
  · omega
theorem GX_s {σ τ τ' : Nat → Int → Int} {f n r : Int} (h : GX σ τ f n) (hg : GI σ τ f n) (hn : 0 ≤ n ∧ n ≤ 9) (e78 : τ 78 = σ 78) (e12 : τ 69 12 = σ 69 12) (hr : r ≠ 0) (hc : tcP τ (10 * f + n) r τ') (hk : ∀ j, j < τ 69 23 → τ' 84 j = τ 84 j) (ho : ∀ j, j ≠ 10 * f + n → τ' 80 j = τ 80 j ∧ τ' 82 j = τ 82 j ∧ τ' 83 j = τ 83 j) (h81 : ∀ j, j ≠ 10 * f + n → τ' 81 j = τ 81 j) : GY σ τ' f (n + 1) := by
  obtain ⟨L0, h1, h2, h3⟩ := h
  rcases hc with ⟨a, -⟩ | ⟨-, l, a, b⟩
  · exact absurd a hr
  · rw [e78, e12] at a
    rw [show (10 - n).toNat = (10 - (n + 1)).toNat + 1 by omega, tx_ok a, preT_app] at h1
    refine ⟨_, h1, by rw [List.length_append]; simp; omega, ?_⟩
    intro i w v l' hi
    by_cases hl : i < L0.length
    · rw [List.getElem?_append_left hl] at hi
      obtain ⟨x, y, z⟩ := h3 i w v l' hi
      obtain ⟨o1, o2, o3⟩ := ho (10 * f + (i : Int)) (by omega)
      rw [o1, o2, o3, h81 _ (by omega)]
      refine ⟨x, y, ?_⟩
      rcases z with z | z
      · exact Or.inl z
      · by_cases hw : w = 2
        · exact Or.inl hw
        · have hq := (hg.2.1 (10 * f + (i : Int)) (by omega) (by omega) (by rw [x]; exact hw)).2
          exact Or.inr (by rw [z]; exact (sgL_cong (fun j _ j1 => hk j (by omega))).symm)
    · have hi2 : i = L0.length := by
        have := (List.getElem?_eq_some_iff.mp hi).1
        rw [List.length_append] at this
        simp at this; omega
      subst hi2
      rw [List.getElem?_append_right (Nat.le_refl _)] at hi
      simp at hi
      obtain ⟨rfl, rfl, rfl⟩ := hi
      rw [show 10 * f + ((L0.length : Nat) : Int) = 10 * f + n by omega]
      exact ⟨rfl, rfl, b⟩
theorem GY_cong {σ τ τ' : Nat → Int → Int} {f n : Int} (h : GY σ τ f n) (e13 : τ' 69 13 = τ 69 13) (e80 : ∀ j, τ' 80 j = τ 80 j) (e81 : ∀ j, τ' 81 j = τ 81 j) (e82 : ∀ j, τ' 82 j = τ 82 j) (e83 : ∀ j, τ' 83 j = τ 83 j) (e84 : ∀ j, τ' 84 j = τ 84 j) : GY σ τ' f n := by
  obtain ⟨L0, h1, h2, h3⟩ := h
  exact ⟨L0, by rw [e13]; exact h1, h2, TJ_cong h3 e80 e81 e82 e83 e84⟩
theorem GY_end {σ τ : Nat → Int → Int} {f n : Int} (h : GY σ τ f n) (ha : τ 69 13 = τ 69 12) (e12 : τ 69 12 = σ 69 12) (e79 : τ 79 f = n) : gtP σ f 1 τ := by
  obtain ⟨L0, h1, h2, h3⟩ := h
  unfold cnF at h1
  rw [if_pos (by omega)] at h1
  simp only [preT, List.append_nil] at h1
  exact Or.inr ⟨rfl, L0, h1, by omega, h3⟩
theorem GY_bad {σ τ : Nat → Int → Int} {f n : Int} (h : GY σ τ f n) (hn : 0 ≤ n ∧ n ≤ 10) (e78 : τ 78 = σ 78) (e12 : τ 69 12 = σ 69 12) (hle : τ 69 13 ≤ τ 69 12) (ha : τ 69 13 ≠ τ 69 12) (hb : n = 10 ∨ ¬ (τ 69 13 < τ 69 12 ∧ τ 78 (τ 69 13) = 59)) : gtP σ f 0 τ := by
  obtain ⟨L0, h1, h2, h3⟩ := h
  unfold cnF at h1
  rw [if_neg (by omega), if_pos (by rcases hb with hb | hb; exact Or.inl (by omega); rw [e78] at hb; exact Or.inr (fun h => hb ⟨by omega, h⟩))] at h1
  exact Or.inl ⟨rfl, h1⟩
theorem GY_go {σ τ τ' : Nat → Int → Int} {f n r : Int} (h : GY σ τ f n) (hn : 0 ≤ n ∧ n ≤ 9) (e78 : τ 78 = σ 78) (e12 : τ 69 12 = σ 69 12) (hr : r ≠ 0) (ht : tkJ τ 59 r τ') : GX σ τ' f n := by
  obtain ⟨L0, h1, h2, h3⟩ := h
  rcases ht with ⟨-, a, b⟩ | ⟨a, -⟩
  · rw [e78, e12] at a
    unfold cnF at h1
    rw [if_neg (by omega), if_neg (by intro h; rcases h with h | h; omega; exact h a.2)] at h1
    refine ⟨L0, ?_, h2, ?_⟩
    · rw [b, up_same]; exact h1
    · rw [b]; exact TJ_cong h3 (fun j => up_cell (by decide)) (fun j => up_cell (by decide)) (fun j => up_cell (by decide)) (fun j => up_cell (by decide)) (fun j => up_cell (by decide))
  · exact absurd a hr
def townJ (σ : Nat → Int → Int) (r : Int) (σ' : Nat → Int → Int) : Prop := (6 ≤ σ 69 10 ∧ r = -4 ∧ σ' = σ) ∨ (σ 69 10 < 6 ∧ σ' 69 12 = 0 ∧ KB σ σ' (σ 69 10) ∧ (∀ j, j < 10 * σ 69 10 → σ' 81 j = σ 81 j) ∧
  ((∃ p, txF (σ 78) (σ 69 12) 10 0 = .inl p ∧ r = -10 - p ∧ σ' 69 10 = σ 69 10 ∧ σ' 69 11 = σ 69 11) ∨
   (∃ L, txF (σ 78) (σ 69 12) 10 0 = .inr L ∧ r = σ 69 10 ∧ σ' 69 10 = σ 69 10 + 1 ∧ σ' 69 11 = σ 69 10 ∧ (L.length : Int) = σ' 79 (σ 69 10) ∧ TJ σ' (σ 69 10) L)))
theorem tn_0 {f : Int → Int} {n p r p' d' : Int} (h : tnP f n p r p' d') (hr : r = 0) : ¬ digB f n p ∧ p' = p := by
  rcases h with ⟨-, a, b⟩ | ⟨a, -⟩
  · exact ⟨a, b⟩
  · omega
theorem tn_1 {f : Int → Int} {n p r p' d' : Int} (h : tnP f n p r p' d') (hr : r ≠ 0) : digB f n p ∧ p' = numE f n p ∧ d' = numV f n p := by
  rcases h with ⟨a, -⟩ | ⟨-, a⟩
  · exact absurd a hr
  · exact a
theorem LJ_fr {F : Nat → Int → Bool} {σ τ : Nat → Int → Int} (h : LJ σ) (hF : Fr F σ τ) (h86 : ∀ j, F 86 j = false) : LJ τ := fun j h0 h1 => (hF 86 j (h86 j)).trans (h j h0 h1)
theorem tc_le {σ τ : Nat → Int → Int} {c r : Int} (h : tcP σ c r τ) (hr : r ≠ 0) (h0 : σ 69 13 ≤ σ 69 12) : τ 69 13 ≤ σ 69 12 := by
  rcases h with ⟨a, -⟩ | ⟨-, l, a, -⟩
  · exact absurd a hr
  · exact (cl_len h0 a).2.2.1
/-- behind a clause's head and number -/
theorem tc_all {σ τ2 τ9 : Nat → Int → Int} {c r2 r9 : Int} (hx2 : hdP σ c r2 τ2) (h2 : r2 ≠ 0) (F2 : Fr jcHd σ τ2) (F9 : Fr jcD τ2 τ9) (hx9 : tnP (σ 78) (σ 69 12) (τ2 69 13) r9 (τ9 69 13) (τ9 69 14)) (h9 : r9 ≠ 0) (h0 : 0 ≤ σ 69 13 ∧ σ 69 13 ≤ σ 69 12 ∧ σ 69 12 ≤ 100) :
    (τ9 80 c = 2 → tcP σ c 1 (up τ9 81 c (τ9 69 14))) ∧ (τ9 80 c ≠ 2 → ∀ r40 τ40, tkJ (up τ9 81 c (τ9 69 14)) 32 r40 τ40 → (r40 = 0 → tcP σ c 0 τ40) ∧ (r40 ≠ 0 → ∀ r48 τ48, (r48 = 0 ∨ r48 = 1) → teP τ40 c r48 τ48 → Fr jcE τ40 τ48 → (r48 = 1 → τ48 82 c = τ40 69 23) → tcP σ c r48 τ48)) := by
  have e80 : τ9 80 c = τ2 80 c := F9 80 c rfl
  have e12 : (up τ9 81 c (τ9 69 14)) 69 12 = σ 69 12 := (up_cell (by decide)).trans ((F9 69 12 rfl).trans (F2 69 12 rfl))
  have e13 : (up τ9 81 c (τ9 69 14)) 69 13 = τ9 69 13 := up_cell (by decide)
  have e78 : (up τ9 81 c (τ9 69 14)) 78 = σ 78 := (upF (by decide)).trans (funext fun j => (F9 78 j rfl).trans (F2 78 j rfl))
  refine ⟨fun h => ?_, fun h r40 τ40 ht => ?_⟩
  · rw [e80] at h
    refine Or.inr ⟨rfl, [], ?_, Or.inl ((up_cell (by decide)).trans (e80.trans h))⟩
    rw [tc_dw hx2 h2 hx9 h9 h, e13, up_cell (by decide), up_same, e80, h]
  · rw [e80] at h
    unfold tkJ at ht
    rw [e12, e13, e78] at ht
    rcases ht with ⟨a, b, d⟩ | ⟨a, b, d⟩
    · refine ⟨fun h => by omega, fun _ r48 τ48 hr hE F48 e82 => ?_⟩
      have d13 : τ40 69 13 = τ9 69 13 + 1 := by rw [d]; exact up_same
      have d12 : τ40 69 12 = σ 69 12 := by rw [d]; exact (up_slot (by decide)).trans e12
      have d78 : τ40 78 = σ 78 := by rw [d]; exact (upF (by decide)).trans e78
      have d80 : τ48 80 c = τ2 80 c := (F48 80 c rfl).trans (by rw [d]; exact (up_cell (by decide)).trans ((up_cell (by decide)).trans e80))
      have d81 : τ48 81 c = τ9 69 14 := (F48 81 c rfl).trans (by rw [d]; exact (up_cell (by decide)).trans up_same)
      unfold teP at hE
      rw [d13, d12, d78] at hE
      rcases hE with ⟨x, y⟩ | ⟨x, y⟩
      · exact Or.inl ⟨x, tc_e hx2 h2 hx9 h9 h b h0 y⟩
      · refine Or.inr ⟨x, _, ?_, Or.inr rfl⟩
        rw [tc_e hx2 h2 hx9 h9 h b h0 y, d80, d81, e82 x]
    · refine ⟨fun _ => Or.inl ⟨rfl, ?_⟩, fun h => absurd a h⟩
      rw [tc_tb hx2 h2 hx9 h9 h b, d, e13]
theorem tk_62 {σ τ : Nat → Int → Int} {s r : Int} (h : tkJ σ s r τ) (hr : r = 0) : τ = σ ∧ ¬ (σ 69 13 < σ 69 12 ∧ σ 78 (σ 69 13) = s) := by
  rcases h with ⟨a, -⟩ | ⟨-, a, b⟩
  · omega
  · exact ⟨b, a⟩
theorem KB_up {σ τ : Nat → Int → Int} {f : Int} {τ' : Nat → Int → Int} (h : KB σ τ f) (e : ∀ k j, k ≠ 69 → τ' k j = τ k j) : KB σ τ' f := ⟨fun j hj => ⟨(e 80 j (by decide)).trans (h.1 j hj).1, (e 82 j (by decide)).trans (h.1 j hj).2.1, (e 83 j (by decide)).trans (h.1 j hj).2.2⟩, fun j hj => (e 84 j (by decide)).trans (h.2.1 j hj), fun j hj => (e 79 j (by decide)).trans (h.2.2 j hj)⟩
theorem town_jb {σ τ : Nat → Int → Int} (hb : KB σ τ (σ 69 10)) (hq : ∀ j, j < 10 * σ 69 10 → τ 81 j = σ 81 j) (hx : gtP σ (σ 69 10) 0 τ) (hG : Fr jcG σ τ) (h6 : σ 69 10 < 6) : townJ σ (-10 - τ 69 13) (up τ 69 12 0) := by
  refine Or.inr ⟨h6, up_same, KB_up hb (fun k j h => up_cell h), fun j hj => (up_cell (by decide)).trans (hq j hj), Or.inl ?_⟩
  rcases hx with ⟨-, a⟩ | ⟨a, -⟩
  · exact ⟨_, a, rfl, (up_slot (by decide)).trans (hG 69 10 rfl), (up_slot (by decide)).trans (hG 69 11 rfl)⟩
  · omega
theorem town_jo {σ τ : Nat → Int → Int} {r : Int} (hb : KB σ τ (σ 69 10)) (hq : ∀ j, j < 10 * σ 69 10 → τ 81 j = σ 81 j) (hr : r ≠ 0) (hx : gtP σ (σ 69 10) r τ) (hG : Fr jcG σ τ) (h6 : σ 69 10 < 6) (e10 : τ 69 10 = σ 69 10) : townJ σ (τ 69 10) (up (up (up τ 69 12 0) 69 11 (τ 69 10)) 69 10 (τ 69 10 + 1)) := by
  have e : ∀ k j, k ≠ 69 → (up (up (up τ 69 12 0) 69 11 (τ 69 10)) 69 10 (τ 69 10 + 1)) k j = τ k j := fun k j h => (up_cell h).trans ((up_cell h).trans (up_cell h))
  refine Or.inr ⟨h6, (up_slot (by decide)).trans ((up_slot (by decide)).trans up_same), KB_up hb e, fun j hj => (e 81 j (by decide)).trans (hq j hj), Or.inr ?_⟩
  rcases hx with ⟨a, -⟩ | ⟨-, L, a, b, c⟩
  · exact absurd a hr
  · exact ⟨L, a, e10, up_same.trans (by rw [e10]), (up_slot (by decide)).trans (up_same.trans e10), b.trans (e 79 _ (by decide)).symm, TJ_cong c (fun j => e 80 j (by decide)) (fun j => e 81 j (by decide)) (fun j => e 82 j (by decide)) (fun j => e 83 j (by decide)) (fun j => e 84 j (by decide))⟩
