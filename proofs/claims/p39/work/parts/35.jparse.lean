/-! the reference's reading of a town's text: what holds of the signs between its steps -/
/-- a: where the clause's signs begin; b: where the town's do; w: 1, if a test or ( or ! is due -/
def PS (σ : Nat → Int → Int) (a b w : Int) : Prop := b ≤ a ∧ a ≤ σ 69 23 ∧ σ 69 23 + σ 69 24 ≤ b + σ 69 13 ∧ okS (σ 84) a (σ 69 23 - a).toNat ∧ depF (σ 84) a (σ 69 23 - a).toNat = 1 - w + (σ 69 24 - σ 69 25) ∧ σ 69 24 - σ 69 25 = nbF (σ 85) (σ 69 24).toNat
theorem okS_snoc {s s' : Int → Int} {a t : Int} {n : Nat} (h : okS s a n) (hs : ∀ i : Nat, i < n → s' (a + (i : Int)) = s (a + (i : Int))) (hn : s' (a + (n : Int)) = t) (h1 : t = -33 → 1 ≤ depF s a n) (h2 : t < 0 → t ≠ -33 → 2 ≤ depF s a n) : okS s' a (n + 1) ∧ depF s' a (n + 1) = depF s a n + dl t := by
  have ed : depF s' a n = depF s a n := depF_cong hs
  refine ⟨fun i hi => ?_, ?_⟩
  · by_cases e : i = n
    · subst e
      rw [hn, ed]
      exact ⟨h1, h2⟩
    · have hi' : i < n := by omega
      rw [hs i hi', depF_cong (fun j hj => hs j (by omega))]
      exact h i hi'
  · rw [depF_s, hn, ed]
/-- one more sign -/
theorem PS_emit {σ σ' : Nat → Int → Int} {a t : Int} (h0 : a ≤ σ 69 23) (hk : okS (σ 84) a (σ 69 23 - a).toNat) (e84 : ∀ j, σ' 84 j = if j = σ 69 23 then t else σ 84 j) (e23 : σ' 69 23 = σ 69 23 + 1) (h1 : t = -33 → 1 ≤ depF (σ 84) a (σ 69 23 - a).toNat) (h2 : t < 0 → t ≠ -33 → 2 ≤ depF (σ 84) a (σ 69 23 - a).toNat) : okS (σ' 84) a (σ' 69 23 - a).toNat ∧ depF (σ' 84) a (σ' 69 23 - a).toNat = depF (σ 84) a (σ 69 23 - a).toNat + dl t := by
  have e : (σ' 69 23 - a).toNat = (σ 69 23 - a).toNat + 1 := by omega
  rw [e]
  refine okS_snoc hk (fun i hi => ?_) ?_ h1 h2
  · rw [e84, if_neg (by omega)]
  · rw [e84, if_pos (by omega)]
theorem nb_top {w : Int → Int} {x : Int} (h : 0 < x) : nbF w x.toNat = nbF w (x - 1).toNat + (if w (x - 1) = 38 ∨ w (x - 1) = 124 then 1 else 0) := by
  have e : x.toNat = (x - 1).toNat + 1 := by omega
  have e2 : (((x - 1).toNat : Nat) : Int) = x - 1 := by omega
  rw [e, nbF_s, e2]
theorem nb_push {w w' : Int → Int} {x v : Int} (h : 0 ≤ x) (hw : ∀ j, w' j = if j = x then v else w j) : nbF w' (x + 1).toNat = nbF w x.toNat + (if v = 38 ∨ v = 124 then 1 else 0) := by
  rw [nb_top (by omega), show x + 1 - 1 = x by omega]
  have e : w' x = v := by rw [hw, if_pos rfl]
  rw [e]
  refine congrArg (· + _) (nbF_cong (fun i hi => ?_))
  rw [hw, if_neg (by omega)]
theorem PS_bang {σ : Nat → Int → Int} {a b : Int} (h : PS σ a b 0) (h0 : 0 < σ 69 24) (ht : σ 85 (σ 69 24 - 1) = 33) : PS (up (up (up (up σ 84 (σ 69 23) (-33)) 69 23 (σ 69 23 + 1)) 69 24 (σ 69 24 - 1)) 69 25 (σ 69 25 - 1)) a b 0 := by
  obtain ⟨p1, p2, p3, p4, p5, p6⟩ := h
  have hb := nbF_b (σ 85) (σ 69 24).toNat
  have hm := PS_emit (σ' := up (up (up (up σ 84 (σ 69 23) (-33)) 69 23 (σ 69 23 + 1)) 69 24 (σ 69 24 - 1)) 69 25 (σ 69 25 - 1)) (t := -33) p2 p4 (fun j => by simp [up]) (by simp [up]) (fun _ => by omega) (fun _ h => absurd rfl h)
  have hn := nb_top (w := σ 85) h0
  rw [if_neg (by omega)] at hn
  refine ⟨p1, by simp [up]; omega, by simp [up]; omega, hm.1, ?_, ?_⟩
  · rw [hm.2]
    have := (dl_b (-33)).2.2.2.1 rfl
    simp [up]; omega
  · have e : ∀ j, (up (up (up (up σ 84 (σ 69 23) (-33)) 69 23 (σ 69 23 + 1)) 69 24 (σ 69 24 - 1)) 69 25 (σ 69 25 - 1)) 85 j = σ 85 j := fun j => by simp [up]
    rw [show (up (up (up (up σ 84 (σ 69 23) (-33)) 69 23 (σ 69 23 + 1)) 69 24 (σ 69 24 - 1)) 69 25 (σ 69 25 - 1)) 69 24 = σ 69 24 - 1 by simp [up], show (up (up (up (up σ 84 (σ 69 23) (-33)) 69 23 (σ 69 23 + 1)) 69 24 (σ 69 24 - 1)) 69 25 (σ 69 25 - 1)) 69 25 = σ 69 25 - 1 by simp [up], nbF_cong (fun i _ => e (i : Int)), ← show nbF (σ 85) (σ 69 24).toNat = nbF (σ 85) (σ 69 24 - 1).toNat by omega]
    omega
theorem PS_bin {σ : Nat → Int → Int} {a b : Int} (h : PS σ a b 0) (h0 : 0 < σ 69 24) (ht : σ 85 (σ 69 24 - 1) = 38 ∨ σ 85 (σ 69 24 - 1) = 124) : PS (up (up (up σ 69 24 (σ 69 24 - 1)) 84 (σ 69 23) (-(σ 85 (σ 69 24 - 1)))) 69 23 (σ 69 23 + 1)) a b 0 := by
  obtain ⟨p1, p2, p3, p4, p5, p6⟩ := h
  have hb := nbF_b (σ 85) (σ 69 24 - 1).toNat
  have hn := nb_top (w := σ 85) h0
  rw [if_pos ht] at hn
  have hm := PS_emit (σ' := up (up (up σ 69 24 (σ 69 24 - 1)) 84 (σ 69 23) (-(σ 85 (σ 69 24 - 1)))) 69 23 (σ 69 23 + 1)) (t := -(σ 85 (σ 69 24 - 1))) p2 p4 (fun j => by simp [up]) (by simp [up]) (fun _ => by omega) (fun _ _ => by omega)
  refine ⟨p1, by simp [up]; omega, by simp [up]; omega, hm.1, ?_, ?_⟩
  · rw [hm.2]
    have := (dl_b (-(σ 85 (σ 69 24 - 1)))).2.2.2.2 (by omega) (by omega)
    simp [up]; omega
  · have e : ∀ j, (up (up (up σ 69 24 (σ 69 24 - 1)) 84 (σ 69 23) (-(σ 85 (σ 69 24 - 1)))) 69 23 (σ 69 23 + 1)) 85 j = σ 85 j := fun j => by simp [up]
    rw [show (up (up (up σ 69 24 (σ 69 24 - 1)) 84 (σ 69 23) (-(σ 85 (σ 69 24 - 1)))) 69 23 (σ 69 23 + 1)) 69 24 = σ 69 24 - 1 by simp [up], show (up (up (up σ 69 24 (σ 69 24 - 1)) 84 (σ 69 23) (-(σ 85 (σ 69 24 - 1)))) 69 23 (σ 69 23 + 1)) 69 25 = σ 69 25 by simp [up], nbF_cong (fun i _ => e (i : Int))]
    omega
theorem PS_val {σ σ2 : Nat → Int → Int} {a b t : Int} (h : PS σ a b 1) (e84 : ∀ j, σ2 84 j = σ 84 j) (e85 : ∀ j, σ2 85 j = σ 85 j) (e23 : σ2 69 23 = σ 69 23) (e24 : σ2 69 24 = σ 69 24) (e25 : σ2 69 25 = σ 69 25) (hat : σ 69 13 + 1 ≤ σ2 69 13) (ht : 0 ≤ t) : PS (up (up σ2 84 (σ2 69 23) t) 69 23 (σ2 69 23 + 1)) a b 0 := by
  obtain ⟨p1, p2, p3, p4, p5, p6⟩ := h
  have hm := PS_emit (σ := σ) (σ' := up (up σ2 84 (σ2 69 23) t) 69 23 (σ2 69 23 + 1)) (t := t) p2 p4 (fun j => by simp [up, e84, e23]) (by simp [up, e23]) (fun _ => by omega) (fun _ _ => by omega)
  refine ⟨p1, by simp [up]; omega, by simp [up]; omega, hm.1, ?_, ?_⟩
  · rw [hm.2]
    have := (dl_b t).2.2.1 ht
    simp [up]; omega
  · have e : ∀ j, (up (up σ2 84 (σ2 69 23) t) 69 23 (σ2 69 23 + 1)) 85 j = σ 85 j := fun j => by simp [up, e85]
    rw [show (up (up σ2 84 (σ2 69 23) t) 69 23 (σ2 69 23 + 1)) 69 24 = σ 69 24 by simp [up, e24], show (up (up σ2 84 (σ2 69 23) t) 69 23 (σ2 69 23 + 1)) 69 25 = σ 69 25 by simp [up, e25], nbF_cong (fun i _ => e (i : Int))]
    exact p6
theorem PS_init {σ : Nat → Int → Int} {b c : Int} (h0 : b ≤ σ 69 23) (h1 : σ 69 23 ≤ b + σ 69 13) : PS (up (up (up σ 69 24 0) 69 25 0) 82 c (σ 69 23)) (σ 69 23) b 1 := by
  refine ⟨h0, by simp [up], by simp [up]; omega, ?_, ?_, ?_⟩
  · have e : ((up (up (up σ 69 24 0) 69 25 0) 82 c (σ 69 23)) 69 23 - σ 69 23).toNat = 0 := by simp [up]
    rw [e]
    intro i hi
    omega
  · have e : ((up (up (up σ 69 24 0) 69 25 0) 82 c (σ 69 23)) 69 23 - σ 69 23).toNat = 0 := by simp [up]
    rw [e]
    simp [up, depF]
  · simp [up, nbF]
theorem PS_open {σ : Nat → Int → Int} {a b v : Int} (h : PS σ a b 1) (h0 : 0 ≤ σ 69 24) (hv : v = 33 ∨ v = 40) : PS (up (up (up (up σ 69 25 (σ 69 25 + 1)) 85 (σ 69 24) v) 69 24 (σ 69 24 + 1)) 69 13 (σ 69 13 + 1)) a b 1 := by
  obtain ⟨p1, p2, p3, p4, p5, p6⟩ := h
  have hn := nb_push (w := σ 85) (w' := (up (up (up (up σ 69 25 (σ 69 25 + 1)) 85 (σ 69 24) v) 69 24 (σ 69 24 + 1)) 69 13 (σ 69 13 + 1)) 85) (x := σ 69 24) (v := v) h0 (fun j => by simp [up])
  rw [if_neg (by omega)] at hn
  have e84 : ∀ j, (up (up (up (up σ 69 25 (σ 69 25 + 1)) 85 (σ 69 24) v) 69 24 (σ 69 24 + 1)) 69 13 (σ 69 13 + 1)) 84 j = σ 84 j := fun j => by simp [up]
  have e23 : (up (up (up (up σ 69 25 (σ 69 25 + 1)) 85 (σ 69 24) v) 69 24 (σ 69 24 + 1)) 69 13 (σ 69 13 + 1)) 69 23 = σ 69 23 := by simp [up]
  have e24 : (up (up (up (up σ 69 25 (σ 69 25 + 1)) 85 (σ 69 24) v) 69 24 (σ 69 24 + 1)) 69 13 (σ 69 13 + 1)) 69 24 = σ 69 24 + 1 := by simp [up]
  have e25 : (up (up (up (up σ 69 25 (σ 69 25 + 1)) 85 (σ 69 24) v) 69 24 (σ 69 24 + 1)) 69 13 (σ 69 13 + 1)) 69 25 = σ 69 25 + 1 := by simp [up]
  have e13 : (up (up (up (up σ 69 25 (σ 69 25 + 1)) 85 (σ 69 24) v) 69 24 (σ 69 24 + 1)) 69 13 (σ 69 13 + 1)) 69 13 = σ 69 13 + 1 := by simp [up]
  refine ⟨p1, by omega, by omega, ?_, ?_, ?_⟩
  · rw [e23]; exact okS_cong (fun i _ => e84 _) p4
  · rw [e23, e24, e25, depF_cong (fun i _ => e84 _)]; omega
  · rw [e24, e25, hn]; omega
theorem PS_join {σ : Nat → Int → Int} {a b v : Int} (h : PS σ a b 0) (h0 : 0 ≤ σ 69 24) (hv : v = 38 ∨ v = 124) : PS (up (up (up σ 85 (σ 69 24) v) 69 24 (σ 69 24 + 1)) 69 13 (σ 69 13 + 1)) a b 1 := by
  obtain ⟨p1, p2, p3, p4, p5, p6⟩ := h
  have hn := nb_push (w := σ 85) (w' := (up (up (up σ 85 (σ 69 24) v) 69 24 (σ 69 24 + 1)) 69 13 (σ 69 13 + 1)) 85) (x := σ 69 24) (v := v) h0 (fun j => by simp [up])
  rw [if_pos hv] at hn
  have e84 : ∀ j, (up (up (up σ 85 (σ 69 24) v) 69 24 (σ 69 24 + 1)) 69 13 (σ 69 13 + 1)) 84 j = σ 84 j := fun j => by simp [up]
  have e23 : (up (up (up σ 85 (σ 69 24) v) 69 24 (σ 69 24 + 1)) 69 13 (σ 69 13 + 1)) 69 23 = σ 69 23 := by simp [up]
  have e24 : (up (up (up σ 85 (σ 69 24) v) 69 24 (σ 69 24 + 1)) 69 13 (σ 69 13 + 1)) 69 24 = σ 69 24 + 1 := by simp [up]
  have e25 : (up (up (up σ 85 (σ 69 24) v) 69 24 (σ 69 24 + 1)) 69 13 (σ 69 13 + 1)) 69 25 = σ 69 25 := by simp [up]
  have e13 : (up (up (up σ 85 (σ 69 24) v) 69 24 (σ 69 24 + 1)) 69 13 (σ 69 13 + 1)) 69 13 = σ 69 13 + 1 := by simp [up]
  refine ⟨p1, by omega, by omega, ?_, ?_, ?_⟩
  · rw [e23]; exact okS_cong (fun i _ => e84 _) p4
  · rw [e23, e24, e25, depF_cong (fun i _ => e84 _)]; omega
  · rw [e24, e25, hn]; omega
theorem PS_close {σ : Nat → Int → Int} {a b c x : Int} (h : PS σ a b 0) (h0 : 0 < σ 69 24) (ht : ¬ (σ 85 (σ 69 24 - 1) = 38 ∨ σ 85 (σ 69 24 - 1) = 124)) : PS (up (up (up (up σ 83 c x) 69 24 (σ 69 24 - 1)) 69 25 (σ 69 25 - 1)) 69 13 (σ 69 13 + 1)) a b 0 := by
  obtain ⟨p1, p2, p3, p4, p5, p6⟩ := h
  have hn := nb_top (w := σ 85) h0
  rw [if_neg ht] at hn
  have e84 : ∀ j, (up (up (up (up σ 83 c x) 69 24 (σ 69 24 - 1)) 69 25 (σ 69 25 - 1)) 69 13 (σ 69 13 + 1)) 84 j = σ 84 j := fun j => by simp [up]
  have e85 : ∀ j, (up (up (up (up σ 83 c x) 69 24 (σ 69 24 - 1)) 69 25 (σ 69 25 - 1)) 69 13 (σ 69 13 + 1)) 85 j = σ 85 j := fun j => by simp [up]
  have e23 : (up (up (up (up σ 83 c x) 69 24 (σ 69 24 - 1)) 69 25 (σ 69 25 - 1)) 69 13 (σ 69 13 + 1)) 69 23 = σ 69 23 := by simp [up]
  have e24 : (up (up (up (up σ 83 c x) 69 24 (σ 69 24 - 1)) 69 25 (σ 69 25 - 1)) 69 13 (σ 69 13 + 1)) 69 24 = σ 69 24 - 1 := by simp [up]
  have e25 : (up (up (up (up σ 83 c x) 69 24 (σ 69 24 - 1)) 69 25 (σ 69 25 - 1)) 69 13 (σ 69 13 + 1)) 69 25 = σ 69 25 - 1 := by simp [up]
  have e13 : (up (up (up (up σ 83 c x) 69 24 (σ 69 24 - 1)) 69 25 (σ 69 25 - 1)) 69 13 (σ 69 13 + 1)) 69 13 = σ 69 13 + 1 := by simp [up]
  refine ⟨p1, by omega, by omega, ?_, ?_, ?_⟩
  · rw [e23]; exact okS_cong (fun i _ => e84 _) p4
  · rw [e23, e24, e25, depF_cong (fun i _ => e84 _)]; omega
  · rw [e24, e25, nbF_cong (fun i _ => e85 _)]; omega
/-- what of the towns ahead of f is left as it was -/
def KB (σ σ' : Nat → Int → Int) (f : Int) : Prop := (∀ j, j < 10 * f → σ' 80 j = σ 80 j ∧ σ' 82 j = σ 82 j ∧ σ' 83 j = σ 83 j) ∧ (∀ j, j < 100 * f → σ' 84 j = σ 84 j) ∧ (∀ j, j ≠ f → σ' 79 j = σ 79 j)
theorem JW_kb {σ σ' : Nat → Int → Int} (hI : InvJ σ) (h : JW σ) (hb : KB σ σ' (σ 69 10)) {f c : Int} (f0 : 0 ≤ f) (f1 : f < σ 69 10) (c0 : 10 * f ≤ c) (c1 : c < 10 * f + σ' 79 f) (c2 : σ' 80 c ≠ 2) : WFc σ' f c := by
  have b10 := jv69_10 hI 10 (by omega) (by omega)
  have b79 := jv79_0 hI f (by omega) (by omega)
  rw [hb.2.2 f (by omega)] at c1
  obtain ⟨e80, e82, e83⟩ := hb.1 c (by omega)
  rw [e80] at c2
  have hw := h f f0 f1 c c0 c1 c2
  exact WFc_cong e82 e83 (fun j j0 j1 => hb.2.1 j (by have := hw.2.1; omega)) hw
theorem JR_town {σ σ1 σ' : Nat → Int → Int} (hs : JR σ) (hF : Fr jcG σ σ1) (o : ∀ k j, k ≠ 69 → σ' k j = σ1 k j) (o1 : σ' 69 1 = σ1 69 1) (o41 : σ' 69 41 = σ1 69 41) (o45 : σ' 69 45 = σ1 69 45) (o47 : σ' 69 47 = σ1 69 47) (o50 : σ' 69 50 = σ1 69 50) (ht : σ' 69 11 < σ' 69 10) (h10 : σ 69 10 ≤ σ' 69 10) : JR σ' := by
  obtain ⟨h1, h2, h3, h4, h5, h6⟩ := hs
  have e1 := hF 69 1 rfl
  have e41 := hF 69 41 rfl
  have e45 := hF 69 45 rfl
  have e47 := hF 69 47 rfl
  have e50 := hF 69 50 rfl
  refine ⟨fun k a b => ?_, fun k a b => ?_, fun k a b => ?_, fun k a b => ?_, ht, by omega⟩
  · rw [o 77 k (by decide), hF 77 k rfl]; exact h1 k a (by omega)
  · rw [o 102 k (by decide), hF 102 k rfl]; exact h2 k a (by omega)
  · rw [o 93 k (by decide), hF 93 k rfl, o1, e1]; exact h3 k a (by omega)
  · rw [o 105 k (by decide), hF 105 k rfl, o47, e47]; exact h4 k a (by omega)
theorem JS_town1 {σ σ1 : Nat → Int → Int} (hI : InvJ σ) (hs : JS σ) (hF : Fr jcG σ σ1) (hb : KB σ σ1 (σ 69 10)) : JS (up σ1 69 12 0) := by
  have e10 := hF 69 10 rfl
  have e11 := hF 69 11 rfl
  have h5 := hs.1.2.2.2.2.1
  refine ⟨JR_town hs.1 hF (fun k j h => by simp [up, h]) (by simp [up]) (by simp [up]) (by simp [up]) (by simp [up]) (by simp [up]) (by simp [up]; omega) (by simp [up]; omega), ?_⟩
  intro f f0 f1 c c0 c1 c2
  have f1' : f < σ 69 10 := by simp [up] at f1; omega
  have hw := JW_kb hI hs.2 hb f0 f1' c0 (by simpa [up] using c1) (by simpa [up] using c2)
  exact WFc_cong (by simp [up]) (by simp [up]) (fun j _ _ => by simp [up]) hw
theorem JS_town2 {σ σ1 : Nat → Int → Int} (hI : InvJ σ) (hs : JS σ) (hF : Fr jcG σ σ1) (hb : KB σ σ1 (σ 69 10)) (hn : ∀ c, 10 * σ 69 10 ≤ c → c < 10 * σ 69 10 + σ1 79 (σ 69 10) → σ1 80 c ≠ 2 → WFc σ1 (σ 69 10) c) : JS (up (up (up σ1 69 12 0) 69 11 (σ1 69 10)) 69 10 (σ1 69 10 + 1)) := by
  have e10 := hF 69 10 rfl
  refine ⟨JR_town hs.1 hF (fun k j h => by simp [up, h]) (by simp [up]) (by simp [up]) (by simp [up]) (by simp [up]) (by simp [up]) (by simp [up]; omega) (by simp [up]; omega), ?_⟩
  intro f f0 f1 c c0 c1 c2
  have f1' : f < σ 69 10 + 1 := by simp [up] at f1; omega
  have c1' : c < 10 * f + σ1 79 f := by simpa [up] using c1
  have c2' : σ1 80 c ≠ 2 := by simpa [up] using c2
  have hw : WFc σ1 f c := by
    by_cases e : f = σ 69 10
    · subst e; exact hn c c0 c1' c2'
    · exact JW_kb hI hs.2 hb f0 (by omega) c0 c1' c2'
  exact WFc_cong (by simp [up]) (by simp [up]) (fun j _ _ => by simp [up]) hw
/-- the town f's first n clauses are read -/
def GI (σ τ : Nat → Int → Int) (f n : Int) : Prop := KB σ τ f ∧ (∀ c, 10 * f ≤ c → c < 10 * f + n → τ 80 c ≠ 2 → WFc τ f c ∧ τ 83 c ≤ τ 69 23) ∧ 100 * f ≤ τ 69 23 ∧ τ 69 23 ≤ 100 * f + τ 69 13
theorem KB_step {σ τ τ' : Nat → Int → Int} {f n : Int} (h : KB σ τ f) (s1 : 100 * f ≤ τ 69 23) (hn : 0 ≤ n) (hk : ∀ j, j < τ 69 23 → τ' 84 j = τ 84 j) (ho : ∀ j, j ≠ 10 * f + n → τ' 80 j = τ 80 j ∧ τ' 82 j = τ 82 j ∧ τ' 83 j = τ 83 j) (h79 : ∀ j, j ≠ f → τ' 79 j = τ 79 j) : KB σ τ' f := by
  obtain ⟨h1, h2, h3⟩ := h
  refine ⟨fun j hj => ?_, fun j hj => ?_, fun j hj => ?_⟩
  · obtain ⟨a, b, c⟩ := ho j (by omega)
    obtain ⟨a', b', c'⟩ := h1 j hj
    exact ⟨a.trans a', b.trans b', c.trans c'⟩
  · exact (hk j (by omega)).trans (h2 j hj)
  · exact (h79 j hj).trans (h3 j hj)
theorem GI_step {σ τ τ' : Nat → Int → Int} {f n : Int} (h : GI σ τ f n) (hn : 0 ≤ n) (hk : ∀ j, j < τ 69 23 → τ' 84 j = τ 84 j) (ho : ∀ j, j ≠ 10 * f + n → τ' 80 j = τ 80 j ∧ τ' 82 j = τ 82 j ∧ τ' 83 j = τ 83 j) (h79 : ∀ j, τ' 79 j = τ 79 j) (s2 : τ 69 23 ≤ τ' 69 23) (s3 : τ' 69 23 ≤ 100 * f + τ' 69 13) (hr : τ' 80 (10 * f + n) = 2 ∨ (τ' 82 (10 * f + n) = τ 69 23 ∧ τ' 83 (10 * f + n) ≤ 100 * f + 100 ∧ okS (τ' 84) (τ' 82 (10 * f + n)) (τ' 83 (10 * f + n) - τ' 82 (10 * f + n)).toNat ∧ τ' 83 (10 * f + n) ≤ τ' 69 23)) : GI σ τ' f (n + 1) := by
  obtain ⟨h1, h2, h3, h4⟩ := h
  refine ⟨KB_step h1 h3 hn hk ho (fun j _ => h79 j), fun c c0 c1 c2 => ?_, by omega, s3⟩
  by_cases e : c = 10 * f + n
  · subst e
    rcases hr with hr | ⟨r1, r2, r3, r4⟩
    · exact absurd hr c2
    · exact ⟨⟨by omega, r2, r3⟩, r4⟩
  · obtain ⟨a, b, d⟩ := ho c e
    rw [a] at c2
    obtain ⟨w, w2⟩ := h2 c c0 (by omega) c2
    refine ⟨WFc_cong b d (fun j _ j1 => hk j (by omega)) w, by omega⟩
theorem GI_cong {σ τ τ' : Nat → Int → Int} {f n : Int} (h : GI σ τ f n) (e80 : ∀ j, τ' 80 j = τ 80 j) (e82 : ∀ j, τ' 82 j = τ 82 j) (e83 : ∀ j, τ' 83 j = τ 83 j) (e84 : ∀ j, τ' 84 j = τ 84 j) (e79 : ∀ j, j ≠ f → τ' 79 j = τ 79 j) (e23 : τ' 69 23 = τ 69 23) (e13 : τ 69 13 ≤ τ' 69 13) : GI σ τ' f n := by
  obtain ⟨⟨h1, h2, h3⟩, h4, h5, h6⟩ := h
  refine ⟨⟨fun j hj => ?_, fun j hj => (e84 j).trans (h2 j hj), fun j hj => (e79 j hj).trans (h3 j hj)⟩, fun c c0 c1 c2 => ?_, by omega, by omega⟩
  · obtain ⟨a, b, c⟩ := h1 j hj
    exact ⟨(e80 j).trans a, (e82 j).trans b, (e83 j).trans c⟩
  · rw [e80] at c2
    obtain ⟨w, w2⟩ := h4 c c0 c1 c2
    exact ⟨WFc_cong (e82 c) (e83 c) (fun j _ _ => e84 j) w, by rw [e83, e23]; exact w2⟩
theorem GI_init {σ : Nat → Int → Int} {f : Int} : GI σ (up (up σ 69 13 0) 69 23 (100 * f)) f 0 := by
  refine ⟨⟨fun j _ => ?_, fun j _ => by simp [up], fun j _ => by simp [up]⟩, fun c c0 c1 _ => by omega, by simp [up], by simp [up]⟩
  simp [up]
