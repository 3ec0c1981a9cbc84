def rhoL : List (Nat × Nat × Nat) := [(1, 1, 3), (1, 2, 4), (1, 3, 5), (1, 4, 6), (1, 5, 7), (1, 7, 8), (1, 8, 9), (1, 9, 10), (10, 0, 12), (10, 1, 13), (1, 10, 11), (13, 0, 15), (13, 1, 16), (1, 11, 14), (16, 0, 18), (16, 1, 19), (1, 12, 17), (0, 1, 2), (19, 0, 21), (0, 3, 20), (21, 0, 23), (0, 6, 22), (24, 0, 26), (24, 1, 27), (24, 2, 28), (24, 3, 29), (24, 4, 30), (24, 5, 31), (23, 0, 25), (23, 1, 32), (23, 2, 33), (0, 7, 24), (33, 1, 35), (33, 2, 36), (33, 3, 37), (33, 4, 38), (33, 5, 39), (33, 7, 40), (33, 8, 41), (33, 9, 42), (42, 0, 44), (42, 1, 45), (33, 10, 43), (45, 0, 47), (45, 1, 48), (33, 11, 46), (48, 0, 50), (48, 1, 51), (33, 12, 49), (52, 0, 54), (52, 1, 55), (52, 2, 56), (52, 3, 57), (52, 4, 58), (52, 5, 59), (51, 0, 53), (51, 1, 60), (51, 2, 61), (51, 4, 62), (0, 0, 34), (0, 4, 52), (63, 0, 65), (63, 1, 66), (62, 3, 64), (62, 0, 34), (62, 1, 52), (66, 2, 68), (66, 3, 69), (66, 0, 34), (66, 1, 52), (62, 2, 67), (0, 5, 63), (69, 2, 71), (69, 3, 72), (69, 4, 73), (69, 5, 74), (69, 6, 75), (69, 7, 76), (69, 8, 77), (69, 9, 78), (69, 15, 79), (69, 16, 80), (69, 17, 81), (69, 18, 82), (69, 19, 83), (69, 20, 84), (69, 21, 85), (69, 22, 86), (69, 26, 87), (69, 27, 88), (69, 35, 89), (69, 36, 90), (69, 37, 91), (69, 39, 92), (69, 40, 93), (69, 42, 94), (69, 43, 95), (69, 51, 96), (69, 52, 97), (69, 53, 98), (69, 54, 99), (69, 55, 100), (69, 56, 101), (69, 57, 102), (69, 58, 103), (69, 59, 104), (69, 60, 105), (69, 61, 106), (69, 62, 107), (69, 63, 108), (69, 65, 109), (69, 66, 110), (69, 67, 111), (69, 68, 112), (69, 69, 113)]
def asg (ρ : Nat → Nat → Nat) (L : List (Nat × Nat × Nat)) : Nat → Nat → Nat := L.foldl (fun ρ q => upr ρ q.1 q.2.1 q.2.2) ρ
theorem asg_out : ∀ (L : List (Nat × Nat × Nat)) (ρ : Nat → Nat → Nat) (a b : Nat), (∀ q ∈ L, ¬ (a = q.1 ∧ b = q.2.1)) → asg ρ L a b = ρ a b
  | [], _, _, _, _ => rfl
  | q :: L, ρ, a, b, h => by
    show asg (upr ρ q.1 q.2.1 q.2.2) L a b = ρ a b
    rw [asg_out L _ a b (fun q hq => h q (List.mem_cons_of_mem _ hq))]
    exact if_neg (h q List.mem_cons_self)
theorem ref_keys : (List.range 113).all (fun a => (List.range ((refL.getD a []).length)).all (fun b => refF a b == 0 || rhoL.any (fun q => q.1 == a && q.2.1 == b))) = true := by decide +kernel
theorem refF_out {a b : Nat} (h : ∀ q ∈ rhoL, ¬ (a = q.1 ∧ b = q.2.1)) : refF a b = 0 := by
  have hl : refL.length ≤ 113 := by decide +kernel
  by_cases ha : a < 113
  · by_cases hb : b < (refL.getD a []).length
    · have h1 := List.all_eq_true.mp (List.all_eq_true.mp ref_keys a (List.mem_range.mpr ha)) b (List.mem_range.mpr hb)
      rcases Bool.or_eq_true_iff.mp h1 with h1 | h1
      · exact beq_iff_eq.mp h1
      · obtain ⟨q, hq, e⟩ := List.any_eq_true.mp h1
        simp only [Bool.and_eq_true, beq_iff_eq] at e
        exact absurd ⟨e.1.symm, e.2.symm⟩ (h q hq)
    · unfold refF
      rw [List.getD_eq_getElem?_getD, List.getElem?_eq_none (by omega)]; rfl
  · unfold refF
    have e : refL.getD a [] = [] := by rw [List.getD_eq_getElem?_getD, List.getElem?_eq_none (by omega)]; rfl
    rw [e]; rfl
set_option maxRecDepth 20000 in
theorem rho_eq : (upr (upr (upr (upr (upr (upr (upr (upr (upr (upr (upr (upr (upr (upr (upr (upr (upr (upr (upr (upr (upr (upr (upr (upr (upr (upr (upr (upr (upr (upr (upr (upr (upr (upr (upr (upr (upr (upr (upr (upr (upr (upr (upr (upr (upr (upr (upr (upr (upr (upr (upr (upr (upr (upr (upr (upr (upr (upr (upr (upr (upr (upr (upr (upr (upr (upr (upr (upr (upr (upr (upr (upr (upr (upr (upr (upr (upr (upr (upr (upr (upr (upr (upr (upr (upr (upr (upr (upr (upr (upr (upr (upr (upr (upr (upr (upr (upr (upr (upr (upr (upr (upr (upr (upr (upr (upr (upr (upr (upr (upr (upr (upr (upr (upr (upr (fun _ _ => 0) 1 1 3) 1 2 4) 1 3 5) 1 4 6) 1 5 7) 1 7 8) 1 8 9) 1 9 10) 10 0 12) 10 1 13) 1 10 11) 13 0 15) 13 1 16) 1 11 14) 16 0 18) 16 1 19) 1 12 17) 0 1 2) 19 0 21) 0 3 20) 21 0 23) 0 6 22) 24 0 26) 24 1 27) 24 2 28) 24 3 29) 24 4 30) 24 5 31) 23 0 25) 23 1 32) 23 2 33) 0 7 24) 33 1 35) 33 2 36) 33 3 37) 33 4 38) 33 5 39) 33 7 40) 33 8 41) 33 9 42) 42 0 44) 42 1 45) 33 10 43) 45 0 47) 45 1 48) 33 11 46) 48 0 50) 48 1 51) 33 12 49) 52 0 54) 52 1 55) 52 2 56) 52 3 57) 52 4 58) 52 5 59) 51 0 53) 51 1 60) 51 2 61) 51 4 62) 0 0 34) 0 4 52) 63 0 65) 63 1 66) 62 3 64) 62 0 34) 62 1 52) 66 2 68) 66 3 69) 66 0 34) 66 1 52) 62 2 67) 0 5 63) 69 2 71) 69 3 72) 69 4 73) 69 5 74) 69 6 75) 69 7 76) 69 8 77) 69 9 78) 69 15 79) 69 16 80) 69 17 81) 69 18 82) 69 19 83) 69 20 84) 69 21 85) 69 22 86) 69 26 87) 69 27 88) 69 35 89) 69 36 90) 69 37 91) 69 39 92) 69 40 93) 69 42 94) 69 43 95) 69 51 96) 69 52 97) 69 53 98) 69 54 99) 69 55 100) 69 56 101) 69 57 102) 69 58 103) 69 59 104) 69 60 105) 69 61 106) 69 62 107) 69 63 108) 69 65 109) 69 66 110) 69 67 111) 69 68 112) 69 69 113) = ρT 0 := by
  have e0 : (upr (upr (upr (upr (upr (upr (upr (upr (upr (upr (upr (upr (upr (upr (upr (upr (upr (upr (upr (upr (upr (upr (upr (upr (upr (upr (upr (upr (upr (upr (upr (upr (upr (upr (upr (upr (upr (upr (upr (upr (upr (upr (upr (upr (upr (upr (upr (upr (upr (upr (upr (upr (upr (upr (upr (upr (upr (upr (upr (upr (upr (upr (upr (upr (upr (upr (upr (upr (upr (upr (upr (upr (upr (upr (upr (upr (upr (upr (upr (upr (upr (upr (upr (upr (upr (upr (upr (upr (upr (upr (upr (upr (upr (upr (upr (upr (upr (upr (upr (upr (upr (upr (upr (upr (upr (upr (upr (upr (upr (upr (upr (upr (upr (upr (upr (fun _ _ => 0) 1 1 3) 1 2 4) 1 3 5) 1 4 6) 1 5 7) 1 7 8) 1 8 9) 1 9 10) 10 0 12) 10 1 13) 1 10 11) 13 0 15) 13 1 16) 1 11 14) 16 0 18) 16 1 19) 1 12 17) 0 1 2) 19 0 21) 0 3 20) 21 0 23) 0 6 22) 24 0 26) 24 1 27) 24 2 28) 24 3 29) 24 4 30) 24 5 31) 23 0 25) 23 1 32) 23 2 33) 0 7 24) 33 1 35) 33 2 36) 33 3 37) 33 4 38) 33 5 39) 33 7 40) 33 8 41) 33 9 42) 42 0 44) 42 1 45) 33 10 43) 45 0 47) 45 1 48) 33 11 46) 48 0 50) 48 1 51) 33 12 49) 52 0 54) 52 1 55) 52 2 56) 52 3 57) 52 4 58) 52 5 59) 51 0 53) 51 1 60) 51 2 61) 51 4 62) 0 0 34) 0 4 52) 63 0 65) 63 1 66) 62 3 64) 62 0 34) 62 1 52) 66 2 68) 66 3 69) 66 0 34) 66 1 52) 62 2 67) 0 5 63) 69 2 71) 69 3 72) 69 4 73) 69 5 74) 69 6 75) 69 7 76) 69 8 77) 69 9 78) 69 15 79) 69 16 80) 69 17 81) 69 18 82) 69 19 83) 69 20 84) 69 21 85) 69 22 86) 69 26 87) 69 27 88) 69 35 89) 69 36 90) 69 37 91) 69 39 92) 69 40 93) 69 42 94) 69 43 95) 69 51 96) 69 52 97) 69 53 98) 69 54 99) 69 55 100) 69 56 101) 69 57 102) 69 58 103) 69 59 104) 69 60 105) 69 61 106) 69 62 107) 69 63 108) 69 65 109) 69 66 110) 69 67 111) 69 68 112) 69 69 113) = asg (fun _ _ => 0) rhoL := rfl
  rw [e0]
  have h1 : ∀ q ∈ rhoL, asg (fun _ _ => 0) rhoL q.1 q.2.1 = ρT 0 q.1 q.2.1 := by decide +kernel
  funext a b
  by_cases hk : ∃ q ∈ rhoL, a = q.1 ∧ b = q.2.1
  · obtain ⟨q, hq, rfl, rfl⟩ := hk
    exact h1 q hq
  · have hk' : ∀ q ∈ rhoL, ¬ (a = q.1 ∧ b = q.2.1) := fun q hq e => hk ⟨q, hq, e⟩
    rw [asg_out _ _ _ _ hk']
    show 0 = if a = 19 ∧ b = 4 then 0 else refF a b
    rw [refF_out hk']; simp
theorem hXz : InvX (fun _ _ => 0) := by
  have key : ∀ q ∈ ivL, q.2.2.2.1 ≤ 0 ∧ 0 ≤ q.2.2.2.2 := by decide
  exact fun q hq j _ _ => key q hq
theorem hJz : InvJ (fun _ _ => 0) := by
  have key : ∀ q ∈ jvL, q.2.2.2.1 ≤ 0 ∧ 0 ≤ q.2.2.2.2 := by decide
  exact fun q hq j _ _ => key q hq
theorem JS_0 {σ : Nat → Int → Int} (e1 : σ 69 1 = 0) (e47 : σ 69 47 = 0) (e41 : σ 69 41 = 0) (e50 : σ 69 50 = 0) (e11 : σ 69 11 = -1) (e10 : σ 69 10 = 0) (e45 : σ 69 45 = -1) (e : (0 : Nat) = 0) : JS σ :=
  ⟨⟨fun f a b => by omega, fun f a b => by omega, fun f a b => by omega, fun f a b => by omega, by omega, by omega⟩, fun f a b => by omega⟩
theorem jv_frX {σ σ' : Nat → Int → Int} (h : InvJ σ) (hF : Fr xAll σ σ') : InvJ σ' := by
  have key : ∀ q ∈ jvL, 69 ≤ q.1 := by decide
  exact jv_fr h hF (fun q hq j _ _ => by unfold xAll; simp; exact key q hq)
theorem iv_frJ {σ σ' : Nat → Int → Int} (h : InvX σ) (hF : Fr jAll σ σ') : InvX σ' := by
  have key : ∀ q ∈ ivL, q.1 < 69 := by decide
  exact iv_fr h hF (fun q hq j _ _ => by unfold jAll; simp; exact key q hq)
theorem JS_frX {σ σ' : Nat → Int → Int} (h : JS σ) (hF : Fr xAll σ σ') : JS σ' := by
  have e : ∀ k j, 69 ≤ k → σ' k j = σ k j := fun k j hk => hF k j (by unfold xAll; simp; exact hk)
  obtain ⟨⟨h1, h2, h3, h4, h5, h6⟩, hw⟩ := h
  have e1 := e 69 1 (by decide)
  have e10 := e 69 10 (by decide)
  have e11 := e 69 11 (by decide)
  have e41 := e 69 41 (by decide)
  have e45 := e 69 45 (by decide)
  have e47 := e 69 47 (by decide)
  have e50 := e 69 50 (by decide)
  refine ⟨⟨fun f a b => ?_, fun f a b => ?_, fun f a b => ?_, fun f a b => ?_, by omega, by omega⟩, JW_of hw e10 (fun j => e 79 j (by decide)) (fun j => e 80 j (by decide)) (fun j => e 82 j (by decide)) (fun j => e 83 j (by decide)) (fun j => e 84 j (by decide))⟩
  · rw [e 77 f (by decide)]; exact h1 f a (by omega)
  · rw [e 102 f (by decide)]; exact h2 f a (by omega)
  · rw [e 93 f (by decide), e1]; exact h3 f a (by omega)
  · rw [e 105 f (by decide), e47]; exact h4 f a (by omega)
def scr (Γ : KT) (i : Int) : Int := (kX Γ i.toNat).toInt
theorem scrR (Γ : KT) (i : Int) : R32 (scr Γ i) := z_R _
theorem tapeFR (a b c : Int) : R32 (tapeF a b c) := by unfold tapeF; split; omega; split; omega; split; omega; split <;> omega
section GL
variable {Γ : KT} {M : MI} {d : Nat} {B : Nat × Nat} {post : Option Value → St → Prop} {u : Nat × Nat} {pc : Nat} {L : List (Option Value)} {st : List Value} {τ : St}
theorem g_slen (hd : decode M.2.1 pc = .ok (.arraylength, 1)) (k : G Γ M d B post u (pc + 1) L (vI ((kS Γ 3 : Nat) : Int) :: st) τ) : G Γ M d B post u pc L (.ref (kS Γ 2) :: st) τ := by
  intro p e R s m args below meth cd Q H locs ls C F hl' hW hS
  obtain ⟨cell, h2, h3, h4, h5, h6, h7, h8⟩ := C.2.2.2.2.2.1.2.2.2.2.2.2.2.2.2.2.2.2
  refine W.alen C.1 C.2.1 (kept_cell hW h2) h3 (n := Int32.ofInt (kS Γ 3 : Nat)) ?_ rfl rfl hd (k p e R s m args below meth cd Q H locs ls C F hl' hW hS)
  rw [h6, Int32.ofInt_eq_ofNat]
theorem g_sld {i : Int} (h0 : 0 ≤ i) (h1 : i < (kS Γ 3 : Nat) ∧ i < 100000) (hd : decode M.2.1 pc = .ok (.iaload, 1)) (k : G Γ M d B post u (pc + 1) L (vI (scr Γ i) :: st) τ) : G Γ M d B post u pc L (vI i :: .ref (kS Γ 2) :: st) τ := by
  intro p e R s m args below meth cd Q H locs ls C F hl' hW hS
  refine w_ti C hW C.2.2.2.2.2.1.2.2.2.2.2.2.2.2.2.2.2.2 h0 h1.1 (by omega) ?_ hd (k p e R s m args below meth cd Q H locs ls C F hl' hW hS)
  show Value.int _ = vI _
  unfold vI scr
  rw [Int32.ofInt_toInt]
end GL
set_option maxHeartbeats 20000000 in
set_option maxRecDepth 20000 in
theorem law_G (Γ : KT) (hL : kS Γ 3 ≤ 3072) : G Γ mL_law 64 (113, 3343) (fun v _ => v = some (vI 1)) (0, 0) 0 [some (.ref (kS Γ 2)), none, none, none] [] (0, fun _ _ => 0, fun _ _ => 0) := by
  have hZ : Z 0 (fun _ _ => 0) (fun _ _ => 0) := fun k _ => ⟨fun _ => rfl, fun _ => rfl⟩
  refine g_new (M := mL_law) (pc := 0) (ci := 9) rfl rfl newX10 kL_7 hfX10 (Z_at hZ) dL_law_0 (Nat.le_of_ble_eq_true rfl) (Nat.le_of_ble_eq_true rfl) (kk := ?_)
  have hZ0 : Z 1 (fun _ _ => 0) (fun _ _ => 0) := Z_n hZ
  refine g_dupR (M := mL_law) (pc := 3) dL_law_3 (k := ?_)
  refine g_cIC (M := mL_law) (pc := 4) (c_X10_init_0 Γ 0 _ _ hZ0) qX10_init vX10_init rfl kL_9 rfl (by omega) (by decide) ⟨Nat.le_of_ble_eq_true rfl, Nat.le_of_ble_eq_true rfl⟩ (Nat.le_of_ble_eq_true rfl) dL_law_4 rfl (kk := fun hZ4 => ?_)
  refine g_astore_1 (M := mL_law) (pc := 7) dL_law_7 (k := ?_)
  refine g_new (M := mL_law) (pc := 8) (ci := 10) rfl rfl newX11 kL_10 hfX11 (Z_at hZ4) dL_law_8 (Nat.le_of_ble_eq_true rfl) (Nat.le_of_ble_eq_true rfl) (kk := ?_)
  have hZ8 : Z 70 (upr (upr (upr (upr (upr (upr (upr (upr (upr (upr (upr (upr (upr (upr (upr (upr (upr (upr (upr (upr (upr (upr (upr (upr (upr (upr (upr (upr (upr (upr (upr (upr (upr (upr (upr (upr (upr (upr (upr (upr (upr (upr (upr (upr (upr (upr (upr (upr (upr (upr (upr (upr (upr (upr (upr (upr (upr (upr (upr (upr (upr (upr (upr (upr (upr (upr (upr (upr (upr (upr (upr (upr (fun _ _ => 0) 1 1 3) 1 2 4) 1 3 5) 1 4 6) 1 5 7) 1 7 8) 1 8 9) 1 9 10) 10 0 12) 10 1 13) 1 10 11) 13 0 15) 13 1 16) 1 11 14) 16 0 18) 16 1 19) 1 12 17) 0 1 2) 19 0 21) 0 3 20) 21 0 23) 0 6 22) 24 0 26) 24 1 27) 24 2 28) 24 3 29) 24 4 30) 24 5 31) 23 0 25) 23 1 32) 23 2 33) 0 7 24) 33 1 35) 33 2 36) 33 3 37) 33 4 38) 33 5 39) 33 7 40) 33 8 41) 33 9 42) 42 0 44) 42 1 45) 33 10 43) 45 0 47) 45 1 48) 33 11 46) 48 0 50) 48 1 51) 33 12 49) 52 0 54) 52 1 55) 52 2 56) 52 3 57) 52 4 58) 52 5 59) 51 0 53) 51 1 60) 51 2 61) 51 4 62) 0 0 34) 0 4 52) 63 0 65) 63 1 66) 62 3 64) 62 0 34) 62 1 52) 66 2 68) 66 3 69) 66 0 34) 66 1 52) 62 2 67) 0 5 63) (up (up (up (up (up (up (up (up (up (fun _ _ => 0) 1 13 (-1)) 19 3 (-1)) 32 0 (-1)) 32 1 (-1)) 32 2 (-1)) 32 3 (-1)) 32 4 (-1)) 32 5 (-1)) 33 13 (-1)) := Z_n hZ4
  refine g_dupR (M := mL_law) (pc := 11) dL_law_11 (k := ?_)
  refine g_cIC (M := mL_law) (pc := 12) (c_X11_init_69 Γ 0 _ _ hZ8) qX11_init vX11_init rfl kL_12 rfl (by omega) (by decide) ⟨Nat.le_of_ble_eq_true rfl, Nat.le_of_ble_eq_true rfl⟩ (Nat.le_of_ble_eq_true rfl) dL_law_12 rfl (kk := fun hZ12 => ?_)
  refine g_astore_2 (M := mL_law) (pc := 15) dL_law_15 (k := ?_)
  show G Γ mL_law 64 (113, 3343) _ (113, 3343) 16 [some (.ref (kS Γ 2)), some (vR Γ 0), some (vR Γ 69), none] [] (113, (upr (upr (upr (upr (upr (upr (upr (upr (upr (upr (upr (upr (upr (upr (upr (upr (upr (upr (upr (upr (upr (upr (upr (upr (upr (upr (upr (upr (upr (upr (upr (upr (upr (upr (upr (upr (upr (upr (upr (upr (upr (upr (upr (upr (upr (upr (upr (upr (upr (upr (upr (upr (upr (upr (upr (upr (upr (upr (upr (upr (upr (upr (upr (upr (upr (upr (upr (upr (upr (upr (upr (upr (upr (upr (upr (upr (upr (upr (upr (upr (upr (upr (upr (upr (upr (upr (upr (upr (upr (upr (upr (upr (upr (upr (upr (upr (upr (upr (upr (upr (upr (upr (upr (upr (upr (upr (upr (upr (upr (upr (upr (upr (upr (upr (upr (fun _ _ => 0) 1 1 3) 1 2 4) 1 3 5) 1 4 6) 1 5 7) 1 7 8) 1 8 9) 1 9 10) 10 0 12) 10 1 13) 1 10 11) 13 0 15) 13 1 16) 1 11 14) 16 0 18) 16 1 19) 1 12 17) 0 1 2) 19 0 21) 0 3 20) 21 0 23) 0 6 22) 24 0 26) 24 1 27) 24 2 28) 24 3 29) 24 4 30) 24 5 31) 23 0 25) 23 1 32) 23 2 33) 0 7 24) 33 1 35) 33 2 36) 33 3 37) 33 4 38) 33 5 39) 33 7 40) 33 8 41) 33 9 42) 42 0 44) 42 1 45) 33 10 43) 45 0 47) 45 1 48) 33 11 46) 48 0 50) 48 1 51) 33 12 49) 52 0 54) 52 1 55) 52 2 56) 52 3 57) 52 4 58) 52 5 59) 51 0 53) 51 1 60) 51 2 61) 51 4 62) 0 0 34) 0 4 52) 63 0 65) 63 1 66) 62 3 64) 62 0 34) 62 1 52) 66 2 68) 66 3 69) 66 0 34) 66 1 52) 62 2 67) 0 5 63) 69 2 71) 69 3 72) 69 4 73) 69 5 74) 69 6 75) 69 7 76) 69 8 77) 69 9 78) 69 15 79) 69 16 80) 69 17 81) 69 18 82) 69 19 83) 69 20 84) 69 21 85) 69 22 86) 69 26 87) 69 27 88) 69 35 89) 69 36 90) 69 37 91) 69 39 92) 69 40 93) 69 42 94) 69 43 95) 69 51 96) 69 52 97) 69 53 98) 69 54 99) 69 55 100) 69 56 101) 69 57 102) 69 58 103) 69 59 104) 69 60 105) 69 61 106) 69 62 107) 69 63 108) 69 65 109) 69 66 110) 69 67 111) 69 68 112) 69 69 113), (up (up (up (up (up (up (up (up (up (up (up (up (up (up (up (up (up (up (up (up (up (up (up (up (up (up (up (up (up (up (up (up (up (up (up (up (up (up (up (up (up (up (up (up (up (up (up (up (up (up (up (up (up (up (up (fun _ _ => 0) 1 13 (-1)) 19 3 (-1)) 32 0 (-1)) 32 1 (-1)) 32 2 (-1)) 32 3 (-1)) 32 4 (-1)) 32 5 (-1)) 33 13 (-1)) 69 0 0) 69 1 0) 69 10 0) 69 11 (-1)) 69 12 0) 69 13 0) 69 14 0) 69 23 0) 69 24 0) 69 25 0) 86 0 99) 86 1 111) 86 2 117) 86 3 110) 86 4 116) 86 5 119) 86 6 97) 86 7 108) 86 8 107) 86 9 100) 86 10 97) 86 11 119) 86 12 110) 69 28 0) 69 29 0) 69 30 0) 69 31 0) 69 32 0) 69 33 0) 69 34 0) 69 38 0) 69 41 0) 69 44 0) 69 45 (-1)) 69 46 0) 69 47 0) 69 48 0) 69 49 0) 69 50 0) 69 64 0) 109 0 (-1)) 109 1 (-1)) 109 2 (-1)) 109 3 (-1)) 109 4 (-1)) 109 5 (-1)))
  rw [rho_eq]
  have hX0 : InvX ((up (up (up (up (up (up (up (up (up (up (up (up (up (up (up (up (up (up (up (up (up (up (up (up (up (up (up (up (up (up (up (up (up (up (up (up (up (up (up (up (up (up (up (up (up (up (up (up (up (up (up (up (up (up (up (fun _ _ => 0) 1 13 (-1)) 19 3 (-1)) 32 0 (-1)) 32 1 (-1)) 32 2 (-1)) 32 3 (-1)) 32 4 (-1)) 32 5 (-1)) 33 13 (-1)) 69 0 0) 69 1 0) 69 10 0) 69 11 (-1)) 69 12 0) 69 13 0) 69 14 0) 69 23 0) 69 24 0) 69 25 0) 86 0 99) 86 1 111) 86 2 117) 86 3 110) 86 4 116) 86 5 119) 86 6 97) 86 7 108) 86 8 107) 86 9 100) 86 10 97) 86 11 119) 86 12 110) 69 28 0) 69 29 0) 69 30 0) 69 31 0) 69 32 0) 69 33 0) 69 34 0) 69 38 0) 69 41 0) 69 44 0) 69 45 (-1)) 69 46 0) 69 47 0) 69 48 0) 69 49 0) 69 50 0) 69 64 0) 109 0 (-1)) 109 1 (-1)) 109 2 (-1)) 109 3 (-1)) 109 4 (-1)) 109 5 (-1))) := by
    refine iv_cell ?_ (by rfl)
    refine iv_cell ?_ (by rfl)
    refine iv_cell ?_ (by rfl)
    refine iv_cell ?_ (by rfl)
    refine iv_cell ?_ (by rfl)
    refine iv_cell ?_ (by rfl)
    refine iv_cell ?_ (by rfl)
    refine iv_cell ?_ (by rfl)
    refine iv_cell ?_ (by rfl)
    refine iv_cell ?_ (by rfl)
    refine iv_cell ?_ (by rfl)
    refine iv_cell ?_ (by rfl)
    refine iv_cell ?_ (by rfl)
    refine iv_cell ?_ (by rfl)
    refine iv_cell ?_ (by rfl)
    refine iv_cell ?_ (by rfl)
    refine iv_cell ?_ (by rfl)
    refine iv_cell ?_ (by rfl)
    refine iv_cell ?_ (by rfl)
    refine iv_cell ?_ (by rfl)
    refine iv_cell ?_ (by rfl)
    refine iv_cell ?_ (by rfl)
    refine iv_cell ?_ (by rfl)
    refine iv_cell ?_ (by rfl)
    refine iv_cell ?_ (by rfl)
    refine iv_cell ?_ (by rfl)
    refine iv_cell ?_ (by rfl)
    refine iv_cell ?_ (by rfl)
    refine iv_cell ?_ (by rfl)
    refine iv_cell ?_ (by rfl)
    refine iv_cell ?_ (by rfl)
    refine iv_cell ?_ (by rfl)
    refine iv_cell ?_ (by rfl)
    refine iv_cell ?_ (by rfl)
    refine iv_cell ?_ (by rfl)
    refine iv_cell ?_ (by rfl)
    refine iv_cell ?_ (by rfl)
    refine iv_cell ?_ (by rfl)
    refine iv_cell ?_ (by rfl)
    refine iv_cell ?_ (by rfl)
    refine iv_cell ?_ (by rfl)
    refine iv_cell ?_ (by rfl)
    refine iv_cell ?_ (by rfl)
    refine iv_cell ?_ (by rfl)
    refine iv_cell ?_ (by rfl)
    refine iv_cell ?_ (by rfl)
    refine iv_free ?_ (by rfl)
    refine ivu32 ?_ (by omega) (by omega)
    refine ivu32 ?_ (by omega) (by omega)
    refine ivu32 ?_ (by omega) (by omega)
    refine ivu32 ?_ (by omega) (by omega)
    refine ivu32 ?_ (by omega) (by omega)
    refine ivu32 ?_ (by omega) (by omega)
    refine iv_free ?_ (by rfl)
    refine iv_free ?_ (by rfl)
    exact hXz
  have hJ0 : InvJ ((up (up (up (up (up (up (up (up (up (up (up (up (up (up (up (up (up (up (up (up (up (up (up (up (up (up (up (up (up (up (up (up (up (up (up (up (up (up (up (up (up (up (up (up (up (up (up (up (up (up (up (up (up (up (up (fun _ _ => 0) 1 13 (-1)) 19 3 (-1)) 32 0 (-1)) 32 1 (-1)) 32 2 (-1)) 32 3 (-1)) 32 4 (-1)) 32 5 (-1)) 33 13 (-1)) 69 0 0) 69 1 0) 69 10 0) 69 11 (-1)) 69 12 0) 69 13 0) 69 14 0) 69 23 0) 69 24 0) 69 25 0) 86 0 99) 86 1 111) 86 2 117) 86 3 110) 86 4 116) 86 5 119) 86 6 97) 86 7 108) 86 8 107) 86 9 100) 86 10 97) 86 11 119) 86 12 110) 69 28 0) 69 29 0) 69 30 0) 69 31 0) 69 32 0) 69 33 0) 69 34 0) 69 38 0) 69 41 0) 69 44 0) 69 45 (-1)) 69 46 0) 69 47 0) 69 48 0) 69 49 0) 69 50 0) 69 64 0) 109 0 (-1)) 109 1 (-1)) 109 2 (-1)) 109 3 (-1)) 109 4 (-1)) 109 5 (-1))) := by
    refine jvu109 ?_ (by omega) (by omega)
    refine jvu109 ?_ (by omega) (by omega)
    refine jvu109 ?_ (by omega) (by omega)
    refine jvu109 ?_ (by omega) (by omega)
    refine jvu109 ?_ (by omega) (by omega)
    refine jvu109 ?_ (by omega) (by omega)
    refine jvu69_64 ?_ (by omega) (by omega)
    refine jvu69_50 ?_ (by omega) (by omega)
    refine jvu69_49 ?_ (by omega) (by omega)
    refine jvu69_48 ?_ (by omega) (by omega)
    refine jvu69_47 ?_ (by omega) (by omega)
    refine jvu69_46 ?_ (by omega) (by omega)
    refine jvu69_45 ?_ (by omega) (by omega)
    refine jv_free ?_ (by rfl)
    refine jvu69_41 ?_ (by omega) (by omega)
    refine jvu69_38 ?_ (by omega) (by omega)
    refine jvu69_34 ?_ (by omega) (by omega)
    refine jv_free ?_ (by rfl)
    refine jv_free ?_ (by rfl)
    refine jvu69_31 ?_ (by omega) (by omega)
    refine jvu69_30 ?_ (by omega) (by omega)
    refine jvu69_29 ?_ (by omega) (by omega)
    refine jvu69_28 ?_ (by omega) (by omega)
    refine jvu86 ?_ (by omega) (by omega)
    refine jvu86 ?_ (by omega) (by omega)
    refine jvu86 ?_ (by omega) (by omega)
    refine jvu86 ?_ (by omega) (by omega)
    refine jvu86 ?_ (by omega) (by omega)
    refine jvu86 ?_ (by omega) (by omega)
    refine jvu86 ?_ (by omega) (by omega)
    refine jvu86 ?_ (by omega) (by omega)
    refine jvu86 ?_ (by omega) (by omega)
    refine jvu86 ?_ (by omega) (by omega)
    refine jvu86 ?_ (by omega) (by omega)
    refine jvu86 ?_ (by omega) (by omega)
    refine jvu86 ?_ (by omega) (by omega)
    refine jv_free ?_ (by rfl)
    refine jvu69_24 ?_ (by omega) (by omega)
    refine jvu69_23 ?_ (by omega) (by omega)
    refine jvu69_14 ?_ (by omega) (by omega)
    refine jvu69_13 ?_ (by omega) (by omega)
    refine jvu69_12 ?_ (by omega) (by omega)
    refine jvu69_11 ?_ (by omega) (by omega)
    refine jvu69_10 ?_ (by omega) (by omega)
    refine jvu69_1 ?_ (by omega) (by omega)
    refine jvu69_0 ?_ (by omega) (by omega)
    refine jv_cell ?_ (by rfl)
    refine jv_cell ?_ (by rfl)
    refine jv_cell ?_ (by rfl)
    refine jv_cell ?_ (by rfl)
    refine jv_cell ?_ (by rfl)
    refine jv_cell ?_ (by rfl)
    refine jv_cell ?_ (by rfl)
    refine jv_cell ?_ (by rfl)
    refine jv_cell ?_ (by rfl)
    exact hJz
  have hS0 : JS ((up (up (up (up (up (up (up (up (up (up (up (up (up (up (up (up (up (up (up (up (up (up (up (up (up (up (up (up (up (up (up (up (up (up (up (up (up (up (up (up (up (up (up (up (up (up (up (up (up (up (up (up (up (up (up (fun _ _ => 0) 1 13 (-1)) 19 3 (-1)) 32 0 (-1)) 32 1 (-1)) 32 2 (-1)) 32 3 (-1)) 32 4 (-1)) 32 5 (-1)) 33 13 (-1)) 69 0 0) 69 1 0) 69 10 0) 69 11 (-1)) 69 12 0) 69 13 0) 69 14 0) 69 23 0) 69 24 0) 69 25 0) 86 0 99) 86 1 111) 86 2 117) 86 3 110) 86 4 116) 86 5 119) 86 6 97) 86 7 108) 86 8 107) 86 9 100) 86 10 97) 86 11 119) 86 12 110) 69 28 0) 69 29 0) 69 30 0) 69 31 0) 69 32 0) 69 33 0) 69 34 0) 69 38 0) 69 41 0) 69 44 0) 69 45 (-1)) 69 46 0) 69 47 0) 69 48 0) 69 49 0) 69 50 0) 69 64 0) 109 0 (-1)) 109 1 (-1)) 109 2 (-1)) 109 3 (-1)) 109 4 (-1)) 109 5 (-1))) := JS_0 rfl rfl rfl rfl rfl rfl rfl rfl
  have hR0 : R1 ((up (up (up (up (up (up (up (up (up (up (up (up (up (up (up (up (up (up (up (up (up (up (up (up (up (up (up (up (up (up (up (up (up (up (up (up (up (up (up (up (up (up (up (up (up (up (up (up (up (up (up (up (up (up (up (fun _ _ => 0) 1 13 (-1)) 19 3 (-1)) 32 0 (-1)) 32 1 (-1)) 32 2 (-1)) 32 3 (-1)) 32 4 (-1)) 32 5 (-1)) 33 13 (-1)) 69 0 0) 69 1 0) 69 10 0) 69 11 (-1)) 69 12 0) 69 13 0) 69 14 0) 69 23 0) 69 24 0) 69 25 0) 86 0 99) 86 1 111) 86 2 117) 86 3 110) 86 4 116) 86 5 119) 86 6 97) 86 7 108) 86 8 107) 86 9 100) 86 10 97) 86 11 119) 86 12 110) 69 28 0) 69 29 0) 69 30 0) 69 31 0) 69 32 0) 69 33 0) 69 34 0) 69 38 0) 69 41 0) 69 44 0) 69 45 (-1)) 69 46 0) 69 47 0) 69 48 0) 69 49 0) 69 50 0) 69 64 0) 109 0 (-1)) 109 1 (-1)) 109 2 (-1)) 109 3 (-1)) 109 4 (-1)) 109 5 (-1))) := R1_0 ⟨rfl, rfl, rfl, rfl, rfl, rfl, rfl, rfl, rfl, rfl, rfl⟩ (fun k hk j => by
    simp only [zcL, List.mem_cons, List.not_mem_nil, or_false] at hk
    rcases hk with rfl | rfl | rfl | rfl | rfl | rfl | rfl | rfl | rfl | rfl | rfl | rfl | rfl | rfl | rfl | rfl | rfl | rfl | rfl | rfl | rfl | rfl | rfl | rfl | rfl | rfl | rfl | rfl | rfl | rfl | rfl | rfl | rfl | rfl | rfl | rfl | rfl | rfl | rfl | rfl | rfl | rfl | rfl | rfl | rfl | rfl | rfl | rfl | rfl | rfl | rfl | rfl <;> rfl)
  generalize ((up (up (up (up (up (up (up (up (up (up (up (up (up (up (up (up (up (up (up (up (up (up (up (up (up (up (up (up (up (up (up (up (up (up (up (up (up (up (up (up (up (up (up (up (up (up (up (up (up (up (up (up (up (up (up (fun _ _ => 0) 1 13 (-1)) 19 3 (-1)) 32 0 (-1)) 32 1 (-1)) 32 2 (-1)) 32 3 (-1)) 32 4 (-1)) 32 5 (-1)) 33 13 (-1)) 69 0 0) 69 1 0) 69 10 0) 69 11 (-1)) 69 12 0) 69 13 0) 69 14 0) 69 23 0) 69 24 0) 69 25 0) 86 0 99) 86 1 111) 86 2 117) 86 3 110) 86 4 116) 86 5 119) 86 6 97) 86 7 108) 86 8 107) 86 9 100) 86 10 97) 86 11 119) 86 12 110) 69 28 0) 69 29 0) 69 30 0) 69 31 0) 69 32 0) 69 33 0) 69 34 0) 69 38 0) 69 41 0) 69 44 0) 69 45 (-1)) 69 46 0) 69 47 0) 69 48 0) 69 49 0) 69 50 0) 69 64 0) 109 0 (-1)) 109 1 (-1)) 109 2 (-1)) 109 3 (-1)) 109 4 (-1)) 109 5 (-1))) = τ0 at hX0 hJ0 hS0 hR0 ⊢
  refine g_iconst (M := mL_law) (pc := 16) dL_law_16 (k := ?_)
  refine g_istore_3 (M := mL_law) (pc := 17) dL_law_17 (k := ?_)
  have loop18 : ∀ (N : Nat) (t : Nat) (τ18 : Nat → Int → Int) (i : Int), ((kS Γ 3 : Int) + 6 - i).toNat < N → (InvX τ18 ∧ InvJ τ18 ∧ JS τ18 ∧ R1 τ18 ∧ 0 ≤ i ∧ i ≤ 4000) → G Γ mL_law 64 (113, 3343) (fun v _ => v = some (vI 1)) (113, 3343) 18 [some (.ref (kS Γ 2)), some (vR Γ 0), some (vR Γ 69), some (vI i)] [] (113, ρT t, τ18) := by
    intro N
    induction N with
    | zero => intro t τ18 i hmu hinv; exact absurd hmu (Nat.not_lt_zero _)
    | succ N ih18 =>
      intro t τ18 i hmu hinv
      obtain ⟨hX18, hJ18, hS18, hR18, hi⟩ := hinv
      refine g_iload_n (M := mL_law) (pc := 18) dL_law_18 rfl (k := ?_)
      refine g_aload_n (M := mL_law) (pc := 19) dL_law_19 rfl (k := ?_)
      refine g_slen (M := mL_law) (pc := 20) dL_law_20 (k := ?_)
      refine g_bipush (M := mL_law) (pc := 21) dL_law_21 (k := ?_)
      refine g_isub (M := mL_law) (pc := 23) dL_law_23 (k := ?_)
      refine g_icmp_gt (M := mL_law) (pc := 24) (tgt := 1502) (by omega) (by omega) dL_law_24 (k1 := fun h24 => ?_) (k2 := fun h24 => ?_)
      · skip
        refine g_iconst (M := mL_law) (pc := 1502) dL_law_1502 (k := ?_)
        refine g_zret (M := mL_law) (pc := 1503) (by omega) rfl dL_law_1503 rfl ?_
        rfl
      · skip
        refine g_aload_n (M := mL_law) (pc := 27) dL_law_27 rfl (k := ?_)
        refine g_iload_n (M := mL_law) (pc := 28) dL_law_28 rfl (k := ?_)
        refine g_sld (M := mL_law) (pc := 29) (by omega) (by omega) dL_law_29 (k := ?_)
        have hr29 := scrR Γ (i)
        refine g_bipush (M := mL_law) (pc := 30) dL_law_30 (k := ?_)
        refine g_iand (M := mL_law) (pc := 32) dL_law_32 (k := ?_)
        have hz32 := zandR (scr Γ (i)) 63
        by_cases hsw33 : (zand (scr Γ (i)) 63) < 0 ∨ 37 < (zand (scr Γ (i)) 63)
        · skip
          refine g_tableOut (M := mL_law) (pc := 33) (tgt := 1496) (by omega) dL_law_33 (h := hsw33) (k := ?_)
          refine g_iinc_3 (M := mL_law) (pc := 1496) dL_law_1496 (k := ?_)
          refine g_goto (M := mL_law) (pc := 1499) (tgt := 18) dL_law_1499 (k := ?_)
          exact ih18 _ _ _ (by omega) ⟨hX18, hJ18, hS18, hR18, by omega, by omega⟩
        · obtain hc33 | hc33 | hc33 | hc33 | hc33 | hc33 | hc33 | hc33 | hc33 | hc33 | hc33 | hc33 | hc33 | hc33 | hc33 | hc33 | hc33 | hc33 | hc33 | hc33 | hc33 | hc33 | hc33 | hc33 | hc33 | hc33 | hc33 | hc33 | hc33 | hc33 | hc33 | hc33 | hc33 | hc33 | hc33 | hc33 | hc33 | hc33 : (zand (scr Γ (i)) 63) = 0 ∨ (zand (scr Γ (i)) 63) = 1 ∨ (zand (scr Γ (i)) 63) = 2 ∨ (zand (scr Γ (i)) 63) = 3 ∨ (zand (scr Γ (i)) 63) = 4 ∨ (zand (scr Γ (i)) 63) = 5 ∨ (zand (scr Γ (i)) 63) = 6 ∨ (zand (scr Γ (i)) 63) = 7 ∨ (zand (scr Γ (i)) 63) = 8 ∨ (zand (scr Γ (i)) 63) = 9 ∨ (zand (scr Γ (i)) 63) = 10 ∨ (zand (scr Γ (i)) 63) = 11 ∨ (zand (scr Γ (i)) 63) = 12 ∨ (zand (scr Γ (i)) 63) = 13 ∨ (zand (scr Γ (i)) 63) = 14 ∨ (zand (scr Γ (i)) 63) = 15 ∨ (zand (scr Γ (i)) 63) = 16 ∨ (zand (scr Γ (i)) 63) = 17 ∨ (zand (scr Γ (i)) 63) = 18 ∨ (zand (scr Γ (i)) 63) = 19 ∨ (zand (scr Γ (i)) 63) = 20 ∨ (zand (scr Γ (i)) 63) = 21 ∨ (zand (scr Γ (i)) 63) = 22 ∨ (zand (scr Γ (i)) 63) = 23 ∨ (zand (scr Γ (i)) 63) = 24 ∨ (zand (scr Γ (i)) 63) = 25 ∨ (zand (scr Γ (i)) 63) = 26 ∨ (zand (scr Γ (i)) 63) = 27 ∨ (zand (scr Γ (i)) 63) = 28 ∨ (zand (scr Γ (i)) 63) = 29 ∨ (zand (scr Γ (i)) 63) = 30 ∨ (zand (scr Γ (i)) 63) = 31 ∨ (zand (scr Γ (i)) 63) = 32 ∨ (zand (scr Γ (i)) 63) = 33 ∨ (zand (scr Γ (i)) 63) = 34 ∨ (zand (scr Γ (i)) 63) = 35 ∨ (zand (scr Γ (i)) 63) = 36 ∨ (zand (scr Γ (i)) 63) = 37 := by omega
          · skip
            refine g_tableIn (M := mL_law) (pc := 33) (tgt := 200) (by omega) dL_law_33 (0) hc33 (k := ?_)
            refine g_aload_n (M := mL_law) (pc := 200) dL_law_200 rfl (k := ?_)
            refine g_aload_n (M := mL_law) (pc := 201) dL_law_201 rfl (k := ?_)
            refine g_iload_n (M := mL_law) (pc := 202) dL_law_202 rfl (k := ?_)
            refine g_iconst (M := mL_law) (pc := 203) dL_law_203 (k := ?_)
            refine g_iadd (M := mL_law) (pc := 204) dL_law_204 (k := ?_)
            refine g_sld (M := mL_law) (pc := 205) (by omega) (by omega) dL_law_205 (k := ?_)
            have hr205 := scrR Γ (i + 1)
            refine g_aload_n (M := mL_law) (pc := 206) dL_law_206 rfl (k := ?_)
            refine g_iload_n (M := mL_law) (pc := 207) dL_law_207 rfl (k := ?_)
            refine g_iconst (M := mL_law) (pc := 208) dL_law_208 (k := ?_)
            refine g_iadd (M := mL_law) (pc := 209) dL_law_209 (k := ?_)
            refine g_sld (M := mL_law) (pc := 210) (by omega) (by omega) dL_law_210 (k := ?_)
            have hr210 := scrR Γ (i + 2)
            refine g_aload_n (M := mL_law) (pc := 211) dL_law_211 rfl (k := ?_)
            refine g_iload_n (M := mL_law) (pc := 212) dL_law_212 rfl (k := ?_)
            refine g_iconst (M := mL_law) (pc := 213) dL_law_213 (k := ?_)
            refine g_iadd (M := mL_law) (pc := 214) dL_law_214 (k := ?_)
            refine g_sld (M := mL_law) (pc := 215) (by omega) (by omega) dL_law_215 (k := ?_)
            have hr215 := scrR Γ (i + 3)
            refine g_cV3I (M := mL_law) (pc := 216) (c_X10_house Γ t _ _ _ _ hX18 (by omega) (by omega) (by omega)) qX10_house vX10_house sX10_house kL_13 dL_law_216 (kk := ?_)
            rintro r216 τ216 ⟨hi216, hx216, hv216, hG216⟩
            have hX216 := hv216
            have hJ216 := jv_frX hJ18 hG216
            have hS216 := JS_frX hS18 hG216
            refine g_aload_n (M := mL_law) (pc := 219) dL_law_219 rfl (k := ?_)
            refine g_aload_n (M := mL_law) (pc := 220) dL_law_220 rfl (k := ?_)
            refine g_iload_n (M := mL_law) (pc := 221) dL_law_221 rfl (k := ?_)
            refine g_iconst (M := mL_law) (pc := 222) dL_law_222 (k := ?_)
            refine g_iadd (M := mL_law) (pc := 223) dL_law_223 (k := ?_)
            refine g_sld (M := mL_law) (pc := 224) (by omega) (by omega) dL_law_224 (k := ?_)
            have hr224 := scrR Γ (i + 1)
            refine g_aload_n (M := mL_law) (pc := 225) dL_law_225 rfl (k := ?_)
            refine g_iload_n (M := mL_law) (pc := 226) dL_law_226 rfl (k := ?_)
            refine g_iconst (M := mL_law) (pc := 227) dL_law_227 (k := ?_)
            refine g_iadd (M := mL_law) (pc := 228) dL_law_228 (k := ?_)
            refine g_sld (M := mL_law) (pc := 229) (by omega) (by omega) dL_law_229 (k := ?_)
            have hr229 := scrR Γ (i + 2)
            refine g_aload_n (M := mL_law) (pc := 230) dL_law_230 rfl (k := ?_)
            refine g_iload_n (M := mL_law) (pc := 231) dL_law_231 rfl (k := ?_)
            refine g_iconst (M := mL_law) (pc := 232) dL_law_232 (k := ?_)
            refine g_iadd (M := mL_law) (pc := 233) dL_law_233 (k := ?_)
            refine g_sld (M := mL_law) (pc := 234) (by omega) (by omega) dL_law_234 (k := ?_)
            have hr234 := scrR Γ (i + 3)
            refine g_cV3I (M := mL_law) (pc := 235) (c_X11_house Γ t _ _ _ _ hJ216 (by omega) (by omega) (by omega)) qX11_house vX11_house sX11_house kL_17 dL_law_235 (kk := ?_)
            rintro r235 τ235 ⟨hx235, hv235, hG235⟩
            have hX235 := iv_frJ hX216 (Fr.mono hG235 sb_jNS_jAll)
            have hJ235 := hv235
            have hS235 := JS_fr hS216 hG235
            obtain ⟨hq235, hR235⟩ := st_house hR18 hX18 hx216 hx235
            refine g_icmp_eq (M := mL_law) (pc := 238) (tgt := 1496) (by omega) (by omega) dL_law_238 (k1 := fun h238 => ?_) (k2 := fun h238 => ?_)
            · skip
              refine g_iinc_3 (M := mL_law) (pc := 1496) dL_law_1496 (k := ?_)
              refine g_goto (M := mL_law) (pc := 1499) (tgt := 18) dL_law_1499 (k := ?_)
              exact ih18 _ _ _ (by omega) ⟨hX235, hJ235, hS235, hR235, by omega, by omega⟩
            · exact absurd hq235 h238
          · skip
            refine g_tableIn (M := mL_law) (pc := 33) (tgt := 243) (by omega) dL_law_33 (1) hc33 (k := ?_)
            refine g_aload_n (M := mL_law) (pc := 243) dL_law_243 rfl (k := ?_)
            refine g_aload_n (M := mL_law) (pc := 244) dL_law_244 rfl (k := ?_)
            refine g_iload_n (M := mL_law) (pc := 245) dL_law_245 rfl (k := ?_)
            refine g_iconst (M := mL_law) (pc := 246) dL_law_246 (k := ?_)
            refine g_iadd (M := mL_law) (pc := 247) dL_law_247 (k := ?_)
            refine g_sld (M := mL_law) (pc := 248) (by omega) (by omega) dL_law_248 (k := ?_)
            have hr248 := scrR Γ (i + 1)
            refine g_aload_n (M := mL_law) (pc := 249) dL_law_249 rfl (k := ?_)
            refine g_iload_n (M := mL_law) (pc := 250) dL_law_250 rfl (k := ?_)
            refine g_iconst (M := mL_law) (pc := 251) dL_law_251 (k := ?_)
            refine g_iadd (M := mL_law) (pc := 252) dL_law_252 (k := ?_)
            refine g_sld (M := mL_law) (pc := 253) (by omega) (by omega) dL_law_253 (k := ?_)
            have hr253 := scrR Γ (i + 2)
            refine g_aload_n (M := mL_law) (pc := 254) dL_law_254 rfl (k := ?_)
            refine g_iload_n (M := mL_law) (pc := 255) dL_law_255 rfl (k := ?_)
            refine g_iconst (M := mL_law) (pc := 256) dL_law_256 (k := ?_)
            refine g_iadd (M := mL_law) (pc := 257) dL_law_257 (k := ?_)
            refine g_sld (M := mL_law) (pc := 258) (by omega) (by omega) dL_law_258 (k := ?_)
            have hr258 := scrR Γ (i + 3)
            refine g_cV3I (M := mL_law) (pc := 259) (c_X10_folk Γ t _ _ _ _ hX18 (by omega) (by omega) (by omega)) qX10_folk vX10_folk sX10_folk kL_18 dL_law_259 (kk := ?_)
            rintro r259 τ259 ⟨hi259, hx259, hv259, hG259⟩
            have hX259 := hv259
            have hJ259 := jv_frX hJ18 hG259
            have hS259 := JS_frX hS18 hG259
            refine g_popI (M := mL_law) (pc := 262) dL_law_262 (k := ?_)
            refine g_aload_n (M := mL_law) (pc := 263) dL_law_263 rfl (k := ?_)
            refine g_aload_n (M := mL_law) (pc := 264) dL_law_264 rfl (k := ?_)
            refine g_iload_n (M := mL_law) (pc := 265) dL_law_265 rfl (k := ?_)
            refine g_iconst (M := mL_law) (pc := 266) dL_law_266 (k := ?_)
            refine g_iadd (M := mL_law) (pc := 267) dL_law_267 (k := ?_)
            refine g_sld (M := mL_law) (pc := 268) (by omega) (by omega) dL_law_268 (k := ?_)
            have hr268 := scrR Γ (i + 1)
            refine g_aload_n (M := mL_law) (pc := 269) dL_law_269 rfl (k := ?_)
            refine g_iload_n (M := mL_law) (pc := 270) dL_law_270 rfl (k := ?_)
            refine g_iconst (M := mL_law) (pc := 271) dL_law_271 (k := ?_)
            refine g_iadd (M := mL_law) (pc := 272) dL_law_272 (k := ?_)
            refine g_sld (M := mL_law) (pc := 273) (by omega) (by omega) dL_law_273 (k := ?_)
            have hr273 := scrR Γ (i + 2)
            refine g_aload_n (M := mL_law) (pc := 274) dL_law_274 rfl (k := ?_)
            refine g_iload_n (M := mL_law) (pc := 275) dL_law_275 rfl (k := ?_)
            refine g_iconst (M := mL_law) (pc := 276) dL_law_276 (k := ?_)
            refine g_iadd (M := mL_law) (pc := 277) dL_law_277 (k := ?_)
            refine g_sld (M := mL_law) (pc := 278) (by omega) (by omega) dL_law_278 (k := ?_)
            have hr278 := scrR Γ (i + 3)
            refine g_cV3I (M := mL_law) (pc := 279) (c_X11_folk Γ t _ _ _ _ hJ259 hS259 (by omega) (by omega) (by omega)) qX11_folk vX11_folk sX11_folk kL_21 dL_law_279 (kk := ?_)
            rintro r279 τ279 ⟨hs279, hx279, hv279, hG279⟩
            have hX279 := iv_frJ hX259 hG279
            have hJ279 := hv279
            have hS279 := hs279
            obtain ⟨hq279, hR279⟩ := st_folk hR18 hX18 hx259 hx279
            refine g_popI (M := mL_law) (pc := 282) dL_law_282 (k := ?_)
            refine g_goto (M := mL_law) (pc := 283) (tgt := 1496) dL_law_283 (k := ?_)
            refine g_iinc_3 (M := mL_law) (pc := 1496) dL_law_1496 (k := ?_)
            refine g_goto (M := mL_law) (pc := 1499) (tgt := 18) dL_law_1499 (k := ?_)
            exact ih18 _ _ _ (by omega) ⟨hX279, hJ279, hS279, hR279, by omega, by omega⟩
          · skip
            refine g_tableIn (M := mL_law) (pc := 33) (tgt := 286) (by omega) dL_law_33 (2) hc33 (k := ?_)
            refine g_aload_n (M := mL_law) (pc := 286) dL_law_286 rfl (k := ?_)
            refine g_aload_n (M := mL_law) (pc := 287) dL_law_287 rfl (k := ?_)
            refine g_iload_n (M := mL_law) (pc := 288) dL_law_288 rfl (k := ?_)
            refine g_iconst (M := mL_law) (pc := 289) dL_law_289 (k := ?_)
            refine g_iadd (M := mL_law) (pc := 290) dL_law_290 (k := ?_)
            refine g_sld (M := mL_law) (pc := 291) (by omega) (by omega) dL_law_291 (k := ?_)
            have hr291 := scrR Γ (i + 1)
            refine g_aload_n (M := mL_law) (pc := 292) dL_law_292 rfl (k := ?_)
            refine g_iload_n (M := mL_law) (pc := 293) dL_law_293 rfl (k := ?_)
            refine g_iconst (M := mL_law) (pc := 294) dL_law_294 (k := ?_)
            refine g_iadd (M := mL_law) (pc := 295) dL_law_295 (k := ?_)
            refine g_sld (M := mL_law) (pc := 296) (by omega) (by omega) dL_law_296 (k := ?_)
            have hr296 := scrR Γ (i + 2)
            refine g_cV2I (M := mL_law) (pc := 297) (c_X10_of Γ t _ _ _ hX18 (by omega) (by omega)) qX10_of vX10_of sX10_of kL_22 dL_law_297 (kk := ?_)
            rintro r297 τ297 ⟨hv297, hG297⟩
            have hX297 := hv297
            have hJ297 := jv_frX hJ18 (Fr.mono hG297 sb_scX_xAll)
            have hS297 := JS_frX hS18 (Fr.mono hG297 sb_scX_xAll)
            refine g_popI (M := mL_law) (pc := 300) dL_law_300 (k := ?_)
            refine g_aload_n (M := mL_law) (pc := 301) dL_law_301 rfl (k := ?_)
            refine g_aload_n (M := mL_law) (pc := 302) dL_law_302 rfl (k := ?_)
            refine g_iload_n (M := mL_law) (pc := 303) dL_law_303 rfl (k := ?_)
            refine g_iconst (M := mL_law) (pc := 304) dL_law_304 (k := ?_)
            refine g_iadd (M := mL_law) (pc := 305) dL_law_305 (k := ?_)
            refine g_sld (M := mL_law) (pc := 306) (by omega) (by omega) dL_law_306 (k := ?_)
            have hr306 := scrR Γ (i + 1)
            refine g_aload_n (M := mL_law) (pc := 307) dL_law_307 rfl (k := ?_)
            refine g_iload_n (M := mL_law) (pc := 308) dL_law_308 rfl (k := ?_)
            refine g_iconst (M := mL_law) (pc := 309) dL_law_309 (k := ?_)
            refine g_iadd (M := mL_law) (pc := 310) dL_law_310 (k := ?_)
            refine g_sld (M := mL_law) (pc := 311) (by omega) (by omega) dL_law_311 (k := ?_)
            have hr311 := scrR Γ (i + 2)
            refine g_cV2I (M := mL_law) (pc := 312) (c_X11_of Γ t _ _ _ hJ297 hS297 (by omega) (by omega)) qX11_of vX11_of sX11_of kL_26 dL_law_312 (kk := ?_)
            rintro r312 τ312 ⟨hv312, hG312⟩
            have hX312 := iv_frJ hX297 (Fr.mono hG312 sb_scJ_jAll)
            have hJ312 := hv312
            have hS312 := JS_fr hS297 (Fr.mono hG312 sb_scJ_jNS)
            have hR312 := R1_q hR18 (Fr.mono hG297 sb_scX_xNR) (Fr.mono hG312 sb_scJ_jNR)
            refine g_popI (M := mL_law) (pc := 315) dL_law_315 (k := ?_)
            refine g_goto (M := mL_law) (pc := 316) (tgt := 1496) dL_law_316 (k := ?_)
            refine g_iinc_3 (M := mL_law) (pc := 1496) dL_law_1496 (k := ?_)
            refine g_goto (M := mL_law) (pc := 1499) (tgt := 18) dL_law_1499 (k := ?_)
            exact ih18 _ _ _ (by omega) ⟨hX312, hJ312, hS312, hR312, by omega, by omega⟩
          · skip
            refine g_tableIn (M := mL_law) (pc := 33) (tgt := 319) (by omega) dL_law_33 (3) hc33 (k := ?_)
            refine g_aload_n (M := mL_law) (pc := 319) dL_law_319 rfl (k := ?_)
            refine g_aload_n (M := mL_law) (pc := 320) dL_law_320 rfl (k := ?_)
            refine g_iload_n (M := mL_law) (pc := 321) dL_law_321 rfl (k := ?_)
            refine g_iconst (M := mL_law) (pc := 322) dL_law_322 (k := ?_)
            refine g_iadd (M := mL_law) (pc := 323) dL_law_323 (k := ?_)
            refine g_sld (M := mL_law) (pc := 324) (by omega) (by omega) dL_law_324 (k := ?_)
            have hr324 := scrR Γ (i + 1)
            refine g_aload_n (M := mL_law) (pc := 325) dL_law_325 rfl (k := ?_)
            refine g_iload_n (M := mL_law) (pc := 326) dL_law_326 rfl (k := ?_)
            refine g_iconst (M := mL_law) (pc := 327) dL_law_327 (k := ?_)
            refine g_iadd (M := mL_law) (pc := 328) dL_law_328 (k := ?_)
            refine g_sld (M := mL_law) (pc := 329) (by omega) (by omega) dL_law_329 (k := ?_)
            have hr329 := scrR Γ (i + 2)
            refine g_cV2I (M := mL_law) (pc := 330) (c_X10_who Γ t _ _ _ hX18 (by omega) (by omega)) qX10_who vX10_who sX10_who kL_27 dL_law_330 (kk := ?_)
            rintro r330 τ330 ⟨hi330, hx330, hv330, hG330⟩
            have hX330 := hv330
            have hJ330 := jv_frX hJ18 (Fr.mono hG330 sb_scX_xAll)
            have hS330 := JS_frX hS18 (Fr.mono hG330 sb_scX_xAll)
            refine g_popI (M := mL_law) (pc := 333) dL_law_333 (k := ?_)
            refine g_aload_n (M := mL_law) (pc := 334) dL_law_334 rfl (k := ?_)
            refine g_aload_n (M := mL_law) (pc := 335) dL_law_335 rfl (k := ?_)
            refine g_iload_n (M := mL_law) (pc := 336) dL_law_336 rfl (k := ?_)
            refine g_iconst (M := mL_law) (pc := 337) dL_law_337 (k := ?_)
            refine g_iadd (M := mL_law) (pc := 338) dL_law_338 (k := ?_)
            refine g_sld (M := mL_law) (pc := 339) (by omega) (by omega) dL_law_339 (k := ?_)
            have hr339 := scrR Γ (i + 1)
            refine g_aload_n (M := mL_law) (pc := 340) dL_law_340 rfl (k := ?_)
            refine g_iload_n (M := mL_law) (pc := 341) dL_law_341 rfl (k := ?_)
            refine g_iconst (M := mL_law) (pc := 342) dL_law_342 (k := ?_)
            refine g_iadd (M := mL_law) (pc := 343) dL_law_343 (k := ?_)
            refine g_sld (M := mL_law) (pc := 344) (by omega) (by omega) dL_law_344 (k := ?_)
            have hr344 := scrR Γ (i + 2)
            refine g_cV2I (M := mL_law) (pc := 345) (c_X11_who Γ t _ _ _ hJ330 (by omega) (by omega)) qX11_who vX11_who sX11_who kL_30 dL_law_345 (kk := ?_)
            rintro r345 _ ⟨hx345, e⟩; rw [e]; clear e
            obtain ⟨hq345, hR330⟩ := st_who hR18 hX18 hx330 hx345
            refine g_popI (M := mL_law) (pc := 348) dL_law_348 (k := ?_)
            refine g_goto (M := mL_law) (pc := 349) (tgt := 1496) dL_law_349 (k := ?_)
            refine g_iinc_3 (M := mL_law) (pc := 1496) dL_law_1496 (k := ?_)
            refine g_goto (M := mL_law) (pc := 1499) (tgt := 18) dL_law_1499 (k := ?_)
            exact ih18 _ _ _ (by omega) ⟨hX330, hJ330, hS330, hR330, by omega, by omega⟩
          · skip
            refine g_tableIn (M := mL_law) (pc := 33) (tgt := 352) (by omega) dL_law_33 (4) hc33 (k := ?_)
            refine g_aload_n (M := mL_law) (pc := 352) dL_law_352 rfl (k := ?_)
            refine g_aload_n (M := mL_law) (pc := 353) dL_law_353 rfl (k := ?_)
            refine g_iload_n (M := mL_law) (pc := 354) dL_law_354 rfl (k := ?_)
            refine g_iconst (M := mL_law) (pc := 355) dL_law_355 (k := ?_)
            refine g_iadd (M := mL_law) (pc := 356) dL_law_356 (k := ?_)
            refine g_sld (M := mL_law) (pc := 357) (by omega) (by omega) dL_law_357 (k := ?_)
            have hr357 := scrR Γ (i + 1)
            refine g_aload_n (M := mL_law) (pc := 358) dL_law_358 rfl (k := ?_)
            refine g_iload_n (M := mL_law) (pc := 359) dL_law_359 rfl (k := ?_)
            refine g_iconst (M := mL_law) (pc := 360) dL_law_360 (k := ?_)
            refine g_iadd (M := mL_law) (pc := 361) dL_law_361 (k := ?_)
            refine g_sld (M := mL_law) (pc := 362) (by omega) (by omega) dL_law_362 (k := ?_)
            have hr362 := scrR Γ (i + 2)
            refine g_cV2I (M := mL_law) (pc := 363) (c_X10_strew Γ t _ _ _ hX18 (by omega) (by omega)) qX10_strew vX10_strew sX10_strew kL_31 dL_law_363 (kk := ?_)
            rintro r363 τ363 ⟨hi363, hx363, hv363, hG363⟩
            have hX363 := hv363
            have hJ363 := jv_frX hJ18 hG363
            have hS363 := JS_frX hS18 hG363
            refine g_popI (M := mL_law) (pc := 366) dL_law_366 (k := ?_)
            refine g_aload_n (M := mL_law) (pc := 367) dL_law_367 rfl (k := ?_)
            refine g_aload_n (M := mL_law) (pc := 368) dL_law_368 rfl (k := ?_)
            refine g_iload_n (M := mL_law) (pc := 369) dL_law_369 rfl (k := ?_)
            refine g_iconst (M := mL_law) (pc := 370) dL_law_370 (k := ?_)
            refine g_iadd (M := mL_law) (pc := 371) dL_law_371 (k := ?_)
            refine g_sld (M := mL_law) (pc := 372) (by omega) (by omega) dL_law_372 (k := ?_)
            have hr372 := scrR Γ (i + 1)
            refine g_aload_n (M := mL_law) (pc := 373) dL_law_373 rfl (k := ?_)
            refine g_iload_n (M := mL_law) (pc := 374) dL_law_374 rfl (k := ?_)
            refine g_iconst (M := mL_law) (pc := 375) dL_law_375 (k := ?_)
            refine g_iadd (M := mL_law) (pc := 376) dL_law_376 (k := ?_)
            refine g_sld (M := mL_law) (pc := 377) (by omega) (by omega) dL_law_377 (k := ?_)
            have hr377 := scrR Γ (i + 2)
            refine g_cV2I (M := mL_law) (pc := 378) (c_X11_strew Γ t _ _ _ hJ363 (by omega) (by omega)) qX11_strew vX11_strew sX11_strew kL_34 dL_law_378 (kk := ?_)
            rintro r378 τ378 ⟨hx378, hv378, hG378⟩
            have hX378 := iv_frJ hX363 (Fr.mono hG378 sb_jNS_jAll)
            have hJ378 := hv378
            have hS378 := JS_fr hS363 hG378
            obtain ⟨hq378, hR378⟩ := st_strew hR18 hX18 hx363 hx378
            refine g_popI (M := mL_law) (pc := 381) dL_law_381 (k := ?_)
            refine g_goto (M := mL_law) (pc := 382) (tgt := 1496) dL_law_382 (k := ?_)
            refine g_iinc_3 (M := mL_law) (pc := 1496) dL_law_1496 (k := ?_)
            refine g_goto (M := mL_law) (pc := 1499) (tgt := 18) dL_law_1499 (k := ?_)
            exact ih18 _ _ _ (by omega) ⟨hX378, hJ378, hS378, hR378, by omega, by omega⟩
          · skip
            refine g_tableIn (M := mL_law) (pc := 33) (tgt := 385) (by omega) dL_law_33 (5) hc33 (k := ?_)
            refine g_aload_n (M := mL_law) (pc := 385) dL_law_385 rfl (k := ?_)
            refine g_aload_n (M := mL_law) (pc := 386) dL_law_386 rfl (k := ?_)
            refine g_iload_n (M := mL_law) (pc := 387) dL_law_387 rfl (k := ?_)
            refine g_iconst (M := mL_law) (pc := 388) dL_law_388 (k := ?_)
            refine g_iadd (M := mL_law) (pc := 389) dL_law_389 (k := ?_)
            refine g_sld (M := mL_law) (pc := 390) (by omega) (by omega) dL_law_390 (k := ?_)
            have hr390 := scrR Γ (i + 1)
            refine g_aload_n (M := mL_law) (pc := 391) dL_law_391 rfl (k := ?_)
            refine g_iload_n (M := mL_law) (pc := 392) dL_law_392 rfl (k := ?_)
            refine g_iconst (M := mL_law) (pc := 393) dL_law_393 (k := ?_)
            refine g_iadd (M := mL_law) (pc := 394) dL_law_394 (k := ?_)
            refine g_sld (M := mL_law) (pc := 395) (by omega) (by omega) dL_law_395 (k := ?_)
            have hr395 := scrR Γ (i + 2)
            refine g_aload_n (M := mL_law) (pc := 396) dL_law_396 rfl (k := ?_)
            refine g_iload_n (M := mL_law) (pc := 397) dL_law_397 rfl (k := ?_)
            refine g_iconst (M := mL_law) (pc := 398) dL_law_398 (k := ?_)
            refine g_iadd (M := mL_law) (pc := 399) dL_law_399 (k := ?_)
            refine g_sld (M := mL_law) (pc := 400) (by omega) (by omega) dL_law_400 (k := ?_)
            have hr400 := scrR Γ (i + 3)
            refine g_if_eq (M := mL_law) (pc := 401) (tgt := 408) (by omega) dL_law_401 (k1 := fun h401 => ?_) (k2 := fun h401 => ?_)
            · skip
              refine g_iconst (M := mL_law) (pc := 408) dL_law_408 (k := ?_)
              refine g_cV3I (M := mL_law) (pc := 409) (c_X10_ask Γ t _ _ _ _ hX18 (by omega) (by omega) (by omega)) qX10_ask vX10_ask sX10_ask kL_35 dL_law_409 (kk := ?_)
              rintro r409 τ409 ⟨hi409, hx409, hv409, hG409⟩
              have hX409 := hv409
              have hJ409 := jv_frX hJ18 hG409
              have hS409 := JS_frX hS18 hG409
              refine g_popI (M := mL_law) (pc := 412) dL_law_412 (k := ?_)
              refine g_aload_n (M := mL_law) (pc := 413) dL_law_413 rfl (k := ?_)
              refine g_aload_n (M := mL_law) (pc := 414) dL_law_414 rfl (k := ?_)
              refine g_iload_n (M := mL_law) (pc := 415) dL_law_415 rfl (k := ?_)
              refine g_iconst (M := mL_law) (pc := 416) dL_law_416 (k := ?_)
              refine g_iadd (M := mL_law) (pc := 417) dL_law_417 (k := ?_)
              refine g_sld (M := mL_law) (pc := 418) (by omega) (by omega) dL_law_418 (k := ?_)
              have hr418 := scrR Γ (i + 1)
              refine g_aload_n (M := mL_law) (pc := 419) dL_law_419 rfl (k := ?_)
              refine g_iload_n (M := mL_law) (pc := 420) dL_law_420 rfl (k := ?_)
              refine g_iconst (M := mL_law) (pc := 421) dL_law_421 (k := ?_)
              refine g_iadd (M := mL_law) (pc := 422) dL_law_422 (k := ?_)
              refine g_sld (M := mL_law) (pc := 423) (by omega) (by omega) dL_law_423 (k := ?_)
              have hr423 := scrR Γ (i + 2)
              refine g_aload_n (M := mL_law) (pc := 424) dL_law_424 rfl (k := ?_)
              refine g_iload_n (M := mL_law) (pc := 425) dL_law_425 rfl (k := ?_)
              refine g_iconst (M := mL_law) (pc := 426) dL_law_426 (k := ?_)
              refine g_iadd (M := mL_law) (pc := 427) dL_law_427 (k := ?_)
              refine g_sld (M := mL_law) (pc := 428) (by omega) (by omega) dL_law_428 (k := ?_)
              have hr428 := scrR Γ (i + 3)
              refine g_if_eq (M := mL_law) (pc := 429) (tgt := 436) (by omega) dL_law_429 (k1 := fun h429 => ?_) (k2 := fun h429 => ?_)
              · skip
                refine g_iconst (M := mL_law) (pc := 436) dL_law_436 (k := ?_)
                refine g_cV3I (M := mL_law) (pc := 437) (c_X11_ask Γ t _ _ _ _ hJ409 (by omega) (by omega) (by omega)) qX11_ask vX11_ask sX11_ask kL_39 dL_law_437 (kk := ?_)
                rintro r437 τ437 ⟨hx437, hv437, hG437⟩
                have hX437 := iv_frJ hX409 (Fr.mono hG437 sb_jNS_jAll)
                have hJ437 := hv437
                have hS437 := JS_fr hS409 hG437
                obtain ⟨hq437, hR437⟩ := st_ask hR18 hX18 hx409 hx437
                refine g_popI (M := mL_law) (pc := 440) dL_law_440 (k := ?_)
                refine g_goto (M := mL_law) (pc := 441) (tgt := 1496) dL_law_441 (k := ?_)
                refine g_iinc_3 (M := mL_law) (pc := 1496) dL_law_1496 (k := ?_)
                refine g_goto (M := mL_law) (pc := 1499) (tgt := 18) dL_law_1499 (k := ?_)
                exact ih18 _ _ _ (by omega) ⟨hX437, hJ437, hS437, hR437, by omega, by omega⟩
              · skip
                refine g_iconst (M := mL_law) (pc := 432) dL_law_432 (k := ?_)
                refine g_goto (M := mL_law) (pc := 433) (tgt := 437) dL_law_433 (k := ?_)
                refine g_cV3I (M := mL_law) (pc := 437) (c_X11_ask Γ t _ _ _ _ hJ409 (by omega) (by omega) (by omega)) qX11_ask vX11_ask sX11_ask kL_39 dL_law_437 (kk := ?_)
                rintro r437 τ437 ⟨hx437, hv437, hG437⟩
                have hX437 := iv_frJ hX409 (Fr.mono hG437 sb_jNS_jAll)
                have hJ437 := hv437
                have hS437 := JS_fr hS409 hG437
                obtain ⟨hq437, hR437⟩ := st_ask hR18 hX18 hx409 hx437
                refine g_popI (M := mL_law) (pc := 440) dL_law_440 (k := ?_)
                refine g_goto (M := mL_law) (pc := 441) (tgt := 1496) dL_law_441 (k := ?_)
                refine g_iinc_3 (M := mL_law) (pc := 1496) dL_law_1496 (k := ?_)
                refine g_goto (M := mL_law) (pc := 1499) (tgt := 18) dL_law_1499 (k := ?_)
                exact ih18 _ _ _ (by omega) ⟨hX437, hJ437, hS437, hR437, by omega, by omega⟩
            · skip
              refine g_iconst (M := mL_law) (pc := 404) dL_law_404 (k := ?_)
              refine g_goto (M := mL_law) (pc := 405) (tgt := 409) dL_law_405 (k := ?_)
              refine g_cV3I (M := mL_law) (pc := 409) (c_X10_ask Γ t _ _ _ _ hX18 (by omega) (by omega) (by omega)) qX10_ask vX10_ask sX10_ask kL_35 dL_law_409 (kk := ?_)
              rintro r409 τ409 ⟨hi409, hx409, hv409, hG409⟩
              have hX409 := hv409
              have hJ409 := jv_frX hJ18 hG409
              have hS409 := JS_frX hS18 hG409
              refine g_popI (M := mL_law) (pc := 412) dL_law_412 (k := ?_)
              refine g_aload_n (M := mL_law) (pc := 413) dL_law_413 rfl (k := ?_)
              refine g_aload_n (M := mL_law) (pc := 414) dL_law_414 rfl (k := ?_)
              refine g_iload_n (M := mL_law) (pc := 415) dL_law_415 rfl (k := ?_)
              refine g_iconst (M := mL_law) (pc := 416) dL_law_416 (k := ?_)
              refine g_iadd (M := mL_law) (pc := 417) dL_law_417 (k := ?_)
              refine g_sld (M := mL_law) (pc := 418) (by omega) (by omega) dL_law_418 (k := ?_)
              have hr418 := scrR Γ (i + 1)
              refine g_aload_n (M := mL_law) (pc := 419) dL_law_419 rfl (k := ?_)
              refine g_iload_n (M := mL_law) (pc := 420) dL_law_420 rfl (k := ?_)
              refine g_iconst (M := mL_law) (pc := 421) dL_law_421 (k := ?_)
              refine g_iadd (M := mL_law) (pc := 422) dL_law_422 (k := ?_)
              refine g_sld (M := mL_law) (pc := 423) (by omega) (by omega) dL_law_423 (k := ?_)
              have hr423 := scrR Γ (i + 2)
              refine g_aload_n (M := mL_law) (pc := 424) dL_law_424 rfl (k := ?_)
              refine g_iload_n (M := mL_law) (pc := 425) dL_law_425 rfl (k := ?_)
              refine g_iconst (M := mL_law) (pc := 426) dL_law_426 (k := ?_)
              refine g_iadd (M := mL_law) (pc := 427) dL_law_427 (k := ?_)
              refine g_sld (M := mL_law) (pc := 428) (by omega) (by omega) dL_law_428 (k := ?_)
              have hr428 := scrR Γ (i + 3)
              refine g_if_eq (M := mL_law) (pc := 429) (tgt := 436) (by omega) dL_law_429 (k1 := fun h429 => ?_) (k2 := fun h429 => ?_)
              · skip
                refine g_iconst (M := mL_law) (pc := 436) dL_law_436 (k := ?_)
                refine g_cV3I (M := mL_law) (pc := 437) (c_X11_ask Γ t _ _ _ _ hJ409 (by omega) (by omega) (by omega)) qX11_ask vX11_ask sX11_ask kL_39 dL_law_437 (kk := ?_)
                rintro r437 τ437 ⟨hx437, hv437, hG437⟩
                have hX437 := iv_frJ hX409 (Fr.mono hG437 sb_jNS_jAll)
                have hJ437 := hv437
                have hS437 := JS_fr hS409 hG437
                obtain ⟨hq437, hR437⟩ := st_ask hR18 hX18 hx409 hx437
                refine g_popI (M := mL_law) (pc := 440) dL_law_440 (k := ?_)
                refine g_goto (M := mL_law) (pc := 441) (tgt := 1496) dL_law_441 (k := ?_)
                refine g_iinc_3 (M := mL_law) (pc := 1496) dL_law_1496 (k := ?_)
                refine g_goto (M := mL_law) (pc := 1499) (tgt := 18) dL_law_1499 (k := ?_)
                exact ih18 _ _ _ (by omega) ⟨hX437, hJ437, hS437, hR437, by omega, by omega⟩
              · skip
                refine g_iconst (M := mL_law) (pc := 432) dL_law_432 (k := ?_)
                refine g_goto (M := mL_law) (pc := 433) (tgt := 437) dL_law_433 (k := ?_)
                refine g_cV3I (M := mL_law) (pc := 437) (c_X11_ask Γ t _ _ _ _ hJ409 (by omega) (by omega) (by omega)) qX11_ask vX11_ask sX11_ask kL_39 dL_law_437 (kk := ?_)
                rintro r437 τ437 ⟨hx437, hv437, hG437⟩
                have hX437 := iv_frJ hX409 (Fr.mono hG437 sb_jNS_jAll)
                have hJ437 := hv437
                have hS437 := JS_fr hS409 hG437
                obtain ⟨hq437, hR437⟩ := st_ask hR18 hX18 hx409 hx437
                refine g_popI (M := mL_law) (pc := 440) dL_law_440 (k := ?_)
                refine g_goto (M := mL_law) (pc := 441) (tgt := 1496) dL_law_441 (k := ?_)
                refine g_iinc_3 (M := mL_law) (pc := 1496) dL_law_1496 (k := ?_)
                refine g_goto (M := mL_law) (pc := 1499) (tgt := 18) dL_law_1499 (k := ?_)
                exact ih18 _ _ _ (by omega) ⟨hX437, hJ437, hS437, hR437, by omega, by omega⟩
          · skip
            refine g_tableIn (M := mL_law) (pc := 33) (tgt := 444) (by omega) dL_law_33 (6) hc33 (k := ?_)
            refine g_aload_n (M := mL_law) (pc := 444) dL_law_444 rfl (k := ?_)
            refine g_aload_n (M := mL_law) (pc := 445) dL_law_445 rfl (k := ?_)
            refine g_iload_n (M := mL_law) (pc := 446) dL_law_446 rfl (k := ?_)
            refine g_iconst (M := mL_law) (pc := 447) dL_law_447 (k := ?_)
            refine g_iadd (M := mL_law) (pc := 448) dL_law_448 (k := ?_)
            refine g_sld (M := mL_law) (pc := 449) (by omega) (by omega) dL_law_449 (k := ?_)
            have hr449 := scrR Γ (i + 1)
            refine g_aload_n (M := mL_law) (pc := 450) dL_law_450 rfl (k := ?_)
            refine g_iload_n (M := mL_law) (pc := 451) dL_law_451 rfl (k := ?_)
            refine g_iconst (M := mL_law) (pc := 452) dL_law_452 (k := ?_)
            refine g_iadd (M := mL_law) (pc := 453) dL_law_453 (k := ?_)
            refine g_sld (M := mL_law) (pc := 454) (by omega) (by omega) dL_law_454 (k := ?_)
            have hr454 := scrR Γ (i + 2)
            refine g_cV2I (M := mL_law) (pc := 455) (c_X10_sack Γ t _ _ _ hX18 (by omega) (by omega)) qX10_sack vX10_sack sX10_sack kL_40 dL_law_455 (kk := ?_)
            rintro r455 τ455 ⟨hi455, hx455, hv455, hG455⟩
            have hX455 := hv455
            have hJ455 := jv_frX hJ18 hG455
            have hS455 := JS_frX hS18 hG455
            refine g_popI (M := mL_law) (pc := 458) dL_law_458 (k := ?_)
            refine g_aload_n (M := mL_law) (pc := 459) dL_law_459 rfl (k := ?_)
            refine g_aload_n (M := mL_law) (pc := 460) dL_law_460 rfl (k := ?_)
            refine g_iload_n (M := mL_law) (pc := 461) dL_law_461 rfl (k := ?_)
            refine g_iconst (M := mL_law) (pc := 462) dL_law_462 (k := ?_)
            refine g_iadd (M := mL_law) (pc := 463) dL_law_463 (k := ?_)
            refine g_sld (M := mL_law) (pc := 464) (by omega) (by omega) dL_law_464 (k := ?_)
            have hr464 := scrR Γ (i + 1)
            refine g_aload_n (M := mL_law) (pc := 465) dL_law_465 rfl (k := ?_)
            refine g_iload_n (M := mL_law) (pc := 466) dL_law_466 rfl (k := ?_)
            refine g_iconst (M := mL_law) (pc := 467) dL_law_467 (k := ?_)
            refine g_iadd (M := mL_law) (pc := 468) dL_law_468 (k := ?_)
            refine g_sld (M := mL_law) (pc := 469) (by omega) (by omega) dL_law_469 (k := ?_)
            have hr469 := scrR Γ (i + 2)
            refine g_cV2I (M := mL_law) (pc := 470) (c_X11_sack Γ t _ _ _ hJ455 (by omega) (by omega)) qX11_sack vX11_sack sX11_sack kL_43 dL_law_470 (kk := ?_)
            rintro r470 τ470 ⟨hx470, hv470, hG470⟩
            have hX470 := iv_frJ hX455 (Fr.mono hG470 sb_jNS_jAll)
            have hJ470 := hv470
            have hS470 := JS_fr hS455 hG470
            obtain ⟨hq470, hR470⟩ := st_sack hR18 hX18 hx455 hx470
            refine g_popI (M := mL_law) (pc := 473) dL_law_473 (k := ?_)
            refine g_goto (M := mL_law) (pc := 474) (tgt := 1496) dL_law_474 (k := ?_)
            refine g_iinc_3 (M := mL_law) (pc := 1496) dL_law_1496 (k := ?_)
            refine g_goto (M := mL_law) (pc := 1499) (tgt := 18) dL_law_1499 (k := ?_)
            exact ih18 _ _ _ (by omega) ⟨hX470, hJ470, hS470, hR470, by omega, by omega⟩
          · skip
            refine g_tableIn (M := mL_law) (pc := 33) (tgt := 477) (by omega) dL_law_33 (7) hc33 (k := ?_)
            refine g_aload_n (M := mL_law) (pc := 477) dL_law_477 rfl (k := ?_)
            refine g_aload_n (M := mL_law) (pc := 478) dL_law_478 rfl (k := ?_)
            refine g_iload_n (M := mL_law) (pc := 479) dL_law_479 rfl (k := ?_)
            refine g_iconst (M := mL_law) (pc := 480) dL_law_480 (k := ?_)
            refine g_iadd (M := mL_law) (pc := 481) dL_law_481 (k := ?_)
            refine g_sld (M := mL_law) (pc := 482) (by omega) (by omega) dL_law_482 (k := ?_)
            have hr482 := scrR Γ (i + 1)
            refine g_aload_n (M := mL_law) (pc := 483) dL_law_483 rfl (k := ?_)
            refine g_iload_n (M := mL_law) (pc := 484) dL_law_484 rfl (k := ?_)
            refine g_iconst (M := mL_law) (pc := 485) dL_law_485 (k := ?_)
            refine g_iadd (M := mL_law) (pc := 486) dL_law_486 (k := ?_)
            refine g_sld (M := mL_law) (pc := 487) (by omega) (by omega) dL_law_487 (k := ?_)
            have hr487 := scrR Γ (i + 2)
            refine g_aload_n (M := mL_law) (pc := 488) dL_law_488 rfl (k := ?_)
            refine g_iload_n (M := mL_law) (pc := 489) dL_law_489 rfl (k := ?_)
            refine g_iconst (M := mL_law) (pc := 490) dL_law_490 (k := ?_)
            refine g_iadd (M := mL_law) (pc := 491) dL_law_491 (k := ?_)
            refine g_sld (M := mL_law) (pc := 492) (by omega) (by omega) dL_law_492 (k := ?_)
            have hr492 := scrR Γ (i + 3)
            refine g_cV3I (M := mL_law) (pc := 493) (c_X10_sell Γ t _ _ _ _ hX18 (by omega) (by omega) (by omega)) qX10_sell vX10_sell sX10_sell kL_44 dL_law_493 (kk := ?_)
            rintro r493 τ493 ⟨hi493, hx493, hv493, hG493⟩
            have hX493 := hv493
            have hJ493 := jv_frX hJ18 hG493
            have hS493 := JS_frX hS18 hG493
            refine g_popI (M := mL_law) (pc := 496) dL_law_496 (k := ?_)
            refine g_aload_n (M := mL_law) (pc := 497) dL_law_497 rfl (k := ?_)
            refine g_aload_n (M := mL_law) (pc := 498) dL_law_498 rfl (k := ?_)
            refine g_iload_n (M := mL_law) (pc := 499) dL_law_499 rfl (k := ?_)
            refine g_iconst (M := mL_law) (pc := 500) dL_law_500 (k := ?_)
            refine g_iadd (M := mL_law) (pc := 501) dL_law_501 (k := ?_)
            refine g_sld (M := mL_law) (pc := 502) (by omega) (by omega) dL_law_502 (k := ?_)
            have hr502 := scrR Γ (i + 1)
            refine g_aload_n (M := mL_law) (pc := 503) dL_law_503 rfl (k := ?_)
            refine g_iload_n (M := mL_law) (pc := 504) dL_law_504 rfl (k := ?_)
            refine g_iconst (M := mL_law) (pc := 505) dL_law_505 (k := ?_)
            refine g_iadd (M := mL_law) (pc := 506) dL_law_506 (k := ?_)
            refine g_sld (M := mL_law) (pc := 507) (by omega) (by omega) dL_law_507 (k := ?_)
            have hr507 := scrR Γ (i + 2)
            refine g_aload_n (M := mL_law) (pc := 508) dL_law_508 rfl (k := ?_)
            refine g_iload_n (M := mL_law) (pc := 509) dL_law_509 rfl (k := ?_)
            refine g_iconst (M := mL_law) (pc := 510) dL_law_510 (k := ?_)
            refine g_iadd (M := mL_law) (pc := 511) dL_law_511 (k := ?_)
            refine g_sld (M := mL_law) (pc := 512) (by omega) (by omega) dL_law_512 (k := ?_)
            have hr512 := scrR Γ (i + 3)
            refine g_cV3I (M := mL_law) (pc := 513) (c_X11_sell Γ t _ _ _ _ hJ493 (by omega) (by omega) (by omega)) qX11_sell vX11_sell sX11_sell kL_47 dL_law_513 (kk := ?_)
            rintro r513 τ513 ⟨hx513, hv513, hG513⟩
            have hX513 := iv_frJ hX493 (Fr.mono hG513 sb_jNS_jAll)
            have hJ513 := hv513
            have hS513 := JS_fr hS493 hG513
            obtain ⟨hq513, hR513⟩ := st_sell hR18 hX18 hx493 hx513
            refine g_popI (M := mL_law) (pc := 516) dL_law_516 (k := ?_)
            refine g_goto (M := mL_law) (pc := 517) (tgt := 1496) dL_law_517 (k := ?_)
            refine g_iinc_3 (M := mL_law) (pc := 1496) dL_law_1496 (k := ?_)
            refine g_goto (M := mL_law) (pc := 1499) (tgt := 18) dL_law_1499 (k := ?_)
            exact ih18 _ _ _ (by omega) ⟨hX513, hJ513, hS513, hR513, by omega, by omega⟩
          · skip
            refine g_tableIn (M := mL_law) (pc := 33) (tgt := 520) (by omega) dL_law_33 (8) hc33 (k := ?_)
            refine g_aload_n (M := mL_law) (pc := 520) dL_law_520 rfl (k := ?_)
            refine g_aload_n (M := mL_law) (pc := 521) dL_law_521 rfl (k := ?_)
            refine g_iload_n (M := mL_law) (pc := 522) dL_law_522 rfl (k := ?_)
            refine g_iconst (M := mL_law) (pc := 523) dL_law_523 (k := ?_)
            refine g_iadd (M := mL_law) (pc := 524) dL_law_524 (k := ?_)
            refine g_sld (M := mL_law) (pc := 525) (by omega) (by omega) dL_law_525 (k := ?_)
            have hr525 := scrR Γ (i + 1)
            refine g_aload_n (M := mL_law) (pc := 526) dL_law_526 rfl (k := ?_)
            refine g_iload_n (M := mL_law) (pc := 527) dL_law_527 rfl (k := ?_)
            refine g_iconst (M := mL_law) (pc := 528) dL_law_528 (k := ?_)
            refine g_iadd (M := mL_law) (pc := 529) dL_law_529 (k := ?_)
            refine g_sld (M := mL_law) (pc := 530) (by omega) (by omega) dL_law_530 (k := ?_)
            have hr530 := scrR Γ (i + 2)
            refine g_aload_n (M := mL_law) (pc := 531) dL_law_531 rfl (k := ?_)
            refine g_iload_n (M := mL_law) (pc := 532) dL_law_532 rfl (k := ?_)
            refine g_iconst (M := mL_law) (pc := 533) dL_law_533 (k := ?_)
            refine g_iadd (M := mL_law) (pc := 534) dL_law_534 (k := ?_)
            refine g_sld (M := mL_law) (pc := 535) (by omega) (by omega) dL_law_535 (k := ?_)
            have hr535 := scrR Γ (i + 3)
            refine g_cV3I (M := mL_law) (pc := 536) (c_X10_row Γ t _ _ _ _ hX18 (by omega) (by omega) (by omega)) qX10_row vX10_row sX10_row kL_48 dL_law_536 (kk := ?_)
            rintro r536 τ536 ⟨hi536, hx536, hv536, hG536⟩
            have hX536 := hv536
            have hJ536 := jv_frX hJ18 hG536
            have hS536 := JS_frX hS18 hG536
            refine g_popI (M := mL_law) (pc := 539) dL_law_539 (k := ?_)
            refine g_aload_n (M := mL_law) (pc := 540) dL_law_540 rfl (k := ?_)
            refine g_aload_n (M := mL_law) (pc := 541) dL_law_541 rfl (k := ?_)
            refine g_iload_n (M := mL_law) (pc := 542) dL_law_542 rfl (k := ?_)
            refine g_iconst (M := mL_law) (pc := 543) dL_law_543 (k := ?_)
            refine g_iadd (M := mL_law) (pc := 544) dL_law_544 (k := ?_)
            refine g_sld (M := mL_law) (pc := 545) (by omega) (by omega) dL_law_545 (k := ?_)
            have hr545 := scrR Γ (i + 1)
            refine g_aload_n (M := mL_law) (pc := 546) dL_law_546 rfl (k := ?_)
            refine g_iload_n (M := mL_law) (pc := 547) dL_law_547 rfl (k := ?_)
            refine g_iconst (M := mL_law) (pc := 548) dL_law_548 (k := ?_)
            refine g_iadd (M := mL_law) (pc := 549) dL_law_549 (k := ?_)
            refine g_sld (M := mL_law) (pc := 550) (by omega) (by omega) dL_law_550 (k := ?_)
            have hr550 := scrR Γ (i + 2)
            refine g_aload_n (M := mL_law) (pc := 551) dL_law_551 rfl (k := ?_)
            refine g_iload_n (M := mL_law) (pc := 552) dL_law_552 rfl (k := ?_)
            refine g_iconst (M := mL_law) (pc := 553) dL_law_553 (k := ?_)
            refine g_iadd (M := mL_law) (pc := 554) dL_law_554 (k := ?_)
            refine g_sld (M := mL_law) (pc := 555) (by omega) (by omega) dL_law_555 (k := ?_)
            have hr555 := scrR Γ (i + 3)
            refine g_cV3I (M := mL_law) (pc := 556) (c_X11_row Γ t _ _ _ _ hJ536 (by omega) (by omega) (by omega)) qX11_row vX11_row sX11_row kL_51 dL_law_556 (kk := ?_)
            rintro r556 τ556 ⟨hx556, hv556, hG556⟩
            have hX556 := iv_frJ hX536 (Fr.mono hG556 sb_jNS_jAll)
            have hJ556 := hv556
            have hS556 := JS_fr hS536 hG556
            obtain ⟨hq556, hR556⟩ := st_row hR18 hX18 hx536 hx556
            refine g_popI (M := mL_law) (pc := 559) dL_law_559 (k := ?_)
            refine g_goto (M := mL_law) (pc := 560) (tgt := 1496) dL_law_560 (k := ?_)
            refine g_iinc_3 (M := mL_law) (pc := 1496) dL_law_1496 (k := ?_)
            refine g_goto (M := mL_law) (pc := 1499) (tgt := 18) dL_law_1499 (k := ?_)
            exact ih18 _ _ _ (by omega) ⟨hX556, hJ556, hS556, hR556, by omega, by omega⟩
          · skip
            refine g_tableIn (M := mL_law) (pc := 33) (tgt := 563) (by omega) dL_law_33 (9) hc33 (k := ?_)
            refine g_aload_n (M := mL_law) (pc := 563) dL_law_563 rfl (k := ?_)
            refine g_aload_n (M := mL_law) (pc := 564) dL_law_564 rfl (k := ?_)
            refine g_iload_n (M := mL_law) (pc := 565) dL_law_565 rfl (k := ?_)
            refine g_iconst (M := mL_law) (pc := 566) dL_law_566 (k := ?_)
            refine g_iadd (M := mL_law) (pc := 567) dL_law_567 (k := ?_)
            refine g_sld (M := mL_law) (pc := 568) (by omega) (by omega) dL_law_568 (k := ?_)
            have hr568 := scrR Γ (i + 1)
            refine g_cV1I (M := mL_law) (pc := 569) (c_X10_feed Γ t _ _ hX18 (by omega)) qX10_feed vX10_feed sX10_feed kL_52 dL_law_569 (kk := ?_)
            rintro r569 τ569 ⟨hv569, hG569⟩
            have hX569 := hv569
            have hJ569 := jv_frX hJ18 (Fr.mono hG569 sb_scFd_xAll)
            have hS569 := JS_frX hS18 (Fr.mono hG569 sb_scFd_xAll)
            refine g_popI (M := mL_law) (pc := 572) dL_law_572 (k := ?_)
            refine g_aload_n (M := mL_law) (pc := 573) dL_law_573 rfl (k := ?_)
            refine g_aload_n (M := mL_law) (pc := 574) dL_law_574 rfl (k := ?_)
            refine g_iload_n (M := mL_law) (pc := 575) dL_law_575 rfl (k := ?_)
            refine g_iconst (M := mL_law) (pc := 576) dL_law_576 (k := ?_)
            refine g_iadd (M := mL_law) (pc := 577) dL_law_577 (k := ?_)
            refine g_sld (M := mL_law) (pc := 578) (by omega) (by omega) dL_law_578 (k := ?_)
            have hr578 := scrR Γ (i + 1)
            refine g_cV1I (M := mL_law) (pc := 579) (c_X11_feed Γ t _ _ hJ569 (by omega)) qX11_feed vX11_feed sX11_feed kL_56 dL_law_579 (kk := ?_)
            rintro r579 τ579 ⟨hv579, hG579⟩
            have hX579 := iv_frJ hX569 (Fr.mono hG579 sb_jcFd_jAll)
            have hJ579 := hv579
            have hS579 := JS_fr hS569 (Fr.mono hG579 sb_jcFd_jNS)
            have hR579 := R1_q hR18 (Fr.mono hG569 sb_scFd_xNR) (Fr.mono hG579 sb_jcFd_jNR)
            refine g_popI (M := mL_law) (pc := 582) dL_law_582 (k := ?_)
            refine g_goto (M := mL_law) (pc := 583) (tgt := 1496) dL_law_583 (k := ?_)
            refine g_iinc_3 (M := mL_law) (pc := 1496) dL_law_1496 (k := ?_)
            refine g_goto (M := mL_law) (pc := 1499) (tgt := 18) dL_law_1499 (k := ?_)
            exact ih18 _ _ _ (by omega) ⟨hX579, hJ579, hS579, hR579, by omega, by omega⟩
          · skip
            refine g_tableIn (M := mL_law) (pc := 33) (tgt := 586) (by omega) dL_law_33 (10) hc33 (k := ?_)
            refine g_aload_n (M := mL_law) (pc := 586) dL_law_586 rfl (k := ?_)
            refine g_cV0U (M := mL_law) (pc := 587) (c_X10_town Γ t _ hX18) qX10_town vX10_town sX10_town kL_57 dL_law_587 (kk := ?_)
            rintro r587 t587 τ587 ⟨hv587, hG587⟩
            have hX587 := hv587
            have hJ587 := jv_frX hJ18 (Fr.mono hG587 sb_scTw_xAll)
            have hS587 := JS_frX hS18 (Fr.mono hG587 sb_scTw_xAll)
            refine g_popI (M := mL_law) (pc := 590) dL_law_590 (k := ?_)
            refine g_aload_n (M := mL_law) (pc := 591) dL_law_591 rfl (k := ?_)
            refine g_cV0I (M := mL_law) (pc := 592) (c_X11_town Γ t587 _ hJ587 hS587) qX11_town vX11_town sX11_town kL_61 dL_law_592 (kk := ?_)
            rintro r592 τ592 ⟨hs592, hv592, hG592⟩
            have hX592 := iv_frJ hX587 (Fr.mono hG592 sb_jcTw_jAll)
            have hJ592 := hv592
            have hS592 := hs592
            have hR592 := R1_q hR18 (Fr.mono hG587 sb_scTw_xNR) (Fr.mono hG592 sb_jcTw_jNR)
            refine g_popI (M := mL_law) (pc := 595) dL_law_595 (k := ?_)
            refine g_goto (M := mL_law) (pc := 596) (tgt := 1496) dL_law_596 (k := ?_)
            refine g_iinc_3 (M := mL_law) (pc := 1496) dL_law_1496 (k := ?_)
            refine g_goto (M := mL_law) (pc := 1499) (tgt := 18) dL_law_1499 (k := ?_)
            exact ih18 _ _ _ (by omega) ⟨hX592, hJ592, hS592, hR592, by omega, by omega⟩
          · skip
            refine g_tableIn (M := mL_law) (pc := 33) (tgt := 599) (by omega) dL_law_33 (11) hc33 (k := ?_)
            refine g_aload_n (M := mL_law) (pc := 599) dL_law_599 rfl (k := ?_)
            refine g_cV0I (M := mL_law) (pc := 600) (c_X10_dawn Γ t _ hX18) qX10_dawn vX10_dawn sX10_dawn kL_62 dL_law_600 (kk := ?_)
            rintro r600 τ600 ⟨hv600, hG600⟩
            have hX600 := hv600
            have hJ600 := jv_frX hJ18 (Fr.mono hG600 sb_scX_xAll)
            have hS600 := JS_frX hS18 (Fr.mono hG600 sb_scX_xAll)
            refine g_popI (M := mL_law) (pc := 603) dL_law_603 (k := ?_)
            refine g_aload_n (M := mL_law) (pc := 604) dL_law_604 rfl (k := ?_)
            refine g_cV0I (M := mL_law) (pc := 605) (c_X11_dawn Γ t _ hJ600) qX11_dawn vX11_dawn sX11_dawn kL_65 dL_law_605 (kk := ?_)
            rintro r605 _ ⟨hd605, e⟩; rw [e]; clear e
            have hR600 := R1_q hR18 (Fr.mono hG600 sb_scX_xNR) Fr.rf
            refine g_popI (M := mL_law) (pc := 608) dL_law_608 (k := ?_)
            refine g_goto (M := mL_law) (pc := 609) (tgt := 1496) dL_law_609 (k := ?_)
            refine g_iinc_3 (M := mL_law) (pc := 1496) dL_law_1496 (k := ?_)
            refine g_goto (M := mL_law) (pc := 1499) (tgt := 18) dL_law_1499 (k := ?_)
            exact ih18 _ _ _ (by omega) ⟨hX600, hJ600, hS600, hR600, by omega, by omega⟩
          · skip
            refine g_tableIn (M := mL_law) (pc := 33) (tgt := 612) (by omega) dL_law_33 (12) hc33 (k := ?_)
            refine g_aload_n (M := mL_law) (pc := 612) dL_law_612 rfl (k := ?_)
            refine g_aload_n (M := mL_law) (pc := 613) dL_law_613 rfl (k := ?_)
            refine g_iload_n (M := mL_law) (pc := 614) dL_law_614 rfl (k := ?_)
            refine g_iconst (M := mL_law) (pc := 615) dL_law_615 (k := ?_)
            refine g_iadd (M := mL_law) (pc := 616) dL_law_616 (k := ?_)
            refine g_sld (M := mL_law) (pc := 617) (by omega) (by omega) dL_law_617 (k := ?_)
            have hr617 := scrR Γ (i + 1)
            refine g_aload_n (M := mL_law) (pc := 618) dL_law_618 rfl (k := ?_)
            refine g_iload_n (M := mL_law) (pc := 619) dL_law_619 rfl (k := ?_)
            refine g_iconst (M := mL_law) (pc := 620) dL_law_620 (k := ?_)
            refine g_iadd (M := mL_law) (pc := 621) dL_law_621 (k := ?_)
            refine g_sld (M := mL_law) (pc := 622) (by omega) (by omega) dL_law_622 (k := ?_)
            have hr622 := scrR Γ (i + 2)
            refine g_aload_n (M := mL_law) (pc := 623) dL_law_623 rfl (k := ?_)
            refine g_iload_n (M := mL_law) (pc := 624) dL_law_624 rfl (k := ?_)
            refine g_iconst (M := mL_law) (pc := 625) dL_law_625 (k := ?_)
            refine g_iadd (M := mL_law) (pc := 626) dL_law_626 (k := ?_)
            refine g_sld (M := mL_law) (pc := 627) (by omega) (by omega) dL_law_627 (k := ?_)
            have hr627 := scrR Γ (i + 3)
            refine g_cV3I (M := mL_law) (pc := 628) (c_X10_visit Γ t _ _ _ _ hX18 (by omega) (by omega) (by omega)) qX10_visit vX10_visit sX10_visit kL_66 dL_law_628 (kk := ?_)
            rintro r628 τ628 ⟨hv628, hG628⟩
            have hX628 := hv628
            have hJ628 := jv_frX hJ18 (Fr.mono hG628 sb_scX_xAll)
            have hS628 := JS_frX hS18 (Fr.mono hG628 sb_scX_xAll)
            refine g_popI (M := mL_law) (pc := 631) dL_law_631 (k := ?_)
            refine g_aload_n (M := mL_law) (pc := 632) dL_law_632 rfl (k := ?_)
            refine g_aload_n (M := mL_law) (pc := 633) dL_law_633 rfl (k := ?_)
            refine g_iload_n (M := mL_law) (pc := 634) dL_law_634 rfl (k := ?_)
            refine g_iconst (M := mL_law) (pc := 635) dL_law_635 (k := ?_)
            refine g_iadd (M := mL_law) (pc := 636) dL_law_636 (k := ?_)
            refine g_sld (M := mL_law) (pc := 637) (by omega) (by omega) dL_law_637 (k := ?_)
            have hr637 := scrR Γ (i + 1)
            refine g_aload_n (M := mL_law) (pc := 638) dL_law_638 rfl (k := ?_)
            refine g_iload_n (M := mL_law) (pc := 639) dL_law_639 rfl (k := ?_)
            refine g_iconst (M := mL_law) (pc := 640) dL_law_640 (k := ?_)
            refine g_iadd (M := mL_law) (pc := 641) dL_law_641 (k := ?_)
            refine g_sld (M := mL_law) (pc := 642) (by omega) (by omega) dL_law_642 (k := ?_)
            have hr642 := scrR Γ (i + 2)
            refine g_aload_n (M := mL_law) (pc := 643) dL_law_643 rfl (k := ?_)
            refine g_iload_n (M := mL_law) (pc := 644) dL_law_644 rfl (k := ?_)
            refine g_iconst (M := mL_law) (pc := 645) dL_law_645 (k := ?_)
            refine g_iadd (M := mL_law) (pc := 646) dL_law_646 (k := ?_)
            refine g_sld (M := mL_law) (pc := 647) (by omega) (by omega) dL_law_647 (k := ?_)
            have hr647 := scrR Γ (i + 3)
            refine g_cV3I (M := mL_law) (pc := 648) (c_X11_visit Γ t _ _ _ _ hJ628 hS628 (by omega) (by omega) (by omega)) qX11_visit vX11_visit sX11_visit kL_69 dL_law_648 (kk := ?_)
            rintro r648 τ648 ⟨hv648, hG648⟩
            have hX648 := iv_frJ hX628 (Fr.mono hG648 sb_scJ_jAll)
            have hJ648 := hv648
            have hS648 := JS_fr hS628 (Fr.mono hG648 sb_scJ_jNS)
            have hR648 := R1_q hR18 (Fr.mono hG628 sb_scX_xNR) (Fr.mono hG648 sb_scJ_jNR)
            refine g_popI (M := mL_law) (pc := 651) dL_law_651 (k := ?_)
            refine g_goto (M := mL_law) (pc := 652) (tgt := 1496) dL_law_652 (k := ?_)
            refine g_iinc_3 (M := mL_law) (pc := 1496) dL_law_1496 (k := ?_)
            refine g_goto (M := mL_law) (pc := 1499) (tgt := 18) dL_law_1499 (k := ?_)
            exact ih18 _ _ _ (by omega) ⟨hX648, hJ648, hS648, hR648, by omega, by omega⟩
          · skip
            refine g_tableIn (M := mL_law) (pc := 33) (tgt := 655) (by omega) dL_law_33 (13) hc33 (k := ?_)
            refine g_aload_n (M := mL_law) (pc := 655) dL_law_655 rfl (k := ?_)
            refine g_aload_n (M := mL_law) (pc := 656) dL_law_656 rfl (k := ?_)
            refine g_iload_n (M := mL_law) (pc := 657) dL_law_657 rfl (k := ?_)
            refine g_iconst (M := mL_law) (pc := 658) dL_law_658 (k := ?_)
            refine g_iadd (M := mL_law) (pc := 659) dL_law_659 (k := ?_)
            refine g_sld (M := mL_law) (pc := 660) (by omega) (by omega) dL_law_660 (k := ?_)
            have hr660 := scrR Γ (i + 1)
            refine g_cV1I (M := mL_law) (pc := 661) (c_X10_way Γ t _ _ hX18 (by omega)) qX10_way vX10_way sX10_way kL_70 dL_law_661 (kk := ?_)
            rintro r661 τ661 ⟨hi661, hx661, hv661, hG661⟩
            have hX661 := hv661
            have hJ661 := jv_frX hJ18 hG661
            have hS661 := JS_frX hS18 hG661
            refine g_popI (M := mL_law) (pc := 664) dL_law_664 (k := ?_)
            refine g_aload_n (M := mL_law) (pc := 665) dL_law_665 rfl (k := ?_)
            refine g_aload_n (M := mL_law) (pc := 666) dL_law_666 rfl (k := ?_)
            refine g_iload_n (M := mL_law) (pc := 667) dL_law_667 rfl (k := ?_)
            refine g_iconst (M := mL_law) (pc := 668) dL_law_668 (k := ?_)
            refine g_iadd (M := mL_law) (pc := 669) dL_law_669 (k := ?_)
            refine g_sld (M := mL_law) (pc := 670) (by omega) (by omega) dL_law_670 (k := ?_)
            have hr670 := scrR Γ (i + 1)
            refine g_cV1I (M := mL_law) (pc := 671) (c_X11_way Γ t _ _ hJ661 (by omega)) qX11_way vX11_way sX11_way kL_73 dL_law_671 (kk := ?_)
            rintro r671 τ671 ⟨hx671, hv671, hG671⟩
            have hX671 := iv_frJ hX661 (Fr.mono hG671 sb_jNS_jAll)
            have hJ671 := hv671
            have hS671 := JS_fr hS661 hG671
            obtain ⟨hq671, hR671⟩ := st_way hR18 hX18 hx661 hx671
            refine g_popI (M := mL_law) (pc := 674) dL_law_674 (k := ?_)
            refine g_goto (M := mL_law) (pc := 675) (tgt := 1496) dL_law_675 (k := ?_)
            refine g_iinc_3 (M := mL_law) (pc := 1496) dL_law_1496 (k := ?_)
            refine g_goto (M := mL_law) (pc := 1499) (tgt := 18) dL_law_1499 (k := ?_)
            exact ih18 _ _ _ (by omega) ⟨hX671, hJ671, hS671, hR671, by omega, by omega⟩
          · skip
            refine g_tableIn (M := mL_law) (pc := 33) (tgt := 678) (by omega) dL_law_33 (14) hc33 (k := ?_)
            refine g_aload_n (M := mL_law) (pc := 678) dL_law_678 rfl (k := ?_)
            refine g_aload_n (M := mL_law) (pc := 679) dL_law_679 rfl (k := ?_)
            refine g_iload_n (M := mL_law) (pc := 680) dL_law_680 rfl (k := ?_)
            refine g_iconst (M := mL_law) (pc := 681) dL_law_681 (k := ?_)
            refine g_iadd (M := mL_law) (pc := 682) dL_law_682 (k := ?_)
            refine g_sld (M := mL_law) (pc := 683) (by omega) (by omega) dL_law_683 (k := ?_)
            have hr683 := scrR Γ (i + 1)
            refine g_aload_n (M := mL_law) (pc := 684) dL_law_684 rfl (k := ?_)
            refine g_iload_n (M := mL_law) (pc := 685) dL_law_685 rfl (k := ?_)
            refine g_iconst (M := mL_law) (pc := 686) dL_law_686 (k := ?_)
            refine g_iadd (M := mL_law) (pc := 687) dL_law_687 (k := ?_)
            refine g_sld (M := mL_law) (pc := 688) (by omega) (by omega) dL_law_688 (k := ?_)
            have hr688 := scrR Γ (i + 2)
            refine g_cV2I (M := mL_law) (pc := 689) (c_X10_goes Γ t _ _ _ hX18 (by omega) (by omega)) qX10_goes vX10_goes sX10_goes kL_74 dL_law_689 (kk := ?_)
            rintro r689 τ689 ⟨hv689, hG689⟩
            have hX689 := hv689
            have hJ689 := jv_frX hJ18 (Fr.mono hG689 sb_scX_xAll)
            have hS689 := JS_frX hS18 (Fr.mono hG689 sb_scX_xAll)
            refine g_popI (M := mL_law) (pc := 692) dL_law_692 (k := ?_)
            refine g_aload_n (M := mL_law) (pc := 693) dL_law_693 rfl (k := ?_)
            refine g_aload_n (M := mL_law) (pc := 694) dL_law_694 rfl (k := ?_)
            refine g_iload_n (M := mL_law) (pc := 695) dL_law_695 rfl (k := ?_)
            refine g_iconst (M := mL_law) (pc := 696) dL_law_696 (k := ?_)
            refine g_iadd (M := mL_law) (pc := 697) dL_law_697 (k := ?_)
            refine g_sld (M := mL_law) (pc := 698) (by omega) (by omega) dL_law_698 (k := ?_)
            have hr698 := scrR Γ (i + 1)
            refine g_aload_n (M := mL_law) (pc := 699) dL_law_699 rfl (k := ?_)
            refine g_iload_n (M := mL_law) (pc := 700) dL_law_700 rfl (k := ?_)
            refine g_iconst (M := mL_law) (pc := 701) dL_law_701 (k := ?_)
            refine g_iadd (M := mL_law) (pc := 702) dL_law_702 (k := ?_)
            refine g_sld (M := mL_law) (pc := 703) (by omega) (by omega) dL_law_703 (k := ?_)
            have hr703 := scrR Γ (i + 2)
            refine g_cV2I (M := mL_law) (pc := 704) (c_X11_goes Γ t _ _ _ hJ689 hS689 (by omega) (by omega)) qX11_goes vX11_goes sX11_goes kL_77 dL_law_704 (kk := ?_)
            rintro r704 τ704 ⟨hv704, hG704⟩
            have hX704 := iv_frJ hX689 (Fr.mono hG704 sb_scJ_jAll)
            have hJ704 := hv704
            have hS704 := JS_fr hS689 (Fr.mono hG704 sb_scJ_jNS)
            have hR704 := R1_q hR18 (Fr.mono hG689 sb_scX_xNR) (Fr.mono hG704 sb_scJ_jNR)
            refine g_popI (M := mL_law) (pc := 707) dL_law_707 (k := ?_)
            refine g_goto (M := mL_law) (pc := 708) (tgt := 1496) dL_law_708 (k := ?_)
            refine g_iinc_3 (M := mL_law) (pc := 1496) dL_law_1496 (k := ?_)
            refine g_goto (M := mL_law) (pc := 1499) (tgt := 18) dL_law_1499 (k := ?_)
            exact ih18 _ _ _ (by omega) ⟨hX704, hJ704, hS704, hR704, by omega, by omega⟩
          · skip
            refine g_tableIn (M := mL_law) (pc := 33) (tgt := 711) (by omega) dL_law_33 (15) hc33 (k := ?_)
            refine g_aload_n (M := mL_law) (pc := 711) dL_law_711 rfl (k := ?_)
            refine g_aload_n (M := mL_law) (pc := 712) dL_law_712 rfl (k := ?_)
            refine g_iload_n (M := mL_law) (pc := 713) dL_law_713 rfl (k := ?_)
            refine g_iconst (M := mL_law) (pc := 714) dL_law_714 (k := ?_)
            refine g_iadd (M := mL_law) (pc := 715) dL_law_715 (k := ?_)
            refine g_sld (M := mL_law) (pc := 716) (by omega) (by omega) dL_law_716 (k := ?_)
            have hr716 := scrR Γ (i + 1)
            refine g_aload_n (M := mL_law) (pc := 717) dL_law_717 rfl (k := ?_)
            refine g_iload_n (M := mL_law) (pc := 718) dL_law_718 rfl (k := ?_)
            refine g_iconst (M := mL_law) (pc := 719) dL_law_719 (k := ?_)
            refine g_iadd (M := mL_law) (pc := 720) dL_law_720 (k := ?_)
            refine g_sld (M := mL_law) (pc := 721) (by omega) (by omega) dL_law_721 (k := ?_)
            have hr721 := scrR Γ (i + 2)
            refine g_aload_n (M := mL_law) (pc := 722) dL_law_722 rfl (k := ?_)
            refine g_iload_n (M := mL_law) (pc := 723) dL_law_723 rfl (k := ?_)
            refine g_iconst (M := mL_law) (pc := 724) dL_law_724 (k := ?_)
            refine g_iadd (M := mL_law) (pc := 725) dL_law_725 (k := ?_)
            refine g_sld (M := mL_law) (pc := 726) (by omega) (by omega) dL_law_726 (k := ?_)
            have hr726 := scrR Γ (i + 3)
            refine g_cV3I (M := mL_law) (pc := 727) (c_X10_round Γ t _ _ _ _ hX18 (by omega) (by omega) (by omega)) qX10_round vX10_round sX10_round kL_78 dL_law_727 (kk := ?_)
            rintro r727 τ727 ⟨hv727, hG727⟩
            have hX727 := hv727
            have hJ727 := jv_frX hJ18 (Fr.mono hG727 sb_scX_xAll)
            have hS727 := JS_frX hS18 (Fr.mono hG727 sb_scX_xAll)
            refine g_popI (M := mL_law) (pc := 730) dL_law_730 (k := ?_)
            refine g_aload_n (M := mL_law) (pc := 731) dL_law_731 rfl (k := ?_)
            refine g_aload_n (M := mL_law) (pc := 732) dL_law_732 rfl (k := ?_)
            refine g_iload_n (M := mL_law) (pc := 733) dL_law_733 rfl (k := ?_)
            refine g_iconst (M := mL_law) (pc := 734) dL_law_734 (k := ?_)
            refine g_iadd (M := mL_law) (pc := 735) dL_law_735 (k := ?_)
            refine g_sld (M := mL_law) (pc := 736) (by omega) (by omega) dL_law_736 (k := ?_)
            have hr736 := scrR Γ (i + 1)
            refine g_aload_n (M := mL_law) (pc := 737) dL_law_737 rfl (k := ?_)
            refine g_iload_n (M := mL_law) (pc := 738) dL_law_738 rfl (k := ?_)
            refine g_iconst (M := mL_law) (pc := 739) dL_law_739 (k := ?_)
            refine g_iadd (M := mL_law) (pc := 740) dL_law_740 (k := ?_)
            refine g_sld (M := mL_law) (pc := 741) (by omega) (by omega) dL_law_741 (k := ?_)
            have hr741 := scrR Γ (i + 2)
            refine g_aload_n (M := mL_law) (pc := 742) dL_law_742 rfl (k := ?_)
            refine g_iload_n (M := mL_law) (pc := 743) dL_law_743 rfl (k := ?_)
            refine g_iconst (M := mL_law) (pc := 744) dL_law_744 (k := ?_)
            refine g_iadd (M := mL_law) (pc := 745) dL_law_745 (k := ?_)
            refine g_sld (M := mL_law) (pc := 746) (by omega) (by omega) dL_law_746 (k := ?_)
            have hr746 := scrR Γ (i + 3)
            refine g_cV3I (M := mL_law) (pc := 747) (c_X11_round Γ t _ _ _ _ hJ727 hS727 (by omega) (by omega) (by omega)) qX11_round vX11_round sX11_round kL_81 dL_law_747 (kk := ?_)
            rintro r747 τ747 ⟨hv747, hG747⟩
            have hX747 := iv_frJ hX727 (Fr.mono hG747 sb_scJ_jAll)
            have hJ747 := hv747
            have hS747 := JS_fr hS727 (Fr.mono hG747 sb_scJ_jNS)
            have hR747 := R1_q hR18 (Fr.mono hG727 sb_scX_xNR) (Fr.mono hG747 sb_scJ_jNR)
            refine g_popI (M := mL_law) (pc := 750) dL_law_750 (k := ?_)
            refine g_goto (M := mL_law) (pc := 751) (tgt := 1496) dL_law_751 (k := ?_)
            refine g_iinc_3 (M := mL_law) (pc := 1496) dL_law_1496 (k := ?_)
            refine g_goto (M := mL_law) (pc := 1499) (tgt := 18) dL_law_1499 (k := ?_)
            exact ih18 _ _ _ (by omega) ⟨hX747, hJ747, hS747, hR747, by omega, by omega⟩
          · skip
            refine g_tableIn (M := mL_law) (pc := 33) (tgt := 754) (by omega) dL_law_33 (16) hc33 (k := ?_)
            refine g_aload_n (M := mL_law) (pc := 754) dL_law_754 rfl (k := ?_)
            refine g_aload_n (M := mL_law) (pc := 755) dL_law_755 rfl (k := ?_)
            refine g_iload_n (M := mL_law) (pc := 756) dL_law_756 rfl (k := ?_)
            refine g_iconst (M := mL_law) (pc := 757) dL_law_757 (k := ?_)
            refine g_iadd (M := mL_law) (pc := 758) dL_law_758 (k := ?_)
            refine g_sld (M := mL_law) (pc := 759) (by omega) (by omega) dL_law_759 (k := ?_)
            have hr759 := scrR Γ (i + 1)
            refine g_aload_n (M := mL_law) (pc := 760) dL_law_760 rfl (k := ?_)
            refine g_iload_n (M := mL_law) (pc := 761) dL_law_761 rfl (k := ?_)
            refine g_iconst (M := mL_law) (pc := 762) dL_law_762 (k := ?_)
            refine g_iadd (M := mL_law) (pc := 763) dL_law_763 (k := ?_)
            refine g_sld (M := mL_law) (pc := 764) (by omega) (by omega) dL_law_764 (k := ?_)
            have hr764 := scrR Γ (i + 2)
            refine g_cV2I (M := mL_law) (pc := 765) (c_X10_keep Γ t _ _ _ hX18 (by omega) (by omega)) qX10_keep vX10_keep sX10_keep kL_82 dL_law_765 (kk := ?_)
            rintro r765 τ765 ⟨hv765, hG765⟩
            have hX765 := hv765
            have hJ765 := jv_frX hJ18 (Fr.mono hG765 sb_scX_xAll)
            have hS765 := JS_frX hS18 (Fr.mono hG765 sb_scX_xAll)
            refine g_popI (M := mL_law) (pc := 768) dL_law_768 (k := ?_)
            refine g_aload_n (M := mL_law) (pc := 769) dL_law_769 rfl (k := ?_)
            refine g_aload_n (M := mL_law) (pc := 770) dL_law_770 rfl (k := ?_)
            refine g_iload_n (M := mL_law) (pc := 771) dL_law_771 rfl (k := ?_)
            refine g_iconst (M := mL_law) (pc := 772) dL_law_772 (k := ?_)
            refine g_iadd (M := mL_law) (pc := 773) dL_law_773 (k := ?_)
            refine g_sld (M := mL_law) (pc := 774) (by omega) (by omega) dL_law_774 (k := ?_)
            have hr774 := scrR Γ (i + 1)
            refine g_aload_n (M := mL_law) (pc := 775) dL_law_775 rfl (k := ?_)
            refine g_iload_n (M := mL_law) (pc := 776) dL_law_776 rfl (k := ?_)
            refine g_iconst (M := mL_law) (pc := 777) dL_law_777 (k := ?_)
            refine g_iadd (M := mL_law) (pc := 778) dL_law_778 (k := ?_)
            refine g_sld (M := mL_law) (pc := 779) (by omega) (by omega) dL_law_779 (k := ?_)
            have hr779 := scrR Γ (i + 2)
            refine g_cV2I (M := mL_law) (pc := 780) (c_X11_keep Γ t _ _ _ hJ765 hS765 (by omega) (by omega)) qX11_keep vX11_keep sX11_keep kL_85 dL_law_780 (kk := ?_)
            rintro r780 τ780 ⟨hg780, hv780, hG780⟩
            have hX780 := iv_frJ hX765 (Fr.mono hG780 sb_jcKeep_jAll)
            have hJ780 := hv780
            have hS780 := JS_fr hS765 (Fr.mono hG780 sb_jcKeep_jNS)
            have hR780 := R1_q hR18 (Fr.mono hG765 sb_scX_xNR) (Fr_keep hG780 hg780)
            refine g_popI (M := mL_law) (pc := 783) dL_law_783 (k := ?_)
            refine g_goto (M := mL_law) (pc := 784) (tgt := 1496) dL_law_784 (k := ?_)
            refine g_iinc_3 (M := mL_law) (pc := 1496) dL_law_1496 (k := ?_)
            refine g_goto (M := mL_law) (pc := 1499) (tgt := 18) dL_law_1499 (k := ?_)
            exact ih18 _ _ _ (by omega) ⟨hX780, hJ780, hS780, hR780, by omega, by omega⟩
          · skip
            refine g_tableIn (M := mL_law) (pc := 33) (tgt := 787) (by omega) dL_law_33 (17) hc33 (k := ?_)
            refine g_aload_n (M := mL_law) (pc := 787) dL_law_787 rfl (k := ?_)
            refine g_aload_n (M := mL_law) (pc := 788) dL_law_788 rfl (k := ?_)
            refine g_iload_n (M := mL_law) (pc := 789) dL_law_789 rfl (k := ?_)
            refine g_iconst (M := mL_law) (pc := 790) dL_law_790 (k := ?_)
            refine g_iadd (M := mL_law) (pc := 791) dL_law_791 (k := ?_)
            refine g_sld (M := mL_law) (pc := 792) (by omega) (by omega) dL_law_792 (k := ?_)
            have hr792 := scrR Γ (i + 1)
            refine g_aload_n (M := mL_law) (pc := 793) dL_law_793 rfl (k := ?_)
            refine g_iload_n (M := mL_law) (pc := 794) dL_law_794 rfl (k := ?_)
            refine g_iconst (M := mL_law) (pc := 795) dL_law_795 (k := ?_)
            refine g_iadd (M := mL_law) (pc := 796) dL_law_796 (k := ?_)
            refine g_sld (M := mL_law) (pc := 797) (by omega) (by omega) dL_law_797 (k := ?_)
            have hr797 := scrR Γ (i + 2)
            refine g_cV2I (M := mL_law) (pc := 798) (c_X10_more Γ t _ _ _ hX18 (by omega) (by omega)) qX10_more vX10_more sX10_more kL_86 dL_law_798 (kk := ?_)
            rintro r798 τ798 ⟨hv798, hG798⟩
            have hX798 := hv798
            have hJ798 := jv_frX hJ18 (Fr.mono hG798 sb_scX_xAll)
            have hS798 := JS_frX hS18 (Fr.mono hG798 sb_scX_xAll)
            refine g_popI (M := mL_law) (pc := 801) dL_law_801 (k := ?_)
            refine g_aload_n (M := mL_law) (pc := 802) dL_law_802 rfl (k := ?_)
            refine g_aload_n (M := mL_law) (pc := 803) dL_law_803 rfl (k := ?_)
            refine g_iload_n (M := mL_law) (pc := 804) dL_law_804 rfl (k := ?_)
            refine g_iconst (M := mL_law) (pc := 805) dL_law_805 (k := ?_)
            refine g_iadd (M := mL_law) (pc := 806) dL_law_806 (k := ?_)
            refine g_sld (M := mL_law) (pc := 807) (by omega) (by omega) dL_law_807 (k := ?_)
            have hr807 := scrR Γ (i + 1)
            refine g_aload_n (M := mL_law) (pc := 808) dL_law_808 rfl (k := ?_)
            refine g_iload_n (M := mL_law) (pc := 809) dL_law_809 rfl (k := ?_)
            refine g_iconst (M := mL_law) (pc := 810) dL_law_810 (k := ?_)
            refine g_iadd (M := mL_law) (pc := 811) dL_law_811 (k := ?_)
            refine g_sld (M := mL_law) (pc := 812) (by omega) (by omega) dL_law_812 (k := ?_)
            have hr812 := scrR Γ (i + 2)
            refine g_cV2I (M := mL_law) (pc := 813) (c_X11_more Γ t _ _ _ hJ798 hS798 (by omega) (by omega)) qX11_more vX11_more sX11_more kL_89 dL_law_813 (kk := ?_)
            rintro r813 τ813 ⟨hg813, hv813, hG813⟩
            have hX813 := iv_frJ hX798 (Fr.mono hG813 sb_jcKeep_jAll)
            have hJ813 := hv813
            have hS813 := JS_fr hS798 (Fr.mono hG813 sb_jcKeep_jNS)
            have hR813 := R1_q hR18 (Fr.mono hG798 sb_scX_xNR) (Fr_keep hG813 hg813)
            refine g_popI (M := mL_law) (pc := 816) dL_law_816 (k := ?_)
            refine g_goto (M := mL_law) (pc := 817) (tgt := 1496) dL_law_817 (k := ?_)
            refine g_iinc_3 (M := mL_law) (pc := 1496) dL_law_1496 (k := ?_)
            refine g_goto (M := mL_law) (pc := 1499) (tgt := 18) dL_law_1499 (k := ?_)
            exact ih18 _ _ _ (by omega) ⟨hX813, hJ813, hS813, hR813, by omega, by omega⟩
          · skip
            refine g_tableIn (M := mL_law) (pc := 33) (tgt := 820) (by omega) dL_law_33 (18) hc33 (k := ?_)
            refine g_aload_n (M := mL_law) (pc := 820) dL_law_820 rfl (k := ?_)
            refine g_aload_n (M := mL_law) (pc := 821) dL_law_821 rfl (k := ?_)
            refine g_iload_n (M := mL_law) (pc := 822) dL_law_822 rfl (k := ?_)
            refine g_iconst (M := mL_law) (pc := 823) dL_law_823 (k := ?_)
            refine g_iadd (M := mL_law) (pc := 824) dL_law_824 (k := ?_)
            refine g_sld (M := mL_law) (pc := 825) (by omega) (by omega) dL_law_825 (k := ?_)
            have hr825 := scrR Γ (i + 1)
            refine g_aload_n (M := mL_law) (pc := 826) dL_law_826 rfl (k := ?_)
            refine g_iload_n (M := mL_law) (pc := 827) dL_law_827 rfl (k := ?_)
            refine g_iconst (M := mL_law) (pc := 828) dL_law_828 (k := ?_)
            refine g_iadd (M := mL_law) (pc := 829) dL_law_829 (k := ?_)
            refine g_sld (M := mL_law) (pc := 830) (by omega) (by omega) dL_law_830 (k := ?_)
            have hr830 := scrR Γ (i + 2)
            refine g_aload_n (M := mL_law) (pc := 831) dL_law_831 rfl (k := ?_)
            refine g_iload_n (M := mL_law) (pc := 832) dL_law_832 rfl (k := ?_)
            refine g_iconst (M := mL_law) (pc := 833) dL_law_833 (k := ?_)
            refine g_iadd (M := mL_law) (pc := 834) dL_law_834 (k := ?_)
            refine g_sld (M := mL_law) (pc := 835) (by omega) (by omega) dL_law_835 (k := ?_)
            have hr835 := scrR Γ (i + 3)
            refine g_aload_n (M := mL_law) (pc := 836) dL_law_836 rfl (k := ?_)
            refine g_iload_n (M := mL_law) (pc := 837) dL_law_837 rfl (k := ?_)
            refine g_iconst (M := mL_law) (pc := 838) dL_law_838 (k := ?_)
            refine g_iadd (M := mL_law) (pc := 839) dL_law_839 (k := ?_)
            refine g_sld (M := mL_law) (pc := 840) (by omega) (by omega) dL_law_840 (k := ?_)
            have hr840 := scrR Γ (i + 4)
            refine g_cV4I (M := mL_law) (pc := 841) (c_X10_share Γ t _ _ _ _ _ hX18 (by omega) (by omega) (by omega) (by omega)) qX10_share vX10_share sX10_share kL_90 dL_law_841 (kk := ?_)
            rintro r841 τ841 ⟨hv841, hG841⟩
            have hX841 := hv841
            have hJ841 := jv_frX hJ18 (Fr.mono hG841 sb_scX_xAll)
            have hS841 := JS_frX hS18 (Fr.mono hG841 sb_scX_xAll)
            refine g_popI (M := mL_law) (pc := 844) dL_law_844 (k := ?_)
            refine g_aload_n (M := mL_law) (pc := 845) dL_law_845 rfl (k := ?_)
            refine g_aload_n (M := mL_law) (pc := 846) dL_law_846 rfl (k := ?_)
            refine g_iload_n (M := mL_law) (pc := 847) dL_law_847 rfl (k := ?_)
            refine g_iconst (M := mL_law) (pc := 848) dL_law_848 (k := ?_)
            refine g_iadd (M := mL_law) (pc := 849) dL_law_849 (k := ?_)
            refine g_sld (M := mL_law) (pc := 850) (by omega) (by omega) dL_law_850 (k := ?_)
            have hr850 := scrR Γ (i + 1)
            refine g_aload_n (M := mL_law) (pc := 851) dL_law_851 rfl (k := ?_)
            refine g_iload_n (M := mL_law) (pc := 852) dL_law_852 rfl (k := ?_)
            refine g_iconst (M := mL_law) (pc := 853) dL_law_853 (k := ?_)
            refine g_iadd (M := mL_law) (pc := 854) dL_law_854 (k := ?_)
            refine g_sld (M := mL_law) (pc := 855) (by omega) (by omega) dL_law_855 (k := ?_)
            have hr855 := scrR Γ (i + 2)
            refine g_aload_n (M := mL_law) (pc := 856) dL_law_856 rfl (k := ?_)
            refine g_iload_n (M := mL_law) (pc := 857) dL_law_857 rfl (k := ?_)
            refine g_iconst (M := mL_law) (pc := 858) dL_law_858 (k := ?_)
            refine g_iadd (M := mL_law) (pc := 859) dL_law_859 (k := ?_)
            refine g_sld (M := mL_law) (pc := 860) (by omega) (by omega) dL_law_860 (k := ?_)
            have hr860 := scrR Γ (i + 3)
            refine g_aload_n (M := mL_law) (pc := 861) dL_law_861 rfl (k := ?_)
            refine g_iload_n (M := mL_law) (pc := 862) dL_law_862 rfl (k := ?_)
            refine g_iconst (M := mL_law) (pc := 863) dL_law_863 (k := ?_)
            refine g_iadd (M := mL_law) (pc := 864) dL_law_864 (k := ?_)
            refine g_sld (M := mL_law) (pc := 865) (by omega) (by omega) dL_law_865 (k := ?_)
            have hr865 := scrR Γ (i + 4)
            refine g_cV4I (M := mL_law) (pc := 866) (c_X11_share Γ t _ _ _ _ _ hJ841 hS841 (by omega) (by omega) (by omega) (by omega)) qX11_share vX11_share sX11_share kL_94 dL_law_866 (kk := ?_)
            rintro r866 τ866 ⟨hv866, hG866⟩
            have hX866 := iv_frJ hX841 (Fr.mono hG866 sb_scJ_jAll)
            have hJ866 := hv866
            have hS866 := JS_fr hS841 (Fr.mono hG866 sb_scJ_jNS)
            have hR866 := R1_q hR18 (Fr.mono hG841 sb_scX_xNR) (Fr.mono hG866 sb_scJ_jNR)
            refine g_popI (M := mL_law) (pc := 869) dL_law_869 (k := ?_)
            refine g_goto (M := mL_law) (pc := 870) (tgt := 1496) dL_law_870 (k := ?_)
            refine g_iinc_3 (M := mL_law) (pc := 1496) dL_law_1496 (k := ?_)
            refine g_goto (M := mL_law) (pc := 1499) (tgt := 18) dL_law_1499 (k := ?_)
            exact ih18 _ _ _ (by omega) ⟨hX866, hJ866, hS866, hR866, by omega, by omega⟩
          · skip
            refine g_tableIn (M := mL_law) (pc := 33) (tgt := 873) (by omega) dL_law_33 (19) hc33 (k := ?_)
            refine g_aload_n (M := mL_law) (pc := 873) dL_law_873 rfl (k := ?_)
            refine g_aload_n (M := mL_law) (pc := 874) dL_law_874 rfl (k := ?_)
            refine g_iload_n (M := mL_law) (pc := 875) dL_law_875 rfl (k := ?_)
            refine g_iconst (M := mL_law) (pc := 876) dL_law_876 (k := ?_)
            refine g_iadd (M := mL_law) (pc := 877) dL_law_877 (k := ?_)
            refine g_sld (M := mL_law) (pc := 878) (by omega) (by omega) dL_law_878 (k := ?_)
            have hr878 := scrR Γ (i + 1)
            refine g_aload_n (M := mL_law) (pc := 879) dL_law_879 rfl (k := ?_)
            refine g_iload_n (M := mL_law) (pc := 880) dL_law_880 rfl (k := ?_)
            refine g_iconst (M := mL_law) (pc := 881) dL_law_881 (k := ?_)
            refine g_iadd (M := mL_law) (pc := 882) dL_law_882 (k := ?_)
            refine g_sld (M := mL_law) (pc := 883) (by omega) (by omega) dL_law_883 (k := ?_)
            have hr883 := scrR Γ (i + 2)
            refine g_if_eq (M := mL_law) (pc := 884) (tgt := 891) (by omega) dL_law_884 (k1 := fun h884 => ?_) (k2 := fun h884 => ?_)
            · skip
              refine g_iconst (M := mL_law) (pc := 891) dL_law_891 (k := ?_)
              refine g_cV2I (M := mL_law) (pc := 892) (c_X10_watch Γ t _ _ _ hX18 (by omega) (by omega) (by omega)) qX10_watch vX10_watch sX10_watch kL_95 dL_law_892 (kk := ?_)
              rintro r892 τ892 ⟨hi892, hx892, hv892, hG892⟩
              have hX892 := hv892
              have hJ892 := jv_frX hJ18 hG892
              have hS892 := JS_frX hS18 hG892
              refine g_popI (M := mL_law) (pc := 895) dL_law_895 (k := ?_)
              refine g_aload_n (M := mL_law) (pc := 896) dL_law_896 rfl (k := ?_)
              refine g_aload_n (M := mL_law) (pc := 897) dL_law_897 rfl (k := ?_)
              refine g_iload_n (M := mL_law) (pc := 898) dL_law_898 rfl (k := ?_)
              refine g_iconst (M := mL_law) (pc := 899) dL_law_899 (k := ?_)
              refine g_iadd (M := mL_law) (pc := 900) dL_law_900 (k := ?_)
              refine g_sld (M := mL_law) (pc := 901) (by omega) (by omega) dL_law_901 (k := ?_)
              have hr901 := scrR Γ (i + 1)
              refine g_aload_n (M := mL_law) (pc := 902) dL_law_902 rfl (k := ?_)
              refine g_iload_n (M := mL_law) (pc := 903) dL_law_903 rfl (k := ?_)
              refine g_iconst (M := mL_law) (pc := 904) dL_law_904 (k := ?_)
              refine g_iadd (M := mL_law) (pc := 905) dL_law_905 (k := ?_)
              refine g_sld (M := mL_law) (pc := 906) (by omega) (by omega) dL_law_906 (k := ?_)
              have hr906 := scrR Γ (i + 2)
              refine g_if_eq (M := mL_law) (pc := 907) (tgt := 914) (by omega) dL_law_907 (k1 := fun h907 => ?_) (k2 := fun h907 => ?_)
              · skip
                refine g_iconst (M := mL_law) (pc := 914) dL_law_914 (k := ?_)
                refine g_cV2I (M := mL_law) (pc := 915) (c_X11_watch Γ t _ _ _ hJ892 (by omega) (by omega) (by omega)) qX11_watch vX11_watch sX11_watch kL_99 dL_law_915 (kk := ?_)
                rintro r915 τ915 ⟨hx915, hv915, hG915⟩
                have hX915 := iv_frJ hX892 (Fr.mono hG915 sb_jNS_jAll)
                have hJ915 := hv915
                have hS915 := JS_fr hS892 hG915
                obtain ⟨hq915, hR915⟩ := st_watch hR18 hX18 hx892 hx915
                refine g_popI (M := mL_law) (pc := 918) dL_law_918 (k := ?_)
                refine g_goto (M := mL_law) (pc := 919) (tgt := 1496) dL_law_919 (k := ?_)
                refine g_iinc_3 (M := mL_law) (pc := 1496) dL_law_1496 (k := ?_)
                refine g_goto (M := mL_law) (pc := 1499) (tgt := 18) dL_law_1499 (k := ?_)
                exact ih18 _ _ _ (by omega) ⟨hX915, hJ915, hS915, hR915, by omega, by omega⟩
              · skip
                refine g_iconst (M := mL_law) (pc := 910) dL_law_910 (k := ?_)
                refine g_goto (M := mL_law) (pc := 911) (tgt := 915) dL_law_911 (k := ?_)
                refine g_cV2I (M := mL_law) (pc := 915) (c_X11_watch Γ t _ _ _ hJ892 (by omega) (by omega) (by omega)) qX11_watch vX11_watch sX11_watch kL_99 dL_law_915 (kk := ?_)
                rintro r915 τ915 ⟨hx915, hv915, hG915⟩
                have hX915 := iv_frJ hX892 (Fr.mono hG915 sb_jNS_jAll)
                have hJ915 := hv915
                have hS915 := JS_fr hS892 hG915
                obtain ⟨hq915, hR915⟩ := st_watch hR18 hX18 hx892 hx915
                refine g_popI (M := mL_law) (pc := 918) dL_law_918 (k := ?_)
                refine g_goto (M := mL_law) (pc := 919) (tgt := 1496) dL_law_919 (k := ?_)
                refine g_iinc_3 (M := mL_law) (pc := 1496) dL_law_1496 (k := ?_)
                refine g_goto (M := mL_law) (pc := 1499) (tgt := 18) dL_law_1499 (k := ?_)
                exact ih18 _ _ _ (by omega) ⟨hX915, hJ915, hS915, hR915, by omega, by omega⟩
            · skip
              refine g_iconst (M := mL_law) (pc := 887) dL_law_887 (k := ?_)
              refine g_goto (M := mL_law) (pc := 888) (tgt := 892) dL_law_888 (k := ?_)
              refine g_cV2I (M := mL_law) (pc := 892) (c_X10_watch Γ t _ _ _ hX18 (by omega) (by omega) (by omega)) qX10_watch vX10_watch sX10_watch kL_95 dL_law_892 (kk := ?_)
              rintro r892 τ892 ⟨hi892, hx892, hv892, hG892⟩
              have hX892 := hv892
              have hJ892 := jv_frX hJ18 hG892
              have hS892 := JS_frX hS18 hG892
              refine g_popI (M := mL_law) (pc := 895) dL_law_895 (k := ?_)
              refine g_aload_n (M := mL_law) (pc := 896) dL_law_896 rfl (k := ?_)
              refine g_aload_n (M := mL_law) (pc := 897) dL_law_897 rfl (k := ?_)
              refine g_iload_n (M := mL_law) (pc := 898) dL_law_898 rfl (k := ?_)
              refine g_iconst (M := mL_law) (pc := 899) dL_law_899 (k := ?_)
              refine g_iadd (M := mL_law) (pc := 900) dL_law_900 (k := ?_)
              refine g_sld (M := mL_law) (pc := 901) (by omega) (by omega) dL_law_901 (k := ?_)
              have hr901 := scrR Γ (i + 1)
              refine g_aload_n (M := mL_law) (pc := 902) dL_law_902 rfl (k := ?_)
              refine g_iload_n (M := mL_law) (pc := 903) dL_law_903 rfl (k := ?_)
              refine g_iconst (M := mL_law) (pc := 904) dL_law_904 (k := ?_)
              refine g_iadd (M := mL_law) (pc := 905) dL_law_905 (k := ?_)
              refine g_sld (M := mL_law) (pc := 906) (by omega) (by omega) dL_law_906 (k := ?_)
              have hr906 := scrR Γ (i + 2)
              refine g_if_eq (M := mL_law) (pc := 907) (tgt := 914) (by omega) dL_law_907 (k1 := fun h907 => ?_) (k2 := fun h907 => ?_)
              · skip
                refine g_iconst (M := mL_law) (pc := 914) dL_law_914 (k := ?_)
                refine g_cV2I (M := mL_law) (pc := 915) (c_X11_watch Γ t _ _ _ hJ892 (by omega) (by omega) (by omega)) qX11_watch vX11_watch sX11_watch kL_99 dL_law_915 (kk := ?_)
                rintro r915 τ915 ⟨hx915, hv915, hG915⟩
                have hX915 := iv_frJ hX892 (Fr.mono hG915 sb_jNS_jAll)
                have hJ915 := hv915
                have hS915 := JS_fr hS892 hG915
                obtain ⟨hq915, hR915⟩ := st_watch hR18 hX18 hx892 hx915
                refine g_popI (M := mL_law) (pc := 918) dL_law_918 (k := ?_)
                refine g_goto (M := mL_law) (pc := 919) (tgt := 1496) dL_law_919 (k := ?_)
                refine g_iinc_3 (M := mL_law) (pc := 1496) dL_law_1496 (k := ?_)
                refine g_goto (M := mL_law) (pc := 1499) (tgt := 18) dL_law_1499 (k := ?_)
                exact ih18 _ _ _ (by omega) ⟨hX915, hJ915, hS915, hR915, by omega, by omega⟩
              · skip
                refine g_iconst (M := mL_law) (pc := 910) dL_law_910 (k := ?_)
                refine g_goto (M := mL_law) (pc := 911) (tgt := 915) dL_law_911 (k := ?_)
                refine g_cV2I (M := mL_law) (pc := 915) (c_X11_watch Γ t _ _ _ hJ892 (by omega) (by omega) (by omega)) qX11_watch vX11_watch sX11_watch kL_99 dL_law_915 (kk := ?_)
                rintro r915 τ915 ⟨hx915, hv915, hG915⟩
                have hX915 := iv_frJ hX892 (Fr.mono hG915 sb_jNS_jAll)
                have hJ915 := hv915
                have hS915 := JS_fr hS892 hG915
                obtain ⟨hq915, hR915⟩ := st_watch hR18 hX18 hx892 hx915
                refine g_popI (M := mL_law) (pc := 918) dL_law_918 (k := ?_)
                refine g_goto (M := mL_law) (pc := 919) (tgt := 1496) dL_law_919 (k := ?_)
                refine g_iinc_3 (M := mL_law) (pc := 1496) dL_law_1496 (k := ?_)
                refine g_goto (M := mL_law) (pc := 1499) (tgt := 18) dL_law_1499 (k := ?_)
                exact ih18 _ _ _ (by omega) ⟨hX915, hJ915, hS915, hR915, by omega, by omega⟩
          · skip
            refine g_tableIn (M := mL_law) (pc := 33) (tgt := 922) (by omega) dL_law_33 (20) hc33 (k := ?_)
            refine g_aload_n (M := mL_law) (pc := 922) dL_law_922 rfl (k := ?_)
            refine g_cV0I (M := mL_law) (pc := 923) (c_X10_suspects Γ t _ hX18) qX10_suspects vX10_suspects sX10_suspects kL_100 dL_law_923 (kk := ?_)
            rintro r923 τ923 ⟨hv923, hG923⟩
            have hX923 := hv923
            have hJ923 := jv_frX hJ18 (Fr.mono hG923 sb_scX_xAll)
            have hS923 := JS_frX hS18 (Fr.mono hG923 sb_scX_xAll)
            refine g_popI (M := mL_law) (pc := 926) dL_law_926 (k := ?_)
            refine g_aload_n (M := mL_law) (pc := 927) dL_law_927 rfl (k := ?_)
            refine g_cV0I (M := mL_law) (pc := 928) (c_X11_suspects Γ t _ hJ923 hS923) qX11_suspects vX11_suspects sX11_suspects kL_103 dL_law_928 (kk := ?_)
            rintro r928 τ928 ⟨hi928, hv928, hG928⟩
            have hX928 := iv_frJ hX923 (Fr.mono hG928 sb_scJ_jAll)
            have hJ928 := hv928
            have hS928 := JS_fr hS923 (Fr.mono hG928 sb_scJ_jNS)
            have hR928 := R1_q hR18 (Fr.mono hG923 sb_scX_xNR) (Fr.mono hG928 sb_scJ_jNR)
            refine g_popI (M := mL_law) (pc := 931) dL_law_931 (k := ?_)
            refine g_goto (M := mL_law) (pc := 932) (tgt := 1496) dL_law_932 (k := ?_)
            refine g_iinc_3 (M := mL_law) (pc := 1496) dL_law_1496 (k := ?_)
            refine g_goto (M := mL_law) (pc := 1499) (tgt := 18) dL_law_1499 (k := ?_)
            exact ih18 _ _ _ (by omega) ⟨hX928, hJ928, hS928, hR928, by omega, by omega⟩
          · skip
            refine g_tableIn (M := mL_law) (pc := 33) (tgt := 935) (by omega) dL_law_33 (21) hc33 (k := ?_)
            refine g_aload_n (M := mL_law) (pc := 935) dL_law_935 rfl (k := ?_)
            refine g_cV0I (M := mL_law) (pc := 936) (c_X10_next Γ t _ hX18) qX10_next vX10_next sX10_next kL_104 dL_law_936 (kk := ?_)
            rintro r936 τ936 ⟨hv936, hG936⟩
            have hX936 := hv936
            have hJ936 := jv_frX hJ18 (Fr.mono hG936 sb_scX_xAll)
            have hS936 := JS_frX hS18 (Fr.mono hG936 sb_scX_xAll)
            refine g_popI (M := mL_law) (pc := 939) dL_law_939 (k := ?_)
            refine g_aload_n (M := mL_law) (pc := 940) dL_law_940 rfl (k := ?_)
            refine g_cV0I (M := mL_law) (pc := 941) (c_X11_next Γ t _ hJ936 hS936) qX11_next vX11_next sX11_next kL_107 dL_law_941 (kk := ?_)
            rintro r941 τ941 ⟨hi941, hv941, hG941⟩
            have hX941 := iv_frJ hX936 (Fr.mono hG941 sb_scJ_jAll)
            have hJ941 := hv941
            have hS941 := JS_fr hS936 (Fr.mono hG941 sb_scJ_jNS)
            have hR941 := R1_q hR18 (Fr.mono hG936 sb_scX_xNR) (Fr.mono hG941 sb_scJ_jNR)
            refine g_popI (M := mL_law) (pc := 944) dL_law_944 (k := ?_)
            refine g_goto (M := mL_law) (pc := 945) (tgt := 1496) dL_law_945 (k := ?_)
            refine g_iinc_3 (M := mL_law) (pc := 1496) dL_law_1496 (k := ?_)
            refine g_goto (M := mL_law) (pc := 1499) (tgt := 18) dL_law_1499 (k := ?_)
            exact ih18 _ _ _ (by omega) ⟨hX941, hJ941, hS941, hR941, by omega, by omega⟩
          · skip
            refine g_tableIn (M := mL_law) (pc := 33) (tgt := 948) (by omega) dL_law_33 (22) hc33 (k := ?_)
            refine g_aload_n (M := mL_law) (pc := 948) dL_law_948 rfl (k := ?_)
            refine g_aload_n (M := mL_law) (pc := 949) dL_law_949 rfl (k := ?_)
            refine g_iload_n (M := mL_law) (pc := 950) dL_law_950 rfl (k := ?_)
            refine g_iconst (M := mL_law) (pc := 951) dL_law_951 (k := ?_)
            refine g_iadd (M := mL_law) (pc := 952) dL_law_952 (k := ?_)
            refine g_sld (M := mL_law) (pc := 953) (by omega) (by omega) dL_law_953 (k := ?_)
            have hr953 := scrR Γ (i + 1)
            refine g_aload_n (M := mL_law) (pc := 954) dL_law_954 rfl (k := ?_)
            refine g_iload_n (M := mL_law) (pc := 955) dL_law_955 rfl (k := ?_)
            refine g_iconst (M := mL_law) (pc := 956) dL_law_956 (k := ?_)
            refine g_iadd (M := mL_law) (pc := 957) dL_law_957 (k := ?_)
            refine g_sld (M := mL_law) (pc := 958) (by omega) (by omega) dL_law_958 (k := ?_)
            have hr958 := scrR Γ (i + 2)
            refine g_cV2I (M := mL_law) (pc := 959) (c_X10_when Γ t _ _ _ hX18 (by omega) (by omega)) qX10_when vX10_when sX10_when kL_108 dL_law_959 (kk := ?_)
            rintro r959 τ959 ⟨hv959, hG959⟩
            have hX959 := hv959
            have hJ959 := jv_frX hJ18 (Fr.mono hG959 sb_scX_xAll)
            have hS959 := JS_frX hS18 (Fr.mono hG959 sb_scX_xAll)
            refine g_popI (M := mL_law) (pc := 962) dL_law_962 (k := ?_)
            refine g_aload_n (M := mL_law) (pc := 963) dL_law_963 rfl (k := ?_)
            refine g_aload_n (M := mL_law) (pc := 964) dL_law_964 rfl (k := ?_)
            refine g_iload_n (M := mL_law) (pc := 965) dL_law_965 rfl (k := ?_)
            refine g_iconst (M := mL_law) (pc := 966) dL_law_966 (k := ?_)
            refine g_iadd (M := mL_law) (pc := 967) dL_law_967 (k := ?_)
            refine g_sld (M := mL_law) (pc := 968) (by omega) (by omega) dL_law_968 (k := ?_)
            have hr968 := scrR Γ (i + 1)
            refine g_aload_n (M := mL_law) (pc := 969) dL_law_969 rfl (k := ?_)
            refine g_iload_n (M := mL_law) (pc := 970) dL_law_970 rfl (k := ?_)
            refine g_iconst (M := mL_law) (pc := 971) dL_law_971 (k := ?_)
            refine g_iadd (M := mL_law) (pc := 972) dL_law_972 (k := ?_)
            refine g_sld (M := mL_law) (pc := 973) (by omega) (by omega) dL_law_973 (k := ?_)
            have hr973 := scrR Γ (i + 2)
            refine g_cV2I (M := mL_law) (pc := 974) (c_X11_when Γ t _ _ _ hJ959 hS959 (by omega) (by omega)) qX11_when vX11_when sX11_when kL_111 dL_law_974 (kk := ?_)
            rintro r974 τ974 ⟨hv974, hG974⟩
            have hX974 := iv_frJ hX959 (Fr.mono hG974 sb_scJ_jAll)
            have hJ974 := hv974
            have hS974 := JS_fr hS959 (Fr.mono hG974 sb_scJ_jNS)
            have hR974 := R1_q hR18 (Fr.mono hG959 sb_scX_xNR) (Fr.mono hG974 sb_scJ_jNR)
            refine g_popI (M := mL_law) (pc := 977) dL_law_977 (k := ?_)
            refine g_goto (M := mL_law) (pc := 978) (tgt := 1496) dL_law_978 (k := ?_)
            refine g_iinc_3 (M := mL_law) (pc := 1496) dL_law_1496 (k := ?_)
            refine g_goto (M := mL_law) (pc := 1499) (tgt := 18) dL_law_1499 (k := ?_)
            exact ih18 _ _ _ (by omega) ⟨hX974, hJ974, hS974, hR974, by omega, by omega⟩
          · skip
            refine g_tableIn (M := mL_law) (pc := 33) (tgt := 981) (by omega) dL_law_33 (23) hc33 (k := ?_)
            refine g_aload_n (M := mL_law) (pc := 981) dL_law_981 rfl (k := ?_)
            refine g_aload_n (M := mL_law) (pc := 982) dL_law_982 rfl (k := ?_)
            refine g_iload_n (M := mL_law) (pc := 983) dL_law_983 rfl (k := ?_)
            refine g_iconst (M := mL_law) (pc := 984) dL_law_984 (k := ?_)
            refine g_iadd (M := mL_law) (pc := 985) dL_law_985 (k := ?_)
            refine g_sld (M := mL_law) (pc := 986) (by omega) (by omega) dL_law_986 (k := ?_)
            have hr986 := scrR Γ (i + 1)
            refine g_aload_n (M := mL_law) (pc := 987) dL_law_987 rfl (k := ?_)
            refine g_iload_n (M := mL_law) (pc := 988) dL_law_988 rfl (k := ?_)
            refine g_iconst (M := mL_law) (pc := 989) dL_law_989 (k := ?_)
            refine g_iadd (M := mL_law) (pc := 990) dL_law_990 (k := ?_)
            refine g_sld (M := mL_law) (pc := 991) (by omega) (by omega) dL_law_991 (k := ?_)
            have hr991 := scrR Γ (i + 2)
            refine g_aload_n (M := mL_law) (pc := 992) dL_law_992 rfl (k := ?_)
            refine g_iload_n (M := mL_law) (pc := 993) dL_law_993 rfl (k := ?_)
            refine g_iconst (M := mL_law) (pc := 994) dL_law_994 (k := ?_)
            refine g_iadd (M := mL_law) (pc := 995) dL_law_995 (k := ?_)
            refine g_sld (M := mL_law) (pc := 996) (by omega) (by omega) dL_law_996 (k := ?_)
            have hr996 := scrR Γ (i + 3)
            refine g_cV3L (M := mL_law) (pc := 997) (c_X10_odds Γ t _ _ _ _ hX18 (by omega) (by omega) (by omega)) qX10_odds vX10_odds sX10_odds kL_112 dL_law_997 (kk := ?_)
            rintro r997 τ997 ⟨hi997, hv997, hG997⟩
            have hX997 := hv997
            have hJ997 := jv_frX hJ18 (Fr.mono hG997 sb_scX_xAll)
            have hS997 := JS_frX hS18 (Fr.mono hG997 sb_scX_xAll)
            refine g_pop2L (M := mL_law) (pc := 1000) dL_law_1000 (k := ?_)
            refine g_aload_n (M := mL_law) (pc := 1001) dL_law_1001 rfl (k := ?_)
            refine g_aload_n (M := mL_law) (pc := 1002) dL_law_1002 rfl (k := ?_)
            refine g_iload_n (M := mL_law) (pc := 1003) dL_law_1003 rfl (k := ?_)
            refine g_iconst (M := mL_law) (pc := 1004) dL_law_1004 (k := ?_)
            refine g_iadd (M := mL_law) (pc := 1005) dL_law_1005 (k := ?_)
            refine g_sld (M := mL_law) (pc := 1006) (by omega) (by omega) dL_law_1006 (k := ?_)
            have hr1006 := scrR Γ (i + 1)
            refine g_aload_n (M := mL_law) (pc := 1007) dL_law_1007 rfl (k := ?_)
            refine g_iload_n (M := mL_law) (pc := 1008) dL_law_1008 rfl (k := ?_)
            refine g_iconst (M := mL_law) (pc := 1009) dL_law_1009 (k := ?_)
            refine g_iadd (M := mL_law) (pc := 1010) dL_law_1010 (k := ?_)
            refine g_sld (M := mL_law) (pc := 1011) (by omega) (by omega) dL_law_1011 (k := ?_)
            have hr1011 := scrR Γ (i + 2)
            refine g_aload_n (M := mL_law) (pc := 1012) dL_law_1012 rfl (k := ?_)
            refine g_iload_n (M := mL_law) (pc := 1013) dL_law_1013 rfl (k := ?_)
            refine g_iconst (M := mL_law) (pc := 1014) dL_law_1014 (k := ?_)
            refine g_iadd (M := mL_law) (pc := 1015) dL_law_1015 (k := ?_)
            refine g_sld (M := mL_law) (pc := 1016) (by omega) (by omega) dL_law_1016 (k := ?_)
            have hr1016 := scrR Γ (i + 3)
            refine g_cV3L (M := mL_law) (pc := 1017) (c_X11_odds Γ t _ _ _ _ hJ997 hS997 (by omega) (by omega) (by omega)) qX11_odds vX11_odds sX11_odds kL_116 dL_law_1017 (kk := ?_)
            rintro r1017 τ1017 ⟨hi1017, hv1017, hG1017⟩
            have hX1017 := iv_frJ hX997 (Fr.mono hG1017 sb_scJ_jAll)
            have hJ1017 := hv1017
            have hS1017 := JS_fr hS997 (Fr.mono hG1017 sb_scJ_jNS)
            have hR1017 := R1_q hR18 (Fr.mono hG997 sb_scX_xNR) (Fr.mono hG1017 sb_scJ_jNR)
            refine g_pop2L (M := mL_law) (pc := 1020) dL_law_1020 (k := ?_)
            refine g_goto (M := mL_law) (pc := 1021) (tgt := 1496) dL_law_1021 (k := ?_)
            refine g_iinc_3 (M := mL_law) (pc := 1496) dL_law_1496 (k := ?_)
            refine g_goto (M := mL_law) (pc := 1499) (tgt := 18) dL_law_1499 (k := ?_)
            exact ih18 _ _ _ (by omega) ⟨hX1017, hJ1017, hS1017, hR1017, by omega, by omega⟩
          · skip
            refine g_tableIn (M := mL_law) (pc := 33) (tgt := 1024) (by omega) dL_law_33 (24) hc33 (k := ?_)
            refine g_aload_n (M := mL_law) (pc := 1024) dL_law_1024 rfl (k := ?_)
            refine g_aload_n (M := mL_law) (pc := 1025) dL_law_1025 rfl (k := ?_)
            refine g_iload_n (M := mL_law) (pc := 1026) dL_law_1026 rfl (k := ?_)
            refine g_iconst (M := mL_law) (pc := 1027) dL_law_1027 (k := ?_)
            refine g_iadd (M := mL_law) (pc := 1028) dL_law_1028 (k := ?_)
            refine g_sld (M := mL_law) (pc := 1029) (by omega) (by omega) dL_law_1029 (k := ?_)
            have hr1029 := scrR Γ (i + 1)
            refine g_aload_n (M := mL_law) (pc := 1030) dL_law_1030 rfl (k := ?_)
            refine g_iload_n (M := mL_law) (pc := 1031) dL_law_1031 rfl (k := ?_)
            refine g_iconst (M := mL_law) (pc := 1032) dL_law_1032 (k := ?_)
            refine g_iadd (M := mL_law) (pc := 1033) dL_law_1033 (k := ?_)
            refine g_sld (M := mL_law) (pc := 1034) (by omega) (by omega) dL_law_1034 (k := ?_)
            have hr1034 := scrR Γ (i + 2)
            refine g_cV2L (M := mL_law) (pc := 1035) (c_X10_mean Γ t _ _ _ hX18 (by omega) (by omega)) qX10_mean vX10_mean sX10_mean kL_117 dL_law_1035 (kk := ?_)
            rintro r1035 τ1035 ⟨hi1035, hv1035, hG1035⟩
            have hX1035 := hv1035
            have hJ1035 := jv_frX hJ18 (Fr.mono hG1035 sb_scX_xAll)
            have hS1035 := JS_frX hS18 (Fr.mono hG1035 sb_scX_xAll)
            refine g_pop2L (M := mL_law) (pc := 1038) dL_law_1038 (k := ?_)
            refine g_aload_n (M := mL_law) (pc := 1039) dL_law_1039 rfl (k := ?_)
            refine g_aload_n (M := mL_law) (pc := 1040) dL_law_1040 rfl (k := ?_)
            refine g_iload_n (M := mL_law) (pc := 1041) dL_law_1041 rfl (k := ?_)
            refine g_iconst (M := mL_law) (pc := 1042) dL_law_1042 (k := ?_)
            refine g_iadd (M := mL_law) (pc := 1043) dL_law_1043 (k := ?_)
            refine g_sld (M := mL_law) (pc := 1044) (by omega) (by omega) dL_law_1044 (k := ?_)
            have hr1044 := scrR Γ (i + 1)
            refine g_aload_n (M := mL_law) (pc := 1045) dL_law_1045 rfl (k := ?_)
            refine g_iload_n (M := mL_law) (pc := 1046) dL_law_1046 rfl (k := ?_)
            refine g_iconst (M := mL_law) (pc := 1047) dL_law_1047 (k := ?_)
            refine g_iadd (M := mL_law) (pc := 1048) dL_law_1048 (k := ?_)
            refine g_sld (M := mL_law) (pc := 1049) (by omega) (by omega) dL_law_1049 (k := ?_)
            have hr1049 := scrR Γ (i + 2)
            refine g_cV2L (M := mL_law) (pc := 1050) (c_X11_mean Γ t _ _ _ hJ1035 hS1035 (by omega) (by omega)) qX11_mean vX11_mean sX11_mean kL_121 dL_law_1050 (kk := ?_)
            rintro r1050 τ1050 ⟨hi1050, hv1050, hG1050⟩
            have hX1050 := iv_frJ hX1035 (Fr.mono hG1050 sb_scJ_jAll)
            have hJ1050 := hv1050
            have hS1050 := JS_fr hS1035 (Fr.mono hG1050 sb_scJ_jNS)
            have hR1050 := R1_q hR18 (Fr.mono hG1035 sb_scX_xNR) (Fr.mono hG1050 sb_scJ_jNR)
            refine g_pop2L (M := mL_law) (pc := 1053) dL_law_1053 (k := ?_)
            refine g_goto (M := mL_law) (pc := 1054) (tgt := 1496) dL_law_1054 (k := ?_)
            refine g_iinc_3 (M := mL_law) (pc := 1496) dL_law_1496 (k := ?_)
            refine g_goto (M := mL_law) (pc := 1499) (tgt := 18) dL_law_1499 (k := ?_)
            exact ih18 _ _ _ (by omega) ⟨hX1050, hJ1050, hS1050, hR1050, by omega, by omega⟩
          · skip
            refine g_tableIn (M := mL_law) (pc := 33) (tgt := 1057) (by omega) dL_law_33 (25) hc33 (k := ?_)
            refine g_aload_n (M := mL_law) (pc := 1057) dL_law_1057 rfl (k := ?_)
            refine g_aload_n (M := mL_law) (pc := 1058) dL_law_1058 rfl (k := ?_)
            refine g_iload_n (M := mL_law) (pc := 1059) dL_law_1059 rfl (k := ?_)
            refine g_iconst (M := mL_law) (pc := 1060) dL_law_1060 (k := ?_)
            refine g_iadd (M := mL_law) (pc := 1061) dL_law_1061 (k := ?_)
            refine g_sld (M := mL_law) (pc := 1062) (by omega) (by omega) dL_law_1062 (k := ?_)
            have hr1062 := scrR Γ (i + 1)
            refine g_aload_n (M := mL_law) (pc := 1063) dL_law_1063 rfl (k := ?_)
            refine g_iload_n (M := mL_law) (pc := 1064) dL_law_1064 rfl (k := ?_)
            refine g_iconst (M := mL_law) (pc := 1065) dL_law_1065 (k := ?_)
            refine g_iadd (M := mL_law) (pc := 1066) dL_law_1066 (k := ?_)
            refine g_sld (M := mL_law) (pc := 1067) (by omega) (by omega) dL_law_1067 (k := ?_)
            have hr1067 := scrR Γ (i + 2)
            refine g_cV2I (M := mL_law) (pc := 1068) (c_X10_book Γ t _ _ _ hX18 (by omega) (by omega)) qX10_book vX10_book sX10_book kL_122 dL_law_1068 (kk := ?_)
            rintro r1068 τ1068 ⟨hi1068, hx1068, hv1068, hG1068⟩
            have hX1068 := hv1068
            have hJ1068 := jv_frX hJ18 hG1068
            have hS1068 := JS_frX hS18 hG1068
            refine g_popI (M := mL_law) (pc := 1071) dL_law_1071 (k := ?_)
            refine g_aload_n (M := mL_law) (pc := 1072) dL_law_1072 rfl (k := ?_)
            refine g_aload_n (M := mL_law) (pc := 1073) dL_law_1073 rfl (k := ?_)
            refine g_iload_n (M := mL_law) (pc := 1074) dL_law_1074 rfl (k := ?_)
            refine g_iconst (M := mL_law) (pc := 1075) dL_law_1075 (k := ?_)
            refine g_iadd (M := mL_law) (pc := 1076) dL_law_1076 (k := ?_)
            refine g_sld (M := mL_law) (pc := 1077) (by omega) (by omega) dL_law_1077 (k := ?_)
            have hr1077 := scrR Γ (i + 1)
            refine g_aload_n (M := mL_law) (pc := 1078) dL_law_1078 rfl (k := ?_)
            refine g_iload_n (M := mL_law) (pc := 1079) dL_law_1079 rfl (k := ?_)
            refine g_iconst (M := mL_law) (pc := 1080) dL_law_1080 (k := ?_)
            refine g_iadd (M := mL_law) (pc := 1081) dL_law_1081 (k := ?_)
            refine g_sld (M := mL_law) (pc := 1082) (by omega) (by omega) dL_law_1082 (k := ?_)
            have hr1082 := scrR Γ (i + 2)
            refine g_cV2I (M := mL_law) (pc := 1083) (c_X11_book Γ t _ _ _ hJ1068 hS1068 (by omega) (by omega)) qX11_book vX11_book sX11_book kL_125 dL_law_1083 (kk := ?_)
            rintro r1083 τ1083 ⟨hs1083, hx1083, hv1083, hG1083⟩
            have hX1083 := iv_frJ hX1068 hG1083
            have hJ1083 := hv1083
            have hS1083 := hs1083
            obtain ⟨hq1083, hR1083⟩ := st_book hR18 hX18 hx1068 hx1083
            refine g_popI (M := mL_law) (pc := 1086) dL_law_1086 (k := ?_)
            refine g_goto (M := mL_law) (pc := 1087) (tgt := 1496) dL_law_1087 (k := ?_)
            refine g_iinc_3 (M := mL_law) (pc := 1496) dL_law_1496 (k := ?_)
            refine g_goto (M := mL_law) (pc := 1499) (tgt := 18) dL_law_1499 (k := ?_)
            exact ih18 _ _ _ (by omega) ⟨hX1083, hJ1083, hS1083, hR1083, by omega, by omega⟩
          · skip
            refine g_tableIn (M := mL_law) (pc := 33) (tgt := 1090) (by omega) dL_law_33 (26) hc33 (k := ?_)
            refine g_aload_n (M := mL_law) (pc := 1090) dL_law_1090 rfl (k := ?_)
            refine g_cV0I (M := mL_law) (pc := 1091) (c_X10_looked Γ t _ hX18) qX10_looked vX10_looked sX10_looked kL_126 dL_law_1091 (kk := ?_)
            rintro r1091 τ1091 ⟨hv1091, hG1091⟩
            have hX1091 := hv1091
            have hJ1091 := jv_frX hJ18 (Fr.mono hG1091 sb_scX_xAll)
            have hS1091 := JS_frX hS18 (Fr.mono hG1091 sb_scX_xAll)
            refine g_popI (M := mL_law) (pc := 1094) dL_law_1094 (k := ?_)
            refine g_aload_n (M := mL_law) (pc := 1095) dL_law_1095 rfl (k := ?_)
            refine g_cV0I (M := mL_law) (pc := 1096) (c_X11_looked Γ t _ hJ1091 hS1091) qX11_looked vX11_looked sX11_looked kL_129 dL_law_1096 (kk := ?_)
            rintro r1096 τ1096 ⟨hi1096, hv1096, hG1096⟩
            have hX1096 := iv_frJ hX1091 (Fr.mono hG1096 sb_scJ_jAll)
            have hJ1096 := hv1096
            have hS1096 := JS_fr hS1091 (Fr.mono hG1096 sb_scJ_jNS)
            have hR1096 := R1_q hR18 (Fr.mono hG1091 sb_scX_xNR) (Fr.mono hG1096 sb_scJ_jNR)
            refine g_popI (M := mL_law) (pc := 1099) dL_law_1099 (k := ?_)
            refine g_goto (M := mL_law) (pc := 1100) (tgt := 1496) dL_law_1100 (k := ?_)
            refine g_iinc_3 (M := mL_law) (pc := 1496) dL_law_1496 (k := ?_)
            refine g_goto (M := mL_law) (pc := 1499) (tgt := 18) dL_law_1499 (k := ?_)
            exact ih18 _ _ _ (by omega) ⟨hX1096, hJ1096, hS1096, hR1096, by omega, by omega⟩
          · skip
            refine g_tableIn (M := mL_law) (pc := 33) (tgt := 1103) (by omega) dL_law_33 (27) hc33 (k := ?_)
            refine g_aload_n (M := mL_law) (pc := 1103) dL_law_1103 rfl (k := ?_)
            refine g_aload_n (M := mL_law) (pc := 1104) dL_law_1104 rfl (k := ?_)
            refine g_iload_n (M := mL_law) (pc := 1105) dL_law_1105 rfl (k := ?_)
            refine g_iconst (M := mL_law) (pc := 1106) dL_law_1106 (k := ?_)
            refine g_iadd (M := mL_law) (pc := 1107) dL_law_1107 (k := ?_)
            refine g_sld (M := mL_law) (pc := 1108) (by omega) (by omega) dL_law_1108 (k := ?_)
            have hr1108 := scrR Γ (i + 1)
            refine g_aload_n (M := mL_law) (pc := 1109) dL_law_1109 rfl (k := ?_)
            refine g_iload_n (M := mL_law) (pc := 1110) dL_law_1110 rfl (k := ?_)
            refine g_iconst (M := mL_law) (pc := 1111) dL_law_1111 (k := ?_)
            refine g_iadd (M := mL_law) (pc := 1112) dL_law_1112 (k := ?_)
            refine g_sld (M := mL_law) (pc := 1113) (by omega) (by omega) dL_law_1113 (k := ?_)
            have hr1113 := scrR Γ (i + 2)
            refine g_cV2I (M := mL_law) (pc := 1114) (c_X10_judge Γ t _ _ _ hX18 (by omega) (by omega)) qX10_judge vX10_judge sX10_judge kL_130 dL_law_1114 (kk := ?_)
            rintro r1114 τ1114 ⟨hv1114, hG1114⟩
            have hX1114 := hv1114
            have hJ1114 := jv_frX hJ18 (Fr.mono hG1114 sb_scX_xAll)
            have hS1114 := JS_frX hS18 (Fr.mono hG1114 sb_scX_xAll)
            refine g_popI (M := mL_law) (pc := 1117) dL_law_1117 (k := ?_)
            refine g_aload_n (M := mL_law) (pc := 1118) dL_law_1118 rfl (k := ?_)
            refine g_aload_n (M := mL_law) (pc := 1119) dL_law_1119 rfl (k := ?_)
            refine g_iload_n (M := mL_law) (pc := 1120) dL_law_1120 rfl (k := ?_)
            refine g_iconst (M := mL_law) (pc := 1121) dL_law_1121 (k := ?_)
            refine g_iadd (M := mL_law) (pc := 1122) dL_law_1122 (k := ?_)
            refine g_sld (M := mL_law) (pc := 1123) (by omega) (by omega) dL_law_1123 (k := ?_)
            have hr1123 := scrR Γ (i + 1)
            refine g_aload_n (M := mL_law) (pc := 1124) dL_law_1124 rfl (k := ?_)
            refine g_iload_n (M := mL_law) (pc := 1125) dL_law_1125 rfl (k := ?_)
            refine g_iconst (M := mL_law) (pc := 1126) dL_law_1126 (k := ?_)
            refine g_iadd (M := mL_law) (pc := 1127) dL_law_1127 (k := ?_)
            refine g_sld (M := mL_law) (pc := 1128) (by omega) (by omega) dL_law_1128 (k := ?_)
            have hr1128 := scrR Γ (i + 2)
            refine g_cV2I (M := mL_law) (pc := 1129) (c_X11_judge Γ t _ _ _ hJ1114 (by omega) (by omega)) qX11_judge vX11_judge sX11_judge kL_133 dL_law_1129 (kk := ?_)
            rintro r1129 _ ⟨hi1129, e⟩; rw [e]; clear e
            have hR1114 := R1_q hR18 (Fr.mono hG1114 sb_scX_xNR) Fr.rf
            refine g_popI (M := mL_law) (pc := 1132) dL_law_1132 (k := ?_)
            refine g_goto (M := mL_law) (pc := 1133) (tgt := 1496) dL_law_1133 (k := ?_)
            refine g_iinc_3 (M := mL_law) (pc := 1496) dL_law_1496 (k := ?_)
            refine g_goto (M := mL_law) (pc := 1499) (tgt := 18) dL_law_1499 (k := ?_)
            exact ih18 _ _ _ (by omega) ⟨hX1114, hJ1114, hS1114, hR1114, by omega, by omega⟩
          · skip
            refine g_tableIn (M := mL_law) (pc := 33) (tgt := 1136) (by omega) dL_law_33 (28) hc33 (k := ?_)
            refine g_aload_n (M := mL_law) (pc := 1136) dL_law_1136 rfl (k := ?_)
            refine g_cV0I (M := mL_law) (pc := 1137) (c_X10_image Γ t _ hX18) qX10_image vX10_image sX10_image kL_134 dL_law_1137 (kk := ?_)
            rintro r1137 τ1137 ⟨hx1137, hv1137, hG1137⟩
            have hX1137 := hv1137
            have hJ1137 := jv_frX hJ18 (Fr.mono hG1137 sb_scCk_xAll)
            have hS1137 := JS_frX hS18 (Fr.mono hG1137 sb_scCk_xAll)
            refine g_popI (M := mL_law) (pc := 1140) dL_law_1140 (k := ?_)
            refine g_aload_n (M := mL_law) (pc := 1141) dL_law_1141 rfl (k := ?_)
            refine g_cV0I (M := mL_law) (pc := 1142) (c_X11_image Γ t _ hJ1137) qX11_image vX11_image sX11_image kL_137 dL_law_1142 (kk := ?_)
            rintro r1142 τ1142 ⟨hi1142, hh1142, hc1142, hv1142, hG1142⟩
            have hX1142 := iv_frJ hX1137 (Fr.mono hG1142 sb_jcI_jAll)
            have hJ1142 := hv1142
            have hS1142 := JS_img hJ1137 hS1137 hG1142 hc1142
            have hR1142 := st_image hR18 hX18 hJ18 hG1137 hG1142 hx1137.2.2 hc1142 hx1137.2.1 hh1142
            have hq1142 : r1137 = r1142 := by rw [hx1137.1, hi1142, hG1137 69 0 rfl]; exact hR18.1
            refine g_popI (M := mL_law) (pc := 1145) dL_law_1145 (k := ?_)
            refine g_goto (M := mL_law) (pc := 1146) (tgt := 1496) dL_law_1146 (k := ?_)
            refine g_iinc_3 (M := mL_law) (pc := 1496) dL_law_1496 (k := ?_)
            refine g_goto (M := mL_law) (pc := 1499) (tgt := 18) dL_law_1499 (k := ?_)
            exact ih18 _ _ _ (by omega) ⟨hX1142, hJ1142, hS1142, hR1142, by omega, by omega⟩
          · skip
            refine g_tableIn (M := mL_law) (pc := 33) (tgt := 1149) (by omega) dL_law_33 (29) hc33 (k := ?_)
            refine g_aload_n (M := mL_law) (pc := 1149) dL_law_1149 rfl (k := ?_)
            refine g_cV0I (M := mL_law) (pc := 1150) (c_X10_undo Γ t _ hX18) qX10_undo vX10_undo sX10_undo kL_138 dL_law_1150 (kk := ?_)
            rintro r1150 τ1150 ⟨hx1150, hv1150, hG1150⟩
            have hX1150 := hv1150
            have hJ1150 := jv_frX hJ18 (Fr.mono hG1150 sb_scCn_xAll)
            have hS1150 := JS_frX hS18 (Fr.mono hG1150 sb_scCn_xAll)
            refine g_popI (M := mL_law) (pc := 1153) dL_law_1153 (k := ?_)
            refine g_aload_n (M := mL_law) (pc := 1154) dL_law_1154 rfl (k := ?_)
            refine g_cV0I (M := mL_law) (pc := 1155) (c_X11_undo Γ t _ hJ1150) qX11_undo vX11_undo sX11_undo kL_141 dL_law_1155 (kk := ?_)
            rintro r1155 τ1155 ⟨hc1155, hv1155, hG1155⟩
            have hX1155 := iv_frJ hX1150 (Fr.mono hG1155 sb_jcU_jAll)
            have hJ1155 := hv1155
            have hS1155 := hc1155.elim (fun e => by rw [e.2.2]; exact hS1150) (fun e => JS_undo hJ1150 hS1150 hG1155 e.2.2)
            obtain ⟨hq1155, hR1155⟩ := st_undo2 hR18 hX18 hJ18 hG1150 hG1155 hx1150 hc1155
            refine g_popI (M := mL_law) (pc := 1158) dL_law_1158 (k := ?_)
            refine g_goto (M := mL_law) (pc := 1159) (tgt := 1496) dL_law_1159 (k := ?_)
            refine g_iinc_3 (M := mL_law) (pc := 1496) dL_law_1496 (k := ?_)
            refine g_goto (M := mL_law) (pc := 1499) (tgt := 18) dL_law_1499 (k := ?_)
            exact ih18 _ _ _ (by omega) ⟨hX1155, hJ1155, hS1155, hR1155, by omega, by omega⟩
          · skip
            refine g_tableIn (M := mL_law) (pc := 33) (tgt := 1162) (by omega) dL_law_33 (30) hc33 (k := ?_)
            refine g_aload_n (M := mL_law) (pc := 1162) dL_law_1162 rfl (k := ?_)
            refine g_aload_n (M := mL_law) (pc := 1163) dL_law_1163 rfl (k := ?_)
            refine g_iload_n (M := mL_law) (pc := 1164) dL_law_1164 rfl (k := ?_)
            refine g_iconst (M := mL_law) (pc := 1165) dL_law_1165 (k := ?_)
            refine g_iadd (M := mL_law) (pc := 1166) dL_law_1166 (k := ?_)
            refine g_sld (M := mL_law) (pc := 1167) (by omega) (by omega) dL_law_1167 (k := ?_)
            have hr1167 := scrR Γ (i + 1)
            refine g_aload_n (M := mL_law) (pc := 1168) dL_law_1168 rfl (k := ?_)
            refine g_iload_n (M := mL_law) (pc := 1169) dL_law_1169 rfl (k := ?_)
            refine g_iconst (M := mL_law) (pc := 1170) dL_law_1170 (k := ?_)
            refine g_iadd (M := mL_law) (pc := 1171) dL_law_1171 (k := ?_)
            refine g_sld (M := mL_law) (pc := 1172) (by omega) (by omega) dL_law_1172 (k := ?_)
            have hr1172 := scrR Γ (i + 2)
            refine g_aload_n (M := mL_law) (pc := 1173) dL_law_1173 rfl (k := ?_)
            refine g_iload_n (M := mL_law) (pc := 1174) dL_law_1174 rfl (k := ?_)
            refine g_iconst (M := mL_law) (pc := 1175) dL_law_1175 (k := ?_)
            refine g_iadd (M := mL_law) (pc := 1176) dL_law_1176 (k := ?_)
            refine g_sld (M := mL_law) (pc := 1177) (by omega) (by omega) dL_law_1177 (k := ?_)
            have hr1177 := scrR Γ (i + 3)
            refine g_cV3I (M := mL_law) (pc := 1178) (c_X10_act Γ t _ _ _ _ hX18 (by omega) (by omega) (by omega)) qX10_act vX10_act sX10_act kL_142 dL_law_1178 (kk := ?_)
            rintro r1178 τ1178 ⟨hv1178, hG1178⟩
            have hX1178 := hv1178
            have hJ1178 := jv_frX hJ18 (Fr.mono hG1178 sb_scAc_xAll)
            have hS1178 := JS_frX hS18 (Fr.mono hG1178 sb_scAc_xAll)
            refine g_popI (M := mL_law) (pc := 1181) dL_law_1181 (k := ?_)
            refine g_aload_n (M := mL_law) (pc := 1182) dL_law_1182 rfl (k := ?_)
            refine g_aload_n (M := mL_law) (pc := 1183) dL_law_1183 rfl (k := ?_)
            refine g_iload_n (M := mL_law) (pc := 1184) dL_law_1184 rfl (k := ?_)
            refine g_iconst (M := mL_law) (pc := 1185) dL_law_1185 (k := ?_)
            refine g_iadd (M := mL_law) (pc := 1186) dL_law_1186 (k := ?_)
            refine g_sld (M := mL_law) (pc := 1187) (by omega) (by omega) dL_law_1187 (k := ?_)
            have hr1187 := scrR Γ (i + 1)
            refine g_aload_n (M := mL_law) (pc := 1188) dL_law_1188 rfl (k := ?_)
            refine g_iload_n (M := mL_law) (pc := 1189) dL_law_1189 rfl (k := ?_)
            refine g_iconst (M := mL_law) (pc := 1190) dL_law_1190 (k := ?_)
            refine g_iadd (M := mL_law) (pc := 1191) dL_law_1191 (k := ?_)
            refine g_sld (M := mL_law) (pc := 1192) (by omega) (by omega) dL_law_1192 (k := ?_)
            have hr1192 := scrR Γ (i + 2)
            refine g_aload_n (M := mL_law) (pc := 1193) dL_law_1193 rfl (k := ?_)
            refine g_iload_n (M := mL_law) (pc := 1194) dL_law_1194 rfl (k := ?_)
            refine g_iconst (M := mL_law) (pc := 1195) dL_law_1195 (k := ?_)
            refine g_iadd (M := mL_law) (pc := 1196) dL_law_1196 (k := ?_)
            refine g_sld (M := mL_law) (pc := 1197) (by omega) (by omega) dL_law_1197 (k := ?_)
            have hr1197 := scrR Γ (i + 3)
            refine g_cV3I (M := mL_law) (pc := 1198) (c_X11_act Γ t _ _ _ _ hJ1178 (by omega) (by omega) (by omega)) qX11_act vX11_act sX11_act kL_145 dL_law_1198 (kk := ?_)
            rintro r1198 τ1198 ⟨hv1198, hG1198⟩
            have hX1198 := iv_frJ hX1178 (Fr.mono hG1198 sb_jcK_jAll)
            have hJ1198 := hv1198
            have hS1198 := JS_fr hS1178 (Fr.mono hG1198 sb_jcK_jNS)
            have hR1198 := R1_q hR18 (Fr.mono hG1178 sb_scAc_xNR) (Fr.mono hG1198 sb_jcK_jNR)
            refine g_popI (M := mL_law) (pc := 1201) dL_law_1201 (k := ?_)
            refine g_goto (M := mL_law) (pc := 1202) (tgt := 1496) dL_law_1202 (k := ?_)
            refine g_iinc_3 (M := mL_law) (pc := 1496) dL_law_1496 (k := ?_)
            refine g_goto (M := mL_law) (pc := 1499) (tgt := 18) dL_law_1499 (k := ?_)
            exact ih18 _ _ _ (by omega) ⟨hX1198, hJ1198, hS1198, hR1198, by omega, by omega⟩
          · skip
            refine g_tableIn (M := mL_law) (pc := 33) (tgt := 1205) (by omega) dL_law_33 (31) hc33 (k := ?_)
            refine g_aload_n (M := mL_law) (pc := 1205) dL_law_1205 rfl (k := ?_)
            refine g_aload_n (M := mL_law) (pc := 1206) dL_law_1206 rfl (k := ?_)
            refine g_iload_n (M := mL_law) (pc := 1207) dL_law_1207 rfl (k := ?_)
            refine g_iconst (M := mL_law) (pc := 1208) dL_law_1208 (k := ?_)
            refine g_iadd (M := mL_law) (pc := 1209) dL_law_1209 (k := ?_)
            refine g_sld (M := mL_law) (pc := 1210) (by omega) (by omega) dL_law_1210 (k := ?_)
            have hr1210 := scrR Γ (i + 1)
            refine g_cV1I (M := mL_law) (pc := 1211) (c_X10_trace Γ t _ _ hX18 (by omega)) qX10_trace vX10_trace sX10_trace kL_146 dL_law_1211 (kk := ?_)
            rintro r1211 τ1211 ⟨hv1211, hG1211⟩
            have hX1211 := hv1211
            have hJ1211 := jv_frX hJ18 (Fr.mono hG1211 sb_scX_xAll)
            have hS1211 := JS_frX hS18 (Fr.mono hG1211 sb_scX_xAll)
            refine g_popI (M := mL_law) (pc := 1214) dL_law_1214 (k := ?_)
            refine g_aload_n (M := mL_law) (pc := 1215) dL_law_1215 rfl (k := ?_)
            refine g_aload_n (M := mL_law) (pc := 1216) dL_law_1216 rfl (k := ?_)
            refine g_iload_n (M := mL_law) (pc := 1217) dL_law_1217 rfl (k := ?_)
            refine g_iconst (M := mL_law) (pc := 1218) dL_law_1218 (k := ?_)
            refine g_iadd (M := mL_law) (pc := 1219) dL_law_1219 (k := ?_)
            refine g_sld (M := mL_law) (pc := 1220) (by omega) (by omega) dL_law_1220 (k := ?_)
            have hr1220 := scrR Γ (i + 1)
            refine g_cV1I (M := mL_law) (pc := 1221) (c_X11_trace Γ t _ _ hJ1211 (by omega)) qX11_trace vX11_trace sX11_trace kL_149 dL_law_1221 (kk := ?_)
            rintro r1221 _ e; rw [e]; clear e
            have hR1211 := R1_q hR18 (Fr.mono hG1211 sb_scX_xNR) Fr.rf
            refine g_popI (M := mL_law) (pc := 1224) dL_law_1224 (k := ?_)
            refine g_goto (M := mL_law) (pc := 1225) (tgt := 1496) dL_law_1225 (k := ?_)
            refine g_iinc_3 (M := mL_law) (pc := 1496) dL_law_1496 (k := ?_)
            refine g_goto (M := mL_law) (pc := 1499) (tgt := 18) dL_law_1499 (k := ?_)
            exact ih18 _ _ _ (by omega) ⟨hX1211, hJ1211, hS1211, hR1211, by omega, by omega⟩
          · skip
            refine g_tableIn (M := mL_law) (pc := 33) (tgt := 1228) (by omega) dL_law_33 (32) hc33 (k := ?_)
            refine g_aload_n (M := mL_law) (pc := 1228) dL_law_1228 rfl (k := ?_)
            refine g_aload_n (M := mL_law) (pc := 1229) dL_law_1229 rfl (k := ?_)
            refine g_iload_n (M := mL_law) (pc := 1230) dL_law_1230 rfl (k := ?_)
            refine g_iconst (M := mL_law) (pc := 1231) dL_law_1231 (k := ?_)
            refine g_iadd (M := mL_law) (pc := 1232) dL_law_1232 (k := ?_)
            refine g_sld (M := mL_law) (pc := 1233) (by omega) (by omega) dL_law_1233 (k := ?_)
            have hr1233 := scrR Γ (i + 1)
            refine g_aload_n (M := mL_law) (pc := 1234) dL_law_1234 rfl (k := ?_)
            refine g_iload_n (M := mL_law) (pc := 1235) dL_law_1235 rfl (k := ?_)
            refine g_iconst (M := mL_law) (pc := 1236) dL_law_1236 (k := ?_)
            refine g_iadd (M := mL_law) (pc := 1237) dL_law_1237 (k := ?_)
            refine g_sld (M := mL_law) (pc := 1238) (by omega) (by omega) dL_law_1238 (k := ?_)
            have hr1238 := scrR Γ (i + 2)
            refine g_cV2I (M := mL_law) (pc := 1239) (c_X10_taken Γ t _ _ _ hX18 (by omega) (by omega)) qX10_taken vX10_taken sX10_taken kL_150 dL_law_1239 (kk := ?_)
            rintro r1239 τ1239 ⟨hi1239, hx1239, hv1239, hG1239⟩
            have hX1239 := hv1239
            have hJ1239 := jv_frX hJ18 (Fr.mono hG1239 sb_scX_xAll)
            have hS1239 := JS_frX hS18 (Fr.mono hG1239 sb_scX_xAll)
            refine g_popI (M := mL_law) (pc := 1242) dL_law_1242 (k := ?_)
            refine g_aload_n (M := mL_law) (pc := 1243) dL_law_1243 rfl (k := ?_)
            refine g_aload_n (M := mL_law) (pc := 1244) dL_law_1244 rfl (k := ?_)
            refine g_iload_n (M := mL_law) (pc := 1245) dL_law_1245 rfl (k := ?_)
            refine g_iconst (M := mL_law) (pc := 1246) dL_law_1246 (k := ?_)
            refine g_iadd (M := mL_law) (pc := 1247) dL_law_1247 (k := ?_)
            refine g_sld (M := mL_law) (pc := 1248) (by omega) (by omega) dL_law_1248 (k := ?_)
            have hr1248 := scrR Γ (i + 1)
            refine g_aload_n (M := mL_law) (pc := 1249) dL_law_1249 rfl (k := ?_)
            refine g_iload_n (M := mL_law) (pc := 1250) dL_law_1250 rfl (k := ?_)
            refine g_iconst (M := mL_law) (pc := 1251) dL_law_1251 (k := ?_)
            refine g_iadd (M := mL_law) (pc := 1252) dL_law_1252 (k := ?_)
            refine g_sld (M := mL_law) (pc := 1253) (by omega) (by omega) dL_law_1253 (k := ?_)
            have hr1253 := scrR Γ (i + 2)
            refine g_cV2I (M := mL_law) (pc := 1254) (c_X11_taken Γ t _ _ _ hJ1239 (by omega) (by omega)) qX11_taken vX11_taken sX11_taken kL_153 dL_law_1254 (kk := ?_)
            rintro r1254 _ ⟨hx1254, e⟩; rw [e]; clear e
            obtain ⟨hq1254, hR1239⟩ := st_taken hR18 hX18 hx1239 hx1254
            refine g_popI (M := mL_law) (pc := 1257) dL_law_1257 (k := ?_)
            refine g_goto (M := mL_law) (pc := 1258) (tgt := 1496) dL_law_1258 (k := ?_)
            refine g_iinc_3 (M := mL_law) (pc := 1496) dL_law_1496 (k := ?_)
            refine g_goto (M := mL_law) (pc := 1499) (tgt := 18) dL_law_1499 (k := ?_)
            exact ih18 _ _ _ (by omega) ⟨hX1239, hJ1239, hS1239, hR1239, by omega, by omega⟩
          · skip
            refine g_tableIn (M := mL_law) (pc := 33) (tgt := 1261) (by omega) dL_law_33 (33) hc33 (k := ?_)
            refine g_aload_n (M := mL_law) (pc := 1261) dL_law_1261 rfl (k := ?_)
            refine g_aload_n (M := mL_law) (pc := 1262) dL_law_1262 rfl (k := ?_)
            refine g_iload_n (M := mL_law) (pc := 1263) dL_law_1263 rfl (k := ?_)
            refine g_iconst (M := mL_law) (pc := 1264) dL_law_1264 (k := ?_)
            refine g_iadd (M := mL_law) (pc := 1265) dL_law_1265 (k := ?_)
            refine g_sld (M := mL_law) (pc := 1266) (by omega) (by omega) dL_law_1266 (k := ?_)
            have hr1266 := scrR Γ (i + 1)
            refine g_cV1I (M := mL_law) (pc := 1267) (c_X10_count Γ t _ _ hX18 (by omega)) qX10_count vX10_count sX10_count kL_154 dL_law_1267 (kk := ?_)
            rintro r1267 τ1267 ⟨hv1267, hG1267⟩
            have hX1267 := hv1267
            have hJ1267 := jv_frX hJ18 (Fr.mono hG1267 sb_scX_xAll)
            have hS1267 := JS_frX hS18 (Fr.mono hG1267 sb_scX_xAll)
            refine g_popI (M := mL_law) (pc := 1270) dL_law_1270 (k := ?_)
            refine g_aload_n (M := mL_law) (pc := 1271) dL_law_1271 rfl (k := ?_)
            refine g_aload_n (M := mL_law) (pc := 1272) dL_law_1272 rfl (k := ?_)
            refine g_iload_n (M := mL_law) (pc := 1273) dL_law_1273 rfl (k := ?_)
            refine g_iconst (M := mL_law) (pc := 1274) dL_law_1274 (k := ?_)
            refine g_iadd (M := mL_law) (pc := 1275) dL_law_1275 (k := ?_)
            refine g_sld (M := mL_law) (pc := 1276) (by omega) (by omega) dL_law_1276 (k := ?_)
            have hr1276 := scrR Γ (i + 1)
            refine g_cV1I (M := mL_law) (pc := 1277) (c_X11_count Γ t _ _ hJ1267 (by omega)) qX11_count vX11_count sX11_count kL_157 dL_law_1277 (kk := ?_)
            rintro r1277 _ e; rw [e]; clear e
            have hR1267 := R1_q hR18 (Fr.mono hG1267 sb_scX_xNR) Fr.rf
            refine g_popI (M := mL_law) (pc := 1280) dL_law_1280 (k := ?_)
            refine g_goto (M := mL_law) (pc := 1281) (tgt := 1496) dL_law_1281 (k := ?_)
            refine g_iinc_3 (M := mL_law) (pc := 1496) dL_law_1496 (k := ?_)
            refine g_goto (M := mL_law) (pc := 1499) (tgt := 18) dL_law_1499 (k := ?_)
            exact ih18 _ _ _ (by omega) ⟨hX1267, hJ1267, hS1267, hR1267, by omega, by omega⟩
          · skip
            refine g_tableIn (M := mL_law) (pc := 33) (tgt := 1284) (by omega) dL_law_33 (34) hc33 (k := ?_)
            refine g_aload_n (M := mL_law) (pc := 1284) dL_law_1284 rfl (k := ?_)
            refine g_aload_n (M := mL_law) (pc := 1285) dL_law_1285 rfl (k := ?_)
            refine g_iload_n (M := mL_law) (pc := 1286) dL_law_1286 rfl (k := ?_)
            refine g_iconst (M := mL_law) (pc := 1287) dL_law_1287 (k := ?_)
            refine g_iadd (M := mL_law) (pc := 1288) dL_law_1288 (k := ?_)
            refine g_sld (M := mL_law) (pc := 1289) (by omega) (by omega) dL_law_1289 (k := ?_)
            have hr1289 := scrR Γ (i + 1)
            refine g_aload_n (M := mL_law) (pc := 1290) dL_law_1290 rfl (k := ?_)
            refine g_iload_n (M := mL_law) (pc := 1291) dL_law_1291 rfl (k := ?_)
            refine g_iconst (M := mL_law) (pc := 1292) dL_law_1292 (k := ?_)
            refine g_iadd (M := mL_law) (pc := 1293) dL_law_1293 (k := ?_)
            refine g_sld (M := mL_law) (pc := 1294) (by omega) (by omega) dL_law_1294 (k := ?_)
            have hr1294 := scrR Γ (i + 2)
            refine g_aload_n (M := mL_law) (pc := 1295) dL_law_1295 rfl (k := ?_)
            refine g_iload_n (M := mL_law) (pc := 1296) dL_law_1296 rfl (k := ?_)
            refine g_iconst (M := mL_law) (pc := 1297) dL_law_1297 (k := ?_)
            refine g_iadd (M := mL_law) (pc := 1298) dL_law_1298 (k := ?_)
            refine g_sld (M := mL_law) (pc := 1299) (by omega) (by omega) dL_law_1299 (k := ?_)
            have hr1299 := scrR Γ (i + 3)
            refine g_cV3I (M := mL_law) (pc := 1300) (c_X10_tape Γ t _ _ _ _ hX18 (by omega) (by omega) (by omega)) qX10_tape vX10_tape sX10_tape kL_158 dL_law_1300 (kk := ?_)
            rintro r1300 τ1300 ⟨ht1300, hv1300, hG1300⟩
            have hX1300 := hv1300
            have hJ1300 := jv_frX hJ18 (Fr.mono hG1300 sb_scTp_xAll)
            have hS1300 := JS_frX hS18 (Fr.mono hG1300 sb_scTp_xAll)
            refine g_popI (M := mL_law) (pc := 1303) dL_law_1303 (k := ?_)
            refine g_aload_n (M := mL_law) (pc := 1304) dL_law_1304 rfl (k := ?_)
            refine g_aload_n (M := mL_law) (pc := 1305) dL_law_1305 rfl (k := ?_)
            refine g_iload_n (M := mL_law) (pc := 1306) dL_law_1306 rfl (k := ?_)
            refine g_iconst (M := mL_law) (pc := 1307) dL_law_1307 (k := ?_)
            refine g_iadd (M := mL_law) (pc := 1308) dL_law_1308 (k := ?_)
            refine g_sld (M := mL_law) (pc := 1309) (by omega) (by omega) dL_law_1309 (k := ?_)
            have hr1309 := scrR Γ (i + 1)
            refine g_aload_n (M := mL_law) (pc := 1310) dL_law_1310 rfl (k := ?_)
            refine g_iload_n (M := mL_law) (pc := 1311) dL_law_1311 rfl (k := ?_)
            refine g_iconst (M := mL_law) (pc := 1312) dL_law_1312 (k := ?_)
            refine g_iadd (M := mL_law) (pc := 1313) dL_law_1313 (k := ?_)
            refine g_sld (M := mL_law) (pc := 1314) (by omega) (by omega) dL_law_1314 (k := ?_)
            have hr1314 := scrR Γ (i + 2)
            refine g_aload_n (M := mL_law) (pc := 1315) dL_law_1315 rfl (k := ?_)
            refine g_iload_n (M := mL_law) (pc := 1316) dL_law_1316 rfl (k := ?_)
            refine g_iconst (M := mL_law) (pc := 1317) dL_law_1317 (k := ?_)
            refine g_iadd (M := mL_law) (pc := 1318) dL_law_1318 (k := ?_)
            refine g_sld (M := mL_law) (pc := 1319) (by omega) (by omega) dL_law_1319 (k := ?_)
            have hr1319 := scrR Γ (i + 3)
            refine g_cV3I (M := mL_law) (pc := 1320) (c_X11_tape Γ t _ _ _ _ hJ1300 (by omega) (by omega) (by omega)) qX11_tape vX11_tape sX11_tape kL_161 dL_law_1320 (kk := ?_)
            rintro r1320 τ1320 ⟨ht1320, hv1320, hG1320⟩
            have hX1320 := iv_frJ hX1300 (Fr.mono hG1320 sb_jcTp_jAll)
            have hJ1320 := hv1320
            have hS1320 := JS_fr hS1300 (Fr.mono hG1320 sb_jcTp_jNS)
            have hR1320 := R1_q hR18 (Fr.mono hG1300 sb_scTp_xNR) (Fr.mono hG1320 sb_jcTp_jNR)
            refine g_popI (M := mL_law) (pc := 1323) dL_law_1323 (k := ?_)
            refine g_goto (M := mL_law) (pc := 1324) (tgt := 1496) dL_law_1324 (k := ?_)
            refine g_iinc_3 (M := mL_law) (pc := 1496) dL_law_1496 (k := ?_)
            refine g_goto (M := mL_law) (pc := 1499) (tgt := 18) dL_law_1499 (k := ?_)
            exact ih18 _ _ _ (by omega) ⟨hX1320, hJ1320, hS1320, hR1320, by omega, by omega⟩
          · skip
            refine g_tableIn (M := mL_law) (pc := 33) (tgt := 1327) (by omega) dL_law_33 (35) hc33 (k := ?_)
            refine g_aload_n (M := mL_law) (pc := 1327) dL_law_1327 rfl (k := ?_)
            refine g_aload_n (M := mL_law) (pc := 1328) dL_law_1328 rfl (k := ?_)
            refine g_iload_n (M := mL_law) (pc := 1329) dL_law_1329 rfl (k := ?_)
            refine g_iconst (M := mL_law) (pc := 1330) dL_law_1330 (k := ?_)
            refine g_iadd (M := mL_law) (pc := 1331) dL_law_1331 (k := ?_)
            refine g_sld (M := mL_law) (pc := 1332) (by omega) (by omega) dL_law_1332 (k := ?_)
            have hr1332 := scrR Γ (i + 1)
            refine g_aload_n (M := mL_law) (pc := 1333) dL_law_1333 rfl (k := ?_)
            refine g_iload_n (M := mL_law) (pc := 1334) dL_law_1334 rfl (k := ?_)
            refine g_iconst (M := mL_law) (pc := 1335) dL_law_1335 (k := ?_)
            refine g_iadd (M := mL_law) (pc := 1336) dL_law_1336 (k := ?_)
            refine g_sld (M := mL_law) (pc := 1337) (by omega) (by omega) dL_law_1337 (k := ?_)
            have hr1337 := scrR Γ (i + 2)
            refine g_aload_n (M := mL_law) (pc := 1338) dL_law_1338 rfl (k := ?_)
            refine g_iload_n (M := mL_law) (pc := 1339) dL_law_1339 rfl (k := ?_)
            refine g_iconst (M := mL_law) (pc := 1340) dL_law_1340 (k := ?_)
            refine g_iadd (M := mL_law) (pc := 1341) dL_law_1341 (k := ?_)
            refine g_sld (M := mL_law) (pc := 1342) (by omega) (by omega) dL_law_1342 (k := ?_)
            have hr1342 := scrR Γ (i + 3)
            refine g_i2l (M := mL_law) (pc := 1343) (by omega) dL_law_1343 (k := ?_)
            refine g_bipush (M := mL_law) (pc := 1344) dL_law_1344 (k := ?_)
            refine g_lshl (M := mL_law) (pc := 1346) dL_law_1346 (k := ?_)
            have hz1346 := zlshlR (scr Γ (i + 3)) 32
            refine g_aload_n (M := mL_law) (pc := 1347) dL_law_1347 rfl (k := ?_)
            refine g_iload_n (M := mL_law) (pc := 1348) dL_law_1348 rfl (k := ?_)
            refine g_iconst (M := mL_law) (pc := 1349) dL_law_1349 (k := ?_)
            refine g_iadd (M := mL_law) (pc := 1350) dL_law_1350 (k := ?_)
            refine g_sld (M := mL_law) (pc := 1351) (by omega) (by omega) dL_law_1351 (k := ?_)
            have hr1351 := scrR Γ (i + 4)
            refine g_i2l (M := mL_law) (pc := 1352) (by omega) dL_law_1352 (k := ?_)
            refine g_ldc2 (M := mL_law) (pc := 1353) (x := 4294967295) kL_162 dL_law_1353 (k := ?_)
            refine g_land (M := mL_law) (pc := 1356) dL_law_1356 (k := ?_)
            have hz1356 := zlandR (scr Γ (i + 4)) 4294967295
            refine g_lor (M := mL_law) (pc := 1357) dL_law_1357 (k := ?_)
            have hz1357 := zlorR (zlshl (scr Γ (i + 3)) 32) (zland (scr Γ (i + 4)) 4294967295)
            refine g_cV3I (M := mL_law) (pc := 1358) (c_X10_item Γ t _ _ _ _ hX18 (by omega) (by omega) (by omega)) qX10_item vX10_item sX10_item kL_164 dL_law_1358 (kk := ?_)
            rintro r1358 τ1358 ⟨hi1358, hx1358, hv1358, hG1358⟩
            have hX1358 := hv1358
            have hJ1358 := jv_frX hJ18 (Fr.mono hG1358 sb_scTp_xAll)
            have hS1358 := JS_frX hS18 (Fr.mono hG1358 sb_scTp_xAll)
            refine g_popI (M := mL_law) (pc := 1361) dL_law_1361 (k := ?_)
            refine g_aload_n (M := mL_law) (pc := 1362) dL_law_1362 rfl (k := ?_)
            refine g_aload_n (M := mL_law) (pc := 1363) dL_law_1363 rfl (k := ?_)
            refine g_iload_n (M := mL_law) (pc := 1364) dL_law_1364 rfl (k := ?_)
            refine g_iconst (M := mL_law) (pc := 1365) dL_law_1365 (k := ?_)
            refine g_iadd (M := mL_law) (pc := 1366) dL_law_1366 (k := ?_)
            refine g_sld (M := mL_law) (pc := 1367) (by omega) (by omega) dL_law_1367 (k := ?_)
            have hr1367 := scrR Γ (i + 1)
            refine g_aload_n (M := mL_law) (pc := 1368) dL_law_1368 rfl (k := ?_)
            refine g_iload_n (M := mL_law) (pc := 1369) dL_law_1369 rfl (k := ?_)
            refine g_iconst (M := mL_law) (pc := 1370) dL_law_1370 (k := ?_)
            refine g_iadd (M := mL_law) (pc := 1371) dL_law_1371 (k := ?_)
            refine g_sld (M := mL_law) (pc := 1372) (by omega) (by omega) dL_law_1372 (k := ?_)
            have hr1372 := scrR Γ (i + 2)
            refine g_aload_n (M := mL_law) (pc := 1373) dL_law_1373 rfl (k := ?_)
            refine g_iload_n (M := mL_law) (pc := 1374) dL_law_1374 rfl (k := ?_)
            refine g_iconst (M := mL_law) (pc := 1375) dL_law_1375 (k := ?_)
            refine g_iadd (M := mL_law) (pc := 1376) dL_law_1376 (k := ?_)
            refine g_sld (M := mL_law) (pc := 1377) (by omega) (by omega) dL_law_1377 (k := ?_)
            have hr1377 := scrR Γ (i + 3)
            refine g_i2l (M := mL_law) (pc := 1378) (by omega) dL_law_1378 (k := ?_)
            refine g_bipush (M := mL_law) (pc := 1379) dL_law_1379 (k := ?_)
            refine g_lshl (M := mL_law) (pc := 1381) dL_law_1381 (k := ?_)
            have hz1381 := zlshlR (scr Γ (i + 3)) 32
            refine g_aload_n (M := mL_law) (pc := 1382) dL_law_1382 rfl (k := ?_)
            refine g_iload_n (M := mL_law) (pc := 1383) dL_law_1383 rfl (k := ?_)
            refine g_iconst (M := mL_law) (pc := 1384) dL_law_1384 (k := ?_)
            refine g_iadd (M := mL_law) (pc := 1385) dL_law_1385 (k := ?_)
            refine g_sld (M := mL_law) (pc := 1386) (by omega) (by omega) dL_law_1386 (k := ?_)
            have hr1386 := scrR Γ (i + 4)
            refine g_i2l (M := mL_law) (pc := 1387) (by omega) dL_law_1387 (k := ?_)
            refine g_ldc2 (M := mL_law) (pc := 1388) (x := 4294967295) kL_162 dL_law_1388 (k := ?_)
            refine g_land (M := mL_law) (pc := 1391) dL_law_1391 (k := ?_)
            have hz1391 := zlandR (scr Γ (i + 4)) 4294967295
            refine g_lor (M := mL_law) (pc := 1392) dL_law_1392 (k := ?_)
            have hz1392 := zlorR (zlshl (scr Γ (i + 3)) 32) (zland (scr Γ (i + 4)) 4294967295)
            refine g_cV3I (M := mL_law) (pc := 1393) (c_X11_item Γ t _ _ _ _ hJ1358 (by omega) (by omega) (by omega)) qX11_item vX11_item sX11_item kL_168 dL_law_1393 (kk := ?_)
            rintro r1393 τ1393 ⟨hx1393, hv1393, hG1393⟩
            have hX1393 := iv_frJ hX1358 (Fr.mono hG1393 sb_jcTp_jAll)
            have hJ1393 := hv1393
            have hS1393 := JS_fr hS1358 (Fr.mono hG1393 sb_jcTp_jNS)
            have hR1393 := R1_q hR18 (Fr.mono hG1358 sb_scTp_xNR) (Fr.mono hG1393 sb_jcTp_jNR)
            refine g_popI (M := mL_law) (pc := 1396) dL_law_1396 (k := ?_)
            refine g_goto (M := mL_law) (pc := 1397) (tgt := 1496) dL_law_1397 (k := ?_)
            refine g_iinc_3 (M := mL_law) (pc := 1496) dL_law_1496 (k := ?_)
            refine g_goto (M := mL_law) (pc := 1499) (tgt := 18) dL_law_1499 (k := ?_)
            exact ih18 _ _ _ (by omega) ⟨hX1393, hJ1393, hS1393, hR1393, by omega, by omega⟩
          · skip
            refine g_tableIn (M := mL_law) (pc := 33) (tgt := 1400) (by omega) dL_law_33 (36) hc33 (k := ?_)
            refine g_aload_n (M := mL_law) (pc := 1400) dL_law_1400 rfl (k := ?_)
            refine g_aload_n (M := mL_law) (pc := 1401) dL_law_1401 rfl (k := ?_)
            refine g_iload_n (M := mL_law) (pc := 1402) dL_law_1402 rfl (k := ?_)
            refine g_iconst (M := mL_law) (pc := 1403) dL_law_1403 (k := ?_)
            refine g_iadd (M := mL_law) (pc := 1404) dL_law_1404 (k := ?_)
            refine g_sld (M := mL_law) (pc := 1405) (by omega) (by omega) dL_law_1405 (k := ?_)
            have hr1405 := scrR Γ (i + 1)
            refine g_aload_n (M := mL_law) (pc := 1406) dL_law_1406 rfl (k := ?_)
            refine g_iload_n (M := mL_law) (pc := 1407) dL_law_1407 rfl (k := ?_)
            refine g_iconst (M := mL_law) (pc := 1408) dL_law_1408 (k := ?_)
            refine g_iadd (M := mL_law) (pc := 1409) dL_law_1409 (k := ?_)
            refine g_sld (M := mL_law) (pc := 1410) (by omega) (by omega) dL_law_1410 (k := ?_)
            have hr1410 := scrR Γ (i + 2)
            refine g_cV2L (M := mL_law) (pc := 1411) (c_X10_read Γ t _ _ _ hX18 (by omega) (by omega)) qX10_read vX10_read sX10_read kL_169 dL_law_1411 (kk := ?_)
            rintro r1411 τ1411 ⟨hi1411, hx1411, hv1411, hG1411⟩
            have hX1411 := hv1411
            have hJ1411 := jv_frX hJ18 (Fr.mono hG1411 sb_scX_xAll)
            have hS1411 := JS_frX hS18 (Fr.mono hG1411 sb_scX_xAll)
            refine g_pop2L (M := mL_law) (pc := 1414) dL_law_1414 (k := ?_)
            refine g_aload_n (M := mL_law) (pc := 1415) dL_law_1415 rfl (k := ?_)
            refine g_aload_n (M := mL_law) (pc := 1416) dL_law_1416 rfl (k := ?_)
            refine g_iload_n (M := mL_law) (pc := 1417) dL_law_1417 rfl (k := ?_)
            refine g_iconst (M := mL_law) (pc := 1418) dL_law_1418 (k := ?_)
            refine g_iadd (M := mL_law) (pc := 1419) dL_law_1419 (k := ?_)
            refine g_sld (M := mL_law) (pc := 1420) (by omega) (by omega) dL_law_1420 (k := ?_)
            have hr1420 := scrR Γ (i + 1)
            refine g_aload_n (M := mL_law) (pc := 1421) dL_law_1421 rfl (k := ?_)
            refine g_iload_n (M := mL_law) (pc := 1422) dL_law_1422 rfl (k := ?_)
            refine g_iconst (M := mL_law) (pc := 1423) dL_law_1423 (k := ?_)
            refine g_iadd (M := mL_law) (pc := 1424) dL_law_1424 (k := ?_)
            refine g_sld (M := mL_law) (pc := 1425) (by omega) (by omega) dL_law_1425 (k := ?_)
            have hr1425 := scrR Γ (i + 2)
            refine g_cV2L (M := mL_law) (pc := 1426) (c_X11_read Γ t _ _ _ hJ1411 (by omega) (by omega)) qX11_read vX11_read sX11_read kL_172 dL_law_1426 (kk := ?_)
            rintro r1426 _ ⟨hi1426, hx1426, e⟩; rw [e]; clear e
            have hR1411 := R1_q hR18 (Fr.mono hG1411 sb_scX_xNR) Fr.rf
            refine g_pop2L (M := mL_law) (pc := 1429) dL_law_1429 (k := ?_)
            refine g_goto (M := mL_law) (pc := 1430) (tgt := 1496) dL_law_1430 (k := ?_)
            refine g_iinc_3 (M := mL_law) (pc := 1496) dL_law_1496 (k := ?_)
            refine g_goto (M := mL_law) (pc := 1499) (tgt := 18) dL_law_1499 (k := ?_)
            exact ih18 _ _ _ (by omega) ⟨hX1411, hJ1411, hS1411, hR1411, by omega, by omega⟩
          · skip
            refine g_tableIn (M := mL_law) (pc := 33) (tgt := 1433) (by omega) dL_law_33 (37) hc33 (k := ?_)
            refine g_aload_n (M := mL_law) (pc := 1433) dL_law_1433 rfl (k := ?_)
            refine g_aload_n (M := mL_law) (pc := 1434) dL_law_1434 rfl (k := ?_)
            refine g_iload_n (M := mL_law) (pc := 1435) dL_law_1435 rfl (k := ?_)
            refine g_iconst (M := mL_law) (pc := 1436) dL_law_1436 (k := ?_)
            refine g_iadd (M := mL_law) (pc := 1437) dL_law_1437 (k := ?_)
            refine g_sld (M := mL_law) (pc := 1438) (by omega) (by omega) dL_law_1438 (k := ?_)
            have hr1438 := scrR Γ (i + 1)
            refine g_aload_n (M := mL_law) (pc := 1439) dL_law_1439 rfl (k := ?_)
            refine g_iload_n (M := mL_law) (pc := 1440) dL_law_1440 rfl (k := ?_)
            refine g_iconst (M := mL_law) (pc := 1441) dL_law_1441 (k := ?_)
            refine g_iadd (M := mL_law) (pc := 1442) dL_law_1442 (k := ?_)
            refine g_sld (M := mL_law) (pc := 1443) (by omega) (by omega) dL_law_1443 (k := ?_)
            have hr1443 := scrR Γ (i + 2)
            refine g_aload_n (M := mL_law) (pc := 1444) dL_law_1444 rfl (k := ?_)
            refine g_iload_n (M := mL_law) (pc := 1445) dL_law_1445 rfl (k := ?_)
            refine g_iconst (M := mL_law) (pc := 1446) dL_law_1446 (k := ?_)
            refine g_iadd (M := mL_law) (pc := 1447) dL_law_1447 (k := ?_)
            refine g_sld (M := mL_law) (pc := 1448) (by omega) (by omega) dL_law_1448 (k := ?_)
            have hr1448 := scrR Γ (i + 3)
            refine g_aload_n (M := mL_law) (pc := 1449) dL_law_1449 rfl (k := ?_)
            refine g_iload_n (M := mL_law) (pc := 1450) dL_law_1450 rfl (k := ?_)
            refine g_iconst (M := mL_law) (pc := 1451) dL_law_1451 (k := ?_)
            refine g_iadd (M := mL_law) (pc := 1452) dL_law_1452 (k := ?_)
            refine g_sld (M := mL_law) (pc := 1453) (by omega) (by omega) dL_law_1453 (k := ?_)
            have hr1453 := scrR Γ (i + 4)
            refine g_aload_n (M := mL_law) (pc := 1454) dL_law_1454 rfl (k := ?_)
            refine g_iload_n (M := mL_law) (pc := 1455) dL_law_1455 rfl (k := ?_)
            refine g_iconst (M := mL_law) (pc := 1456) dL_law_1456 (k := ?_)
            refine g_iadd (M := mL_law) (pc := 1457) dL_law_1457 (k := ?_)
            refine g_sld (M := mL_law) (pc := 1458) (by omega) (by omega) dL_law_1458 (k := ?_)
            have hr1458 := scrR Γ (i + 5)
            refine g_cV5I (M := mL_law) (pc := 1459) (c_X10_shift Γ t _ _ _ _ _ _ hX18 (by omega) (by omega) (by omega) (by omega) (by omega)) qX10_shift vX10_shift sX10_shift kL_173 dL_law_1459 (kk := ?_)
            rintro r1459 τ1459 ⟨hv1459, hG1459⟩
            have hX1459 := hv1459
            have hJ1459 := jv_frX hJ18 (Fr.mono hG1459 sb_scTp_xAll)
            have hS1459 := JS_frX hS18 (Fr.mono hG1459 sb_scTp_xAll)
            refine g_popI (M := mL_law) (pc := 1462) dL_law_1462 (k := ?_)
            refine g_aload_n (M := mL_law) (pc := 1463) dL_law_1463 rfl (k := ?_)
            refine g_aload_n (M := mL_law) (pc := 1464) dL_law_1464 rfl (k := ?_)
            refine g_iload_n (M := mL_law) (pc := 1465) dL_law_1465 rfl (k := ?_)
            refine g_iconst (M := mL_law) (pc := 1466) dL_law_1466 (k := ?_)
            refine g_iadd (M := mL_law) (pc := 1467) dL_law_1467 (k := ?_)
            refine g_sld (M := mL_law) (pc := 1468) (by omega) (by omega) dL_law_1468 (k := ?_)
            have hr1468 := scrR Γ (i + 1)
            refine g_aload_n (M := mL_law) (pc := 1469) dL_law_1469 rfl (k := ?_)
            refine g_iload_n (M := mL_law) (pc := 1470) dL_law_1470 rfl (k := ?_)
            refine g_iconst (M := mL_law) (pc := 1471) dL_law_1471 (k := ?_)
            refine g_iadd (M := mL_law) (pc := 1472) dL_law_1472 (k := ?_)
            refine g_sld (M := mL_law) (pc := 1473) (by omega) (by omega) dL_law_1473 (k := ?_)
            have hr1473 := scrR Γ (i + 2)
            refine g_aload_n (M := mL_law) (pc := 1474) dL_law_1474 rfl (k := ?_)
            refine g_iload_n (M := mL_law) (pc := 1475) dL_law_1475 rfl (k := ?_)
            refine g_iconst (M := mL_law) (pc := 1476) dL_law_1476 (k := ?_)
            refine g_iadd (M := mL_law) (pc := 1477) dL_law_1477 (k := ?_)
            refine g_sld (M := mL_law) (pc := 1478) (by omega) (by omega) dL_law_1478 (k := ?_)
            have hr1478 := scrR Γ (i + 3)
            refine g_aload_n (M := mL_law) (pc := 1479) dL_law_1479 rfl (k := ?_)
            refine g_iload_n (M := mL_law) (pc := 1480) dL_law_1480 rfl (k := ?_)
            refine g_iconst (M := mL_law) (pc := 1481) dL_law_1481 (k := ?_)
            refine g_iadd (M := mL_law) (pc := 1482) dL_law_1482 (k := ?_)
            refine g_sld (M := mL_law) (pc := 1483) (by omega) (by omega) dL_law_1483 (k := ?_)
            have hr1483 := scrR Γ (i + 4)
            refine g_aload_n (M := mL_law) (pc := 1484) dL_law_1484 rfl (k := ?_)
            refine g_iload_n (M := mL_law) (pc := 1485) dL_law_1485 rfl (k := ?_)
            refine g_iconst (M := mL_law) (pc := 1486) dL_law_1486 (k := ?_)
            refine g_iadd (M := mL_law) (pc := 1487) dL_law_1487 (k := ?_)
            refine g_sld (M := mL_law) (pc := 1488) (by omega) (by omega) dL_law_1488 (k := ?_)
            have hr1488 := scrR Γ (i + 5)
            refine g_cV5I (M := mL_law) (pc := 1489) (c_X11_shift Γ t _ _ _ _ _ _ hJ1459 (by omega) (by omega) (by omega) (by omega) (by omega)) qX11_shift vX11_shift sX11_shift kL_177 dL_law_1489 (kk := ?_)
            rintro r1489 τ1489 ⟨hv1489, hG1489⟩
            have hX1489 := iv_frJ hX1459 (Fr.mono hG1489 sb_jcTp_jAll)
            have hJ1489 := hv1489
            have hS1489 := JS_fr hS1459 (Fr.mono hG1489 sb_jcTp_jNS)
            have hR1489 := R1_q hR18 (Fr.mono hG1459 sb_scTp_xNR) (Fr.mono hG1489 sb_jcTp_jNR)
            refine g_popI (M := mL_law) (pc := 1492) dL_law_1492 (k := ?_)
            refine g_goto (M := mL_law) (pc := 1493) (tgt := 1496) dL_law_1493 (k := ?_)
            refine g_iinc_3 (M := mL_law) (pc := 1496) dL_law_1496 (k := ?_)
            refine g_goto (M := mL_law) (pc := 1499) (tgt := 18) dL_law_1499 (k := ?_)
            exact ih18 _ _ _ (by omega) ⟨hX1489, hJ1489, hS1489, hR1489, by omega, by omega⟩
  exact loop18 _ _ _ _ (Nat.lt_succ_self _) ⟨hX0, hJ0, hS0, hR0, by omega, by omega⟩
