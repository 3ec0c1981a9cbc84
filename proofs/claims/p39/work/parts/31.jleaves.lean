set_option maxHeartbeats 4000000 in
set_option maxRecDepth 20000 in
theorem c_X11_in (Γ : KT) (t : Nat) (σ : Nat → Int → Int) (v : Int) (l : Int) (u : Int) (hv : R32 v) (hl : R32 l) (hu : R32 u) : Ct Γ mX11_in 1 (0, 0) [vR Γ 69, vI v, vI l, vI u] (113, ρT t, σ) (pI 113 (ρT t) (fun r σ' => r = b2 (l ≤ v ∧ v ≤ u) ∧ σ' = σ)) := by
  refine Ct.of rfl (Nat.le_of_ble_eq_true rfl) ?_
  show G Γ mX11_in 1 (0, 0) _ (0, 0) 0 [some (vR Γ 69), some (vI v), some (vI l), some (vI u)] [] (113, ρT t, σ)
  refine g_iload_n (M := mX11_in) (pc := 0) dX11_in_0 rfl (k := ?_)
  refine g_iload_n (M := mX11_in) (pc := 1) dX11_in_1 rfl (k := ?_)
  refine g_icmp_lt (M := mX11_in) (pc := 2) (tgt := 14) (by omega) (by omega) dX11_in_2 (k1 := fun h2 => ?_) (k2 := fun h2 => ?_)
  · skip
    refine g_iconst (M := mX11_in) (pc := 14) dX11_in_14 (k := ?_)
    refine g_zret (M := mX11_in) (pc := 15) (by first | omega | (unfold b2; split <;> omega)) rfl dX11_in_15 rfl ⟨_, _, rfl, rfl, ?_⟩
    exact ⟨by unfold b2; split <;> omega, rfl⟩
  · skip
    refine g_iload_n (M := mX11_in) (pc := 5) dX11_in_5 rfl (k := ?_)
    refine g_iload_n (M := mX11_in) (pc := 6) dX11_in_6 rfl (k := ?_)
    refine g_icmp_gt (M := mX11_in) (pc := 7) (tgt := 14) (by omega) (by omega) dX11_in_7 (k1 := fun h7 => ?_) (k2 := fun h7 => ?_)
    · skip
      refine g_iconst (M := mX11_in) (pc := 14) dX11_in_14 (k := ?_)
      refine g_zret (M := mX11_in) (pc := 15) (by first | omega | (unfold b2; split <;> omega)) rfl dX11_in_15 rfl ⟨_, _, rfl, rfl, ?_⟩
      exact ⟨by unfold b2; split <;> omega, rfl⟩
    · skip
      refine g_iconst (M := mX11_in) (pc := 10) dX11_in_10 (k := ?_)
      refine g_goto (M := mX11_in) (pc := 11) (tgt := 15) dX11_in_11 (k := ?_)
      refine g_zret (M := mX11_in) (pc := 15) (by first | omega | (unfold b2; split <;> omega)) rfl dX11_in_15 rfl ⟨_, _, rfl, rfl, ?_⟩
      exact ⟨by unfold b2; split <;> omega, rfl⟩
set_option maxHeartbeats 4000000 in
set_option maxRecDepth 20000 in
theorem c_X11_has (Γ : KT) (t : Nat) (σ : Nat → Int → Int) (s : Int) (k : Int) : Ct Γ mX11_has 1 (0, 0) [vR Γ 69, vI s, vI k] (113, ρT t, σ) (pI 113 (ρT t) (fun r σ' => r = b2 (zbit s k = 1) ∧ σ' = σ)) := by
  refine Ct.of rfl (Nat.le_of_ble_eq_true rfl) ?_
  show G Γ mX11_has 1 (0, 0) _ (0, 0) 0 [some (vR Γ 69), some (vI s), some (vI k)] [] (113, ρT t, σ)
  refine g_iload_n (M := mX11_has) (pc := 0) dX11_has_0 rfl (k := ?_)
  refine g_iload_n (M := mX11_has) (pc := 1) dX11_has_1 rfl (k := ?_)
  refine g_ishr (M := mX11_has) (pc := 2) dX11_has_2 (k := ?_)
  have hz2 := zshrR s k
  refine g_iconst (M := mX11_has) (pc := 3) dX11_has_3 (k := ?_)
  refine g_iand (M := mX11_has) (pc := 4) dX11_has_4 (k := ?_)
  have hz4 := zandR (zshr s k) 1
  have hy4 := zand1 (zshr s k)
  refine g_iconst (M := mX11_has) (pc := 5) dX11_has_5 (k := ?_)
  refine g_icmp_ne (M := mX11_has) (pc := 6) (tgt := 13) (by omega) (by omega) dX11_has_6 (k1 := fun h6 => ?_) (k2 := fun h6 => ?_)
  · skip
    refine g_iconst (M := mX11_has) (pc := 13) dX11_has_13 (k := ?_)
    refine g_zret (M := mX11_has) (pc := 14) (by first | omega | (unfold b2; split <;> omega)) rfl dX11_has_14 rfl ⟨_, _, rfl, rfl, ?_⟩
    exact ⟨by unfold b2 zbit; split <;> omega, rfl⟩
  · skip
    refine g_iconst (M := mX11_has) (pc := 9) dX11_has_9 (k := ?_)
    refine g_goto (M := mX11_has) (pc := 10) (tgt := 14) dX11_has_10 (k := ?_)
    refine g_zret (M := mX11_has) (pc := 14) (by first | omega | (unfold b2; split <;> omega)) rfl dX11_has_14 rfl ⟨_, _, rfl, rfl, ?_⟩
    exact ⟨by unfold b2 zbit; split <;> omega, rfl⟩
set_option maxHeartbeats 4000000 in
set_option maxRecDepth 20000 in
theorem c_X11_ones (Γ : KT) (t : Nat) (σ : Nat → Int → Int) (s : Int) (hs : R32 s) : Ct Γ mX11_ones 1 (0, 0) [vR Γ 69, vI s] (113, ρT t, σ) (pI 113 (ρT t) (fun r σ' => σ' = σ)) := by
  refine Ct.of rfl (Nat.le_of_ble_eq_true rfl) ?_
  show G Γ mX11_ones 1 (0, 0) _ (0, 0) 0 [some (vR Γ 69), some (vI s), none, none] [] (113, ρT t, σ)
  refine g_iconst (M := mX11_ones) (pc := 0) dX11_ones_0 (k := ?_)
  refine g_istore_2 (M := mX11_ones) (pc := 1) dX11_ones_1 (k := ?_)
  refine g_iload_n (M := mX11_ones) (pc := 2) dX11_ones_2 rfl (k := ?_)
  refine g_istore_3 (M := mX11_ones) (pc := 3) dX11_ones_3 (k := ?_)
  have loop4 : ∀ (N : Nat) (n : Int) (q : Int), (uns q) < N → ((0 ≤ n ∧ n ≤ n) ∧ (-2147483648 ≤ q ∧ q ≤ 2147483647)) → G Γ mX11_ones 1 (0, 0) (pI 113 (ρT t) (fun r σ' => σ' = σ)) (0, 0) 4 [some (vR Γ 69), some (vI s), some (vI n), some (vI q)] [] (113, ρT t, σ) := by
    intro N
    induction N with
    | zero => intro n q hmu4 hinv4; exact absurd hmu4 (Nat.not_lt_zero _)
    | succ N ih4 =>
      intro n q hmu4 hinv4
      obtain ⟨hb4_n, hb4_q⟩ := hinv4
      refine g_iload_n (M := mX11_ones) (pc := 4) dX11_ones_4 rfl (k := ?_)
      refine g_if_eq (M := mX11_ones) (pc := 5) (tgt := 20) (by omega) dX11_ones_5 (k1 := fun h5 => ?_) (k2 := fun h5 => ?_)
      · skip
        refine g_iload_n (M := mX11_ones) (pc := 20) dX11_ones_20 rfl (k := ?_)
        refine g_iret (M := mX11_ones) (pc := 21) rfl dX11_ones_21 rfl ⟨_, _, rfl, rfl, ?_⟩
        rfl
      · skip
        refine g_iinc_2 (M := mX11_ones) (pc := 8) dX11_ones_8 (k := ?_)
        refine g_iload_n (M := mX11_ones) (pc := 11) dX11_ones_11 rfl (k := ?_)
        refine g_iload_n (M := mX11_ones) (pc := 12) dX11_ones_12 rfl (k := ?_)
        refine g_iconst (M := mX11_ones) (pc := 13) dX11_ones_13 (k := ?_)
        refine g_isub (M := mX11_ones) (pc := 14) dX11_ones_14 (k := ?_)
        refine g_iand (M := mX11_ones) (pc := 15) dX11_ones_15 (k := ?_)
        have hz15 := zandR q (q - 1)
        refine g_istore_3 (M := mX11_ones) (pc := 16) dX11_ones_16 (k := ?_)
        refine g_goto (M := mX11_ones) (pc := 17) (tgt := 4) dX11_ones_17 (k := ?_)
        refine ih4 _ _ ?_ ?_
        · (have := uns_step (a := q) (by omega) h5; omega)
        · skip
          refine ⟨?_, ?_⟩
          · omega
          · omega
  refine loop4 _ _ _ (Nat.lt_succ_self _) ?_
  refine ⟨?_, ?_⟩
  · omega
  · omega
set_option maxHeartbeats 4000000 in
set_option maxRecDepth 20000 in
theorem c_X11_ones6 (Γ : KT) (t : Nat) (σ : Nat → Int → Int) (s : Int) (hs : 0 ≤ s ∧ s < 64) : Ct Γ mX11_ones 1 (0, 0) [vR Γ 69, vI s] (113, ρT t, σ) (pI 113 (ρT t) (fun r σ' => (r = popc s) ∧ σ' = σ)) := by
  refine Ct.of rfl (Nat.le_of_ble_eq_true rfl) ?_
  show G Γ mX11_ones 1 (0, 0) _ (0, 0) 0 [some (vR Γ 69), some (vI s), none, none] [] (113, ρT t, σ)
  refine g_iconst (M := mX11_ones) (pc := 0) dX11_ones_0 (k := ?_)
  refine g_istore_2 (M := mX11_ones) (pc := 1) dX11_ones_1 (k := ?_)
  refine g_iload_n (M := mX11_ones) (pc := 2) dX11_ones_2 rfl (k := ?_)
  refine g_istore_3 (M := mX11_ones) (pc := 3) dX11_ones_3 (k := ?_)
  have loop4 : ∀ (N : Nat) (n : Int) (q : Int), (q.toNat) < N → ((0 ≤ n ∧ n ≤ 6) ∧ (0 ≤ q ∧ q ≤ 63) ∧ (n + popc q = popc s)) → G Γ mX11_ones 1 (0, 0) (pI 113 (ρT t) (fun r σ' => (r = popc s) ∧ σ' = σ)) (0, 0) 4 [some (vR Γ 69), some (vI s), some (vI n), some (vI q)] [] (113, ρT t, σ) := by
    intro N
    induction N with
    | zero => intro n q hmu4 hinv4; exact absurd hmu4 (Nat.not_lt_zero _)
    | succ N ih4 =>
      intro n q hmu4 hinv4
      obtain ⟨hb4_n, hb4_q, hx4_0⟩ := hinv4
      have hp4 := pop_b (s := q) (by omega) (by omega)
      have hs4 := pop_b (s := s) (by omega) (by omega)
      refine g_iload_n (M := mX11_ones) (pc := 4) dX11_ones_4 rfl (k := ?_)
      refine g_if_eq (M := mX11_ones) (pc := 5) (tgt := 20) (by omega) dX11_ones_5 (k1 := fun h5 => ?_) (k2 := fun h5 => ?_)
      · skip
        refine g_iload_n (M := mX11_ones) (pc := 20) dX11_ones_20 rfl (k := ?_)
        refine g_iret (M := mX11_ones) (pc := 21) rfl dX11_ones_21 rfl ⟨_, _, rfl, rfl, ?_⟩
        refine ⟨?_, rfl⟩
        · (have e0 : q = 0 := by omega); subst e0; (have e1 : popc 0 = 0 := by decide); omega
      · skip
        have hps := pop_step (s := q) (by omega) (by omega) h5
        have hpt := pop_b (s := zand q (q - 1)) (by omega) (by omega)
        refine g_iinc_2 (M := mX11_ones) (pc := 8) dX11_ones_8 (k := ?_)
        refine g_iload_n (M := mX11_ones) (pc := 11) dX11_ones_11 rfl (k := ?_)
        refine g_iload_n (M := mX11_ones) (pc := 12) dX11_ones_12 rfl (k := ?_)
        refine g_iconst (M := mX11_ones) (pc := 13) dX11_ones_13 (k := ?_)
        refine g_isub (M := mX11_ones) (pc := 14) dX11_ones_14 (k := ?_)
        refine g_iand (M := mX11_ones) (pc := 15) dX11_ones_15 (k := ?_)
        have hz15 := zandR q (q - 1)
        refine g_istore_3 (M := mX11_ones) (pc := 16) dX11_ones_16 (k := ?_)
        refine g_goto (M := mX11_ones) (pc := 17) (tgt := 4) dX11_ones_17 (k := ?_)
        refine ih4 _ _ ?_ ?_
        · omega
        · skip
          refine ⟨?_, ?_, ?_⟩
          · omega
          · omega
          · omega
  refine loop4 _ _ _ (Nat.lt_succ_self _) ?_
  refine ⟨?_, ?_, ?_⟩
  · omega
  · omega
  · omega
set_option maxHeartbeats 4000000 in
set_option maxRecDepth 20000 in
theorem c_X11_isHouse (Γ : KT) (t : Nat) (σ : Nat → Int → Int) (h : Int) (hI : InvJ σ) (hh : R32 h) : Ct Γ mX11_isHouse 2 (0, 0) [vR Γ 69, vI h] (113, ρT t, σ) (pI 113 (ρT t) (fun r σ' => r = b2 (0 ≤ h ∧ h ≤ (σ 69 0) - 1) ∧ σ' = σ)) := by
  refine Ct.of rfl (Nat.le_of_ble_eq_true rfl) ?_
  show G Γ mX11_isHouse 2 (0, 0) _ (0, 0) 0 [some (vR Γ 69), some (vI h)] [] (113, ρT t, σ)
  refine g_aload_n (M := mX11_isHouse) (pc := 0) dX11_isHouse_0 rfl (k := ?_)
  refine g_iload_n (M := mX11_isHouse) (pc := 1) dX11_isHouse_1 rfl (k := ?_)
  refine g_iconst (M := mX11_isHouse) (pc := 2) dX11_isHouse_2 (k := ?_)
  refine g_aload_n (M := mX11_isHouse) (pc := 3) dX11_isHouse_3 rfl (k := ?_)
  refine g_get (M := mX11_isHouse) (pc := 4) (ji := 0) (by rfl) fX11_0 kX11_7 dX11_isHouse_4 (kk := fun hr4 => ?_)
  have hb4 := jv69_0 hI 0 (by omega) (by omega)
  refine g_iconst (M := mX11_isHouse) (pc := 7) dX11_isHouse_7 (k := ?_)
  refine g_isub (M := mX11_isHouse) (pc := 8) dX11_isHouse_8 (k := ?_)
  refine g_cV3I (M := mX11_isHouse) (pc := 9) (c_X11_in Γ t _ _ _ _ (by omega) (by omega) (by omega)) qX11_in vX11_in sX11_in kX11_224 dX11_isHouse_9 (kk := ?_)
  rintro _ _ ⟨e1, e⟩; rw [e1, e]; clear e1 e
  refine g_zret (M := mX11_isHouse) (pc := 12) (by first | omega | (unfold b2; split <;> omega)) rfl dX11_isHouse_12 rfl ⟨_, _, rfl, rfl, ?_⟩
  exact ⟨rfl, rfl⟩
set_option maxHeartbeats 4000000 in
set_option maxRecDepth 20000 in
theorem c_X11_isFolk (Γ : KT) (t : Nat) (σ : Nat → Int → Int) (f : Int) (hI : InvJ σ) (hf : R32 f) : Ct Γ mX11_isFolk 2 (0, 0) [vR Γ 69, vI f] (113, ρT t, σ) (pI 113 (ρT t) (fun r σ' => r = b2 (0 ≤ f ∧ f ≤ (σ 69 1) - 1) ∧ σ' = σ)) := by
  refine Ct.of rfl (Nat.le_of_ble_eq_true rfl) ?_
  show G Γ mX11_isFolk 2 (0, 0) _ (0, 0) 0 [some (vR Γ 69), some (vI f)] [] (113, ρT t, σ)
  refine g_aload_n (M := mX11_isFolk) (pc := 0) dX11_isFolk_0 rfl (k := ?_)
  refine g_iload_n (M := mX11_isFolk) (pc := 1) dX11_isFolk_1 rfl (k := ?_)
  refine g_iconst (M := mX11_isFolk) (pc := 2) dX11_isFolk_2 (k := ?_)
  refine g_aload_n (M := mX11_isFolk) (pc := 3) dX11_isFolk_3 rfl (k := ?_)
  refine g_get (M := mX11_isFolk) (pc := 4) (ji := 1) (by rfl) fX11_1 kX11_13 dX11_isFolk_4 (kk := fun hr4 => ?_)
  have hb4 := jv69_1 hI 1 (by omega) (by omega)
  refine g_iconst (M := mX11_isFolk) (pc := 7) dX11_isFolk_7 (k := ?_)
  refine g_isub (M := mX11_isFolk) (pc := 8) dX11_isFolk_8 (k := ?_)
  refine g_cV3I (M := mX11_isFolk) (pc := 9) (c_X11_in Γ t _ _ _ _ (by omega) (by omega) (by omega)) qX11_in vX11_in sX11_in kX11_224 dX11_isFolk_9 (kk := ?_)
  rintro _ _ ⟨e1, e⟩; rw [e1, e]; clear e1 e
  refine g_zret (M := mX11_isFolk) (pc := 12) (by first | omega | (unfold b2; split <;> omega)) rfl dX11_isFolk_12 rfl ⟨_, _, rfl, rfl, ?_⟩
  exact ⟨rfl, rfl⟩
set_option maxHeartbeats 4000000 in
set_option maxRecDepth 20000 in
theorem c_X11_isTape (Γ : KT) (t : Nat) (σ : Nat → Int → Int) (f : Int) (hf : R32 f) : Ct Γ mX11_isTape 2 (0, 0) [vR Γ 69, vI f] (113, ρT t, σ) (pI 113 (ρT t) (fun r σ' => r = b2 (0 ≤ f ∧ f ≤ 5) ∧ σ' = σ)) := by
  refine Ct.of rfl (Nat.le_of_ble_eq_true rfl) ?_
  show G Γ mX11_isTape 2 (0, 0) _ (0, 0) 0 [some (vR Γ 69), some (vI f)] [] (113, ρT t, σ)
  refine g_aload_n (M := mX11_isTape) (pc := 0) dX11_isTape_0 rfl (k := ?_)
  refine g_iload_n (M := mX11_isTape) (pc := 1) dX11_isTape_1 rfl (k := ?_)
  refine g_iconst (M := mX11_isTape) (pc := 2) dX11_isTape_2 (k := ?_)
  refine g_iconst (M := mX11_isTape) (pc := 3) dX11_isTape_3 (k := ?_)
  refine g_cV3I (M := mX11_isTape) (pc := 4) (c_X11_in Γ t _ _ _ _ (by omega) (by omega) (by omega)) qX11_in vX11_in sX11_in kX11_224 dX11_isTape_4 (kk := ?_)
  rintro _ _ ⟨e1, e⟩; rw [e1, e]; clear e1 e
  refine g_zret (M := mX11_isTape) (pc := 7) (by first | omega | (unfold b2; split <;> omega)) rfl dX11_isTape_7 rfl ⟨_, _, rfl, rfl, ?_⟩
  exact ⟨rfl, rfl⟩
set_option maxHeartbeats 4000000 in
set_option maxRecDepth 20000 in
theorem c_X11_becomes (Γ : KT) (t : Nat) (σ : Nat → Int → Int) (h : Int) (k : Int) (n : Int) (hh : 0 ≤ h ∧ h < 6) (hk : 0 ≤ k ∧ k ≤ 6) (hn : 0 ≤ n ∧ n ≤ 9) : Ct Γ mX11_becomes 1 (0, 0) [vR Γ 69, vI h, vI k, vI n] (113, ρT t, σ) (pV 113 (ρT t) (fun σ' => σ' = (up (up (up (up (up (up σ 70 h k) 71 h n) 74 (4 * h + 0) 1) 74 (4 * h + (0 + 1)) 1) 74 (4 * h + (0 + 1 + 1)) 1) 74 (4 * h + (0 + 1 + 1 + 1)) 1))) := by
  refine Ct.of rfl (Nat.le_of_ble_eq_true rfl) ?_
  show G Γ mX11_becomes 1 (0, 0) _ (0, 0) 0 [some (vR Γ 69), some (vI h), some (vI k), some (vI n), none] [] (113, ρT t, σ)
  refine g_aload_n (M := mX11_becomes) (pc := 0) dX11_becomes_0 rfl (k := ?_)
  refine g_getr (M := mX11_becomes) (pc := 1) (by rfl) fX11_2 kX11_16 dX11_becomes_1 (by rfl) (kk := ?_)
  refine g_iload_n (M := mX11_becomes) (pc := 4) dX11_becomes_4 rfl (k := ?_)
  refine g_iload_n (M := mX11_becomes) (pc := 5) dX11_becomes_5 rfl (k := ?_)
  refine g_iast (M := mX11_becomes) (pc := 6) (by rfl) (by omega) (by omega) (by omega) dX11_becomes_6 (kk := ?_)
  refine g_aload_n (M := mX11_becomes) (pc := 7) dX11_becomes_7 rfl (k := ?_)
  refine g_getr (M := mX11_becomes) (pc := 8) (by rfl) fX11_3 kX11_20 dX11_becomes_8 (by rfl) (kk := ?_)
  refine g_iload_n (M := mX11_becomes) (pc := 11) dX11_becomes_11 rfl (k := ?_)
  refine g_iload_n (M := mX11_becomes) (pc := 12) dX11_becomes_12 rfl (k := ?_)
  refine g_iast (M := mX11_becomes) (pc := 13) (by rfl) (by omega) (by omega) (by omega) dX11_becomes_13 (kk := ?_)
  refine g_iconst (M := mX11_becomes) (pc := 14) dX11_becomes_14 (k := ?_)
  refine g_istore_4 (M := mX11_becomes) (pc := 15) dX11_becomes_15 (k := ?_)
  refine g_iload (M := mX11_becomes) (pc := 17) dX11_becomes_17 rfl (k := ?_)
  refine g_iconst (M := mX11_becomes) (pc := 19) dX11_becomes_19 (k := ?_)
  refine g_icmp_ge (M := mX11_becomes) (pc := 20) (tgt := 41) (by omega) (by omega) dX11_becomes_20 (k1 := fun h20 => ?_) (k2 := fun h20 => ?_)
  · omega
  · skip
    refine g_aload_n (M := mX11_becomes) (pc := 23) dX11_becomes_23 rfl (k := ?_)
    refine g_getr (M := mX11_becomes) (pc := 24) (by rfl) fX11_6 kX11_29 dX11_becomes_24 (by rfl) (kk := ?_)
    refine g_iconst (M := mX11_becomes) (pc := 27) dX11_becomes_27 (k := ?_)
    refine g_iload_n (M := mX11_becomes) (pc := 28) dX11_becomes_28 rfl (k := ?_)
    refine g_imul (M := mX11_becomes) (pc := 29) dX11_becomes_29 (k := ?_)
    refine g_iload (M := mX11_becomes) (pc := 30) dX11_becomes_30 rfl (k := ?_)
    refine g_iadd (M := mX11_becomes) (pc := 32) dX11_becomes_32 (k := ?_)
    refine g_iconst (M := mX11_becomes) (pc := 33) dX11_becomes_33 (k := ?_)
    refine g_iast (M := mX11_becomes) (pc := 34) (by rfl) (by omega) (by omega) (by omega) dX11_becomes_34 (kk := ?_)
    refine g_iinc_4 (M := mX11_becomes) (pc := 35) dX11_becomes_35 (k := ?_)
    refine g_goto (M := mX11_becomes) (pc := 38) (tgt := 17) dX11_becomes_38 (k := ?_)
    refine g_iload (M := mX11_becomes) (pc := 17) dX11_becomes_17 rfl (k := ?_)
    refine g_iconst (M := mX11_becomes) (pc := 19) dX11_becomes_19 (k := ?_)
    refine g_icmp_ge (M := mX11_becomes) (pc := 20) (tgt := 41) (by omega) (by omega) dX11_becomes_20 (k1 := fun h20 => ?_) (k2 := fun h20 => ?_)
    · omega
    · skip
      refine g_aload_n (M := mX11_becomes) (pc := 23) dX11_becomes_23 rfl (k := ?_)
      refine g_getr (M := mX11_becomes) (pc := 24) (by rfl) fX11_6 kX11_29 dX11_becomes_24 (by rfl) (kk := ?_)
      refine g_iconst (M := mX11_becomes) (pc := 27) dX11_becomes_27 (k := ?_)
      refine g_iload_n (M := mX11_becomes) (pc := 28) dX11_becomes_28 rfl (k := ?_)
      refine g_imul (M := mX11_becomes) (pc := 29) dX11_becomes_29 (k := ?_)
      refine g_iload (M := mX11_becomes) (pc := 30) dX11_becomes_30 rfl (k := ?_)
      refine g_iadd (M := mX11_becomes) (pc := 32) dX11_becomes_32 (k := ?_)
      refine g_iconst (M := mX11_becomes) (pc := 33) dX11_becomes_33 (k := ?_)
      refine g_iast (M := mX11_becomes) (pc := 34) (by rfl) (by omega) (by omega) (by omega) dX11_becomes_34 (kk := ?_)
      refine g_iinc_4 (M := mX11_becomes) (pc := 35) dX11_becomes_35 (k := ?_)
      refine g_goto (M := mX11_becomes) (pc := 38) (tgt := 17) dX11_becomes_38 (k := ?_)
      refine g_iload (M := mX11_becomes) (pc := 17) dX11_becomes_17 rfl (k := ?_)
      refine g_iconst (M := mX11_becomes) (pc := 19) dX11_becomes_19 (k := ?_)
      refine g_icmp_ge (M := mX11_becomes) (pc := 20) (tgt := 41) (by omega) (by omega) dX11_becomes_20 (k1 := fun h20 => ?_) (k2 := fun h20 => ?_)
      · omega
      · skip
        refine g_aload_n (M := mX11_becomes) (pc := 23) dX11_becomes_23 rfl (k := ?_)
        refine g_getr (M := mX11_becomes) (pc := 24) (by rfl) fX11_6 kX11_29 dX11_becomes_24 (by rfl) (kk := ?_)
        refine g_iconst (M := mX11_becomes) (pc := 27) dX11_becomes_27 (k := ?_)
        refine g_iload_n (M := mX11_becomes) (pc := 28) dX11_becomes_28 rfl (k := ?_)
        refine g_imul (M := mX11_becomes) (pc := 29) dX11_becomes_29 (k := ?_)
        refine g_iload (M := mX11_becomes) (pc := 30) dX11_becomes_30 rfl (k := ?_)
        refine g_iadd (M := mX11_becomes) (pc := 32) dX11_becomes_32 (k := ?_)
        refine g_iconst (M := mX11_becomes) (pc := 33) dX11_becomes_33 (k := ?_)
        refine g_iast (M := mX11_becomes) (pc := 34) (by rfl) (by omega) (by omega) (by omega) dX11_becomes_34 (kk := ?_)
        refine g_iinc_4 (M := mX11_becomes) (pc := 35) dX11_becomes_35 (k := ?_)
        refine g_goto (M := mX11_becomes) (pc := 38) (tgt := 17) dX11_becomes_38 (k := ?_)
        refine g_iload (M := mX11_becomes) (pc := 17) dX11_becomes_17 rfl (k := ?_)
        refine g_iconst (M := mX11_becomes) (pc := 19) dX11_becomes_19 (k := ?_)
        refine g_icmp_ge (M := mX11_becomes) (pc := 20) (tgt := 41) (by omega) (by omega) dX11_becomes_20 (k1 := fun h20 => ?_) (k2 := fun h20 => ?_)
        · omega
        · skip
          refine g_aload_n (M := mX11_becomes) (pc := 23) dX11_becomes_23 rfl (k := ?_)
          refine g_getr (M := mX11_becomes) (pc := 24) (by rfl) fX11_6 kX11_29 dX11_becomes_24 (by rfl) (kk := ?_)
          refine g_iconst (M := mX11_becomes) (pc := 27) dX11_becomes_27 (k := ?_)
          refine g_iload_n (M := mX11_becomes) (pc := 28) dX11_becomes_28 rfl (k := ?_)
          refine g_imul (M := mX11_becomes) (pc := 29) dX11_becomes_29 (k := ?_)
          refine g_iload (M := mX11_becomes) (pc := 30) dX11_becomes_30 rfl (k := ?_)
          refine g_iadd (M := mX11_becomes) (pc := 32) dX11_becomes_32 (k := ?_)
          refine g_iconst (M := mX11_becomes) (pc := 33) dX11_becomes_33 (k := ?_)
          refine g_iast (M := mX11_becomes) (pc := 34) (by rfl) (by omega) (by omega) (by omega) dX11_becomes_34 (kk := ?_)
          refine g_iinc_4 (M := mX11_becomes) (pc := 35) dX11_becomes_35 (k := ?_)
          refine g_goto (M := mX11_becomes) (pc := 38) (tgt := 17) dX11_becomes_38 (k := ?_)
          refine g_iload (M := mX11_becomes) (pc := 17) dX11_becomes_17 rfl (k := ?_)
          refine g_iconst (M := mX11_becomes) (pc := 19) dX11_becomes_19 (k := ?_)
          refine g_icmp_ge (M := mX11_becomes) (pc := 20) (tgt := 41) (by omega) (by omega) dX11_becomes_20 (k1 := fun h20 => ?_) (k2 := fun h20 => ?_)
          · skip
            refine g_vret (M := mX11_becomes) (pc := 41) rfl dX11_becomes_41 rfl ⟨_, rfl, rfl, ?_⟩
            rfl
          · omega
set_option maxHeartbeats 4000000 in
set_option maxRecDepth 20000 in
theorem c_X11_apart (Γ : KT) (t : Nat) (σ : Nat → Int → Int) (a : Int) (b : Int) (ha : R32 a) (hb : R32 b) : Ct Γ mX11_apart 1 (0, 0) [vR Γ 69, vI a, vI b] (113, ρT t, σ) (pI 113 (ρT t) (fun r σ' => ((a < b ∧ r = b - a) ∨ (b ≤ a ∧ r = a - b)) ∧ σ' = σ)) := by
  refine Ct.of rfl (Nat.le_of_ble_eq_true rfl) ?_
  show G Γ mX11_apart 1 (0, 0) _ (0, 0) 0 [some (vR Γ 69), some (vI a), some (vI b)] [] (113, ρT t, σ)
  refine g_iload_n (M := mX11_apart) (pc := 0) dX11_apart_0 rfl (k := ?_)
  refine g_iload_n (M := mX11_apart) (pc := 1) dX11_apart_1 rfl (k := ?_)
  refine g_icmp_ge (M := mX11_apart) (pc := 2) (tgt := 11) (by omega) (by omega) dX11_apart_2 (k1 := fun h2 => ?_) (k2 := fun h2 => ?_)
  · skip
    refine g_iload_n (M := mX11_apart) (pc := 11) dX11_apart_11 rfl (k := ?_)
    refine g_iload_n (M := mX11_apart) (pc := 12) dX11_apart_12 rfl (k := ?_)
    refine g_isub (M := mX11_apart) (pc := 13) dX11_apart_13 (k := ?_)
    refine g_iret (M := mX11_apart) (pc := 14) rfl dX11_apart_14 rfl ⟨_, _, rfl, rfl, ?_⟩
    refine ⟨?_, rfl⟩
    · omega
  · skip
    refine g_iload_n (M := mX11_apart) (pc := 5) dX11_apart_5 rfl (k := ?_)
    refine g_iload_n (M := mX11_apart) (pc := 6) dX11_apart_6 rfl (k := ?_)
    refine g_isub (M := mX11_apart) (pc := 7) dX11_apart_7 (k := ?_)
    refine g_goto (M := mX11_apart) (pc := 8) (tgt := 14) dX11_apart_8 (k := ?_)
    refine g_iret (M := mX11_apart) (pc := 14) rfl dX11_apart_14 rfl ⟨_, _, rfl, rfl, ?_⟩
    refine ⟨?_, rfl⟩
    · omega
set_option maxHeartbeats 4000000 in
set_option maxRecDepth 20000 in
theorem c_X11_upBy (Γ : KT) (t : Nat) (σ : Nat → Int → Int) (n : Int) (q : Int) (hn : 0 ≤ n ∧ n ≤ 1000000) (hq : 1 ≤ q ∧ q ≤ 20) : Ct Γ mX11_upBy 1 (0, 0) [vR Γ 69, vI n, vI q] (113, ρT t, σ) (pI 113 (ρT t) (fun r σ' => (0 ≤ r ∧ r ≤ n) ∧ σ' = σ)) := by
  refine Ct.of rfl (Nat.le_of_ble_eq_true rfl) ?_
  show G Γ mX11_upBy 1 (0, 0) _ (0, 0) 0 [some (vR Γ 69), some (vI n), some (vI q)] [] (113, ρT t, σ)
  refine g_iload_n (M := mX11_upBy) (pc := 0) dX11_upBy_0 rfl (k := ?_)
  refine g_iload_n (M := mX11_upBy) (pc := 1) dX11_upBy_1 rfl (k := ?_)
  refine g_iadd (M := mX11_upBy) (pc := 2) dX11_upBy_2 (k := ?_)
  refine g_iconst (M := mX11_upBy) (pc := 3) dX11_upBy_3 (k := ?_)
  refine g_isub (M := mX11_upBy) (pc := 4) dX11_upBy_4 (k := ?_)
  refine g_iload_n (M := mX11_upBy) (pc := 5) dX11_upBy_5 rfl (k := ?_)
  refine g_idiv (M := mX11_upBy) (pc := 6) (by omega) (by omega) (by omega) dX11_upBy_6 (k := ?_)
  have hz6 := tdivB (a := (n + q) - 1) (b := q) (by omega)
  refine g_iret (M := mX11_upBy) (pc := 7) rfl dX11_upBy_7 rfl ⟨_, _, rfl, rfl, ?_⟩
  refine ⟨?_, rfl⟩
  · exact upB (by omega) (by omega)
set_option maxHeartbeats 4000000 in
set_option maxRecDepth 20000 in
theorem c_X11_peek (Γ : KT) (t : Nat) (σ : Nat → Int → Int)  (hI : InvJ σ) : Ct Γ mX11_peek 1 (0, 0) [vR Γ 69] (113, ρT t, σ) (pI 113 (ρT t) (fun r σ' => ((σ 69 13 < σ 69 12 ∧ r = σ 78 (σ 69 13)) ∨ (σ 69 12 ≤ σ 69 13 ∧ r = -1)) ∧ (R32 r) ∧ σ' = σ)) := by
  refine Ct.of rfl (Nat.le_of_ble_eq_true rfl) ?_
  show G Γ mX11_peek 1 (0, 0) _ (0, 0) 0 [some (vR Γ 69)] [] (113, ρT t, σ)
  refine g_aload_n (M := mX11_peek) (pc := 0) dX11_peek_0 rfl (k := ?_)
  refine g_get (M := mX11_peek) (pc := 1) (ji := 13) (by rfl) fX11_13 kX11_50 dX11_peek_1 (kk := fun hr1 => ?_)
  have hb1 := jv69_13 hI 13 (by omega) (by omega)
  refine g_aload_n (M := mX11_peek) (pc := 4) dX11_peek_4 rfl (k := ?_)
  refine g_get (M := mX11_peek) (pc := 5) (ji := 12) (by rfl) fX11_12 kX11_47 dX11_peek_5 (kk := fun hr5 => ?_)
  have hb5 := jv69_12 hI 12 (by omega) (by omega)
  refine g_icmp_ge (M := mX11_peek) (pc := 8) (tgt := 23) (by omega) (by omega) dX11_peek_8 (k1 := fun h8 => ?_) (k2 := fun h8 => ?_)
  · skip
    refine g_iconst (M := mX11_peek) (pc := 23) dX11_peek_23 (k := ?_)
    refine g_iret (M := mX11_peek) (pc := 24) rfl dX11_peek_24 rfl ⟨_, _, rfl, rfl, ?_⟩
    refine ⟨?_, ?_, rfl⟩
    · omega
    · omega
  · skip
    refine g_aload_n (M := mX11_peek) (pc := 11) dX11_peek_11 rfl (k := ?_)
    refine g_getr (M := mX11_peek) (pc := 12) (by rfl) fX11_15 kX11_56 dX11_peek_12 (by rfl) (kk := ?_)
    refine g_aload_n (M := mX11_peek) (pc := 15) dX11_peek_15 rfl (k := ?_)
    refine g_get (M := mX11_peek) (pc := 16) (ji := 13) (by rfl) fX11_13 kX11_50 dX11_peek_16 (kk := fun hr16 => ?_)
    refine g_iald (M := mX11_peek) (pc := 19) (by rfl) (by omega) (by omega) dX11_peek_19 (kk := fun hr19 => ?_)
    refine g_goto (M := mX11_peek) (pc := 20) (tgt := 24) dX11_peek_20 (k := ?_)
    refine g_iret (M := mX11_peek) (pc := 24) rfl dX11_peek_24 rfl ⟨_, _, rfl, rfl, ?_⟩
    refine ⟨?_, ?_, rfl⟩
    · omega
    · omega
set_option maxHeartbeats 4000000 in
set_option maxRecDepth 20000 in
theorem c_X11_place (Γ : KT) (t : Nat) (σ : Nat → Int → Int) (s : Int) (hs : R32 s) : Ct Γ mX11_place 1 (0, 0) [vR Γ 69, vI s] (113, ρT t, σ) (pI 113 (ρT t) (fun r σ' => (r = -1 ∨ (0 ≤ r ∧ r ≤ 5 ∧ s ≠ -1)) ∧ σ' = σ)) := by
  refine Ct.of rfl (Nat.le_of_ble_eq_true rfl) ?_
  show G Γ mX11_place 1 (0, 0) _ (0, 0) 0 [some (vR Γ 69), some (vI s)] [] (113, ρT t, σ)
  refine g_iload_n (M := mX11_place) (pc := 0) dX11_place_0 rfl (k := ?_)
  by_cases hsw1 : s < 99 ∨ 118 < s
  · skip
    refine g_tableOut (M := mX11_place) (pc := 1) (tgt := 108) (by omega) dX11_place_1 (h := hsw1) (k := ?_)
    refine g_iconst (M := mX11_place) (pc := 108) dX11_place_108 (k := ?_)
    refine g_iret (M := mX11_place) (pc := 109) rfl dX11_place_109 rfl ⟨_, _, rfl, rfl, ?_⟩
    refine ⟨?_, rfl⟩
    · omega
  · obtain hc1 | hc1 | hc1 | hc1 | hc1 | hc1 | hc1 | hc1 | hc1 | hc1 | hc1 | hc1 | hc1 | hc1 | hc1 | hc1 | hc1 | hc1 | hc1 | hc1 : s = 99 ∨ s = 100 ∨ s = 101 ∨ s = 102 ∨ s = 103 ∨ s = 104 ∨ s = 105 ∨ s = 106 ∨ s = 107 ∨ s = 108 ∨ s = 109 ∨ s = 110 ∨ s = 111 ∨ s = 112 ∨ s = 113 ∨ s = 114 ∨ s = 115 ∨ s = 116 ∨ s = 117 ∨ s = 118 := by omega
    · skip
      refine g_tableIn (M := mX11_place) (pc := 1) (tgt := 106) (by omega) dX11_place_1 (99) hc1 (k := ?_)
      refine g_iconst (M := mX11_place) (pc := 106) dX11_place_106 (k := ?_)
      refine g_iret (M := mX11_place) (pc := 107) rfl dX11_place_107 rfl ⟨_, _, rfl, rfl, ?_⟩
      refine ⟨?_, rfl⟩
      · omega
    · skip
      refine g_tableIn (M := mX11_place) (pc := 1) (tgt := 108) (by omega) dX11_place_1 (100) hc1 (k := ?_)
      refine g_iconst (M := mX11_place) (pc := 108) dX11_place_108 (k := ?_)
      refine g_iret (M := mX11_place) (pc := 109) rfl dX11_place_109 rfl ⟨_, _, rfl, rfl, ?_⟩
      refine ⟨?_, rfl⟩
      · omega
    · skip
      refine g_tableIn (M := mX11_place) (pc := 1) (tgt := 108) (by omega) dX11_place_1 (101) hc1 (k := ?_)
      refine g_iconst (M := mX11_place) (pc := 108) dX11_place_108 (k := ?_)
      refine g_iret (M := mX11_place) (pc := 109) rfl dX11_place_109 rfl ⟨_, _, rfl, rfl, ?_⟩
      refine ⟨?_, rfl⟩
      · omega
    · skip
      refine g_tableIn (M := mX11_place) (pc := 1) (tgt := 96) (by omega) dX11_place_1 (102) hc1 (k := ?_)
      refine g_iconst (M := mX11_place) (pc := 96) dX11_place_96 (k := ?_)
      refine g_iret (M := mX11_place) (pc := 97) rfl dX11_place_97 rfl ⟨_, _, rfl, rfl, ?_⟩
      refine ⟨?_, rfl⟩
      · omega
    · skip
      refine g_tableIn (M := mX11_place) (pc := 1) (tgt := 104) (by omega) dX11_place_1 (103) hc1 (k := ?_)
      refine g_iconst (M := mX11_place) (pc := 104) dX11_place_104 (k := ?_)
      refine g_iret (M := mX11_place) (pc := 105) rfl dX11_place_105 rfl ⟨_, _, rfl, rfl, ?_⟩
      refine ⟨?_, rfl⟩
      · omega
    · skip
      refine g_tableIn (M := mX11_place) (pc := 1) (tgt := 98) (by omega) dX11_place_1 (104) hc1 (k := ?_)
      refine g_iconst (M := mX11_place) (pc := 98) dX11_place_98 (k := ?_)
      refine g_iret (M := mX11_place) (pc := 99) rfl dX11_place_99 rfl ⟨_, _, rfl, rfl, ?_⟩
      refine ⟨?_, rfl⟩
      · omega
    · skip
      refine g_tableIn (M := mX11_place) (pc := 1) (tgt := 108) (by omega) dX11_place_1 (105) hc1 (k := ?_)
      refine g_iconst (M := mX11_place) (pc := 108) dX11_place_108 (k := ?_)
      refine g_iret (M := mX11_place) (pc := 109) rfl dX11_place_109 rfl ⟨_, _, rfl, rfl, ?_⟩
      refine ⟨?_, rfl⟩
      · omega
    · skip
      refine g_tableIn (M := mX11_place) (pc := 1) (tgt := 108) (by omega) dX11_place_1 (106) hc1 (k := ?_)
      refine g_iconst (M := mX11_place) (pc := 108) dX11_place_108 (k := ?_)
      refine g_iret (M := mX11_place) (pc := 109) rfl dX11_place_109 rfl ⟨_, _, rfl, rfl, ?_⟩
      refine ⟨?_, rfl⟩
      · omega
    · skip
      refine g_tableIn (M := mX11_place) (pc := 1) (tgt := 100) (by omega) dX11_place_1 (107) hc1 (k := ?_)
      refine g_iconst (M := mX11_place) (pc := 100) dX11_place_100 (k := ?_)
      refine g_iret (M := mX11_place) (pc := 101) rfl dX11_place_101 rfl ⟨_, _, rfl, rfl, ?_⟩
      refine ⟨?_, rfl⟩
      · omega
    · skip
      refine g_tableIn (M := mX11_place) (pc := 1) (tgt := 108) (by omega) dX11_place_1 (108) hc1 (k := ?_)
      refine g_iconst (M := mX11_place) (pc := 108) dX11_place_108 (k := ?_)
      refine g_iret (M := mX11_place) (pc := 109) rfl dX11_place_109 rfl ⟨_, _, rfl, rfl, ?_⟩
      refine ⟨?_, rfl⟩
      · omega
    · skip
      refine g_tableIn (M := mX11_place) (pc := 1) (tgt := 108) (by omega) dX11_place_1 (109) hc1 (k := ?_)
      refine g_iconst (M := mX11_place) (pc := 108) dX11_place_108 (k := ?_)
      refine g_iret (M := mX11_place) (pc := 109) rfl dX11_place_109 rfl ⟨_, _, rfl, rfl, ?_⟩
      refine ⟨?_, rfl⟩
      · omega
    · skip
      refine g_tableIn (M := mX11_place) (pc := 1) (tgt := 108) (by omega) dX11_place_1 (110) hc1 (k := ?_)
      refine g_iconst (M := mX11_place) (pc := 108) dX11_place_108 (k := ?_)
      refine g_iret (M := mX11_place) (pc := 109) rfl dX11_place_109 rfl ⟨_, _, rfl, rfl, ?_⟩
      refine ⟨?_, rfl⟩
      · omega
    · skip
      refine g_tableIn (M := mX11_place) (pc := 1) (tgt := 108) (by omega) dX11_place_1 (111) hc1 (k := ?_)
      refine g_iconst (M := mX11_place) (pc := 108) dX11_place_108 (k := ?_)
      refine g_iret (M := mX11_place) (pc := 109) rfl dX11_place_109 rfl ⟨_, _, rfl, rfl, ?_⟩
      refine ⟨?_, rfl⟩
      · omega
    · skip
      refine g_tableIn (M := mX11_place) (pc := 1) (tgt := 108) (by omega) dX11_place_1 (112) hc1 (k := ?_)
      refine g_iconst (M := mX11_place) (pc := 108) dX11_place_108 (k := ?_)
      refine g_iret (M := mX11_place) (pc := 109) rfl dX11_place_109 rfl ⟨_, _, rfl, rfl, ?_⟩
      refine ⟨?_, rfl⟩
      · omega
    · skip
      refine g_tableIn (M := mX11_place) (pc := 1) (tgt := 108) (by omega) dX11_place_1 (113) hc1 (k := ?_)
      refine g_iconst (M := mX11_place) (pc := 108) dX11_place_108 (k := ?_)
      refine g_iret (M := mX11_place) (pc := 109) rfl dX11_place_109 rfl ⟨_, _, rfl, rfl, ?_⟩
      refine ⟨?_, rfl⟩
      · omega
    · skip
      refine g_tableIn (M := mX11_place) (pc := 1) (tgt := 108) (by omega) dX11_place_1 (114) hc1 (k := ?_)
      refine g_iconst (M := mX11_place) (pc := 108) dX11_place_108 (k := ?_)
      refine g_iret (M := mX11_place) (pc := 109) rfl dX11_place_109 rfl ⟨_, _, rfl, rfl, ?_⟩
      refine ⟨?_, rfl⟩
      · omega
    · skip
      refine g_tableIn (M := mX11_place) (pc := 1) (tgt := 108) (by omega) dX11_place_1 (115) hc1 (k := ?_)
      refine g_iconst (M := mX11_place) (pc := 108) dX11_place_108 (k := ?_)
      refine g_iret (M := mX11_place) (pc := 109) rfl dX11_place_109 rfl ⟨_, _, rfl, rfl, ?_⟩
      refine ⟨?_, rfl⟩
      · omega
    · skip
      refine g_tableIn (M := mX11_place) (pc := 1) (tgt := 108) (by omega) dX11_place_1 (116) hc1 (k := ?_)
      refine g_iconst (M := mX11_place) (pc := 108) dX11_place_108 (k := ?_)
      refine g_iret (M := mX11_place) (pc := 109) rfl dX11_place_109 rfl ⟨_, _, rfl, rfl, ?_⟩
      refine ⟨?_, rfl⟩
      · omega
    · skip
      refine g_tableIn (M := mX11_place) (pc := 1) (tgt := 108) (by omega) dX11_place_1 (117) hc1 (k := ?_)
      refine g_iconst (M := mX11_place) (pc := 108) dX11_place_108 (k := ?_)
      refine g_iret (M := mX11_place) (pc := 109) rfl dX11_place_109 rfl ⟨_, _, rfl, rfl, ?_⟩
      refine ⟨?_, rfl⟩
      · omega
    · skip
      refine g_tableIn (M := mX11_place) (pc := 1) (tgt := 102) (by omega) dX11_place_1 (118) hc1 (k := ?_)
      refine g_iconst (M := mX11_place) (pc := 102) dX11_place_102 (k := ?_)
      refine g_iret (M := mX11_place) (pc := 103) rfl dX11_place_103 rfl ⟨_, _, rfl, rfl, ?_⟩
      refine ⟨?_, rfl⟩
      · omega
set_option maxHeartbeats 4000000 in
set_option maxRecDepth 20000 in
theorem c_X11_begin (Γ : KT) (t : Nat) (σ : Nat → Int → Int)  (hI : InvJ σ) : Ct Γ mX11_begin 1 (0, 0) [vR Γ 69] (113, ρT t, σ) (pI 113 (ρT t) (fun r σ' => ((σ 69 11 < 0 ∧ r = 0) ∨ (0 ≤ σ 69 11 ∧ r = 10 * σ 69 11)) ∧ (0 ≤ r ∧ r ≤ 50) ∧ σ' = σ)) := by
  refine Ct.of rfl (Nat.le_of_ble_eq_true rfl) ?_
  show G Γ mX11_begin 1 (0, 0) _ (0, 0) 0 [some (vR Γ 69)] [] (113, ρT t, σ)
  refine g_aload_n (M := mX11_begin) (pc := 0) dX11_begin_0 rfl (k := ?_)
  refine g_get (M := mX11_begin) (pc := 1) (ji := 11) (by rfl) fX11_11 kX11_44 dX11_begin_1 (kk := fun hr1 => ?_)
  have hb1 := jv69_11 hI 11 (by omega) (by omega)
  refine g_if_ge (M := mX11_begin) (pc := 4) (tgt := 11) (by omega) dX11_begin_4 (k1 := fun h4 => ?_) (k2 := fun h4 => ?_)
  · skip
    refine g_bipush (M := mX11_begin) (pc := 11) dX11_begin_11 (k := ?_)
    refine g_aload_n (M := mX11_begin) (pc := 13) dX11_begin_13 rfl (k := ?_)
    refine g_get (M := mX11_begin) (pc := 14) (ji := 11) (by rfl) fX11_11 kX11_44 dX11_begin_14 (kk := fun hr14 => ?_)
    refine g_imul (M := mX11_begin) (pc := 17) dX11_begin_17 (k := ?_)
    refine g_iret (M := mX11_begin) (pc := 18) rfl dX11_begin_18 rfl ⟨_, _, rfl, rfl, ?_⟩
    refine ⟨?_, ?_, rfl⟩
    · omega
    · omega
  · skip
    refine g_iconst (M := mX11_begin) (pc := 7) dX11_begin_7 (k := ?_)
    refine g_goto (M := mX11_begin) (pc := 8) (tgt := 18) dX11_begin_8 (k := ?_)
    refine g_iret (M := mX11_begin) (pc := 18) rfl dX11_begin_18 rfl ⟨_, _, rfl, rfl, ?_⟩
    refine ⟨?_, ?_, rfl⟩
    · omega
    · omega
set_option maxHeartbeats 4000000 in
set_option maxRecDepth 20000 in
theorem c_X11_behind (Γ : KT) (t : Nat) (σ : Nat → Int → Int)  (hI : InvJ σ) : Ct Γ mX11_behind 1 (0, 0) [vR Γ 69] (113, ρT t, σ) (pI 113 (ρT t) (fun r σ' => ((σ 69 11 < 0 ∧ r = 0) ∨ (0 ≤ σ 69 11 ∧ r = 10 * σ 69 11 + σ 79 (σ 69 11))) ∧ (0 ≤ r ∧ r ≤ 60) ∧ σ' = σ)) := by
  refine Ct.of rfl (Nat.le_of_ble_eq_true rfl) ?_
  show G Γ mX11_behind 1 (0, 0) _ (0, 0) 0 [some (vR Γ 69)] [] (113, ρT t, σ)
  refine g_aload_n (M := mX11_behind) (pc := 0) dX11_behind_0 rfl (k := ?_)
  refine g_get (M := mX11_behind) (pc := 1) (ji := 11) (by rfl) fX11_11 kX11_44 dX11_behind_1 (kk := fun hr1 => ?_)
  have hb1 := jv69_11 hI 11 (by omega) (by omega)
  refine g_if_ge (M := mX11_behind) (pc := 4) (tgt := 11) (by omega) dX11_behind_4 (k1 := fun h4 => ?_) (k2 := fun h4 => ?_)
  · skip
    refine g_bipush (M := mX11_behind) (pc := 11) dX11_behind_11 (k := ?_)
    refine g_aload_n (M := mX11_behind) (pc := 13) dX11_behind_13 rfl (k := ?_)
    refine g_get (M := mX11_behind) (pc := 14) (ji := 11) (by rfl) fX11_11 kX11_44 dX11_behind_14 (kk := fun hr14 => ?_)
    refine g_imul (M := mX11_behind) (pc := 17) dX11_behind_17 (k := ?_)
    refine g_aload_n (M := mX11_behind) (pc := 18) dX11_behind_18 rfl (k := ?_)
    refine g_getr (M := mX11_behind) (pc := 19) (by rfl) fX11_16 kX11_59 dX11_behind_19 (by rfl) (kk := ?_)
    refine g_aload_n (M := mX11_behind) (pc := 22) dX11_behind_22 rfl (k := ?_)
    refine g_get (M := mX11_behind) (pc := 23) (ji := 11) (by rfl) fX11_11 kX11_44 dX11_behind_23 (kk := fun hr23 => ?_)
    refine g_iald (M := mX11_behind) (pc := 26) (by rfl) (by omega) (by omega) dX11_behind_26 (kk := fun hr26 => ?_)
    have hb26 := jv79_0 hI (σ 69 11) (by omega) (by omega)
    refine g_iadd (M := mX11_behind) (pc := 27) dX11_behind_27 (k := ?_)
    refine g_iret (M := mX11_behind) (pc := 28) rfl dX11_behind_28 rfl ⟨_, _, rfl, rfl, ?_⟩
    refine ⟨?_, ?_, rfl⟩
    · omega
    · omega
  · skip
    refine g_iconst (M := mX11_behind) (pc := 7) dX11_behind_7 (k := ?_)
    refine g_goto (M := mX11_behind) (pc := 8) (tgt := 28) dX11_behind_8 (k := ?_)
    refine g_iret (M := mX11_behind) (pc := 28) rfl dX11_behind_28 rfl ⟨_, _, rfl, rfl, ?_⟩
    refine ⟨?_, ?_, rfl⟩
    · omega
    · omega
set_option maxHeartbeats 4000000 in
set_option maxRecDepth 20000 in
theorem c_X11_dawn (Γ : KT) (t : Nat) (σ : Nat → Int → Int)  (hI : InvJ σ) : Ct Γ mX11_dawn 2 (0, 0) [vR Γ 69] (113, ρT t, σ) (pI 113 (ρT t) (fun r σ' => (0 ≤ r ∧ r ≤ 99) ∧ σ' = σ)) := by
  refine Ct.of rfl (Nat.le_of_ble_eq_true rfl) ?_
  show G Γ mX11_dawn 2 (0, 0) _ (0, 0) 0 [some (vR Γ 69), none, none] [] (113, ρT t, σ)
  refine g_bipush (M := mX11_dawn) (pc := 0) dX11_dawn_0 (k := ?_)
  refine g_istore_1 (M := mX11_dawn) (pc := 2) dX11_dawn_2 (k := ?_)
  refine g_aload_n (M := mX11_dawn) (pc := 3) dX11_dawn_3 rfl (k := ?_)
  refine g_cV0I (M := mX11_dawn) (pc := 4) (c_X11_begin Γ t _ hI) qX11_begin vX11_begin sX11_begin kX11_286 dX11_dawn_4 (kk := ?_)
  rintro r4 _ ⟨hd4, he4, e⟩; rw [e]; clear e
  refine g_istore_2 (M := mX11_dawn) (pc := 7) dX11_dawn_7 (k := ?_)
  have loop8 : ∀ (N : Nat) (n : Int) (q : Int), ((61 - q).toNat) < N → ((0 ≤ n ∧ n ≤ 99) ∧ (0 ≤ q ∧ q ≤ 60)) → G Γ mX11_dawn 2 (0, 0) (pI 113 (ρT t) (fun r σ' => (0 ≤ r ∧ r ≤ 99) ∧ σ' = σ)) (0, 0) 8 [some (vR Γ 69), some (vI n), some (vI q)] [] (113, ρT t, σ) := by
    intro N
    induction N with
    | zero => intro n q hmu8 hinv8; exact absurd hmu8 (Nat.not_lt_zero _)
    | succ N ih8 =>
      intro n q hmu8 hinv8
      obtain ⟨hb8_n, hb8_q⟩ := hinv8
      refine g_iload_n (M := mX11_dawn) (pc := 8) dX11_dawn_8 rfl (k := ?_)
      refine g_aload_n (M := mX11_dawn) (pc := 9) dX11_dawn_9 rfl (k := ?_)
      refine g_cV0I (M := mX11_dawn) (pc := 10) (c_X11_behind Γ t _ hI) qX11_behind vX11_behind sX11_behind kX11_289 dX11_dawn_10 (kk := ?_)
      rintro r10 _ ⟨hd10, he10, e⟩; rw [e]; clear e
      refine g_icmp_ge (M := mX11_dawn) (pc := 13) (tgt := 43) (by omega) (by omega) dX11_dawn_13 (k1 := fun h13 => ?_) (k2 := fun h13 => ?_)
      · skip
        refine g_iload_n (M := mX11_dawn) (pc := 43) dX11_dawn_43 rfl (k := ?_)
        refine g_iret (M := mX11_dawn) (pc := 44) rfl dX11_dawn_44 rfl ⟨_, _, rfl, rfl, ?_⟩
        refine ⟨?_, rfl⟩
        · omega
      · skip
        refine g_aload_n (M := mX11_dawn) (pc := 16) dX11_dawn_16 rfl (k := ?_)
        refine g_getr (M := mX11_dawn) (pc := 17) (by rfl) fX11_17 kX11_62 dX11_dawn_17 (by rfl) (kk := ?_)
        refine g_iload_n (M := mX11_dawn) (pc := 20) dX11_dawn_20 rfl (k := ?_)
        refine g_iald (M := mX11_dawn) (pc := 21) (by rfl) (by omega) (by omega) dX11_dawn_21 (kk := fun hr21 => ?_)
        refine g_iconst (M := mX11_dawn) (pc := 22) dX11_dawn_22 (k := ?_)
        refine g_icmp_ne (M := mX11_dawn) (pc := 23) (tgt := 35) (by omega) (by omega) dX11_dawn_23 (k1 := fun h23 => ?_) (k2 := fun h23 => ?_)
        · skip
          refine g_iload_n (M := mX11_dawn) (pc := 35) dX11_dawn_35 rfl (k := ?_)
          refine g_istore_1 (M := mX11_dawn) (pc := 36) dX11_dawn_36 (k := ?_)
          refine g_iinc_2 (M := mX11_dawn) (pc := 37) dX11_dawn_37 (k := ?_)
          refine g_goto (M := mX11_dawn) (pc := 40) (tgt := 8) dX11_dawn_40 (k := ?_)
          refine ih8 _ _ ?_ ?_
          · omega
          · skip
            refine ⟨?_, ?_⟩
            · omega
            · omega
        · skip
          refine g_aload_n (M := mX11_dawn) (pc := 26) dX11_dawn_26 rfl (k := ?_)
          refine g_getr (M := mX11_dawn) (pc := 27) (by rfl) fX11_18 kX11_65 dX11_dawn_27 (by rfl) (kk := ?_)
          refine g_iload_n (M := mX11_dawn) (pc := 30) dX11_dawn_30 rfl (k := ?_)
          refine g_iald (M := mX11_dawn) (pc := 31) (by rfl) (by omega) (by omega) dX11_dawn_31 (kk := fun hr31 => ?_)
          have hb31 := jv81_0 hI q (by omega) (by omega)
          refine g_goto (M := mX11_dawn) (pc := 32) (tgt := 36) dX11_dawn_32 (k := ?_)
          refine g_istore_1 (M := mX11_dawn) (pc := 36) dX11_dawn_36 (k := ?_)
          refine g_iinc_2 (M := mX11_dawn) (pc := 37) dX11_dawn_37 (k := ?_)
          refine g_goto (M := mX11_dawn) (pc := 40) (tgt := 8) dX11_dawn_40 (k := ?_)
          refine ih8 _ _ ?_ ?_
          · omega
          · skip
            refine ⟨?_, ?_⟩
            · omega
            · omega
  refine loop8 _ _ _ (Nat.lt_succ_self _) ?_
  refine ⟨?_, ?_⟩
  · omega
  · omega
set_option maxHeartbeats 4000000 in
set_option maxRecDepth 20000 in
theorem c_X11_factOf (Γ : KT) (t : Nat) (σ : Nat → Int → Int) (k : Int) (f : Int) (h : Int) (u : Int) (hI : InvJ σ) (hk : R32 k) (hf : R32 f) (hh : 0 ≤ h ∧ h < 6) (hu : R32 u) : Ct Γ mX11_factOf 1 (0, 0) [vR Γ 69, vI k, vI f, vI h, vI u] (113, ρT t, σ) (pI 113 (ρT t) (fun r σ' => (R32 r) ∧ σ' = σ)) := by
  refine Ct.of rfl (Nat.le_of_ble_eq_true rfl) ?_
  show G Γ mX11_factOf 1 (0, 0) _ (0, 0) 0 [some (vR Γ 69), some (vI k), some (vI f), some (vI h), some (vI u)] [] (113, ρT t, σ)
  refine g_iload_n (M := mX11_factOf) (pc := 0) dX11_factOf_0 rfl (k := ?_)
  by_cases hsw1 : k < 0 ∨ 4 < k
  · skip
    refine g_tableOut (M := mX11_factOf) (pc := 1) (tgt := 64) (by omega) dX11_factOf_1 (h := hsw1) (k := ?_)
    refine g_iload (M := mX11_factOf) (pc := 64) dX11_factOf_64 rfl (k := ?_)
    refine g_iret (M := mX11_factOf) (pc := 66) rfl dX11_factOf_66 rfl ⟨_, _, rfl, rfl, ?_⟩
    refine ⟨?_, rfl⟩
    · omega
  · obtain hc1 | hc1 | hc1 | hc1 | hc1 : k = 0 ∨ k = 1 ∨ k = 2 ∨ k = 3 ∨ k = 4 := by omega
    · skip
      refine g_tableIn (M := mX11_factOf) (pc := 1) (tgt := 36) (by omega) dX11_factOf_1 (0) hc1 (k := ?_)
      refine g_iload_n (M := mX11_factOf) (pc := 36) dX11_factOf_36 rfl (k := ?_)
      refine g_iret (M := mX11_factOf) (pc := 37) rfl dX11_factOf_37 rfl ⟨_, _, rfl, rfl, ?_⟩
      refine ⟨?_, rfl⟩
      · omega
    · skip
      refine g_tableIn (M := mX11_factOf) (pc := 1) (tgt := 38) (by omega) dX11_factOf_1 (1) hc1 (k := ?_)
      refine g_iload_n (M := mX11_factOf) (pc := 38) dX11_factOf_38 rfl (k := ?_)
      refine g_iret (M := mX11_factOf) (pc := 39) rfl dX11_factOf_39 rfl ⟨_, _, rfl, rfl, ?_⟩
      refine ⟨?_, rfl⟩
      · omega
    · skip
      refine g_tableIn (M := mX11_factOf) (pc := 1) (tgt := 40) (by omega) dX11_factOf_1 (2) hc1 (k := ?_)
      refine g_aload_n (M := mX11_factOf) (pc := 40) dX11_factOf_40 rfl (k := ?_)
      refine g_getr (M := mX11_factOf) (pc := 41) (by rfl) fX11_2 kX11_16 dX11_factOf_41 (by rfl) (kk := ?_)
      refine g_iload_n (M := mX11_factOf) (pc := 44) dX11_factOf_44 rfl (k := ?_)
      refine g_iald (M := mX11_factOf) (pc := 45) (by rfl) (by omega) (by omega) dX11_factOf_45 (kk := fun hr45 => ?_)
      have hb45 := jv70_0 hI h (by omega) (by omega)
      refine g_iret (M := mX11_factOf) (pc := 46) rfl dX11_factOf_46 rfl ⟨_, _, rfl, rfl, ?_⟩
      refine ⟨?_, rfl⟩
      · omega
    · skip
      refine g_tableIn (M := mX11_factOf) (pc := 1) (tgt := 47) (by omega) dX11_factOf_1 (3) hc1 (k := ?_)
      refine g_aload_n (M := mX11_factOf) (pc := 47) dX11_factOf_47 rfl (k := ?_)
      refine g_getr (M := mX11_factOf) (pc := 48) (by rfl) fX11_3 kX11_20 dX11_factOf_48 (by rfl) (kk := ?_)
      refine g_iload_n (M := mX11_factOf) (pc := 51) dX11_factOf_51 rfl (k := ?_)
      refine g_iald (M := mX11_factOf) (pc := 52) (by rfl) (by omega) (by omega) dX11_factOf_52 (kk := fun hr52 => ?_)
      have hb52 := jv71_0 hI h (by omega) (by omega)
      refine g_iret (M := mX11_factOf) (pc := 53) rfl dX11_factOf_53 rfl ⟨_, _, rfl, rfl, ?_⟩
      refine ⟨?_, rfl⟩
      · omega
    · skip
      refine g_tableIn (M := mX11_factOf) (pc := 1) (tgt := 54) (by omega) dX11_factOf_1 (4) hc1 (k := ?_)
      refine g_aload_n (M := mX11_factOf) (pc := 54) dX11_factOf_54 rfl (k := ?_)
      refine g_getr (M := mX11_factOf) (pc := 55) (by rfl) fX11_4 kX11_23 dX11_factOf_55 (by rfl) (kk := ?_)
      refine g_iload_n (M := mX11_factOf) (pc := 58) dX11_factOf_58 rfl (k := ?_)
      refine g_iald (M := mX11_factOf) (pc := 59) (by rfl) (by omega) (by omega) dX11_factOf_59 (kk := fun hr59 => ?_)
      have hb59 := jv72_0 hI h (by omega) (by omega)
      refine g_bipush (M := mX11_factOf) (pc := 60) dX11_factOf_60 (k := ?_)
      refine g_idiv (M := mX11_factOf) (pc := 62) (by omega) (by omega) (by omega) dX11_factOf_62 (k := ?_)
      have hz62 := tdivB (a := σ 72 h) (b := 10) (by omega)
      refine g_iret (M := mX11_factOf) (pc := 63) rfl dX11_factOf_63 rfl ⟨_, _, rfl, rfl, ?_⟩
      refine ⟨?_, rfl⟩
      · omega
set_option maxHeartbeats 4000000 in
set_option maxRecDepth 20000 in
theorem c_X11_holds (Γ : KT) (t : Nat) (σ : Nat → Int → Int) (x : Int) (f : Int) (h : Int) (u : Int) (hI : InvJ σ) (hx : 0 ≤ x ∧ x < 60) (hf : R32 f) (hh : 0 ≤ h ∧ h < 6) (hu : R32 u) (hw : ∃ z, 100 * z ≤ σ 82 x ∧ σ 83 x ≤ 100 * z + 100 ∧ okS (σ 84) (σ 82 x) (σ 83 x - σ 82 x).toNat) : Ct Γ mX11_holds 2 (0, 0) [vR Γ 69, vI x, vI f, vI h, vI u] (113, ρT t, σ) (pI 113 (ρT t) (fun r σ' => (0 ≤ r ∧ r ≤ 1) ∧ (InvJ σ') ∧ (Fr jcH σ σ'))) := by
  refine Ct.of rfl (Nat.le_of_ble_eq_true rfl) ?_
  show G Γ mX11_holds 2 (0, 0) _ (0, 0) 0 [some (vR Γ 69), some (vI x), some (vI f), some (vI h), some (vI u), none, none, none, none, none] [] (113, ρT t, σ)
  obtain ⟨z, hw⟩ := hw
  refine g_iconst (M := mX11_holds) (pc := 0) dX11_holds_0 (k := ?_)
  refine g_istore_5 (M := mX11_holds) (pc := 1) dX11_holds_1 (k := ?_)
  refine g_aload_n (M := mX11_holds) (pc := 3) dX11_holds_3 rfl (k := ?_)
  refine g_getr (M := mX11_holds) (pc := 4) (by rfl) fX11_19 kX11_68 dX11_holds_4 (by rfl) (kk := ?_)
  refine g_iload_n (M := mX11_holds) (pc := 7) dX11_holds_7 rfl (k := ?_)
  refine g_iald (M := mX11_holds) (pc := 8) (by rfl) (by omega) (by omega) dX11_holds_8 (kk := fun hr8 => ?_)
  have hb8 := jv82_0 hI x (by omega) (by omega)
  refine g_istore_6 (M := mX11_holds) (pc := 9) dX11_holds_9 (k := ?_)
  have loop11 : ∀ (N : Nat) (τ11 : Nat → Int → Int) (n : Int) (q : Int), ((701 - q).toNat) < N → ((InvJ τ11) ∧ (Fr jcH σ τ11) ∧ (0 ≤ n ∧ n ≤ 100) ∧ (0 ≤ q ∧ q ≤ 700) ∧ (σ 82 x ≤ q) ∧ (n = depF (σ 84) (σ 82 x) (q - σ 82 x).toNat)) → G Γ mX11_holds 2 (0, 0) (pI 113 (ρT t) (fun r σ' => (0 ≤ r ∧ r ≤ 1) ∧ (InvJ σ') ∧ (Fr jcH σ σ'))) (0, 0) 11 [some (vR Γ 69), some (vI x), some (vI f), some (vI h), some (vI u), some (vI n), some (vI q), none, none, none] [] (113, ρT t, τ11) := by
    intro N
    induction N with
    | zero => intro τ11 n q hmu11 hinv11; exact absurd hmu11 (Nat.not_lt_zero _)
    | succ N ih11 =>
      intro τ11 n q hmu11 hinv11
      obtain ⟨hI11, hF11, hb11_n, hb11_q, hx11_0, hx11_1⟩ := hinv11
      refine g_iload (M := mX11_holds) (pc := 11) dX11_holds_11 rfl (k := ?_)
      refine g_aload_n (M := mX11_holds) (pc := 13) dX11_holds_13 rfl (k := ?_)
      refine g_getr (M := mX11_holds) (pc := 14) (by rfl) fX11_20 kX11_71 dX11_holds_14 (by rfl) (kk := ?_)
      refine g_iload_n (M := mX11_holds) (pc := 17) dX11_holds_17 rfl (k := ?_)
      refine g_iald (M := mX11_holds) (pc := 18) (by rfl) (by omega) (by omega) dX11_holds_18 (kk := fun hr18 => ?_)
      have hb18 := jv83_0 hI11 x (by omega) (by omega)
      refine g_icmp_ge (M := mX11_holds) (pc := 19) (tgt := 255) (by omega) (by omega) dX11_holds_19 (k1 := fun h19 => ?_) (k2 := fun h19 => ?_)
      · skip
        refine g_aload_n (M := mX11_holds) (pc := 255) dX11_holds_255 rfl (k := ?_)
        refine g_getr (M := mX11_holds) (pc := 256) (by rfl) fX11_27 kX11_92 dX11_holds_256 (by rfl) (kk := ?_)
        refine g_iconst (M := mX11_holds) (pc := 259) dX11_holds_259 (k := ?_)
        refine g_zald (M := mX11_holds) (pc := 260) (by rfl) (by omega) (by omega) dX11_holds_260 (kk := fun hr260 => ?_)
        have hb260 := jv87_0 hI11 0 (by omega) (by omega)
        refine g_zret (M := mX11_holds) (pc := 261) (by first | omega | (unfold b2; split <;> omega)) rfl dX11_holds_261 rfl ⟨_, _, rfl, rfl, ?_⟩
        refine ⟨?_, ?_, ?_⟩
        · omega
        · exact hI11
        · exact hF11
      · skip
        have h83 := hF11 83 x rfl
        have hO := okAt hw.2.2 (q := q) (by omega) (by omega)
        have hl84 := hF11 84 q rfl
        have hdl := dl_b (σ 84 q)
        refine g_aload_n (M := mX11_holds) (pc := 22) dX11_holds_22 rfl (k := ?_)
        refine g_getr (M := mX11_holds) (pc := 23) (by rfl) fX11_21 kX11_74 dX11_holds_23 (by rfl) (kk := ?_)
        refine g_iload (M := mX11_holds) (pc := 26) dX11_holds_26 rfl (k := ?_)
        refine g_iald (M := mX11_holds) (pc := 28) (by rfl) (by omega) (by omega) dX11_holds_28 (kk := fun hr28 => ?_)
        refine g_istore_7 (M := mX11_holds) (pc := 29) dX11_holds_29 (k := ?_)
        refine g_iload (M := mX11_holds) (pc := 31) dX11_holds_31 rfl (k := ?_)
        refine g_bipush (M := mX11_holds) (pc := 33) dX11_holds_33 (k := ?_)
        refine g_icmp_ne (M := mX11_holds) (pc := 35) (tgt := 67) (by omega) (by omega) dX11_holds_35 (k1 := fun h35 => ?_) (k2 := fun h35 => ?_)
        · skip
          refine g_iload (M := mX11_holds) (pc := 67) dX11_holds_67 rfl (k := ?_)
          refine g_if_ge (M := mX11_holds) (pc := 69) (tgt := 151) (by omega) dX11_holds_69 (k1 := fun h69 => ?_) (k2 := fun h69 => ?_)
          · skip
            refine g_aload_n (M := mX11_holds) (pc := 151) dX11_holds_151 rfl (k := ?_)
            refine g_iload (M := mX11_holds) (pc := 152) dX11_holds_152 rfl (k := ?_)
            refine g_sipush (M := mX11_holds) (pc := 154) dX11_holds_154 (k := ?_)
            refine g_idiv (M := mX11_holds) (pc := 157) (by omega) (by omega) (by omega) dX11_holds_157 (k := ?_)
            have hz157 := tdivB (a := τ11 84 q) (b := 1000) (by omega)
            refine g_iload_n (M := mX11_holds) (pc := 158) dX11_holds_158 rfl (k := ?_)
            refine g_iload_n (M := mX11_holds) (pc := 159) dX11_holds_159 rfl (k := ?_)
            refine g_iload (M := mX11_holds) (pc := 160) dX11_holds_160 rfl (k := ?_)
            refine g_cV4I (M := mX11_holds) (pc := 162) (c_X11_factOf Γ t _ _ _ _ _ hI11 (by omega) (by omega) (by omega) (by omega)) qX11_factOf vX11_factOf sX11_factOf kX11_292 dX11_holds_162 (kk := ?_)
            rintro r162 _ ⟨hi162, e⟩; rw [e]; clear e
            refine g_istore_8 (M := mX11_holds) (pc := 165) dX11_holds_165 (k := ?_)
            refine g_iload (M := mX11_holds) (pc := 167) dX11_holds_167 rfl (k := ?_)
            refine g_bipush (M := mX11_holds) (pc := 169) dX11_holds_169 (k := ?_)
            refine g_idiv (M := mX11_holds) (pc := 171) (by omega) (by omega) (by omega) dX11_holds_171 (k := ?_)
            have hz171 := tdivB (a := τ11 84 q) (b := 100) (by omega)
            refine g_bipush (M := mX11_holds) (pc := 172) dX11_holds_172 (k := ?_)
            refine g_irem (M := mX11_holds) (pc := 174) (by omega) (by omega) (by omega) dX11_holds_174 (k := ?_)
            have hz174 := tmodB (a := Int.tdiv (τ11 84 q) 100) (b := 10) (by omega)
            refine g_istore_9 (M := mX11_holds) (pc := 175) dX11_holds_175 (k := ?_)
            refine g_aload_n (M := mX11_holds) (pc := 177) dX11_holds_177 rfl (k := ?_)
            refine g_getr (M := mX11_holds) (pc := 178) (by rfl) fX11_27 kX11_92 dX11_holds_178 (by rfl) (kk := ?_)
            refine g_iload (M := mX11_holds) (pc := 181) dX11_holds_181 rfl (k := ?_)
            refine g_iload (M := mX11_holds) (pc := 183) dX11_holds_183 rfl (k := ?_)
            refine g_if_ne (M := mX11_holds) (pc := 185) (tgt := 206) (by omega) dX11_holds_185 (k1 := fun h185 => ?_) (k2 := fun h185 => ?_)
            · skip
              refine g_iload (M := mX11_holds) (pc := 206) dX11_holds_206 rfl (k := ?_)
              refine g_iconst (M := mX11_holds) (pc := 208) dX11_holds_208 (k := ?_)
              refine g_icmp_ne (M := mX11_holds) (pc := 209) (tgt := 230) (by omega) (by omega) dX11_holds_209 (k1 := fun h209 => ?_) (k2 := fun h209 => ?_)
              · skip
                refine g_iload (M := mX11_holds) (pc := 230) dX11_holds_230 rfl (k := ?_)
                refine g_iload (M := mX11_holds) (pc := 232) dX11_holds_232 rfl (k := ?_)
                refine g_bipush (M := mX11_holds) (pc := 234) dX11_holds_234 (k := ?_)
                refine g_irem (M := mX11_holds) (pc := 236) (by omega) (by omega) (by omega) dX11_holds_236 (k := ?_)
                have hz236 := tmodB (a := τ11 84 q) (b := 100) (by omega)
                refine g_icmp_le (M := mX11_holds) (pc := 237) (tgt := 244) (by omega) (by omega) dX11_holds_237 (k1 := fun h237 => ?_) (k2 := fun h237 => ?_)
                · skip
                  refine g_iconst (M := mX11_holds) (pc := 244) dX11_holds_244 (k := ?_)
                  refine g_zast (M := mX11_holds) (pc := 245) (by rfl) (by omega) (by omega) (by omega) dX11_holds_245 (kk := ?_)
                  refine g_iinc_5 (M := mX11_holds) (pc := 246) dX11_holds_246 (k := ?_)
                  refine g_iinc_6 (M := mX11_holds) (pc := 249) dX11_holds_249 (k := ?_)
                  refine g_goto (M := mX11_holds) (pc := 252) (tgt := 11) dX11_holds_252 (k := ?_)
                  refine g_less (leL_s (leL_s (leL_s (leL_s (leL_s (leL_s (leL_s (leL_n (leL_n (leL_n leL_0)))))))))) ?_
                  refine ih11 _ _ _ ?_ ?_
                  · omega
                  · skip
                    refine ⟨?_, ?_, ?_, ?_, ?_, ?_⟩
                    · refine jvu87 ?_ (by omega) (by omega); exact hI11
                    · refine Fr.up ?_ (by first | rfl | (unfold jcH; simp; try omega)); exact hF11
                    · omega
                    · omega
                    · omega
                    · first | omega | (rw [Int.sub_self]; rfl)
                · skip
                  refine g_iconst (M := mX11_holds) (pc := 240) dX11_holds_240 (k := ?_)
                  refine g_goto (M := mX11_holds) (pc := 241) (tgt := 245) dX11_holds_241 (k := ?_)
                  refine g_zast (M := mX11_holds) (pc := 245) (by rfl) (by omega) (by omega) (by omega) dX11_holds_245 (kk := ?_)
                  refine g_iinc_5 (M := mX11_holds) (pc := 246) dX11_holds_246 (k := ?_)
                  refine g_iinc_6 (M := mX11_holds) (pc := 249) dX11_holds_249 (k := ?_)
                  refine g_goto (M := mX11_holds) (pc := 252) (tgt := 11) dX11_holds_252 (k := ?_)
                  refine g_less (leL_s (leL_s (leL_s (leL_s (leL_s (leL_s (leL_s (leL_n (leL_n (leL_n leL_0)))))))))) ?_
                  refine ih11 _ _ _ ?_ ?_
                  · omega
                  · skip
                    refine ⟨?_, ?_, ?_, ?_, ?_, ?_⟩
                    · refine jvu87 ?_ (by omega) (by omega); exact hI11
                    · refine Fr.up ?_ (by first | rfl | (unfold jcH; simp; try omega)); exact hF11
                    · omega
                    · omega
                    · omega
                    · first | omega | (rw [Int.sub_self]; rfl)
              · skip
                refine g_iload (M := mX11_holds) (pc := 212) dX11_holds_212 rfl (k := ?_)
                refine g_iload (M := mX11_holds) (pc := 214) dX11_holds_214 rfl (k := ?_)
                refine g_bipush (M := mX11_holds) (pc := 216) dX11_holds_216 (k := ?_)
                refine g_irem (M := mX11_holds) (pc := 218) (by omega) (by omega) (by omega) dX11_holds_218 (k := ?_)
                have hz218 := tmodB (a := τ11 84 q) (b := 100) (by omega)
                refine g_icmp_ne (M := mX11_holds) (pc := 219) (tgt := 226) (by omega) (by omega) dX11_holds_219 (k1 := fun h219 => ?_) (k2 := fun h219 => ?_)
                · skip
                  refine g_iconst (M := mX11_holds) (pc := 226) dX11_holds_226 (k := ?_)
                  refine g_goto (M := mX11_holds) (pc := 227) (tgt := 245) dX11_holds_227 (k := ?_)
                  refine g_zast (M := mX11_holds) (pc := 245) (by rfl) (by omega) (by omega) (by omega) dX11_holds_245 (kk := ?_)
                  refine g_iinc_5 (M := mX11_holds) (pc := 246) dX11_holds_246 (k := ?_)
                  refine g_iinc_6 (M := mX11_holds) (pc := 249) dX11_holds_249 (k := ?_)
                  refine g_goto (M := mX11_holds) (pc := 252) (tgt := 11) dX11_holds_252 (k := ?_)
                  refine g_less (leL_s (leL_s (leL_s (leL_s (leL_s (leL_s (leL_s (leL_n (leL_n (leL_n leL_0)))))))))) ?_
                  refine ih11 _ _ _ ?_ ?_
                  · omega
                  · skip
                    refine ⟨?_, ?_, ?_, ?_, ?_, ?_⟩
                    · refine jvu87 ?_ (by omega) (by omega); exact hI11
                    · refine Fr.up ?_ (by first | rfl | (unfold jcH; simp; try omega)); exact hF11
                    · omega
                    · omega
                    · omega
                    · first | omega | (rw [Int.sub_self]; rfl)
                · skip
                  refine g_iconst (M := mX11_holds) (pc := 222) dX11_holds_222 (k := ?_)
                  refine g_goto (M := mX11_holds) (pc := 223) (tgt := 245) dX11_holds_223 (k := ?_)
                  refine g_zast (M := mX11_holds) (pc := 245) (by rfl) (by omega) (by omega) (by omega) dX11_holds_245 (kk := ?_)
                  refine g_iinc_5 (M := mX11_holds) (pc := 246) dX11_holds_246 (k := ?_)
                  refine g_iinc_6 (M := mX11_holds) (pc := 249) dX11_holds_249 (k := ?_)
                  refine g_goto (M := mX11_holds) (pc := 252) (tgt := 11) dX11_holds_252 (k := ?_)
                  refine g_less (leL_s (leL_s (leL_s (leL_s (leL_s (leL_s (leL_s (leL_n (leL_n (leL_n leL_0)))))))))) ?_
                  refine ih11 _ _ _ ?_ ?_
                  · omega
                  · skip
                    refine ⟨?_, ?_, ?_, ?_, ?_, ?_⟩
                    · refine jvu87 ?_ (by omega) (by omega); exact hI11
                    · refine Fr.up ?_ (by first | rfl | (unfold jcH; simp; try omega)); exact hF11
                    · omega
                    · omega
                    · omega
                    · first | omega | (rw [Int.sub_self]; rfl)
            · skip
              refine g_iload (M := mX11_holds) (pc := 188) dX11_holds_188 rfl (k := ?_)
              refine g_iload (M := mX11_holds) (pc := 190) dX11_holds_190 rfl (k := ?_)
              refine g_bipush (M := mX11_holds) (pc := 192) dX11_holds_192 (k := ?_)
              refine g_irem (M := mX11_holds) (pc := 194) (by omega) (by omega) (by omega) dX11_holds_194 (k := ?_)
              have hz194 := tmodB (a := τ11 84 q) (b := 100) (by omega)
              refine g_icmp_ge (M := mX11_holds) (pc := 195) (tgt := 202) (by omega) (by omega) dX11_holds_195 (k1 := fun h195 => ?_) (k2 := fun h195 => ?_)
              · skip
                refine g_iconst (M := mX11_holds) (pc := 202) dX11_holds_202 (k := ?_)
                refine g_goto (M := mX11_holds) (pc := 203) (tgt := 245) dX11_holds_203 (k := ?_)
                refine g_zast (M := mX11_holds) (pc := 245) (by rfl) (by omega) (by omega) (by omega) dX11_holds_245 (kk := ?_)
                refine g_iinc_5 (M := mX11_holds) (pc := 246) dX11_holds_246 (k := ?_)
                refine g_iinc_6 (M := mX11_holds) (pc := 249) dX11_holds_249 (k := ?_)
                refine g_goto (M := mX11_holds) (pc := 252) (tgt := 11) dX11_holds_252 (k := ?_)
                refine g_less (leL_s (leL_s (leL_s (leL_s (leL_s (leL_s (leL_s (leL_n (leL_n (leL_n leL_0)))))))))) ?_
                refine ih11 _ _ _ ?_ ?_
                · omega
                · skip
                  refine ⟨?_, ?_, ?_, ?_, ?_, ?_⟩
                  · refine jvu87 ?_ (by omega) (by omega); exact hI11
                  · refine Fr.up ?_ (by first | rfl | (unfold jcH; simp; try omega)); exact hF11
                  · omega
                  · omega
                  · omega
                  · first | omega | (rw [Int.sub_self]; rfl)
              · skip
                refine g_iconst (M := mX11_holds) (pc := 198) dX11_holds_198 (k := ?_)
                refine g_goto (M := mX11_holds) (pc := 199) (tgt := 245) dX11_holds_199 (k := ?_)
                refine g_zast (M := mX11_holds) (pc := 245) (by rfl) (by omega) (by omega) (by omega) dX11_holds_245 (kk := ?_)
                refine g_iinc_5 (M := mX11_holds) (pc := 246) dX11_holds_246 (k := ?_)
                refine g_iinc_6 (M := mX11_holds) (pc := 249) dX11_holds_249 (k := ?_)
                refine g_goto (M := mX11_holds) (pc := 252) (tgt := 11) dX11_holds_252 (k := ?_)
                refine g_less (leL_s (leL_s (leL_s (leL_s (leL_s (leL_s (leL_s (leL_n (leL_n (leL_n leL_0)))))))))) ?_
                refine ih11 _ _ _ ?_ ?_
                · omega
                · skip
                  refine ⟨?_, ?_, ?_, ?_, ?_, ?_⟩
                  · refine jvu87 ?_ (by omega) (by omega); exact hI11
                  · refine Fr.up ?_ (by first | rfl | (unfold jcH; simp; try omega)); exact hF11
                  · omega
                  · omega
                  · omega
                  · first | omega | (rw [Int.sub_self]; rfl)
          · skip
            refine g_iinc_5 (M := mX11_holds) (pc := 72) dX11_holds_72 (k := ?_)
            refine g_aload_n (M := mX11_holds) (pc := 75) dX11_holds_75 rfl (k := ?_)
            refine g_getr (M := mX11_holds) (pc := 76) (by rfl) fX11_27 kX11_92 dX11_holds_76 (by rfl) (kk := ?_)
            refine g_iload (M := mX11_holds) (pc := 79) dX11_holds_79 rfl (k := ?_)
            refine g_iconst (M := mX11_holds) (pc := 81) dX11_holds_81 (k := ?_)
            refine g_isub (M := mX11_holds) (pc := 82) dX11_holds_82 (k := ?_)
            refine g_iload (M := mX11_holds) (pc := 83) dX11_holds_83 rfl (k := ?_)
            refine g_bipush (M := mX11_holds) (pc := 85) dX11_holds_85 (k := ?_)
            refine g_icmp_ne (M := mX11_holds) (pc := 87) (tgt := 120) (by omega) (by omega) dX11_holds_87 (k1 := fun h87 => ?_) (k2 := fun h87 => ?_)
            · skip
              refine g_aload_n (M := mX11_holds) (pc := 120) dX11_holds_120 rfl (k := ?_)
              refine g_getr (M := mX11_holds) (pc := 121) (by rfl) fX11_27 kX11_92 dX11_holds_121 (by rfl) (kk := ?_)
              refine g_iload (M := mX11_holds) (pc := 124) dX11_holds_124 rfl (k := ?_)
              refine g_iconst (M := mX11_holds) (pc := 126) dX11_holds_126 (k := ?_)
              refine g_isub (M := mX11_holds) (pc := 127) dX11_holds_127 (k := ?_)
              refine g_zald (M := mX11_holds) (pc := 128) (by rfl) (by omega) (by omega) dX11_holds_128 (kk := fun hr128 => ?_)
              have hb128 := jv87_0 hI11 ((n + (-1)) - 1) (by omega) (by omega)
              refine g_if_ne (M := mX11_holds) (pc := 129) (tgt := 142) (by omega) dX11_holds_129 (k1 := fun h129 => ?_) (k2 := fun h129 => ?_)
              · skip
                refine g_iconst (M := mX11_holds) (pc := 142) dX11_holds_142 (k := ?_)
                refine g_goto (M := mX11_holds) (pc := 143) (tgt := 147) dX11_holds_143 (k := ?_)
                refine g_zast (M := mX11_holds) (pc := 147) (by rfl) (by omega) (by omega) (by omega) dX11_holds_147 (kk := ?_)
                refine g_goto (M := mX11_holds) (pc := 148) (tgt := 249) dX11_holds_148 (k := ?_)
                refine g_iinc_6 (M := mX11_holds) (pc := 249) dX11_holds_249 (k := ?_)
                refine g_goto (M := mX11_holds) (pc := 252) (tgt := 11) dX11_holds_252 (k := ?_)
                refine g_less (leL_s (leL_s (leL_s (leL_s (leL_s (leL_s (leL_s (leL_n (leL_n (leL_n leL_0)))))))))) ?_
                refine ih11 _ _ _ ?_ ?_
                · omega
                · skip
                  refine ⟨?_, ?_, ?_, ?_, ?_, ?_⟩
                  · refine jvu87 ?_ (by omega) (by omega); exact hI11
                  · refine Fr.up ?_ (by first | rfl | (unfold jcH; simp; try omega)); exact hF11
                  · omega
                  · omega
                  · omega
                  · first | omega | (rw [Int.sub_self]; rfl)
              · skip
                refine g_aload_n (M := mX11_holds) (pc := 132) dX11_holds_132 rfl (k := ?_)
                refine g_getr (M := mX11_holds) (pc := 133) (by rfl) fX11_27 kX11_92 dX11_holds_133 (by rfl) (kk := ?_)
                refine g_iload (M := mX11_holds) (pc := 136) dX11_holds_136 rfl (k := ?_)
                refine g_zald (M := mX11_holds) (pc := 138) (by rfl) (by omega) (by omega) dX11_holds_138 (kk := fun hr138 => ?_)
                have hb138 := jv87_0 hI11 (n + (-1)) (by omega) (by omega)
                refine g_if_eq (M := mX11_holds) (pc := 139) (tgt := 146) (by omega) dX11_holds_139 (k1 := fun h139 => ?_) (k2 := fun h139 => ?_)
                · skip
                  refine g_iconst (M := mX11_holds) (pc := 146) dX11_holds_146 (k := ?_)
                  refine g_zast (M := mX11_holds) (pc := 147) (by rfl) (by omega) (by omega) (by omega) dX11_holds_147 (kk := ?_)
                  refine g_goto (M := mX11_holds) (pc := 148) (tgt := 249) dX11_holds_148 (k := ?_)
                  refine g_iinc_6 (M := mX11_holds) (pc := 249) dX11_holds_249 (k := ?_)
                  refine g_goto (M := mX11_holds) (pc := 252) (tgt := 11) dX11_holds_252 (k := ?_)
                  refine g_less (leL_s (leL_s (leL_s (leL_s (leL_s (leL_s (leL_s (leL_n (leL_n (leL_n leL_0)))))))))) ?_
                  refine ih11 _ _ _ ?_ ?_
                  · omega
                  · skip
                    refine ⟨?_, ?_, ?_, ?_, ?_, ?_⟩
                    · refine jvu87 ?_ (by omega) (by omega); exact hI11
                    · refine Fr.up ?_ (by first | rfl | (unfold jcH; simp; try omega)); exact hF11
                    · omega
                    · omega
                    · omega
                    · first | omega | (rw [Int.sub_self]; rfl)
                · skip
                  refine g_iconst (M := mX11_holds) (pc := 142) dX11_holds_142 (k := ?_)
                  refine g_goto (M := mX11_holds) (pc := 143) (tgt := 147) dX11_holds_143 (k := ?_)
                  refine g_zast (M := mX11_holds) (pc := 147) (by rfl) (by omega) (by omega) (by omega) dX11_holds_147 (kk := ?_)
                  refine g_goto (M := mX11_holds) (pc := 148) (tgt := 249) dX11_holds_148 (k := ?_)
                  refine g_iinc_6 (M := mX11_holds) (pc := 249) dX11_holds_249 (k := ?_)
                  refine g_goto (M := mX11_holds) (pc := 252) (tgt := 11) dX11_holds_252 (k := ?_)
                  refine g_less (leL_s (leL_s (leL_s (leL_s (leL_s (leL_s (leL_s (leL_n (leL_n (leL_n leL_0)))))))))) ?_
                  refine ih11 _ _ _ ?_ ?_
                  · omega
                  · skip
                    refine ⟨?_, ?_, ?_, ?_, ?_, ?_⟩
                    · refine jvu87 ?_ (by omega) (by omega); exact hI11
                    · refine Fr.up ?_ (by first | rfl | (unfold jcH; simp; try omega)); exact hF11
                    · omega
                    · omega
                    · omega
                    · first | omega | (rw [Int.sub_self]; rfl)
            · skip
              refine g_aload_n (M := mX11_holds) (pc := 90) dX11_holds_90 rfl (k := ?_)
              refine g_getr (M := mX11_holds) (pc := 91) (by rfl) fX11_27 kX11_92 dX11_holds_91 (by rfl) (kk := ?_)
              refine g_iload (M := mX11_holds) (pc := 94) dX11_holds_94 rfl (k := ?_)
              refine g_iconst (M := mX11_holds) (pc := 96) dX11_holds_96 (k := ?_)
              refine g_isub (M := mX11_holds) (pc := 97) dX11_holds_97 (k := ?_)
              refine g_zald (M := mX11_holds) (pc := 98) (by rfl) (by omega) (by omega) dX11_holds_98 (kk := fun hr98 => ?_)
              have hb98 := jv87_0 hI11 ((n + (-1)) - 1) (by omega) (by omega)
              refine g_if_eq (M := mX11_holds) (pc := 99) (tgt := 116) (by omega) dX11_holds_99 (k1 := fun h99 => ?_) (k2 := fun h99 => ?_)
              · skip
                refine g_iconst (M := mX11_holds) (pc := 116) dX11_holds_116 (k := ?_)
                refine g_goto (M := mX11_holds) (pc := 117) (tgt := 147) dX11_holds_117 (k := ?_)
                refine g_zast (M := mX11_holds) (pc := 147) (by rfl) (by omega) (by omega) (by omega) dX11_holds_147 (kk := ?_)
                refine g_goto (M := mX11_holds) (pc := 148) (tgt := 249) dX11_holds_148 (k := ?_)
                refine g_iinc_6 (M := mX11_holds) (pc := 249) dX11_holds_249 (k := ?_)
                refine g_goto (M := mX11_holds) (pc := 252) (tgt := 11) dX11_holds_252 (k := ?_)
                refine g_less (leL_s (leL_s (leL_s (leL_s (leL_s (leL_s (leL_s (leL_n (leL_n (leL_n leL_0)))))))))) ?_
                refine ih11 _ _ _ ?_ ?_
                · omega
                · skip
                  refine ⟨?_, ?_, ?_, ?_, ?_, ?_⟩
                  · refine jvu87 ?_ (by omega) (by omega); exact hI11
                  · refine Fr.up ?_ (by first | rfl | (unfold jcH; simp; try omega)); exact hF11
                  · omega
                  · omega
                  · omega
                  · first | omega | (rw [Int.sub_self]; rfl)
              · skip
                refine g_aload_n (M := mX11_holds) (pc := 102) dX11_holds_102 rfl (k := ?_)
                refine g_getr (M := mX11_holds) (pc := 103) (by rfl) fX11_27 kX11_92 dX11_holds_103 (by rfl) (kk := ?_)
                refine g_iload (M := mX11_holds) (pc := 106) dX11_holds_106 rfl (k := ?_)
                refine g_zald (M := mX11_holds) (pc := 108) (by rfl) (by omega) (by omega) dX11_holds_108 (kk := fun hr108 => ?_)
                have hb108 := jv87_0 hI11 (n + (-1)) (by omega) (by omega)
                refine g_if_eq (M := mX11_holds) (pc := 109) (tgt := 116) (by omega) dX11_holds_109 (k1 := fun h109 => ?_) (k2 := fun h109 => ?_)
                · skip
                  refine g_iconst (M := mX11_holds) (pc := 116) dX11_holds_116 (k := ?_)
                  refine g_goto (M := mX11_holds) (pc := 117) (tgt := 147) dX11_holds_117 (k := ?_)
                  refine g_zast (M := mX11_holds) (pc := 147) (by rfl) (by omega) (by omega) (by omega) dX11_holds_147 (kk := ?_)
                  refine g_goto (M := mX11_holds) (pc := 148) (tgt := 249) dX11_holds_148 (k := ?_)
                  refine g_iinc_6 (M := mX11_holds) (pc := 249) dX11_holds_249 (k := ?_)
                  refine g_goto (M := mX11_holds) (pc := 252) (tgt := 11) dX11_holds_252 (k := ?_)
                  refine g_less (leL_s (leL_s (leL_s (leL_s (leL_s (leL_s (leL_s (leL_n (leL_n (leL_n leL_0)))))))))) ?_
                  refine ih11 _ _ _ ?_ ?_
                  · omega
                  · skip
                    refine ⟨?_, ?_, ?_, ?_, ?_, ?_⟩
                    · refine jvu87 ?_ (by omega) (by omega); exact hI11
                    · refine Fr.up ?_ (by first | rfl | (unfold jcH; simp; try omega)); exact hF11
                    · omega
                    · omega
                    · omega
                    · first | omega | (rw [Int.sub_self]; rfl)
                · skip
                  refine g_iconst (M := mX11_holds) (pc := 112) dX11_holds_112 (k := ?_)
                  refine g_goto (M := mX11_holds) (pc := 113) (tgt := 147) dX11_holds_113 (k := ?_)
                  refine g_zast (M := mX11_holds) (pc := 147) (by rfl) (by omega) (by omega) (by omega) dX11_holds_147 (kk := ?_)
                  refine g_goto (M := mX11_holds) (pc := 148) (tgt := 249) dX11_holds_148 (k := ?_)
                  refine g_iinc_6 (M := mX11_holds) (pc := 249) dX11_holds_249 (k := ?_)
                  refine g_goto (M := mX11_holds) (pc := 252) (tgt := 11) dX11_holds_252 (k := ?_)
                  refine g_less (leL_s (leL_s (leL_s (leL_s (leL_s (leL_s (leL_s (leL_n (leL_n (leL_n leL_0)))))))))) ?_
                  refine ih11 _ _ _ ?_ ?_
                  · omega
                  · skip
                    refine ⟨?_, ?_, ?_, ?_, ?_, ?_⟩
                    · refine jvu87 ?_ (by omega) (by omega); exact hI11
                    · refine Fr.up ?_ (by first | rfl | (unfold jcH; simp; try omega)); exact hF11
                    · omega
                    · omega
                    · omega
                    · first | omega | (rw [Int.sub_self]; rfl)
        · skip
          refine g_aload_n (M := mX11_holds) (pc := 38) dX11_holds_38 rfl (k := ?_)
          refine g_getr (M := mX11_holds) (pc := 39) (by rfl) fX11_27 kX11_92 dX11_holds_39 (by rfl) (kk := ?_)
          refine g_iload (M := mX11_holds) (pc := 42) dX11_holds_42 rfl (k := ?_)
          refine g_iconst (M := mX11_holds) (pc := 44) dX11_holds_44 (k := ?_)
          refine g_isub (M := mX11_holds) (pc := 45) dX11_holds_45 (k := ?_)
          refine g_aload_n (M := mX11_holds) (pc := 46) dX11_holds_46 rfl (k := ?_)
          refine g_getr (M := mX11_holds) (pc := 47) (by rfl) fX11_27 kX11_92 dX11_holds_47 (by rfl) (kk := ?_)
          refine g_iload (M := mX11_holds) (pc := 50) dX11_holds_50 rfl (k := ?_)
          refine g_iconst (M := mX11_holds) (pc := 52) dX11_holds_52 (k := ?_)
          refine g_isub (M := mX11_holds) (pc := 53) dX11_holds_53 (k := ?_)
          refine g_zald (M := mX11_holds) (pc := 54) (by rfl) (by omega) (by omega) dX11_holds_54 (kk := fun hr54 => ?_)
          have hb54 := jv87_0 hI11 (n - 1) (by omega) (by omega)
          refine g_if_ne (M := mX11_holds) (pc := 55) (tgt := 62) (by omega) dX11_holds_55 (k1 := fun h55 => ?_) (k2 := fun h55 => ?_)
          · skip
            refine g_iconst (M := mX11_holds) (pc := 62) dX11_holds_62 (k := ?_)
            refine g_zast (M := mX11_holds) (pc := 63) (by rfl) (by omega) (by omega) (by omega) dX11_holds_63 (kk := ?_)
            refine g_goto (M := mX11_holds) (pc := 64) (tgt := 249) dX11_holds_64 (k := ?_)
            refine g_iinc_6 (M := mX11_holds) (pc := 249) dX11_holds_249 (k := ?_)
            refine g_goto (M := mX11_holds) (pc := 252) (tgt := 11) dX11_holds_252 (k := ?_)
            refine g_less (leL_s (leL_s (leL_s (leL_s (leL_s (leL_s (leL_s (leL_n (leL_n (leL_n leL_0)))))))))) ?_
            refine ih11 _ _ _ ?_ ?_
            · omega
            · skip
              refine ⟨?_, ?_, ?_, ?_, ?_, ?_⟩
              · refine jvu87 ?_ (by omega) (by omega); exact hI11
              · refine Fr.up ?_ (by first | rfl | (unfold jcH; simp; try omega)); exact hF11
              · omega
              · omega
              · omega
              · first | omega | (rw [Int.sub_self]; rfl)
          · skip
            refine g_iconst (M := mX11_holds) (pc := 58) dX11_holds_58 (k := ?_)
            refine g_goto (M := mX11_holds) (pc := 59) (tgt := 63) dX11_holds_59 (k := ?_)
            refine g_zast (M := mX11_holds) (pc := 63) (by rfl) (by omega) (by omega) (by omega) dX11_holds_63 (kk := ?_)
            refine g_goto (M := mX11_holds) (pc := 64) (tgt := 249) dX11_holds_64 (k := ?_)
            refine g_iinc_6 (M := mX11_holds) (pc := 249) dX11_holds_249 (k := ?_)
            refine g_goto (M := mX11_holds) (pc := 252) (tgt := 11) dX11_holds_252 (k := ?_)
            refine g_less (leL_s (leL_s (leL_s (leL_s (leL_s (leL_s (leL_s (leL_n (leL_n (leL_n leL_0)))))))))) ?_
            refine ih11 _ _ _ ?_ ?_
            · omega
            · skip
              refine ⟨?_, ?_, ?_, ?_, ?_, ?_⟩
              · refine jvu87 ?_ (by omega) (by omega); exact hI11
              · refine Fr.up ?_ (by first | rfl | (unfold jcH; simp; try omega)); exact hF11
              · omega
              · omega
              · omega
              · first | omega | (rw [Int.sub_self]; rfl)
  refine loop11 _ _ _ _ (Nat.lt_succ_self _) ?_
  refine ⟨?_, ?_, ?_, ?_, ?_, ?_⟩
  · exact hI
  · exact (Fr.rf)
  · omega
  · omega
  · omega
  · first | omega | (rw [Int.sub_self]; rfl)
set_option maxHeartbeats 4000000 in
set_option maxRecDepth 20000 in
theorem c_X11_sumOf (Γ : KT) (t : Nat) (σ : Nat → Int → Int) (w : Int) (f : Int) (h : Int) (u : Int) (o : Int) (hI : InvJ σ) (hS : JS σ) (hw : 0 ≤ w ∧ w ≤ 1) (hf : R32 f) (hh : 0 ≤ h ∧ h < 6) (hu : R32 u) (ho : 0 ≤ o ∧ o ≤ 990) : Ct Γ mX11_sumOf 3 (0, 0) [vR Γ 69, vI w, vI f, vI h, vI u, vI o] (113, ρT t, σ) (pI 113 (ρT t) (fun r σ' => (0 ≤ r ∧ r ≤ 990) ∧ (InvJ σ') ∧ (Fr jcH σ σ'))) := by
  refine Ct.of rfl (Nat.le_of_ble_eq_true rfl) ?_
  show G Γ mX11_sumOf 3 (0, 0) _ (0, 0) 0 [some (vR Γ 69), some (vI w), some (vI f), some (vI h), some (vI u), some (vI o), none, none, none] [] (113, ρT t, σ)
  have hT := JS_t hS
  have hthe := jv69_11 hI 11 (by omega) (by omega)
  have hcl : σ 69 11 < 0 ∨ (0 ≤ σ 79 (σ 69 11) ∧ σ 79 (σ 69 11) ≤ 10) := (Classical.em (σ 69 11 < 0)).imp id (fun e => jv79_0 hI _ (by omega) (by omega))
  refine g_iconst (M := mX11_sumOf) (pc := 0) dX11_sumOf_0 (k := ?_)
  refine g_istore_6 (M := mX11_sumOf) (pc := 1) dX11_sumOf_1 (k := ?_)
  refine g_iconst (M := mX11_sumOf) (pc := 3) dX11_sumOf_3 (k := ?_)
  refine g_istore_7 (M := mX11_sumOf) (pc := 4) dX11_sumOf_4 (k := ?_)
  refine g_aload_n (M := mX11_sumOf) (pc := 6) dX11_sumOf_6 rfl (k := ?_)
  refine g_cV0I (M := mX11_sumOf) (pc := 7) (c_X11_begin Γ t _ hI) qX11_begin vX11_begin sX11_begin kX11_286 dX11_sumOf_7 (kk := ?_)
  rintro r7 _ ⟨hd7, he7, e⟩; rw [e]; clear e
  refine g_istore_8 (M := mX11_sumOf) (pc := 10) dX11_sumOf_10 (k := ?_)
  have loop12 : ∀ (N : Nat) (τ12 : Nat → Int → Int) (sm : Int) (hs : Int) (q : Int), ((61 - q).toNat) < N → ((InvJ τ12) ∧ (Fr jcH σ τ12) ∧ (0 ≤ sm ∧ sm ≤ 990) ∧ (0 ≤ hs ∧ hs ≤ 1) ∧ (0 ≤ q ∧ q ≤ 60) ∧ ((σ 69 11 < 0 ∧ q = 0 ∧ sm = 0) ∨ (0 ≤ σ 69 11 ∧ 10 * σ 69 11 ≤ q ∧ q ≤ 10 * σ 69 11 + σ 79 (σ 69 11) ∧ sm ≤ 99 * (q - 10 * σ 69 11)))) → G Γ mX11_sumOf 3 (0, 0) (pI 113 (ρT t) (fun r σ' => (0 ≤ r ∧ r ≤ 990) ∧ (InvJ σ') ∧ (Fr jcH σ σ'))) (0, 0) 12 [some (vR Γ 69), some (vI w), some (vI f), some (vI h), some (vI u), some (vI o), some (vI sm), some (vI hs), some (vI q)] [] (113, ρT t, τ12) := by
    intro N
    induction N with
    | zero => intro τ12 sm hs q hmu12 hinv12; exact absurd hmu12 (Nat.not_lt_zero _)
    | succ N ih12 =>
      intro τ12 sm hs q hmu12 hinv12
      obtain ⟨hI12, hF12, hb12_sm, hb12_hs, hb12_q, hx12_0⟩ := hinv12
      refine g_iload (M := mX11_sumOf) (pc := 12) dX11_sumOf_12 rfl (k := ?_)
      refine g_aload_n (M := mX11_sumOf) (pc := 14) dX11_sumOf_14 rfl (k := ?_)
      refine g_cV0I (M := mX11_sumOf) (pc := 15) (c_X11_behind Γ t _ hI12) qX11_behind vX11_behind sX11_behind kX11_289 dX11_sumOf_15 (kk := ?_)
      rintro r15 _ ⟨hd15, he15, e⟩; rw [e]; clear e
      rw [hF12 69 11 rfl, hF12 79 _ rfl] at hd15
      refine g_icmp_ge (M := mX11_sumOf) (pc := 18) (tgt := 73) (by omega) (by omega) dX11_sumOf_18 (k1 := fun h18 => ?_) (k2 := fun h18 => ?_)
      · skip
        refine g_iload (M := mX11_sumOf) (pc := 73) dX11_sumOf_73 rfl (k := ?_)
        refine g_if_eq (M := mX11_sumOf) (pc := 75) (tgt := 83) (by omega) dX11_sumOf_75 (k1 := fun h75 => ?_) (k2 := fun h75 => ?_)
        · skip
          refine g_iload (M := mX11_sumOf) (pc := 83) dX11_sumOf_83 rfl (k := ?_)
          refine g_iret (M := mX11_sumOf) (pc := 85) rfl dX11_sumOf_85 rfl ⟨_, _, rfl, rfl, ?_⟩
          refine ⟨?_, ?_, ?_⟩
          · omega
          · exact hI12
          · exact hF12
        · skip
          refine g_iload (M := mX11_sumOf) (pc := 78) dX11_sumOf_78 rfl (k := ?_)
          refine g_goto (M := mX11_sumOf) (pc := 80) (tgt := 85) dX11_sumOf_80 (k := ?_)
          refine g_iret (M := mX11_sumOf) (pc := 85) rfl dX11_sumOf_85 rfl ⟨_, _, rfl, rfl, ?_⟩
          refine ⟨?_, ?_, ?_⟩
          · omega
          · exact hI12
          · exact hF12
      · skip
        refine g_aload_n (M := mX11_sumOf) (pc := 21) dX11_sumOf_21 rfl (k := ?_)
        refine g_getr (M := mX11_sumOf) (pc := 22) (by rfl) fX11_17 kX11_62 dX11_sumOf_22 (by rfl) (kk := ?_)
        refine g_iload (M := mX11_sumOf) (pc := 25) dX11_sumOf_25 rfl (k := ?_)
        refine g_iald (M := mX11_sumOf) (pc := 27) (by rfl) (by omega) (by omega) dX11_sumOf_27 (kk := fun hr27 => ?_)
        refine g_iload_n (M := mX11_sumOf) (pc := 28) dX11_sumOf_28 rfl (k := ?_)
        refine g_icmp_eq (M := mX11_sumOf) (pc := 29) (tgt := 35) (by omega) (by omega) dX11_sumOf_29 (k1 := fun h29 => ?_) (k2 := fun h29 => ?_)
        · skip
          refine g_iconst (M := mX11_sumOf) (pc := 35) dX11_sumOf_35 (k := ?_)
          refine g_istore_7 (M := mX11_sumOf) (pc := 36) dX11_sumOf_36 (k := ?_)
          refine g_iload (M := mX11_sumOf) (pc := 38) dX11_sumOf_38 rfl (k := ?_)
          refine g_aload_n (M := mX11_sumOf) (pc := 40) dX11_sumOf_40 rfl (k := ?_)
          refine g_iload (M := mX11_sumOf) (pc := 41) dX11_sumOf_41 rfl (k := ?_)
          refine g_iload_n (M := mX11_sumOf) (pc := 43) dX11_sumOf_43 rfl (k := ?_)
          refine g_iload_n (M := mX11_sumOf) (pc := 44) dX11_sumOf_44 rfl (k := ?_)
          refine g_iload (M := mX11_sumOf) (pc := 45) dX11_sumOf_45 rfl (k := ?_)
          refine g_cV4I (M := mX11_sumOf) (pc := 47) (c_X11_holds Γ t _ _ _ _ _ hI12 (by omega) (by omega) (by omega) (by omega) ⟨_, WFc_cong (hF12 82 _ rfl) (hF12 83 _ rfl) (fun j _ _ => hF12 84 j rfl) (JS_w hS (c := q) (by omega) (by omega) (by omega) (by have := hF12 80 q rfl; omega))⟩) qX11_holds vX11_holds sX11_holds kX11_296 dX11_sumOf_47 (kk := ?_)
          rintro r47 τ47 ⟨hi47, hI47, hG47⟩
          have hF47 : Fr jcH σ τ47 := by refine Fr.tr ?_ hG47; exact hF12
          refine g_if_eq (M := mX11_sumOf) (pc := 50) (tgt := 63) (by omega) dX11_sumOf_50 (k1 := fun h50 => ?_) (k2 := fun h50 => ?_)
          · skip
            refine g_iconst (M := mX11_sumOf) (pc := 63) dX11_sumOf_63 (k := ?_)
            refine g_iadd (M := mX11_sumOf) (pc := 64) dX11_sumOf_64 (k := ?_)
            refine g_istore_6 (M := mX11_sumOf) (pc := 65) dX11_sumOf_65 (k := ?_)
            refine g_iinc_8 (M := mX11_sumOf) (pc := 67) dX11_sumOf_67 (k := ?_)
            refine g_goto (M := mX11_sumOf) (pc := 70) (tgt := 12) dX11_sumOf_70 (k := ?_)
            refine ih12 _ _ _ _ ?_ ?_
            · omega
            · skip
              refine ⟨?_, ?_, ?_, ?_, ?_, ?_⟩
              · exact hI47
              · exact hF47
              · omega
              · omega
              · omega
              · omega
          · skip
            refine g_aload_n (M := mX11_sumOf) (pc := 53) dX11_sumOf_53 rfl (k := ?_)
            refine g_getr (M := mX11_sumOf) (pc := 54) (by rfl) fX11_18 kX11_65 dX11_sumOf_54 (by rfl) (kk := ?_)
            refine g_iload (M := mX11_sumOf) (pc := 57) dX11_sumOf_57 rfl (k := ?_)
            refine g_iald (M := mX11_sumOf) (pc := 59) (by rfl) (by omega) (by omega) dX11_sumOf_59 (kk := fun hr59 => ?_)
            have hb59 := jv81_0 hI47 q (by omega) (by omega)
            refine g_goto (M := mX11_sumOf) (pc := 60) (tgt := 64) dX11_sumOf_60 (k := ?_)
            refine g_iadd (M := mX11_sumOf) (pc := 64) dX11_sumOf_64 (k := ?_)
            refine g_istore_6 (M := mX11_sumOf) (pc := 65) dX11_sumOf_65 (k := ?_)
            refine g_iinc_8 (M := mX11_sumOf) (pc := 67) dX11_sumOf_67 (k := ?_)
            refine g_goto (M := mX11_sumOf) (pc := 70) (tgt := 12) dX11_sumOf_70 (k := ?_)
            refine ih12 _ _ _ _ ?_ ?_
            · omega
            · skip
              refine ⟨?_, ?_, ?_, ?_, ?_, ?_⟩
              · exact hI47
              · exact hF47
              · omega
              · omega
              · omega
              · omega
        · skip
          refine g_goto (M := mX11_sumOf) (pc := 32) (tgt := 67) dX11_sumOf_32 (k := ?_)
          refine g_iinc_8 (M := mX11_sumOf) (pc := 67) dX11_sumOf_67 (k := ?_)
          refine g_goto (M := mX11_sumOf) (pc := 70) (tgt := 12) dX11_sumOf_70 (k := ?_)
          refine ih12 _ _ _ _ ?_ ?_
          · omega
          · skip
            refine ⟨?_, ?_, ?_, ?_, ?_, ?_⟩
            · exact hI12
            · exact hF12
            · omega
            · omega
            · omega
            · omega
  refine loop12 _ _ _ _ _ (Nat.lt_succ_self _) ?_
  refine ⟨?_, ?_, ?_, ?_, ?_, ?_⟩
  · exact hI
  · exact (Fr.rf)
  · omega
  · omega
  · omega
  · omega
set_option maxHeartbeats 4000000 in
set_option maxRecDepth 20000 in
theorem c_X11_slowOf (Γ : KT) (t : Nat) (σ : Nat → Int → Int) (f : Int) (h : Int) (u : Int) (hI : InvJ σ) (hS : JS σ) (hf : R32 f) (hh : 0 ≤ h ∧ h < 6) (hu : R32 u) : Ct Γ mX11_slowOf 4 (0, 0) [vR Γ 69, vI f, vI h, vI u] (113, ρT t, σ) (pI 113 (ρT t) (fun r σ' => (0 ≤ r ∧ r ≤ 990) ∧ (InvJ σ') ∧ (Fr jcH σ σ'))) := by
  refine Ct.of rfl (Nat.le_of_ble_eq_true rfl) ?_
  show G Γ mX11_slowOf 4 (0, 0) _ (0, 0) 0 [some (vR Γ 69), some (vI f), some (vI h), some (vI u)] [] (113, ρT t, σ)
  refine g_aload_n (M := mX11_slowOf) (pc := 0) dX11_slowOf_0 rfl (k := ?_)
  refine g_iconst (M := mX11_slowOf) (pc := 1) dX11_slowOf_1 (k := ?_)
  refine g_iload_n (M := mX11_slowOf) (pc := 2) dX11_slowOf_2 rfl (k := ?_)
  refine g_iload_n (M := mX11_slowOf) (pc := 3) dX11_slowOf_3 rfl (k := ?_)
  refine g_iload_n (M := mX11_slowOf) (pc := 4) dX11_slowOf_4 rfl (k := ?_)
  refine g_iconst (M := mX11_slowOf) (pc := 5) dX11_slowOf_5 (k := ?_)
  refine g_cV5I (M := mX11_slowOf) (pc := 6) (c_X11_sumOf Γ t _ _ _ _ _ _ hI hS (by omega) (by omega) (by omega) (by omega) (by omega)) qX11_sumOf vX11_sumOf sX11_sumOf kX11_300 dX11_slowOf_6 (kk := ?_)
  rintro r6 τ6 ⟨hi6, hI6, hG6⟩
  have hF6 : Fr jcH σ τ6 := by refine Fr.tr ?_ hG6; exact (Fr.rf)
  refine g_iret (M := mX11_slowOf) (pc := 9) rfl dX11_slowOf_9 rfl ⟨_, _, rfl, rfl, ?_⟩
  refine ⟨?_, ?_, ?_⟩
  · omega
  · exact hI6
  · exact hF6
set_option maxHeartbeats 4000000 in
set_option maxRecDepth 20000 in
theorem c_X11_farOf (Γ : KT) (t : Nat) (σ : Nat → Int → Int) (f : Int) (h : Int) (u : Int) (hI : InvJ σ) (hS : JS σ) (hf : R32 f) (hh : 0 ≤ h ∧ h < 6) (hu : R32 u) : Ct Γ mX11_farOf 4 (0, 0) [vR Γ 69, vI f, vI h, vI u] (113, ρT t, σ) (pI 113 (ρT t) (fun r σ' => (0 ≤ r ∧ r ≤ 990) ∧ (InvJ σ') ∧ (Fr jcH σ σ'))) := by
  refine Ct.of rfl (Nat.le_of_ble_eq_true rfl) ?_
  show G Γ mX11_farOf 4 (0, 0) _ (0, 0) 0 [some (vR Γ 69), some (vI f), some (vI h), some (vI u)] [] (113, ρT t, σ)
  refine g_aload_n (M := mX11_farOf) (pc := 0) dX11_farOf_0 rfl (k := ?_)
  refine g_iconst (M := mX11_farOf) (pc := 1) dX11_farOf_1 (k := ?_)
  refine g_iload_n (M := mX11_farOf) (pc := 2) dX11_farOf_2 rfl (k := ?_)
  refine g_iload_n (M := mX11_farOf) (pc := 3) dX11_farOf_3 rfl (k := ?_)
  refine g_iload_n (M := mX11_farOf) (pc := 4) dX11_farOf_4 rfl (k := ?_)
  refine g_iconst (M := mX11_farOf) (pc := 5) dX11_farOf_5 (k := ?_)
  refine g_cV5I (M := mX11_farOf) (pc := 6) (c_X11_sumOf Γ t _ _ _ _ _ _ hI hS (by omega) (by omega) (by omega) (by omega) (by omega)) qX11_sumOf vX11_sumOf sX11_sumOf kX11_300 dX11_farOf_6 (kk := ?_)
  rintro r6 τ6 ⟨hi6, hI6, hG6⟩
  have hF6 : Fr jcH σ τ6 := by refine Fr.tr ?_ hG6; exact (Fr.rf)
  refine g_iret (M := mX11_farOf) (pc := 9) rfl dX11_farOf_9 rfl ⟨_, _, rfl, rfl, ?_⟩
  refine ⟨?_, ?_, ?_⟩
  · omega
  · exact hI6
  · exact hF6
