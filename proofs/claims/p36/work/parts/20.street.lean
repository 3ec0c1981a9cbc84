set_option maxHeartbeats 4000000 in
set_option maxRecDepth 20000 in
theorem c_X10_isUpTo (Γ : KT) (t : Nat) (σ : Nat → Int → Int) (n last : Int)  (hn : R32 n) (hl : R32 last) : Ct Γ mX10_isUpTo 1 (0, 0) [vI n, vI last] (113, ρT t, σ) (pI 113 (ρT t) (fun r σ' => r = b2 (0 ≤ n ∧ n ≤ last) ∧ σ' = σ)) := by
  refine Ct.of rfl (Nat.le_of_ble_eq_true rfl) ?_
  show G Γ mX10_isUpTo 1 (0, 0) _ (0, 0) 0 [some (vI n), some (vI last)] [] (113, ρT t, σ)
  refine g_iload_n (M := mX10_isUpTo) (pc := 0) dX10_isUpTo_0 rfl (k := ?_)
  refine g_if_lt (M := mX10_isUpTo) (pc := 1) (tgt := 13) (by omega) dX10_isUpTo_1 (k1 := fun h1 => ?_) (k2 := fun h1 => ?_)
  · skip
    refine g_iconst (M := mX10_isUpTo) (pc := 13) dX10_isUpTo_13 (k := ?_)
    refine g_zret (M := mX10_isUpTo) (pc := 14) (by omega) rfl dX10_isUpTo_14 rfl ⟨_, _, rfl, rfl, ?_⟩
    exact ⟨by unfold b2; split <;> omega, rfl⟩
  · skip
    refine g_iload_n (M := mX10_isUpTo) (pc := 4) dX10_isUpTo_4 rfl (k := ?_)
    refine g_iload_n (M := mX10_isUpTo) (pc := 5) dX10_isUpTo_5 rfl (k := ?_)
    refine g_icmp_gt (M := mX10_isUpTo) (pc := 6) (tgt := 13) (by omega) (by omega) dX10_isUpTo_6 (k1 := fun h6 => ?_) (k2 := fun h6 => ?_)
    · skip
      refine g_iconst (M := mX10_isUpTo) (pc := 13) dX10_isUpTo_13 (k := ?_)
      refine g_zret (M := mX10_isUpTo) (pc := 14) (by omega) rfl dX10_isUpTo_14 rfl ⟨_, _, rfl, rfl, ?_⟩
      exact ⟨by unfold b2; split <;> omega, rfl⟩
    · skip
      refine g_iconst (M := mX10_isUpTo) (pc := 9) dX10_isUpTo_9 (k := ?_)
      refine g_goto (M := mX10_isUpTo) (pc := 10) (tgt := 14) dX10_isUpTo_10 (k := ?_)
      refine g_zret (M := mX10_isUpTo) (pc := 14) (by omega) rfl dX10_isUpTo_14 rfl ⟨_, _, rfl, rfl, ?_⟩
      exact ⟨by unfold b2; split <;> omega, rfl⟩
set_option maxHeartbeats 4000000 in
set_option maxRecDepth 20000 in
theorem c_X5_hasHouse (Γ : KT) (t : Nat) (σ : Nat → Int → Int) (h : Int)  (hh : R32 h) : Ct Γ mX5_hasHouse 1 (0, 0) [vR Γ 33, vI h] (113, ρT t, σ) (pI 113 (ρT t) (fun r σ' => r = b2 (0 ≤ h ∧ h < σ 33 0) ∧ σ' = σ)) := by
  refine Ct.of rfl (Nat.le_of_ble_eq_true rfl) ?_
  show G Γ mX5_hasHouse 1 (0, 0) _ (0, 0) 0 [some (vR Γ 33), some (vI h)] [] (113, ρT t, σ)
  refine g_iload_n (M := mX5_hasHouse) (pc := 0) dX5_hasHouse_0 rfl (k := ?_)
  refine g_if_lt (M := mX5_hasHouse) (pc := 1) (tgt := 16) (by omega) dX5_hasHouse_1 (k1 := fun h1 => ?_) (k2 := fun h1 => ?_)
  · skip
    refine g_iconst (M := mX5_hasHouse) (pc := 16) dX5_hasHouse_16 (k := ?_)
    refine g_zret (M := mX5_hasHouse) (pc := 17) (by omega) rfl dX5_hasHouse_17 rfl ⟨_, _, rfl, rfl, ?_⟩
    exact ⟨by unfold b2; split <;> omega, rfl⟩
  · skip
    refine g_iload_n (M := mX5_hasHouse) (pc := 4) dX5_hasHouse_4 rfl (k := ?_)
    refine g_aload_n (M := mX5_hasHouse) (pc := 5) dX5_hasHouse_5 rfl (k := ?_)
    refine g_get (M := mX5_hasHouse) (pc := 6) (ji := 0) (by rfl) fX5_0 kX5_55 dX5_hasHouse_6 (kk := fun hr6 => ?_)
    refine g_icmp_ge (M := mX5_hasHouse) (pc := 9) (tgt := 16) (by omega) (by omega) dX5_hasHouse_9 (k1 := fun h9 => ?_) (k2 := fun h9 => ?_)
    · skip
      refine g_iconst (M := mX5_hasHouse) (pc := 16) dX5_hasHouse_16 (k := ?_)
      refine g_zret (M := mX5_hasHouse) (pc := 17) (by omega) rfl dX5_hasHouse_17 rfl ⟨_, _, rfl, rfl, ?_⟩
      exact ⟨by unfold b2; split <;> omega, rfl⟩
    · skip
      refine g_iconst (M := mX5_hasHouse) (pc := 12) dX5_hasHouse_12 (k := ?_)
      refine g_goto (M := mX5_hasHouse) (pc := 13) (tgt := 17) dX5_hasHouse_13 (k := ?_)
      refine g_zret (M := mX5_hasHouse) (pc := 17) (by omega) rfl dX5_hasHouse_17 rfl ⟨_, _, rfl, rfl, ?_⟩
      exact ⟨by unfold b2; split <;> omega, rfl⟩
set_option maxHeartbeats 4000000 in
set_option maxRecDepth 20000 in
theorem c_X5_hasFolk (Γ : KT) (t : Nat) (σ : Nat → Int → Int) (f : Int)  (hf : R32 f) : Ct Γ mX5_hasFolk 1 (0, 0) [vR Γ 33, vI f] (113, ρT t, σ) (pI 113 (ρT t) (fun r σ' => r = b2 (0 ≤ f ∧ f < σ 33 6) ∧ σ' = σ)) := by
  refine Ct.of rfl (Nat.le_of_ble_eq_true rfl) ?_
  show G Γ mX5_hasFolk 1 (0, 0) _ (0, 0) 0 [some (vR Γ 33), some (vI f)] [] (113, ρT t, σ)
  refine g_iload_n (M := mX5_hasFolk) (pc := 0) dX5_hasFolk_0 rfl (k := ?_)
  refine g_if_lt (M := mX5_hasFolk) (pc := 1) (tgt := 16) (by omega) dX5_hasFolk_1 (k1 := fun h1 => ?_) (k2 := fun h1 => ?_)
  · skip
    refine g_iconst (M := mX5_hasFolk) (pc := 16) dX5_hasFolk_16 (k := ?_)
    refine g_zret (M := mX5_hasFolk) (pc := 17) (by omega) rfl dX5_hasFolk_17 rfl ⟨_, _, rfl, rfl, ?_⟩
    exact ⟨by unfold b2; split <;> omega, rfl⟩
  · skip
    refine g_iload_n (M := mX5_hasFolk) (pc := 4) dX5_hasFolk_4 rfl (k := ?_)
    refine g_aload_n (M := mX5_hasFolk) (pc := 5) dX5_hasFolk_5 rfl (k := ?_)
    refine g_get (M := mX5_hasFolk) (pc := 6) (ji := 6) (by rfl) fX5_6 kX5_58 dX5_hasFolk_6 (kk := fun hr6 => ?_)
    refine g_icmp_ge (M := mX5_hasFolk) (pc := 9) (tgt := 16) (by omega) (by omega) dX5_hasFolk_9 (k1 := fun h9 => ?_) (k2 := fun h9 => ?_)
    · skip
      refine g_iconst (M := mX5_hasFolk) (pc := 16) dX5_hasFolk_16 (k := ?_)
      refine g_zret (M := mX5_hasFolk) (pc := 17) (by omega) rfl dX5_hasFolk_17 rfl ⟨_, _, rfl, rfl, ?_⟩
      exact ⟨by unfold b2; split <;> omega, rfl⟩
    · skip
      refine g_iconst (M := mX5_hasFolk) (pc := 12) dX5_hasFolk_12 (k := ?_)
      refine g_goto (M := mX5_hasFolk) (pc := 13) (tgt := 17) dX5_hasFolk_13 (k := ?_)
      refine g_zret (M := mX5_hasFolk) (pc := 17) (by omega) rfl dX5_hasFolk_17 rfl ⟨_, _, rfl, rfl, ?_⟩
      exact ⟨by unfold b2; split <;> omega, rfl⟩
set_option maxHeartbeats 4000000 in
set_option maxRecDepth 20000 in
theorem c_X5_settle (Γ : KT) (t : Nat) (σ : Nat → Int → Int) (h k v : Int)  (hh : 0 ≤ h ∧ h < 6) (hk : R32 k) (hv : R32 v) : Ct Γ mX5_settle 1 (0, 0) [vR Γ 33, vI h, vI k, vI v] (113, ρT t, σ) (pV 113 (ρT t) (fun σ' => σ' = up (up (up σ 34 h k) 35 h v) 38 h 15)) := by
  refine Ct.of rfl (Nat.le_of_ble_eq_true rfl) ?_
  show G Γ mX5_settle 1 (0, 0) _ (0, 0) 0 [some (vR Γ 33), some (vI h), some (vI k), some (vI v)] [] (113, ρT t, σ)
  refine g_aload_n (M := mX5_settle) (pc := 0) dX5_settle_0 rfl (k := ?_)
  refine g_getr (M := mX5_settle) (pc := 1) (by rfl) fX5_1 kX5_9 dX5_settle_1 (by rfl) (kk := ?_)
  refine g_iload_n (M := mX5_settle) (pc := 4) dX5_settle_4 rfl (k := ?_)
  refine g_iload_n (M := mX5_settle) (pc := 5) dX5_settle_5 rfl (k := ?_)
  refine g_iast (M := mX5_settle) (pc := 6) (by rfl) (by omega) (by omega) (by omega) dX5_settle_6 (kk := ?_)
  refine g_aload_n (M := mX5_settle) (pc := 7) dX5_settle_7 rfl (k := ?_)
  refine g_getr (M := mX5_settle) (pc := 8) (by rfl) fX5_2 kX5_15 dX5_settle_8 (by rfl) (kk := ?_)
  refine g_iload_n (M := mX5_settle) (pc := 11) dX5_settle_11 rfl (k := ?_)
  refine g_iload_n (M := mX5_settle) (pc := 12) dX5_settle_12 rfl (k := ?_)
  refine g_iast (M := mX5_settle) (pc := 13) (by rfl) (by omega) (by omega) (by omega) dX5_settle_13 (kk := ?_)
  refine g_aload_n (M := mX5_settle) (pc := 14) dX5_settle_14 rfl (k := ?_)
  refine g_getr (M := mX5_settle) (pc := 15) (by rfl) fX5_5 kX5_24 dX5_settle_15 (by rfl) (kk := ?_)
  refine g_iload_n (M := mX5_settle) (pc := 18) dX5_settle_18 rfl (k := ?_)
  refine g_bipush (M := mX5_settle) (pc := 19) dX5_settle_19 (k := ?_)
  refine g_iast (M := mX5_settle) (pc := 21) (by rfl) (by omega) (by omega) (by omega) dX5_settle_21 (kk := ?_)
  refine g_vret (M := mX5_settle) (pc := 22) rfl dX5_settle_22 rfl ⟨_, rfl, rfl, ?_⟩
  rfl
set_option maxHeartbeats 4000000 in
set_option maxRecDepth 20000 in
theorem c_X4_add_42 (Γ : KT) (t : Nat) (σ : Nat → Int → Int) (x y : Int)  (hx : R32 x) (hy : R32 y) (h0 : 0 ≤ σ 42 2) : Ct Γ mX4_add 1 (0, 0) [vR Γ 42, vI x, vI y] (113, ρT t, σ) (pI 113 (ρT t) (fun r σ' => (8 ≤ σ 42 2 ∧ r = -4 ∧ σ' = σ) ∨ (σ 42 2 < 8 ∧ r = σ 42 2 + 1 ∧ σ' = up (up (up σ 43 (σ 42 2) x) 44 (σ 42 2) y) 42 2 (σ 42 2 + 1)))) := by
  refine Ct.of rfl (Nat.le_of_ble_eq_true rfl) ?_
  show G Γ mX4_add 1 (0, 0) _ (0, 0) 0 [some (vR Γ 42), some (vI x), some (vI y)] [] (113, ρT t, σ)
  refine g_aload_n (M := mX4_add) (pc := 0) dX4_add_0 rfl (k := ?_)
  refine g_get (M := mX4_add) (pc := 1) (ji := 2) (by rfl) fX4_2 kX4_24 dX4_add_1 (kk := fun hr1 => ?_)
  refine g_aload_n (M := mX4_add) (pc := 4) dX4_add_4 rfl (k := ?_)
  refine g_getr (M := mX4_add) (pc := 5) (by rfl) fX4_0 kX4_15 dX4_add_5 (by rfl) (kk := ?_)
  refine g_alen (M := mX4_add) (pc := 8) (by rfl) (by decide) dX4_add_8 (kk := ?_)
  refine g_icmp_lt (M := mX4_add) (pc := 9) (tgt := 15) (by omega) (by omega) dX4_add_9 (k1 := fun h9 => ?_) (k2 := fun h9 => ?_)
  · skip
    refine g_aload_n (M := mX4_add) (pc := 15) dX4_add_15 rfl (k := ?_)
    refine g_getr (M := mX4_add) (pc := 16) (by rfl) fX4_0 kX4_15 dX4_add_16 (by rfl) (kk := ?_)
    refine g_aload_n (M := mX4_add) (pc := 19) dX4_add_19 rfl (k := ?_)
    refine g_get (M := mX4_add) (pc := 20) (ji := 2) (by rfl) fX4_2 kX4_24 dX4_add_20 (kk := fun hr20 => ?_)
    refine g_iload_n (M := mX4_add) (pc := 23) dX4_add_23 rfl (k := ?_)
    refine g_iast (M := mX4_add) (pc := 24) (by rfl) (by omega) (by omega) (by omega) dX4_add_24 (kk := ?_)
    refine g_aload_n (M := mX4_add) (pc := 25) dX4_add_25 rfl (k := ?_)
    refine g_getr (M := mX4_add) (pc := 26) (by rfl) fX4_1 kX4_21 dX4_add_26 (by rfl) (kk := ?_)
    refine g_aload_n (M := mX4_add) (pc := 29) dX4_add_29 rfl (k := ?_)
    refine g_get (M := mX4_add) (pc := 30) (ji := 2) (by rfl) fX4_2 kX4_24 dX4_add_30 (kk := fun hr30 => ?_)
    simp only [up_same, up_cell, up_slot, ne_eq, not_false_eq_true, Nat.reduceEqDiff, Int.reduceEq, reduceCtorEq, Nat.reduceAdd, Int.reduceAdd, Int.reduceSub] at hr30 ⊢
    refine g_iload_n (M := mX4_add) (pc := 33) dX4_add_33 rfl (k := ?_)
    refine g_iast (M := mX4_add) (pc := 34) (by rfl) (by omega) (by omega) (by omega) dX4_add_34 (kk := ?_)
    refine g_aload_n (M := mX4_add) (pc := 35) dX4_add_35 rfl (k := ?_)
    refine g_dupR (M := mX4_add) (pc := 36) dX4_add_36 (k := ?_)
    refine g_get (M := mX4_add) (pc := 37) (ji := 2) (by rfl) fX4_2 kX4_24 dX4_add_37 (kk := fun hr37 => ?_)
    simp only [up_same, up_cell, up_slot, ne_eq, not_false_eq_true, Nat.reduceEqDiff, Int.reduceEq, reduceCtorEq, Nat.reduceAdd, Int.reduceAdd, Int.reduceSub] at hr37 ⊢
    refine g_iconst (M := mX4_add) (pc := 40) dX4_add_40 (k := ?_)
    refine g_iadd (M := mX4_add) (pc := 41) dX4_add_41 (k := ?_)
    refine g_put (M := mX4_add) (pc := 42) (ji := 2) (by rfl) fX4_2 kX4_24 dX4_add_42 (by omega) (kk := ?_)
    refine g_aload_n (M := mX4_add) (pc := 45) dX4_add_45 rfl (k := ?_)
    refine g_get (M := mX4_add) (pc := 46) (ji := 2) (by rfl) fX4_2 kX4_24 dX4_add_46 (kk := fun hr46 => ?_)
    simp only [up_same, up_cell, up_slot, ne_eq, not_false_eq_true, Nat.reduceEqDiff, Int.reduceEq, reduceCtorEq, Nat.reduceAdd, Int.reduceAdd, Int.reduceSub] at hr46 ⊢
    refine g_iret (M := mX4_add) (pc := 49) rfl dX4_add_49 rfl ⟨_, _, rfl, rfl, ?_⟩
    first | exact Or.inl ⟨by omega, rfl, rfl⟩ | exact Or.inr ⟨by omega, rfl, rfl⟩
  · skip
    refine g_bipush (M := mX4_add) (pc := 12) dX4_add_12 (k := ?_)
    refine g_iret (M := mX4_add) (pc := 14) rfl dX4_add_14 rfl ⟨_, _, rfl, rfl, ?_⟩
    first | exact Or.inl ⟨by omega, rfl, rfl⟩ | exact Or.inr ⟨by omega, rfl, rfl⟩
set_option maxHeartbeats 4000000 in
set_option maxRecDepth 20000 in
theorem c_X4_empty_42 (Γ : KT) (t : Nat) (σ : Nat → Int → Int)  : Ct Γ mX4_empty 1 (0, 0) [vR Γ 42] (113, ρT t, σ) (pI 113 (ρT t) (fun r σ' => r = 0 ∧ σ' = up σ 42 2 0)) := by
  refine Ct.of rfl (Nat.le_of_ble_eq_true rfl) ?_
  show G Γ mX4_empty 1 (0, 0) _ (0, 0) 0 [some (vR Γ 42)] [] (113, ρT t, σ)
  refine g_aload_n (M := mX4_empty) (pc := 0) dX4_empty_0 rfl (k := ?_)
  refine g_iconst (M := mX4_empty) (pc := 1) dX4_empty_1 (k := ?_)
  refine g_put (M := mX4_empty) (pc := 2) (ji := 2) (by rfl) fX4_2 kX4_24 dX4_empty_2 (by omega) (kk := ?_)
  refine g_aload_n (M := mX4_empty) (pc := 5) dX4_empty_5 rfl (k := ?_)
  refine g_get (M := mX4_empty) (pc := 6) (ji := 2) (by rfl) fX4_2 kX4_24 dX4_empty_6 (kk := fun hr6 => ?_)
  simp only [up_same, up_cell, up_slot, ne_eq, not_false_eq_true, Nat.reduceEqDiff, Int.reduceEq, reduceCtorEq, Nat.reduceAdd, Int.reduceAdd, Int.reduceSub] at hr6 ⊢
  refine g_iret (M := mX4_empty) (pc := 9) rfl dX4_empty_9 rfl ⟨_, _, rfl, rfl, ?_⟩
  exact ⟨rfl, rfl⟩
set_option maxHeartbeats 4000000 in
set_option maxRecDepth 20000 in
theorem c_X4_add_45 (Γ : KT) (t : Nat) (σ : Nat → Int → Int) (x y : Int)  (hx : R32 x) (hy : R32 y) (h0 : 0 ≤ σ 45 2) : Ct Γ mX4_add 1 (0, 0) [vR Γ 45, vI x, vI y] (113, ρT t, σ) (pI 113 (ρT t) (fun r σ' => (8 ≤ σ 45 2 ∧ r = -4 ∧ σ' = σ) ∨ (σ 45 2 < 8 ∧ r = σ 45 2 + 1 ∧ σ' = up (up (up σ 46 (σ 45 2) x) 47 (σ 45 2) y) 45 2 (σ 45 2 + 1)))) := by
  refine Ct.of rfl (Nat.le_of_ble_eq_true rfl) ?_
  show G Γ mX4_add 1 (0, 0) _ (0, 0) 0 [some (vR Γ 45), some (vI x), some (vI y)] [] (113, ρT t, σ)
  refine g_aload_n (M := mX4_add) (pc := 0) dX4_add_0 rfl (k := ?_)
  refine g_get (M := mX4_add) (pc := 1) (ji := 2) (by rfl) fX4_2 kX4_24 dX4_add_1 (kk := fun hr1 => ?_)
  refine g_aload_n (M := mX4_add) (pc := 4) dX4_add_4 rfl (k := ?_)
  refine g_getr (M := mX4_add) (pc := 5) (by rfl) fX4_0 kX4_15 dX4_add_5 (by rfl) (kk := ?_)
  refine g_alen (M := mX4_add) (pc := 8) (by rfl) (by decide) dX4_add_8 (kk := ?_)
  refine g_icmp_lt (M := mX4_add) (pc := 9) (tgt := 15) (by omega) (by omega) dX4_add_9 (k1 := fun h9 => ?_) (k2 := fun h9 => ?_)
  · skip
    refine g_aload_n (M := mX4_add) (pc := 15) dX4_add_15 rfl (k := ?_)
    refine g_getr (M := mX4_add) (pc := 16) (by rfl) fX4_0 kX4_15 dX4_add_16 (by rfl) (kk := ?_)
    refine g_aload_n (M := mX4_add) (pc := 19) dX4_add_19 rfl (k := ?_)
    refine g_get (M := mX4_add) (pc := 20) (ji := 2) (by rfl) fX4_2 kX4_24 dX4_add_20 (kk := fun hr20 => ?_)
    refine g_iload_n (M := mX4_add) (pc := 23) dX4_add_23 rfl (k := ?_)
    refine g_iast (M := mX4_add) (pc := 24) (by rfl) (by omega) (by omega) (by omega) dX4_add_24 (kk := ?_)
    refine g_aload_n (M := mX4_add) (pc := 25) dX4_add_25 rfl (k := ?_)
    refine g_getr (M := mX4_add) (pc := 26) (by rfl) fX4_1 kX4_21 dX4_add_26 (by rfl) (kk := ?_)
    refine g_aload_n (M := mX4_add) (pc := 29) dX4_add_29 rfl (k := ?_)
    refine g_get (M := mX4_add) (pc := 30) (ji := 2) (by rfl) fX4_2 kX4_24 dX4_add_30 (kk := fun hr30 => ?_)
    simp only [up_same, up_cell, up_slot, ne_eq, not_false_eq_true, Nat.reduceEqDiff, Int.reduceEq, reduceCtorEq, Nat.reduceAdd, Int.reduceAdd, Int.reduceSub] at hr30 ⊢
    refine g_iload_n (M := mX4_add) (pc := 33) dX4_add_33 rfl (k := ?_)
    refine g_iast (M := mX4_add) (pc := 34) (by rfl) (by omega) (by omega) (by omega) dX4_add_34 (kk := ?_)
    refine g_aload_n (M := mX4_add) (pc := 35) dX4_add_35 rfl (k := ?_)
    refine g_dupR (M := mX4_add) (pc := 36) dX4_add_36 (k := ?_)
    refine g_get (M := mX4_add) (pc := 37) (ji := 2) (by rfl) fX4_2 kX4_24 dX4_add_37 (kk := fun hr37 => ?_)
    simp only [up_same, up_cell, up_slot, ne_eq, not_false_eq_true, Nat.reduceEqDiff, Int.reduceEq, reduceCtorEq, Nat.reduceAdd, Int.reduceAdd, Int.reduceSub] at hr37 ⊢
    refine g_iconst (M := mX4_add) (pc := 40) dX4_add_40 (k := ?_)
    refine g_iadd (M := mX4_add) (pc := 41) dX4_add_41 (k := ?_)
    refine g_put (M := mX4_add) (pc := 42) (ji := 2) (by rfl) fX4_2 kX4_24 dX4_add_42 (by omega) (kk := ?_)
    refine g_aload_n (M := mX4_add) (pc := 45) dX4_add_45 rfl (k := ?_)
    refine g_get (M := mX4_add) (pc := 46) (ji := 2) (by rfl) fX4_2 kX4_24 dX4_add_46 (kk := fun hr46 => ?_)
    simp only [up_same, up_cell, up_slot, ne_eq, not_false_eq_true, Nat.reduceEqDiff, Int.reduceEq, reduceCtorEq, Nat.reduceAdd, Int.reduceAdd, Int.reduceSub] at hr46 ⊢
    refine g_iret (M := mX4_add) (pc := 49) rfl dX4_add_49 rfl ⟨_, _, rfl, rfl, ?_⟩
    first | exact Or.inl ⟨by omega, rfl, rfl⟩ | exact Or.inr ⟨by omega, rfl, rfl⟩
  · skip
    refine g_bipush (M := mX4_add) (pc := 12) dX4_add_12 (k := ?_)
    refine g_iret (M := mX4_add) (pc := 14) rfl dX4_add_14 rfl ⟨_, _, rfl, rfl, ?_⟩
    first | exact Or.inl ⟨by omega, rfl, rfl⟩ | exact Or.inr ⟨by omega, rfl, rfl⟩
set_option maxHeartbeats 4000000 in
set_option maxRecDepth 20000 in
theorem c_X4_empty_45 (Γ : KT) (t : Nat) (σ : Nat → Int → Int)  : Ct Γ mX4_empty 1 (0, 0) [vR Γ 45] (113, ρT t, σ) (pI 113 (ρT t) (fun r σ' => r = 0 ∧ σ' = up σ 45 2 0)) := by
  refine Ct.of rfl (Nat.le_of_ble_eq_true rfl) ?_
  show G Γ mX4_empty 1 (0, 0) _ (0, 0) 0 [some (vR Γ 45)] [] (113, ρT t, σ)
  refine g_aload_n (M := mX4_empty) (pc := 0) dX4_empty_0 rfl (k := ?_)
  refine g_iconst (M := mX4_empty) (pc := 1) dX4_empty_1 (k := ?_)
  refine g_put (M := mX4_empty) (pc := 2) (ji := 2) (by rfl) fX4_2 kX4_24 dX4_empty_2 (by omega) (kk := ?_)
  refine g_aload_n (M := mX4_empty) (pc := 5) dX4_empty_5 rfl (k := ?_)
  refine g_get (M := mX4_empty) (pc := 6) (ji := 2) (by rfl) fX4_2 kX4_24 dX4_empty_6 (kk := fun hr6 => ?_)
  simp only [up_same, up_cell, up_slot, ne_eq, not_false_eq_true, Nat.reduceEqDiff, Int.reduceEq, reduceCtorEq, Nat.reduceAdd, Int.reduceAdd, Int.reduceSub] at hr6 ⊢
  refine g_iret (M := mX4_empty) (pc := 9) rfl dX4_empty_9 rfl ⟨_, _, rfl, rfl, ?_⟩
  exact ⟨rfl, rfl⟩
set_option maxHeartbeats 4000000 in
set_option maxRecDepth 20000 in
theorem c_X4_add_48 (Γ : KT) (t : Nat) (σ : Nat → Int → Int) (x y : Int)  (hx : R32 x) (hy : R32 y) (h0 : 0 ≤ σ 48 2) : Ct Γ mX4_add 1 (0, 0) [vR Γ 48, vI x, vI y] (113, ρT t, σ) (pI 113 (ρT t) (fun r σ' => (12 ≤ σ 48 2 ∧ r = -4 ∧ σ' = σ) ∨ (σ 48 2 < 12 ∧ r = σ 48 2 + 1 ∧ σ' = up (up (up σ 49 (σ 48 2) x) 50 (σ 48 2) y) 48 2 (σ 48 2 + 1)))) := by
  refine Ct.of rfl (Nat.le_of_ble_eq_true rfl) ?_
  show G Γ mX4_add 1 (0, 0) _ (0, 0) 0 [some (vR Γ 48), some (vI x), some (vI y)] [] (113, ρT t, σ)
  refine g_aload_n (M := mX4_add) (pc := 0) dX4_add_0 rfl (k := ?_)
  refine g_get (M := mX4_add) (pc := 1) (ji := 2) (by rfl) fX4_2 kX4_24 dX4_add_1 (kk := fun hr1 => ?_)
  refine g_aload_n (M := mX4_add) (pc := 4) dX4_add_4 rfl (k := ?_)
  refine g_getr (M := mX4_add) (pc := 5) (by rfl) fX4_0 kX4_15 dX4_add_5 (by rfl) (kk := ?_)
  refine g_alen (M := mX4_add) (pc := 8) (by rfl) (by decide) dX4_add_8 (kk := ?_)
  refine g_icmp_lt (M := mX4_add) (pc := 9) (tgt := 15) (by omega) (by omega) dX4_add_9 (k1 := fun h9 => ?_) (k2 := fun h9 => ?_)
  · skip
    refine g_aload_n (M := mX4_add) (pc := 15) dX4_add_15 rfl (k := ?_)
    refine g_getr (M := mX4_add) (pc := 16) (by rfl) fX4_0 kX4_15 dX4_add_16 (by rfl) (kk := ?_)
    refine g_aload_n (M := mX4_add) (pc := 19) dX4_add_19 rfl (k := ?_)
    refine g_get (M := mX4_add) (pc := 20) (ji := 2) (by rfl) fX4_2 kX4_24 dX4_add_20 (kk := fun hr20 => ?_)
    refine g_iload_n (M := mX4_add) (pc := 23) dX4_add_23 rfl (k := ?_)
    refine g_iast (M := mX4_add) (pc := 24) (by rfl) (by omega) (by omega) (by omega) dX4_add_24 (kk := ?_)
    refine g_aload_n (M := mX4_add) (pc := 25) dX4_add_25 rfl (k := ?_)
    refine g_getr (M := mX4_add) (pc := 26) (by rfl) fX4_1 kX4_21 dX4_add_26 (by rfl) (kk := ?_)
    refine g_aload_n (M := mX4_add) (pc := 29) dX4_add_29 rfl (k := ?_)
    refine g_get (M := mX4_add) (pc := 30) (ji := 2) (by rfl) fX4_2 kX4_24 dX4_add_30 (kk := fun hr30 => ?_)
    simp only [up_same, up_cell, up_slot, ne_eq, not_false_eq_true, Nat.reduceEqDiff, Int.reduceEq, reduceCtorEq, Nat.reduceAdd, Int.reduceAdd, Int.reduceSub] at hr30 ⊢
    refine g_iload_n (M := mX4_add) (pc := 33) dX4_add_33 rfl (k := ?_)
    refine g_iast (M := mX4_add) (pc := 34) (by rfl) (by omega) (by omega) (by omega) dX4_add_34 (kk := ?_)
    refine g_aload_n (M := mX4_add) (pc := 35) dX4_add_35 rfl (k := ?_)
    refine g_dupR (M := mX4_add) (pc := 36) dX4_add_36 (k := ?_)
    refine g_get (M := mX4_add) (pc := 37) (ji := 2) (by rfl) fX4_2 kX4_24 dX4_add_37 (kk := fun hr37 => ?_)
    simp only [up_same, up_cell, up_slot, ne_eq, not_false_eq_true, Nat.reduceEqDiff, Int.reduceEq, reduceCtorEq, Nat.reduceAdd, Int.reduceAdd, Int.reduceSub] at hr37 ⊢
    refine g_iconst (M := mX4_add) (pc := 40) dX4_add_40 (k := ?_)
    refine g_iadd (M := mX4_add) (pc := 41) dX4_add_41 (k := ?_)
    refine g_put (M := mX4_add) (pc := 42) (ji := 2) (by rfl) fX4_2 kX4_24 dX4_add_42 (by omega) (kk := ?_)
    refine g_aload_n (M := mX4_add) (pc := 45) dX4_add_45 rfl (k := ?_)
    refine g_get (M := mX4_add) (pc := 46) (ji := 2) (by rfl) fX4_2 kX4_24 dX4_add_46 (kk := fun hr46 => ?_)
    simp only [up_same, up_cell, up_slot, ne_eq, not_false_eq_true, Nat.reduceEqDiff, Int.reduceEq, reduceCtorEq, Nat.reduceAdd, Int.reduceAdd, Int.reduceSub] at hr46 ⊢
    refine g_iret (M := mX4_add) (pc := 49) rfl dX4_add_49 rfl ⟨_, _, rfl, rfl, ?_⟩
    first | exact Or.inl ⟨by omega, rfl, rfl⟩ | exact Or.inr ⟨by omega, rfl, rfl⟩
  · skip
    refine g_bipush (M := mX4_add) (pc := 12) dX4_add_12 (k := ?_)
    refine g_iret (M := mX4_add) (pc := 14) rfl dX4_add_14 rfl ⟨_, _, rfl, rfl, ?_⟩
    first | exact Or.inl ⟨by omega, rfl, rfl⟩ | exact Or.inr ⟨by omega, rfl, rfl⟩
set_option maxHeartbeats 4000000 in
set_option maxRecDepth 20000 in
theorem c_X4_empty_48 (Γ : KT) (t : Nat) (σ : Nat → Int → Int)  : Ct Γ mX4_empty 1 (0, 0) [vR Γ 48] (113, ρT t, σ) (pI 113 (ρT t) (fun r σ' => r = 0 ∧ σ' = up σ 48 2 0)) := by
  refine Ct.of rfl (Nat.le_of_ble_eq_true rfl) ?_
  show G Γ mX4_empty 1 (0, 0) _ (0, 0) 0 [some (vR Γ 48)] [] (113, ρT t, σ)
  refine g_aload_n (M := mX4_empty) (pc := 0) dX4_empty_0 rfl (k := ?_)
  refine g_iconst (M := mX4_empty) (pc := 1) dX4_empty_1 (k := ?_)
  refine g_put (M := mX4_empty) (pc := 2) (ji := 2) (by rfl) fX4_2 kX4_24 dX4_empty_2 (by omega) (kk := ?_)
  refine g_aload_n (M := mX4_empty) (pc := 5) dX4_empty_5 rfl (k := ?_)
  refine g_get (M := mX4_empty) (pc := 6) (ji := 2) (by rfl) fX4_2 kX4_24 dX4_empty_6 (kk := fun hr6 => ?_)
  simp only [up_same, up_cell, up_slot, ne_eq, not_false_eq_true, Nat.reduceEqDiff, Int.reduceEq, reduceCtorEq, Nat.reduceAdd, Int.reduceAdd, Int.reduceSub] at hr6 ⊢
  refine g_iret (M := mX4_empty) (pc := 9) rfl dX4_empty_9 rfl ⟨_, _, rfl, rfl, ?_⟩
  exact ⟨rfl, rfl⟩
