set_option maxHeartbeats 4000000 in
set_option maxRecDepth 20000 in
theorem c_J0_coder_7d493 (Γ : KT) (t : Nat) (σ : Nat → Int → Int) (i : Nat) (hi : i < 8)  : Ct Γ mJ0_coder_7d493 1 (0, 0) [.ref (adK Γ i)] (113, ρT t, σ) (pI 113 (ρT t) (fun r σ' => r = 0 ∧ σ' = σ)) := by
  refine Ct.of rfl (Nat.le_of_ble_eq_true rfl) ?_
  show G Γ mJ0_coder_7d493 1 (0, 0) _ (0, 0) 0 [some (.ref (adK Γ i))] [] (113, ρT t, σ)
  refine g_compact (M := mJ0_coder_7d493) (pc := 0) kJ0_38 dJ0_coder_7d493_0 (k := ?_)
  refine g_if_eq (M := mJ0_coder_7d493) (pc := 3) (tgt := 13) (by omega) dJ0_coder_7d493_3 (k1 := fun h3 => ?_) (k2 := fun h3 => ?_)
  · omega
  · skip
    refine g_aload_n (M := mJ0_coder_7d493) (pc := 6) dJ0_coder_7d493_6 rfl (k := ?_)
    refine g_kcoder (M := mJ0_coder_7d493) (pc := 7) hi kJ0_15 dJ0_coder_7d493_7 (k := ?_)
    refine g_goto (M := mJ0_coder_7d493) (pc := 10) (tgt := 14) dJ0_coder_7d493_10 (k := ?_)
    refine g_nret (M := mJ0_coder_7d493) (pc := 14) (by decide) rfl dJ0_coder_7d493_14 rfl ⟨_, _, rfl, rfl, ?_⟩
    exact ⟨rfl, rfl⟩
set_option maxHeartbeats 4000000 in
set_option maxRecDepth 20000 in
theorem c_J0_isLatin1_aae02 (Γ : KT) (t : Nat) (σ : Nat → Int → Int) (i : Nat) (hi : i < 8)  : Ct Γ mJ0_isLatin1_aae02 1 (0, 0) [.ref (adK Γ i)] (113, ρT t, σ) (pI 113 (ρT t) (fun r σ' => r = 1 ∧ σ' = σ)) := by
  refine Ct.of rfl (Nat.le_of_ble_eq_true rfl) ?_
  show G Γ mJ0_isLatin1_aae02 1 (0, 0) _ (0, 0) 0 [some (.ref (adK Γ i))] [] (113, ρT t, σ)
  refine g_compact (M := mJ0_isLatin1_aae02) (pc := 0) kJ0_38 dJ0_isLatin1_aae02_0 (k := ?_)
  refine g_if_eq (M := mJ0_isLatin1_aae02) (pc := 3) (tgt := 17) (by omega) dJ0_isLatin1_aae02_3 (k1 := fun h3 => ?_) (k2 := fun h3 => ?_)
  · omega
  · skip
    refine g_aload_n (M := mJ0_isLatin1_aae02) (pc := 6) dJ0_isLatin1_aae02_6 rfl (k := ?_)
    refine g_kcoder (M := mJ0_isLatin1_aae02) (pc := 7) hi kJ0_15 dJ0_isLatin1_aae02_7 (k := ?_)
    refine g_if_ne (M := mJ0_isLatin1_aae02) (pc := 10) (tgt := 17) (by omega) dJ0_isLatin1_aae02_10 (k1 := fun h10 => ?_) (k2 := fun h10 => ?_)
    · omega
    · skip
      refine g_iconst (M := mJ0_isLatin1_aae02) (pc := 13) dJ0_isLatin1_aae02_13 (k := ?_)
      refine g_goto (M := mJ0_isLatin1_aae02) (pc := 14) (tgt := 18) dJ0_isLatin1_aae02_14 (k := ?_)
      refine g_zret (M := mJ0_isLatin1_aae02) (pc := 18) (by first | omega | (unfold b2; split <;> omega)) rfl dJ0_isLatin1_aae02_18 rfl ⟨_, _, rfl, rfl, ?_⟩
      exact ⟨rfl, rfl⟩
set_option maxHeartbeats 4000000 in
set_option maxRecDepth 20000 in
theorem c_J0_length_8abf5 (Γ : KT) (t : Nat) (σ : Nat → Int → Int) (i : Nat) (hi : i < 8)  : Ct Γ mJ0_length_8abf5 2 (0, 0) [.ref (adK Γ i)] (113, ρT t, σ) (pI 113 (ρT t) (fun r σ' => r = ((lenJS.getD i 0 : Nat) : Int) ∧ σ' = σ)) := by
  refine Ct.of rfl (Nat.le_of_ble_eq_true rfl) ?_
  show G Γ mJ0_length_8abf5 2 (0, 0) _ (0, 0) 0 [some (.ref (adK Γ i))] [] (113, ρT t, σ)
  refine g_aload_n (M := mJ0_length_8abf5) (pc := 0) dJ0_length_8abf5_0 rfl (k := ?_)
  refine g_kval (M := mJ0_length_8abf5) (pc := 1) hi kJ0_9 dJ0_length_8abf5_1 (k := ?_)
  refine g_kalen (M := mJ0_length_8abf5) (pc := 4) hi dJ0_length_8abf5_4 (k := ?_)
  have hz4 := lenJ (i := i)
  refine g_aload_n (M := mJ0_length_8abf5) (pc := 5) dJ0_length_8abf5_5 rfl (k := ?_)
  refine g_cK0I (M := mJ0_length_8abf5) (pc := 6) (c_J0_coder_7d493 Γ t _ _ (by first | exact hi | decide)) qJ0_coder_7d493 vJ0_coder_7d493 sJ0_coder_7d493 kJ0_335 dJ0_length_8abf5_6 hi (kk := ?_)
  rintro _ _ ⟨e1, e⟩; rw [e1, e]; clear e1 e
  refine g_ishr (M := mJ0_length_8abf5) (pc := 9) dJ0_length_8abf5_9 (k := ?_)
  have hz9 := zshrR ((lenJS.getD i 0 : Nat) : Int) 0
  refine g_iret (M := mJ0_length_8abf5) (pc := 10) rfl dJ0_length_8abf5_10 rfl ⟨_, _, rfl, rfl, ?_⟩
  exact ⟨shr0 _ (by omega), rfl⟩
set_option maxHeartbeats 4000000 in
set_option maxRecDepth 20000 in
theorem c_J3_n (Γ : KT) (t : Nat) (σ : Nat → Int → Int) (j : Int) (n : Int) (h0 : 0 ≤ j ∧ j < n) (hn : R32 n) : Ct Γ mJ3_checkIndex_8e157 1 (0, 0) [vI j, vI n, .null] (113, ρT t, σ) (pI 113 (ρT t) (fun r σ' => r = j ∧ σ' = σ)) := by
  refine Ct.of rfl (Nat.le_of_ble_eq_true rfl) ?_
  show G Γ mJ3_checkIndex_8e157 1 (0, 0) _ (0, 0) 0 [some (vI j), some (vI n), some (.null)] [] (113, ρT t, σ)
  refine g_iload_n (M := mJ3_checkIndex_8e157) (pc := 0) dJ3_checkIndex_8e157_0 rfl (k := ?_)
  refine g_if_lt (M := mJ3_checkIndex_8e157) (pc := 1) (tgt := 9) (by omega) dJ3_checkIndex_8e157_1 (k1 := fun h1 => ?_) (k2 := fun h1 => ?_)
  · omega
  · skip
    refine g_iload_n (M := mJ3_checkIndex_8e157) (pc := 4) dJ3_checkIndex_8e157_4 rfl (k := ?_)
    refine g_iload_n (M := mJ3_checkIndex_8e157) (pc := 5) dJ3_checkIndex_8e157_5 rfl (k := ?_)
    refine g_icmp_lt (M := mJ3_checkIndex_8e157) (pc := 6) (tgt := 16) (by omega) (by omega) dJ3_checkIndex_8e157_6 (k1 := fun h6 => ?_) (k2 := fun h6 => ?_)
    · skip
      refine g_iload_n (M := mJ3_checkIndex_8e157) (pc := 16) dJ3_checkIndex_8e157_16 rfl (k := ?_)
      refine g_iret (M := mJ3_checkIndex_8e157) (pc := 17) rfl dJ3_checkIndex_8e157_17 rfl ⟨_, _, rfl, rfl, ?_⟩
      exact ⟨rfl, rfl⟩
    · omega
set_option maxHeartbeats 4000000 in
set_option maxRecDepth 20000 in
theorem c_J3_r (Γ : KT) (t : Nat) (σ : Nat → Int → Int) (z : Nat) (j : Int) (n : Int) (h0 : 0 ≤ j ∧ j < n) (hn : R32 n) : Ct Γ mJ3_checkIndex_8e157 1 (0, 0) [vI j, vI n, .ref z] (113, ρT t, σ) (pI 113 (ρT t) (fun r σ' => r = j ∧ σ' = σ)) := by
  refine Ct.of rfl (Nat.le_of_ble_eq_true rfl) ?_
  show G Γ mJ3_checkIndex_8e157 1 (0, 0) _ (0, 0) 0 [some (vI j), some (vI n), some (.ref z)] [] (113, ρT t, σ)
  refine g_iload_n (M := mJ3_checkIndex_8e157) (pc := 0) dJ3_checkIndex_8e157_0 rfl (k := ?_)
  refine g_if_lt (M := mJ3_checkIndex_8e157) (pc := 1) (tgt := 9) (by omega) dJ3_checkIndex_8e157_1 (k1 := fun h1 => ?_) (k2 := fun h1 => ?_)
  · omega
  · skip
    refine g_iload_n (M := mJ3_checkIndex_8e157) (pc := 4) dJ3_checkIndex_8e157_4 rfl (k := ?_)
    refine g_iload_n (M := mJ3_checkIndex_8e157) (pc := 5) dJ3_checkIndex_8e157_5 rfl (k := ?_)
    refine g_icmp_lt (M := mJ3_checkIndex_8e157) (pc := 6) (tgt := 16) (by omega) (by omega) dJ3_checkIndex_8e157_6 (k1 := fun h6 => ?_) (k2 := fun h6 => ?_)
    · skip
      refine g_iload_n (M := mJ3_checkIndex_8e157) (pc := 16) dJ3_checkIndex_8e157_16 rfl (k := ?_)
      refine g_iret (M := mJ3_checkIndex_8e157) (pc := 17) rfl dJ3_checkIndex_8e157_17 rfl ⟨_, _, rfl, rfl, ?_⟩
      exact ⟨rfl, rfl⟩
    · omega
set_option maxHeartbeats 4000000 in
set_option maxRecDepth 20000 in
theorem c_J0_checkIndex_df160 (Γ : KT) (t : Nat) (σ : Nat → Int → Int) (j : Int) (n : Int) (h0 : 0 ≤ j ∧ j < n) (hn : R32 n) : Ct Γ mJ0_checkIndex_df160 2 (0, 0) [vI j, vI n] (113, ρT t, σ) (pV 113 (ρT t) (fun σ' => σ' = σ)) := by
  refine Ct.of rfl (Nat.le_of_ble_eq_true rfl) ?_
  show G Γ mJ0_checkIndex_df160 2 (0, 0) _ (0, 0) 0 [some (vI j), some (vI n)] [] (113, ρT t, σ)
  refine g_iload_n (M := mJ0_checkIndex_df160) (pc := 0) dJ0_checkIndex_df160_0 rfl (k := ?_)
  refine g_iload_n (M := mJ0_checkIndex_df160) (pc := 1) dJ0_checkIndex_df160_1 rfl (k := ?_)
  refine g_sioobe (M := mJ0_checkIndex_df160) (pc := 2) kJ0_1053 dJ0_checkIndex_df160_2 (k0 := ?_) (k1 := fun z2 => ?_)
  · skip
    refine g_cS3I (M := mJ0_checkIndex_df160) (pc := 5) (c_J3_n Γ t _ _ _ (by omega) (by omega)) qJ3_checkIndex_8e157 vJ3_checkIndex_8e157 kJ0_1059 dJ0_checkIndex_df160_5 (kk := ?_)
    rintro _ _ ⟨e1, e⟩; rw [e1, e]; clear e1 e
    refine g_popI (M := mJ0_checkIndex_df160) (pc := 8) dJ0_checkIndex_df160_8 (k := ?_)
    refine g_vret (M := mJ0_checkIndex_df160) (pc := 9) rfl dJ0_checkIndex_df160_9 rfl ⟨_, rfl, rfl, ?_⟩
    rfl
  · skip
    refine g_cS3I (M := mJ0_checkIndex_df160) (pc := 5) (c_J3_r Γ t _ _ _ _ (by omega) (by omega)) qJ3_checkIndex_8e157 vJ3_checkIndex_8e157 kJ0_1059 dJ0_checkIndex_df160_5 (kk := ?_)
    rintro _ _ ⟨e1, e⟩; rw [e1, e]; clear e1 e
    refine g_popI (M := mJ0_checkIndex_df160) (pc := 8) dJ0_checkIndex_df160_8 (k := ?_)
    refine g_vret (M := mJ0_checkIndex_df160) (pc := 9) rfl dJ0_checkIndex_df160_9 rfl ⟨_, rfl, rfl, ?_⟩
    rfl
set_option maxHeartbeats 4000000 in
set_option maxRecDepth 20000 in
theorem c_J1_charAt_3b067 (Γ : KT) (t : Nat) (σ : Nat → Int → Int) (i : Nat) (hi : i < 8) (j : Int) (h0 : 0 ≤ j ∧ j < ((lenJS.getD i 0 : Nat) : Int)) : Ct Γ mJ1_charAt_3b067 3 (0, 0) [.ref (adV Γ i), vI j] (113, ρT t, σ) (pI 113 (ρT t) (fun r σ' => (∃ a, r = zi2c a) ∧ σ' = σ)) := by
  refine Ct.of rfl (Nat.le_of_ble_eq_true rfl) ?_
  show G Γ mJ1_charAt_3b067 3 (0, 0) _ (0, 0) 0 [some (.ref (adV Γ i)), some (vI j)] [] (113, ρT t, σ)
  refine g_iload_n (M := mJ1_charAt_3b067) (pc := 0) dJ1_charAt_3b067_0 rfl (k := ?_)
  refine g_aload_n (M := mJ1_charAt_3b067) (pc := 1) dJ1_charAt_3b067_1 rfl (k := ?_)
  refine g_kalen (M := mJ1_charAt_3b067) (pc := 2) hi dJ1_charAt_3b067_2 (k := ?_)
  have hz2 := lenJ (i := i)
  refine g_cS2V (M := mJ1_charAt_3b067) (pc := 3) (c_J0_checkIndex_df160 Γ t _ _ _ (by omega) (by omega)) qJ0_checkIndex_df160 vJ0_checkIndex_df160 kJ1_9 dJ1_charAt_3b067_3 (kk := ?_)
  rintro _ e; rw [e]; clear e
  refine g_aload_n (M := mJ1_charAt_3b067) (pc := 6) dJ1_charAt_3b067_6 rfl (k := ?_)
  refine g_iload_n (M := mJ1_charAt_3b067) (pc := 7) dJ1_charAt_3b067_7 rfl (k := ?_)
  refine g_kbald (M := mJ1_charAt_3b067) (pc := 8) hi (by omega) (by omega) dJ1_charAt_3b067_8 (k := ?_)
  have hz8 := z_R ((bytJS.getD i []).getD (Int.toNat j) 0)
  refine g_sipush (M := mJ1_charAt_3b067) (pc := 9) dJ1_charAt_3b067_9 (k := ?_)
  refine g_iand (M := mJ1_charAt_3b067) (pc := 12) dJ1_charAt_3b067_12 (k := ?_)
  have hz12 := zandR (Int32.toInt ((bytJS.getD i []).getD (Int.toNat j) 0)) 255
  refine g_i2c (M := mJ1_charAt_3b067) (pc := 13) dJ1_charAt_3b067_13 (k := ?_)
  have hz13 := zi2cR (zand (Int32.toInt ((bytJS.getD i []).getD (Int.toNat j) 0)) 255)
  refine g_nret (M := mJ1_charAt_3b067) (pc := 14) (narC _) rfl dJ1_charAt_3b067_14 rfl ⟨_, _, rfl, rfl, ?_⟩
  refine ⟨?_, rfl⟩
  · exact ⟨_, rfl⟩
set_option maxHeartbeats 4000000 in
set_option maxRecDepth 20000 in
theorem c_J0_charAt_5068e (Γ : KT) (t : Nat) (σ : Nat → Int → Int) (i : Nat) (hi : i < 8) (j : Int) (h0 : 0 ≤ j ∧ j < ((lenJS.getD i 0 : Nat) : Int)) : Ct Γ mJ0_charAt_5068e 4 (0, 0) [.ref (adK Γ i), vI j] (113, ρT t, σ) (pI 113 (ρT t) (fun r σ' => (∃ a, r = zi2c a) ∧ σ' = σ)) := by
  refine Ct.of rfl (Nat.le_of_ble_eq_true rfl) ?_
  show G Γ mJ0_charAt_5068e 4 (0, 0) _ (0, 0) 0 [some (.ref (adK Γ i)), some (vI j)] [] (113, ρT t, σ)
  refine g_aload_n (M := mJ0_charAt_5068e) (pc := 0) dJ0_charAt_5068e_0 rfl (k := ?_)
  refine g_cK0I (M := mJ0_charAt_5068e) (pc := 1) (c_J0_isLatin1_aae02 Γ t _ _ (by first | exact hi | decide)) qJ0_isLatin1_aae02 vJ0_isLatin1_aae02 sJ0_isLatin1_aae02 kJ0_492 dJ0_charAt_5068e_1 hi (kk := ?_)
  rintro _ _ ⟨e1, e⟩; rw [e1, e]; clear e1 e
  refine g_if_eq (M := mJ0_charAt_5068e) (pc := 4) (tgt := 16) (by omega) dJ0_charAt_5068e_4 (k1 := fun h4 => ?_) (k2 := fun h4 => ?_)
  · omega
  · skip
    refine g_aload_n (M := mJ0_charAt_5068e) (pc := 7) dJ0_charAt_5068e_7 rfl (k := ?_)
    refine g_kval (M := mJ0_charAt_5068e) (pc := 8) hi kJ0_9 dJ0_charAt_5068e_8 (k := ?_)
    refine g_iload_n (M := mJ0_charAt_5068e) (pc := 11) dJ0_charAt_5068e_11 rfl (k := ?_)
    refine g_cS2I (M := mJ0_charAt_5068e) (pc := 12) (c_J1_charAt_3b067 Γ t _ _ hi _ (by omega)) qJ1_charAt_3b067 vJ1_charAt_3b067 kJ0_495 dJ0_charAt_5068e_12 (kk := ?_)
    rintro r12 _ ⟨hf12, e⟩; rw [e]; clear e
    refine g_nret (M := mJ0_charAt_5068e) (pc := 15) (narC' (by assumption)) rfl dJ0_charAt_5068e_15 rfl ⟨_, _, rfl, rfl, ?_⟩
    refine ⟨?_, rfl⟩
    · first | exact ⟨_, rfl⟩ | assumption
set_option maxHeartbeats 4000000 in
set_option maxRecDepth 20000 in
theorem c_J1_canEncode_9a6ad (Γ : KT) (t : Nat) (σ : Nat → Int → Int) (j : Int) (h0 : R32 j) : Ct Γ mJ1_canEncode_9a6ad 1 (0, 0) [vI j] (113, ρT t, σ) (pI 113 (ρT t) (fun r σ' => (0 ≤ r ∧ r ≤ 1) ∧ σ' = σ)) := by
  refine Ct.of rfl (Nat.le_of_ble_eq_true rfl) ?_
  show G Γ mJ1_canEncode_9a6ad 1 (0, 0) _ (0, 0) 0 [some (vI j)] [] (113, ρT t, σ)
  refine g_iload_n (M := mJ1_canEncode_9a6ad) (pc := 0) dJ1_canEncode_9a6ad_0 rfl (k := ?_)
  refine g_if_lt (M := mJ1_canEncode_9a6ad) (pc := 1) (tgt := 15) (by omega) dJ1_canEncode_9a6ad_1 (k1 := fun h1 => ?_) (k2 := fun h1 => ?_)
  · skip
    refine g_iconst (M := mJ1_canEncode_9a6ad) (pc := 15) dJ1_canEncode_9a6ad_15 (k := ?_)
    refine g_zret (M := mJ1_canEncode_9a6ad) (pc := 16) (by first | omega | (unfold b2; split <;> omega)) rfl dJ1_canEncode_9a6ad_16 rfl ⟨_, _, rfl, rfl, ?_⟩
    refine ⟨?_, rfl⟩
    · omega
  · skip
    refine g_iload_n (M := mJ1_canEncode_9a6ad) (pc := 4) dJ1_canEncode_9a6ad_4 rfl (k := ?_)
    refine g_sipush (M := mJ1_canEncode_9a6ad) (pc := 5) dJ1_canEncode_9a6ad_5 (k := ?_)
    refine g_icmp_gt (M := mJ1_canEncode_9a6ad) (pc := 8) (tgt := 15) (by omega) (by omega) dJ1_canEncode_9a6ad_8 (k1 := fun h8 => ?_) (k2 := fun h8 => ?_)
    · skip
      refine g_iconst (M := mJ1_canEncode_9a6ad) (pc := 15) dJ1_canEncode_9a6ad_15 (k := ?_)
      refine g_zret (M := mJ1_canEncode_9a6ad) (pc := 16) (by first | omega | (unfold b2; split <;> omega)) rfl dJ1_canEncode_9a6ad_16 rfl ⟨_, _, rfl, rfl, ?_⟩
      refine ⟨?_, rfl⟩
      · omega
    · skip
      refine g_iconst (M := mJ1_canEncode_9a6ad) (pc := 11) dJ1_canEncode_9a6ad_11 (k := ?_)
      refine g_goto (M := mJ1_canEncode_9a6ad) (pc := 12) (tgt := 16) dJ1_canEncode_9a6ad_12 (k := ?_)
      refine g_zret (M := mJ1_canEncode_9a6ad) (pc := 16) (by first | omega | (unfold b2; split <;> omega)) rfl dJ1_canEncode_9a6ad_16 rfl ⟨_, _, rfl, rfl, ?_⟩
      refine ⟨?_, rfl⟩
      · omega
set_option maxHeartbeats 4000000 in
set_option maxRecDepth 20000 in
theorem c_J1_indexOfChar_4cfef (Γ : KT) (t : Nat) (σ : Nat → Int → Int) (i : Nat) (hi : i < 8) (ch : Int) (a : Int) (b : Int) (h0 : 0 ≤ a ∧ a ≤ 100) (h1 : b ≤ ((lenJS.getD i 0 : Nat) : Int)) (h2 : R32 b) : Ct Γ mJ1_indexOfChar_4cfef 1 (0, 0) [.ref (adV Γ i), vI ch, vI a, vI b] (113, ρT t, σ) (pI 113 (ρT t) (fun r σ' => (-1 ≤ r ∧ r ≤ 10) ∧ σ' = σ)) := by
  refine Ct.of rfl (Nat.le_of_ble_eq_true rfl) ?_
  show G Γ mJ1_indexOfChar_4cfef 1 (0, 0) _ (0, 0) 0 [some (.ref (adV Γ i)), some (vI ch), some (vI a), some (vI b), none, none] [] (113, ρT t, σ)
  have hL := lenJ (i := i)
  refine g_iload_n (M := mJ1_indexOfChar_4cfef) (pc := 0) dJ1_indexOfChar_4cfef_0 rfl (k := ?_)
  refine g_i2b (M := mJ1_indexOfChar_4cfef) (pc := 1) dJ1_indexOfChar_4cfef_1 (k := ?_)
  have hz1 := zi2bR ch
  refine g_istore_4 (M := mJ1_indexOfChar_4cfef) (pc := 2) dJ1_indexOfChar_4cfef_2 (k := ?_)
  refine g_iload_n (M := mJ1_indexOfChar_4cfef) (pc := 4) dJ1_indexOfChar_4cfef_4 rfl (k := ?_)
  refine g_istore_5 (M := mJ1_indexOfChar_4cfef) (pc := 5) dJ1_indexOfChar_4cfef_5 (k := ?_)
  have loop7 : ∀ (N : Nat) (q : Int), ((101 - q).toNat) < N → ((0 ≤ q ∧ q ≤ 100)) → G Γ mJ1_indexOfChar_4cfef 1 (0, 0) (pI 113 (ρT t) (fun r σ' => (-1 ≤ r ∧ r ≤ 10) ∧ σ' = σ)) (0, 0) 7 [some (.ref (adV Γ i)), some (vI ch), some (vI a), some (vI b), some (vI (zi2b ch)), some (vI q)] [] (113, ρT t, σ) := by
    intro N
    induction N with
    | zero => intro q hmu7 hinv7; exact absurd hmu7 (Nat.not_lt_zero _)
    | succ N ih7 =>
      intro q hmu7 hinv7
      have hb7_q := hinv7
      refine g_iload (M := mJ1_indexOfChar_4cfef) (pc := 7) dJ1_indexOfChar_4cfef_7 rfl (k := ?_)
      refine g_iload_n (M := mJ1_indexOfChar_4cfef) (pc := 9) dJ1_indexOfChar_4cfef_9 rfl (k := ?_)
      refine g_icmp_ge (M := mJ1_indexOfChar_4cfef) (pc := 10) (tgt := 31) (by omega) (by omega) dJ1_indexOfChar_4cfef_10 (k1 := fun h10 => ?_) (k2 := fun h10 => ?_)
      · skip
        refine g_iconst (M := mJ1_indexOfChar_4cfef) (pc := 31) dJ1_indexOfChar_4cfef_31 (k := ?_)
        refine g_iret (M := mJ1_indexOfChar_4cfef) (pc := 32) rfl dJ1_indexOfChar_4cfef_32 rfl ⟨_, _, rfl, rfl, ?_⟩
        refine ⟨?_, rfl⟩
        · omega
      · skip
        refine g_aload_n (M := mJ1_indexOfChar_4cfef) (pc := 13) dJ1_indexOfChar_4cfef_13 rfl (k := ?_)
        refine g_iload (M := mJ1_indexOfChar_4cfef) (pc := 14) dJ1_indexOfChar_4cfef_14 rfl (k := ?_)
        refine g_kbald (M := mJ1_indexOfChar_4cfef) (pc := 16) hi (by omega) (by omega) dJ1_indexOfChar_4cfef_16 (k := ?_)
        have hz16 := z_R ((bytJS.getD i []).getD (Int.toNat q) 0)
        refine g_iload (M := mJ1_indexOfChar_4cfef) (pc := 17) dJ1_indexOfChar_4cfef_17 rfl (k := ?_)
        refine g_icmp_ne (M := mJ1_indexOfChar_4cfef) (pc := 19) (tgt := 25) (by omega) (by omega) dJ1_indexOfChar_4cfef_19 (k1 := fun h19 => ?_) (k2 := fun h19 => ?_)
        · skip
          refine g_iinc_5 (M := mJ1_indexOfChar_4cfef) (pc := 25) dJ1_indexOfChar_4cfef_25 (k := ?_)
          refine g_goto (M := mJ1_indexOfChar_4cfef) (pc := 28) (tgt := 7) dJ1_indexOfChar_4cfef_28 (k := ?_)
          refine ih7 _ ?_ ?_
          · omega
          · skip
            · omega
        · skip
          refine g_iload (M := mJ1_indexOfChar_4cfef) (pc := 22) dJ1_indexOfChar_4cfef_22 rfl (k := ?_)
          refine g_iret (M := mJ1_indexOfChar_4cfef) (pc := 24) rfl dJ1_indexOfChar_4cfef_24 rfl ⟨_, _, rfl, rfl, ?_⟩
          refine ⟨?_, rfl⟩
          · omega
  refine loop7 _ _ (Nat.lt_succ_self _) ?_
  · omega
set_option maxHeartbeats 4000000 in
set_option maxRecDepth 20000 in
theorem c_J1_indexOf_4cfef (Γ : KT) (t : Nat) (σ : Nat → Int → Int) (i : Nat) (hi : i < 8) (ch : Int) (a : Int) (b : Int) (hc : R32 ch) (h0 : 0 ≤ a ∧ a ≤ 100) (h1 : b ≤ ((lenJS.getD i 0 : Nat) : Int)) (h2 : R32 b) : Ct Γ mJ1_indexOf_4cfef 2 (0, 0) [.ref (adV Γ i), vI ch, vI a, vI b] (113, ρT t, σ) (pI 113 (ρT t) (fun r σ' => (-1 ≤ r ∧ r ≤ 10) ∧ σ' = σ)) := by
  refine Ct.of rfl (Nat.le_of_ble_eq_true rfl) ?_
  show G Γ mJ1_indexOf_4cfef 2 (0, 0) _ (0, 0) 0 [some (.ref (adV Γ i)), some (vI ch), some (vI a), some (vI b)] [] (113, ρT t, σ)
  have hL := lenJ (i := i)
  refine g_iload_n (M := mJ1_indexOf_4cfef) (pc := 0) dJ1_indexOf_4cfef_0 rfl (k := ?_)
  refine g_cS1I (M := mJ1_indexOf_4cfef) (pc := 1) (c_J1_canEncode_9a6ad Γ t _ _ (by omega)) qJ1_canEncode_9a6ad vJ1_canEncode_9a6ad kJ1_88 dJ1_indexOf_4cfef_1 (kk := ?_)
  rintro r1 _ ⟨hf1, e⟩; rw [e]; clear e
  refine g_if_ne (M := mJ1_indexOf_4cfef) (pc := 4) (tgt := 9) (by omega) dJ1_indexOf_4cfef_4 (k1 := fun h4 => ?_) (k2 := fun h4 => ?_)
  · skip
    refine g_iload_n (M := mJ1_indexOf_4cfef) (pc := 9) dJ1_indexOf_4cfef_9 rfl (k := ?_)
    refine g_iconst (M := mJ1_indexOf_4cfef) (pc := 10) dJ1_indexOf_4cfef_10 (k := ?_)
    refine g_max2 (M := mJ1_indexOf_4cfef) (pc := 11) (by omega) (by omega) kmJ1_92 nm_max dJ1_indexOf_4cfef_11 (by omega) rfl (k := fun c11 hz11 => ?_)
    refine g_istore_2 (M := mJ1_indexOf_4cfef) (pc := 14) dJ1_indexOf_4cfef_14 (k := ?_)
    refine g_iload_n (M := mJ1_indexOf_4cfef) (pc := 15) dJ1_indexOf_4cfef_15 rfl (k := ?_)
    refine g_aload_n (M := mJ1_indexOf_4cfef) (pc := 16) dJ1_indexOf_4cfef_16 rfl (k := ?_)
    refine g_kalen (M := mJ1_indexOf_4cfef) (pc := 17) hi dJ1_indexOf_4cfef_17 (k := ?_)
    have hz17 := lenJ (i := i)
    refine g_min2 (M := mJ1_indexOf_4cfef) (pc := 18) (by omega) (by omega) kmJ1_38 nm_min dJ1_indexOf_4cfef_18 (by omega) rfl (k := fun c18 hz18 => ?_)
    refine g_istore_3 (M := mJ1_indexOf_4cfef) (pc := 21) dJ1_indexOf_4cfef_21 (k := ?_)
    refine g_iload_n (M := mJ1_indexOf_4cfef) (pc := 22) dJ1_indexOf_4cfef_22 rfl (k := ?_)
    refine g_iload_n (M := mJ1_indexOf_4cfef) (pc := 23) dJ1_indexOf_4cfef_23 rfl (k := ?_)
    refine g_icmp_lt (M := mJ1_indexOf_4cfef) (pc := 24) (tgt := 29) (by omega) (by omega) dJ1_indexOf_4cfef_24 (k1 := fun h24 => ?_) (k2 := fun h24 => ?_)
    · skip
      refine g_aload_n (M := mJ1_indexOf_4cfef) (pc := 29) dJ1_indexOf_4cfef_29 rfl (k := ?_)
      refine g_iload_n (M := mJ1_indexOf_4cfef) (pc := 30) dJ1_indexOf_4cfef_30 rfl (k := ?_)
      refine g_iload_n (M := mJ1_indexOf_4cfef) (pc := 31) dJ1_indexOf_4cfef_31 rfl (k := ?_)
      refine g_iload_n (M := mJ1_indexOf_4cfef) (pc := 32) dJ1_indexOf_4cfef_32 rfl (k := ?_)
      refine g_cS4I (M := mJ1_indexOf_4cfef) (pc := 33) (c_J1_indexOfChar_4cfef Γ t _ _ (by first | exact hi | decide) _ _ _ (by omega) (by omega) (by omega)) qJ1_indexOfChar_4cfef vJ1_indexOfChar_4cfef kJ1_95 dJ1_indexOf_4cfef_33 (kk := ?_)
      rintro r33 _ ⟨hf33, e⟩; rw [e]; clear e
      refine g_iret (M := mJ1_indexOf_4cfef) (pc := 36) rfl dJ1_indexOf_4cfef_36 rfl ⟨_, _, rfl, rfl, ?_⟩
      refine ⟨?_, rfl⟩
      · omega
    · skip
      refine g_iconst (M := mJ1_indexOf_4cfef) (pc := 27) dJ1_indexOf_4cfef_27 (k := ?_)
      refine g_iret (M := mJ1_indexOf_4cfef) (pc := 28) rfl dJ1_indexOf_4cfef_28 rfl ⟨_, _, rfl, rfl, ?_⟩
      refine ⟨?_, rfl⟩
      · omega
  · skip
    refine g_iconst (M := mJ1_indexOf_4cfef) (pc := 7) dJ1_indexOf_4cfef_7 (k := ?_)
    refine g_iret (M := mJ1_indexOf_4cfef) (pc := 8) rfl dJ1_indexOf_4cfef_8 rfl ⟨_, _, rfl, rfl, ?_⟩
    refine ⟨?_, rfl⟩
    · omega
set_option maxHeartbeats 4000000 in
set_option maxRecDepth 20000 in
theorem c_J0_indexOf_7cf53 (Γ : KT) (t : Nat) (σ : Nat → Int → Int) (i : Nat) (hi : i < 8) (ch : Int) (a : Int) (hc : R32 ch) (h0 : 0 ≤ a ∧ a ≤ 100) : Ct Γ mJ0_indexOf_7cf53 4 (0, 0) [.ref (adK Γ i), vI ch, vI a] (113, ρT t, σ) (pI 113 (ρT t) (fun r σ' => (-1 ≤ r ∧ r ≤ 10) ∧ σ' = σ)) := by
  refine Ct.of rfl (Nat.le_of_ble_eq_true rfl) ?_
  show G Γ mJ0_indexOf_7cf53 4 (0, 0) _ (0, 0) 0 [some (.ref (adK Γ i)), some (vI ch), some (vI a)] [] (113, ρT t, σ)
  have hL := lenJ (i := i)
  refine g_aload_n (M := mJ0_indexOf_7cf53) (pc := 0) dJ0_indexOf_7cf53_0 rfl (k := ?_)
  refine g_cK0I (M := mJ0_indexOf_7cf53) (pc := 1) (c_J0_isLatin1_aae02 Γ t _ _ (by first | exact hi | decide)) qJ0_isLatin1_aae02 vJ0_isLatin1_aae02 sJ0_isLatin1_aae02 kJ0_492 dJ0_indexOf_7cf53_1 hi (kk := ?_)
  rintro _ _ ⟨e1, e⟩; rw [e1, e]; clear e1 e
  refine g_if_eq (M := mJ0_indexOf_7cf53) (pc := 4) (tgt := 23) (by omega) dJ0_indexOf_7cf53_4 (k1 := fun h4 => ?_) (k2 := fun h4 => ?_)
  · omega
  · skip
    refine g_aload_n (M := mJ0_indexOf_7cf53) (pc := 7) dJ0_indexOf_7cf53_7 rfl (k := ?_)
    refine g_kval (M := mJ0_indexOf_7cf53) (pc := 8) hi kJ0_9 dJ0_indexOf_7cf53_8 (k := ?_)
    refine g_iload_n (M := mJ0_indexOf_7cf53) (pc := 11) dJ0_indexOf_7cf53_11 rfl (k := ?_)
    refine g_iload_n (M := mJ0_indexOf_7cf53) (pc := 12) dJ0_indexOf_7cf53_12 rfl (k := ?_)
    refine g_aload_n (M := mJ0_indexOf_7cf53) (pc := 13) dJ0_indexOf_7cf53_13 rfl (k := ?_)
    refine g_cK0I (M := mJ0_indexOf_7cf53) (pc := 14) (c_J0_length_8abf5 Γ t _ _ (by first | exact hi | decide)) qJ0_length_8abf5 vJ0_length_8abf5 sJ0_length_8abf5 kJ0_505 dJ0_indexOf_7cf53_14 hi (kk := ?_)
    rintro _ _ ⟨e1, e⟩; rw [e1, e]; clear e1 e
    refine g_cS4I (M := mJ0_indexOf_7cf53) (pc := 17) (c_J1_indexOf_4cfef Γ t _ _ (by first | exact hi | decide) _ _ _ (by omega) (by omega) (by omega) (by omega)) qJ1_indexOf_4cfef vJ1_indexOf_4cfef kJ0_637 dJ0_indexOf_7cf53_17 (kk := ?_)
    rintro r17 _ ⟨hf17, e⟩; rw [e]; clear e
    refine g_goto (M := mJ0_indexOf_7cf53) (pc := 20) (tgt := 36) dJ0_indexOf_7cf53_20 (k := ?_)
    refine g_iret (M := mJ0_indexOf_7cf53) (pc := 36) rfl dJ0_indexOf_7cf53_36 rfl ⟨_, _, rfl, rfl, ?_⟩
    refine ⟨?_, rfl⟩
    · omega
set_option maxHeartbeats 4000000 in
set_option maxRecDepth 20000 in
theorem c_J0_indexOf_0f7a4 (Γ : KT) (t : Nat) (σ : Nat → Int → Int) (i : Nat) (hi : i < 8) (ch : Int) (hc : R32 ch) : Ct Γ mJ0_indexOf_0f7a4 5 (0, 0) [.ref (adK Γ i), vI ch] (113, ρT t, σ) (pI 113 (ρT t) (fun r σ' => (-1 ≤ r ∧ r ≤ 10) ∧ σ' = σ)) := by
  refine Ct.of rfl (Nat.le_of_ble_eq_true rfl) ?_
  show G Γ mJ0_indexOf_0f7a4 5 (0, 0) _ (0, 0) 0 [some (.ref (adK Γ i)), some (vI ch)] [] (113, ρT t, σ)
  refine g_aload_n (M := mJ0_indexOf_0f7a4) (pc := 0) dJ0_indexOf_0f7a4_0 rfl (k := ?_)
  refine g_iload_n (M := mJ0_indexOf_0f7a4) (pc := 1) dJ0_indexOf_0f7a4_1 rfl (k := ?_)
  refine g_iconst (M := mJ0_indexOf_0f7a4) (pc := 2) dJ0_indexOf_0f7a4_2 (k := ?_)
  refine g_cK2I (M := mJ0_indexOf_0f7a4) (pc := 3) (c_J0_indexOf_7cf53 Γ t _ _ (by first | exact hi | decide) _ _ (by omega) (by omega)) qJ0_indexOf_7cf53 vJ0_indexOf_7cf53 sJ0_indexOf_7cf53 kJ0_633 dJ0_indexOf_0f7a4_3 hi (kk := ?_)
  rintro r3 _ ⟨hf3, e⟩; rw [e]; clear e
  refine g_iret (M := mJ0_indexOf_0f7a4) (pc := 6) rfl dJ0_indexOf_0f7a4_6 rfl ⟨_, _, rfl, rfl, ?_⟩
  refine ⟨?_, rfl⟩
  · omega
set_option maxHeartbeats 4000000 in
set_option maxRecDepth 20000 in
theorem c_J6_bitCount_0f7a4 (Γ : KT) (t : Nat) (σ : Nat → Int → Int) (j : Int) : Ct Γ mJ6_bitCount_0f7a4 1 (0, 0) [vI j] (113, ρT t, σ) (pI 113 (ρT t) (fun r σ' => (R32 r) ∧ σ' = σ)) := by
  refine Ct.of rfl (Nat.le_of_ble_eq_true rfl) ?_
  show G Γ mJ6_bitCount_0f7a4 1 (0, 0) _ (0, 0) 0 [some (vI j)] [] (113, ρT t, σ)
  refine g_iload_n (M := mJ6_bitCount_0f7a4) (pc := 0) dJ6_bitCount_0f7a4_0 rfl (k := ?_)
  refine g_iload_n (M := mJ6_bitCount_0f7a4) (pc := 1) dJ6_bitCount_0f7a4_1 rfl (k := ?_)
  refine g_iconst (M := mJ6_bitCount_0f7a4) (pc := 2) dJ6_bitCount_0f7a4_2 (k := ?_)
  refine g_iushr (M := mJ6_bitCount_0f7a4) (pc := 3) dJ6_bitCount_0f7a4_3 (k := ?_)
  have hz3 := zushrR j 1
  refine g_ldcw (M := mJ6_bitCount_0f7a4) (pc := 4) (x := 1431655765) kJ6_265 dJ6_bitCount_0f7a4_4 (k := ?_)
  refine g_iand (M := mJ6_bitCount_0f7a4) (pc := 7) dJ6_bitCount_0f7a4_7 (k := ?_)
  have hz7 := zandR (zushr j 1) 1431655765
  refine g_isub (M := mJ6_bitCount_0f7a4) (pc := 8) dJ6_bitCount_0f7a4_8 (k := ?_)
  refine g_istore_0 (M := mJ6_bitCount_0f7a4) (pc := 9) dJ6_bitCount_0f7a4_9 (k := ?_)
  refine g_iload_n (M := mJ6_bitCount_0f7a4) (pc := 10) dJ6_bitCount_0f7a4_10 rfl (k := ?_)
  refine g_ldcw (M := mJ6_bitCount_0f7a4) (pc := 11) (x := 858993459) kJ6_266 dJ6_bitCount_0f7a4_11 (k := ?_)
  refine g_iand (M := mJ6_bitCount_0f7a4) (pc := 14) dJ6_bitCount_0f7a4_14 (k := ?_)
  have hz14 := zandR (j - (zand (zushr j 1) 1431655765)) 858993459
  refine g_iload_n (M := mJ6_bitCount_0f7a4) (pc := 15) dJ6_bitCount_0f7a4_15 rfl (k := ?_)
  refine g_iconst (M := mJ6_bitCount_0f7a4) (pc := 16) dJ6_bitCount_0f7a4_16 (k := ?_)
  refine g_iushr (M := mJ6_bitCount_0f7a4) (pc := 17) dJ6_bitCount_0f7a4_17 (k := ?_)
  have hz17 := zushrR (j - (zand (zushr j 1) 1431655765)) 2
  refine g_ldcw (M := mJ6_bitCount_0f7a4) (pc := 18) (x := 858993459) kJ6_266 dJ6_bitCount_0f7a4_18 (k := ?_)
  refine g_iand (M := mJ6_bitCount_0f7a4) (pc := 21) dJ6_bitCount_0f7a4_21 (k := ?_)
  have hz21 := zandR (zushr (j - (zand (zushr j 1) 1431655765)) 2) 858993459
  refine g_iadd (M := mJ6_bitCount_0f7a4) (pc := 22) dJ6_bitCount_0f7a4_22 (k := ?_)
  refine g_istore_0 (M := mJ6_bitCount_0f7a4) (pc := 23) dJ6_bitCount_0f7a4_23 (k := ?_)
  refine g_iload_n (M := mJ6_bitCount_0f7a4) (pc := 24) dJ6_bitCount_0f7a4_24 rfl (k := ?_)
  refine g_iload_n (M := mJ6_bitCount_0f7a4) (pc := 25) dJ6_bitCount_0f7a4_25 rfl (k := ?_)
  refine g_iconst (M := mJ6_bitCount_0f7a4) (pc := 26) dJ6_bitCount_0f7a4_26 (k := ?_)
  refine g_iushr (M := mJ6_bitCount_0f7a4) (pc := 27) dJ6_bitCount_0f7a4_27 (k := ?_)
  have hz27 := zushrR ((zand (j - (zand (zushr j 1) 1431655765)) 858993459) + (zand (zushr (j - (zand (zushr j 1) 1431655765)) 2) 858993459)) 4
  refine g_iadd (M := mJ6_bitCount_0f7a4) (pc := 28) dJ6_bitCount_0f7a4_28 (k := ?_)
  refine g_ldcw (M := mJ6_bitCount_0f7a4) (pc := 29) (x := 252645135) kJ6_267 dJ6_bitCount_0f7a4_29 (k := ?_)
  refine g_iand (M := mJ6_bitCount_0f7a4) (pc := 32) dJ6_bitCount_0f7a4_32 (k := ?_)
  have hz32 := zandR (((zand (j - (zand (zushr j 1) 1431655765)) 858993459) + (zand (zushr (j - (zand (zushr j 1) 1431655765)) 2) 858993459)) + (zushr ((zand (j - (zand (zushr j 1) 1431655765)) 858993459) + (zand (zushr (j - (zand (zushr j 1) 1431655765)) 2) 858993459)) 4)) 252645135
  refine g_istore_0 (M := mJ6_bitCount_0f7a4) (pc := 33) dJ6_bitCount_0f7a4_33 (k := ?_)
  refine g_iload_n (M := mJ6_bitCount_0f7a4) (pc := 34) dJ6_bitCount_0f7a4_34 rfl (k := ?_)
  refine g_iload_n (M := mJ6_bitCount_0f7a4) (pc := 35) dJ6_bitCount_0f7a4_35 rfl (k := ?_)
  refine g_bipush (M := mJ6_bitCount_0f7a4) (pc := 36) dJ6_bitCount_0f7a4_36 (k := ?_)
  refine g_iushr (M := mJ6_bitCount_0f7a4) (pc := 38) dJ6_bitCount_0f7a4_38 (k := ?_)
  have hz38 := zushrR (zand (((zand (j - (zand (zushr j 1) 1431655765)) 858993459) + (zand (zushr (j - (zand (zushr j 1) 1431655765)) 2) 858993459)) + (zushr ((zand (j - (zand (zushr j 1) 1431655765)) 858993459) + (zand (zushr (j - (zand (zushr j 1) 1431655765)) 2) 858993459)) 4)) 252645135) 8
  refine g_iadd (M := mJ6_bitCount_0f7a4) (pc := 39) dJ6_bitCount_0f7a4_39 (k := ?_)
  refine g_istore_0 (M := mJ6_bitCount_0f7a4) (pc := 40) dJ6_bitCount_0f7a4_40 (k := ?_)
  refine g_iload_n (M := mJ6_bitCount_0f7a4) (pc := 41) dJ6_bitCount_0f7a4_41 rfl (k := ?_)
  refine g_iload_n (M := mJ6_bitCount_0f7a4) (pc := 42) dJ6_bitCount_0f7a4_42 rfl (k := ?_)
  refine g_bipush (M := mJ6_bitCount_0f7a4) (pc := 43) dJ6_bitCount_0f7a4_43 (k := ?_)
  refine g_iushr (M := mJ6_bitCount_0f7a4) (pc := 45) dJ6_bitCount_0f7a4_45 (k := ?_)
  have hz45 := zushrR ((zand (((zand (j - (zand (zushr j 1) 1431655765)) 858993459) + (zand (zushr (j - (zand (zushr j 1) 1431655765)) 2) 858993459)) + (zushr ((zand (j - (zand (zushr j 1) 1431655765)) 858993459) + (zand (zushr (j - (zand (zushr j 1) 1431655765)) 2) 858993459)) 4)) 252645135) + (zushr (zand (((zand (j - (zand (zushr j 1) 1431655765)) 858993459) + (zand (zushr (j - (zand (zushr j 1) 1431655765)) 2) 858993459)) + (zushr ((zand (j - (zand (zushr j 1) 1431655765)) 858993459) + (zand (zushr (j - (zand (zushr j 1) 1431655765)) 2) 858993459)) 4)) 252645135) 8)) 16
  refine g_iadd (M := mJ6_bitCount_0f7a4) (pc := 46) dJ6_bitCount_0f7a4_46 (k := ?_)
  refine g_istore_0 (M := mJ6_bitCount_0f7a4) (pc := 47) dJ6_bitCount_0f7a4_47 (k := ?_)
  refine g_iload_n (M := mJ6_bitCount_0f7a4) (pc := 48) dJ6_bitCount_0f7a4_48 rfl (k := ?_)
  refine g_bipush (M := mJ6_bitCount_0f7a4) (pc := 49) dJ6_bitCount_0f7a4_49 (k := ?_)
  refine g_iand (M := mJ6_bitCount_0f7a4) (pc := 51) dJ6_bitCount_0f7a4_51 (k := ?_)
  have hz51 := zandR (((zand (((zand (j - (zand (zushr j 1) 1431655765)) 858993459) + (zand (zushr (j - (zand (zushr j 1) 1431655765)) 2) 858993459)) + (zushr ((zand (j - (zand (zushr j 1) 1431655765)) 858993459) + (zand (zushr (j - (zand (zushr j 1) 1431655765)) 2) 858993459)) 4)) 252645135) + (zushr (zand (((zand (j - (zand (zushr j 1) 1431655765)) 858993459) + (zand (zushr (j - (zand (zushr j 1) 1431655765)) 2) 858993459)) + (zushr ((zand (j - (zand (zushr j 1) 1431655765)) 858993459) + (zand (zushr (j - (zand (zushr j 1) 1431655765)) 2) 858993459)) 4)) 252645135) 8)) + (zushr ((zand (((zand (j - (zand (zushr j 1) 1431655765)) 858993459) + (zand (zushr (j - (zand (zushr j 1) 1431655765)) 2) 858993459)) + (zushr ((zand (j - (zand (zushr j 1) 1431655765)) 858993459) + (zand (zushr (j - (zand (zushr j 1) 1431655765)) 2) 858993459)) 4)) 252645135) + (zushr (zand (((zand (j - (zand (zushr j 1) 1431655765)) 858993459) + (zand (zushr (j - (zand (zushr j 1) 1431655765)) 2) 858993459)) + (zushr ((zand (j - (zand (zushr j 1) 1431655765)) 858993459) + (zand (zushr (j - (zand (zushr j 1) 1431655765)) 2) 858993459)) 4)) 252645135) 8)) 16)) 63
  refine g_iret (M := mJ6_bitCount_0f7a4) (pc := 52) rfl dJ6_bitCount_0f7a4_52 rfl ⟨_, _, rfl, rfl, ?_⟩
  refine ⟨?_, rfl⟩
  · omega
