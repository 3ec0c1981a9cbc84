theorem hfX0 : ∀ j, j < 5 → ∃ t, (fk 0)[j]? = some t ∧ ∀ ty, parseFieldDescriptor (TX0 j).2.2.1 = some ty → defaultValue ty = if t = 1 then .null else .int 0 := by
  intro j hj
  have key : ∀ j, j < 5 → ∃ t, (fk 0)[j]? = some t ∧ defaultValue (tyX0 j) = if t = 1 then .null else .int 0 := by
    intro j hj
    match j, hj with
    | 0, _ => exact ⟨_, rfl, rfl⟩
    | 1, _ => exact ⟨_, rfl, rfl⟩
    | 2, _ => exact ⟨_, rfl, rfl⟩
    | 3, _ => exact ⟨_, rfl, rfl⟩
    | 4, _ => exact ⟨_, rfl, rfl⟩
    | k + 5, h => exact absurd h (by omega)
  obtain ⟨t, a, b⟩ := key j hj
  exact ⟨t, a, fun ty h => by rw [← Option.some.inj ((tyX0_ok j hj).symm.trans h)]; exact b⟩
theorem hfX1 : ∀ j, j < 10 → ∃ t, (fk 1)[j]? = some t ∧ ∀ ty, parseFieldDescriptor (TX1 j).2.2.1 = some ty → defaultValue ty = if t = 1 then .null else .int 0 := by
  intro j hj
  have key : ∀ j, j < 10 → ∃ t, (fk 1)[j]? = some t ∧ defaultValue (tyX1 j) = if t = 1 then .null else .int 0 := by
    intro j hj
    match j, hj with
    | 0, _ => exact ⟨_, rfl, rfl⟩
    | 1, _ => exact ⟨_, rfl, rfl⟩
    | 2, _ => exact ⟨_, rfl, rfl⟩
    | 3, _ => exact ⟨_, rfl, rfl⟩
    | 4, _ => exact ⟨_, rfl, rfl⟩
    | 5, _ => exact ⟨_, rfl, rfl⟩
    | 6, _ => exact ⟨_, rfl, rfl⟩
    | 7, _ => exact ⟨_, rfl, rfl⟩
    | 8, _ => exact ⟨_, rfl, rfl⟩
    | 9, _ => exact ⟨_, rfl, rfl⟩
    | k + 10, h => exact absurd h (by omega)
  obtain ⟨t, a, b⟩ := key j hj
  exact ⟨t, a, fun ty h => by rw [← Option.some.inj ((tyX1_ok j hj).symm.trans h)]; exact b⟩
theorem hfX2 : ∀ j, j < 4 → ∃ t, (fk 2)[j]? = some t ∧ ∀ ty, parseFieldDescriptor (TX2 j).2.2.1 = some ty → defaultValue ty = if t = 1 then .null else .int 0 := by
  intro j hj
  have key : ∀ j, j < 4 → ∃ t, (fk 2)[j]? = some t ∧ defaultValue (tyX2 j) = if t = 1 then .null else .int 0 := by
    intro j hj
    match j, hj with
    | 0, _ => exact ⟨_, rfl, rfl⟩
    | 1, _ => exact ⟨_, rfl, rfl⟩
    | 2, _ => exact ⟨_, rfl, rfl⟩
    | 3, _ => exact ⟨_, rfl, rfl⟩
    | k + 4, h => exact absurd h (by omega)
  obtain ⟨t, a, b⟩ := key j hj
  exact ⟨t, a, fun ty h => by rw [← Option.some.inj ((tyX2_ok j hj).symm.trans h)]; exact b⟩
theorem hfX3 : ∀ j, j < 5 → ∃ t, (fk 3)[j]? = some t ∧ ∀ ty, parseFieldDescriptor (TX3 j).2.2.1 = some ty → defaultValue ty = if t = 1 then .null else .int 0 := by
  intro j hj
  have key : ∀ j, j < 5 → ∃ t, (fk 3)[j]? = some t ∧ defaultValue (tyX3 j) = if t = 1 then .null else .int 0 := by
    intro j hj
    match j, hj with
    | 0, _ => exact ⟨_, rfl, rfl⟩
    | 1, _ => exact ⟨_, rfl, rfl⟩
    | 2, _ => exact ⟨_, rfl, rfl⟩
    | 3, _ => exact ⟨_, rfl, rfl⟩
    | 4, _ => exact ⟨_, rfl, rfl⟩
    | k + 5, h => exact absurd h (by omega)
  obtain ⟨t, a, b⟩ := key j hj
  exact ⟨t, a, fun ty h => by rw [← Option.some.inj ((tyX3_ok j hj).symm.trans h)]; exact b⟩
theorem hfX4 : ∀ j, j < 3 → ∃ t, (fk 4)[j]? = some t ∧ ∀ ty, parseFieldDescriptor (TX4 j).2.2.1 = some ty → defaultValue ty = if t = 1 then .null else .int 0 := by
  intro j hj
  have key : ∀ j, j < 3 → ∃ t, (fk 4)[j]? = some t ∧ defaultValue (tyX4 j) = if t = 1 then .null else .int 0 := by
    intro j hj
    match j, hj with
    | 0, _ => exact ⟨_, rfl, rfl⟩
    | 1, _ => exact ⟨_, rfl, rfl⟩
    | 2, _ => exact ⟨_, rfl, rfl⟩
    | k + 3, h => exact absurd h (by omega)
  obtain ⟨t, a, b⟩ := key j hj
  exact ⟨t, a, fun ty h => by rw [← Option.some.inj ((tyX4_ok j hj).symm.trans h)]; exact b⟩
theorem hfX5 : ∀ j, j < 14 → ∃ t, (fk 5)[j]? = some t ∧ ∀ ty, parseFieldDescriptor (TX5 j).2.2.1 = some ty → defaultValue ty = if t = 1 then .null else .int 0 := by
  intro j hj
  have key : ∀ j, j < 14 → ∃ t, (fk 5)[j]? = some t ∧ defaultValue (tyX5 j) = if t = 1 then .null else .int 0 := by
    intro j hj
    match j, hj with
    | 0, _ => exact ⟨_, rfl, rfl⟩
    | 1, _ => exact ⟨_, rfl, rfl⟩
    | 2, _ => exact ⟨_, rfl, rfl⟩
    | 3, _ => exact ⟨_, rfl, rfl⟩
    | 4, _ => exact ⟨_, rfl, rfl⟩
    | 5, _ => exact ⟨_, rfl, rfl⟩
    | 6, _ => exact ⟨_, rfl, rfl⟩
    | 7, _ => exact ⟨_, rfl, rfl⟩
    | 8, _ => exact ⟨_, rfl, rfl⟩
    | 9, _ => exact ⟨_, rfl, rfl⟩
    | 10, _ => exact ⟨_, rfl, rfl⟩
    | 11, _ => exact ⟨_, rfl, rfl⟩
    | 12, _ => exact ⟨_, rfl, rfl⟩
    | 13, _ => exact ⟨_, rfl, rfl⟩
    | k + 14, h => exact absurd h (by omega)
  obtain ⟨t, a, b⟩ := key j hj
  exact ⟨t, a, fun ty h => by rw [← Option.some.inj ((tyX5_ok j hj).symm.trans h)]; exact b⟩
theorem hfX6 : ∀ j, j < 3 → ∃ t, (fk 6)[j]? = some t ∧ ∀ ty, parseFieldDescriptor (TX6 j).2.2.1 = some ty → defaultValue ty = if t = 1 then .null else .int 0 := by
  intro j hj
  have key : ∀ j, j < 3 → ∃ t, (fk 6)[j]? = some t ∧ defaultValue (tyX6 j) = if t = 1 then .null else .int 0 := by
    intro j hj
    match j, hj with
    | 0, _ => exact ⟨_, rfl, rfl⟩
    | 1, _ => exact ⟨_, rfl, rfl⟩
    | 2, _ => exact ⟨_, rfl, rfl⟩
    | k + 3, h => exact absurd h (by omega)
  obtain ⟨t, a, b⟩ := key j hj
  exact ⟨t, a, fun ty h => by rw [← Option.some.inj ((tyX6_ok j hj).symm.trans h)]; exact b⟩
theorem hfX7 : ∀ j, j < 7 → ∃ t, (fk 7)[j]? = some t ∧ ∀ ty, parseFieldDescriptor (TX7 j).2.2.1 = some ty → defaultValue ty = if t = 1 then .null else .int 0 := by
  intro j hj
  have key : ∀ j, j < 7 → ∃ t, (fk 7)[j]? = some t ∧ defaultValue (tyX7 j) = if t = 1 then .null else .int 0 := by
    intro j hj
    match j, hj with
    | 0, _ => exact ⟨_, rfl, rfl⟩
    | 1, _ => exact ⟨_, rfl, rfl⟩
    | 2, _ => exact ⟨_, rfl, rfl⟩
    | 3, _ => exact ⟨_, rfl, rfl⟩
    | 4, _ => exact ⟨_, rfl, rfl⟩
    | 5, _ => exact ⟨_, rfl, rfl⟩
    | 6, _ => exact ⟨_, rfl, rfl⟩
    | k + 7, h => exact absurd h (by omega)
  obtain ⟨t, a, b⟩ := key j hj
  exact ⟨t, a, fun ty h => by rw [← Option.some.inj ((tyX7_ok j hj).symm.trans h)]; exact b⟩
theorem hfX9 : ∀ j, j < 7 → ∃ t, (fk 8)[j]? = some t ∧ ∀ ty, parseFieldDescriptor (TX9 j).2.2.1 = some ty → defaultValue ty = if t = 1 then .null else .int 0 := by
  intro j hj
  have key : ∀ j, j < 7 → ∃ t, (fk 8)[j]? = some t ∧ defaultValue (tyX9 j) = if t = 1 then .null else .int 0 := by
    intro j hj
    match j, hj with
    | 0, _ => exact ⟨_, rfl, rfl⟩
    | 1, _ => exact ⟨_, rfl, rfl⟩
    | 2, _ => exact ⟨_, rfl, rfl⟩
    | 3, _ => exact ⟨_, rfl, rfl⟩
    | 4, _ => exact ⟨_, rfl, rfl⟩
    | 5, _ => exact ⟨_, rfl, rfl⟩
    | 6, _ => exact ⟨_, rfl, rfl⟩
    | k + 7, h => exact absurd h (by omega)
  obtain ⟨t, a, b⟩ := key j hj
  exact ⟨t, a, fun ty h => by rw [← Option.some.inj ((tyX9_ok j hj).symm.trans h)]; exact b⟩
theorem hfX10 : ∀ j, j < 8 → ∃ t, (fk 9)[j]? = some t ∧ ∀ ty, parseFieldDescriptor (TX10 j).2.2.1 = some ty → defaultValue ty = if t = 1 then .null else .int 0 := by
  intro j hj
  have key : ∀ j, j < 8 → ∃ t, (fk 9)[j]? = some t ∧ defaultValue (tyX10 j) = if t = 1 then .null else .int 0 := by
    intro j hj
    match j, hj with
    | 0, _ => exact ⟨_, rfl, rfl⟩
    | 1, _ => exact ⟨_, rfl, rfl⟩
    | 2, _ => exact ⟨_, rfl, rfl⟩
    | 3, _ => exact ⟨_, rfl, rfl⟩
    | 4, _ => exact ⟨_, rfl, rfl⟩
    | 5, _ => exact ⟨_, rfl, rfl⟩
    | 6, _ => exact ⟨_, rfl, rfl⟩
    | 7, _ => exact ⟨_, rfl, rfl⟩
    | k + 8, h => exact absurd h (by omega)
  obtain ⟨t, a, b⟩ := key j hj
  exact ⟨t, a, fun ty h => by rw [← Option.some.inj ((tyX10_ok j hj).symm.trans h)]; exact b⟩
theorem hfX11 : ∀ j, j < 70 → ∃ t, (fk 10)[j]? = some t ∧ ∀ ty, parseFieldDescriptor (TX11 j).2.2.1 = some ty → defaultValue ty = if t = 1 then .null else .int 0 := by
  intro j hj
  have key : ∀ j, j < 70 → ∃ t, (fk 10)[j]? = some t ∧ defaultValue (tyX11 j) = if t = 1 then .null else .int 0 := by
    intro j hj
    match j, hj with
    | 0, _ => exact ⟨_, rfl, rfl⟩
    | 1, _ => exact ⟨_, rfl, rfl⟩
    | 2, _ => exact ⟨_, rfl, rfl⟩
    | 3, _ => exact ⟨_, rfl, rfl⟩
    | 4, _ => exact ⟨_, rfl, rfl⟩
    | 5, _ => exact ⟨_, rfl, rfl⟩
    | 6, _ => exact ⟨_, rfl, rfl⟩
    | 7, _ => exact ⟨_, rfl, rfl⟩
    | 8, _ => exact ⟨_, rfl, rfl⟩
    | 9, _ => exact ⟨_, rfl, rfl⟩
    | 10, _ => exact ⟨_, rfl, rfl⟩
    | 11, _ => exact ⟨_, rfl, rfl⟩
    | 12, _ => exact ⟨_, rfl, rfl⟩
    | 13, _ => exact ⟨_, rfl, rfl⟩
    | 14, _ => exact ⟨_, rfl, rfl⟩
    | 15, _ => exact ⟨_, rfl, rfl⟩
    | 16, _ => exact ⟨_, rfl, rfl⟩
    | 17, _ => exact ⟨_, rfl, rfl⟩
    | 18, _ => exact ⟨_, rfl, rfl⟩
    | 19, _ => exact ⟨_, rfl, rfl⟩
    | 20, _ => exact ⟨_, rfl, rfl⟩
    | 21, _ => exact ⟨_, rfl, rfl⟩
    | 22, _ => exact ⟨_, rfl, rfl⟩
    | 23, _ => exact ⟨_, rfl, rfl⟩
    | 24, _ => exact ⟨_, rfl, rfl⟩
    | 25, _ => exact ⟨_, rfl, rfl⟩
    | 26, _ => exact ⟨_, rfl, rfl⟩
    | 27, _ => exact ⟨_, rfl, rfl⟩
    | 28, _ => exact ⟨_, rfl, rfl⟩
    | 29, _ => exact ⟨_, rfl, rfl⟩
    | 30, _ => exact ⟨_, rfl, rfl⟩
    | 31, _ => exact ⟨_, rfl, rfl⟩
    | 32, _ => exact ⟨_, rfl, rfl⟩
    | 33, _ => exact ⟨_, rfl, rfl⟩
    | 34, _ => exact ⟨_, rfl, rfl⟩
    | 35, _ => exact ⟨_, rfl, rfl⟩
    | 36, _ => exact ⟨_, rfl, rfl⟩
    | 37, _ => exact ⟨_, rfl, rfl⟩
    | 38, _ => exact ⟨_, rfl, rfl⟩
    | 39, _ => exact ⟨_, rfl, rfl⟩
    | 40, _ => exact ⟨_, rfl, rfl⟩
    | 41, _ => exact ⟨_, rfl, rfl⟩
    | 42, _ => exact ⟨_, rfl, rfl⟩
    | 43, _ => exact ⟨_, rfl, rfl⟩
    | 44, _ => exact ⟨_, rfl, rfl⟩
    | 45, _ => exact ⟨_, rfl, rfl⟩
    | 46, _ => exact ⟨_, rfl, rfl⟩
    | 47, _ => exact ⟨_, rfl, rfl⟩
    | 48, _ => exact ⟨_, rfl, rfl⟩
    | 49, _ => exact ⟨_, rfl, rfl⟩
    | 50, _ => exact ⟨_, rfl, rfl⟩
    | 51, _ => exact ⟨_, rfl, rfl⟩
    | 52, _ => exact ⟨_, rfl, rfl⟩
    | 53, _ => exact ⟨_, rfl, rfl⟩
    | 54, _ => exact ⟨_, rfl, rfl⟩
    | 55, _ => exact ⟨_, rfl, rfl⟩
    | 56, _ => exact ⟨_, rfl, rfl⟩
    | 57, _ => exact ⟨_, rfl, rfl⟩
    | 58, _ => exact ⟨_, rfl, rfl⟩
    | 59, _ => exact ⟨_, rfl, rfl⟩
    | 60, _ => exact ⟨_, rfl, rfl⟩
    | 61, _ => exact ⟨_, rfl, rfl⟩
    | 62, _ => exact ⟨_, rfl, rfl⟩
    | 63, _ => exact ⟨_, rfl, rfl⟩
    | 64, _ => exact ⟨_, rfl, rfl⟩
    | 65, _ => exact ⟨_, rfl, rfl⟩
    | 66, _ => exact ⟨_, rfl, rfl⟩
    | 67, _ => exact ⟨_, rfl, rfl⟩
    | 68, _ => exact ⟨_, rfl, rfl⟩
    | 69, _ => exact ⟨_, rfl, rfl⟩
    | k + 70, h => exact absurd h (by omega)
  obtain ⟨t, a, b⟩ := key j hj
  exact ⟨t, a, fun ty h => by rw [← Option.some.inj ((tyX11_ok j hj).symm.trans h)]; exact b⟩
set_option maxHeartbeats 4000000 in
set_option maxRecDepth 20000 in
theorem c_X4_init_10 (Γ : KT) (t : Nat) (ρ : Nat → Nat → Nat) (σ : Nat → Int → Int) (hZ : Z 11 ρ σ) : Ct Γ mX4_init 1 (2, 16) [vR Γ 10, vI 8] (11, ρ, σ) (pC 13 (upr (upr ρ 10 0 12) 10 1 13) σ) := by
  refine Ct.of rfl (Nat.le_of_ble_eq_true rfl) ?_
  show G Γ mX4_init 1 (2, 16) _ (0, 0) 0 [some (vR Γ 10), some (vI 8), none] [] (11, ρ, σ)
  refine g_aload_n (M := mX4_init) (pc := 0) dX4_init_0 rfl (k := ?_)
  refine g_objInit (M := mX4_init) (pc := 1) koX4_3 oi_1 oi_2 dX4_init_1 (by omega) (k := ?_)
  refine g_iload_n (M := mX4_init) (pc := 4) dX4_init_4 rfl (k := ?_)
  refine g_iconst (M := mX4_init) (pc := 5) dX4_init_5 (k := ?_)
  refine g_max3 (M := mX4_init) (pc := 6) (by omega) (by omega) kmX4_9 nm_max dX4_init_6 (by omega) ⟨Nat.le_of_ble_eq_true rfl, Nat.le_of_ble_eq_true rfl⟩ (Nat.le_of_ble_eq_true rfl) (k := fun c6 hz6 => ?_)
  refine g_istore_2 (M := mX4_init) (pc := 9) dX4_init_9 (k := ?_)
  refine g_aload_n (M := mX4_init) (pc := 10) dX4_init_10 rfl (k := ?_)
  refine g_iload_n (M := mX4_init) (pc := 11) dX4_init_11 rfl (k := ?_)
  refine g_newa (M := mX4_init) (pc := 12) (N := 8) rfl (Or.inl ⟨rfl, rfl⟩) (by omega) (Z_at hZ) dX4_init_12 (Nat.le_of_ble_eq_true rfl) (Nat.le_of_ble_eq_true rfl) (kk := ?_)
  have hZ12 : Z 12 ρ σ := Z_n hZ
  refine g_putr (M := mX4_init) (pc := 14) (by rfl) fX4_0 kX4_15 dX4_init_14 (by first | exact Or.inl ⟨_, rfl⟩ | exact Or.inr ⟨_, rfl⟩) (Or.inr ⟨rfl, rfl, linkP kX4_15⟩) (kk := ?_)
  have hZ14 : Z 12 (upr ρ 10 0 12) σ := Z_r hZ12 (by decide)
  refine g_aload_n (M := mX4_init) (pc := 17) dX4_init_17 rfl (k := ?_)
  refine g_iload_n (M := mX4_init) (pc := 18) dX4_init_18 rfl (k := ?_)
  refine g_newa (M := mX4_init) (pc := 19) (N := 8) rfl (Or.inl ⟨rfl, rfl⟩) (by omega) (Z_at hZ14) dX4_init_19 (Nat.le_of_ble_eq_true rfl) (Nat.le_of_ble_eq_true rfl) (kk := ?_)
  have hZ19 : Z 13 (upr ρ 10 0 12) σ := Z_n hZ14
  refine g_putr (M := mX4_init) (pc := 21) (by rfl) fX4_1 kX4_21 dX4_init_21 (by first | exact Or.inl ⟨_, rfl⟩ | exact Or.inr ⟨_, rfl⟩) (Or.inr ⟨rfl, rfl, linkP kX4_21⟩) (kk := ?_)
  have hZ21 : Z 13 (upr (upr ρ 10 0 12) 10 1 13) σ := Z_r hZ19 (by decide)
  refine g_vret (M := mX4_init) (pc := 24) rfl dX4_init_24 rfl ⟨rfl, rfl, hZ21⟩
set_option maxHeartbeats 4000000 in
set_option maxRecDepth 20000 in
theorem c_X4_init_13 (Γ : KT) (t : Nat) (ρ : Nat → Nat → Nat) (σ : Nat → Int → Int) (hZ : Z 14 ρ σ) : Ct Γ mX4_init 1 (2, 16) [vR Γ 13, vI 8] (14, ρ, σ) (pC 16 (upr (upr ρ 13 0 15) 13 1 16) σ) := by
  refine Ct.of rfl (Nat.le_of_ble_eq_true rfl) ?_
  show G Γ mX4_init 1 (2, 16) _ (0, 0) 0 [some (vR Γ 13), some (vI 8), none] [] (14, ρ, σ)
  refine g_aload_n (M := mX4_init) (pc := 0) dX4_init_0 rfl (k := ?_)
  refine g_objInit (M := mX4_init) (pc := 1) koX4_3 oi_1 oi_2 dX4_init_1 (by omega) (k := ?_)
  refine g_iload_n (M := mX4_init) (pc := 4) dX4_init_4 rfl (k := ?_)
  refine g_iconst (M := mX4_init) (pc := 5) dX4_init_5 (k := ?_)
  refine g_max3 (M := mX4_init) (pc := 6) (by omega) (by omega) kmX4_9 nm_max dX4_init_6 (by omega) ⟨Nat.le_of_ble_eq_true rfl, Nat.le_of_ble_eq_true rfl⟩ (Nat.le_of_ble_eq_true rfl) (k := fun c6 hz6 => ?_)
  refine g_istore_2 (M := mX4_init) (pc := 9) dX4_init_9 (k := ?_)
  refine g_aload_n (M := mX4_init) (pc := 10) dX4_init_10 rfl (k := ?_)
  refine g_iload_n (M := mX4_init) (pc := 11) dX4_init_11 rfl (k := ?_)
  refine g_newa (M := mX4_init) (pc := 12) (N := 8) rfl (Or.inl ⟨rfl, rfl⟩) (by omega) (Z_at hZ) dX4_init_12 (Nat.le_of_ble_eq_true rfl) (Nat.le_of_ble_eq_true rfl) (kk := ?_)
  have hZ12 : Z 15 ρ σ := Z_n hZ
  refine g_putr (M := mX4_init) (pc := 14) (by rfl) fX4_0 kX4_15 dX4_init_14 (by first | exact Or.inl ⟨_, rfl⟩ | exact Or.inr ⟨_, rfl⟩) (Or.inr ⟨rfl, rfl, linkP kX4_15⟩) (kk := ?_)
  have hZ14 : Z 15 (upr ρ 13 0 15) σ := Z_r hZ12 (by decide)
  refine g_aload_n (M := mX4_init) (pc := 17) dX4_init_17 rfl (k := ?_)
  refine g_iload_n (M := mX4_init) (pc := 18) dX4_init_18 rfl (k := ?_)
  refine g_newa (M := mX4_init) (pc := 19) (N := 8) rfl (Or.inl ⟨rfl, rfl⟩) (by omega) (Z_at hZ14) dX4_init_19 (Nat.le_of_ble_eq_true rfl) (Nat.le_of_ble_eq_true rfl) (kk := ?_)
  have hZ19 : Z 16 (upr ρ 13 0 15) σ := Z_n hZ14
  refine g_putr (M := mX4_init) (pc := 21) (by rfl) fX4_1 kX4_21 dX4_init_21 (by first | exact Or.inl ⟨_, rfl⟩ | exact Or.inr ⟨_, rfl⟩) (Or.inr ⟨rfl, rfl, linkP kX4_21⟩) (kk := ?_)
  have hZ21 : Z 16 (upr (upr ρ 13 0 15) 13 1 16) σ := Z_r hZ19 (by decide)
  refine g_vret (M := mX4_init) (pc := 24) rfl dX4_init_24 rfl ⟨rfl, rfl, hZ21⟩
set_option maxHeartbeats 4000000 in
set_option maxRecDepth 20000 in
theorem c_X4_init_16 (Γ : KT) (t : Nat) (ρ : Nat → Nat → Nat) (σ : Nat → Int → Int) (hZ : Z 17 ρ σ) : Ct Γ mX4_init 1 (2, 24) [vR Γ 16, vI 12] (17, ρ, σ) (pC 19 (upr (upr ρ 16 0 18) 16 1 19) σ) := by
  refine Ct.of rfl (Nat.le_of_ble_eq_true rfl) ?_
  show G Γ mX4_init 1 (2, 24) _ (0, 0) 0 [some (vR Γ 16), some (vI 12), none] [] (17, ρ, σ)
  refine g_aload_n (M := mX4_init) (pc := 0) dX4_init_0 rfl (k := ?_)
  refine g_objInit (M := mX4_init) (pc := 1) koX4_3 oi_1 oi_2 dX4_init_1 (by omega) (k := ?_)
  refine g_iload_n (M := mX4_init) (pc := 4) dX4_init_4 rfl (k := ?_)
  refine g_iconst (M := mX4_init) (pc := 5) dX4_init_5 (k := ?_)
  refine g_max3 (M := mX4_init) (pc := 6) (by omega) (by omega) kmX4_9 nm_max dX4_init_6 (by omega) ⟨Nat.le_of_ble_eq_true rfl, Nat.le_of_ble_eq_true rfl⟩ (Nat.le_of_ble_eq_true rfl) (k := fun c6 hz6 => ?_)
  refine g_istore_2 (M := mX4_init) (pc := 9) dX4_init_9 (k := ?_)
  refine g_aload_n (M := mX4_init) (pc := 10) dX4_init_10 rfl (k := ?_)
  refine g_iload_n (M := mX4_init) (pc := 11) dX4_init_11 rfl (k := ?_)
  refine g_newa (M := mX4_init) (pc := 12) (N := 12) rfl (Or.inl ⟨rfl, rfl⟩) (by omega) (Z_at hZ) dX4_init_12 (Nat.le_of_ble_eq_true rfl) (Nat.le_of_ble_eq_true rfl) (kk := ?_)
  have hZ12 : Z 18 ρ σ := Z_n hZ
  refine g_putr (M := mX4_init) (pc := 14) (by rfl) fX4_0 kX4_15 dX4_init_14 (by first | exact Or.inl ⟨_, rfl⟩ | exact Or.inr ⟨_, rfl⟩) (Or.inr ⟨rfl, rfl, linkP kX4_15⟩) (kk := ?_)
  have hZ14 : Z 18 (upr ρ 16 0 18) σ := Z_r hZ12 (by decide)
  refine g_aload_n (M := mX4_init) (pc := 17) dX4_init_17 rfl (k := ?_)
  refine g_iload_n (M := mX4_init) (pc := 18) dX4_init_18 rfl (k := ?_)
  refine g_newa (M := mX4_init) (pc := 19) (N := 12) rfl (Or.inl ⟨rfl, rfl⟩) (by omega) (Z_at hZ14) dX4_init_19 (Nat.le_of_ble_eq_true rfl) (Nat.le_of_ble_eq_true rfl) (kk := ?_)
  have hZ19 : Z 19 (upr ρ 16 0 18) σ := Z_n hZ14
  refine g_putr (M := mX4_init) (pc := 21) (by rfl) fX4_1 kX4_21 dX4_init_21 (by first | exact Or.inl ⟨_, rfl⟩ | exact Or.inr ⟨_, rfl⟩) (Or.inr ⟨rfl, rfl, linkP kX4_21⟩) (kk := ?_)
  have hZ21 : Z 19 (upr (upr ρ 16 0 18) 16 1 19) σ := Z_r hZ19 (by decide)
  refine g_vret (M := mX4_init) (pc := 24) rfl dX4_init_24 rfl ⟨rfl, rfl, hZ21⟩
set_option maxHeartbeats 4000000 in
set_option maxRecDepth 20000 in
theorem c_X4_init_42 (Γ : KT) (t : Nat) (ρ : Nat → Nat → Nat) (σ : Nat → Int → Int) (hZ : Z 43 ρ σ) : Ct Γ mX4_init 1 (2, 16) [vR Γ 42, vI 8] (43, ρ, σ) (pC 45 (upr (upr ρ 42 0 44) 42 1 45) σ) := by
  refine Ct.of rfl (Nat.le_of_ble_eq_true rfl) ?_
  show G Γ mX4_init 1 (2, 16) _ (0, 0) 0 [some (vR Γ 42), some (vI 8), none] [] (43, ρ, σ)
  refine g_aload_n (M := mX4_init) (pc := 0) dX4_init_0 rfl (k := ?_)
  refine g_objInit (M := mX4_init) (pc := 1) koX4_3 oi_1 oi_2 dX4_init_1 (by omega) (k := ?_)
  refine g_iload_n (M := mX4_init) (pc := 4) dX4_init_4 rfl (k := ?_)
  refine g_iconst (M := mX4_init) (pc := 5) dX4_init_5 (k := ?_)
  refine g_max3 (M := mX4_init) (pc := 6) (by omega) (by omega) kmX4_9 nm_max dX4_init_6 (by omega) ⟨Nat.le_of_ble_eq_true rfl, Nat.le_of_ble_eq_true rfl⟩ (Nat.le_of_ble_eq_true rfl) (k := fun c6 hz6 => ?_)
  refine g_istore_2 (M := mX4_init) (pc := 9) dX4_init_9 (k := ?_)
  refine g_aload_n (M := mX4_init) (pc := 10) dX4_init_10 rfl (k := ?_)
  refine g_iload_n (M := mX4_init) (pc := 11) dX4_init_11 rfl (k := ?_)
  refine g_newa (M := mX4_init) (pc := 12) (N := 8) rfl (Or.inl ⟨rfl, rfl⟩) (by omega) (Z_at hZ) dX4_init_12 (Nat.le_of_ble_eq_true rfl) (Nat.le_of_ble_eq_true rfl) (kk := ?_)
  have hZ12 : Z 44 ρ σ := Z_n hZ
  refine g_putr (M := mX4_init) (pc := 14) (by rfl) fX4_0 kX4_15 dX4_init_14 (by first | exact Or.inl ⟨_, rfl⟩ | exact Or.inr ⟨_, rfl⟩) (Or.inr ⟨rfl, rfl, linkP kX4_15⟩) (kk := ?_)
  have hZ14 : Z 44 (upr ρ 42 0 44) σ := Z_r hZ12 (by decide)
  refine g_aload_n (M := mX4_init) (pc := 17) dX4_init_17 rfl (k := ?_)
  refine g_iload_n (M := mX4_init) (pc := 18) dX4_init_18 rfl (k := ?_)
  refine g_newa (M := mX4_init) (pc := 19) (N := 8) rfl (Or.inl ⟨rfl, rfl⟩) (by omega) (Z_at hZ14) dX4_init_19 (Nat.le_of_ble_eq_true rfl) (Nat.le_of_ble_eq_true rfl) (kk := ?_)
  have hZ19 : Z 45 (upr ρ 42 0 44) σ := Z_n hZ14
  refine g_putr (M := mX4_init) (pc := 21) (by rfl) fX4_1 kX4_21 dX4_init_21 (by first | exact Or.inl ⟨_, rfl⟩ | exact Or.inr ⟨_, rfl⟩) (Or.inr ⟨rfl, rfl, linkP kX4_21⟩) (kk := ?_)
  have hZ21 : Z 45 (upr (upr ρ 42 0 44) 42 1 45) σ := Z_r hZ19 (by decide)
  refine g_vret (M := mX4_init) (pc := 24) rfl dX4_init_24 rfl ⟨rfl, rfl, hZ21⟩
set_option maxHeartbeats 4000000 in
set_option maxRecDepth 20000 in
theorem c_X4_init_45 (Γ : KT) (t : Nat) (ρ : Nat → Nat → Nat) (σ : Nat → Int → Int) (hZ : Z 46 ρ σ) : Ct Γ mX4_init 1 (2, 16) [vR Γ 45, vI 8] (46, ρ, σ) (pC 48 (upr (upr ρ 45 0 47) 45 1 48) σ) := by
  refine Ct.of rfl (Nat.le_of_ble_eq_true rfl) ?_
  show G Γ mX4_init 1 (2, 16) _ (0, 0) 0 [some (vR Γ 45), some (vI 8), none] [] (46, ρ, σ)
  refine g_aload_n (M := mX4_init) (pc := 0) dX4_init_0 rfl (k := ?_)
  refine g_objInit (M := mX4_init) (pc := 1) koX4_3 oi_1 oi_2 dX4_init_1 (by omega) (k := ?_)
  refine g_iload_n (M := mX4_init) (pc := 4) dX4_init_4 rfl (k := ?_)
  refine g_iconst (M := mX4_init) (pc := 5) dX4_init_5 (k := ?_)
  refine g_max3 (M := mX4_init) (pc := 6) (by omega) (by omega) kmX4_9 nm_max dX4_init_6 (by omega) ⟨Nat.le_of_ble_eq_true rfl, Nat.le_of_ble_eq_true rfl⟩ (Nat.le_of_ble_eq_true rfl) (k := fun c6 hz6 => ?_)
  refine g_istore_2 (M := mX4_init) (pc := 9) dX4_init_9 (k := ?_)
  refine g_aload_n (M := mX4_init) (pc := 10) dX4_init_10 rfl (k := ?_)
  refine g_iload_n (M := mX4_init) (pc := 11) dX4_init_11 rfl (k := ?_)
  refine g_newa (M := mX4_init) (pc := 12) (N := 8) rfl (Or.inl ⟨rfl, rfl⟩) (by omega) (Z_at hZ) dX4_init_12 (Nat.le_of_ble_eq_true rfl) (Nat.le_of_ble_eq_true rfl) (kk := ?_)
  have hZ12 : Z 47 ρ σ := Z_n hZ
  refine g_putr (M := mX4_init) (pc := 14) (by rfl) fX4_0 kX4_15 dX4_init_14 (by first | exact Or.inl ⟨_, rfl⟩ | exact Or.inr ⟨_, rfl⟩) (Or.inr ⟨rfl, rfl, linkP kX4_15⟩) (kk := ?_)
  have hZ14 : Z 47 (upr ρ 45 0 47) σ := Z_r hZ12 (by decide)
  refine g_aload_n (M := mX4_init) (pc := 17) dX4_init_17 rfl (k := ?_)
  refine g_iload_n (M := mX4_init) (pc := 18) dX4_init_18 rfl (k := ?_)
  refine g_newa (M := mX4_init) (pc := 19) (N := 8) rfl (Or.inl ⟨rfl, rfl⟩) (by omega) (Z_at hZ14) dX4_init_19 (Nat.le_of_ble_eq_true rfl) (Nat.le_of_ble_eq_true rfl) (kk := ?_)
  have hZ19 : Z 48 (upr ρ 45 0 47) σ := Z_n hZ14
  refine g_putr (M := mX4_init) (pc := 21) (by rfl) fX4_1 kX4_21 dX4_init_21 (by first | exact Or.inl ⟨_, rfl⟩ | exact Or.inr ⟨_, rfl⟩) (Or.inr ⟨rfl, rfl, linkP kX4_21⟩) (kk := ?_)
  have hZ21 : Z 48 (upr (upr ρ 45 0 47) 45 1 48) σ := Z_r hZ19 (by decide)
  refine g_vret (M := mX4_init) (pc := 24) rfl dX4_init_24 rfl ⟨rfl, rfl, hZ21⟩
set_option maxHeartbeats 4000000 in
set_option maxRecDepth 20000 in
theorem c_X4_init_48 (Γ : KT) (t : Nat) (ρ : Nat → Nat → Nat) (σ : Nat → Int → Int) (hZ : Z 49 ρ σ) : Ct Γ mX4_init 1 (2, 24) [vR Γ 48, vI 12] (49, ρ, σ) (pC 51 (upr (upr ρ 48 0 50) 48 1 51) σ) := by
  refine Ct.of rfl (Nat.le_of_ble_eq_true rfl) ?_
  show G Γ mX4_init 1 (2, 24) _ (0, 0) 0 [some (vR Γ 48), some (vI 12), none] [] (49, ρ, σ)
  refine g_aload_n (M := mX4_init) (pc := 0) dX4_init_0 rfl (k := ?_)
  refine g_objInit (M := mX4_init) (pc := 1) koX4_3 oi_1 oi_2 dX4_init_1 (by omega) (k := ?_)
  refine g_iload_n (M := mX4_init) (pc := 4) dX4_init_4 rfl (k := ?_)
  refine g_iconst (M := mX4_init) (pc := 5) dX4_init_5 (k := ?_)
  refine g_max3 (M := mX4_init) (pc := 6) (by omega) (by omega) kmX4_9 nm_max dX4_init_6 (by omega) ⟨Nat.le_of_ble_eq_true rfl, Nat.le_of_ble_eq_true rfl⟩ (Nat.le_of_ble_eq_true rfl) (k := fun c6 hz6 => ?_)
  refine g_istore_2 (M := mX4_init) (pc := 9) dX4_init_9 (k := ?_)
  refine g_aload_n (M := mX4_init) (pc := 10) dX4_init_10 rfl (k := ?_)
  refine g_iload_n (M := mX4_init) (pc := 11) dX4_init_11 rfl (k := ?_)
  refine g_newa (M := mX4_init) (pc := 12) (N := 12) rfl (Or.inl ⟨rfl, rfl⟩) (by omega) (Z_at hZ) dX4_init_12 (Nat.le_of_ble_eq_true rfl) (Nat.le_of_ble_eq_true rfl) (kk := ?_)
  have hZ12 : Z 50 ρ σ := Z_n hZ
  refine g_putr (M := mX4_init) (pc := 14) (by rfl) fX4_0 kX4_15 dX4_init_14 (by first | exact Or.inl ⟨_, rfl⟩ | exact Or.inr ⟨_, rfl⟩) (Or.inr ⟨rfl, rfl, linkP kX4_15⟩) (kk := ?_)
  have hZ14 : Z 50 (upr ρ 48 0 50) σ := Z_r hZ12 (by decide)
  refine g_aload_n (M := mX4_init) (pc := 17) dX4_init_17 rfl (k := ?_)
  refine g_iload_n (M := mX4_init) (pc := 18) dX4_init_18 rfl (k := ?_)
  refine g_newa (M := mX4_init) (pc := 19) (N := 12) rfl (Or.inl ⟨rfl, rfl⟩) (by omega) (Z_at hZ14) dX4_init_19 (Nat.le_of_ble_eq_true rfl) (Nat.le_of_ble_eq_true rfl) (kk := ?_)
  have hZ19 : Z 51 (upr ρ 48 0 50) σ := Z_n hZ14
  refine g_putr (M := mX4_init) (pc := 21) (by rfl) fX4_1 kX4_21 dX4_init_21 (by first | exact Or.inl ⟨_, rfl⟩ | exact Or.inr ⟨_, rfl⟩) (Or.inr ⟨rfl, rfl, linkP kX4_21⟩) (kk := ?_)
  have hZ21 : Z 51 (upr (upr ρ 48 0 50) 48 1 51) σ := Z_r hZ19 (by decide)
  refine g_vret (M := mX4_init) (pc := 24) rfl dX4_init_24 rfl ⟨rfl, rfl, hZ21⟩
set_option maxHeartbeats 4000000 in
set_option maxRecDepth 20000 in
theorem c_X5_init_1 (Γ : KT) (t : Nat) (ρ : Nat → Nat → Nat) (σ : Nat → Int → Int) (hZ : Z 2 ρ σ) : Ct Γ mX5_init 2 (17, 107) [vR Γ 1] (2, ρ, σ) (pC 19 (upr (upr (upr (upr (upr (upr (upr (upr (upr (upr (upr (upr (upr (upr (upr (upr (upr ρ 1 1 3) 1 2 4) 1 3 5) 1 4 6) 1 5 7) 1 7 8) 1 8 9) 1 9 10) 10 0 12) 10 1 13) 1 10 11) 13 0 15) 13 1 16) 1 11 14) 16 0 18) 16 1 19) 1 12 17) (up σ 1 13 (-1))) := by
  refine Ct.of rfl (Nat.le_of_ble_eq_true rfl) ?_
  show G Γ mX5_init 2 (17, 107) _ (0, 0) 0 [some (vR Γ 1)] [] (2, ρ, σ)
  refine g_aload_n (M := mX5_init) (pc := 0) dX5_init_0 rfl (k := ?_)
  refine g_objInit (M := mX5_init) (pc := 1) koX5_3 oi_1 oi_2 dX5_init_1 (by omega) (k := ?_)
  refine g_aload_n (M := mX5_init) (pc := 4) dX5_init_4 rfl (k := ?_)
  refine g_bipush (M := mX5_init) (pc := 5) dX5_init_5 (k := ?_)
  refine g_newa (M := mX5_init) (pc := 7) (N := 6) rfl (Or.inl ⟨rfl, rfl⟩) (by omega) (Z_at hZ) dX5_init_7 (Nat.le_of_ble_eq_true rfl) (Nat.le_of_ble_eq_true rfl) (kk := ?_)
  have hZ7 : Z 3 ρ σ := Z_n hZ
  refine g_putr (M := mX5_init) (pc := 9) (by rfl) fX5_1 kX5_9 dX5_init_9 (by first | exact Or.inl ⟨_, rfl⟩ | exact Or.inr ⟨_, rfl⟩) (Or.inr ⟨rfl, rfl, linkP kX5_9⟩) (kk := ?_)
  have hZ9 : Z 3 (upr ρ 1 1 3) σ := Z_r hZ7 (by decide)
  refine g_aload_n (M := mX5_init) (pc := 12) dX5_init_12 rfl (k := ?_)
  refine g_bipush (M := mX5_init) (pc := 13) dX5_init_13 (k := ?_)
  refine g_newa (M := mX5_init) (pc := 15) (N := 6) rfl (Or.inl ⟨rfl, rfl⟩) (by omega) (Z_at hZ9) dX5_init_15 (Nat.le_of_ble_eq_true rfl) (Nat.le_of_ble_eq_true rfl) (kk := ?_)
  have hZ15 : Z 4 (upr ρ 1 1 3) σ := Z_n hZ9
  refine g_putr (M := mX5_init) (pc := 17) (by rfl) fX5_2 kX5_15 dX5_init_17 (by first | exact Or.inl ⟨_, rfl⟩ | exact Or.inr ⟨_, rfl⟩) (Or.inr ⟨rfl, rfl, linkP kX5_15⟩) (kk := ?_)
  have hZ17 : Z 4 (upr (upr ρ 1 1 3) 1 2 4) σ := Z_r hZ15 (by decide)
  refine g_aload_n (M := mX5_init) (pc := 20) dX5_init_20 rfl (k := ?_)
  refine g_bipush (M := mX5_init) (pc := 21) dX5_init_21 (k := ?_)
  refine g_newa (M := mX5_init) (pc := 23) (N := 6) rfl (Or.inl ⟨rfl, rfl⟩) (by omega) (Z_at hZ17) dX5_init_23 (Nat.le_of_ble_eq_true rfl) (Nat.le_of_ble_eq_true rfl) (kk := ?_)
  have hZ23 : Z 5 (upr (upr ρ 1 1 3) 1 2 4) σ := Z_n hZ17
  refine g_putr (M := mX5_init) (pc := 25) (by rfl) fX5_3 kX5_18 dX5_init_25 (by first | exact Or.inl ⟨_, rfl⟩ | exact Or.inr ⟨_, rfl⟩) (Or.inr ⟨rfl, rfl, linkP kX5_18⟩) (kk := ?_)
  have hZ25 : Z 5 (upr (upr (upr ρ 1 1 3) 1 2 4) 1 3 5) σ := Z_r hZ23 (by decide)
  refine g_aload_n (M := mX5_init) (pc := 28) dX5_init_28 rfl (k := ?_)
  refine g_bipush (M := mX5_init) (pc := 29) dX5_init_29 (k := ?_)
  refine g_newa (M := mX5_init) (pc := 31) (N := 6) rfl (Or.inl ⟨rfl, rfl⟩) (by omega) (Z_at hZ25) dX5_init_31 (Nat.le_of_ble_eq_true rfl) (Nat.le_of_ble_eq_true rfl) (kk := ?_)
  have hZ31 : Z 6 (upr (upr (upr ρ 1 1 3) 1 2 4) 1 3 5) σ := Z_n hZ25
  refine g_putr (M := mX5_init) (pc := 33) (by rfl) fX5_4 kX5_21 dX5_init_33 (by first | exact Or.inl ⟨_, rfl⟩ | exact Or.inr ⟨_, rfl⟩) (Or.inr ⟨rfl, rfl, linkP kX5_21⟩) (kk := ?_)
  have hZ33 : Z 6 (upr (upr (upr (upr ρ 1 1 3) 1 2 4) 1 3 5) 1 4 6) σ := Z_r hZ31 (by decide)
  refine g_aload_n (M := mX5_init) (pc := 36) dX5_init_36 rfl (k := ?_)
  refine g_bipush (M := mX5_init) (pc := 37) dX5_init_37 (k := ?_)
  refine g_newa (M := mX5_init) (pc := 39) (N := 6) rfl (Or.inl ⟨rfl, rfl⟩) (by omega) (Z_at hZ33) dX5_init_39 (Nat.le_of_ble_eq_true rfl) (Nat.le_of_ble_eq_true rfl) (kk := ?_)
  have hZ39 : Z 7 (upr (upr (upr (upr ρ 1 1 3) 1 2 4) 1 3 5) 1 4 6) σ := Z_n hZ33
  refine g_putr (M := mX5_init) (pc := 41) (by rfl) fX5_5 kX5_24 dX5_init_41 (by first | exact Or.inl ⟨_, rfl⟩ | exact Or.inr ⟨_, rfl⟩) (Or.inr ⟨rfl, rfl, linkP kX5_24⟩) (kk := ?_)
  have hZ41 : Z 7 (upr (upr (upr (upr (upr ρ 1 1 3) 1 2 4) 1 3 5) 1 4 6) 1 5 7) σ := Z_r hZ39 (by decide)
  refine g_aload_n (M := mX5_init) (pc := 44) dX5_init_44 rfl (k := ?_)
  refine g_iconst (M := mX5_init) (pc := 45) dX5_init_45 (k := ?_)
  refine g_newa (M := mX5_init) (pc := 46) (N := 4) rfl (Or.inl ⟨rfl, rfl⟩) (by omega) (Z_at hZ41) dX5_init_46 (Nat.le_of_ble_eq_true rfl) (Nat.le_of_ble_eq_true rfl) (kk := ?_)
  have hZ46 : Z 8 (upr (upr (upr (upr (upr ρ 1 1 3) 1 2 4) 1 3 5) 1 4 6) 1 5 7) σ := Z_n hZ41
  refine g_putr (M := mX5_init) (pc := 48) (by rfl) fX5_7 kX5_27 dX5_init_48 (by first | exact Or.inl ⟨_, rfl⟩ | exact Or.inr ⟨_, rfl⟩) (Or.inr ⟨rfl, rfl, linkP kX5_27⟩) (kk := ?_)
  have hZ48 : Z 8 (upr (upr (upr (upr (upr (upr ρ 1 1 3) 1 2 4) 1 3 5) 1 4 6) 1 5 7) 1 7 8) σ := Z_r hZ46 (by decide)
  refine g_aload_n (M := mX5_init) (pc := 51) dX5_init_51 rfl (k := ?_)
  refine g_iconst (M := mX5_init) (pc := 52) dX5_init_52 (k := ?_)
  refine g_newa (M := mX5_init) (pc := 53) (N := 4) rfl (Or.inl ⟨rfl, rfl⟩) (by omega) (Z_at hZ48) dX5_init_53 (Nat.le_of_ble_eq_true rfl) (Nat.le_of_ble_eq_true rfl) (kk := ?_)
  have hZ53 : Z 9 (upr (upr (upr (upr (upr (upr ρ 1 1 3) 1 2 4) 1 3 5) 1 4 6) 1 5 7) 1 7 8) σ := Z_n hZ48
  refine g_putr (M := mX5_init) (pc := 55) (by rfl) fX5_8 kX5_30 dX5_init_55 (by first | exact Or.inl ⟨_, rfl⟩ | exact Or.inr ⟨_, rfl⟩) (Or.inr ⟨rfl, rfl, linkP kX5_30⟩) (kk := ?_)
  have hZ55 : Z 9 (upr (upr (upr (upr (upr (upr (upr ρ 1 1 3) 1 2 4) 1 3 5) 1 4 6) 1 5 7) 1 7 8) 1 8 9) σ := Z_r hZ53 (by decide)
  refine g_aload_n (M := mX5_init) (pc := 58) dX5_init_58 rfl (k := ?_)
  refine g_iconst (M := mX5_init) (pc := 59) dX5_init_59 (k := ?_)
  refine g_newa (M := mX5_init) (pc := 60) (N := 4) rfl (Or.inl ⟨rfl, rfl⟩) (by omega) (Z_at hZ55) dX5_init_60 (Nat.le_of_ble_eq_true rfl) (Nat.le_of_ble_eq_true rfl) (kk := ?_)
  have hZ60 : Z 10 (upr (upr (upr (upr (upr (upr (upr ρ 1 1 3) 1 2 4) 1 3 5) 1 4 6) 1 5 7) 1 7 8) 1 8 9) σ := Z_n hZ55
  refine g_putr (M := mX5_init) (pc := 62) (by rfl) fX5_9 kX5_33 dX5_init_62 (by first | exact Or.inl ⟨_, rfl⟩ | exact Or.inr ⟨_, rfl⟩) (Or.inr ⟨rfl, rfl, linkP kX5_33⟩) (kk := ?_)
  have hZ62 : Z 10 (upr (upr (upr (upr (upr (upr (upr (upr ρ 1 1 3) 1 2 4) 1 3 5) 1 4 6) 1 5 7) 1 7 8) 1 8 9) 1 9 10) σ := Z_r hZ60 (by decide)
  refine g_aload_n (M := mX5_init) (pc := 65) dX5_init_65 rfl (k := ?_)
  refine g_new (M := mX5_init) (pc := 66) (ci := 4) rfl rfl newX4 kX5_36 hfX4 (Z_at hZ62) dX5_init_66 (Nat.le_of_ble_eq_true rfl) (Nat.le_of_ble_eq_true rfl) (kk := ?_)
  have hZ66 : Z 11 (upr (upr (upr (upr (upr (upr (upr (upr ρ 1 1 3) 1 2 4) 1 3 5) 1 4 6) 1 5 7) 1 7 8) 1 8 9) 1 9 10) σ := Z_n hZ62
  refine g_dupR (M := mX5_init) (pc := 69) dX5_init_69 (k := ?_)
  refine g_bipush (M := mX5_init) (pc := 70) dX5_init_70 (k := ?_)
  refine g_cIC (M := mX5_init) (pc := 72) (c_X4_init_10 Γ t _ _ hZ66) qX4_init vX4_init rfl kX5_38 rfl (by omega) (by decide) ⟨Nat.le_of_ble_eq_true rfl, Nat.le_of_ble_eq_true rfl⟩ (Nat.le_of_ble_eq_true rfl) dX5_init_72 rfl (kk := fun hZ72 => ?_)
  refine g_putr (M := mX5_init) (pc := 75) (by rfl) fX5_10 kX5_41 dX5_init_75 (by first | exact Or.inl ⟨_, rfl⟩ | exact Or.inr ⟨_, rfl⟩) (Or.inr ⟨rfl, rfl, linkP kX5_41⟩) (kk := ?_)
  have hZ75 : Z 13 (upr (upr (upr (upr (upr (upr (upr (upr (upr (upr (upr ρ 1 1 3) 1 2 4) 1 3 5) 1 4 6) 1 5 7) 1 7 8) 1 8 9) 1 9 10) 10 0 12) 10 1 13) 1 10 11) σ := Z_r hZ72 (by decide)
  refine g_aload_n (M := mX5_init) (pc := 78) dX5_init_78 rfl (k := ?_)
  refine g_new (M := mX5_init) (pc := 79) (ci := 4) rfl rfl newX4 kX5_36 hfX4 (Z_at hZ75) dX5_init_79 (Nat.le_of_ble_eq_true rfl) (Nat.le_of_ble_eq_true rfl) (kk := ?_)
  have hZ79 : Z 14 (upr (upr (upr (upr (upr (upr (upr (upr (upr (upr (upr ρ 1 1 3) 1 2 4) 1 3 5) 1 4 6) 1 5 7) 1 7 8) 1 8 9) 1 9 10) 10 0 12) 10 1 13) 1 10 11) σ := Z_n hZ75
  refine g_dupR (M := mX5_init) (pc := 82) dX5_init_82 (k := ?_)
  refine g_bipush (M := mX5_init) (pc := 83) dX5_init_83 (k := ?_)
  refine g_cIC (M := mX5_init) (pc := 85) (c_X4_init_13 Γ t _ _ hZ79) qX4_init vX4_init rfl kX5_38 rfl (by omega) (by decide) ⟨Nat.le_of_ble_eq_true rfl, Nat.le_of_ble_eq_true rfl⟩ (Nat.le_of_ble_eq_true rfl) dX5_init_85 rfl (kk := fun hZ85 => ?_)
  refine g_putr (M := mX5_init) (pc := 88) (by rfl) fX5_11 kX5_45 dX5_init_88 (by first | exact Or.inl ⟨_, rfl⟩ | exact Or.inr ⟨_, rfl⟩) (Or.inr ⟨rfl, rfl, linkP kX5_45⟩) (kk := ?_)
  have hZ88 : Z 16 (upr (upr (upr (upr (upr (upr (upr (upr (upr (upr (upr (upr (upr (upr ρ 1 1 3) 1 2 4) 1 3 5) 1 4 6) 1 5 7) 1 7 8) 1 8 9) 1 9 10) 10 0 12) 10 1 13) 1 10 11) 13 0 15) 13 1 16) 1 11 14) σ := Z_r hZ85 (by decide)
  refine g_aload_n (M := mX5_init) (pc := 91) dX5_init_91 rfl (k := ?_)
  refine g_new (M := mX5_init) (pc := 92) (ci := 4) rfl rfl newX4 kX5_36 hfX4 (Z_at hZ88) dX5_init_92 (Nat.le_of_ble_eq_true rfl) (Nat.le_of_ble_eq_true rfl) (kk := ?_)
  have hZ92 : Z 17 (upr (upr (upr (upr (upr (upr (upr (upr (upr (upr (upr (upr (upr (upr ρ 1 1 3) 1 2 4) 1 3 5) 1 4 6) 1 5 7) 1 7 8) 1 8 9) 1 9 10) 10 0 12) 10 1 13) 1 10 11) 13 0 15) 13 1 16) 1 11 14) σ := Z_n hZ88
  refine g_dupR (M := mX5_init) (pc := 95) dX5_init_95 (k := ?_)
  refine g_bipush (M := mX5_init) (pc := 96) dX5_init_96 (k := ?_)
  refine g_cIC (M := mX5_init) (pc := 98) (c_X4_init_16 Γ t _ _ hZ92) qX4_init vX4_init rfl kX5_38 rfl (by omega) (by decide) ⟨Nat.le_of_ble_eq_true rfl, Nat.le_of_ble_eq_true rfl⟩ (Nat.le_of_ble_eq_true rfl) dX5_init_98 rfl (kk := fun hZ98 => ?_)
  refine g_putr (M := mX5_init) (pc := 101) (by rfl) fX5_12 kX5_48 dX5_init_101 (by first | exact Or.inl ⟨_, rfl⟩ | exact Or.inr ⟨_, rfl⟩) (Or.inr ⟨rfl, rfl, linkP kX5_48⟩) (kk := ?_)
  have hZ101 : Z 19 (upr (upr (upr (upr (upr (upr (upr (upr (upr (upr (upr (upr (upr (upr (upr (upr (upr ρ 1 1 3) 1 2 4) 1 3 5) 1 4 6) 1 5 7) 1 7 8) 1 8 9) 1 9 10) 10 0 12) 10 1 13) 1 10 11) 13 0 15) 13 1 16) 1 11 14) 16 0 18) 16 1 19) 1 12 17) σ := Z_r hZ98 (by decide)
  refine g_aload_n (M := mX5_init) (pc := 104) dX5_init_104 rfl (k := ?_)
  refine g_iconst (M := mX5_init) (pc := 105) dX5_init_105 (k := ?_)
  refine g_put (M := mX5_init) (pc := 106) (ji := 13) (by rfl) fX5_13 kX5_51 dX5_init_106 (by omega) (kk := ?_)
  have hZ106 : Z 19 (upr (upr (upr (upr (upr (upr (upr (upr (upr (upr (upr (upr (upr (upr (upr (upr (upr ρ 1 1 3) 1 2 4) 1 3 5) 1 4 6) 1 5 7) 1 7 8) 1 8 9) 1 9 10) 10 0 12) 10 1 13) 1 10 11) 13 0 15) 13 1 16) 1 11 14) 16 0 18) 16 1 19) 1 12 17) (up σ 1 13 (-1)) := Z_u hZ101 (by decide)
  refine g_vret (M := mX5_init) (pc := 109) rfl dX5_init_109 rfl ⟨rfl, rfl, hZ106⟩
set_option maxHeartbeats 4000000 in
set_option maxRecDepth 20000 in
theorem c_X5_init_33 (Γ : KT) (t : Nat) (ρ : Nat → Nat → Nat) (σ : Nat → Int → Int) (hZ : Z 34 ρ σ) : Ct Γ mX5_init 2 (17, 107) [vR Γ 33] (34, ρ, σ) (pC 51 (upr (upr (upr (upr (upr (upr (upr (upr (upr (upr (upr (upr (upr (upr (upr (upr (upr ρ 33 1 35) 33 2 36) 33 3 37) 33 4 38) 33 5 39) 33 7 40) 33 8 41) 33 9 42) 42 0 44) 42 1 45) 33 10 43) 45 0 47) 45 1 48) 33 11 46) 48 0 50) 48 1 51) 33 12 49) (up σ 33 13 (-1))) := by
  refine Ct.of rfl (Nat.le_of_ble_eq_true rfl) ?_
  show G Γ mX5_init 2 (17, 107) _ (0, 0) 0 [some (vR Γ 33)] [] (34, ρ, σ)
  refine g_aload_n (M := mX5_init) (pc := 0) dX5_init_0 rfl (k := ?_)
  refine g_objInit (M := mX5_init) (pc := 1) koX5_3 oi_1 oi_2 dX5_init_1 (by omega) (k := ?_)
  refine g_aload_n (M := mX5_init) (pc := 4) dX5_init_4 rfl (k := ?_)
  refine g_bipush (M := mX5_init) (pc := 5) dX5_init_5 (k := ?_)
  refine g_newa (M := mX5_init) (pc := 7) (N := 6) rfl (Or.inl ⟨rfl, rfl⟩) (by omega) (Z_at hZ) dX5_init_7 (Nat.le_of_ble_eq_true rfl) (Nat.le_of_ble_eq_true rfl) (kk := ?_)
  have hZ7 : Z 35 ρ σ := Z_n hZ
  refine g_putr (M := mX5_init) (pc := 9) (by rfl) fX5_1 kX5_9 dX5_init_9 (by first | exact Or.inl ⟨_, rfl⟩ | exact Or.inr ⟨_, rfl⟩) (Or.inr ⟨rfl, rfl, linkP kX5_9⟩) (kk := ?_)
  have hZ9 : Z 35 (upr ρ 33 1 35) σ := Z_r hZ7 (by decide)
  refine g_aload_n (M := mX5_init) (pc := 12) dX5_init_12 rfl (k := ?_)
  refine g_bipush (M := mX5_init) (pc := 13) dX5_init_13 (k := ?_)
  refine g_newa (M := mX5_init) (pc := 15) (N := 6) rfl (Or.inl ⟨rfl, rfl⟩) (by omega) (Z_at hZ9) dX5_init_15 (Nat.le_of_ble_eq_true rfl) (Nat.le_of_ble_eq_true rfl) (kk := ?_)
  have hZ15 : Z 36 (upr ρ 33 1 35) σ := Z_n hZ9
  refine g_putr (M := mX5_init) (pc := 17) (by rfl) fX5_2 kX5_15 dX5_init_17 (by first | exact Or.inl ⟨_, rfl⟩ | exact Or.inr ⟨_, rfl⟩) (Or.inr ⟨rfl, rfl, linkP kX5_15⟩) (kk := ?_)
  have hZ17 : Z 36 (upr (upr ρ 33 1 35) 33 2 36) σ := Z_r hZ15 (by decide)
  refine g_aload_n (M := mX5_init) (pc := 20) dX5_init_20 rfl (k := ?_)
  refine g_bipush (M := mX5_init) (pc := 21) dX5_init_21 (k := ?_)
  refine g_newa (M := mX5_init) (pc := 23) (N := 6) rfl (Or.inl ⟨rfl, rfl⟩) (by omega) (Z_at hZ17) dX5_init_23 (Nat.le_of_ble_eq_true rfl) (Nat.le_of_ble_eq_true rfl) (kk := ?_)
  have hZ23 : Z 37 (upr (upr ρ 33 1 35) 33 2 36) σ := Z_n hZ17
  refine g_putr (M := mX5_init) (pc := 25) (by rfl) fX5_3 kX5_18 dX5_init_25 (by first | exact Or.inl ⟨_, rfl⟩ | exact Or.inr ⟨_, rfl⟩) (Or.inr ⟨rfl, rfl, linkP kX5_18⟩) (kk := ?_)
  have hZ25 : Z 37 (upr (upr (upr ρ 33 1 35) 33 2 36) 33 3 37) σ := Z_r hZ23 (by decide)
  refine g_aload_n (M := mX5_init) (pc := 28) dX5_init_28 rfl (k := ?_)
  refine g_bipush (M := mX5_init) (pc := 29) dX5_init_29 (k := ?_)
  refine g_newa (M := mX5_init) (pc := 31) (N := 6) rfl (Or.inl ⟨rfl, rfl⟩) (by omega) (Z_at hZ25) dX5_init_31 (Nat.le_of_ble_eq_true rfl) (Nat.le_of_ble_eq_true rfl) (kk := ?_)
  have hZ31 : Z 38 (upr (upr (upr ρ 33 1 35) 33 2 36) 33 3 37) σ := Z_n hZ25
  refine g_putr (M := mX5_init) (pc := 33) (by rfl) fX5_4 kX5_21 dX5_init_33 (by first | exact Or.inl ⟨_, rfl⟩ | exact Or.inr ⟨_, rfl⟩) (Or.inr ⟨rfl, rfl, linkP kX5_21⟩) (kk := ?_)
  have hZ33 : Z 38 (upr (upr (upr (upr ρ 33 1 35) 33 2 36) 33 3 37) 33 4 38) σ := Z_r hZ31 (by decide)
  refine g_aload_n (M := mX5_init) (pc := 36) dX5_init_36 rfl (k := ?_)
  refine g_bipush (M := mX5_init) (pc := 37) dX5_init_37 (k := ?_)
  refine g_newa (M := mX5_init) (pc := 39) (N := 6) rfl (Or.inl ⟨rfl, rfl⟩) (by omega) (Z_at hZ33) dX5_init_39 (Nat.le_of_ble_eq_true rfl) (Nat.le_of_ble_eq_true rfl) (kk := ?_)
  have hZ39 : Z 39 (upr (upr (upr (upr ρ 33 1 35) 33 2 36) 33 3 37) 33 4 38) σ := Z_n hZ33
  refine g_putr (M := mX5_init) (pc := 41) (by rfl) fX5_5 kX5_24 dX5_init_41 (by first | exact Or.inl ⟨_, rfl⟩ | exact Or.inr ⟨_, rfl⟩) (Or.inr ⟨rfl, rfl, linkP kX5_24⟩) (kk := ?_)
  have hZ41 : Z 39 (upr (upr (upr (upr (upr ρ 33 1 35) 33 2 36) 33 3 37) 33 4 38) 33 5 39) σ := Z_r hZ39 (by decide)
  refine g_aload_n (M := mX5_init) (pc := 44) dX5_init_44 rfl (k := ?_)
  refine g_iconst (M := mX5_init) (pc := 45) dX5_init_45 (k := ?_)
  refine g_newa (M := mX5_init) (pc := 46) (N := 4) rfl (Or.inl ⟨rfl, rfl⟩) (by omega) (Z_at hZ41) dX5_init_46 (Nat.le_of_ble_eq_true rfl) (Nat.le_of_ble_eq_true rfl) (kk := ?_)
  have hZ46 : Z 40 (upr (upr (upr (upr (upr ρ 33 1 35) 33 2 36) 33 3 37) 33 4 38) 33 5 39) σ := Z_n hZ41
  refine g_putr (M := mX5_init) (pc := 48) (by rfl) fX5_7 kX5_27 dX5_init_48 (by first | exact Or.inl ⟨_, rfl⟩ | exact Or.inr ⟨_, rfl⟩) (Or.inr ⟨rfl, rfl, linkP kX5_27⟩) (kk := ?_)
  have hZ48 : Z 40 (upr (upr (upr (upr (upr (upr ρ 33 1 35) 33 2 36) 33 3 37) 33 4 38) 33 5 39) 33 7 40) σ := Z_r hZ46 (by decide)
  refine g_aload_n (M := mX5_init) (pc := 51) dX5_init_51 rfl (k := ?_)
  refine g_iconst (M := mX5_init) (pc := 52) dX5_init_52 (k := ?_)
  refine g_newa (M := mX5_init) (pc := 53) (N := 4) rfl (Or.inl ⟨rfl, rfl⟩) (by omega) (Z_at hZ48) dX5_init_53 (Nat.le_of_ble_eq_true rfl) (Nat.le_of_ble_eq_true rfl) (kk := ?_)
  have hZ53 : Z 41 (upr (upr (upr (upr (upr (upr ρ 33 1 35) 33 2 36) 33 3 37) 33 4 38) 33 5 39) 33 7 40) σ := Z_n hZ48
  refine g_putr (M := mX5_init) (pc := 55) (by rfl) fX5_8 kX5_30 dX5_init_55 (by first | exact Or.inl ⟨_, rfl⟩ | exact Or.inr ⟨_, rfl⟩) (Or.inr ⟨rfl, rfl, linkP kX5_30⟩) (kk := ?_)
  have hZ55 : Z 41 (upr (upr (upr (upr (upr (upr (upr ρ 33 1 35) 33 2 36) 33 3 37) 33 4 38) 33 5 39) 33 7 40) 33 8 41) σ := Z_r hZ53 (by decide)
  refine g_aload_n (M := mX5_init) (pc := 58) dX5_init_58 rfl (k := ?_)
  refine g_iconst (M := mX5_init) (pc := 59) dX5_init_59 (k := ?_)
  refine g_newa (M := mX5_init) (pc := 60) (N := 4) rfl (Or.inl ⟨rfl, rfl⟩) (by omega) (Z_at hZ55) dX5_init_60 (Nat.le_of_ble_eq_true rfl) (Nat.le_of_ble_eq_true rfl) (kk := ?_)
  have hZ60 : Z 42 (upr (upr (upr (upr (upr (upr (upr ρ 33 1 35) 33 2 36) 33 3 37) 33 4 38) 33 5 39) 33 7 40) 33 8 41) σ := Z_n hZ55
  refine g_putr (M := mX5_init) (pc := 62) (by rfl) fX5_9 kX5_33 dX5_init_62 (by first | exact Or.inl ⟨_, rfl⟩ | exact Or.inr ⟨_, rfl⟩) (Or.inr ⟨rfl, rfl, linkP kX5_33⟩) (kk := ?_)
  have hZ62 : Z 42 (upr (upr (upr (upr (upr (upr (upr (upr ρ 33 1 35) 33 2 36) 33 3 37) 33 4 38) 33 5 39) 33 7 40) 33 8 41) 33 9 42) σ := Z_r hZ60 (by decide)
  refine g_aload_n (M := mX5_init) (pc := 65) dX5_init_65 rfl (k := ?_)
  refine g_new (M := mX5_init) (pc := 66) (ci := 4) rfl rfl newX4 kX5_36 hfX4 (Z_at hZ62) dX5_init_66 (Nat.le_of_ble_eq_true rfl) (Nat.le_of_ble_eq_true rfl) (kk := ?_)
  have hZ66 : Z 43 (upr (upr (upr (upr (upr (upr (upr (upr ρ 33 1 35) 33 2 36) 33 3 37) 33 4 38) 33 5 39) 33 7 40) 33 8 41) 33 9 42) σ := Z_n hZ62
  refine g_dupR (M := mX5_init) (pc := 69) dX5_init_69 (k := ?_)
  refine g_bipush (M := mX5_init) (pc := 70) dX5_init_70 (k := ?_)
  refine g_cIC (M := mX5_init) (pc := 72) (c_X4_init_42 Γ t _ _ hZ66) qX4_init vX4_init rfl kX5_38 rfl (by omega) (by decide) ⟨Nat.le_of_ble_eq_true rfl, Nat.le_of_ble_eq_true rfl⟩ (Nat.le_of_ble_eq_true rfl) dX5_init_72 rfl (kk := fun hZ72 => ?_)
  refine g_putr (M := mX5_init) (pc := 75) (by rfl) fX5_10 kX5_41 dX5_init_75 (by first | exact Or.inl ⟨_, rfl⟩ | exact Or.inr ⟨_, rfl⟩) (Or.inr ⟨rfl, rfl, linkP kX5_41⟩) (kk := ?_)
  have hZ75 : Z 45 (upr (upr (upr (upr (upr (upr (upr (upr (upr (upr (upr ρ 33 1 35) 33 2 36) 33 3 37) 33 4 38) 33 5 39) 33 7 40) 33 8 41) 33 9 42) 42 0 44) 42 1 45) 33 10 43) σ := Z_r hZ72 (by decide)
  refine g_aload_n (M := mX5_init) (pc := 78) dX5_init_78 rfl (k := ?_)
  refine g_new (M := mX5_init) (pc := 79) (ci := 4) rfl rfl newX4 kX5_36 hfX4 (Z_at hZ75) dX5_init_79 (Nat.le_of_ble_eq_true rfl) (Nat.le_of_ble_eq_true rfl) (kk := ?_)
  have hZ79 : Z 46 (upr (upr (upr (upr (upr (upr (upr (upr (upr (upr (upr ρ 33 1 35) 33 2 36) 33 3 37) 33 4 38) 33 5 39) 33 7 40) 33 8 41) 33 9 42) 42 0 44) 42 1 45) 33 10 43) σ := Z_n hZ75
  refine g_dupR (M := mX5_init) (pc := 82) dX5_init_82 (k := ?_)
  refine g_bipush (M := mX5_init) (pc := 83) dX5_init_83 (k := ?_)
  refine g_cIC (M := mX5_init) (pc := 85) (c_X4_init_45 Γ t _ _ hZ79) qX4_init vX4_init rfl kX5_38 rfl (by omega) (by decide) ⟨Nat.le_of_ble_eq_true rfl, Nat.le_of_ble_eq_true rfl⟩ (Nat.le_of_ble_eq_true rfl) dX5_init_85 rfl (kk := fun hZ85 => ?_)
  refine g_putr (M := mX5_init) (pc := 88) (by rfl) fX5_11 kX5_45 dX5_init_88 (by first | exact Or.inl ⟨_, rfl⟩ | exact Or.inr ⟨_, rfl⟩) (Or.inr ⟨rfl, rfl, linkP kX5_45⟩) (kk := ?_)
  have hZ88 : Z 48 (upr (upr (upr (upr (upr (upr (upr (upr (upr (upr (upr (upr (upr (upr ρ 33 1 35) 33 2 36) 33 3 37) 33 4 38) 33 5 39) 33 7 40) 33 8 41) 33 9 42) 42 0 44) 42 1 45) 33 10 43) 45 0 47) 45 1 48) 33 11 46) σ := Z_r hZ85 (by decide)
  refine g_aload_n (M := mX5_init) (pc := 91) dX5_init_91 rfl (k := ?_)
  refine g_new (M := mX5_init) (pc := 92) (ci := 4) rfl rfl newX4 kX5_36 hfX4 (Z_at hZ88) dX5_init_92 (Nat.le_of_ble_eq_true rfl) (Nat.le_of_ble_eq_true rfl) (kk := ?_)
  have hZ92 : Z 49 (upr (upr (upr (upr (upr (upr (upr (upr (upr (upr (upr (upr (upr (upr ρ 33 1 35) 33 2 36) 33 3 37) 33 4 38) 33 5 39) 33 7 40) 33 8 41) 33 9 42) 42 0 44) 42 1 45) 33 10 43) 45 0 47) 45 1 48) 33 11 46) σ := Z_n hZ88
  refine g_dupR (M := mX5_init) (pc := 95) dX5_init_95 (k := ?_)
  refine g_bipush (M := mX5_init) (pc := 96) dX5_init_96 (k := ?_)
  refine g_cIC (M := mX5_init) (pc := 98) (c_X4_init_48 Γ t _ _ hZ92) qX4_init vX4_init rfl kX5_38 rfl (by omega) (by decide) ⟨Nat.le_of_ble_eq_true rfl, Nat.le_of_ble_eq_true rfl⟩ (Nat.le_of_ble_eq_true rfl) dX5_init_98 rfl (kk := fun hZ98 => ?_)
  refine g_putr (M := mX5_init) (pc := 101) (by rfl) fX5_12 kX5_48 dX5_init_101 (by first | exact Or.inl ⟨_, rfl⟩ | exact Or.inr ⟨_, rfl⟩) (Or.inr ⟨rfl, rfl, linkP kX5_48⟩) (kk := ?_)
  have hZ101 : Z 51 (upr (upr (upr (upr (upr (upr (upr (upr (upr (upr (upr (upr (upr (upr (upr (upr (upr ρ 33 1 35) 33 2 36) 33 3 37) 33 4 38) 33 5 39) 33 7 40) 33 8 41) 33 9 42) 42 0 44) 42 1 45) 33 10 43) 45 0 47) 45 1 48) 33 11 46) 48 0 50) 48 1 51) 33 12 49) σ := Z_r hZ98 (by decide)
  refine g_aload_n (M := mX5_init) (pc := 104) dX5_init_104 rfl (k := ?_)
  refine g_iconst (M := mX5_init) (pc := 105) dX5_init_105 (k := ?_)
  refine g_put (M := mX5_init) (pc := 106) (ji := 13) (by rfl) fX5_13 kX5_51 dX5_init_106 (by omega) (kk := ?_)
  have hZ106 : Z 51 (upr (upr (upr (upr (upr (upr (upr (upr (upr (upr (upr (upr (upr (upr (upr (upr (upr ρ 33 1 35) 33 2 36) 33 3 37) 33 4 38) 33 5 39) 33 7 40) 33 8 41) 33 9 42) 42 0 44) 42 1 45) 33 10 43) 45 0 47) 45 1 48) 33 11 46) 48 0 50) 48 1 51) 33 12 49) (up σ 33 13 (-1)) := Z_u hZ101 (by decide)
  refine g_vret (M := mX5_init) (pc := 109) rfl dX5_init_109 rfl ⟨rfl, rfl, hZ106⟩
set_option maxHeartbeats 4000000 in
set_option maxRecDepth 20000 in
theorem c_X7_init_19 (Γ : KT) (t : Nat) (ρ : Nat → Nat → Nat) (σ : Nat → Int → Int) (hZ : Z 20 ρ σ) : Ct Γ mX7_init 1 (1, 100) [vR Γ 19] (20, ρ, σ) (pC 21 (upr ρ 19 0 21) (up σ 19 3 (-1))) := by
  refine Ct.of rfl (Nat.le_of_ble_eq_true rfl) ?_
  show G Γ mX7_init 1 (1, 100) _ (0, 0) 0 [some (vR Γ 19)] [] (20, ρ, σ)
  refine g_aload_n (M := mX7_init) (pc := 0) dX7_init_0 rfl (k := ?_)
  refine g_objInit (M := mX7_init) (pc := 1) koX7_3 oi_1 oi_2 dX7_init_1 (by omega) (k := ?_)
  refine g_aload_n (M := mX7_init) (pc := 4) dX7_init_4 rfl (k := ?_)
  refine g_bipush (M := mX7_init) (pc := 5) dX7_init_5 (k := ?_)
  refine g_newa (M := mX7_init) (pc := 7) (N := 100) rfl (Or.inr (Or.inr (Or.inr ⟨rfl, rfl⟩))) (by omega) (Z_at hZ) dX7_init_7 (Nat.le_of_ble_eq_true rfl) (Nat.le_of_ble_eq_true rfl) (kk := ?_)
  have hZ7 : Z 21 ρ σ := Z_n hZ
  refine g_putr (M := mX7_init) (pc := 9) (by rfl) fX7_0 kX7_9 dX7_init_9 (by first | exact Or.inl ⟨_, rfl⟩ | exact Or.inr ⟨_, rfl⟩) (Or.inr ⟨rfl, rfl, linkP kX7_9⟩) (kk := ?_)
  have hZ9 : Z 21 (upr ρ 19 0 21) σ := Z_r hZ7 (by decide)
  refine g_aload_n (M := mX7_init) (pc := 12) dX7_init_12 rfl (k := ?_)
  refine g_iconst (M := mX7_init) (pc := 13) dX7_init_13 (k := ?_)
  refine g_put (M := mX7_init) (pc := 14) (ji := 3) (by rfl) fX7_3 kX7_15 dX7_init_14 (by omega) (kk := ?_)
  have hZ14 : Z 21 (upr ρ 19 0 21) (up σ 19 3 (-1)) := Z_u hZ9 (by decide)
  refine g_vret (M := mX7_init) (pc := 17) rfl dX7_init_17 rfl ⟨rfl, rfl, hZ14⟩
set_option maxHeartbeats 4000000 in
set_option maxRecDepth 20000 in
theorem c_X0_init_21 (Γ : KT) (t : Nat) (ρ : Nat → Nat → Nat) (σ : Nat → Int → Int) (hZ : Z 22 ρ σ) : Ct Γ mX0_init 1 (1, 20) [vR Γ 21] (22, ρ, σ) (pC 23 (upr ρ 21 0 23) σ) := by
  refine Ct.of rfl (Nat.le_of_ble_eq_true rfl) ?_
  show G Γ mX0_init 1 (1, 20) _ (0, 0) 0 [some (vR Γ 21)] [] (22, ρ, σ)
  refine g_aload_n (M := mX0_init) (pc := 0) dX0_init_0 rfl (k := ?_)
  refine g_objInit (M := mX0_init) (pc := 1) koX0_3 oi_1 oi_2 dX0_init_1 (by omega) (k := ?_)
  refine g_aload_n (M := mX0_init) (pc := 4) dX0_init_4 rfl (k := ?_)
  refine g_bipush (M := mX0_init) (pc := 5) dX0_init_5 (k := ?_)
  refine g_newa (M := mX0_init) (pc := 7) (N := 20) rfl (Or.inl ⟨rfl, rfl⟩) (by omega) (Z_at hZ) dX0_init_7 (Nat.le_of_ble_eq_true rfl) (Nat.le_of_ble_eq_true rfl) (kk := ?_)
  have hZ7 : Z 23 ρ σ := Z_n hZ
  refine g_putr (M := mX0_init) (pc := 9) (by rfl) fX0_0 kX0_11 dX0_init_9 (by first | exact Or.inl ⟨_, rfl⟩ | exact Or.inr ⟨_, rfl⟩) (Or.inr ⟨rfl, rfl, linkP kX0_11⟩) (kk := ?_)
  have hZ9 : Z 23 (upr ρ 21 0 23) σ := Z_r hZ7 (by decide)
  refine g_vret (M := mX0_init) (pc := 12) rfl dX0_init_12 rfl ⟨rfl, rfl, hZ9⟩
set_option maxHeartbeats 4000000 in
set_option maxRecDepth 20000 in
theorem c_X6_init_23 (Γ : KT) (t : Nat) (ρ : Nat → Nat → Nat) (σ : Nat → Int → Int) (hZ : Z 24 ρ σ) : Ct Γ mX6_init 1 (9, 378) [vR Γ 23] (24, ρ, σ) (pC 33 (upr (upr (upr (upr (upr (upr (upr (upr (upr ρ 24 0 26) 24 1 27) 24 2 28) 24 3 29) 24 4 30) 24 5 31) 23 0 25) 23 1 32) 23 2 33) (up (up (up (up (up (up σ 32 0 (-1)) 32 1 (-1)) 32 2 (-1)) 32 3 (-1)) 32 4 (-1)) 32 5 (-1))) := by
  refine Ct.of rfl (Nat.le_of_ble_eq_true rfl) ?_
  show G Γ mX6_init 1 (9, 378) _ (0, 0) 0 [some (vR Γ 23)] [] (24, ρ, σ)
  refine g_aload_n (M := mX6_init) (pc := 0) dX6_init_0 rfl (k := ?_)
  refine g_objInit (M := mX6_init) (pc := 1) koX6_3 oi_1 oi_2 dX6_init_1 (by omega) (k := ?_)
  refine g_aload_n (M := mX6_init) (pc := 4) dX6_init_4 rfl (k := ?_)
  refine g_bipush (M := mX6_init) (pc := 5) dX6_init_5 (k := ?_)
  refine g_bipush (M := mX6_init) (pc := 7) dX6_init_7 (k := ?_)
  refine g_grid (M := mX6_init) (pc := 9) (N := 6) (K := 60) (Or.inr ⟨rfl, rfl, rfl⟩) rfl (by intro i hi; match i, hi with | 0, _ => rfl | 1, _ => rfl | 2, _ => rfl | 3, _ => rfl | 4, _ => rfl | 5, _ => rfl | i + 6, h => omega) kX6_11 (fun k j h => (hZ k h).1 j) (fun k j h => (hZ k h).2 j) (by decide) (by decide) dX6_init_9 (Nat.le_of_ble_eq_true rfl) (Nat.le_of_ble_eq_true rfl) (kk := ?_)
  rw [grd6]
  have hZ9 : Z 31 (upr (upr (upr (upr (upr (upr ρ 24 0 26) 24 1 27) 24 2 28) 24 3 29) 24 4 30) 24 5 31) σ := Z_r (Z_r (Z_r (Z_r (Z_r (Z_r (Z_6 hZ) (by decide)) (by decide)) (by decide)) (by decide)) (by decide)) (by decide)
  refine g_putr (M := mX6_init) (pc := 13) (by rfl) fX6_0 kX6_13 dX6_init_13 (by first | exact Or.inl ⟨_, rfl⟩ | exact Or.inr ⟨_, rfl⟩) (Or.inr ⟨rfl, rfl, linkP kX6_13⟩) (kk := ?_)
  have hZ13 : Z 31 (upr (upr (upr (upr (upr (upr (upr ρ 24 0 26) 24 1 27) 24 2 28) 24 3 29) 24 4 30) 24 5 31) 23 0 25) σ := Z_r hZ9 (by decide)
  refine g_aload_n (M := mX6_init) (pc := 16) dX6_init_16 rfl (k := ?_)
  refine g_bipush (M := mX6_init) (pc := 17) dX6_init_17 (k := ?_)
  refine g_newa (M := mX6_init) (pc := 19) (N := 6) rfl (Or.inl ⟨rfl, rfl⟩) (by omega) (Z_at hZ13) dX6_init_19 (Nat.le_of_ble_eq_true rfl) (Nat.le_of_ble_eq_true rfl) (kk := ?_)
  have hZ19 : Z 32 (upr (upr (upr (upr (upr (upr (upr ρ 24 0 26) 24 1 27) 24 2 28) 24 3 29) 24 4 30) 24 5 31) 23 0 25) σ := Z_n hZ13
  refine g_putr (M := mX6_init) (pc := 21) (by rfl) fX6_1 kX6_16 dX6_init_21 (by first | exact Or.inl ⟨_, rfl⟩ | exact Or.inr ⟨_, rfl⟩) (Or.inr ⟨rfl, rfl, linkP kX6_16⟩) (kk := ?_)
  have hZ21 : Z 32 (upr (upr (upr (upr (upr (upr (upr (upr ρ 24 0 26) 24 1 27) 24 2 28) 24 3 29) 24 4 30) 24 5 31) 23 0 25) 23 1 32) σ := Z_r hZ19 (by decide)
  refine g_aload_n (M := mX6_init) (pc := 24) dX6_init_24 rfl (k := ?_)
  refine g_bipush (M := mX6_init) (pc := 25) dX6_init_25 (k := ?_)
  refine g_newa (M := mX6_init) (pc := 27) (N := 6) rfl (Or.inl ⟨rfl, rfl⟩) (by omega) (Z_at hZ21) dX6_init_27 (Nat.le_of_ble_eq_true rfl) (Nat.le_of_ble_eq_true rfl) (kk := ?_)
  have hZ27 : Z 33 (upr (upr (upr (upr (upr (upr (upr (upr ρ 24 0 26) 24 1 27) 24 2 28) 24 3 29) 24 4 30) 24 5 31) 23 0 25) 23 1 32) σ := Z_n hZ21
  refine g_dupR (M := mX6_init) (pc := 29) dX6_init_29 (k := ?_)
  refine g_iconst (M := mX6_init) (pc := 30) dX6_init_30 (k := ?_)
  refine g_iconst (M := mX6_init) (pc := 31) dX6_init_31 (k := ?_)
  refine g_iast (M := mX6_init) (pc := 32) (by rfl) (by omega) (by omega) (by omega) dX6_init_32 (kk := ?_)
  have hZ32 : Z 33 (upr (upr (upr (upr (upr (upr (upr (upr ρ 24 0 26) 24 1 27) 24 2 28) 24 3 29) 24 4 30) 24 5 31) 23 0 25) 23 1 32) (up σ 32 0 (-1)) := Z_u hZ27 (by decide)
  refine g_dupR (M := mX6_init) (pc := 33) dX6_init_33 (k := ?_)
  refine g_iconst (M := mX6_init) (pc := 34) dX6_init_34 (k := ?_)
  refine g_iconst (M := mX6_init) (pc := 35) dX6_init_35 (k := ?_)
  refine g_iast (M := mX6_init) (pc := 36) (by rfl) (by omega) (by omega) (by omega) dX6_init_36 (kk := ?_)
  have hZ36 : Z 33 (upr (upr (upr (upr (upr (upr (upr (upr ρ 24 0 26) 24 1 27) 24 2 28) 24 3 29) 24 4 30) 24 5 31) 23 0 25) 23 1 32) (up (up σ 32 0 (-1)) 32 1 (-1)) := Z_u hZ32 (by decide)
  refine g_dupR (M := mX6_init) (pc := 37) dX6_init_37 (k := ?_)
  refine g_iconst (M := mX6_init) (pc := 38) dX6_init_38 (k := ?_)
  refine g_iconst (M := mX6_init) (pc := 39) dX6_init_39 (k := ?_)
  refine g_iast (M := mX6_init) (pc := 40) (by rfl) (by omega) (by omega) (by omega) dX6_init_40 (kk := ?_)
  have hZ40 : Z 33 (upr (upr (upr (upr (upr (upr (upr (upr ρ 24 0 26) 24 1 27) 24 2 28) 24 3 29) 24 4 30) 24 5 31) 23 0 25) 23 1 32) (up (up (up σ 32 0 (-1)) 32 1 (-1)) 32 2 (-1)) := Z_u hZ36 (by decide)
  refine g_dupR (M := mX6_init) (pc := 41) dX6_init_41 (k := ?_)
  refine g_iconst (M := mX6_init) (pc := 42) dX6_init_42 (k := ?_)
  refine g_iconst (M := mX6_init) (pc := 43) dX6_init_43 (k := ?_)
  refine g_iast (M := mX6_init) (pc := 44) (by rfl) (by omega) (by omega) (by omega) dX6_init_44 (kk := ?_)
  have hZ44 : Z 33 (upr (upr (upr (upr (upr (upr (upr (upr ρ 24 0 26) 24 1 27) 24 2 28) 24 3 29) 24 4 30) 24 5 31) 23 0 25) 23 1 32) (up (up (up (up σ 32 0 (-1)) 32 1 (-1)) 32 2 (-1)) 32 3 (-1)) := Z_u hZ40 (by decide)
  refine g_dupR (M := mX6_init) (pc := 45) dX6_init_45 (k := ?_)
  refine g_iconst (M := mX6_init) (pc := 46) dX6_init_46 (k := ?_)
  refine g_iconst (M := mX6_init) (pc := 47) dX6_init_47 (k := ?_)
  refine g_iast (M := mX6_init) (pc := 48) (by rfl) (by omega) (by omega) (by omega) dX6_init_48 (kk := ?_)
  have hZ48 : Z 33 (upr (upr (upr (upr (upr (upr (upr (upr ρ 24 0 26) 24 1 27) 24 2 28) 24 3 29) 24 4 30) 24 5 31) 23 0 25) 23 1 32) (up (up (up (up (up σ 32 0 (-1)) 32 1 (-1)) 32 2 (-1)) 32 3 (-1)) 32 4 (-1)) := Z_u hZ44 (by decide)
  refine g_dupR (M := mX6_init) (pc := 49) dX6_init_49 (k := ?_)
  refine g_iconst (M := mX6_init) (pc := 50) dX6_init_50 (k := ?_)
  refine g_iconst (M := mX6_init) (pc := 51) dX6_init_51 (k := ?_)
  refine g_iast (M := mX6_init) (pc := 52) (by rfl) (by omega) (by omega) (by omega) dX6_init_52 (kk := ?_)
  have hZ52 : Z 33 (upr (upr (upr (upr (upr (upr (upr (upr ρ 24 0 26) 24 1 27) 24 2 28) 24 3 29) 24 4 30) 24 5 31) 23 0 25) 23 1 32) (up (up (up (up (up (up σ 32 0 (-1)) 32 1 (-1)) 32 2 (-1)) 32 3 (-1)) 32 4 (-1)) 32 5 (-1)) := Z_u hZ48 (by decide)
  refine g_putr (M := mX6_init) (pc := 53) (by rfl) fX6_2 kX6_20 dX6_init_53 (by first | exact Or.inl ⟨_, rfl⟩ | exact Or.inr ⟨_, rfl⟩) (Or.inr ⟨rfl, rfl, linkP kX6_20⟩) (kk := ?_)
  have hZ53 : Z 33 (upr (upr (upr (upr (upr (upr (upr (upr (upr ρ 24 0 26) 24 1 27) 24 2 28) 24 3 29) 24 4 30) 24 5 31) 23 0 25) 23 1 32) 23 2 33) (up (up (up (up (up (up σ 32 0 (-1)) 32 1 (-1)) 32 2 (-1)) 32 3 (-1)) 32 4 (-1)) 32 5 (-1)) := Z_r hZ52 (by decide)
  refine g_vret (M := mX6_init) (pc := 56) rfl dX6_init_56 rfl ⟨rfl, rfl, hZ53⟩
set_option maxHeartbeats 4000000 in
set_option maxRecDepth 20000 in
theorem c_X9_init_51 (Γ : KT) (t : Nat) (ρ : Nat → Nat → Nat) (σ : Nat → Int → Int) (hZ : Z 52 ρ σ) : Ct Γ mX9_init 1 (10, 624) [vR Γ 51] (52, ρ, σ) (pC 62 (upr (upr (upr (upr (upr (upr (upr (upr (upr (upr ρ 52 0 54) 52 1 55) 52 2 56) 52 3 57) 52 4 58) 52 5 59) 51 0 53) 51 1 60) 51 2 61) 51 4 62) σ) := by
  refine Ct.of rfl (Nat.le_of_ble_eq_true rfl) ?_
  show G Γ mX9_init 1 (10, 624) _ (0, 0) 0 [some (vR Γ 51)] [] (52, ρ, σ)
  refine g_aload_n (M := mX9_init) (pc := 0) dX9_init_0 rfl (k := ?_)
  refine g_objInit (M := mX9_init) (pc := 1) koX9_3 oi_1 oi_2 dX9_init_1 (by omega) (k := ?_)
  refine g_aload_n (M := mX9_init) (pc := 4) dX9_init_4 rfl (k := ?_)
  refine g_bipush (M := mX9_init) (pc := 5) dX9_init_5 (k := ?_)
  refine g_bipush (M := mX9_init) (pc := 7) dX9_init_7 (k := ?_)
  refine g_grid (M := mX9_init) (pc := 9) (N := 6) (K := 100) (Or.inl ⟨rfl, rfl, rfl⟩) rfl (by intro i hi; match i, hi with | 0, _ => rfl | 1, _ => rfl | 2, _ => rfl | 3, _ => rfl | 4, _ => rfl | 5, _ => rfl | i + 6, h => omega) kX9_9 (fun k j h => (hZ k h).1 j) (fun k j h => (hZ k h).2 j) (by decide) (by decide) dX9_init_9 (Nat.le_of_ble_eq_true rfl) (Nat.le_of_ble_eq_true rfl) (kk := ?_)
  rw [grd6]
  have hZ9 : Z 59 (upr (upr (upr (upr (upr (upr ρ 52 0 54) 52 1 55) 52 2 56) 52 3 57) 52 4 58) 52 5 59) σ := Z_r (Z_r (Z_r (Z_r (Z_r (Z_r (Z_6 hZ) (by decide)) (by decide)) (by decide)) (by decide)) (by decide)) (by decide)
  refine g_putr (M := mX9_init) (pc := 13) (by rfl) fX9_0 kX9_11 dX9_init_13 (by first | exact Or.inl ⟨_, rfl⟩ | exact Or.inr ⟨_, rfl⟩) (Or.inr ⟨rfl, rfl, linkP kX9_11⟩) (kk := ?_)
  have hZ13 : Z 59 (upr (upr (upr (upr (upr (upr (upr ρ 52 0 54) 52 1 55) 52 2 56) 52 3 57) 52 4 58) 52 5 59) 51 0 53) σ := Z_r hZ9 (by decide)
  refine g_aload_n (M := mX9_init) (pc := 16) dX9_init_16 rfl (k := ?_)
  refine g_bipush (M := mX9_init) (pc := 17) dX9_init_17 (k := ?_)
  refine g_newa (M := mX9_init) (pc := 19) (N := 6) rfl (Or.inl ⟨rfl, rfl⟩) (by omega) (Z_at hZ13) dX9_init_19 (Nat.le_of_ble_eq_true rfl) (Nat.le_of_ble_eq_true rfl) (kk := ?_)
  have hZ19 : Z 60 (upr (upr (upr (upr (upr (upr (upr ρ 52 0 54) 52 1 55) 52 2 56) 52 3 57) 52 4 58) 52 5 59) 51 0 53) σ := Z_n hZ13
  refine g_putr (M := mX9_init) (pc := 21) (by rfl) fX9_1 kX9_16 dX9_init_21 (by first | exact Or.inl ⟨_, rfl⟩ | exact Or.inr ⟨_, rfl⟩) (Or.inr ⟨rfl, rfl, linkP kX9_16⟩) (kk := ?_)
  have hZ21 : Z 60 (upr (upr (upr (upr (upr (upr (upr (upr ρ 52 0 54) 52 1 55) 52 2 56) 52 3 57) 52 4 58) 52 5 59) 51 0 53) 51 1 60) σ := Z_r hZ19 (by decide)
  refine g_aload_n (M := mX9_init) (pc := 24) dX9_init_24 rfl (k := ?_)
  refine g_bipush (M := mX9_init) (pc := 25) dX9_init_25 (k := ?_)
  refine g_newa (M := mX9_init) (pc := 27) (N := 6) rfl (Or.inl ⟨rfl, rfl⟩) (by omega) (Z_at hZ21) dX9_init_27 (Nat.le_of_ble_eq_true rfl) (Nat.le_of_ble_eq_true rfl) (kk := ?_)
  have hZ27 : Z 61 (upr (upr (upr (upr (upr (upr (upr (upr ρ 52 0 54) 52 1 55) 52 2 56) 52 3 57) 52 4 58) 52 5 59) 51 0 53) 51 1 60) σ := Z_n hZ21
  refine g_putr (M := mX9_init) (pc := 29) (by rfl) fX9_2 kX9_20 dX9_init_29 (by first | exact Or.inl ⟨_, rfl⟩ | exact Or.inr ⟨_, rfl⟩) (Or.inr ⟨rfl, rfl, linkP kX9_20⟩) (kk := ?_)
  have hZ29 : Z 61 (upr (upr (upr (upr (upr (upr (upr (upr (upr ρ 52 0 54) 52 1 55) 52 2 56) 52 3 57) 52 4 58) 52 5 59) 51 0 53) 51 1 60) 51 2 61) σ := Z_r hZ27 (by decide)
  refine g_aload_n (M := mX9_init) (pc := 32) dX9_init_32 rfl (k := ?_)
  refine g_bipush (M := mX9_init) (pc := 33) dX9_init_33 (k := ?_)
  refine g_newa (M := mX9_init) (pc := 35) (N := 6) rfl (Or.inl ⟨rfl, rfl⟩) (by omega) (Z_at hZ29) dX9_init_35 (Nat.le_of_ble_eq_true rfl) (Nat.le_of_ble_eq_true rfl) (kk := ?_)
  have hZ35 : Z 62 (upr (upr (upr (upr (upr (upr (upr (upr (upr ρ 52 0 54) 52 1 55) 52 2 56) 52 3 57) 52 4 58) 52 5 59) 51 0 53) 51 1 60) 51 2 61) σ := Z_n hZ29
  refine g_putr (M := mX9_init) (pc := 37) (by rfl) fX9_4 kX9_25 dX9_init_37 (by first | exact Or.inl ⟨_, rfl⟩ | exact Or.inr ⟨_, rfl⟩) (Or.inr ⟨rfl, rfl, linkP kX9_25⟩) (kk := ?_)
  have hZ37 : Z 62 (upr (upr (upr (upr (upr (upr (upr (upr (upr (upr ρ 52 0 54) 52 1 55) 52 2 56) 52 3 57) 52 4 58) 52 5 59) 51 0 53) 51 1 60) 51 2 61) 51 4 62) σ := Z_r hZ35 (by decide)
  refine g_vret (M := mX9_init) (pc := 40) rfl dX9_init_40 rfl ⟨rfl, rfl, hZ37⟩
set_option maxHeartbeats 4000000 in
set_option maxRecDepth 20000 in
theorem c_X3_init_63 (Γ : KT) (t : Nat) (ρ : Nat → Nat → Nat) (σ : Nat → Int → Int) (hZ : Z 64 ρ σ) : Ct Γ mX3_init 1 (2, 10) [vR Γ 63] (64, ρ, σ) (pC 66 (upr (upr ρ 63 0 65) 63 1 66) σ) := by
  refine Ct.of rfl (Nat.le_of_ble_eq_true rfl) ?_
  show G Γ mX3_init 1 (2, 10) _ (0, 0) 0 [some (vR Γ 63)] [] (64, ρ, σ)
  refine g_aload_n (M := mX3_init) (pc := 0) dX3_init_0 rfl (k := ?_)
  refine g_objInit (M := mX3_init) (pc := 1) koX3_3 oi_1 oi_2 dX3_init_1 (by omega) (k := ?_)
  refine g_aload_n (M := mX3_init) (pc := 4) dX3_init_4 rfl (k := ?_)
  refine g_iconst (M := mX3_init) (pc := 5) dX3_init_5 (k := ?_)
  refine g_newa (M := mX3_init) (pc := 6) (N := 5) rfl (Or.inl ⟨rfl, rfl⟩) (by omega) (Z_at hZ) dX3_init_6 (Nat.le_of_ble_eq_true rfl) (Nat.le_of_ble_eq_true rfl) (kk := ?_)
  have hZ6 : Z 65 ρ σ := Z_n hZ
  refine g_putr (M := mX3_init) (pc := 8) (by rfl) fX3_0 kX3_9 dX3_init_8 (by first | exact Or.inl ⟨_, rfl⟩ | exact Or.inr ⟨_, rfl⟩) (Or.inr ⟨rfl, rfl, linkP kX3_9⟩) (kk := ?_)
  have hZ8 : Z 65 (upr ρ 63 0 65) σ := Z_r hZ6 (by decide)
  refine g_aload_n (M := mX3_init) (pc := 11) dX3_init_11 rfl (k := ?_)
  refine g_iconst (M := mX3_init) (pc := 12) dX3_init_12 (k := ?_)
  refine g_newa (M := mX3_init) (pc := 13) (N := 5) rfl (Or.inl ⟨rfl, rfl⟩) (by omega) (Z_at hZ8) dX3_init_13 (Nat.le_of_ble_eq_true rfl) (Nat.le_of_ble_eq_true rfl) (kk := ?_)
  have hZ13 : Z 66 (upr ρ 63 0 65) σ := Z_n hZ8
  refine g_putr (M := mX3_init) (pc := 15) (by rfl) fX3_1 kX3_15 dX3_init_15 (by first | exact Or.inl ⟨_, rfl⟩ | exact Or.inr ⟨_, rfl⟩) (Or.inr ⟨rfl, rfl, linkP kX3_15⟩) (kk := ?_)
  have hZ15 : Z 66 (upr (upr ρ 63 0 65) 63 1 66) σ := Z_r hZ13 (by decide)
  refine g_vret (M := mX3_init) (pc := 18) rfl dX3_init_18 rfl ⟨rfl, rfl, hZ15⟩
set_option maxHeartbeats 4000000 in
set_option maxRecDepth 20000 in
theorem c_X1_init_66 (Γ : KT) (t : Nat) (ρ : Nat → Nat → Nat) (σ : Nat → Int → Int) (hZ : Z 67 ρ σ) : Ct Γ mX1_init 1 (2, 12) [vR Γ 66, vR Γ 33, vR Γ 51] (67, ρ, σ) (pC 69 (upr (upr (upr (upr ρ 66 2 68) 66 3 69) 66 0 34) 66 1 52) σ) := by
  refine Ct.of rfl (Nat.le_of_ble_eq_true rfl) ?_
  show G Γ mX1_init 1 (2, 12) _ (0, 0) 0 [some (vR Γ 66), some (vR Γ 33), some (vR Γ 51)] [] (67, ρ, σ)
  refine g_aload_n (M := mX1_init) (pc := 0) dX1_init_0 rfl (k := ?_)
  refine g_objInit (M := mX1_init) (pc := 1) koX1_3 oi_1 oi_2 dX1_init_1 (by omega) (k := ?_)
  refine g_aload_n (M := mX1_init) (pc := 4) dX1_init_4 rfl (k := ?_)
  refine g_bipush (M := mX1_init) (pc := 5) dX1_init_5 (k := ?_)
  refine g_newa (M := mX1_init) (pc := 7) (N := 6) rfl (Or.inl ⟨rfl, rfl⟩) (by omega) (Z_at hZ) dX1_init_7 (Nat.le_of_ble_eq_true rfl) (Nat.le_of_ble_eq_true rfl) (kk := ?_)
  have hZ7 : Z 68 ρ σ := Z_n hZ
  refine g_putr (M := mX1_init) (pc := 9) (by rfl) fX1_2 kX1_9 dX1_init_9 (by first | exact Or.inl ⟨_, rfl⟩ | exact Or.inr ⟨_, rfl⟩) (Or.inr ⟨rfl, rfl, linkP kX1_9⟩) (kk := ?_)
  have hZ9 : Z 68 (upr ρ 66 2 68) σ := Z_r hZ7 (by decide)
  refine g_aload_n (M := mX1_init) (pc := 12) dX1_init_12 rfl (k := ?_)
  refine g_bipush (M := mX1_init) (pc := 13) dX1_init_13 (k := ?_)
  refine g_newa (M := mX1_init) (pc := 15) (N := 6) rfl (Or.inl ⟨rfl, rfl⟩) (by omega) (Z_at hZ9) dX1_init_15 (Nat.le_of_ble_eq_true rfl) (Nat.le_of_ble_eq_true rfl) (kk := ?_)
  have hZ15 : Z 69 (upr ρ 66 2 68) σ := Z_n hZ9
  refine g_putr (M := mX1_init) (pc := 17) (by rfl) fX1_3 kX1_15 dX1_init_17 (by first | exact Or.inl ⟨_, rfl⟩ | exact Or.inr ⟨_, rfl⟩) (Or.inr ⟨rfl, rfl, linkP kX1_15⟩) (kk := ?_)
  have hZ17 : Z 69 (upr (upr ρ 66 2 68) 66 3 69) σ := Z_r hZ15 (by decide)
  refine g_aload_n (M := mX1_init) (pc := 20) dX1_init_20 rfl (k := ?_)
  refine g_aload_n (M := mX1_init) (pc := 21) dX1_init_21 rfl (k := ?_)
  refine g_putr (M := mX1_init) (pc := 22) (by rfl) fX1_0 kX1_18 dX1_init_22 (by first | exact Or.inl ⟨_, rfl⟩ | exact Or.inr ⟨_, rfl⟩) (Or.inr ⟨rfl, rfl, linkP kX1_18⟩) (kk := ?_)
  have hZ22 : Z 69 (upr (upr (upr ρ 66 2 68) 66 3 69) 66 0 34) σ := Z_r hZ17 (by decide)
  refine g_aload_n (M := mX1_init) (pc := 25) dX1_init_25 rfl (k := ?_)
  refine g_aload_n (M := mX1_init) (pc := 26) dX1_init_26 rfl (k := ?_)
  refine g_putr (M := mX1_init) (pc := 27) (by rfl) fX1_1 kX1_22 dX1_init_27 (by first | exact Or.inl ⟨_, rfl⟩ | exact Or.inr ⟨_, rfl⟩) (Or.inr ⟨rfl, rfl, linkP kX1_22⟩) (kk := ?_)
  have hZ27 : Z 69 (upr (upr (upr (upr ρ 66 2 68) 66 3 69) 66 0 34) 66 1 52) σ := Z_r hZ22 (by decide)
  refine g_vret (M := mX1_init) (pc := 30) rfl dX1_init_30 rfl ⟨rfl, rfl, hZ27⟩
set_option maxHeartbeats 4000000 in
set_option maxRecDepth 20000 in
theorem c_X2_init_62 (Γ : KT) (t : Nat) (ρ : Nat → Nat → Nat) (σ : Nat → Int → Int) (hZ : Z 63 ρ σ) : Ct Γ mX2_init 2 (6, 37) [vR Γ 62, vR Γ 33, vR Γ 51] (63, ρ, σ) (pC 69 (upr (upr (upr (upr (upr (upr (upr (upr (upr (upr ρ 63 0 65) 63 1 66) 62 3 64) 62 0 34) 62 1 52) 66 2 68) 66 3 69) 66 0 34) 66 1 52) 62 2 67) σ) := by
  refine Ct.of rfl (Nat.le_of_ble_eq_true rfl) ?_
  show G Γ mX2_init 2 (6, 37) _ (0, 0) 0 [some (vR Γ 62), some (vR Γ 33), some (vR Γ 51)] [] (63, ρ, σ)
  refine g_aload_n (M := mX2_init) (pc := 0) dX2_init_0 rfl (k := ?_)
  refine g_objInit (M := mX2_init) (pc := 1) koX2_3 oi_1 oi_2 dX2_init_1 (by omega) (k := ?_)
  refine g_aload_n (M := mX2_init) (pc := 4) dX2_init_4 rfl (k := ?_)
  refine g_new (M := mX2_init) (pc := 5) (ci := 3) rfl rfl newX3 kX2_9 hfX3 (Z_at hZ) dX2_init_5 (Nat.le_of_ble_eq_true rfl) (Nat.le_of_ble_eq_true rfl) (kk := ?_)
  have hZ5 : Z 64 ρ σ := Z_n hZ
  refine g_dupR (M := mX2_init) (pc := 8) dX2_init_8 (k := ?_)
  refine g_cIC (M := mX2_init) (pc := 9) (c_X3_init_63 Γ t _ _ hZ5) qX3_init vX3_init rfl kX2_11 rfl (by omega) (by decide) ⟨Nat.le_of_ble_eq_true rfl, Nat.le_of_ble_eq_true rfl⟩ (Nat.le_of_ble_eq_true rfl) dX2_init_9 rfl (kk := fun hZ9 => ?_)
  refine g_putr (M := mX2_init) (pc := 12) (by rfl) fX2_3 kX2_12 dX2_init_12 (by first | exact Or.inl ⟨_, rfl⟩ | exact Or.inr ⟨_, rfl⟩) (Or.inr ⟨rfl, rfl, linkP kX2_12⟩) (kk := ?_)
  have hZ12 : Z 66 (upr (upr (upr ρ 63 0 65) 63 1 66) 62 3 64) σ := Z_r hZ9 (by decide)
  refine g_aload_n (M := mX2_init) (pc := 15) dX2_init_15 rfl (k := ?_)
  refine g_aload_n (M := mX2_init) (pc := 16) dX2_init_16 rfl (k := ?_)
  refine g_putr (M := mX2_init) (pc := 17) (by rfl) fX2_0 kX2_18 dX2_init_17 (by first | exact Or.inl ⟨_, rfl⟩ | exact Or.inr ⟨_, rfl⟩) (Or.inr ⟨rfl, rfl, linkP kX2_18⟩) (kk := ?_)
  have hZ17 : Z 66 (upr (upr (upr (upr ρ 63 0 65) 63 1 66) 62 3 64) 62 0 34) σ := Z_r hZ12 (by decide)
  refine g_aload_n (M := mX2_init) (pc := 20) dX2_init_20 rfl (k := ?_)
  refine g_aload_n (M := mX2_init) (pc := 21) dX2_init_21 rfl (k := ?_)
  refine g_putr (M := mX2_init) (pc := 22) (by rfl) fX2_1 kX2_22 dX2_init_22 (by first | exact Or.inl ⟨_, rfl⟩ | exact Or.inr ⟨_, rfl⟩) (Or.inr ⟨rfl, rfl, linkP kX2_22⟩) (kk := ?_)
  have hZ22 : Z 66 (upr (upr (upr (upr (upr ρ 63 0 65) 63 1 66) 62 3 64) 62 0 34) 62 1 52) σ := Z_r hZ17 (by decide)
  refine g_aload_n (M := mX2_init) (pc := 25) dX2_init_25 rfl (k := ?_)
  refine g_new (M := mX2_init) (pc := 26) (ci := 1) rfl rfl newX1 kX2_26 hfX1 (Z_at hZ22) dX2_init_26 (Nat.le_of_ble_eq_true rfl) (Nat.le_of_ble_eq_true rfl) (kk := ?_)
  have hZ26 : Z 67 (upr (upr (upr (upr (upr ρ 63 0 65) 63 1 66) 62 3 64) 62 0 34) 62 1 52) σ := Z_n hZ22
  refine g_dupR (M := mX2_init) (pc := 29) dX2_init_29 (k := ?_)
  refine g_aload_n (M := mX2_init) (pc := 30) dX2_init_30 rfl (k := ?_)
  refine g_aload_n (M := mX2_init) (pc := 31) dX2_init_31 rfl (k := ?_)
  refine g_cIC (M := mX2_init) (pc := 32) (c_X1_init_66 Γ t _ _ hZ26) qX1_init vX1_init rfl kX2_28 rfl (by omega) (by decide) ⟨Nat.le_of_ble_eq_true rfl, Nat.le_of_ble_eq_true rfl⟩ (Nat.le_of_ble_eq_true rfl) dX2_init_32 rfl (kk := fun hZ32 => ?_)
  refine g_putr (M := mX2_init) (pc := 35) (by rfl) fX2_2 kX2_31 dX2_init_35 (by first | exact Or.inl ⟨_, rfl⟩ | exact Or.inr ⟨_, rfl⟩) (Or.inr ⟨rfl, rfl, linkP kX2_31⟩) (kk := ?_)
  have hZ35 : Z 69 (upr (upr (upr (upr (upr (upr (upr (upr (upr (upr ρ 63 0 65) 63 1 66) 62 3 64) 62 0 34) 62 1 52) 66 2 68) 66 3 69) 66 0 34) 66 1 52) 62 2 67) σ := Z_r hZ32 (by decide)
  refine g_vret (M := mX2_init) (pc := 38) rfl dX2_init_38 rfl ⟨rfl, rfl, hZ35⟩
set_option maxHeartbeats 4000000 in
set_option maxRecDepth 20000 in
theorem c_X10_init_0 (Γ : KT) (t : Nat) (ρ : Nat → Nat → Nat) (σ : Nat → Int → Int) (hZ : Z 1 ρ σ) : Ct Γ mX10_init 3 (68, 1427) [vR Γ 0] (1, ρ, σ) (pC 69 (upr (upr (upr (upr (upr (upr (upr (upr (upr (upr (upr (upr (upr (upr (upr (upr (upr (upr (upr (upr (upr (upr (upr (upr (upr (upr (upr (upr (upr (upr (upr (upr (upr (upr (upr (upr (upr (upr (upr (upr (upr (upr (upr (upr (upr (upr (upr (upr (upr (upr (upr (upr (upr (upr (upr (upr (upr (upr (upr (upr (upr (upr (upr (upr (upr (upr (upr (upr (upr (upr (upr (upr ρ 1 1 3) 1 2 4) 1 3 5) 1 4 6) 1 5 7) 1 7 8) 1 8 9) 1 9 10) 10 0 12) 10 1 13) 1 10 11) 13 0 15) 13 1 16) 1 11 14) 16 0 18) 16 1 19) 1 12 17) 0 1 2) 19 0 21) 0 3 20) 21 0 23) 0 6 22) 24 0 26) 24 1 27) 24 2 28) 24 3 29) 24 4 30) 24 5 31) 23 0 25) 23 1 32) 23 2 33) 0 7 24) 33 1 35) 33 2 36) 33 3 37) 33 4 38) 33 5 39) 33 7 40) 33 8 41) 33 9 42) 42 0 44) 42 1 45) 33 10 43) 45 0 47) 45 1 48) 33 11 46) 48 0 50) 48 1 51) 33 12 49) 52 0 54) 52 1 55) 52 2 56) 52 3 57) 52 4 58) 52 5 59) 51 0 53) 51 1 60) 51 2 61) 51 4 62) 0 0 34) 0 4 52) 63 0 65) 63 1 66) 62 3 64) 62 0 34) 62 1 52) 66 2 68) 66 3 69) 66 0 34) 66 1 52) 62 2 67) 0 5 63) (up (up (up (up (up (up (up (up (up σ 1 13 (-1)) 19 3 (-1)) 32 0 (-1)) 32 1 (-1)) 32 2 (-1)) 32 3 (-1)) 32 4 (-1)) 32 5 (-1)) 33 13 (-1))) := by
  refine Ct.of rfl (Nat.le_of_ble_eq_true rfl) ?_
  show G Γ mX10_init 3 (68, 1427) _ (0, 0) 0 [some (vR Γ 0), none, none] [] (1, ρ, σ)
  refine g_aload_n (M := mX10_init) (pc := 0) dX10_init_0 rfl (k := ?_)
  refine g_objInit (M := mX10_init) (pc := 1) koX10_3 oi_1 oi_2 dX10_init_1 (by omega) (k := ?_)
  refine g_aload_n (M := mX10_init) (pc := 4) dX10_init_4 rfl (k := ?_)
  refine g_new (M := mX10_init) (pc := 5) (ci := 5) rfl rfl newX5 kX10_9 hfX5 (Z_at hZ) dX10_init_5 (Nat.le_of_ble_eq_true rfl) (Nat.le_of_ble_eq_true rfl) (kk := ?_)
  have hZ5 : Z 2 ρ σ := Z_n hZ
  refine g_dupR (M := mX10_init) (pc := 8) dX10_init_8 (k := ?_)
  refine g_cIC (M := mX10_init) (pc := 9) (c_X5_init_1 Γ t _ _ hZ5) qX5_init vX5_init rfl kX10_11 rfl (by omega) (by decide) ⟨Nat.le_of_ble_eq_true rfl, Nat.le_of_ble_eq_true rfl⟩ (Nat.le_of_ble_eq_true rfl) dX10_init_9 rfl (kk := fun hZ9 => ?_)
  refine g_putr (M := mX10_init) (pc := 12) (by rfl) fX10_1 kX10_12 dX10_init_12 (by first | exact Or.inl ⟨_, rfl⟩ | exact Or.inr ⟨_, rfl⟩) (Or.inr ⟨rfl, rfl, linkP kX10_12⟩) (kk := ?_)
  have hZ12 : Z 19 (upr (upr (upr (upr (upr (upr (upr (upr (upr (upr (upr (upr (upr (upr (upr (upr (upr (upr ρ 1 1 3) 1 2 4) 1 3 5) 1 4 6) 1 5 7) 1 7 8) 1 8 9) 1 9 10) 10 0 12) 10 1 13) 1 10 11) 13 0 15) 13 1 16) 1 11 14) 16 0 18) 16 1 19) 1 12 17) 0 1 2) (up σ 1 13 (-1)) := Z_r hZ9 (by decide)
  refine g_aload_n (M := mX10_init) (pc := 15) dX10_init_15 rfl (k := ?_)
  refine g_new (M := mX10_init) (pc := 16) (ci := 7) rfl rfl newX7 kX10_18 hfX7 (Z_at hZ12) dX10_init_16 (Nat.le_of_ble_eq_true rfl) (Nat.le_of_ble_eq_true rfl) (kk := ?_)
  have hZ16 : Z 20 (upr (upr (upr (upr (upr (upr (upr (upr (upr (upr (upr (upr (upr (upr (upr (upr (upr (upr ρ 1 1 3) 1 2 4) 1 3 5) 1 4 6) 1 5 7) 1 7 8) 1 8 9) 1 9 10) 10 0 12) 10 1 13) 1 10 11) 13 0 15) 13 1 16) 1 11 14) 16 0 18) 16 1 19) 1 12 17) 0 1 2) (up σ 1 13 (-1)) := Z_n hZ12
  refine g_dupR (M := mX10_init) (pc := 19) dX10_init_19 (k := ?_)
  refine g_cIC (M := mX10_init) (pc := 20) (c_X7_init_19 Γ t _ _ hZ16) qX7_init vX7_init rfl kX10_20 rfl (by omega) (by decide) ⟨Nat.le_of_ble_eq_true rfl, Nat.le_of_ble_eq_true rfl⟩ (Nat.le_of_ble_eq_true rfl) dX10_init_20 rfl (kk := fun hZ20 => ?_)
  refine g_putr (M := mX10_init) (pc := 23) (by rfl) fX10_3 kX10_21 dX10_init_23 (by first | exact Or.inl ⟨_, rfl⟩ | exact Or.inr ⟨_, rfl⟩) (Or.inr ⟨rfl, rfl, linkP kX10_21⟩) (kk := ?_)
  have hZ23 : Z 21 (upr (upr (upr (upr (upr (upr (upr (upr (upr (upr (upr (upr (upr (upr (upr (upr (upr (upr (upr (upr ρ 1 1 3) 1 2 4) 1 3 5) 1 4 6) 1 5 7) 1 7 8) 1 8 9) 1 9 10) 10 0 12) 10 1 13) 1 10 11) 13 0 15) 13 1 16) 1 11 14) 16 0 18) 16 1 19) 1 12 17) 0 1 2) 19 0 21) 0 3 20) (up (up σ 1 13 (-1)) 19 3 (-1)) := Z_r hZ20 (by decide)
  refine g_aload_n (M := mX10_init) (pc := 26) dX10_init_26 rfl (k := ?_)
  refine g_new (M := mX10_init) (pc := 27) (ci := 0) rfl rfl newX0 kX10_25 hfX0 (Z_at hZ23) dX10_init_27 (Nat.le_of_ble_eq_true rfl) (Nat.le_of_ble_eq_true rfl) (kk := ?_)
  have hZ27 : Z 22 (upr (upr (upr (upr (upr (upr (upr (upr (upr (upr (upr (upr (upr (upr (upr (upr (upr (upr (upr (upr ρ 1 1 3) 1 2 4) 1 3 5) 1 4 6) 1 5 7) 1 7 8) 1 8 9) 1 9 10) 10 0 12) 10 1 13) 1 10 11) 13 0 15) 13 1 16) 1 11 14) 16 0 18) 16 1 19) 1 12 17) 0 1 2) 19 0 21) 0 3 20) (up (up σ 1 13 (-1)) 19 3 (-1)) := Z_n hZ23
  refine g_dupR (M := mX10_init) (pc := 30) dX10_init_30 (k := ?_)
  refine g_cIC (M := mX10_init) (pc := 31) (c_X0_init_21 Γ t _ _ hZ27) qX0_init vX0_init rfl kX10_27 rfl (by omega) (by decide) ⟨Nat.le_of_ble_eq_true rfl, Nat.le_of_ble_eq_true rfl⟩ (Nat.le_of_ble_eq_true rfl) dX10_init_31 rfl (kk := fun hZ31 => ?_)
  refine g_putr (M := mX10_init) (pc := 34) (by rfl) fX10_6 kX10_28 dX10_init_34 (by first | exact Or.inl ⟨_, rfl⟩ | exact Or.inr ⟨_, rfl⟩) (Or.inr ⟨rfl, rfl, linkP kX10_28⟩) (kk := ?_)
  have hZ34 : Z 23 (upr (upr (upr (upr (upr (upr (upr (upr (upr (upr (upr (upr (upr (upr (upr (upr (upr (upr (upr (upr (upr (upr ρ 1 1 3) 1 2 4) 1 3 5) 1 4 6) 1 5 7) 1 7 8) 1 8 9) 1 9 10) 10 0 12) 10 1 13) 1 10 11) 13 0 15) 13 1 16) 1 11 14) 16 0 18) 16 1 19) 1 12 17) 0 1 2) 19 0 21) 0 3 20) 21 0 23) 0 6 22) (up (up σ 1 13 (-1)) 19 3 (-1)) := Z_r hZ31 (by decide)
  refine g_aload_n (M := mX10_init) (pc := 37) dX10_init_37 rfl (k := ?_)
  refine g_new (M := mX10_init) (pc := 38) (ci := 6) rfl rfl newX6 kX10_32 hfX6 (Z_at hZ34) dX10_init_38 (Nat.le_of_ble_eq_true rfl) (Nat.le_of_ble_eq_true rfl) (kk := ?_)
  have hZ38 : Z 24 (upr (upr (upr (upr (upr (upr (upr (upr (upr (upr (upr (upr (upr (upr (upr (upr (upr (upr (upr (upr (upr (upr ρ 1 1 3) 1 2 4) 1 3 5) 1 4 6) 1 5 7) 1 7 8) 1 8 9) 1 9 10) 10 0 12) 10 1 13) 1 10 11) 13 0 15) 13 1 16) 1 11 14) 16 0 18) 16 1 19) 1 12 17) 0 1 2) 19 0 21) 0 3 20) 21 0 23) 0 6 22) (up (up σ 1 13 (-1)) 19 3 (-1)) := Z_n hZ34
  refine g_dupR (M := mX10_init) (pc := 41) dX10_init_41 (k := ?_)
  refine g_cIC (M := mX10_init) (pc := 42) (c_X6_init_23 Γ t _ _ hZ38) qX6_init vX6_init rfl kX10_34 rfl (by omega) (by decide) ⟨Nat.le_of_ble_eq_true rfl, Nat.le_of_ble_eq_true rfl⟩ (Nat.le_of_ble_eq_true rfl) dX10_init_42 rfl (kk := fun hZ42 => ?_)
  refine g_putr (M := mX10_init) (pc := 45) (by rfl) fX10_7 kX10_35 dX10_init_45 (by first | exact Or.inl ⟨_, rfl⟩ | exact Or.inr ⟨_, rfl⟩) (Or.inr ⟨rfl, rfl, linkP kX10_35⟩) (kk := ?_)
  have hZ45 : Z 33 (upr (upr (upr (upr (upr (upr (upr (upr (upr (upr (upr (upr (upr (upr (upr (upr (upr (upr (upr (upr (upr (upr (upr (upr (upr (upr (upr (upr (upr (upr (upr (upr ρ 1 1 3) 1 2 4) 1 3 5) 1 4 6) 1 5 7) 1 7 8) 1 8 9) 1 9 10) 10 0 12) 10 1 13) 1 10 11) 13 0 15) 13 1 16) 1 11 14) 16 0 18) 16 1 19) 1 12 17) 0 1 2) 19 0 21) 0 3 20) 21 0 23) 0 6 22) 24 0 26) 24 1 27) 24 2 28) 24 3 29) 24 4 30) 24 5 31) 23 0 25) 23 1 32) 23 2 33) 0 7 24) (up (up (up (up (up (up (up (up σ 1 13 (-1)) 19 3 (-1)) 32 0 (-1)) 32 1 (-1)) 32 2 (-1)) 32 3 (-1)) 32 4 (-1)) 32 5 (-1)) := Z_r hZ42 (by decide)
  refine g_new (M := mX10_init) (pc := 48) (ci := 5) rfl rfl newX5 kX10_9 hfX5 (Z_at hZ45) dX10_init_48 (Nat.le_of_ble_eq_true rfl) (Nat.le_of_ble_eq_true rfl) (kk := ?_)
  have hZ48 : Z 34 (upr (upr (upr (upr (upr (upr (upr (upr (upr (upr (upr (upr (upr (upr (upr (upr (upr (upr (upr (upr (upr (upr (upr (upr (upr (upr (upr (upr (upr (upr (upr (upr ρ 1 1 3) 1 2 4) 1 3 5) 1 4 6) 1 5 7) 1 7 8) 1 8 9) 1 9 10) 10 0 12) 10 1 13) 1 10 11) 13 0 15) 13 1 16) 1 11 14) 16 0 18) 16 1 19) 1 12 17) 0 1 2) 19 0 21) 0 3 20) 21 0 23) 0 6 22) 24 0 26) 24 1 27) 24 2 28) 24 3 29) 24 4 30) 24 5 31) 23 0 25) 23 1 32) 23 2 33) 0 7 24) (up (up (up (up (up (up (up (up σ 1 13 (-1)) 19 3 (-1)) 32 0 (-1)) 32 1 (-1)) 32 2 (-1)) 32 3 (-1)) 32 4 (-1)) 32 5 (-1)) := Z_n hZ45
  refine g_dupR (M := mX10_init) (pc := 51) dX10_init_51 (k := ?_)
  refine g_cIC (M := mX10_init) (pc := 52) (c_X5_init_33 Γ t _ _ hZ48) qX5_init vX5_init rfl kX10_11 rfl (by omega) (by decide) ⟨Nat.le_of_ble_eq_true rfl, Nat.le_of_ble_eq_true rfl⟩ (Nat.le_of_ble_eq_true rfl) dX10_init_52 rfl (kk := fun hZ52 => ?_)
  refine g_astore_1 (M := mX10_init) (pc := 55) dX10_init_55 (k := ?_)
  refine g_new (M := mX10_init) (pc := 56) (ci := 8) rfl rfl newX9 kX10_39 hfX9 (Z_at hZ52) dX10_init_56 (Nat.le_of_ble_eq_true rfl) (Nat.le_of_ble_eq_true rfl) (kk := ?_)
  have hZ56 : Z 52 (upr (upr (upr (upr (upr (upr (upr (upr (upr (upr (upr (upr (upr (upr (upr (upr (upr (upr (upr (upr (upr (upr (upr (upr (upr (upr (upr (upr (upr (upr (upr (upr (upr (upr (upr (upr (upr (upr (upr (upr (upr (upr (upr (upr (upr (upr (upr (upr (upr ρ 1 1 3) 1 2 4) 1 3 5) 1 4 6) 1 5 7) 1 7 8) 1 8 9) 1 9 10) 10 0 12) 10 1 13) 1 10 11) 13 0 15) 13 1 16) 1 11 14) 16 0 18) 16 1 19) 1 12 17) 0 1 2) 19 0 21) 0 3 20) 21 0 23) 0 6 22) 24 0 26) 24 1 27) 24 2 28) 24 3 29) 24 4 30) 24 5 31) 23 0 25) 23 1 32) 23 2 33) 0 7 24) 33 1 35) 33 2 36) 33 3 37) 33 4 38) 33 5 39) 33 7 40) 33 8 41) 33 9 42) 42 0 44) 42 1 45) 33 10 43) 45 0 47) 45 1 48) 33 11 46) 48 0 50) 48 1 51) 33 12 49) (up (up (up (up (up (up (up (up (up σ 1 13 (-1)) 19 3 (-1)) 32 0 (-1)) 32 1 (-1)) 32 2 (-1)) 32 3 (-1)) 32 4 (-1)) 32 5 (-1)) 33 13 (-1)) := Z_n hZ52
  refine g_dupR (M := mX10_init) (pc := 59) dX10_init_59 (k := ?_)
  refine g_cIC (M := mX10_init) (pc := 60) (c_X9_init_51 Γ t _ _ hZ56) qX9_init vX9_init rfl kX10_41 rfl (by omega) (by decide) ⟨Nat.le_of_ble_eq_true rfl, Nat.le_of_ble_eq_true rfl⟩ (Nat.le_of_ble_eq_true rfl) dX10_init_60 rfl (kk := fun hZ60 => ?_)
  refine g_astore_2 (M := mX10_init) (pc := 63) dX10_init_63 (k := ?_)
  refine g_aload_n (M := mX10_init) (pc := 64) dX10_init_64 rfl (k := ?_)
  refine g_aload_n (M := mX10_init) (pc := 65) dX10_init_65 rfl (k := ?_)
  refine g_putr (M := mX10_init) (pc := 66) (by rfl) fX10_0 kX10_42 dX10_init_66 (by first | exact Or.inl ⟨_, rfl⟩ | exact Or.inr ⟨_, rfl⟩) (Or.inr ⟨rfl, rfl, linkP kX10_42⟩) (kk := ?_)
  have hZ66 : Z 62 (upr (upr (upr (upr (upr (upr (upr (upr (upr (upr (upr (upr (upr (upr (upr (upr (upr (upr (upr (upr (upr (upr (upr (upr (upr (upr (upr (upr (upr (upr (upr (upr (upr (upr (upr (upr (upr (upr (upr (upr (upr (upr (upr (upr (upr (upr (upr (upr (upr (upr (upr (upr (upr (upr (upr (upr (upr (upr (upr (upr ρ 1 1 3) 1 2 4) 1 3 5) 1 4 6) 1 5 7) 1 7 8) 1 8 9) 1 9 10) 10 0 12) 10 1 13) 1 10 11) 13 0 15) 13 1 16) 1 11 14) 16 0 18) 16 1 19) 1 12 17) 0 1 2) 19 0 21) 0 3 20) 21 0 23) 0 6 22) 24 0 26) 24 1 27) 24 2 28) 24 3 29) 24 4 30) 24 5 31) 23 0 25) 23 1 32) 23 2 33) 0 7 24) 33 1 35) 33 2 36) 33 3 37) 33 4 38) 33 5 39) 33 7 40) 33 8 41) 33 9 42) 42 0 44) 42 1 45) 33 10 43) 45 0 47) 45 1 48) 33 11 46) 48 0 50) 48 1 51) 33 12 49) 52 0 54) 52 1 55) 52 2 56) 52 3 57) 52 4 58) 52 5 59) 51 0 53) 51 1 60) 51 2 61) 51 4 62) 0 0 34) (up (up (up (up (up (up (up (up (up σ 1 13 (-1)) 19 3 (-1)) 32 0 (-1)) 32 1 (-1)) 32 2 (-1)) 32 3 (-1)) 32 4 (-1)) 32 5 (-1)) 33 13 (-1)) := Z_r hZ60 (by decide)
  refine g_aload_n (M := mX10_init) (pc := 69) dX10_init_69 rfl (k := ?_)
  refine g_aload_n (M := mX10_init) (pc := 70) dX10_init_70 rfl (k := ?_)
  refine g_putr (M := mX10_init) (pc := 71) (by rfl) fX10_4 kX10_45 dX10_init_71 (by first | exact Or.inl ⟨_, rfl⟩ | exact Or.inr ⟨_, rfl⟩) (Or.inr ⟨rfl, rfl, linkP kX10_45⟩) (kk := ?_)
  have hZ71 : Z 62 (upr (upr (upr (upr (upr (upr (upr (upr (upr (upr (upr (upr (upr (upr (upr (upr (upr (upr (upr (upr (upr (upr (upr (upr (upr (upr (upr (upr (upr (upr (upr (upr (upr (upr (upr (upr (upr (upr (upr (upr (upr (upr (upr (upr (upr (upr (upr (upr (upr (upr (upr (upr (upr (upr (upr (upr (upr (upr (upr (upr (upr ρ 1 1 3) 1 2 4) 1 3 5) 1 4 6) 1 5 7) 1 7 8) 1 8 9) 1 9 10) 10 0 12) 10 1 13) 1 10 11) 13 0 15) 13 1 16) 1 11 14) 16 0 18) 16 1 19) 1 12 17) 0 1 2) 19 0 21) 0 3 20) 21 0 23) 0 6 22) 24 0 26) 24 1 27) 24 2 28) 24 3 29) 24 4 30) 24 5 31) 23 0 25) 23 1 32) 23 2 33) 0 7 24) 33 1 35) 33 2 36) 33 3 37) 33 4 38) 33 5 39) 33 7 40) 33 8 41) 33 9 42) 42 0 44) 42 1 45) 33 10 43) 45 0 47) 45 1 48) 33 11 46) 48 0 50) 48 1 51) 33 12 49) 52 0 54) 52 1 55) 52 2 56) 52 3 57) 52 4 58) 52 5 59) 51 0 53) 51 1 60) 51 2 61) 51 4 62) 0 0 34) 0 4 52) (up (up (up (up (up (up (up (up (up σ 1 13 (-1)) 19 3 (-1)) 32 0 (-1)) 32 1 (-1)) 32 2 (-1)) 32 3 (-1)) 32 4 (-1)) 32 5 (-1)) 33 13 (-1)) := Z_r hZ66 (by decide)
  refine g_aload_n (M := mX10_init) (pc := 74) dX10_init_74 rfl (k := ?_)
  refine g_new (M := mX10_init) (pc := 75) (ci := 2) rfl rfl newX2 kX10_49 hfX2 (Z_at hZ71) dX10_init_75 (Nat.le_of_ble_eq_true rfl) (Nat.le_of_ble_eq_true rfl) (kk := ?_)
  have hZ75 : Z 63 (upr (upr (upr (upr (upr (upr (upr (upr (upr (upr (upr (upr (upr (upr (upr (upr (upr (upr (upr (upr (upr (upr (upr (upr (upr (upr (upr (upr (upr (upr (upr (upr (upr (upr (upr (upr (upr (upr (upr (upr (upr (upr (upr (upr (upr (upr (upr (upr (upr (upr (upr (upr (upr (upr (upr (upr (upr (upr (upr (upr (upr ρ 1 1 3) 1 2 4) 1 3 5) 1 4 6) 1 5 7) 1 7 8) 1 8 9) 1 9 10) 10 0 12) 10 1 13) 1 10 11) 13 0 15) 13 1 16) 1 11 14) 16 0 18) 16 1 19) 1 12 17) 0 1 2) 19 0 21) 0 3 20) 21 0 23) 0 6 22) 24 0 26) 24 1 27) 24 2 28) 24 3 29) 24 4 30) 24 5 31) 23 0 25) 23 1 32) 23 2 33) 0 7 24) 33 1 35) 33 2 36) 33 3 37) 33 4 38) 33 5 39) 33 7 40) 33 8 41) 33 9 42) 42 0 44) 42 1 45) 33 10 43) 45 0 47) 45 1 48) 33 11 46) 48 0 50) 48 1 51) 33 12 49) 52 0 54) 52 1 55) 52 2 56) 52 3 57) 52 4 58) 52 5 59) 51 0 53) 51 1 60) 51 2 61) 51 4 62) 0 0 34) 0 4 52) (up (up (up (up (up (up (up (up (up σ 1 13 (-1)) 19 3 (-1)) 32 0 (-1)) 32 1 (-1)) 32 2 (-1)) 32 3 (-1)) 32 4 (-1)) 32 5 (-1)) 33 13 (-1)) := Z_n hZ71
  refine g_dupR (M := mX10_init) (pc := 78) dX10_init_78 (k := ?_)
  refine g_aload_n (M := mX10_init) (pc := 79) dX10_init_79 rfl (k := ?_)
  refine g_aload_n (M := mX10_init) (pc := 80) dX10_init_80 rfl (k := ?_)
  refine g_cIC (M := mX10_init) (pc := 81) (c_X2_init_62 Γ t _ _ hZ75) qX2_init vX2_init rfl kX10_51 rfl (by omega) (by decide) ⟨Nat.le_of_ble_eq_true rfl, Nat.le_of_ble_eq_true rfl⟩ (Nat.le_of_ble_eq_true rfl) dX10_init_81 rfl (kk := fun hZ81 => ?_)
  refine g_putr (M := mX10_init) (pc := 84) (by rfl) fX10_5 kX10_54 dX10_init_84 (by first | exact Or.inl ⟨_, rfl⟩ | exact Or.inr ⟨_, rfl⟩) (Or.inr ⟨rfl, rfl, linkP kX10_54⟩) (kk := ?_)
  have hZ84 : Z 69 (upr (upr (upr (upr (upr (upr (upr (upr (upr (upr (upr (upr (upr (upr (upr (upr (upr (upr (upr (upr (upr (upr (upr (upr (upr (upr (upr (upr (upr (upr (upr (upr (upr (upr (upr (upr (upr (upr (upr (upr (upr (upr (upr (upr (upr (upr (upr (upr (upr (upr (upr (upr (upr (upr (upr (upr (upr (upr (upr (upr (upr (upr (upr (upr (upr (upr (upr (upr (upr (upr (upr (upr ρ 1 1 3) 1 2 4) 1 3 5) 1 4 6) 1 5 7) 1 7 8) 1 8 9) 1 9 10) 10 0 12) 10 1 13) 1 10 11) 13 0 15) 13 1 16) 1 11 14) 16 0 18) 16 1 19) 1 12 17) 0 1 2) 19 0 21) 0 3 20) 21 0 23) 0 6 22) 24 0 26) 24 1 27) 24 2 28) 24 3 29) 24 4 30) 24 5 31) 23 0 25) 23 1 32) 23 2 33) 0 7 24) 33 1 35) 33 2 36) 33 3 37) 33 4 38) 33 5 39) 33 7 40) 33 8 41) 33 9 42) 42 0 44) 42 1 45) 33 10 43) 45 0 47) 45 1 48) 33 11 46) 48 0 50) 48 1 51) 33 12 49) 52 0 54) 52 1 55) 52 2 56) 52 3 57) 52 4 58) 52 5 59) 51 0 53) 51 1 60) 51 2 61) 51 4 62) 0 0 34) 0 4 52) 63 0 65) 63 1 66) 62 3 64) 62 0 34) 62 1 52) 66 2 68) 66 3 69) 66 0 34) 66 1 52) 62 2 67) 0 5 63) (up (up (up (up (up (up (up (up (up σ 1 13 (-1)) 19 3 (-1)) 32 0 (-1)) 32 1 (-1)) 32 2 (-1)) 32 3 (-1)) 32 4 (-1)) 32 5 (-1)) 33 13 (-1)) := Z_r hZ81 (by decide)
  refine g_vret (M := mX10_init) (pc := 87) rfl dX10_init_87 rfl ⟨rfl, rfl, hZ84⟩
set_option maxHeartbeats 4000000 in
set_option maxRecDepth 20000 in
theorem c_X11_init_69 (Γ : KT) (t : Nat) (ρ : Nat → Nat → Nat) (σ : Nat → Int → Int) (hZ : Z 70 ρ σ) : Ct Γ mX11_init 1 (43, 1838) [vR Γ 69] (70, ρ, σ) (pC 113 (upr (upr (upr (upr (upr (upr (upr (upr (upr (upr (upr (upr (upr (upr (upr (upr (upr (upr (upr (upr (upr (upr (upr (upr (upr (upr (upr (upr (upr (upr (upr (upr (upr (upr (upr (upr (upr (upr (upr (upr (upr (upr (upr ρ 69 2 71) 69 3 72) 69 4 73) 69 5 74) 69 6 75) 69 7 76) 69 8 77) 69 9 78) 69 15 79) 69 16 80) 69 17 81) 69 18 82) 69 19 83) 69 20 84) 69 21 85) 69 22 86) 69 26 87) 69 27 88) 69 35 89) 69 36 90) 69 37 91) 69 39 92) 69 40 93) 69 42 94) 69 43 95) 69 51 96) 69 52 97) 69 53 98) 69 54 99) 69 55 100) 69 56 101) 69 57 102) 69 58 103) 69 59 104) 69 60 105) 69 61 106) 69 62 107) 69 63 108) 69 65 109) 69 66 110) 69 67 111) 69 68 112) 69 69 113) (up (up (up (up (up (up (up (up (up (up (up (up (up (up (up (up (up (up (up (up (up (up (up (up (up (up (up (up (up (up (up (up (up (up (up (up (up (up (up (up (up (up (up (up (up (up σ 69 0 0) 69 1 0) 69 10 0) 69 11 (-1)) 69 12 0) 69 13 0) 69 14 0) 69 23 0) 69 24 0) 69 25 0) 86 0 99) 86 1 111) 86 2 117) 86 3 110) 86 4 116) 86 5 119) 86 6 97) 86 7 108) 86 8 107) 86 9 100) 86 10 97) 86 11 119) 86 12 110) 69 28 0) 69 29 0) 69 30 0) 69 31 0) 69 32 0) 69 33 0) 69 34 0) 69 38 0) 69 41 0) 69 44 0) 69 45 (-1)) 69 46 0) 69 47 0) 69 48 0) 69 49 0) 69 50 0) 69 64 0) 109 0 (-1)) 109 1 (-1)) 109 2 (-1)) 109 3 (-1)) 109 4 (-1)) 109 5 (-1))) := by
  refine Ct.of rfl (Nat.le_of_ble_eq_true rfl) ?_
  show G Γ mX11_init 1 (43, 1838) _ (0, 0) 0 [some (vR Γ 69)] [] (70, ρ, σ)
  refine g_aload_n (M := mX11_init) (pc := 0) dX11_init_0 rfl (k := ?_)
  refine g_objInit (M := mX11_init) (pc := 1) koX11_1 oi_1 oi_2 dX11_init_1 (by omega) (k := ?_)
  refine g_aload_n (M := mX11_init) (pc := 4) dX11_init_4 rfl (k := ?_)
  refine g_iconst (M := mX11_init) (pc := 5) dX11_init_5 (k := ?_)
  refine g_put (M := mX11_init) (pc := 6) (ji := 0) (by rfl) fX11_0 kX11_7 dX11_init_6 (by omega) (kk := ?_)
  have hZ6 : Z 70 ρ (up σ 69 0 0) := Z_u hZ (by decide)
  refine g_aload_n (M := mX11_init) (pc := 9) dX11_init_9 rfl (k := ?_)
  refine g_iconst (M := mX11_init) (pc := 10) dX11_init_10 (k := ?_)
  refine g_put (M := mX11_init) (pc := 11) (ji := 1) (by rfl) fX11_1 kX11_13 dX11_init_11 (by omega) (kk := ?_)
  have hZ11 : Z 70 ρ (up (up σ 69 0 0) 69 1 0) := Z_u hZ6 (by decide)
  refine g_aload_n (M := mX11_init) (pc := 14) dX11_init_14 rfl (k := ?_)
  refine g_bipush (M := mX11_init) (pc := 15) dX11_init_15 (k := ?_)
  refine g_newa (M := mX11_init) (pc := 17) (N := 6) rfl (Or.inl ⟨rfl, rfl⟩) (by omega) (Z_at hZ11) dX11_init_17 (Nat.le_of_ble_eq_true rfl) (Nat.le_of_ble_eq_true rfl) (kk := ?_)
  have hZ17 : Z 71 ρ (up (up σ 69 0 0) 69 1 0) := Z_n hZ11
  refine g_putr (M := mX11_init) (pc := 19) (by rfl) fX11_2 kX11_16 dX11_init_19 (by first | exact Or.inl ⟨_, rfl⟩ | exact Or.inr ⟨_, rfl⟩) (Or.inr ⟨rfl, rfl, linkP kX11_16⟩) (kk := ?_)
  have hZ19 : Z 71 (upr ρ 69 2 71) (up (up σ 69 0 0) 69 1 0) := Z_r hZ17 (by decide)
  refine g_aload_n (M := mX11_init) (pc := 22) dX11_init_22 rfl (k := ?_)
  refine g_bipush (M := mX11_init) (pc := 23) dX11_init_23 (k := ?_)
  refine g_newa (M := mX11_init) (pc := 25) (N := 6) rfl (Or.inl ⟨rfl, rfl⟩) (by omega) (Z_at hZ19) dX11_init_25 (Nat.le_of_ble_eq_true rfl) (Nat.le_of_ble_eq_true rfl) (kk := ?_)
  have hZ25 : Z 72 (upr ρ 69 2 71) (up (up σ 69 0 0) 69 1 0) := Z_n hZ19
  refine g_putr (M := mX11_init) (pc := 27) (by rfl) fX11_3 kX11_20 dX11_init_27 (by first | exact Or.inl ⟨_, rfl⟩ | exact Or.inr ⟨_, rfl⟩) (Or.inr ⟨rfl, rfl, linkP kX11_20⟩) (kk := ?_)
  have hZ27 : Z 72 (upr (upr ρ 69 2 71) 69 3 72) (up (up σ 69 0 0) 69 1 0) := Z_r hZ25 (by decide)
  refine g_aload_n (M := mX11_init) (pc := 30) dX11_init_30 rfl (k := ?_)
  refine g_bipush (M := mX11_init) (pc := 31) dX11_init_31 (k := ?_)
  refine g_newa (M := mX11_init) (pc := 33) (N := 6) rfl (Or.inl ⟨rfl, rfl⟩) (by omega) (Z_at hZ27) dX11_init_33 (Nat.le_of_ble_eq_true rfl) (Nat.le_of_ble_eq_true rfl) (kk := ?_)
  have hZ33 : Z 73 (upr (upr ρ 69 2 71) 69 3 72) (up (up σ 69 0 0) 69 1 0) := Z_n hZ27
  refine g_putr (M := mX11_init) (pc := 35) (by rfl) fX11_4 kX11_23 dX11_init_35 (by first | exact Or.inl ⟨_, rfl⟩ | exact Or.inr ⟨_, rfl⟩) (Or.inr ⟨rfl, rfl, linkP kX11_23⟩) (kk := ?_)
  have hZ35 : Z 73 (upr (upr (upr ρ 69 2 71) 69 3 72) 69 4 73) (up (up σ 69 0 0) 69 1 0) := Z_r hZ33 (by decide)
  refine g_aload_n (M := mX11_init) (pc := 38) dX11_init_38 rfl (k := ?_)
  refine g_bipush (M := mX11_init) (pc := 39) dX11_init_39 (k := ?_)
  refine g_newa (M := mX11_init) (pc := 41) (N := 6) rfl (Or.inl ⟨rfl, rfl⟩) (by omega) (Z_at hZ35) dX11_init_41 (Nat.le_of_ble_eq_true rfl) (Nat.le_of_ble_eq_true rfl) (kk := ?_)
  have hZ41 : Z 74 (upr (upr (upr ρ 69 2 71) 69 3 72) 69 4 73) (up (up σ 69 0 0) 69 1 0) := Z_n hZ35
  refine g_putr (M := mX11_init) (pc := 43) (by rfl) fX11_5 kX11_26 dX11_init_43 (by first | exact Or.inl ⟨_, rfl⟩ | exact Or.inr ⟨_, rfl⟩) (Or.inr ⟨rfl, rfl, linkP kX11_26⟩) (kk := ?_)
  have hZ43 : Z 74 (upr (upr (upr (upr ρ 69 2 71) 69 3 72) 69 4 73) 69 5 74) (up (up σ 69 0 0) 69 1 0) := Z_r hZ41 (by decide)
  refine g_aload_n (M := mX11_init) (pc := 46) dX11_init_46 rfl (k := ?_)
  refine g_bipush (M := mX11_init) (pc := 47) dX11_init_47 (k := ?_)
  refine g_newa (M := mX11_init) (pc := 49) (N := 24) rfl (Or.inl ⟨rfl, rfl⟩) (by omega) (Z_at hZ43) dX11_init_49 (Nat.le_of_ble_eq_true rfl) (Nat.le_of_ble_eq_true rfl) (kk := ?_)
  have hZ49 : Z 75 (upr (upr (upr (upr ρ 69 2 71) 69 3 72) 69 4 73) 69 5 74) (up (up σ 69 0 0) 69 1 0) := Z_n hZ43
  refine g_putr (M := mX11_init) (pc := 51) (by rfl) fX11_6 kX11_29 dX11_init_51 (by first | exact Or.inl ⟨_, rfl⟩ | exact Or.inr ⟨_, rfl⟩) (Or.inr ⟨rfl, rfl, linkP kX11_29⟩) (kk := ?_)
  have hZ51 : Z 75 (upr (upr (upr (upr (upr ρ 69 2 71) 69 3 72) 69 4 73) 69 5 74) 69 6 75) (up (up σ 69 0 0) 69 1 0) := Z_r hZ49 (by decide)
  refine g_aload_n (M := mX11_init) (pc := 54) dX11_init_54 rfl (k := ?_)
  refine g_iconst (M := mX11_init) (pc := 55) dX11_init_55 (k := ?_)
  refine g_newa (M := mX11_init) (pc := 56) (N := 4) rfl (Or.inl ⟨rfl, rfl⟩) (by omega) (Z_at hZ51) dX11_init_56 (Nat.le_of_ble_eq_true rfl) (Nat.le_of_ble_eq_true rfl) (kk := ?_)
  have hZ56 : Z 76 (upr (upr (upr (upr (upr ρ 69 2 71) 69 3 72) 69 4 73) 69 5 74) 69 6 75) (up (up σ 69 0 0) 69 1 0) := Z_n hZ51
  refine g_putr (M := mX11_init) (pc := 58) (by rfl) fX11_7 kX11_32 dX11_init_58 (by first | exact Or.inl ⟨_, rfl⟩ | exact Or.inr ⟨_, rfl⟩) (Or.inr ⟨rfl, rfl, linkP kX11_32⟩) (kk := ?_)
  have hZ58 : Z 76 (upr (upr (upr (upr (upr (upr ρ 69 2 71) 69 3 72) 69 4 73) 69 5 74) 69 6 75) 69 7 76) (up (up σ 69 0 0) 69 1 0) := Z_r hZ56 (by decide)
  refine g_aload_n (M := mX11_init) (pc := 61) dX11_init_61 rfl (k := ?_)
  refine g_iconst (M := mX11_init) (pc := 62) dX11_init_62 (k := ?_)
  refine g_newa (M := mX11_init) (pc := 63) (N := 4) rfl (Or.inl ⟨rfl, rfl⟩) (by omega) (Z_at hZ58) dX11_init_63 (Nat.le_of_ble_eq_true rfl) (Nat.le_of_ble_eq_true rfl) (kk := ?_)
  have hZ63 : Z 77 (upr (upr (upr (upr (upr (upr ρ 69 2 71) 69 3 72) 69 4 73) 69 5 74) 69 6 75) 69 7 76) (up (up σ 69 0 0) 69 1 0) := Z_n hZ58
  refine g_putr (M := mX11_init) (pc := 65) (by rfl) fX11_8 kX11_35 dX11_init_65 (by first | exact Or.inl ⟨_, rfl⟩ | exact Or.inr ⟨_, rfl⟩) (Or.inr ⟨rfl, rfl, linkP kX11_35⟩) (kk := ?_)
  have hZ65 : Z 77 (upr (upr (upr (upr (upr (upr (upr ρ 69 2 71) 69 3 72) 69 4 73) 69 5 74) 69 6 75) 69 7 76) 69 8 77) (up (up σ 69 0 0) 69 1 0) := Z_r hZ63 (by decide)
  refine g_aload_n (M := mX11_init) (pc := 68) dX11_init_68 rfl (k := ?_)
  refine g_iconst (M := mX11_init) (pc := 69) dX11_init_69 (k := ?_)
  refine g_newa (M := mX11_init) (pc := 70) (N := 4) rfl (Or.inl ⟨rfl, rfl⟩) (by omega) (Z_at hZ65) dX11_init_70 (Nat.le_of_ble_eq_true rfl) (Nat.le_of_ble_eq_true rfl) (kk := ?_)
  have hZ70 : Z 78 (upr (upr (upr (upr (upr (upr (upr ρ 69 2 71) 69 3 72) 69 4 73) 69 5 74) 69 6 75) 69 7 76) 69 8 77) (up (up σ 69 0 0) 69 1 0) := Z_n hZ65
  refine g_putr (M := mX11_init) (pc := 72) (by rfl) fX11_9 kX11_38 dX11_init_72 (by first | exact Or.inl ⟨_, rfl⟩ | exact Or.inr ⟨_, rfl⟩) (Or.inr ⟨rfl, rfl, linkP kX11_38⟩) (kk := ?_)
  have hZ72 : Z 78 (upr (upr (upr (upr (upr (upr (upr (upr ρ 69 2 71) 69 3 72) 69 4 73) 69 5 74) 69 6 75) 69 7 76) 69 8 77) 69 9 78) (up (up σ 69 0 0) 69 1 0) := Z_r hZ70 (by decide)
  refine g_aload_n (M := mX11_init) (pc := 75) dX11_init_75 rfl (k := ?_)
  refine g_iconst (M := mX11_init) (pc := 76) dX11_init_76 (k := ?_)
  refine g_put (M := mX11_init) (pc := 77) (ji := 10) (by rfl) fX11_10 kX11_41 dX11_init_77 (by omega) (kk := ?_)
  have hZ77 : Z 78 (upr (upr (upr (upr (upr (upr (upr (upr ρ 69 2 71) 69 3 72) 69 4 73) 69 5 74) 69 6 75) 69 7 76) 69 8 77) 69 9 78) (up (up (up σ 69 0 0) 69 1 0) 69 10 0) := Z_u hZ72 (by decide)
  refine g_aload_n (M := mX11_init) (pc := 80) dX11_init_80 rfl (k := ?_)
  refine g_iconst (M := mX11_init) (pc := 81) dX11_init_81 (k := ?_)
  refine g_put (M := mX11_init) (pc := 82) (ji := 11) (by rfl) fX11_11 kX11_44 dX11_init_82 (by omega) (kk := ?_)
  have hZ82 : Z 78 (upr (upr (upr (upr (upr (upr (upr (upr ρ 69 2 71) 69 3 72) 69 4 73) 69 5 74) 69 6 75) 69 7 76) 69 8 77) 69 9 78) (up (up (up (up σ 69 0 0) 69 1 0) 69 10 0) 69 11 (-1)) := Z_u hZ77 (by decide)
  refine g_aload_n (M := mX11_init) (pc := 85) dX11_init_85 rfl (k := ?_)
  refine g_iconst (M := mX11_init) (pc := 86) dX11_init_86 (k := ?_)
  refine g_put (M := mX11_init) (pc := 87) (ji := 12) (by rfl) fX11_12 kX11_47 dX11_init_87 (by omega) (kk := ?_)
  have hZ87 : Z 78 (upr (upr (upr (upr (upr (upr (upr (upr ρ 69 2 71) 69 3 72) 69 4 73) 69 5 74) 69 6 75) 69 7 76) 69 8 77) 69 9 78) (up (up (up (up (up σ 69 0 0) 69 1 0) 69 10 0) 69 11 (-1)) 69 12 0) := Z_u hZ82 (by decide)
  refine g_aload_n (M := mX11_init) (pc := 90) dX11_init_90 rfl (k := ?_)
  refine g_iconst (M := mX11_init) (pc := 91) dX11_init_91 (k := ?_)
  refine g_put (M := mX11_init) (pc := 92) (ji := 13) (by rfl) fX11_13 kX11_50 dX11_init_92 (by omega) (kk := ?_)
  have hZ92 : Z 78 (upr (upr (upr (upr (upr (upr (upr (upr ρ 69 2 71) 69 3 72) 69 4 73) 69 5 74) 69 6 75) 69 7 76) 69 8 77) 69 9 78) (up (up (up (up (up (up σ 69 0 0) 69 1 0) 69 10 0) 69 11 (-1)) 69 12 0) 69 13 0) := Z_u hZ87 (by decide)
  refine g_aload_n (M := mX11_init) (pc := 95) dX11_init_95 rfl (k := ?_)
  refine g_iconst (M := mX11_init) (pc := 96) dX11_init_96 (k := ?_)
  refine g_put (M := mX11_init) (pc := 97) (ji := 14) (by rfl) fX11_14 kX11_53 dX11_init_97 (by omega) (kk := ?_)
  have hZ97 : Z 78 (upr (upr (upr (upr (upr (upr (upr (upr ρ 69 2 71) 69 3 72) 69 4 73) 69 5 74) 69 6 75) 69 7 76) 69 8 77) 69 9 78) (up (up (up (up (up (up (up σ 69 0 0) 69 1 0) 69 10 0) 69 11 (-1)) 69 12 0) 69 13 0) 69 14 0) := Z_u hZ92 (by decide)
  refine g_aload_n (M := mX11_init) (pc := 100) dX11_init_100 rfl (k := ?_)
  refine g_bipush (M := mX11_init) (pc := 101) dX11_init_101 (k := ?_)
  refine g_newa (M := mX11_init) (pc := 103) (N := 100) rfl (Or.inl ⟨rfl, rfl⟩) (by omega) (Z_at hZ97) dX11_init_103 (Nat.le_of_ble_eq_true rfl) (Nat.le_of_ble_eq_true rfl) (kk := ?_)
  have hZ103 : Z 79 (upr (upr (upr (upr (upr (upr (upr (upr ρ 69 2 71) 69 3 72) 69 4 73) 69 5 74) 69 6 75) 69 7 76) 69 8 77) 69 9 78) (up (up (up (up (up (up (up σ 69 0 0) 69 1 0) 69 10 0) 69 11 (-1)) 69 12 0) 69 13 0) 69 14 0) := Z_n hZ97
  refine g_putr (M := mX11_init) (pc := 105) (by rfl) fX11_15 kX11_56 dX11_init_105 (by first | exact Or.inl ⟨_, rfl⟩ | exact Or.inr ⟨_, rfl⟩) (Or.inr ⟨rfl, rfl, linkP kX11_56⟩) (kk := ?_)
  have hZ105 : Z 79 (upr (upr (upr (upr (upr (upr (upr (upr (upr ρ 69 2 71) 69 3 72) 69 4 73) 69 5 74) 69 6 75) 69 7 76) 69 8 77) 69 9 78) 69 15 79) (up (up (up (up (up (up (up σ 69 0 0) 69 1 0) 69 10 0) 69 11 (-1)) 69 12 0) 69 13 0) 69 14 0) := Z_r hZ103 (by decide)
  refine g_aload_n (M := mX11_init) (pc := 108) dX11_init_108 rfl (k := ?_)
  refine g_bipush (M := mX11_init) (pc := 109) dX11_init_109 (k := ?_)
  refine g_newa (M := mX11_init) (pc := 111) (N := 6) rfl (Or.inl ⟨rfl, rfl⟩) (by omega) (Z_at hZ105) dX11_init_111 (Nat.le_of_ble_eq_true rfl) (Nat.le_of_ble_eq_true rfl) (kk := ?_)
  have hZ111 : Z 80 (upr (upr (upr (upr (upr (upr (upr (upr (upr ρ 69 2 71) 69 3 72) 69 4 73) 69 5 74) 69 6 75) 69 7 76) 69 8 77) 69 9 78) 69 15 79) (up (up (up (up (up (up (up σ 69 0 0) 69 1 0) 69 10 0) 69 11 (-1)) 69 12 0) 69 13 0) 69 14 0) := Z_n hZ105
  refine g_putr (M := mX11_init) (pc := 113) (by rfl) fX11_16 kX11_59 dX11_init_113 (by first | exact Or.inl ⟨_, rfl⟩ | exact Or.inr ⟨_, rfl⟩) (Or.inr ⟨rfl, rfl, linkP kX11_59⟩) (kk := ?_)
  have hZ113 : Z 80 (upr (upr (upr (upr (upr (upr (upr (upr (upr (upr ρ 69 2 71) 69 3 72) 69 4 73) 69 5 74) 69 6 75) 69 7 76) 69 8 77) 69 9 78) 69 15 79) 69 16 80) (up (up (up (up (up (up (up σ 69 0 0) 69 1 0) 69 10 0) 69 11 (-1)) 69 12 0) 69 13 0) 69 14 0) := Z_r hZ111 (by decide)
  refine g_aload_n (M := mX11_init) (pc := 116) dX11_init_116 rfl (k := ?_)
  refine g_bipush (M := mX11_init) (pc := 117) dX11_init_117 (k := ?_)
  refine g_newa (M := mX11_init) (pc := 119) (N := 60) rfl (Or.inl ⟨rfl, rfl⟩) (by omega) (Z_at hZ113) dX11_init_119 (Nat.le_of_ble_eq_true rfl) (Nat.le_of_ble_eq_true rfl) (kk := ?_)
  have hZ119 : Z 81 (upr (upr (upr (upr (upr (upr (upr (upr (upr (upr ρ 69 2 71) 69 3 72) 69 4 73) 69 5 74) 69 6 75) 69 7 76) 69 8 77) 69 9 78) 69 15 79) 69 16 80) (up (up (up (up (up (up (up σ 69 0 0) 69 1 0) 69 10 0) 69 11 (-1)) 69 12 0) 69 13 0) 69 14 0) := Z_n hZ113
  refine g_putr (M := mX11_init) (pc := 121) (by rfl) fX11_17 kX11_62 dX11_init_121 (by first | exact Or.inl ⟨_, rfl⟩ | exact Or.inr ⟨_, rfl⟩) (Or.inr ⟨rfl, rfl, linkP kX11_62⟩) (kk := ?_)
  have hZ121 : Z 81 (upr (upr (upr (upr (upr (upr (upr (upr (upr (upr (upr ρ 69 2 71) 69 3 72) 69 4 73) 69 5 74) 69 6 75) 69 7 76) 69 8 77) 69 9 78) 69 15 79) 69 16 80) 69 17 81) (up (up (up (up (up (up (up σ 69 0 0) 69 1 0) 69 10 0) 69 11 (-1)) 69 12 0) 69 13 0) 69 14 0) := Z_r hZ119 (by decide)
  refine g_aload_n (M := mX11_init) (pc := 124) dX11_init_124 rfl (k := ?_)
  refine g_bipush (M := mX11_init) (pc := 125) dX11_init_125 (k := ?_)
  refine g_newa (M := mX11_init) (pc := 127) (N := 60) rfl (Or.inl ⟨rfl, rfl⟩) (by omega) (Z_at hZ121) dX11_init_127 (Nat.le_of_ble_eq_true rfl) (Nat.le_of_ble_eq_true rfl) (kk := ?_)
  have hZ127 : Z 82 (upr (upr (upr (upr (upr (upr (upr (upr (upr (upr (upr ρ 69 2 71) 69 3 72) 69 4 73) 69 5 74) 69 6 75) 69 7 76) 69 8 77) 69 9 78) 69 15 79) 69 16 80) 69 17 81) (up (up (up (up (up (up (up σ 69 0 0) 69 1 0) 69 10 0) 69 11 (-1)) 69 12 0) 69 13 0) 69 14 0) := Z_n hZ121
  refine g_putr (M := mX11_init) (pc := 129) (by rfl) fX11_18 kX11_65 dX11_init_129 (by first | exact Or.inl ⟨_, rfl⟩ | exact Or.inr ⟨_, rfl⟩) (Or.inr ⟨rfl, rfl, linkP kX11_65⟩) (kk := ?_)
  have hZ129 : Z 82 (upr (upr (upr (upr (upr (upr (upr (upr (upr (upr (upr (upr ρ 69 2 71) 69 3 72) 69 4 73) 69 5 74) 69 6 75) 69 7 76) 69 8 77) 69 9 78) 69 15 79) 69 16 80) 69 17 81) 69 18 82) (up (up (up (up (up (up (up σ 69 0 0) 69 1 0) 69 10 0) 69 11 (-1)) 69 12 0) 69 13 0) 69 14 0) := Z_r hZ127 (by decide)
  refine g_aload_n (M := mX11_init) (pc := 132) dX11_init_132 rfl (k := ?_)
  refine g_bipush (M := mX11_init) (pc := 133) dX11_init_133 (k := ?_)
  refine g_newa (M := mX11_init) (pc := 135) (N := 60) rfl (Or.inl ⟨rfl, rfl⟩) (by omega) (Z_at hZ129) dX11_init_135 (Nat.le_of_ble_eq_true rfl) (Nat.le_of_ble_eq_true rfl) (kk := ?_)
  have hZ135 : Z 83 (upr (upr (upr (upr (upr (upr (upr (upr (upr (upr (upr (upr ρ 69 2 71) 69 3 72) 69 4 73) 69 5 74) 69 6 75) 69 7 76) 69 8 77) 69 9 78) 69 15 79) 69 16 80) 69 17 81) 69 18 82) (up (up (up (up (up (up (up σ 69 0 0) 69 1 0) 69 10 0) 69 11 (-1)) 69 12 0) 69 13 0) 69 14 0) := Z_n hZ129
  refine g_putr (M := mX11_init) (pc := 137) (by rfl) fX11_19 kX11_68 dX11_init_137 (by first | exact Or.inl ⟨_, rfl⟩ | exact Or.inr ⟨_, rfl⟩) (Or.inr ⟨rfl, rfl, linkP kX11_68⟩) (kk := ?_)
  have hZ137 : Z 83 (upr (upr (upr (upr (upr (upr (upr (upr (upr (upr (upr (upr (upr ρ 69 2 71) 69 3 72) 69 4 73) 69 5 74) 69 6 75) 69 7 76) 69 8 77) 69 9 78) 69 15 79) 69 16 80) 69 17 81) 69 18 82) 69 19 83) (up (up (up (up (up (up (up σ 69 0 0) 69 1 0) 69 10 0) 69 11 (-1)) 69 12 0) 69 13 0) 69 14 0) := Z_r hZ135 (by decide)
  refine g_aload_n (M := mX11_init) (pc := 140) dX11_init_140 rfl (k := ?_)
  refine g_bipush (M := mX11_init) (pc := 141) dX11_init_141 (k := ?_)
  refine g_newa (M := mX11_init) (pc := 143) (N := 60) rfl (Or.inl ⟨rfl, rfl⟩) (by omega) (Z_at hZ137) dX11_init_143 (Nat.le_of_ble_eq_true rfl) (Nat.le_of_ble_eq_true rfl) (kk := ?_)
  have hZ143 : Z 84 (upr (upr (upr (upr (upr (upr (upr (upr (upr (upr (upr (upr (upr ρ 69 2 71) 69 3 72) 69 4 73) 69 5 74) 69 6 75) 69 7 76) 69 8 77) 69 9 78) 69 15 79) 69 16 80) 69 17 81) 69 18 82) 69 19 83) (up (up (up (up (up (up (up σ 69 0 0) 69 1 0) 69 10 0) 69 11 (-1)) 69 12 0) 69 13 0) 69 14 0) := Z_n hZ137
  refine g_putr (M := mX11_init) (pc := 145) (by rfl) fX11_20 kX11_71 dX11_init_145 (by first | exact Or.inl ⟨_, rfl⟩ | exact Or.inr ⟨_, rfl⟩) (Or.inr ⟨rfl, rfl, linkP kX11_71⟩) (kk := ?_)
  have hZ145 : Z 84 (upr (upr (upr (upr (upr (upr (upr (upr (upr (upr (upr (upr (upr (upr ρ 69 2 71) 69 3 72) 69 4 73) 69 5 74) 69 6 75) 69 7 76) 69 8 77) 69 9 78) 69 15 79) 69 16 80) 69 17 81) 69 18 82) 69 19 83) 69 20 84) (up (up (up (up (up (up (up σ 69 0 0) 69 1 0) 69 10 0) 69 11 (-1)) 69 12 0) 69 13 0) 69 14 0) := Z_r hZ143 (by decide)
  refine g_aload_n (M := mX11_init) (pc := 148) dX11_init_148 rfl (k := ?_)
  refine g_sipush (M := mX11_init) (pc := 149) dX11_init_149 (k := ?_)
  refine g_newa (M := mX11_init) (pc := 152) (N := 600) rfl (Or.inl ⟨rfl, rfl⟩) (by omega) (Z_at hZ145) dX11_init_152 (Nat.le_of_ble_eq_true rfl) (Nat.le_of_ble_eq_true rfl) (kk := ?_)
  have hZ152 : Z 85 (upr (upr (upr (upr (upr (upr (upr (upr (upr (upr (upr (upr (upr (upr ρ 69 2 71) 69 3 72) 69 4 73) 69 5 74) 69 6 75) 69 7 76) 69 8 77) 69 9 78) 69 15 79) 69 16 80) 69 17 81) 69 18 82) 69 19 83) 69 20 84) (up (up (up (up (up (up (up σ 69 0 0) 69 1 0) 69 10 0) 69 11 (-1)) 69 12 0) 69 13 0) 69 14 0) := Z_n hZ145
  refine g_putr (M := mX11_init) (pc := 154) (by rfl) fX11_21 kX11_74 dX11_init_154 (by first | exact Or.inl ⟨_, rfl⟩ | exact Or.inr ⟨_, rfl⟩) (Or.inr ⟨rfl, rfl, linkP kX11_74⟩) (kk := ?_)
  have hZ154 : Z 85 (upr (upr (upr (upr (upr (upr (upr (upr (upr (upr (upr (upr (upr (upr (upr ρ 69 2 71) 69 3 72) 69 4 73) 69 5 74) 69 6 75) 69 7 76) 69 8 77) 69 9 78) 69 15 79) 69 16 80) 69 17 81) 69 18 82) 69 19 83) 69 20 84) 69 21 85) (up (up (up (up (up (up (up σ 69 0 0) 69 1 0) 69 10 0) 69 11 (-1)) 69 12 0) 69 13 0) 69 14 0) := Z_r hZ152 (by decide)
  refine g_aload_n (M := mX11_init) (pc := 157) dX11_init_157 rfl (k := ?_)
  refine g_bipush (M := mX11_init) (pc := 158) dX11_init_158 (k := ?_)
  refine g_newa (M := mX11_init) (pc := 160) (N := 101) rfl (Or.inl ⟨rfl, rfl⟩) (by omega) (Z_at hZ154) dX11_init_160 (Nat.le_of_ble_eq_true rfl) (Nat.le_of_ble_eq_true rfl) (kk := ?_)
  have hZ160 : Z 86 (upr (upr (upr (upr (upr (upr (upr (upr (upr (upr (upr (upr (upr (upr (upr ρ 69 2 71) 69 3 72) 69 4 73) 69 5 74) 69 6 75) 69 7 76) 69 8 77) 69 9 78) 69 15 79) 69 16 80) 69 17 81) 69 18 82) 69 19 83) 69 20 84) 69 21 85) (up (up (up (up (up (up (up σ 69 0 0) 69 1 0) 69 10 0) 69 11 (-1)) 69 12 0) 69 13 0) 69 14 0) := Z_n hZ154
  refine g_putr (M := mX11_init) (pc := 162) (by rfl) fX11_22 kX11_77 dX11_init_162 (by first | exact Or.inl ⟨_, rfl⟩ | exact Or.inr ⟨_, rfl⟩) (Or.inr ⟨rfl, rfl, linkP kX11_77⟩) (kk := ?_)
  have hZ162 : Z 86 (upr (upr (upr (upr (upr (upr (upr (upr (upr (upr (upr (upr (upr (upr (upr (upr ρ 69 2 71) 69 3 72) 69 4 73) 69 5 74) 69 6 75) 69 7 76) 69 8 77) 69 9 78) 69 15 79) 69 16 80) 69 17 81) 69 18 82) 69 19 83) 69 20 84) 69 21 85) 69 22 86) (up (up (up (up (up (up (up σ 69 0 0) 69 1 0) 69 10 0) 69 11 (-1)) 69 12 0) 69 13 0) 69 14 0) := Z_r hZ160 (by decide)
  refine g_aload_n (M := mX11_init) (pc := 165) dX11_init_165 rfl (k := ?_)
  refine g_iconst (M := mX11_init) (pc := 166) dX11_init_166 (k := ?_)
  refine g_put (M := mX11_init) (pc := 167) (ji := 23) (by rfl) fX11_23 kX11_80 dX11_init_167 (by omega) (kk := ?_)
  have hZ167 : Z 86 (upr (upr (upr (upr (upr (upr (upr (upr (upr (upr (upr (upr (upr (upr (upr (upr ρ 69 2 71) 69 3 72) 69 4 73) 69 5 74) 69 6 75) 69 7 76) 69 8 77) 69 9 78) 69 15 79) 69 16 80) 69 17 81) 69 18 82) 69 19 83) 69 20 84) 69 21 85) 69 22 86) (up (up (up (up (up (up (up (up σ 69 0 0) 69 1 0) 69 10 0) 69 11 (-1)) 69 12 0) 69 13 0) 69 14 0) 69 23 0) := Z_u hZ162 (by decide)
  refine g_aload_n (M := mX11_init) (pc := 170) dX11_init_170 rfl (k := ?_)
  refine g_iconst (M := mX11_init) (pc := 171) dX11_init_171 (k := ?_)
  refine g_put (M := mX11_init) (pc := 172) (ji := 24) (by rfl) fX11_24 kX11_83 dX11_init_172 (by omega) (kk := ?_)
  have hZ172 : Z 86 (upr (upr (upr (upr (upr (upr (upr (upr (upr (upr (upr (upr (upr (upr (upr (upr ρ 69 2 71) 69 3 72) 69 4 73) 69 5 74) 69 6 75) 69 7 76) 69 8 77) 69 9 78) 69 15 79) 69 16 80) 69 17 81) 69 18 82) 69 19 83) 69 20 84) 69 21 85) 69 22 86) (up (up (up (up (up (up (up (up (up σ 69 0 0) 69 1 0) 69 10 0) 69 11 (-1)) 69 12 0) 69 13 0) 69 14 0) 69 23 0) 69 24 0) := Z_u hZ167 (by decide)
  refine g_aload_n (M := mX11_init) (pc := 175) dX11_init_175 rfl (k := ?_)
  refine g_iconst (M := mX11_init) (pc := 176) dX11_init_176 (k := ?_)
  refine g_put (M := mX11_init) (pc := 177) (ji := 25) (by rfl) fX11_25 kX11_86 dX11_init_177 (by omega) (kk := ?_)
  have hZ177 : Z 86 (upr (upr (upr (upr (upr (upr (upr (upr (upr (upr (upr (upr (upr (upr (upr (upr ρ 69 2 71) 69 3 72) 69 4 73) 69 5 74) 69 6 75) 69 7 76) 69 8 77) 69 9 78) 69 15 79) 69 16 80) 69 17 81) 69 18 82) 69 19 83) 69 20 84) 69 21 85) 69 22 86) (up (up (up (up (up (up (up (up (up (up σ 69 0 0) 69 1 0) 69 10 0) 69 11 (-1)) 69 12 0) 69 13 0) 69 14 0) 69 23 0) 69 24 0) 69 25 0) := Z_u hZ172 (by decide)
  refine g_aload_n (M := mX11_init) (pc := 180) dX11_init_180 rfl (k := ?_)
  refine g_bipush (M := mX11_init) (pc := 181) dX11_init_181 (k := ?_)
  refine g_newa (M := mX11_init) (pc := 183) (N := 13) rfl (Or.inl ⟨rfl, rfl⟩) (by omega) (Z_at hZ177) dX11_init_183 (Nat.le_of_ble_eq_true rfl) (Nat.le_of_ble_eq_true rfl) (kk := ?_)
  have hZ183 : Z 87 (upr (upr (upr (upr (upr (upr (upr (upr (upr (upr (upr (upr (upr (upr (upr (upr ρ 69 2 71) 69 3 72) 69 4 73) 69 5 74) 69 6 75) 69 7 76) 69 8 77) 69 9 78) 69 15 79) 69 16 80) 69 17 81) 69 18 82) 69 19 83) 69 20 84) 69 21 85) 69 22 86) (up (up (up (up (up (up (up (up (up (up σ 69 0 0) 69 1 0) 69 10 0) 69 11 (-1)) 69 12 0) 69 13 0) 69 14 0) 69 23 0) 69 24 0) 69 25 0) := Z_n hZ177
  refine g_dupR (M := mX11_init) (pc := 185) dX11_init_185 (k := ?_)
  refine g_iconst (M := mX11_init) (pc := 186) dX11_init_186 (k := ?_)
  refine g_bipush (M := mX11_init) (pc := 187) dX11_init_187 (k := ?_)
  refine g_iast (M := mX11_init) (pc := 189) (by rfl) (by omega) (by omega) (by omega) dX11_init_189 (kk := ?_)
  have hZ189 : Z 87 (upr (upr (upr (upr (upr (upr (upr (upr (upr (upr (upr (upr (upr (upr (upr (upr ρ 69 2 71) 69 3 72) 69 4 73) 69 5 74) 69 6 75) 69 7 76) 69 8 77) 69 9 78) 69 15 79) 69 16 80) 69 17 81) 69 18 82) 69 19 83) 69 20 84) 69 21 85) 69 22 86) (up (up (up (up (up (up (up (up (up (up (up σ 69 0 0) 69 1 0) 69 10 0) 69 11 (-1)) 69 12 0) 69 13 0) 69 14 0) 69 23 0) 69 24 0) 69 25 0) 86 0 99) := Z_u hZ183 (by decide)
  refine g_dupR (M := mX11_init) (pc := 190) dX11_init_190 (k := ?_)
  refine g_iconst (M := mX11_init) (pc := 191) dX11_init_191 (k := ?_)
  refine g_bipush (M := mX11_init) (pc := 192) dX11_init_192 (k := ?_)
  refine g_iast (M := mX11_init) (pc := 194) (by rfl) (by omega) (by omega) (by omega) dX11_init_194 (kk := ?_)
  have hZ194 : Z 87 (upr (upr (upr (upr (upr (upr (upr (upr (upr (upr (upr (upr (upr (upr (upr (upr ρ 69 2 71) 69 3 72) 69 4 73) 69 5 74) 69 6 75) 69 7 76) 69 8 77) 69 9 78) 69 15 79) 69 16 80) 69 17 81) 69 18 82) 69 19 83) 69 20 84) 69 21 85) 69 22 86) (up (up (up (up (up (up (up (up (up (up (up (up σ 69 0 0) 69 1 0) 69 10 0) 69 11 (-1)) 69 12 0) 69 13 0) 69 14 0) 69 23 0) 69 24 0) 69 25 0) 86 0 99) 86 1 111) := Z_u hZ189 (by decide)
  refine g_dupR (M := mX11_init) (pc := 195) dX11_init_195 (k := ?_)
  refine g_iconst (M := mX11_init) (pc := 196) dX11_init_196 (k := ?_)
  refine g_bipush (M := mX11_init) (pc := 197) dX11_init_197 (k := ?_)
  refine g_iast (M := mX11_init) (pc := 199) (by rfl) (by omega) (by omega) (by omega) dX11_init_199 (kk := ?_)
  have hZ199 : Z 87 (upr (upr (upr (upr (upr (upr (upr (upr (upr (upr (upr (upr (upr (upr (upr (upr ρ 69 2 71) 69 3 72) 69 4 73) 69 5 74) 69 6 75) 69 7 76) 69 8 77) 69 9 78) 69 15 79) 69 16 80) 69 17 81) 69 18 82) 69 19 83) 69 20 84) 69 21 85) 69 22 86) (up (up (up (up (up (up (up (up (up (up (up (up (up σ 69 0 0) 69 1 0) 69 10 0) 69 11 (-1)) 69 12 0) 69 13 0) 69 14 0) 69 23 0) 69 24 0) 69 25 0) 86 0 99) 86 1 111) 86 2 117) := Z_u hZ194 (by decide)
  refine g_dupR (M := mX11_init) (pc := 200) dX11_init_200 (k := ?_)
  refine g_iconst (M := mX11_init) (pc := 201) dX11_init_201 (k := ?_)
  refine g_bipush (M := mX11_init) (pc := 202) dX11_init_202 (k := ?_)
  refine g_iast (M := mX11_init) (pc := 204) (by rfl) (by omega) (by omega) (by omega) dX11_init_204 (kk := ?_)
  have hZ204 : Z 87 (upr (upr (upr (upr (upr (upr (upr (upr (upr (upr (upr (upr (upr (upr (upr (upr ρ 69 2 71) 69 3 72) 69 4 73) 69 5 74) 69 6 75) 69 7 76) 69 8 77) 69 9 78) 69 15 79) 69 16 80) 69 17 81) 69 18 82) 69 19 83) 69 20 84) 69 21 85) 69 22 86) (up (up (up (up (up (up (up (up (up (up (up (up (up (up σ 69 0 0) 69 1 0) 69 10 0) 69 11 (-1)) 69 12 0) 69 13 0) 69 14 0) 69 23 0) 69 24 0) 69 25 0) 86 0 99) 86 1 111) 86 2 117) 86 3 110) := Z_u hZ199 (by decide)
  refine g_dupR (M := mX11_init) (pc := 205) dX11_init_205 (k := ?_)
  refine g_iconst (M := mX11_init) (pc := 206) dX11_init_206 (k := ?_)
  refine g_bipush (M := mX11_init) (pc := 207) dX11_init_207 (k := ?_)
  refine g_iast (M := mX11_init) (pc := 209) (by rfl) (by omega) (by omega) (by omega) dX11_init_209 (kk := ?_)
  have hZ209 : Z 87 (upr (upr (upr (upr (upr (upr (upr (upr (upr (upr (upr (upr (upr (upr (upr (upr ρ 69 2 71) 69 3 72) 69 4 73) 69 5 74) 69 6 75) 69 7 76) 69 8 77) 69 9 78) 69 15 79) 69 16 80) 69 17 81) 69 18 82) 69 19 83) 69 20 84) 69 21 85) 69 22 86) (up (up (up (up (up (up (up (up (up (up (up (up (up (up (up σ 69 0 0) 69 1 0) 69 10 0) 69 11 (-1)) 69 12 0) 69 13 0) 69 14 0) 69 23 0) 69 24 0) 69 25 0) 86 0 99) 86 1 111) 86 2 117) 86 3 110) 86 4 116) := Z_u hZ204 (by decide)
  refine g_dupR (M := mX11_init) (pc := 210) dX11_init_210 (k := ?_)
  refine g_iconst (M := mX11_init) (pc := 211) dX11_init_211 (k := ?_)
  refine g_bipush (M := mX11_init) (pc := 212) dX11_init_212 (k := ?_)
  refine g_iast (M := mX11_init) (pc := 214) (by rfl) (by omega) (by omega) (by omega) dX11_init_214 (kk := ?_)
  have hZ214 : Z 87 (upr (upr (upr (upr (upr (upr (upr (upr (upr (upr (upr (upr (upr (upr (upr (upr ρ 69 2 71) 69 3 72) 69 4 73) 69 5 74) 69 6 75) 69 7 76) 69 8 77) 69 9 78) 69 15 79) 69 16 80) 69 17 81) 69 18 82) 69 19 83) 69 20 84) 69 21 85) 69 22 86) (up (up (up (up (up (up (up (up (up (up (up (up (up (up (up (up σ 69 0 0) 69 1 0) 69 10 0) 69 11 (-1)) 69 12 0) 69 13 0) 69 14 0) 69 23 0) 69 24 0) 69 25 0) 86 0 99) 86 1 111) 86 2 117) 86 3 110) 86 4 116) 86 5 119) := Z_u hZ209 (by decide)
  refine g_dupR (M := mX11_init) (pc := 215) dX11_init_215 (k := ?_)
  refine g_bipush (M := mX11_init) (pc := 216) dX11_init_216 (k := ?_)
  refine g_bipush (M := mX11_init) (pc := 218) dX11_init_218 (k := ?_)
  refine g_iast (M := mX11_init) (pc := 220) (by rfl) (by omega) (by omega) (by omega) dX11_init_220 (kk := ?_)
  have hZ220 : Z 87 (upr (upr (upr (upr (upr (upr (upr (upr (upr (upr (upr (upr (upr (upr (upr (upr ρ 69 2 71) 69 3 72) 69 4 73) 69 5 74) 69 6 75) 69 7 76) 69 8 77) 69 9 78) 69 15 79) 69 16 80) 69 17 81) 69 18 82) 69 19 83) 69 20 84) 69 21 85) 69 22 86) (up (up (up (up (up (up (up (up (up (up (up (up (up (up (up (up (up σ 69 0 0) 69 1 0) 69 10 0) 69 11 (-1)) 69 12 0) 69 13 0) 69 14 0) 69 23 0) 69 24 0) 69 25 0) 86 0 99) 86 1 111) 86 2 117) 86 3 110) 86 4 116) 86 5 119) 86 6 97) := Z_u hZ214 (by decide)
  refine g_dupR (M := mX11_init) (pc := 221) dX11_init_221 (k := ?_)
  refine g_bipush (M := mX11_init) (pc := 222) dX11_init_222 (k := ?_)
  refine g_bipush (M := mX11_init) (pc := 224) dX11_init_224 (k := ?_)
  refine g_iast (M := mX11_init) (pc := 226) (by rfl) (by omega) (by omega) (by omega) dX11_init_226 (kk := ?_)
  have hZ226 : Z 87 (upr (upr (upr (upr (upr (upr (upr (upr (upr (upr (upr (upr (upr (upr (upr (upr ρ 69 2 71) 69 3 72) 69 4 73) 69 5 74) 69 6 75) 69 7 76) 69 8 77) 69 9 78) 69 15 79) 69 16 80) 69 17 81) 69 18 82) 69 19 83) 69 20 84) 69 21 85) 69 22 86) (up (up (up (up (up (up (up (up (up (up (up (up (up (up (up (up (up (up σ 69 0 0) 69 1 0) 69 10 0) 69 11 (-1)) 69 12 0) 69 13 0) 69 14 0) 69 23 0) 69 24 0) 69 25 0) 86 0 99) 86 1 111) 86 2 117) 86 3 110) 86 4 116) 86 5 119) 86 6 97) 86 7 108) := Z_u hZ220 (by decide)
  refine g_dupR (M := mX11_init) (pc := 227) dX11_init_227 (k := ?_)
  refine g_bipush (M := mX11_init) (pc := 228) dX11_init_228 (k := ?_)
  refine g_bipush (M := mX11_init) (pc := 230) dX11_init_230 (k := ?_)
  refine g_iast (M := mX11_init) (pc := 232) (by rfl) (by omega) (by omega) (by omega) dX11_init_232 (kk := ?_)
  have hZ232 : Z 87 (upr (upr (upr (upr (upr (upr (upr (upr (upr (upr (upr (upr (upr (upr (upr (upr ρ 69 2 71) 69 3 72) 69 4 73) 69 5 74) 69 6 75) 69 7 76) 69 8 77) 69 9 78) 69 15 79) 69 16 80) 69 17 81) 69 18 82) 69 19 83) 69 20 84) 69 21 85) 69 22 86) (up (up (up (up (up (up (up (up (up (up (up (up (up (up (up (up (up (up (up σ 69 0 0) 69 1 0) 69 10 0) 69 11 (-1)) 69 12 0) 69 13 0) 69 14 0) 69 23 0) 69 24 0) 69 25 0) 86 0 99) 86 1 111) 86 2 117) 86 3 110) 86 4 116) 86 5 119) 86 6 97) 86 7 108) 86 8 107) := Z_u hZ226 (by decide)
  refine g_dupR (M := mX11_init) (pc := 233) dX11_init_233 (k := ?_)
  refine g_bipush (M := mX11_init) (pc := 234) dX11_init_234 (k := ?_)
  refine g_bipush (M := mX11_init) (pc := 236) dX11_init_236 (k := ?_)
  refine g_iast (M := mX11_init) (pc := 238) (by rfl) (by omega) (by omega) (by omega) dX11_init_238 (kk := ?_)
  have hZ238 : Z 87 (upr (upr (upr (upr (upr (upr (upr (upr (upr (upr (upr (upr (upr (upr (upr (upr ρ 69 2 71) 69 3 72) 69 4 73) 69 5 74) 69 6 75) 69 7 76) 69 8 77) 69 9 78) 69 15 79) 69 16 80) 69 17 81) 69 18 82) 69 19 83) 69 20 84) 69 21 85) 69 22 86) (up (up (up (up (up (up (up (up (up (up (up (up (up (up (up (up (up (up (up (up σ 69 0 0) 69 1 0) 69 10 0) 69 11 (-1)) 69 12 0) 69 13 0) 69 14 0) 69 23 0) 69 24 0) 69 25 0) 86 0 99) 86 1 111) 86 2 117) 86 3 110) 86 4 116) 86 5 119) 86 6 97) 86 7 108) 86 8 107) 86 9 100) := Z_u hZ232 (by decide)
  refine g_dupR (M := mX11_init) (pc := 239) dX11_init_239 (k := ?_)
  refine g_bipush (M := mX11_init) (pc := 240) dX11_init_240 (k := ?_)
  refine g_bipush (M := mX11_init) (pc := 242) dX11_init_242 (k := ?_)
  refine g_iast (M := mX11_init) (pc := 244) (by rfl) (by omega) (by omega) (by omega) dX11_init_244 (kk := ?_)
  have hZ244 : Z 87 (upr (upr (upr (upr (upr (upr (upr (upr (upr (upr (upr (upr (upr (upr (upr (upr ρ 69 2 71) 69 3 72) 69 4 73) 69 5 74) 69 6 75) 69 7 76) 69 8 77) 69 9 78) 69 15 79) 69 16 80) 69 17 81) 69 18 82) 69 19 83) 69 20 84) 69 21 85) 69 22 86) (up (up (up (up (up (up (up (up (up (up (up (up (up (up (up (up (up (up (up (up (up σ 69 0 0) 69 1 0) 69 10 0) 69 11 (-1)) 69 12 0) 69 13 0) 69 14 0) 69 23 0) 69 24 0) 69 25 0) 86 0 99) 86 1 111) 86 2 117) 86 3 110) 86 4 116) 86 5 119) 86 6 97) 86 7 108) 86 8 107) 86 9 100) 86 10 97) := Z_u hZ238 (by decide)
  refine g_dupR (M := mX11_init) (pc := 245) dX11_init_245 (k := ?_)
  refine g_bipush (M := mX11_init) (pc := 246) dX11_init_246 (k := ?_)
  refine g_bipush (M := mX11_init) (pc := 248) dX11_init_248 (k := ?_)
  refine g_iast (M := mX11_init) (pc := 250) (by rfl) (by omega) (by omega) (by omega) dX11_init_250 (kk := ?_)
  have hZ250 : Z 87 (upr (upr (upr (upr (upr (upr (upr (upr (upr (upr (upr (upr (upr (upr (upr (upr ρ 69 2 71) 69 3 72) 69 4 73) 69 5 74) 69 6 75) 69 7 76) 69 8 77) 69 9 78) 69 15 79) 69 16 80) 69 17 81) 69 18 82) 69 19 83) 69 20 84) 69 21 85) 69 22 86) (up (up (up (up (up (up (up (up (up (up (up (up (up (up (up (up (up (up (up (up (up (up σ 69 0 0) 69 1 0) 69 10 0) 69 11 (-1)) 69 12 0) 69 13 0) 69 14 0) 69 23 0) 69 24 0) 69 25 0) 86 0 99) 86 1 111) 86 2 117) 86 3 110) 86 4 116) 86 5 119) 86 6 97) 86 7 108) 86 8 107) 86 9 100) 86 10 97) 86 11 119) := Z_u hZ244 (by decide)
  refine g_dupR (M := mX11_init) (pc := 251) dX11_init_251 (k := ?_)
  refine g_bipush (M := mX11_init) (pc := 252) dX11_init_252 (k := ?_)
  refine g_bipush (M := mX11_init) (pc := 254) dX11_init_254 (k := ?_)
  refine g_iast (M := mX11_init) (pc := 256) (by rfl) (by omega) (by omega) (by omega) dX11_init_256 (kk := ?_)
  have hZ256 : Z 87 (upr (upr (upr (upr (upr (upr (upr (upr (upr (upr (upr (upr (upr (upr (upr (upr ρ 69 2 71) 69 3 72) 69 4 73) 69 5 74) 69 6 75) 69 7 76) 69 8 77) 69 9 78) 69 15 79) 69 16 80) 69 17 81) 69 18 82) 69 19 83) 69 20 84) 69 21 85) 69 22 86) (up (up (up (up (up (up (up (up (up (up (up (up (up (up (up (up (up (up (up (up (up (up (up σ 69 0 0) 69 1 0) 69 10 0) 69 11 (-1)) 69 12 0) 69 13 0) 69 14 0) 69 23 0) 69 24 0) 69 25 0) 86 0 99) 86 1 111) 86 2 117) 86 3 110) 86 4 116) 86 5 119) 86 6 97) 86 7 108) 86 8 107) 86 9 100) 86 10 97) 86 11 119) 86 12 110) := Z_u hZ250 (by decide)
  refine g_putr (M := mX11_init) (pc := 257) (by rfl) fX11_26 kX11_89 dX11_init_257 (by first | exact Or.inl ⟨_, rfl⟩ | exact Or.inr ⟨_, rfl⟩) (Or.inr ⟨rfl, rfl, linkP kX11_89⟩) (kk := ?_)
  have hZ257 : Z 87 (upr (upr (upr (upr (upr (upr (upr (upr (upr (upr (upr (upr (upr (upr (upr (upr (upr ρ 69 2 71) 69 3 72) 69 4 73) 69 5 74) 69 6 75) 69 7 76) 69 8 77) 69 9 78) 69 15 79) 69 16 80) 69 17 81) 69 18 82) 69 19 83) 69 20 84) 69 21 85) 69 22 86) 69 26 87) (up (up (up (up (up (up (up (up (up (up (up (up (up (up (up (up (up (up (up (up (up (up (up σ 69 0 0) 69 1 0) 69 10 0) 69 11 (-1)) 69 12 0) 69 13 0) 69 14 0) 69 23 0) 69 24 0) 69 25 0) 86 0 99) 86 1 111) 86 2 117) 86 3 110) 86 4 116) 86 5 119) 86 6 97) 86 7 108) 86 8 107) 86 9 100) 86 10 97) 86 11 119) 86 12 110) := Z_r hZ256 (by decide)
  refine g_aload_n (M := mX11_init) (pc := 260) dX11_init_260 rfl (k := ?_)
  refine g_bipush (M := mX11_init) (pc := 261) dX11_init_261 (k := ?_)
  refine g_newa (M := mX11_init) (pc := 263) (N := 100) rfl (Or.inr (Or.inr (Or.inl ⟨rfl, rfl⟩))) (by omega) (Z_at hZ257) dX11_init_263 (Nat.le_of_ble_eq_true rfl) (Nat.le_of_ble_eq_true rfl) (kk := ?_)
  have hZ263 : Z 88 (upr (upr (upr (upr (upr (upr (upr (upr (upr (upr (upr (upr (upr (upr (upr (upr (upr ρ 69 2 71) 69 3 72) 69 4 73) 69 5 74) 69 6 75) 69 7 76) 69 8 77) 69 9 78) 69 15 79) 69 16 80) 69 17 81) 69 18 82) 69 19 83) 69 20 84) 69 21 85) 69 22 86) 69 26 87) (up (up (up (up (up (up (up (up (up (up (up (up (up (up (up (up (up (up (up (up (up (up (up σ 69 0 0) 69 1 0) 69 10 0) 69 11 (-1)) 69 12 0) 69 13 0) 69 14 0) 69 23 0) 69 24 0) 69 25 0) 86 0 99) 86 1 111) 86 2 117) 86 3 110) 86 4 116) 86 5 119) 86 6 97) 86 7 108) 86 8 107) 86 9 100) 86 10 97) 86 11 119) 86 12 110) := Z_n hZ257
  refine g_putr (M := mX11_init) (pc := 265) (by rfl) fX11_27 kX11_92 dX11_init_265 (by first | exact Or.inl ⟨_, rfl⟩ | exact Or.inr ⟨_, rfl⟩) (Or.inr ⟨rfl, rfl, linkP kX11_92⟩) (kk := ?_)
  have hZ265 : Z 88 (upr (upr (upr (upr (upr (upr (upr (upr (upr (upr (upr (upr (upr (upr (upr (upr (upr (upr ρ 69 2 71) 69 3 72) 69 4 73) 69 5 74) 69 6 75) 69 7 76) 69 8 77) 69 9 78) 69 15 79) 69 16 80) 69 17 81) 69 18 82) 69 19 83) 69 20 84) 69 21 85) 69 22 86) 69 26 87) 69 27 88) (up (up (up (up (up (up (up (up (up (up (up (up (up (up (up (up (up (up (up (up (up (up (up σ 69 0 0) 69 1 0) 69 10 0) 69 11 (-1)) 69 12 0) 69 13 0) 69 14 0) 69 23 0) 69 24 0) 69 25 0) 86 0 99) 86 1 111) 86 2 117) 86 3 110) 86 4 116) 86 5 119) 86 6 97) 86 7 108) 86 8 107) 86 9 100) 86 10 97) 86 11 119) 86 12 110) := Z_r hZ263 (by decide)
  refine g_aload_n (M := mX11_init) (pc := 268) dX11_init_268 rfl (k := ?_)
  refine g_iconst (M := mX11_init) (pc := 269) dX11_init_269 (k := ?_)
  refine g_put (M := mX11_init) (pc := 270) (ji := 28) (by rfl) fX11_28 kX11_96 dX11_init_270 (by omega) (kk := ?_)
  have hZ270 : Z 88 (upr (upr (upr (upr (upr (upr (upr (upr (upr (upr (upr (upr (upr (upr (upr (upr (upr (upr ρ 69 2 71) 69 3 72) 69 4 73) 69 5 74) 69 6 75) 69 7 76) 69 8 77) 69 9 78) 69 15 79) 69 16 80) 69 17 81) 69 18 82) 69 19 83) 69 20 84) 69 21 85) 69 22 86) 69 26 87) 69 27 88) (up (up (up (up (up (up (up (up (up (up (up (up (up (up (up (up (up (up (up (up (up (up (up (up σ 69 0 0) 69 1 0) 69 10 0) 69 11 (-1)) 69 12 0) 69 13 0) 69 14 0) 69 23 0) 69 24 0) 69 25 0) 86 0 99) 86 1 111) 86 2 117) 86 3 110) 86 4 116) 86 5 119) 86 6 97) 86 7 108) 86 8 107) 86 9 100) 86 10 97) 86 11 119) 86 12 110) 69 28 0) := Z_u hZ265 (by decide)
  refine g_aload_n (M := mX11_init) (pc := 273) dX11_init_273 rfl (k := ?_)
  refine g_iconst (M := mX11_init) (pc := 274) dX11_init_274 (k := ?_)
  refine g_put (M := mX11_init) (pc := 275) (ji := 29) (by rfl) fX11_29 kX11_99 dX11_init_275 (by omega) (kk := ?_)
  have hZ275 : Z 88 (upr (upr (upr (upr (upr (upr (upr (upr (upr (upr (upr (upr (upr (upr (upr (upr (upr (upr ρ 69 2 71) 69 3 72) 69 4 73) 69 5 74) 69 6 75) 69 7 76) 69 8 77) 69 9 78) 69 15 79) 69 16 80) 69 17 81) 69 18 82) 69 19 83) 69 20 84) 69 21 85) 69 22 86) 69 26 87) 69 27 88) (up (up (up (up (up (up (up (up (up (up (up (up (up (up (up (up (up (up (up (up (up (up (up (up (up σ 69 0 0) 69 1 0) 69 10 0) 69 11 (-1)) 69 12 0) 69 13 0) 69 14 0) 69 23 0) 69 24 0) 69 25 0) 86 0 99) 86 1 111) 86 2 117) 86 3 110) 86 4 116) 86 5 119) 86 6 97) 86 7 108) 86 8 107) 86 9 100) 86 10 97) 86 11 119) 86 12 110) 69 28 0) 69 29 0) := Z_u hZ270 (by decide)
  refine g_aload_n (M := mX11_init) (pc := 278) dX11_init_278 rfl (k := ?_)
  refine g_iconst (M := mX11_init) (pc := 279) dX11_init_279 (k := ?_)
  refine g_put (M := mX11_init) (pc := 280) (ji := 30) (by rfl) fX11_30 kX11_102 dX11_init_280 (by omega) (kk := ?_)
  have hZ280 : Z 88 (upr (upr (upr (upr (upr (upr (upr (upr (upr (upr (upr (upr (upr (upr (upr (upr (upr (upr ρ 69 2 71) 69 3 72) 69 4 73) 69 5 74) 69 6 75) 69 7 76) 69 8 77) 69 9 78) 69 15 79) 69 16 80) 69 17 81) 69 18 82) 69 19 83) 69 20 84) 69 21 85) 69 22 86) 69 26 87) 69 27 88) (up (up (up (up (up (up (up (up (up (up (up (up (up (up (up (up (up (up (up (up (up (up (up (up (up (up σ 69 0 0) 69 1 0) 69 10 0) 69 11 (-1)) 69 12 0) 69 13 0) 69 14 0) 69 23 0) 69 24 0) 69 25 0) 86 0 99) 86 1 111) 86 2 117) 86 3 110) 86 4 116) 86 5 119) 86 6 97) 86 7 108) 86 8 107) 86 9 100) 86 10 97) 86 11 119) 86 12 110) 69 28 0) 69 29 0) 69 30 0) := Z_u hZ275 (by decide)
  refine g_aload_n (M := mX11_init) (pc := 283) dX11_init_283 rfl (k := ?_)
  refine g_iconst (M := mX11_init) (pc := 284) dX11_init_284 (k := ?_)
  refine g_put (M := mX11_init) (pc := 285) (ji := 31) (by rfl) fX11_31 kX11_105 dX11_init_285 (by omega) (kk := ?_)
  have hZ285 : Z 88 (upr (upr (upr (upr (upr (upr (upr (upr (upr (upr (upr (upr (upr (upr (upr (upr (upr (upr ρ 69 2 71) 69 3 72) 69 4 73) 69 5 74) 69 6 75) 69 7 76) 69 8 77) 69 9 78) 69 15 79) 69 16 80) 69 17 81) 69 18 82) 69 19 83) 69 20 84) 69 21 85) 69 22 86) 69 26 87) 69 27 88) (up (up (up (up (up (up (up (up (up (up (up (up (up (up (up (up (up (up (up (up (up (up (up (up (up (up (up σ 69 0 0) 69 1 0) 69 10 0) 69 11 (-1)) 69 12 0) 69 13 0) 69 14 0) 69 23 0) 69 24 0) 69 25 0) 86 0 99) 86 1 111) 86 2 117) 86 3 110) 86 4 116) 86 5 119) 86 6 97) 86 7 108) 86 8 107) 86 9 100) 86 10 97) 86 11 119) 86 12 110) 69 28 0) 69 29 0) 69 30 0) 69 31 0) := Z_u hZ280 (by decide)
  refine g_aload_n (M := mX11_init) (pc := 288) dX11_init_288 rfl (k := ?_)
  refine g_iconst (M := mX11_init) (pc := 289) dX11_init_289 (k := ?_)
  refine g_put (M := mX11_init) (pc := 290) (ji := 32) (by rfl) fX11_32 kX11_108 dX11_init_290 (by omega) (kk := ?_)
  have hZ290 : Z 88 (upr (upr (upr (upr (upr (upr (upr (upr (upr (upr (upr (upr (upr (upr (upr (upr (upr (upr ρ 69 2 71) 69 3 72) 69 4 73) 69 5 74) 69 6 75) 69 7 76) 69 8 77) 69 9 78) 69 15 79) 69 16 80) 69 17 81) 69 18 82) 69 19 83) 69 20 84) 69 21 85) 69 22 86) 69 26 87) 69 27 88) (up (up (up (up (up (up (up (up (up (up (up (up (up (up (up (up (up (up (up (up (up (up (up (up (up (up (up (up σ 69 0 0) 69 1 0) 69 10 0) 69 11 (-1)) 69 12 0) 69 13 0) 69 14 0) 69 23 0) 69 24 0) 69 25 0) 86 0 99) 86 1 111) 86 2 117) 86 3 110) 86 4 116) 86 5 119) 86 6 97) 86 7 108) 86 8 107) 86 9 100) 86 10 97) 86 11 119) 86 12 110) 69 28 0) 69 29 0) 69 30 0) 69 31 0) 69 32 0) := Z_u hZ285 (by decide)
  refine g_aload_n (M := mX11_init) (pc := 293) dX11_init_293 rfl (k := ?_)
  refine g_iconst (M := mX11_init) (pc := 294) dX11_init_294 (k := ?_)
  refine g_put (M := mX11_init) (pc := 295) (ji := 33) (by rfl) fX11_33 kX11_111 dX11_init_295 (by omega) (kk := ?_)
  have hZ295 : Z 88 (upr (upr (upr (upr (upr (upr (upr (upr (upr (upr (upr (upr (upr (upr (upr (upr (upr (upr ρ 69 2 71) 69 3 72) 69 4 73) 69 5 74) 69 6 75) 69 7 76) 69 8 77) 69 9 78) 69 15 79) 69 16 80) 69 17 81) 69 18 82) 69 19 83) 69 20 84) 69 21 85) 69 22 86) 69 26 87) 69 27 88) (up (up (up (up (up (up (up (up (up (up (up (up (up (up (up (up (up (up (up (up (up (up (up (up (up (up (up (up (up σ 69 0 0) 69 1 0) 69 10 0) 69 11 (-1)) 69 12 0) 69 13 0) 69 14 0) 69 23 0) 69 24 0) 69 25 0) 86 0 99) 86 1 111) 86 2 117) 86 3 110) 86 4 116) 86 5 119) 86 6 97) 86 7 108) 86 8 107) 86 9 100) 86 10 97) 86 11 119) 86 12 110) 69 28 0) 69 29 0) 69 30 0) 69 31 0) 69 32 0) 69 33 0) := Z_u hZ290 (by decide)
  refine g_aload_n (M := mX11_init) (pc := 298) dX11_init_298 rfl (k := ?_)
  refine g_iconst (M := mX11_init) (pc := 299) dX11_init_299 (k := ?_)
  refine g_put (M := mX11_init) (pc := 300) (ji := 34) (by rfl) fX11_34 kX11_114 dX11_init_300 (by omega) (kk := ?_)
  have hZ300 : Z 88 (upr (upr (upr (upr (upr (upr (upr (upr (upr (upr (upr (upr (upr (upr (upr (upr (upr (upr ρ 69 2 71) 69 3 72) 69 4 73) 69 5 74) 69 6 75) 69 7 76) 69 8 77) 69 9 78) 69 15 79) 69 16 80) 69 17 81) 69 18 82) 69 19 83) 69 20 84) 69 21 85) 69 22 86) 69 26 87) 69 27 88) (up (up (up (up (up (up (up (up (up (up (up (up (up (up (up (up (up (up (up (up (up (up (up (up (up (up (up (up (up (up σ 69 0 0) 69 1 0) 69 10 0) 69 11 (-1)) 69 12 0) 69 13 0) 69 14 0) 69 23 0) 69 24 0) 69 25 0) 86 0 99) 86 1 111) 86 2 117) 86 3 110) 86 4 116) 86 5 119) 86 6 97) 86 7 108) 86 8 107) 86 9 100) 86 10 97) 86 11 119) 86 12 110) 69 28 0) 69 29 0) 69 30 0) 69 31 0) 69 32 0) 69 33 0) 69 34 0) := Z_u hZ295 (by decide)
  refine g_aload_n (M := mX11_init) (pc := 303) dX11_init_303 rfl (k := ?_)
  refine g_bipush (M := mX11_init) (pc := 304) dX11_init_304 (k := ?_)
  refine g_newa (M := mX11_init) (pc := 306) (N := 8) rfl (Or.inl ⟨rfl, rfl⟩) (by omega) (Z_at hZ300) dX11_init_306 (Nat.le_of_ble_eq_true rfl) (Nat.le_of_ble_eq_true rfl) (kk := ?_)
  have hZ306 : Z 89 (upr (upr (upr (upr (upr (upr (upr (upr (upr (upr (upr (upr (upr (upr (upr (upr (upr (upr ρ 69 2 71) 69 3 72) 69 4 73) 69 5 74) 69 6 75) 69 7 76) 69 8 77) 69 9 78) 69 15 79) 69 16 80) 69 17 81) 69 18 82) 69 19 83) 69 20 84) 69 21 85) 69 22 86) 69 26 87) 69 27 88) (up (up (up (up (up (up (up (up (up (up (up (up (up (up (up (up (up (up (up (up (up (up (up (up (up (up (up (up (up (up σ 69 0 0) 69 1 0) 69 10 0) 69 11 (-1)) 69 12 0) 69 13 0) 69 14 0) 69 23 0) 69 24 0) 69 25 0) 86 0 99) 86 1 111) 86 2 117) 86 3 110) 86 4 116) 86 5 119) 86 6 97) 86 7 108) 86 8 107) 86 9 100) 86 10 97) 86 11 119) 86 12 110) 69 28 0) 69 29 0) 69 30 0) 69 31 0) 69 32 0) 69 33 0) 69 34 0) := Z_n hZ300
  refine g_putr (M := mX11_init) (pc := 308) (by rfl) fX11_35 kX11_117 dX11_init_308 (by first | exact Or.inl ⟨_, rfl⟩ | exact Or.inr ⟨_, rfl⟩) (Or.inr ⟨rfl, rfl, linkP kX11_117⟩) (kk := ?_)
  have hZ308 : Z 89 (upr (upr (upr (upr (upr (upr (upr (upr (upr (upr (upr (upr (upr (upr (upr (upr (upr (upr (upr ρ 69 2 71) 69 3 72) 69 4 73) 69 5 74) 69 6 75) 69 7 76) 69 8 77) 69 9 78) 69 15 79) 69 16 80) 69 17 81) 69 18 82) 69 19 83) 69 20 84) 69 21 85) 69 22 86) 69 26 87) 69 27 88) 69 35 89) (up (up (up (up (up (up (up (up (up (up (up (up (up (up (up (up (up (up (up (up (up (up (up (up (up (up (up (up (up (up σ 69 0 0) 69 1 0) 69 10 0) 69 11 (-1)) 69 12 0) 69 13 0) 69 14 0) 69 23 0) 69 24 0) 69 25 0) 86 0 99) 86 1 111) 86 2 117) 86 3 110) 86 4 116) 86 5 119) 86 6 97) 86 7 108) 86 8 107) 86 9 100) 86 10 97) 86 11 119) 86 12 110) 69 28 0) 69 29 0) 69 30 0) 69 31 0) 69 32 0) 69 33 0) 69 34 0) := Z_r hZ306 (by decide)
  refine g_aload_n (M := mX11_init) (pc := 311) dX11_init_311 rfl (k := ?_)
  refine g_iconst (M := mX11_init) (pc := 312) dX11_init_312 (k := ?_)
  refine g_newa (M := mX11_init) (pc := 313) (N := 5) rfl (Or.inl ⟨rfl, rfl⟩) (by omega) (Z_at hZ308) dX11_init_313 (Nat.le_of_ble_eq_true rfl) (Nat.le_of_ble_eq_true rfl) (kk := ?_)
  have hZ313 : Z 90 (upr (upr (upr (upr (upr (upr (upr (upr (upr (upr (upr (upr (upr (upr (upr (upr (upr (upr (upr ρ 69 2 71) 69 3 72) 69 4 73) 69 5 74) 69 6 75) 69 7 76) 69 8 77) 69 9 78) 69 15 79) 69 16 80) 69 17 81) 69 18 82) 69 19 83) 69 20 84) 69 21 85) 69 22 86) 69 26 87) 69 27 88) 69 35 89) (up (up (up (up (up (up (up (up (up (up (up (up (up (up (up (up (up (up (up (up (up (up (up (up (up (up (up (up (up (up σ 69 0 0) 69 1 0) 69 10 0) 69 11 (-1)) 69 12 0) 69 13 0) 69 14 0) 69 23 0) 69 24 0) 69 25 0) 86 0 99) 86 1 111) 86 2 117) 86 3 110) 86 4 116) 86 5 119) 86 6 97) 86 7 108) 86 8 107) 86 9 100) 86 10 97) 86 11 119) 86 12 110) 69 28 0) 69 29 0) 69 30 0) 69 31 0) 69 32 0) 69 33 0) 69 34 0) := Z_n hZ308
  refine g_putr (M := mX11_init) (pc := 315) (by rfl) fX11_36 kX11_120 dX11_init_315 (by first | exact Or.inl ⟨_, rfl⟩ | exact Or.inr ⟨_, rfl⟩) (Or.inr ⟨rfl, rfl, linkP kX11_120⟩) (kk := ?_)
  have hZ315 : Z 90 (upr (upr (upr (upr (upr (upr (upr (upr (upr (upr (upr (upr (upr (upr (upr (upr (upr (upr (upr (upr ρ 69 2 71) 69 3 72) 69 4 73) 69 5 74) 69 6 75) 69 7 76) 69 8 77) 69 9 78) 69 15 79) 69 16 80) 69 17 81) 69 18 82) 69 19 83) 69 20 84) 69 21 85) 69 22 86) 69 26 87) 69 27 88) 69 35 89) 69 36 90) (up (up (up (up (up (up (up (up (up (up (up (up (up (up (up (up (up (up (up (up (up (up (up (up (up (up (up (up (up (up σ 69 0 0) 69 1 0) 69 10 0) 69 11 (-1)) 69 12 0) 69 13 0) 69 14 0) 69 23 0) 69 24 0) 69 25 0) 86 0 99) 86 1 111) 86 2 117) 86 3 110) 86 4 116) 86 5 119) 86 6 97) 86 7 108) 86 8 107) 86 9 100) 86 10 97) 86 11 119) 86 12 110) 69 28 0) 69 29 0) 69 30 0) 69 31 0) 69 32 0) 69 33 0) 69 34 0) := Z_r hZ313 (by decide)
  refine g_aload_n (M := mX11_init) (pc := 318) dX11_init_318 rfl (k := ?_)
  refine g_iconst (M := mX11_init) (pc := 319) dX11_init_319 (k := ?_)
  refine g_newa (M := mX11_init) (pc := 320) (N := 5) rfl (Or.inl ⟨rfl, rfl⟩) (by omega) (Z_at hZ315) dX11_init_320 (Nat.le_of_ble_eq_true rfl) (Nat.le_of_ble_eq_true rfl) (kk := ?_)
  have hZ320 : Z 91 (upr (upr (upr (upr (upr (upr (upr (upr (upr (upr (upr (upr (upr (upr (upr (upr (upr (upr (upr (upr ρ 69 2 71) 69 3 72) 69 4 73) 69 5 74) 69 6 75) 69 7 76) 69 8 77) 69 9 78) 69 15 79) 69 16 80) 69 17 81) 69 18 82) 69 19 83) 69 20 84) 69 21 85) 69 22 86) 69 26 87) 69 27 88) 69 35 89) 69 36 90) (up (up (up (up (up (up (up (up (up (up (up (up (up (up (up (up (up (up (up (up (up (up (up (up (up (up (up (up (up (up σ 69 0 0) 69 1 0) 69 10 0) 69 11 (-1)) 69 12 0) 69 13 0) 69 14 0) 69 23 0) 69 24 0) 69 25 0) 86 0 99) 86 1 111) 86 2 117) 86 3 110) 86 4 116) 86 5 119) 86 6 97) 86 7 108) 86 8 107) 86 9 100) 86 10 97) 86 11 119) 86 12 110) 69 28 0) 69 29 0) 69 30 0) 69 31 0) 69 32 0) 69 33 0) 69 34 0) := Z_n hZ315
  refine g_putr (M := mX11_init) (pc := 322) (by rfl) fX11_37 kX11_123 dX11_init_322 (by first | exact Or.inl ⟨_, rfl⟩ | exact Or.inr ⟨_, rfl⟩) (Or.inr ⟨rfl, rfl, linkP kX11_123⟩) (kk := ?_)
  have hZ322 : Z 91 (upr (upr (upr (upr (upr (upr (upr (upr (upr (upr (upr (upr (upr (upr (upr (upr (upr (upr (upr (upr (upr ρ 69 2 71) 69 3 72) 69 4 73) 69 5 74) 69 6 75) 69 7 76) 69 8 77) 69 9 78) 69 15 79) 69 16 80) 69 17 81) 69 18 82) 69 19 83) 69 20 84) 69 21 85) 69 22 86) 69 26 87) 69 27 88) 69 35 89) 69 36 90) 69 37 91) (up (up (up (up (up (up (up (up (up (up (up (up (up (up (up (up (up (up (up (up (up (up (up (up (up (up (up (up (up (up σ 69 0 0) 69 1 0) 69 10 0) 69 11 (-1)) 69 12 0) 69 13 0) 69 14 0) 69 23 0) 69 24 0) 69 25 0) 86 0 99) 86 1 111) 86 2 117) 86 3 110) 86 4 116) 86 5 119) 86 6 97) 86 7 108) 86 8 107) 86 9 100) 86 10 97) 86 11 119) 86 12 110) 69 28 0) 69 29 0) 69 30 0) 69 31 0) 69 32 0) 69 33 0) 69 34 0) := Z_r hZ320 (by decide)
  refine g_aload_n (M := mX11_init) (pc := 325) dX11_init_325 rfl (k := ?_)
  refine g_iconst (M := mX11_init) (pc := 326) dX11_init_326 (k := ?_)
  refine g_put (M := mX11_init) (pc := 327) (ji := 38) (by rfl) fX11_38 kX11_126 dX11_init_327 (by omega) (kk := ?_)
  have hZ327 : Z 91 (upr (upr (upr (upr (upr (upr (upr (upr (upr (upr (upr (upr (upr (upr (upr (upr (upr (upr (upr (upr (upr ρ 69 2 71) 69 3 72) 69 4 73) 69 5 74) 69 6 75) 69 7 76) 69 8 77) 69 9 78) 69 15 79) 69 16 80) 69 17 81) 69 18 82) 69 19 83) 69 20 84) 69 21 85) 69 22 86) 69 26 87) 69 27 88) 69 35 89) 69 36 90) 69 37 91) (up (up (up (up (up (up (up (up (up (up (up (up (up (up (up (up (up (up (up (up (up (up (up (up (up (up (up (up (up (up (up σ 69 0 0) 69 1 0) 69 10 0) 69 11 (-1)) 69 12 0) 69 13 0) 69 14 0) 69 23 0) 69 24 0) 69 25 0) 86 0 99) 86 1 111) 86 2 117) 86 3 110) 86 4 116) 86 5 119) 86 6 97) 86 7 108) 86 8 107) 86 9 100) 86 10 97) 86 11 119) 86 12 110) 69 28 0) 69 29 0) 69 30 0) 69 31 0) 69 32 0) 69 33 0) 69 34 0) 69 38 0) := Z_u hZ322 (by decide)
  refine g_aload_n (M := mX11_init) (pc := 330) dX11_init_330 rfl (k := ?_)
  refine g_bipush (M := mX11_init) (pc := 331) dX11_init_331 (k := ?_)
  refine g_newa (M := mX11_init) (pc := 333) (N := 8) rfl (Or.inl ⟨rfl, rfl⟩) (by omega) (Z_at hZ327) dX11_init_333 (Nat.le_of_ble_eq_true rfl) (Nat.le_of_ble_eq_true rfl) (kk := ?_)
  have hZ333 : Z 92 (upr (upr (upr (upr (upr (upr (upr (upr (upr (upr (upr (upr (upr (upr (upr (upr (upr (upr (upr (upr (upr ρ 69 2 71) 69 3 72) 69 4 73) 69 5 74) 69 6 75) 69 7 76) 69 8 77) 69 9 78) 69 15 79) 69 16 80) 69 17 81) 69 18 82) 69 19 83) 69 20 84) 69 21 85) 69 22 86) 69 26 87) 69 27 88) 69 35 89) 69 36 90) 69 37 91) (up (up (up (up (up (up (up (up (up (up (up (up (up (up (up (up (up (up (up (up (up (up (up (up (up (up (up (up (up (up (up σ 69 0 0) 69 1 0) 69 10 0) 69 11 (-1)) 69 12 0) 69 13 0) 69 14 0) 69 23 0) 69 24 0) 69 25 0) 86 0 99) 86 1 111) 86 2 117) 86 3 110) 86 4 116) 86 5 119) 86 6 97) 86 7 108) 86 8 107) 86 9 100) 86 10 97) 86 11 119) 86 12 110) 69 28 0) 69 29 0) 69 30 0) 69 31 0) 69 32 0) 69 33 0) 69 34 0) 69 38 0) := Z_n hZ327
  refine g_putr (M := mX11_init) (pc := 335) (by rfl) fX11_39 kX11_129 dX11_init_335 (by first | exact Or.inl ⟨_, rfl⟩ | exact Or.inr ⟨_, rfl⟩) (Or.inr ⟨rfl, rfl, linkP kX11_129⟩) (kk := ?_)
  have hZ335 : Z 92 (upr (upr (upr (upr (upr (upr (upr (upr (upr (upr (upr (upr (upr (upr (upr (upr (upr (upr (upr (upr (upr (upr ρ 69 2 71) 69 3 72) 69 4 73) 69 5 74) 69 6 75) 69 7 76) 69 8 77) 69 9 78) 69 15 79) 69 16 80) 69 17 81) 69 18 82) 69 19 83) 69 20 84) 69 21 85) 69 22 86) 69 26 87) 69 27 88) 69 35 89) 69 36 90) 69 37 91) 69 39 92) (up (up (up (up (up (up (up (up (up (up (up (up (up (up (up (up (up (up (up (up (up (up (up (up (up (up (up (up (up (up (up σ 69 0 0) 69 1 0) 69 10 0) 69 11 (-1)) 69 12 0) 69 13 0) 69 14 0) 69 23 0) 69 24 0) 69 25 0) 86 0 99) 86 1 111) 86 2 117) 86 3 110) 86 4 116) 86 5 119) 86 6 97) 86 7 108) 86 8 107) 86 9 100) 86 10 97) 86 11 119) 86 12 110) 69 28 0) 69 29 0) 69 30 0) 69 31 0) 69 32 0) 69 33 0) 69 34 0) 69 38 0) := Z_r hZ333 (by decide)
  refine g_aload_n (M := mX11_init) (pc := 338) dX11_init_338 rfl (k := ?_)
  refine g_bipush (M := mX11_init) (pc := 339) dX11_init_339 (k := ?_)
  refine g_newa (M := mX11_init) (pc := 341) (N := 8) rfl (Or.inr (Or.inr (Or.inl ⟨rfl, rfl⟩))) (by omega) (Z_at hZ335) dX11_init_341 (Nat.le_of_ble_eq_true rfl) (Nat.le_of_ble_eq_true rfl) (kk := ?_)
  have hZ341 : Z 93 (upr (upr (upr (upr (upr (upr (upr (upr (upr (upr (upr (upr (upr (upr (upr (upr (upr (upr (upr (upr (upr (upr ρ 69 2 71) 69 3 72) 69 4 73) 69 5 74) 69 6 75) 69 7 76) 69 8 77) 69 9 78) 69 15 79) 69 16 80) 69 17 81) 69 18 82) 69 19 83) 69 20 84) 69 21 85) 69 22 86) 69 26 87) 69 27 88) 69 35 89) 69 36 90) 69 37 91) 69 39 92) (up (up (up (up (up (up (up (up (up (up (up (up (up (up (up (up (up (up (up (up (up (up (up (up (up (up (up (up (up (up (up σ 69 0 0) 69 1 0) 69 10 0) 69 11 (-1)) 69 12 0) 69 13 0) 69 14 0) 69 23 0) 69 24 0) 69 25 0) 86 0 99) 86 1 111) 86 2 117) 86 3 110) 86 4 116) 86 5 119) 86 6 97) 86 7 108) 86 8 107) 86 9 100) 86 10 97) 86 11 119) 86 12 110) 69 28 0) 69 29 0) 69 30 0) 69 31 0) 69 32 0) 69 33 0) 69 34 0) 69 38 0) := Z_n hZ335
  refine g_putr (M := mX11_init) (pc := 343) (by rfl) fX11_40 kX11_132 dX11_init_343 (by first | exact Or.inl ⟨_, rfl⟩ | exact Or.inr ⟨_, rfl⟩) (Or.inr ⟨rfl, rfl, linkP kX11_132⟩) (kk := ?_)
  have hZ343 : Z 93 (upr (upr (upr (upr (upr (upr (upr (upr (upr (upr (upr (upr (upr (upr (upr (upr (upr (upr (upr (upr (upr (upr (upr ρ 69 2 71) 69 3 72) 69 4 73) 69 5 74) 69 6 75) 69 7 76) 69 8 77) 69 9 78) 69 15 79) 69 16 80) 69 17 81) 69 18 82) 69 19 83) 69 20 84) 69 21 85) 69 22 86) 69 26 87) 69 27 88) 69 35 89) 69 36 90) 69 37 91) 69 39 92) 69 40 93) (up (up (up (up (up (up (up (up (up (up (up (up (up (up (up (up (up (up (up (up (up (up (up (up (up (up (up (up (up (up (up σ 69 0 0) 69 1 0) 69 10 0) 69 11 (-1)) 69 12 0) 69 13 0) 69 14 0) 69 23 0) 69 24 0) 69 25 0) 86 0 99) 86 1 111) 86 2 117) 86 3 110) 86 4 116) 86 5 119) 86 6 97) 86 7 108) 86 8 107) 86 9 100) 86 10 97) 86 11 119) 86 12 110) 69 28 0) 69 29 0) 69 30 0) 69 31 0) 69 32 0) 69 33 0) 69 34 0) 69 38 0) := Z_r hZ341 (by decide)
  refine g_aload_n (M := mX11_init) (pc := 346) dX11_init_346 rfl (k := ?_)
  refine g_iconst (M := mX11_init) (pc := 347) dX11_init_347 (k := ?_)
  refine g_put (M := mX11_init) (pc := 348) (ji := 41) (by rfl) fX11_41 kX11_135 dX11_init_348 (by omega) (kk := ?_)
  have hZ348 : Z 93 (upr (upr (upr (upr (upr (upr (upr (upr (upr (upr (upr (upr (upr (upr (upr (upr (upr (upr (upr (upr (upr (upr (upr ρ 69 2 71) 69 3 72) 69 4 73) 69 5 74) 69 6 75) 69 7 76) 69 8 77) 69 9 78) 69 15 79) 69 16 80) 69 17 81) 69 18 82) 69 19 83) 69 20 84) 69 21 85) 69 22 86) 69 26 87) 69 27 88) 69 35 89) 69 36 90) 69 37 91) 69 39 92) 69 40 93) (up (up (up (up (up (up (up (up (up (up (up (up (up (up (up (up (up (up (up (up (up (up (up (up (up (up (up (up (up (up (up (up σ 69 0 0) 69 1 0) 69 10 0) 69 11 (-1)) 69 12 0) 69 13 0) 69 14 0) 69 23 0) 69 24 0) 69 25 0) 86 0 99) 86 1 111) 86 2 117) 86 3 110) 86 4 116) 86 5 119) 86 6 97) 86 7 108) 86 8 107) 86 9 100) 86 10 97) 86 11 119) 86 12 110) 69 28 0) 69 29 0) 69 30 0) 69 31 0) 69 32 0) 69 33 0) 69 34 0) 69 38 0) 69 41 0) := Z_u hZ343 (by decide)
  refine g_aload_n (M := mX11_init) (pc := 351) dX11_init_351 rfl (k := ?_)
  refine g_bipush (M := mX11_init) (pc := 352) dX11_init_352 (k := ?_)
  refine g_newa (M := mX11_init) (pc := 354) (N := 12) rfl (Or.inl ⟨rfl, rfl⟩) (by omega) (Z_at hZ348) dX11_init_354 (Nat.le_of_ble_eq_true rfl) (Nat.le_of_ble_eq_true rfl) (kk := ?_)
  have hZ354 : Z 94 (upr (upr (upr (upr (upr (upr (upr (upr (upr (upr (upr (upr (upr (upr (upr (upr (upr (upr (upr (upr (upr (upr (upr ρ 69 2 71) 69 3 72) 69 4 73) 69 5 74) 69 6 75) 69 7 76) 69 8 77) 69 9 78) 69 15 79) 69 16 80) 69 17 81) 69 18 82) 69 19 83) 69 20 84) 69 21 85) 69 22 86) 69 26 87) 69 27 88) 69 35 89) 69 36 90) 69 37 91) 69 39 92) 69 40 93) (up (up (up (up (up (up (up (up (up (up (up (up (up (up (up (up (up (up (up (up (up (up (up (up (up (up (up (up (up (up (up (up σ 69 0 0) 69 1 0) 69 10 0) 69 11 (-1)) 69 12 0) 69 13 0) 69 14 0) 69 23 0) 69 24 0) 69 25 0) 86 0 99) 86 1 111) 86 2 117) 86 3 110) 86 4 116) 86 5 119) 86 6 97) 86 7 108) 86 8 107) 86 9 100) 86 10 97) 86 11 119) 86 12 110) 69 28 0) 69 29 0) 69 30 0) 69 31 0) 69 32 0) 69 33 0) 69 34 0) 69 38 0) 69 41 0) := Z_n hZ348
  refine g_putr (M := mX11_init) (pc := 356) (by rfl) fX11_42 kX11_138 dX11_init_356 (by first | exact Or.inl ⟨_, rfl⟩ | exact Or.inr ⟨_, rfl⟩) (Or.inr ⟨rfl, rfl, linkP kX11_138⟩) (kk := ?_)
  have hZ356 : Z 94 (upr (upr (upr (upr (upr (upr (upr (upr (upr (upr (upr (upr (upr (upr (upr (upr (upr (upr (upr (upr (upr (upr (upr (upr ρ 69 2 71) 69 3 72) 69 4 73) 69 5 74) 69 6 75) 69 7 76) 69 8 77) 69 9 78) 69 15 79) 69 16 80) 69 17 81) 69 18 82) 69 19 83) 69 20 84) 69 21 85) 69 22 86) 69 26 87) 69 27 88) 69 35 89) 69 36 90) 69 37 91) 69 39 92) 69 40 93) 69 42 94) (up (up (up (up (up (up (up (up (up (up (up (up (up (up (up (up (up (up (up (up (up (up (up (up (up (up (up (up (up (up (up (up σ 69 0 0) 69 1 0) 69 10 0) 69 11 (-1)) 69 12 0) 69 13 0) 69 14 0) 69 23 0) 69 24 0) 69 25 0) 86 0 99) 86 1 111) 86 2 117) 86 3 110) 86 4 116) 86 5 119) 86 6 97) 86 7 108) 86 8 107) 86 9 100) 86 10 97) 86 11 119) 86 12 110) 69 28 0) 69 29 0) 69 30 0) 69 31 0) 69 32 0) 69 33 0) 69 34 0) 69 38 0) 69 41 0) := Z_r hZ354 (by decide)
  refine g_aload_n (M := mX11_init) (pc := 359) dX11_init_359 rfl (k := ?_)
  refine g_bipush (M := mX11_init) (pc := 360) dX11_init_360 (k := ?_)
  refine g_newa (M := mX11_init) (pc := 362) (N := 12) rfl (Or.inl ⟨rfl, rfl⟩) (by omega) (Z_at hZ356) dX11_init_362 (Nat.le_of_ble_eq_true rfl) (Nat.le_of_ble_eq_true rfl) (kk := ?_)
  have hZ362 : Z 95 (upr (upr (upr (upr (upr (upr (upr (upr (upr (upr (upr (upr (upr (upr (upr (upr (upr (upr (upr (upr (upr (upr (upr (upr ρ 69 2 71) 69 3 72) 69 4 73) 69 5 74) 69 6 75) 69 7 76) 69 8 77) 69 9 78) 69 15 79) 69 16 80) 69 17 81) 69 18 82) 69 19 83) 69 20 84) 69 21 85) 69 22 86) 69 26 87) 69 27 88) 69 35 89) 69 36 90) 69 37 91) 69 39 92) 69 40 93) 69 42 94) (up (up (up (up (up (up (up (up (up (up (up (up (up (up (up (up (up (up (up (up (up (up (up (up (up (up (up (up (up (up (up (up σ 69 0 0) 69 1 0) 69 10 0) 69 11 (-1)) 69 12 0) 69 13 0) 69 14 0) 69 23 0) 69 24 0) 69 25 0) 86 0 99) 86 1 111) 86 2 117) 86 3 110) 86 4 116) 86 5 119) 86 6 97) 86 7 108) 86 8 107) 86 9 100) 86 10 97) 86 11 119) 86 12 110) 69 28 0) 69 29 0) 69 30 0) 69 31 0) 69 32 0) 69 33 0) 69 34 0) 69 38 0) 69 41 0) := Z_n hZ356
  refine g_putr (M := mX11_init) (pc := 364) (by rfl) fX11_43 kX11_141 dX11_init_364 (by first | exact Or.inl ⟨_, rfl⟩ | exact Or.inr ⟨_, rfl⟩) (Or.inr ⟨rfl, rfl, linkP kX11_141⟩) (kk := ?_)
  have hZ364 : Z 95 (upr (upr (upr (upr (upr (upr (upr (upr (upr (upr (upr (upr (upr (upr (upr (upr (upr (upr (upr (upr (upr (upr (upr (upr (upr ρ 69 2 71) 69 3 72) 69 4 73) 69 5 74) 69 6 75) 69 7 76) 69 8 77) 69 9 78) 69 15 79) 69 16 80) 69 17 81) 69 18 82) 69 19 83) 69 20 84) 69 21 85) 69 22 86) 69 26 87) 69 27 88) 69 35 89) 69 36 90) 69 37 91) 69 39 92) 69 40 93) 69 42 94) 69 43 95) (up (up (up (up (up (up (up (up (up (up (up (up (up (up (up (up (up (up (up (up (up (up (up (up (up (up (up (up (up (up (up (up σ 69 0 0) 69 1 0) 69 10 0) 69 11 (-1)) 69 12 0) 69 13 0) 69 14 0) 69 23 0) 69 24 0) 69 25 0) 86 0 99) 86 1 111) 86 2 117) 86 3 110) 86 4 116) 86 5 119) 86 6 97) 86 7 108) 86 8 107) 86 9 100) 86 10 97) 86 11 119) 86 12 110) 69 28 0) 69 29 0) 69 30 0) 69 31 0) 69 32 0) 69 33 0) 69 34 0) 69 38 0) 69 41 0) := Z_r hZ362 (by decide)
  refine g_aload_n (M := mX11_init) (pc := 367) dX11_init_367 rfl (k := ?_)
  refine g_iconst (M := mX11_init) (pc := 368) dX11_init_368 (k := ?_)
  refine g_putz (M := mX11_init) (pc := 369) (ji := 44) (by rfl) fX11_44 kX11_144 dX11_init_369 (by omega) (kk := ?_)
  have hZ369 : Z 95 (upr (upr (upr (upr (upr (upr (upr (upr (upr (upr (upr (upr (upr (upr (upr (upr (upr (upr (upr (upr (upr (upr (upr (upr (upr ρ 69 2 71) 69 3 72) 69 4 73) 69 5 74) 69 6 75) 69 7 76) 69 8 77) 69 9 78) 69 15 79) 69 16 80) 69 17 81) 69 18 82) 69 19 83) 69 20 84) 69 21 85) 69 22 86) 69 26 87) 69 27 88) 69 35 89) 69 36 90) 69 37 91) 69 39 92) 69 40 93) 69 42 94) 69 43 95) (up (up (up (up (up (up (up (up (up (up (up (up (up (up (up (up (up (up (up (up (up (up (up (up (up (up (up (up (up (up (up (up (up σ 69 0 0) 69 1 0) 69 10 0) 69 11 (-1)) 69 12 0) 69 13 0) 69 14 0) 69 23 0) 69 24 0) 69 25 0) 86 0 99) 86 1 111) 86 2 117) 86 3 110) 86 4 116) 86 5 119) 86 6 97) 86 7 108) 86 8 107) 86 9 100) 86 10 97) 86 11 119) 86 12 110) 69 28 0) 69 29 0) 69 30 0) 69 31 0) 69 32 0) 69 33 0) 69 34 0) 69 38 0) 69 41 0) 69 44 0) := Z_u hZ364 (by decide)
  refine g_aload_n (M := mX11_init) (pc := 372) dX11_init_372 rfl (k := ?_)
  refine g_iconst (M := mX11_init) (pc := 373) dX11_init_373 (k := ?_)
  refine g_put (M := mX11_init) (pc := 374) (ji := 45) (by rfl) fX11_45 kX11_148 dX11_init_374 (by omega) (kk := ?_)
  have hZ374 : Z 95 (upr (upr (upr (upr (upr (upr (upr (upr (upr (upr (upr (upr (upr (upr (upr (upr (upr (upr (upr (upr (upr (upr (upr (upr (upr ρ 69 2 71) 69 3 72) 69 4 73) 69 5 74) 69 6 75) 69 7 76) 69 8 77) 69 9 78) 69 15 79) 69 16 80) 69 17 81) 69 18 82) 69 19 83) 69 20 84) 69 21 85) 69 22 86) 69 26 87) 69 27 88) 69 35 89) 69 36 90) 69 37 91) 69 39 92) 69 40 93) 69 42 94) 69 43 95) (up (up (up (up (up (up (up (up (up (up (up (up (up (up (up (up (up (up (up (up (up (up (up (up (up (up (up (up (up (up (up (up (up (up σ 69 0 0) 69 1 0) 69 10 0) 69 11 (-1)) 69 12 0) 69 13 0) 69 14 0) 69 23 0) 69 24 0) 69 25 0) 86 0 99) 86 1 111) 86 2 117) 86 3 110) 86 4 116) 86 5 119) 86 6 97) 86 7 108) 86 8 107) 86 9 100) 86 10 97) 86 11 119) 86 12 110) 69 28 0) 69 29 0) 69 30 0) 69 31 0) 69 32 0) 69 33 0) 69 34 0) 69 38 0) 69 41 0) 69 44 0) 69 45 (-1)) := Z_u hZ369 (by decide)
  refine g_aload_n (M := mX11_init) (pc := 377) dX11_init_377 rfl (k := ?_)
  refine g_iconst (M := mX11_init) (pc := 378) dX11_init_378 (k := ?_)
  refine g_put (M := mX11_init) (pc := 379) (ji := 46) (by rfl) fX11_46 kX11_151 dX11_init_379 (by omega) (kk := ?_)
  have hZ379 : Z 95 (upr (upr (upr (upr (upr (upr (upr (upr (upr (upr (upr (upr (upr (upr (upr (upr (upr (upr (upr (upr (upr (upr (upr (upr (upr ρ 69 2 71) 69 3 72) 69 4 73) 69 5 74) 69 6 75) 69 7 76) 69 8 77) 69 9 78) 69 15 79) 69 16 80) 69 17 81) 69 18 82) 69 19 83) 69 20 84) 69 21 85) 69 22 86) 69 26 87) 69 27 88) 69 35 89) 69 36 90) 69 37 91) 69 39 92) 69 40 93) 69 42 94) 69 43 95) (up (up (up (up (up (up (up (up (up (up (up (up (up (up (up (up (up (up (up (up (up (up (up (up (up (up (up (up (up (up (up (up (up (up (up σ 69 0 0) 69 1 0) 69 10 0) 69 11 (-1)) 69 12 0) 69 13 0) 69 14 0) 69 23 0) 69 24 0) 69 25 0) 86 0 99) 86 1 111) 86 2 117) 86 3 110) 86 4 116) 86 5 119) 86 6 97) 86 7 108) 86 8 107) 86 9 100) 86 10 97) 86 11 119) 86 12 110) 69 28 0) 69 29 0) 69 30 0) 69 31 0) 69 32 0) 69 33 0) 69 34 0) 69 38 0) 69 41 0) 69 44 0) 69 45 (-1)) 69 46 0) := Z_u hZ374 (by decide)
  refine g_aload_n (M := mX11_init) (pc := 382) dX11_init_382 rfl (k := ?_)
  refine g_iconst (M := mX11_init) (pc := 383) dX11_init_383 (k := ?_)
  refine g_put (M := mX11_init) (pc := 384) (ji := 47) (by rfl) fX11_47 kX11_154 dX11_init_384 (by omega) (kk := ?_)
  have hZ384 : Z 95 (upr (upr (upr (upr (upr (upr (upr (upr (upr (upr (upr (upr (upr (upr (upr (upr (upr (upr (upr (upr (upr (upr (upr (upr (upr ρ 69 2 71) 69 3 72) 69 4 73) 69 5 74) 69 6 75) 69 7 76) 69 8 77) 69 9 78) 69 15 79) 69 16 80) 69 17 81) 69 18 82) 69 19 83) 69 20 84) 69 21 85) 69 22 86) 69 26 87) 69 27 88) 69 35 89) 69 36 90) 69 37 91) 69 39 92) 69 40 93) 69 42 94) 69 43 95) (up (up (up (up (up (up (up (up (up (up (up (up (up (up (up (up (up (up (up (up (up (up (up (up (up (up (up (up (up (up (up (up (up (up (up (up σ 69 0 0) 69 1 0) 69 10 0) 69 11 (-1)) 69 12 0) 69 13 0) 69 14 0) 69 23 0) 69 24 0) 69 25 0) 86 0 99) 86 1 111) 86 2 117) 86 3 110) 86 4 116) 86 5 119) 86 6 97) 86 7 108) 86 8 107) 86 9 100) 86 10 97) 86 11 119) 86 12 110) 69 28 0) 69 29 0) 69 30 0) 69 31 0) 69 32 0) 69 33 0) 69 34 0) 69 38 0) 69 41 0) 69 44 0) 69 45 (-1)) 69 46 0) 69 47 0) := Z_u hZ379 (by decide)
  refine g_aload_n (M := mX11_init) (pc := 387) dX11_init_387 rfl (k := ?_)
  refine g_iconst (M := mX11_init) (pc := 388) dX11_init_388 (k := ?_)
  refine g_put (M := mX11_init) (pc := 389) (ji := 48) (by rfl) fX11_48 kX11_157 dX11_init_389 (by omega) (kk := ?_)
  have hZ389 : Z 95 (upr (upr (upr (upr (upr (upr (upr (upr (upr (upr (upr (upr (upr (upr (upr (upr (upr (upr (upr (upr (upr (upr (upr (upr (upr ρ 69 2 71) 69 3 72) 69 4 73) 69 5 74) 69 6 75) 69 7 76) 69 8 77) 69 9 78) 69 15 79) 69 16 80) 69 17 81) 69 18 82) 69 19 83) 69 20 84) 69 21 85) 69 22 86) 69 26 87) 69 27 88) 69 35 89) 69 36 90) 69 37 91) 69 39 92) 69 40 93) 69 42 94) 69 43 95) (up (up (up (up (up (up (up (up (up (up (up (up (up (up (up (up (up (up (up (up (up (up (up (up (up (up (up (up (up (up (up (up (up (up (up (up (up σ 69 0 0) 69 1 0) 69 10 0) 69 11 (-1)) 69 12 0) 69 13 0) 69 14 0) 69 23 0) 69 24 0) 69 25 0) 86 0 99) 86 1 111) 86 2 117) 86 3 110) 86 4 116) 86 5 119) 86 6 97) 86 7 108) 86 8 107) 86 9 100) 86 10 97) 86 11 119) 86 12 110) 69 28 0) 69 29 0) 69 30 0) 69 31 0) 69 32 0) 69 33 0) 69 34 0) 69 38 0) 69 41 0) 69 44 0) 69 45 (-1)) 69 46 0) 69 47 0) 69 48 0) := Z_u hZ384 (by decide)
  refine g_aload_n (M := mX11_init) (pc := 392) dX11_init_392 rfl (k := ?_)
  refine g_iconst (M := mX11_init) (pc := 393) dX11_init_393 (k := ?_)
  refine g_put (M := mX11_init) (pc := 394) (ji := 49) (by rfl) fX11_49 kX11_160 dX11_init_394 (by omega) (kk := ?_)
  have hZ394 : Z 95 (upr (upr (upr (upr (upr (upr (upr (upr (upr (upr (upr (upr (upr (upr (upr (upr (upr (upr (upr (upr (upr (upr (upr (upr (upr ρ 69 2 71) 69 3 72) 69 4 73) 69 5 74) 69 6 75) 69 7 76) 69 8 77) 69 9 78) 69 15 79) 69 16 80) 69 17 81) 69 18 82) 69 19 83) 69 20 84) 69 21 85) 69 22 86) 69 26 87) 69 27 88) 69 35 89) 69 36 90) 69 37 91) 69 39 92) 69 40 93) 69 42 94) 69 43 95) (up (up (up (up (up (up (up (up (up (up (up (up (up (up (up (up (up (up (up (up (up (up (up (up (up (up (up (up (up (up (up (up (up (up (up (up (up (up σ 69 0 0) 69 1 0) 69 10 0) 69 11 (-1)) 69 12 0) 69 13 0) 69 14 0) 69 23 0) 69 24 0) 69 25 0) 86 0 99) 86 1 111) 86 2 117) 86 3 110) 86 4 116) 86 5 119) 86 6 97) 86 7 108) 86 8 107) 86 9 100) 86 10 97) 86 11 119) 86 12 110) 69 28 0) 69 29 0) 69 30 0) 69 31 0) 69 32 0) 69 33 0) 69 34 0) 69 38 0) 69 41 0) 69 44 0) 69 45 (-1)) 69 46 0) 69 47 0) 69 48 0) 69 49 0) := Z_u hZ389 (by decide)
  refine g_aload_n (M := mX11_init) (pc := 397) dX11_init_397 rfl (k := ?_)
  refine g_iconst (M := mX11_init) (pc := 398) dX11_init_398 (k := ?_)
  refine g_put (M := mX11_init) (pc := 399) (ji := 50) (by rfl) fX11_50 kX11_163 dX11_init_399 (by omega) (kk := ?_)
  have hZ399 : Z 95 (upr (upr (upr (upr (upr (upr (upr (upr (upr (upr (upr (upr (upr (upr (upr (upr (upr (upr (upr (upr (upr (upr (upr (upr (upr ρ 69 2 71) 69 3 72) 69 4 73) 69 5 74) 69 6 75) 69 7 76) 69 8 77) 69 9 78) 69 15 79) 69 16 80) 69 17 81) 69 18 82) 69 19 83) 69 20 84) 69 21 85) 69 22 86) 69 26 87) 69 27 88) 69 35 89) 69 36 90) 69 37 91) 69 39 92) 69 40 93) 69 42 94) 69 43 95) (up (up (up (up (up (up (up (up (up (up (up (up (up (up (up (up (up (up (up (up (up (up (up (up (up (up (up (up (up (up (up (up (up (up (up (up (up (up (up σ 69 0 0) 69 1 0) 69 10 0) 69 11 (-1)) 69 12 0) 69 13 0) 69 14 0) 69 23 0) 69 24 0) 69 25 0) 86 0 99) 86 1 111) 86 2 117) 86 3 110) 86 4 116) 86 5 119) 86 6 97) 86 7 108) 86 8 107) 86 9 100) 86 10 97) 86 11 119) 86 12 110) 69 28 0) 69 29 0) 69 30 0) 69 31 0) 69 32 0) 69 33 0) 69 34 0) 69 38 0) 69 41 0) 69 44 0) 69 45 (-1)) 69 46 0) 69 47 0) 69 48 0) 69 49 0) 69 50 0) := Z_u hZ394 (by decide)
  refine g_aload_n (M := mX11_init) (pc := 402) dX11_init_402 rfl (k := ?_)
  refine g_bipush (M := mX11_init) (pc := 403) dX11_init_403 (k := ?_)
  refine g_newa (M := mX11_init) (pc := 405) (N := 6) rfl (Or.inl ⟨rfl, rfl⟩) (by omega) (Z_at hZ399) dX11_init_405 (Nat.le_of_ble_eq_true rfl) (Nat.le_of_ble_eq_true rfl) (kk := ?_)
  have hZ405 : Z 96 (upr (upr (upr (upr (upr (upr (upr (upr (upr (upr (upr (upr (upr (upr (upr (upr (upr (upr (upr (upr (upr (upr (upr (upr (upr ρ 69 2 71) 69 3 72) 69 4 73) 69 5 74) 69 6 75) 69 7 76) 69 8 77) 69 9 78) 69 15 79) 69 16 80) 69 17 81) 69 18 82) 69 19 83) 69 20 84) 69 21 85) 69 22 86) 69 26 87) 69 27 88) 69 35 89) 69 36 90) 69 37 91) 69 39 92) 69 40 93) 69 42 94) 69 43 95) (up (up (up (up (up (up (up (up (up (up (up (up (up (up (up (up (up (up (up (up (up (up (up (up (up (up (up (up (up (up (up (up (up (up (up (up (up (up (up σ 69 0 0) 69 1 0) 69 10 0) 69 11 (-1)) 69 12 0) 69 13 0) 69 14 0) 69 23 0) 69 24 0) 69 25 0) 86 0 99) 86 1 111) 86 2 117) 86 3 110) 86 4 116) 86 5 119) 86 6 97) 86 7 108) 86 8 107) 86 9 100) 86 10 97) 86 11 119) 86 12 110) 69 28 0) 69 29 0) 69 30 0) 69 31 0) 69 32 0) 69 33 0) 69 34 0) 69 38 0) 69 41 0) 69 44 0) 69 45 (-1)) 69 46 0) 69 47 0) 69 48 0) 69 49 0) 69 50 0) := Z_n hZ399
  refine g_putr (M := mX11_init) (pc := 407) (by rfl) fX11_51 kX11_166 dX11_init_407 (by first | exact Or.inl ⟨_, rfl⟩ | exact Or.inr ⟨_, rfl⟩) (Or.inr ⟨rfl, rfl, linkP kX11_166⟩) (kk := ?_)
  have hZ407 : Z 96 (upr (upr (upr (upr (upr (upr (upr (upr (upr (upr (upr (upr (upr (upr (upr (upr (upr (upr (upr (upr (upr (upr (upr (upr (upr (upr ρ 69 2 71) 69 3 72) 69 4 73) 69 5 74) 69 6 75) 69 7 76) 69 8 77) 69 9 78) 69 15 79) 69 16 80) 69 17 81) 69 18 82) 69 19 83) 69 20 84) 69 21 85) 69 22 86) 69 26 87) 69 27 88) 69 35 89) 69 36 90) 69 37 91) 69 39 92) 69 40 93) 69 42 94) 69 43 95) 69 51 96) (up (up (up (up (up (up (up (up (up (up (up (up (up (up (up (up (up (up (up (up (up (up (up (up (up (up (up (up (up (up (up (up (up (up (up (up (up (up (up σ 69 0 0) 69 1 0) 69 10 0) 69 11 (-1)) 69 12 0) 69 13 0) 69 14 0) 69 23 0) 69 24 0) 69 25 0) 86 0 99) 86 1 111) 86 2 117) 86 3 110) 86 4 116) 86 5 119) 86 6 97) 86 7 108) 86 8 107) 86 9 100) 86 10 97) 86 11 119) 86 12 110) 69 28 0) 69 29 0) 69 30 0) 69 31 0) 69 32 0) 69 33 0) 69 34 0) 69 38 0) 69 41 0) 69 44 0) 69 45 (-1)) 69 46 0) 69 47 0) 69 48 0) 69 49 0) 69 50 0) := Z_r hZ405 (by decide)
  refine g_aload_n (M := mX11_init) (pc := 410) dX11_init_410 rfl (k := ?_)
  refine g_bipush (M := mX11_init) (pc := 411) dX11_init_411 (k := ?_)
  refine g_newa (M := mX11_init) (pc := 413) (N := 6) rfl (Or.inl ⟨rfl, rfl⟩) (by omega) (Z_at hZ407) dX11_init_413 (Nat.le_of_ble_eq_true rfl) (Nat.le_of_ble_eq_true rfl) (kk := ?_)
  have hZ413 : Z 97 (upr (upr (upr (upr (upr (upr (upr (upr (upr (upr (upr (upr (upr (upr (upr (upr (upr (upr (upr (upr (upr (upr (upr (upr (upr (upr ρ 69 2 71) 69 3 72) 69 4 73) 69 5 74) 69 6 75) 69 7 76) 69 8 77) 69 9 78) 69 15 79) 69 16 80) 69 17 81) 69 18 82) 69 19 83) 69 20 84) 69 21 85) 69 22 86) 69 26 87) 69 27 88) 69 35 89) 69 36 90) 69 37 91) 69 39 92) 69 40 93) 69 42 94) 69 43 95) 69 51 96) (up (up (up (up (up (up (up (up (up (up (up (up (up (up (up (up (up (up (up (up (up (up (up (up (up (up (up (up (up (up (up (up (up (up (up (up (up (up (up σ 69 0 0) 69 1 0) 69 10 0) 69 11 (-1)) 69 12 0) 69 13 0) 69 14 0) 69 23 0) 69 24 0) 69 25 0) 86 0 99) 86 1 111) 86 2 117) 86 3 110) 86 4 116) 86 5 119) 86 6 97) 86 7 108) 86 8 107) 86 9 100) 86 10 97) 86 11 119) 86 12 110) 69 28 0) 69 29 0) 69 30 0) 69 31 0) 69 32 0) 69 33 0) 69 34 0) 69 38 0) 69 41 0) 69 44 0) 69 45 (-1)) 69 46 0) 69 47 0) 69 48 0) 69 49 0) 69 50 0) := Z_n hZ407
  refine g_putr (M := mX11_init) (pc := 415) (by rfl) fX11_52 kX11_169 dX11_init_415 (by first | exact Or.inl ⟨_, rfl⟩ | exact Or.inr ⟨_, rfl⟩) (Or.inr ⟨rfl, rfl, linkP kX11_169⟩) (kk := ?_)
  have hZ415 : Z 97 (upr (upr (upr (upr (upr (upr (upr (upr (upr (upr (upr (upr (upr (upr (upr (upr (upr (upr (upr (upr (upr (upr (upr (upr (upr (upr (upr ρ 69 2 71) 69 3 72) 69 4 73) 69 5 74) 69 6 75) 69 7 76) 69 8 77) 69 9 78) 69 15 79) 69 16 80) 69 17 81) 69 18 82) 69 19 83) 69 20 84) 69 21 85) 69 22 86) 69 26 87) 69 27 88) 69 35 89) 69 36 90) 69 37 91) 69 39 92) 69 40 93) 69 42 94) 69 43 95) 69 51 96) 69 52 97) (up (up (up (up (up (up (up (up (up (up (up (up (up (up (up (up (up (up (up (up (up (up (up (up (up (up (up (up (up (up (up (up (up (up (up (up (up (up (up σ 69 0 0) 69 1 0) 69 10 0) 69 11 (-1)) 69 12 0) 69 13 0) 69 14 0) 69 23 0) 69 24 0) 69 25 0) 86 0 99) 86 1 111) 86 2 117) 86 3 110) 86 4 116) 86 5 119) 86 6 97) 86 7 108) 86 8 107) 86 9 100) 86 10 97) 86 11 119) 86 12 110) 69 28 0) 69 29 0) 69 30 0) 69 31 0) 69 32 0) 69 33 0) 69 34 0) 69 38 0) 69 41 0) 69 44 0) 69 45 (-1)) 69 46 0) 69 47 0) 69 48 0) 69 49 0) 69 50 0) := Z_r hZ413 (by decide)
  refine g_aload_n (M := mX11_init) (pc := 418) dX11_init_418 rfl (k := ?_)
  refine g_bipush (M := mX11_init) (pc := 419) dX11_init_419 (k := ?_)
  refine g_newa (M := mX11_init) (pc := 421) (N := 6) rfl (Or.inl ⟨rfl, rfl⟩) (by omega) (Z_at hZ415) dX11_init_421 (Nat.le_of_ble_eq_true rfl) (Nat.le_of_ble_eq_true rfl) (kk := ?_)
  have hZ421 : Z 98 (upr (upr (upr (upr (upr (upr (upr (upr (upr (upr (upr (upr (upr (upr (upr (upr (upr (upr (upr (upr (upr (upr (upr (upr (upr (upr (upr ρ 69 2 71) 69 3 72) 69 4 73) 69 5 74) 69 6 75) 69 7 76) 69 8 77) 69 9 78) 69 15 79) 69 16 80) 69 17 81) 69 18 82) 69 19 83) 69 20 84) 69 21 85) 69 22 86) 69 26 87) 69 27 88) 69 35 89) 69 36 90) 69 37 91) 69 39 92) 69 40 93) 69 42 94) 69 43 95) 69 51 96) 69 52 97) (up (up (up (up (up (up (up (up (up (up (up (up (up (up (up (up (up (up (up (up (up (up (up (up (up (up (up (up (up (up (up (up (up (up (up (up (up (up (up σ 69 0 0) 69 1 0) 69 10 0) 69 11 (-1)) 69 12 0) 69 13 0) 69 14 0) 69 23 0) 69 24 0) 69 25 0) 86 0 99) 86 1 111) 86 2 117) 86 3 110) 86 4 116) 86 5 119) 86 6 97) 86 7 108) 86 8 107) 86 9 100) 86 10 97) 86 11 119) 86 12 110) 69 28 0) 69 29 0) 69 30 0) 69 31 0) 69 32 0) 69 33 0) 69 34 0) 69 38 0) 69 41 0) 69 44 0) 69 45 (-1)) 69 46 0) 69 47 0) 69 48 0) 69 49 0) 69 50 0) := Z_n hZ415
  refine g_putr (M := mX11_init) (pc := 423) (by rfl) fX11_53 kX11_172 dX11_init_423 (by first | exact Or.inl ⟨_, rfl⟩ | exact Or.inr ⟨_, rfl⟩) (Or.inr ⟨rfl, rfl, linkP kX11_172⟩) (kk := ?_)
  have hZ423 : Z 98 (upr (upr (upr (upr (upr (upr (upr (upr (upr (upr (upr (upr (upr (upr (upr (upr (upr (upr (upr (upr (upr (upr (upr (upr (upr (upr (upr (upr ρ 69 2 71) 69 3 72) 69 4 73) 69 5 74) 69 6 75) 69 7 76) 69 8 77) 69 9 78) 69 15 79) 69 16 80) 69 17 81) 69 18 82) 69 19 83) 69 20 84) 69 21 85) 69 22 86) 69 26 87) 69 27 88) 69 35 89) 69 36 90) 69 37 91) 69 39 92) 69 40 93) 69 42 94) 69 43 95) 69 51 96) 69 52 97) 69 53 98) (up (up (up (up (up (up (up (up (up (up (up (up (up (up (up (up (up (up (up (up (up (up (up (up (up (up (up (up (up (up (up (up (up (up (up (up (up (up (up σ 69 0 0) 69 1 0) 69 10 0) 69 11 (-1)) 69 12 0) 69 13 0) 69 14 0) 69 23 0) 69 24 0) 69 25 0) 86 0 99) 86 1 111) 86 2 117) 86 3 110) 86 4 116) 86 5 119) 86 6 97) 86 7 108) 86 8 107) 86 9 100) 86 10 97) 86 11 119) 86 12 110) 69 28 0) 69 29 0) 69 30 0) 69 31 0) 69 32 0) 69 33 0) 69 34 0) 69 38 0) 69 41 0) 69 44 0) 69 45 (-1)) 69 46 0) 69 47 0) 69 48 0) 69 49 0) 69 50 0) := Z_r hZ421 (by decide)
  refine g_aload_n (M := mX11_init) (pc := 426) dX11_init_426 rfl (k := ?_)
  refine g_bipush (M := mX11_init) (pc := 427) dX11_init_427 (k := ?_)
  refine g_newa (M := mX11_init) (pc := 429) (N := 6) rfl (Or.inl ⟨rfl, rfl⟩) (by omega) (Z_at hZ423) dX11_init_429 (Nat.le_of_ble_eq_true rfl) (Nat.le_of_ble_eq_true rfl) (kk := ?_)
  have hZ429 : Z 99 (upr (upr (upr (upr (upr (upr (upr (upr (upr (upr (upr (upr (upr (upr (upr (upr (upr (upr (upr (upr (upr (upr (upr (upr (upr (upr (upr (upr ρ 69 2 71) 69 3 72) 69 4 73) 69 5 74) 69 6 75) 69 7 76) 69 8 77) 69 9 78) 69 15 79) 69 16 80) 69 17 81) 69 18 82) 69 19 83) 69 20 84) 69 21 85) 69 22 86) 69 26 87) 69 27 88) 69 35 89) 69 36 90) 69 37 91) 69 39 92) 69 40 93) 69 42 94) 69 43 95) 69 51 96) 69 52 97) 69 53 98) (up (up (up (up (up (up (up (up (up (up (up (up (up (up (up (up (up (up (up (up (up (up (up (up (up (up (up (up (up (up (up (up (up (up (up (up (up (up (up σ 69 0 0) 69 1 0) 69 10 0) 69 11 (-1)) 69 12 0) 69 13 0) 69 14 0) 69 23 0) 69 24 0) 69 25 0) 86 0 99) 86 1 111) 86 2 117) 86 3 110) 86 4 116) 86 5 119) 86 6 97) 86 7 108) 86 8 107) 86 9 100) 86 10 97) 86 11 119) 86 12 110) 69 28 0) 69 29 0) 69 30 0) 69 31 0) 69 32 0) 69 33 0) 69 34 0) 69 38 0) 69 41 0) 69 44 0) 69 45 (-1)) 69 46 0) 69 47 0) 69 48 0) 69 49 0) 69 50 0) := Z_n hZ423
  refine g_putr (M := mX11_init) (pc := 431) (by rfl) fX11_54 kX11_175 dX11_init_431 (by first | exact Or.inl ⟨_, rfl⟩ | exact Or.inr ⟨_, rfl⟩) (Or.inr ⟨rfl, rfl, linkP kX11_175⟩) (kk := ?_)
  have hZ431 : Z 99 (upr (upr (upr (upr (upr (upr (upr (upr (upr (upr (upr (upr (upr (upr (upr (upr (upr (upr (upr (upr (upr (upr (upr (upr (upr (upr (upr (upr (upr ρ 69 2 71) 69 3 72) 69 4 73) 69 5 74) 69 6 75) 69 7 76) 69 8 77) 69 9 78) 69 15 79) 69 16 80) 69 17 81) 69 18 82) 69 19 83) 69 20 84) 69 21 85) 69 22 86) 69 26 87) 69 27 88) 69 35 89) 69 36 90) 69 37 91) 69 39 92) 69 40 93) 69 42 94) 69 43 95) 69 51 96) 69 52 97) 69 53 98) 69 54 99) (up (up (up (up (up (up (up (up (up (up (up (up (up (up (up (up (up (up (up (up (up (up (up (up (up (up (up (up (up (up (up (up (up (up (up (up (up (up (up σ 69 0 0) 69 1 0) 69 10 0) 69 11 (-1)) 69 12 0) 69 13 0) 69 14 0) 69 23 0) 69 24 0) 69 25 0) 86 0 99) 86 1 111) 86 2 117) 86 3 110) 86 4 116) 86 5 119) 86 6 97) 86 7 108) 86 8 107) 86 9 100) 86 10 97) 86 11 119) 86 12 110) 69 28 0) 69 29 0) 69 30 0) 69 31 0) 69 32 0) 69 33 0) 69 34 0) 69 38 0) 69 41 0) 69 44 0) 69 45 (-1)) 69 46 0) 69 47 0) 69 48 0) 69 49 0) 69 50 0) := Z_r hZ429 (by decide)
  refine g_aload_n (M := mX11_init) (pc := 434) dX11_init_434 rfl (k := ?_)
  refine g_bipush (M := mX11_init) (pc := 435) dX11_init_435 (k := ?_)
  refine g_newa (M := mX11_init) (pc := 437) (N := 24) rfl (Or.inl ⟨rfl, rfl⟩) (by omega) (Z_at hZ431) dX11_init_437 (Nat.le_of_ble_eq_true rfl) (Nat.le_of_ble_eq_true rfl) (kk := ?_)
  have hZ437 : Z 100 (upr (upr (upr (upr (upr (upr (upr (upr (upr (upr (upr (upr (upr (upr (upr (upr (upr (upr (upr (upr (upr (upr (upr (upr (upr (upr (upr (upr (upr ρ 69 2 71) 69 3 72) 69 4 73) 69 5 74) 69 6 75) 69 7 76) 69 8 77) 69 9 78) 69 15 79) 69 16 80) 69 17 81) 69 18 82) 69 19 83) 69 20 84) 69 21 85) 69 22 86) 69 26 87) 69 27 88) 69 35 89) 69 36 90) 69 37 91) 69 39 92) 69 40 93) 69 42 94) 69 43 95) 69 51 96) 69 52 97) 69 53 98) 69 54 99) (up (up (up (up (up (up (up (up (up (up (up (up (up (up (up (up (up (up (up (up (up (up (up (up (up (up (up (up (up (up (up (up (up (up (up (up (up (up (up σ 69 0 0) 69 1 0) 69 10 0) 69 11 (-1)) 69 12 0) 69 13 0) 69 14 0) 69 23 0) 69 24 0) 69 25 0) 86 0 99) 86 1 111) 86 2 117) 86 3 110) 86 4 116) 86 5 119) 86 6 97) 86 7 108) 86 8 107) 86 9 100) 86 10 97) 86 11 119) 86 12 110) 69 28 0) 69 29 0) 69 30 0) 69 31 0) 69 32 0) 69 33 0) 69 34 0) 69 38 0) 69 41 0) 69 44 0) 69 45 (-1)) 69 46 0) 69 47 0) 69 48 0) 69 49 0) 69 50 0) := Z_n hZ431
  refine g_putr (M := mX11_init) (pc := 439) (by rfl) fX11_55 kX11_178 dX11_init_439 (by first | exact Or.inl ⟨_, rfl⟩ | exact Or.inr ⟨_, rfl⟩) (Or.inr ⟨rfl, rfl, linkP kX11_178⟩) (kk := ?_)
  have hZ439 : Z 100 (upr (upr (upr (upr (upr (upr (upr (upr (upr (upr (upr (upr (upr (upr (upr (upr (upr (upr (upr (upr (upr (upr (upr (upr (upr (upr (upr (upr (upr (upr ρ 69 2 71) 69 3 72) 69 4 73) 69 5 74) 69 6 75) 69 7 76) 69 8 77) 69 9 78) 69 15 79) 69 16 80) 69 17 81) 69 18 82) 69 19 83) 69 20 84) 69 21 85) 69 22 86) 69 26 87) 69 27 88) 69 35 89) 69 36 90) 69 37 91) 69 39 92) 69 40 93) 69 42 94) 69 43 95) 69 51 96) 69 52 97) 69 53 98) 69 54 99) 69 55 100) (up (up (up (up (up (up (up (up (up (up (up (up (up (up (up (up (up (up (up (up (up (up (up (up (up (up (up (up (up (up (up (up (up (up (up (up (up (up (up σ 69 0 0) 69 1 0) 69 10 0) 69 11 (-1)) 69 12 0) 69 13 0) 69 14 0) 69 23 0) 69 24 0) 69 25 0) 86 0 99) 86 1 111) 86 2 117) 86 3 110) 86 4 116) 86 5 119) 86 6 97) 86 7 108) 86 8 107) 86 9 100) 86 10 97) 86 11 119) 86 12 110) 69 28 0) 69 29 0) 69 30 0) 69 31 0) 69 32 0) 69 33 0) 69 34 0) 69 38 0) 69 41 0) 69 44 0) 69 45 (-1)) 69 46 0) 69 47 0) 69 48 0) 69 49 0) 69 50 0) := Z_r hZ437 (by decide)
  refine g_aload_n (M := mX11_init) (pc := 442) dX11_init_442 rfl (k := ?_)
  refine g_iconst (M := mX11_init) (pc := 443) dX11_init_443 (k := ?_)
  refine g_newa (M := mX11_init) (pc := 444) (N := 4) rfl (Or.inl ⟨rfl, rfl⟩) (by omega) (Z_at hZ439) dX11_init_444 (Nat.le_of_ble_eq_true rfl) (Nat.le_of_ble_eq_true rfl) (kk := ?_)
  have hZ444 : Z 101 (upr (upr (upr (upr (upr (upr (upr (upr (upr (upr (upr (upr (upr (upr (upr (upr (upr (upr (upr (upr (upr (upr (upr (upr (upr (upr (upr (upr (upr (upr ρ 69 2 71) 69 3 72) 69 4 73) 69 5 74) 69 6 75) 69 7 76) 69 8 77) 69 9 78) 69 15 79) 69 16 80) 69 17 81) 69 18 82) 69 19 83) 69 20 84) 69 21 85) 69 22 86) 69 26 87) 69 27 88) 69 35 89) 69 36 90) 69 37 91) 69 39 92) 69 40 93) 69 42 94) 69 43 95) 69 51 96) 69 52 97) 69 53 98) 69 54 99) 69 55 100) (up (up (up (up (up (up (up (up (up (up (up (up (up (up (up (up (up (up (up (up (up (up (up (up (up (up (up (up (up (up (up (up (up (up (up (up (up (up (up σ 69 0 0) 69 1 0) 69 10 0) 69 11 (-1)) 69 12 0) 69 13 0) 69 14 0) 69 23 0) 69 24 0) 69 25 0) 86 0 99) 86 1 111) 86 2 117) 86 3 110) 86 4 116) 86 5 119) 86 6 97) 86 7 108) 86 8 107) 86 9 100) 86 10 97) 86 11 119) 86 12 110) 69 28 0) 69 29 0) 69 30 0) 69 31 0) 69 32 0) 69 33 0) 69 34 0) 69 38 0) 69 41 0) 69 44 0) 69 45 (-1)) 69 46 0) 69 47 0) 69 48 0) 69 49 0) 69 50 0) := Z_n hZ439
  refine g_putr (M := mX11_init) (pc := 446) (by rfl) fX11_56 kX11_181 dX11_init_446 (by first | exact Or.inl ⟨_, rfl⟩ | exact Or.inr ⟨_, rfl⟩) (Or.inr ⟨rfl, rfl, linkP kX11_181⟩) (kk := ?_)
  have hZ446 : Z 101 (upr (upr (upr (upr (upr (upr (upr (upr (upr (upr (upr (upr (upr (upr (upr (upr (upr (upr (upr (upr (upr (upr (upr (upr (upr (upr (upr (upr (upr (upr (upr ρ 69 2 71) 69 3 72) 69 4 73) 69 5 74) 69 6 75) 69 7 76) 69 8 77) 69 9 78) 69 15 79) 69 16 80) 69 17 81) 69 18 82) 69 19 83) 69 20 84) 69 21 85) 69 22 86) 69 26 87) 69 27 88) 69 35 89) 69 36 90) 69 37 91) 69 39 92) 69 40 93) 69 42 94) 69 43 95) 69 51 96) 69 52 97) 69 53 98) 69 54 99) 69 55 100) 69 56 101) (up (up (up (up (up (up (up (up (up (up (up (up (up (up (up (up (up (up (up (up (up (up (up (up (up (up (up (up (up (up (up (up (up (up (up (up (up (up (up σ 69 0 0) 69 1 0) 69 10 0) 69 11 (-1)) 69 12 0) 69 13 0) 69 14 0) 69 23 0) 69 24 0) 69 25 0) 86 0 99) 86 1 111) 86 2 117) 86 3 110) 86 4 116) 86 5 119) 86 6 97) 86 7 108) 86 8 107) 86 9 100) 86 10 97) 86 11 119) 86 12 110) 69 28 0) 69 29 0) 69 30 0) 69 31 0) 69 32 0) 69 33 0) 69 34 0) 69 38 0) 69 41 0) 69 44 0) 69 45 (-1)) 69 46 0) 69 47 0) 69 48 0) 69 49 0) 69 50 0) := Z_r hZ444 (by decide)
  refine g_aload_n (M := mX11_init) (pc := 449) dX11_init_449 rfl (k := ?_)
  refine g_iconst (M := mX11_init) (pc := 450) dX11_init_450 (k := ?_)
  refine g_newa (M := mX11_init) (pc := 451) (N := 4) rfl (Or.inl ⟨rfl, rfl⟩) (by omega) (Z_at hZ446) dX11_init_451 (Nat.le_of_ble_eq_true rfl) (Nat.le_of_ble_eq_true rfl) (kk := ?_)
  have hZ451 : Z 102 (upr (upr (upr (upr (upr (upr (upr (upr (upr (upr (upr (upr (upr (upr (upr (upr (upr (upr (upr (upr (upr (upr (upr (upr (upr (upr (upr (upr (upr (upr (upr ρ 69 2 71) 69 3 72) 69 4 73) 69 5 74) 69 6 75) 69 7 76) 69 8 77) 69 9 78) 69 15 79) 69 16 80) 69 17 81) 69 18 82) 69 19 83) 69 20 84) 69 21 85) 69 22 86) 69 26 87) 69 27 88) 69 35 89) 69 36 90) 69 37 91) 69 39 92) 69 40 93) 69 42 94) 69 43 95) 69 51 96) 69 52 97) 69 53 98) 69 54 99) 69 55 100) 69 56 101) (up (up (up (up (up (up (up (up (up (up (up (up (up (up (up (up (up (up (up (up (up (up (up (up (up (up (up (up (up (up (up (up (up (up (up (up (up (up (up σ 69 0 0) 69 1 0) 69 10 0) 69 11 (-1)) 69 12 0) 69 13 0) 69 14 0) 69 23 0) 69 24 0) 69 25 0) 86 0 99) 86 1 111) 86 2 117) 86 3 110) 86 4 116) 86 5 119) 86 6 97) 86 7 108) 86 8 107) 86 9 100) 86 10 97) 86 11 119) 86 12 110) 69 28 0) 69 29 0) 69 30 0) 69 31 0) 69 32 0) 69 33 0) 69 34 0) 69 38 0) 69 41 0) 69 44 0) 69 45 (-1)) 69 46 0) 69 47 0) 69 48 0) 69 49 0) 69 50 0) := Z_n hZ446
  refine g_putr (M := mX11_init) (pc := 453) (by rfl) fX11_57 kX11_184 dX11_init_453 (by first | exact Or.inl ⟨_, rfl⟩ | exact Or.inr ⟨_, rfl⟩) (Or.inr ⟨rfl, rfl, linkP kX11_184⟩) (kk := ?_)
  have hZ453 : Z 102 (upr (upr (upr (upr (upr (upr (upr (upr (upr (upr (upr (upr (upr (upr (upr (upr (upr (upr (upr (upr (upr (upr (upr (upr (upr (upr (upr (upr (upr (upr (upr (upr ρ 69 2 71) 69 3 72) 69 4 73) 69 5 74) 69 6 75) 69 7 76) 69 8 77) 69 9 78) 69 15 79) 69 16 80) 69 17 81) 69 18 82) 69 19 83) 69 20 84) 69 21 85) 69 22 86) 69 26 87) 69 27 88) 69 35 89) 69 36 90) 69 37 91) 69 39 92) 69 40 93) 69 42 94) 69 43 95) 69 51 96) 69 52 97) 69 53 98) 69 54 99) 69 55 100) 69 56 101) 69 57 102) (up (up (up (up (up (up (up (up (up (up (up (up (up (up (up (up (up (up (up (up (up (up (up (up (up (up (up (up (up (up (up (up (up (up (up (up (up (up (up σ 69 0 0) 69 1 0) 69 10 0) 69 11 (-1)) 69 12 0) 69 13 0) 69 14 0) 69 23 0) 69 24 0) 69 25 0) 86 0 99) 86 1 111) 86 2 117) 86 3 110) 86 4 116) 86 5 119) 86 6 97) 86 7 108) 86 8 107) 86 9 100) 86 10 97) 86 11 119) 86 12 110) 69 28 0) 69 29 0) 69 30 0) 69 31 0) 69 32 0) 69 33 0) 69 34 0) 69 38 0) 69 41 0) 69 44 0) 69 45 (-1)) 69 46 0) 69 47 0) 69 48 0) 69 49 0) 69 50 0) := Z_r hZ451 (by decide)
  refine g_aload_n (M := mX11_init) (pc := 456) dX11_init_456 rfl (k := ?_)
  refine g_iconst (M := mX11_init) (pc := 457) dX11_init_457 (k := ?_)
  refine g_newa (M := mX11_init) (pc := 458) (N := 4) rfl (Or.inl ⟨rfl, rfl⟩) (by omega) (Z_at hZ453) dX11_init_458 (Nat.le_of_ble_eq_true rfl) (Nat.le_of_ble_eq_true rfl) (kk := ?_)
  have hZ458 : Z 103 (upr (upr (upr (upr (upr (upr (upr (upr (upr (upr (upr (upr (upr (upr (upr (upr (upr (upr (upr (upr (upr (upr (upr (upr (upr (upr (upr (upr (upr (upr (upr (upr ρ 69 2 71) 69 3 72) 69 4 73) 69 5 74) 69 6 75) 69 7 76) 69 8 77) 69 9 78) 69 15 79) 69 16 80) 69 17 81) 69 18 82) 69 19 83) 69 20 84) 69 21 85) 69 22 86) 69 26 87) 69 27 88) 69 35 89) 69 36 90) 69 37 91) 69 39 92) 69 40 93) 69 42 94) 69 43 95) 69 51 96) 69 52 97) 69 53 98) 69 54 99) 69 55 100) 69 56 101) 69 57 102) (up (up (up (up (up (up (up (up (up (up (up (up (up (up (up (up (up (up (up (up (up (up (up (up (up (up (up (up (up (up (up (up (up (up (up (up (up (up (up σ 69 0 0) 69 1 0) 69 10 0) 69 11 (-1)) 69 12 0) 69 13 0) 69 14 0) 69 23 0) 69 24 0) 69 25 0) 86 0 99) 86 1 111) 86 2 117) 86 3 110) 86 4 116) 86 5 119) 86 6 97) 86 7 108) 86 8 107) 86 9 100) 86 10 97) 86 11 119) 86 12 110) 69 28 0) 69 29 0) 69 30 0) 69 31 0) 69 32 0) 69 33 0) 69 34 0) 69 38 0) 69 41 0) 69 44 0) 69 45 (-1)) 69 46 0) 69 47 0) 69 48 0) 69 49 0) 69 50 0) := Z_n hZ453
  refine g_putr (M := mX11_init) (pc := 460) (by rfl) fX11_58 kX11_187 dX11_init_460 (by first | exact Or.inl ⟨_, rfl⟩ | exact Or.inr ⟨_, rfl⟩) (Or.inr ⟨rfl, rfl, linkP kX11_187⟩) (kk := ?_)
  have hZ460 : Z 103 (upr (upr (upr (upr (upr (upr (upr (upr (upr (upr (upr (upr (upr (upr (upr (upr (upr (upr (upr (upr (upr (upr (upr (upr (upr (upr (upr (upr (upr (upr (upr (upr (upr ρ 69 2 71) 69 3 72) 69 4 73) 69 5 74) 69 6 75) 69 7 76) 69 8 77) 69 9 78) 69 15 79) 69 16 80) 69 17 81) 69 18 82) 69 19 83) 69 20 84) 69 21 85) 69 22 86) 69 26 87) 69 27 88) 69 35 89) 69 36 90) 69 37 91) 69 39 92) 69 40 93) 69 42 94) 69 43 95) 69 51 96) 69 52 97) 69 53 98) 69 54 99) 69 55 100) 69 56 101) 69 57 102) 69 58 103) (up (up (up (up (up (up (up (up (up (up (up (up (up (up (up (up (up (up (up (up (up (up (up (up (up (up (up (up (up (up (up (up (up (up (up (up (up (up (up σ 69 0 0) 69 1 0) 69 10 0) 69 11 (-1)) 69 12 0) 69 13 0) 69 14 0) 69 23 0) 69 24 0) 69 25 0) 86 0 99) 86 1 111) 86 2 117) 86 3 110) 86 4 116) 86 5 119) 86 6 97) 86 7 108) 86 8 107) 86 9 100) 86 10 97) 86 11 119) 86 12 110) 69 28 0) 69 29 0) 69 30 0) 69 31 0) 69 32 0) 69 33 0) 69 34 0) 69 38 0) 69 41 0) 69 44 0) 69 45 (-1)) 69 46 0) 69 47 0) 69 48 0) 69 49 0) 69 50 0) := Z_r hZ458 (by decide)
  refine g_aload_n (M := mX11_init) (pc := 463) dX11_init_463 rfl (k := ?_)
  refine g_bipush (M := mX11_init) (pc := 464) dX11_init_464 (k := ?_)
  refine g_newa (M := mX11_init) (pc := 466) (N := 8) rfl (Or.inl ⟨rfl, rfl⟩) (by omega) (Z_at hZ460) dX11_init_466 (Nat.le_of_ble_eq_true rfl) (Nat.le_of_ble_eq_true rfl) (kk := ?_)
  have hZ466 : Z 104 (upr (upr (upr (upr (upr (upr (upr (upr (upr (upr (upr (upr (upr (upr (upr (upr (upr (upr (upr (upr (upr (upr (upr (upr (upr (upr (upr (upr (upr (upr (upr (upr (upr ρ 69 2 71) 69 3 72) 69 4 73) 69 5 74) 69 6 75) 69 7 76) 69 8 77) 69 9 78) 69 15 79) 69 16 80) 69 17 81) 69 18 82) 69 19 83) 69 20 84) 69 21 85) 69 22 86) 69 26 87) 69 27 88) 69 35 89) 69 36 90) 69 37 91) 69 39 92) 69 40 93) 69 42 94) 69 43 95) 69 51 96) 69 52 97) 69 53 98) 69 54 99) 69 55 100) 69 56 101) 69 57 102) 69 58 103) (up (up (up (up (up (up (up (up (up (up (up (up (up (up (up (up (up (up (up (up (up (up (up (up (up (up (up (up (up (up (up (up (up (up (up (up (up (up (up σ 69 0 0) 69 1 0) 69 10 0) 69 11 (-1)) 69 12 0) 69 13 0) 69 14 0) 69 23 0) 69 24 0) 69 25 0) 86 0 99) 86 1 111) 86 2 117) 86 3 110) 86 4 116) 86 5 119) 86 6 97) 86 7 108) 86 8 107) 86 9 100) 86 10 97) 86 11 119) 86 12 110) 69 28 0) 69 29 0) 69 30 0) 69 31 0) 69 32 0) 69 33 0) 69 34 0) 69 38 0) 69 41 0) 69 44 0) 69 45 (-1)) 69 46 0) 69 47 0) 69 48 0) 69 49 0) 69 50 0) := Z_n hZ460
  refine g_putr (M := mX11_init) (pc := 468) (by rfl) fX11_59 kX11_190 dX11_init_468 (by first | exact Or.inl ⟨_, rfl⟩ | exact Or.inr ⟨_, rfl⟩) (Or.inr ⟨rfl, rfl, linkP kX11_190⟩) (kk := ?_)
  have hZ468 : Z 104 (upr (upr (upr (upr (upr (upr (upr (upr (upr (upr (upr (upr (upr (upr (upr (upr (upr (upr (upr (upr (upr (upr (upr (upr (upr (upr (upr (upr (upr (upr (upr (upr (upr (upr ρ 69 2 71) 69 3 72) 69 4 73) 69 5 74) 69 6 75) 69 7 76) 69 8 77) 69 9 78) 69 15 79) 69 16 80) 69 17 81) 69 18 82) 69 19 83) 69 20 84) 69 21 85) 69 22 86) 69 26 87) 69 27 88) 69 35 89) 69 36 90) 69 37 91) 69 39 92) 69 40 93) 69 42 94) 69 43 95) 69 51 96) 69 52 97) 69 53 98) 69 54 99) 69 55 100) 69 56 101) 69 57 102) 69 58 103) 69 59 104) (up (up (up (up (up (up (up (up (up (up (up (up (up (up (up (up (up (up (up (up (up (up (up (up (up (up (up (up (up (up (up (up (up (up (up (up (up (up (up σ 69 0 0) 69 1 0) 69 10 0) 69 11 (-1)) 69 12 0) 69 13 0) 69 14 0) 69 23 0) 69 24 0) 69 25 0) 86 0 99) 86 1 111) 86 2 117) 86 3 110) 86 4 116) 86 5 119) 86 6 97) 86 7 108) 86 8 107) 86 9 100) 86 10 97) 86 11 119) 86 12 110) 69 28 0) 69 29 0) 69 30 0) 69 31 0) 69 32 0) 69 33 0) 69 34 0) 69 38 0) 69 41 0) 69 44 0) 69 45 (-1)) 69 46 0) 69 47 0) 69 48 0) 69 49 0) 69 50 0) := Z_r hZ466 (by decide)
  refine g_aload_n (M := mX11_init) (pc := 471) dX11_init_471 rfl (k := ?_)
  refine g_bipush (M := mX11_init) (pc := 472) dX11_init_472 (k := ?_)
  refine g_newa (M := mX11_init) (pc := 474) (N := 8) rfl (Or.inl ⟨rfl, rfl⟩) (by omega) (Z_at hZ468) dX11_init_474 (Nat.le_of_ble_eq_true rfl) (Nat.le_of_ble_eq_true rfl) (kk := ?_)
  have hZ474 : Z 105 (upr (upr (upr (upr (upr (upr (upr (upr (upr (upr (upr (upr (upr (upr (upr (upr (upr (upr (upr (upr (upr (upr (upr (upr (upr (upr (upr (upr (upr (upr (upr (upr (upr (upr ρ 69 2 71) 69 3 72) 69 4 73) 69 5 74) 69 6 75) 69 7 76) 69 8 77) 69 9 78) 69 15 79) 69 16 80) 69 17 81) 69 18 82) 69 19 83) 69 20 84) 69 21 85) 69 22 86) 69 26 87) 69 27 88) 69 35 89) 69 36 90) 69 37 91) 69 39 92) 69 40 93) 69 42 94) 69 43 95) 69 51 96) 69 52 97) 69 53 98) 69 54 99) 69 55 100) 69 56 101) 69 57 102) 69 58 103) 69 59 104) (up (up (up (up (up (up (up (up (up (up (up (up (up (up (up (up (up (up (up (up (up (up (up (up (up (up (up (up (up (up (up (up (up (up (up (up (up (up (up σ 69 0 0) 69 1 0) 69 10 0) 69 11 (-1)) 69 12 0) 69 13 0) 69 14 0) 69 23 0) 69 24 0) 69 25 0) 86 0 99) 86 1 111) 86 2 117) 86 3 110) 86 4 116) 86 5 119) 86 6 97) 86 7 108) 86 8 107) 86 9 100) 86 10 97) 86 11 119) 86 12 110) 69 28 0) 69 29 0) 69 30 0) 69 31 0) 69 32 0) 69 33 0) 69 34 0) 69 38 0) 69 41 0) 69 44 0) 69 45 (-1)) 69 46 0) 69 47 0) 69 48 0) 69 49 0) 69 50 0) := Z_n hZ468
  refine g_putr (M := mX11_init) (pc := 476) (by rfl) fX11_60 kX11_193 dX11_init_476 (by first | exact Or.inl ⟨_, rfl⟩ | exact Or.inr ⟨_, rfl⟩) (Or.inr ⟨rfl, rfl, linkP kX11_193⟩) (kk := ?_)
  have hZ476 : Z 105 (upr (upr (upr (upr (upr (upr (upr (upr (upr (upr (upr (upr (upr (upr (upr (upr (upr (upr (upr (upr (upr (upr (upr (upr (upr (upr (upr (upr (upr (upr (upr (upr (upr (upr (upr ρ 69 2 71) 69 3 72) 69 4 73) 69 5 74) 69 6 75) 69 7 76) 69 8 77) 69 9 78) 69 15 79) 69 16 80) 69 17 81) 69 18 82) 69 19 83) 69 20 84) 69 21 85) 69 22 86) 69 26 87) 69 27 88) 69 35 89) 69 36 90) 69 37 91) 69 39 92) 69 40 93) 69 42 94) 69 43 95) 69 51 96) 69 52 97) 69 53 98) 69 54 99) 69 55 100) 69 56 101) 69 57 102) 69 58 103) 69 59 104) 69 60 105) (up (up (up (up (up (up (up (up (up (up (up (up (up (up (up (up (up (up (up (up (up (up (up (up (up (up (up (up (up (up (up (up (up (up (up (up (up (up (up σ 69 0 0) 69 1 0) 69 10 0) 69 11 (-1)) 69 12 0) 69 13 0) 69 14 0) 69 23 0) 69 24 0) 69 25 0) 86 0 99) 86 1 111) 86 2 117) 86 3 110) 86 4 116) 86 5 119) 86 6 97) 86 7 108) 86 8 107) 86 9 100) 86 10 97) 86 11 119) 86 12 110) 69 28 0) 69 29 0) 69 30 0) 69 31 0) 69 32 0) 69 33 0) 69 34 0) 69 38 0) 69 41 0) 69 44 0) 69 45 (-1)) 69 46 0) 69 47 0) 69 48 0) 69 49 0) 69 50 0) := Z_r hZ474 (by decide)
  refine g_aload_n (M := mX11_init) (pc := 479) dX11_init_479 rfl (k := ?_)
  refine g_bipush (M := mX11_init) (pc := 480) dX11_init_480 (k := ?_)
  refine g_newa (M := mX11_init) (pc := 482) (N := 12) rfl (Or.inl ⟨rfl, rfl⟩) (by omega) (Z_at hZ476) dX11_init_482 (Nat.le_of_ble_eq_true rfl) (Nat.le_of_ble_eq_true rfl) (kk := ?_)
  have hZ482 : Z 106 (upr (upr (upr (upr (upr (upr (upr (upr (upr (upr (upr (upr (upr (upr (upr (upr (upr (upr (upr (upr (upr (upr (upr (upr (upr (upr (upr (upr (upr (upr (upr (upr (upr (upr (upr ρ 69 2 71) 69 3 72) 69 4 73) 69 5 74) 69 6 75) 69 7 76) 69 8 77) 69 9 78) 69 15 79) 69 16 80) 69 17 81) 69 18 82) 69 19 83) 69 20 84) 69 21 85) 69 22 86) 69 26 87) 69 27 88) 69 35 89) 69 36 90) 69 37 91) 69 39 92) 69 40 93) 69 42 94) 69 43 95) 69 51 96) 69 52 97) 69 53 98) 69 54 99) 69 55 100) 69 56 101) 69 57 102) 69 58 103) 69 59 104) 69 60 105) (up (up (up (up (up (up (up (up (up (up (up (up (up (up (up (up (up (up (up (up (up (up (up (up (up (up (up (up (up (up (up (up (up (up (up (up (up (up (up σ 69 0 0) 69 1 0) 69 10 0) 69 11 (-1)) 69 12 0) 69 13 0) 69 14 0) 69 23 0) 69 24 0) 69 25 0) 86 0 99) 86 1 111) 86 2 117) 86 3 110) 86 4 116) 86 5 119) 86 6 97) 86 7 108) 86 8 107) 86 9 100) 86 10 97) 86 11 119) 86 12 110) 69 28 0) 69 29 0) 69 30 0) 69 31 0) 69 32 0) 69 33 0) 69 34 0) 69 38 0) 69 41 0) 69 44 0) 69 45 (-1)) 69 46 0) 69 47 0) 69 48 0) 69 49 0) 69 50 0) := Z_n hZ476
  refine g_putr (M := mX11_init) (pc := 484) (by rfl) fX11_61 kX11_196 dX11_init_484 (by first | exact Or.inl ⟨_, rfl⟩ | exact Or.inr ⟨_, rfl⟩) (Or.inr ⟨rfl, rfl, linkP kX11_196⟩) (kk := ?_)
  have hZ484 : Z 106 (upr (upr (upr (upr (upr (upr (upr (upr (upr (upr (upr (upr (upr (upr (upr (upr (upr (upr (upr (upr (upr (upr (upr (upr (upr (upr (upr (upr (upr (upr (upr (upr (upr (upr (upr (upr ρ 69 2 71) 69 3 72) 69 4 73) 69 5 74) 69 6 75) 69 7 76) 69 8 77) 69 9 78) 69 15 79) 69 16 80) 69 17 81) 69 18 82) 69 19 83) 69 20 84) 69 21 85) 69 22 86) 69 26 87) 69 27 88) 69 35 89) 69 36 90) 69 37 91) 69 39 92) 69 40 93) 69 42 94) 69 43 95) 69 51 96) 69 52 97) 69 53 98) 69 54 99) 69 55 100) 69 56 101) 69 57 102) 69 58 103) 69 59 104) 69 60 105) 69 61 106) (up (up (up (up (up (up (up (up (up (up (up (up (up (up (up (up (up (up (up (up (up (up (up (up (up (up (up (up (up (up (up (up (up (up (up (up (up (up (up σ 69 0 0) 69 1 0) 69 10 0) 69 11 (-1)) 69 12 0) 69 13 0) 69 14 0) 69 23 0) 69 24 0) 69 25 0) 86 0 99) 86 1 111) 86 2 117) 86 3 110) 86 4 116) 86 5 119) 86 6 97) 86 7 108) 86 8 107) 86 9 100) 86 10 97) 86 11 119) 86 12 110) 69 28 0) 69 29 0) 69 30 0) 69 31 0) 69 32 0) 69 33 0) 69 34 0) 69 38 0) 69 41 0) 69 44 0) 69 45 (-1)) 69 46 0) 69 47 0) 69 48 0) 69 49 0) 69 50 0) := Z_r hZ482 (by decide)
  refine g_aload_n (M := mX11_init) (pc := 487) dX11_init_487 rfl (k := ?_)
  refine g_bipush (M := mX11_init) (pc := 488) dX11_init_488 (k := ?_)
  refine g_newa (M := mX11_init) (pc := 490) (N := 12) rfl (Or.inl ⟨rfl, rfl⟩) (by omega) (Z_at hZ484) dX11_init_490 (Nat.le_of_ble_eq_true rfl) (Nat.le_of_ble_eq_true rfl) (kk := ?_)
  have hZ490 : Z 107 (upr (upr (upr (upr (upr (upr (upr (upr (upr (upr (upr (upr (upr (upr (upr (upr (upr (upr (upr (upr (upr (upr (upr (upr (upr (upr (upr (upr (upr (upr (upr (upr (upr (upr (upr (upr ρ 69 2 71) 69 3 72) 69 4 73) 69 5 74) 69 6 75) 69 7 76) 69 8 77) 69 9 78) 69 15 79) 69 16 80) 69 17 81) 69 18 82) 69 19 83) 69 20 84) 69 21 85) 69 22 86) 69 26 87) 69 27 88) 69 35 89) 69 36 90) 69 37 91) 69 39 92) 69 40 93) 69 42 94) 69 43 95) 69 51 96) 69 52 97) 69 53 98) 69 54 99) 69 55 100) 69 56 101) 69 57 102) 69 58 103) 69 59 104) 69 60 105) 69 61 106) (up (up (up (up (up (up (up (up (up (up (up (up (up (up (up (up (up (up (up (up (up (up (up (up (up (up (up (up (up (up (up (up (up (up (up (up (up (up (up σ 69 0 0) 69 1 0) 69 10 0) 69 11 (-1)) 69 12 0) 69 13 0) 69 14 0) 69 23 0) 69 24 0) 69 25 0) 86 0 99) 86 1 111) 86 2 117) 86 3 110) 86 4 116) 86 5 119) 86 6 97) 86 7 108) 86 8 107) 86 9 100) 86 10 97) 86 11 119) 86 12 110) 69 28 0) 69 29 0) 69 30 0) 69 31 0) 69 32 0) 69 33 0) 69 34 0) 69 38 0) 69 41 0) 69 44 0) 69 45 (-1)) 69 46 0) 69 47 0) 69 48 0) 69 49 0) 69 50 0) := Z_n hZ484
  refine g_putr (M := mX11_init) (pc := 492) (by rfl) fX11_62 kX11_199 dX11_init_492 (by first | exact Or.inl ⟨_, rfl⟩ | exact Or.inr ⟨_, rfl⟩) (Or.inr ⟨rfl, rfl, linkP kX11_199⟩) (kk := ?_)
  have hZ492 : Z 107 (upr (upr (upr (upr (upr (upr (upr (upr (upr (upr (upr (upr (upr (upr (upr (upr (upr (upr (upr (upr (upr (upr (upr (upr (upr (upr (upr (upr (upr (upr (upr (upr (upr (upr (upr (upr (upr ρ 69 2 71) 69 3 72) 69 4 73) 69 5 74) 69 6 75) 69 7 76) 69 8 77) 69 9 78) 69 15 79) 69 16 80) 69 17 81) 69 18 82) 69 19 83) 69 20 84) 69 21 85) 69 22 86) 69 26 87) 69 27 88) 69 35 89) 69 36 90) 69 37 91) 69 39 92) 69 40 93) 69 42 94) 69 43 95) 69 51 96) 69 52 97) 69 53 98) 69 54 99) 69 55 100) 69 56 101) 69 57 102) 69 58 103) 69 59 104) 69 60 105) 69 61 106) 69 62 107) (up (up (up (up (up (up (up (up (up (up (up (up (up (up (up (up (up (up (up (up (up (up (up (up (up (up (up (up (up (up (up (up (up (up (up (up (up (up (up σ 69 0 0) 69 1 0) 69 10 0) 69 11 (-1)) 69 12 0) 69 13 0) 69 14 0) 69 23 0) 69 24 0) 69 25 0) 86 0 99) 86 1 111) 86 2 117) 86 3 110) 86 4 116) 86 5 119) 86 6 97) 86 7 108) 86 8 107) 86 9 100) 86 10 97) 86 11 119) 86 12 110) 69 28 0) 69 29 0) 69 30 0) 69 31 0) 69 32 0) 69 33 0) 69 34 0) 69 38 0) 69 41 0) 69 44 0) 69 45 (-1)) 69 46 0) 69 47 0) 69 48 0) 69 49 0) 69 50 0) := Z_r hZ490 (by decide)
  refine g_aload_n (M := mX11_init) (pc := 495) dX11_init_495 rfl (k := ?_)
  refine g_bipush (M := mX11_init) (pc := 496) dX11_init_496 (k := ?_)
  refine g_newa (M := mX11_init) (pc := 498) (N := 8) rfl (Or.inr (Or.inr (Or.inl ⟨rfl, rfl⟩))) (by omega) (Z_at hZ492) dX11_init_498 (Nat.le_of_ble_eq_true rfl) (Nat.le_of_ble_eq_true rfl) (kk := ?_)
  have hZ498 : Z 108 (upr (upr (upr (upr (upr (upr (upr (upr (upr (upr (upr (upr (upr (upr (upr (upr (upr (upr (upr (upr (upr (upr (upr (upr (upr (upr (upr (upr (upr (upr (upr (upr (upr (upr (upr (upr (upr ρ 69 2 71) 69 3 72) 69 4 73) 69 5 74) 69 6 75) 69 7 76) 69 8 77) 69 9 78) 69 15 79) 69 16 80) 69 17 81) 69 18 82) 69 19 83) 69 20 84) 69 21 85) 69 22 86) 69 26 87) 69 27 88) 69 35 89) 69 36 90) 69 37 91) 69 39 92) 69 40 93) 69 42 94) 69 43 95) 69 51 96) 69 52 97) 69 53 98) 69 54 99) 69 55 100) 69 56 101) 69 57 102) 69 58 103) 69 59 104) 69 60 105) 69 61 106) 69 62 107) (up (up (up (up (up (up (up (up (up (up (up (up (up (up (up (up (up (up (up (up (up (up (up (up (up (up (up (up (up (up (up (up (up (up (up (up (up (up (up σ 69 0 0) 69 1 0) 69 10 0) 69 11 (-1)) 69 12 0) 69 13 0) 69 14 0) 69 23 0) 69 24 0) 69 25 0) 86 0 99) 86 1 111) 86 2 117) 86 3 110) 86 4 116) 86 5 119) 86 6 97) 86 7 108) 86 8 107) 86 9 100) 86 10 97) 86 11 119) 86 12 110) 69 28 0) 69 29 0) 69 30 0) 69 31 0) 69 32 0) 69 33 0) 69 34 0) 69 38 0) 69 41 0) 69 44 0) 69 45 (-1)) 69 46 0) 69 47 0) 69 48 0) 69 49 0) 69 50 0) := Z_n hZ492
  refine g_putr (M := mX11_init) (pc := 500) (by rfl) fX11_63 kX11_202 dX11_init_500 (by first | exact Or.inl ⟨_, rfl⟩ | exact Or.inr ⟨_, rfl⟩) (Or.inr ⟨rfl, rfl, linkP kX11_202⟩) (kk := ?_)
  have hZ500 : Z 108 (upr (upr (upr (upr (upr (upr (upr (upr (upr (upr (upr (upr (upr (upr (upr (upr (upr (upr (upr (upr (upr (upr (upr (upr (upr (upr (upr (upr (upr (upr (upr (upr (upr (upr (upr (upr (upr (upr ρ 69 2 71) 69 3 72) 69 4 73) 69 5 74) 69 6 75) 69 7 76) 69 8 77) 69 9 78) 69 15 79) 69 16 80) 69 17 81) 69 18 82) 69 19 83) 69 20 84) 69 21 85) 69 22 86) 69 26 87) 69 27 88) 69 35 89) 69 36 90) 69 37 91) 69 39 92) 69 40 93) 69 42 94) 69 43 95) 69 51 96) 69 52 97) 69 53 98) 69 54 99) 69 55 100) 69 56 101) 69 57 102) 69 58 103) 69 59 104) 69 60 105) 69 61 106) 69 62 107) 69 63 108) (up (up (up (up (up (up (up (up (up (up (up (up (up (up (up (up (up (up (up (up (up (up (up (up (up (up (up (up (up (up (up (up (up (up (up (up (up (up (up σ 69 0 0) 69 1 0) 69 10 0) 69 11 (-1)) 69 12 0) 69 13 0) 69 14 0) 69 23 0) 69 24 0) 69 25 0) 86 0 99) 86 1 111) 86 2 117) 86 3 110) 86 4 116) 86 5 119) 86 6 97) 86 7 108) 86 8 107) 86 9 100) 86 10 97) 86 11 119) 86 12 110) 69 28 0) 69 29 0) 69 30 0) 69 31 0) 69 32 0) 69 33 0) 69 34 0) 69 38 0) 69 41 0) 69 44 0) 69 45 (-1)) 69 46 0) 69 47 0) 69 48 0) 69 49 0) 69 50 0) := Z_r hZ498 (by decide)
  refine g_aload_n (M := mX11_init) (pc := 503) dX11_init_503 rfl (k := ?_)
  refine g_iconst (M := mX11_init) (pc := 504) dX11_init_504 (k := ?_)
  refine g_put (M := mX11_init) (pc := 505) (ji := 64) (by rfl) fX11_64 kX11_205 dX11_init_505 (by omega) (kk := ?_)
  have hZ505 : Z 108 (upr (upr (upr (upr (upr (upr (upr (upr (upr (upr (upr (upr (upr (upr (upr (upr (upr (upr (upr (upr (upr (upr (upr (upr (upr (upr (upr (upr (upr (upr (upr (upr (upr (upr (upr (upr (upr (upr ρ 69 2 71) 69 3 72) 69 4 73) 69 5 74) 69 6 75) 69 7 76) 69 8 77) 69 9 78) 69 15 79) 69 16 80) 69 17 81) 69 18 82) 69 19 83) 69 20 84) 69 21 85) 69 22 86) 69 26 87) 69 27 88) 69 35 89) 69 36 90) 69 37 91) 69 39 92) 69 40 93) 69 42 94) 69 43 95) 69 51 96) 69 52 97) 69 53 98) 69 54 99) 69 55 100) 69 56 101) 69 57 102) 69 58 103) 69 59 104) 69 60 105) 69 61 106) 69 62 107) 69 63 108) (up (up (up (up (up (up (up (up (up (up (up (up (up (up (up (up (up (up (up (up (up (up (up (up (up (up (up (up (up (up (up (up (up (up (up (up (up (up (up (up σ 69 0 0) 69 1 0) 69 10 0) 69 11 (-1)) 69 12 0) 69 13 0) 69 14 0) 69 23 0) 69 24 0) 69 25 0) 86 0 99) 86 1 111) 86 2 117) 86 3 110) 86 4 116) 86 5 119) 86 6 97) 86 7 108) 86 8 107) 86 9 100) 86 10 97) 86 11 119) 86 12 110) 69 28 0) 69 29 0) 69 30 0) 69 31 0) 69 32 0) 69 33 0) 69 34 0) 69 38 0) 69 41 0) 69 44 0) 69 45 (-1)) 69 46 0) 69 47 0) 69 48 0) 69 49 0) 69 50 0) 69 64 0) := Z_u hZ500 (by decide)
  refine g_aload_n (M := mX11_init) (pc := 508) dX11_init_508 rfl (k := ?_)
  refine g_bipush (M := mX11_init) (pc := 509) dX11_init_509 (k := ?_)
  refine g_newa (M := mX11_init) (pc := 511) (N := 20) rfl (Or.inl ⟨rfl, rfl⟩) (by omega) (Z_at hZ505) dX11_init_511 (Nat.le_of_ble_eq_true rfl) (Nat.le_of_ble_eq_true rfl) (kk := ?_)
  have hZ511 : Z 109 (upr (upr (upr (upr (upr (upr (upr (upr (upr (upr (upr (upr (upr (upr (upr (upr (upr (upr (upr (upr (upr (upr (upr (upr (upr (upr (upr (upr (upr (upr (upr (upr (upr (upr (upr (upr (upr (upr ρ 69 2 71) 69 3 72) 69 4 73) 69 5 74) 69 6 75) 69 7 76) 69 8 77) 69 9 78) 69 15 79) 69 16 80) 69 17 81) 69 18 82) 69 19 83) 69 20 84) 69 21 85) 69 22 86) 69 26 87) 69 27 88) 69 35 89) 69 36 90) 69 37 91) 69 39 92) 69 40 93) 69 42 94) 69 43 95) 69 51 96) 69 52 97) 69 53 98) 69 54 99) 69 55 100) 69 56 101) 69 57 102) 69 58 103) 69 59 104) 69 60 105) 69 61 106) 69 62 107) 69 63 108) (up (up (up (up (up (up (up (up (up (up (up (up (up (up (up (up (up (up (up (up (up (up (up (up (up (up (up (up (up (up (up (up (up (up (up (up (up (up (up (up σ 69 0 0) 69 1 0) 69 10 0) 69 11 (-1)) 69 12 0) 69 13 0) 69 14 0) 69 23 0) 69 24 0) 69 25 0) 86 0 99) 86 1 111) 86 2 117) 86 3 110) 86 4 116) 86 5 119) 86 6 97) 86 7 108) 86 8 107) 86 9 100) 86 10 97) 86 11 119) 86 12 110) 69 28 0) 69 29 0) 69 30 0) 69 31 0) 69 32 0) 69 33 0) 69 34 0) 69 38 0) 69 41 0) 69 44 0) 69 45 (-1)) 69 46 0) 69 47 0) 69 48 0) 69 49 0) 69 50 0) 69 64 0) := Z_n hZ505
  refine g_putr (M := mX11_init) (pc := 513) (by rfl) fX11_65 kX11_208 dX11_init_513 (by first | exact Or.inl ⟨_, rfl⟩ | exact Or.inr ⟨_, rfl⟩) (Or.inr ⟨rfl, rfl, linkP kX11_208⟩) (kk := ?_)
  have hZ513 : Z 109 (upr (upr (upr (upr (upr (upr (upr (upr (upr (upr (upr (upr (upr (upr (upr (upr (upr (upr (upr (upr (upr (upr (upr (upr (upr (upr (upr (upr (upr (upr (upr (upr (upr (upr (upr (upr (upr (upr (upr ρ 69 2 71) 69 3 72) 69 4 73) 69 5 74) 69 6 75) 69 7 76) 69 8 77) 69 9 78) 69 15 79) 69 16 80) 69 17 81) 69 18 82) 69 19 83) 69 20 84) 69 21 85) 69 22 86) 69 26 87) 69 27 88) 69 35 89) 69 36 90) 69 37 91) 69 39 92) 69 40 93) 69 42 94) 69 43 95) 69 51 96) 69 52 97) 69 53 98) 69 54 99) 69 55 100) 69 56 101) 69 57 102) 69 58 103) 69 59 104) 69 60 105) 69 61 106) 69 62 107) 69 63 108) 69 65 109) (up (up (up (up (up (up (up (up (up (up (up (up (up (up (up (up (up (up (up (up (up (up (up (up (up (up (up (up (up (up (up (up (up (up (up (up (up (up (up (up σ 69 0 0) 69 1 0) 69 10 0) 69 11 (-1)) 69 12 0) 69 13 0) 69 14 0) 69 23 0) 69 24 0) 69 25 0) 86 0 99) 86 1 111) 86 2 117) 86 3 110) 86 4 116) 86 5 119) 86 6 97) 86 7 108) 86 8 107) 86 9 100) 86 10 97) 86 11 119) 86 12 110) 69 28 0) 69 29 0) 69 30 0) 69 31 0) 69 32 0) 69 33 0) 69 34 0) 69 38 0) 69 41 0) 69 44 0) 69 45 (-1)) 69 46 0) 69 47 0) 69 48 0) 69 49 0) 69 50 0) 69 64 0) := Z_r hZ511 (by decide)
  refine g_aload_n (M := mX11_init) (pc := 516) dX11_init_516 rfl (k := ?_)
  refine g_bipush (M := mX11_init) (pc := 517) dX11_init_517 (k := ?_)
  refine g_newa (M := mX11_init) (pc := 519) (N := 6) rfl (Or.inl ⟨rfl, rfl⟩) (by omega) (Z_at hZ513) dX11_init_519 (Nat.le_of_ble_eq_true rfl) (Nat.le_of_ble_eq_true rfl) (kk := ?_)
  have hZ519 : Z 110 (upr (upr (upr (upr (upr (upr (upr (upr (upr (upr (upr (upr (upr (upr (upr (upr (upr (upr (upr (upr (upr (upr (upr (upr (upr (upr (upr (upr (upr (upr (upr (upr (upr (upr (upr (upr (upr (upr (upr ρ 69 2 71) 69 3 72) 69 4 73) 69 5 74) 69 6 75) 69 7 76) 69 8 77) 69 9 78) 69 15 79) 69 16 80) 69 17 81) 69 18 82) 69 19 83) 69 20 84) 69 21 85) 69 22 86) 69 26 87) 69 27 88) 69 35 89) 69 36 90) 69 37 91) 69 39 92) 69 40 93) 69 42 94) 69 43 95) 69 51 96) 69 52 97) 69 53 98) 69 54 99) 69 55 100) 69 56 101) 69 57 102) 69 58 103) 69 59 104) 69 60 105) 69 61 106) 69 62 107) 69 63 108) 69 65 109) (up (up (up (up (up (up (up (up (up (up (up (up (up (up (up (up (up (up (up (up (up (up (up (up (up (up (up (up (up (up (up (up (up (up (up (up (up (up (up (up σ 69 0 0) 69 1 0) 69 10 0) 69 11 (-1)) 69 12 0) 69 13 0) 69 14 0) 69 23 0) 69 24 0) 69 25 0) 86 0 99) 86 1 111) 86 2 117) 86 3 110) 86 4 116) 86 5 119) 86 6 97) 86 7 108) 86 8 107) 86 9 100) 86 10 97) 86 11 119) 86 12 110) 69 28 0) 69 29 0) 69 30 0) 69 31 0) 69 32 0) 69 33 0) 69 34 0) 69 38 0) 69 41 0) 69 44 0) 69 45 (-1)) 69 46 0) 69 47 0) 69 48 0) 69 49 0) 69 50 0) 69 64 0) := Z_n hZ513
  refine g_dupR (M := mX11_init) (pc := 521) dX11_init_521 (k := ?_)
  refine g_iconst (M := mX11_init) (pc := 522) dX11_init_522 (k := ?_)
  refine g_iconst (M := mX11_init) (pc := 523) dX11_init_523 (k := ?_)
  refine g_iast (M := mX11_init) (pc := 524) (by rfl) (by omega) (by omega) (by omega) dX11_init_524 (kk := ?_)
  have hZ524 : Z 110 (upr (upr (upr (upr (upr (upr (upr (upr (upr (upr (upr (upr (upr (upr (upr (upr (upr (upr (upr (upr (upr (upr (upr (upr (upr (upr (upr (upr (upr (upr (upr (upr (upr (upr (upr (upr (upr (upr (upr ρ 69 2 71) 69 3 72) 69 4 73) 69 5 74) 69 6 75) 69 7 76) 69 8 77) 69 9 78) 69 15 79) 69 16 80) 69 17 81) 69 18 82) 69 19 83) 69 20 84) 69 21 85) 69 22 86) 69 26 87) 69 27 88) 69 35 89) 69 36 90) 69 37 91) 69 39 92) 69 40 93) 69 42 94) 69 43 95) 69 51 96) 69 52 97) 69 53 98) 69 54 99) 69 55 100) 69 56 101) 69 57 102) 69 58 103) 69 59 104) 69 60 105) 69 61 106) 69 62 107) 69 63 108) 69 65 109) (up (up (up (up (up (up (up (up (up (up (up (up (up (up (up (up (up (up (up (up (up (up (up (up (up (up (up (up (up (up (up (up (up (up (up (up (up (up (up (up (up σ 69 0 0) 69 1 0) 69 10 0) 69 11 (-1)) 69 12 0) 69 13 0) 69 14 0) 69 23 0) 69 24 0) 69 25 0) 86 0 99) 86 1 111) 86 2 117) 86 3 110) 86 4 116) 86 5 119) 86 6 97) 86 7 108) 86 8 107) 86 9 100) 86 10 97) 86 11 119) 86 12 110) 69 28 0) 69 29 0) 69 30 0) 69 31 0) 69 32 0) 69 33 0) 69 34 0) 69 38 0) 69 41 0) 69 44 0) 69 45 (-1)) 69 46 0) 69 47 0) 69 48 0) 69 49 0) 69 50 0) 69 64 0) 109 0 (-1)) := Z_u hZ519 (by decide)
  refine g_dupR (M := mX11_init) (pc := 525) dX11_init_525 (k := ?_)
  refine g_iconst (M := mX11_init) (pc := 526) dX11_init_526 (k := ?_)
  refine g_iconst (M := mX11_init) (pc := 527) dX11_init_527 (k := ?_)
  refine g_iast (M := mX11_init) (pc := 528) (by rfl) (by omega) (by omega) (by omega) dX11_init_528 (kk := ?_)
  have hZ528 : Z 110 (upr (upr (upr (upr (upr (upr (upr (upr (upr (upr (upr (upr (upr (upr (upr (upr (upr (upr (upr (upr (upr (upr (upr (upr (upr (upr (upr (upr (upr (upr (upr (upr (upr (upr (upr (upr (upr (upr (upr ρ 69 2 71) 69 3 72) 69 4 73) 69 5 74) 69 6 75) 69 7 76) 69 8 77) 69 9 78) 69 15 79) 69 16 80) 69 17 81) 69 18 82) 69 19 83) 69 20 84) 69 21 85) 69 22 86) 69 26 87) 69 27 88) 69 35 89) 69 36 90) 69 37 91) 69 39 92) 69 40 93) 69 42 94) 69 43 95) 69 51 96) 69 52 97) 69 53 98) 69 54 99) 69 55 100) 69 56 101) 69 57 102) 69 58 103) 69 59 104) 69 60 105) 69 61 106) 69 62 107) 69 63 108) 69 65 109) (up (up (up (up (up (up (up (up (up (up (up (up (up (up (up (up (up (up (up (up (up (up (up (up (up (up (up (up (up (up (up (up (up (up (up (up (up (up (up (up (up (up σ 69 0 0) 69 1 0) 69 10 0) 69 11 (-1)) 69 12 0) 69 13 0) 69 14 0) 69 23 0) 69 24 0) 69 25 0) 86 0 99) 86 1 111) 86 2 117) 86 3 110) 86 4 116) 86 5 119) 86 6 97) 86 7 108) 86 8 107) 86 9 100) 86 10 97) 86 11 119) 86 12 110) 69 28 0) 69 29 0) 69 30 0) 69 31 0) 69 32 0) 69 33 0) 69 34 0) 69 38 0) 69 41 0) 69 44 0) 69 45 (-1)) 69 46 0) 69 47 0) 69 48 0) 69 49 0) 69 50 0) 69 64 0) 109 0 (-1)) 109 1 (-1)) := Z_u hZ524 (by decide)
  refine g_dupR (M := mX11_init) (pc := 529) dX11_init_529 (k := ?_)
  refine g_iconst (M := mX11_init) (pc := 530) dX11_init_530 (k := ?_)
  refine g_iconst (M := mX11_init) (pc := 531) dX11_init_531 (k := ?_)
  refine g_iast (M := mX11_init) (pc := 532) (by rfl) (by omega) (by omega) (by omega) dX11_init_532 (kk := ?_)
  have hZ532 : Z 110 (upr (upr (upr (upr (upr (upr (upr (upr (upr (upr (upr (upr (upr (upr (upr (upr (upr (upr (upr (upr (upr (upr (upr (upr (upr (upr (upr (upr (upr (upr (upr (upr (upr (upr (upr (upr (upr (upr (upr ρ 69 2 71) 69 3 72) 69 4 73) 69 5 74) 69 6 75) 69 7 76) 69 8 77) 69 9 78) 69 15 79) 69 16 80) 69 17 81) 69 18 82) 69 19 83) 69 20 84) 69 21 85) 69 22 86) 69 26 87) 69 27 88) 69 35 89) 69 36 90) 69 37 91) 69 39 92) 69 40 93) 69 42 94) 69 43 95) 69 51 96) 69 52 97) 69 53 98) 69 54 99) 69 55 100) 69 56 101) 69 57 102) 69 58 103) 69 59 104) 69 60 105) 69 61 106) 69 62 107) 69 63 108) 69 65 109) (up (up (up (up (up (up (up (up (up (up (up (up (up (up (up (up (up (up (up (up (up (up (up (up (up (up (up (up (up (up (up (up (up (up (up (up (up (up (up (up (up (up (up σ 69 0 0) 69 1 0) 69 10 0) 69 11 (-1)) 69 12 0) 69 13 0) 69 14 0) 69 23 0) 69 24 0) 69 25 0) 86 0 99) 86 1 111) 86 2 117) 86 3 110) 86 4 116) 86 5 119) 86 6 97) 86 7 108) 86 8 107) 86 9 100) 86 10 97) 86 11 119) 86 12 110) 69 28 0) 69 29 0) 69 30 0) 69 31 0) 69 32 0) 69 33 0) 69 34 0) 69 38 0) 69 41 0) 69 44 0) 69 45 (-1)) 69 46 0) 69 47 0) 69 48 0) 69 49 0) 69 50 0) 69 64 0) 109 0 (-1)) 109 1 (-1)) 109 2 (-1)) := Z_u hZ528 (by decide)
  refine g_dupR (M := mX11_init) (pc := 533) dX11_init_533 (k := ?_)
  refine g_iconst (M := mX11_init) (pc := 534) dX11_init_534 (k := ?_)
  refine g_iconst (M := mX11_init) (pc := 535) dX11_init_535 (k := ?_)
  refine g_iast (M := mX11_init) (pc := 536) (by rfl) (by omega) (by omega) (by omega) dX11_init_536 (kk := ?_)
  have hZ536 : Z 110 (upr (upr (upr (upr (upr (upr (upr (upr (upr (upr (upr (upr (upr (upr (upr (upr (upr (upr (upr (upr (upr (upr (upr (upr (upr (upr (upr (upr (upr (upr (upr (upr (upr (upr (upr (upr (upr (upr (upr ρ 69 2 71) 69 3 72) 69 4 73) 69 5 74) 69 6 75) 69 7 76) 69 8 77) 69 9 78) 69 15 79) 69 16 80) 69 17 81) 69 18 82) 69 19 83) 69 20 84) 69 21 85) 69 22 86) 69 26 87) 69 27 88) 69 35 89) 69 36 90) 69 37 91) 69 39 92) 69 40 93) 69 42 94) 69 43 95) 69 51 96) 69 52 97) 69 53 98) 69 54 99) 69 55 100) 69 56 101) 69 57 102) 69 58 103) 69 59 104) 69 60 105) 69 61 106) 69 62 107) 69 63 108) 69 65 109) (up (up (up (up (up (up (up (up (up (up (up (up (up (up (up (up (up (up (up (up (up (up (up (up (up (up (up (up (up (up (up (up (up (up (up (up (up (up (up (up (up (up (up (up σ 69 0 0) 69 1 0) 69 10 0) 69 11 (-1)) 69 12 0) 69 13 0) 69 14 0) 69 23 0) 69 24 0) 69 25 0) 86 0 99) 86 1 111) 86 2 117) 86 3 110) 86 4 116) 86 5 119) 86 6 97) 86 7 108) 86 8 107) 86 9 100) 86 10 97) 86 11 119) 86 12 110) 69 28 0) 69 29 0) 69 30 0) 69 31 0) 69 32 0) 69 33 0) 69 34 0) 69 38 0) 69 41 0) 69 44 0) 69 45 (-1)) 69 46 0) 69 47 0) 69 48 0) 69 49 0) 69 50 0) 69 64 0) 109 0 (-1)) 109 1 (-1)) 109 2 (-1)) 109 3 (-1)) := Z_u hZ532 (by decide)
  refine g_dupR (M := mX11_init) (pc := 537) dX11_init_537 (k := ?_)
  refine g_iconst (M := mX11_init) (pc := 538) dX11_init_538 (k := ?_)
  refine g_iconst (M := mX11_init) (pc := 539) dX11_init_539 (k := ?_)
  refine g_iast (M := mX11_init) (pc := 540) (by rfl) (by omega) (by omega) (by omega) dX11_init_540 (kk := ?_)
  have hZ540 : Z 110 (upr (upr (upr (upr (upr (upr (upr (upr (upr (upr (upr (upr (upr (upr (upr (upr (upr (upr (upr (upr (upr (upr (upr (upr (upr (upr (upr (upr (upr (upr (upr (upr (upr (upr (upr (upr (upr (upr (upr ρ 69 2 71) 69 3 72) 69 4 73) 69 5 74) 69 6 75) 69 7 76) 69 8 77) 69 9 78) 69 15 79) 69 16 80) 69 17 81) 69 18 82) 69 19 83) 69 20 84) 69 21 85) 69 22 86) 69 26 87) 69 27 88) 69 35 89) 69 36 90) 69 37 91) 69 39 92) 69 40 93) 69 42 94) 69 43 95) 69 51 96) 69 52 97) 69 53 98) 69 54 99) 69 55 100) 69 56 101) 69 57 102) 69 58 103) 69 59 104) 69 60 105) 69 61 106) 69 62 107) 69 63 108) 69 65 109) (up (up (up (up (up (up (up (up (up (up (up (up (up (up (up (up (up (up (up (up (up (up (up (up (up (up (up (up (up (up (up (up (up (up (up (up (up (up (up (up (up (up (up (up (up σ 69 0 0) 69 1 0) 69 10 0) 69 11 (-1)) 69 12 0) 69 13 0) 69 14 0) 69 23 0) 69 24 0) 69 25 0) 86 0 99) 86 1 111) 86 2 117) 86 3 110) 86 4 116) 86 5 119) 86 6 97) 86 7 108) 86 8 107) 86 9 100) 86 10 97) 86 11 119) 86 12 110) 69 28 0) 69 29 0) 69 30 0) 69 31 0) 69 32 0) 69 33 0) 69 34 0) 69 38 0) 69 41 0) 69 44 0) 69 45 (-1)) 69 46 0) 69 47 0) 69 48 0) 69 49 0) 69 50 0) 69 64 0) 109 0 (-1)) 109 1 (-1)) 109 2 (-1)) 109 3 (-1)) 109 4 (-1)) := Z_u hZ536 (by decide)
  refine g_dupR (M := mX11_init) (pc := 541) dX11_init_541 (k := ?_)
  refine g_iconst (M := mX11_init) (pc := 542) dX11_init_542 (k := ?_)
  refine g_iconst (M := mX11_init) (pc := 543) dX11_init_543 (k := ?_)
  refine g_iast (M := mX11_init) (pc := 544) (by rfl) (by omega) (by omega) (by omega) dX11_init_544 (kk := ?_)
  have hZ544 : Z 110 (upr (upr (upr (upr (upr (upr (upr (upr (upr (upr (upr (upr (upr (upr (upr (upr (upr (upr (upr (upr (upr (upr (upr (upr (upr (upr (upr (upr (upr (upr (upr (upr (upr (upr (upr (upr (upr (upr (upr ρ 69 2 71) 69 3 72) 69 4 73) 69 5 74) 69 6 75) 69 7 76) 69 8 77) 69 9 78) 69 15 79) 69 16 80) 69 17 81) 69 18 82) 69 19 83) 69 20 84) 69 21 85) 69 22 86) 69 26 87) 69 27 88) 69 35 89) 69 36 90) 69 37 91) 69 39 92) 69 40 93) 69 42 94) 69 43 95) 69 51 96) 69 52 97) 69 53 98) 69 54 99) 69 55 100) 69 56 101) 69 57 102) 69 58 103) 69 59 104) 69 60 105) 69 61 106) 69 62 107) 69 63 108) 69 65 109) (up (up (up (up (up (up (up (up (up (up (up (up (up (up (up (up (up (up (up (up (up (up (up (up (up (up (up (up (up (up (up (up (up (up (up (up (up (up (up (up (up (up (up (up (up (up σ 69 0 0) 69 1 0) 69 10 0) 69 11 (-1)) 69 12 0) 69 13 0) 69 14 0) 69 23 0) 69 24 0) 69 25 0) 86 0 99) 86 1 111) 86 2 117) 86 3 110) 86 4 116) 86 5 119) 86 6 97) 86 7 108) 86 8 107) 86 9 100) 86 10 97) 86 11 119) 86 12 110) 69 28 0) 69 29 0) 69 30 0) 69 31 0) 69 32 0) 69 33 0) 69 34 0) 69 38 0) 69 41 0) 69 44 0) 69 45 (-1)) 69 46 0) 69 47 0) 69 48 0) 69 49 0) 69 50 0) 69 64 0) 109 0 (-1)) 109 1 (-1)) 109 2 (-1)) 109 3 (-1)) 109 4 (-1)) 109 5 (-1)) := Z_u hZ540 (by decide)
  refine g_putr (M := mX11_init) (pc := 545) (by rfl) fX11_66 kX11_211 dX11_init_545 (by first | exact Or.inl ⟨_, rfl⟩ | exact Or.inr ⟨_, rfl⟩) (Or.inr ⟨rfl, rfl, linkP kX11_211⟩) (kk := ?_)
  have hZ545 : Z 110 (upr (upr (upr (upr (upr (upr (upr (upr (upr (upr (upr (upr (upr (upr (upr (upr (upr (upr (upr (upr (upr (upr (upr (upr (upr (upr (upr (upr (upr (upr (upr (upr (upr (upr (upr (upr (upr (upr (upr (upr ρ 69 2 71) 69 3 72) 69 4 73) 69 5 74) 69 6 75) 69 7 76) 69 8 77) 69 9 78) 69 15 79) 69 16 80) 69 17 81) 69 18 82) 69 19 83) 69 20 84) 69 21 85) 69 22 86) 69 26 87) 69 27 88) 69 35 89) 69 36 90) 69 37 91) 69 39 92) 69 40 93) 69 42 94) 69 43 95) 69 51 96) 69 52 97) 69 53 98) 69 54 99) 69 55 100) 69 56 101) 69 57 102) 69 58 103) 69 59 104) 69 60 105) 69 61 106) 69 62 107) 69 63 108) 69 65 109) 69 66 110) (up (up (up (up (up (up (up (up (up (up (up (up (up (up (up (up (up (up (up (up (up (up (up (up (up (up (up (up (up (up (up (up (up (up (up (up (up (up (up (up (up (up (up (up (up (up σ 69 0 0) 69 1 0) 69 10 0) 69 11 (-1)) 69 12 0) 69 13 0) 69 14 0) 69 23 0) 69 24 0) 69 25 0) 86 0 99) 86 1 111) 86 2 117) 86 3 110) 86 4 116) 86 5 119) 86 6 97) 86 7 108) 86 8 107) 86 9 100) 86 10 97) 86 11 119) 86 12 110) 69 28 0) 69 29 0) 69 30 0) 69 31 0) 69 32 0) 69 33 0) 69 34 0) 69 38 0) 69 41 0) 69 44 0) 69 45 (-1)) 69 46 0) 69 47 0) 69 48 0) 69 49 0) 69 50 0) 69 64 0) 109 0 (-1)) 109 1 (-1)) 109 2 (-1)) 109 3 (-1)) 109 4 (-1)) 109 5 (-1)) := Z_r hZ544 (by decide)
  refine g_aload_n (M := mX11_init) (pc := 548) dX11_init_548 rfl (k := ?_)
  refine g_bipush (M := mX11_init) (pc := 549) dX11_init_549 (k := ?_)
  refine g_newa (M := mX11_init) (pc := 551) (N := 6) rfl (Or.inl ⟨rfl, rfl⟩) (by omega) (Z_at hZ545) dX11_init_551 (Nat.le_of_ble_eq_true rfl) (Nat.le_of_ble_eq_true rfl) (kk := ?_)
  have hZ551 : Z 111 (upr (upr (upr (upr (upr (upr (upr (upr (upr (upr (upr (upr (upr (upr (upr (upr (upr (upr (upr (upr (upr (upr (upr (upr (upr (upr (upr (upr (upr (upr (upr (upr (upr (upr (upr (upr (upr (upr (upr (upr ρ 69 2 71) 69 3 72) 69 4 73) 69 5 74) 69 6 75) 69 7 76) 69 8 77) 69 9 78) 69 15 79) 69 16 80) 69 17 81) 69 18 82) 69 19 83) 69 20 84) 69 21 85) 69 22 86) 69 26 87) 69 27 88) 69 35 89) 69 36 90) 69 37 91) 69 39 92) 69 40 93) 69 42 94) 69 43 95) 69 51 96) 69 52 97) 69 53 98) 69 54 99) 69 55 100) 69 56 101) 69 57 102) 69 58 103) 69 59 104) 69 60 105) 69 61 106) 69 62 107) 69 63 108) 69 65 109) 69 66 110) (up (up (up (up (up (up (up (up (up (up (up (up (up (up (up (up (up (up (up (up (up (up (up (up (up (up (up (up (up (up (up (up (up (up (up (up (up (up (up (up (up (up (up (up (up (up σ 69 0 0) 69 1 0) 69 10 0) 69 11 (-1)) 69 12 0) 69 13 0) 69 14 0) 69 23 0) 69 24 0) 69 25 0) 86 0 99) 86 1 111) 86 2 117) 86 3 110) 86 4 116) 86 5 119) 86 6 97) 86 7 108) 86 8 107) 86 9 100) 86 10 97) 86 11 119) 86 12 110) 69 28 0) 69 29 0) 69 30 0) 69 31 0) 69 32 0) 69 33 0) 69 34 0) 69 38 0) 69 41 0) 69 44 0) 69 45 (-1)) 69 46 0) 69 47 0) 69 48 0) 69 49 0) 69 50 0) 69 64 0) 109 0 (-1)) 109 1 (-1)) 109 2 (-1)) 109 3 (-1)) 109 4 (-1)) 109 5 (-1)) := Z_n hZ545
  refine g_putr (M := mX11_init) (pc := 553) (by rfl) fX11_67 kX11_214 dX11_init_553 (by first | exact Or.inl ⟨_, rfl⟩ | exact Or.inr ⟨_, rfl⟩) (Or.inr ⟨rfl, rfl, linkP kX11_214⟩) (kk := ?_)
  have hZ553 : Z 111 (upr (upr (upr (upr (upr (upr (upr (upr (upr (upr (upr (upr (upr (upr (upr (upr (upr (upr (upr (upr (upr (upr (upr (upr (upr (upr (upr (upr (upr (upr (upr (upr (upr (upr (upr (upr (upr (upr (upr (upr (upr ρ 69 2 71) 69 3 72) 69 4 73) 69 5 74) 69 6 75) 69 7 76) 69 8 77) 69 9 78) 69 15 79) 69 16 80) 69 17 81) 69 18 82) 69 19 83) 69 20 84) 69 21 85) 69 22 86) 69 26 87) 69 27 88) 69 35 89) 69 36 90) 69 37 91) 69 39 92) 69 40 93) 69 42 94) 69 43 95) 69 51 96) 69 52 97) 69 53 98) 69 54 99) 69 55 100) 69 56 101) 69 57 102) 69 58 103) 69 59 104) 69 60 105) 69 61 106) 69 62 107) 69 63 108) 69 65 109) 69 66 110) 69 67 111) (up (up (up (up (up (up (up (up (up (up (up (up (up (up (up (up (up (up (up (up (up (up (up (up (up (up (up (up (up (up (up (up (up (up (up (up (up (up (up (up (up (up (up (up (up (up σ 69 0 0) 69 1 0) 69 10 0) 69 11 (-1)) 69 12 0) 69 13 0) 69 14 0) 69 23 0) 69 24 0) 69 25 0) 86 0 99) 86 1 111) 86 2 117) 86 3 110) 86 4 116) 86 5 119) 86 6 97) 86 7 108) 86 8 107) 86 9 100) 86 10 97) 86 11 119) 86 12 110) 69 28 0) 69 29 0) 69 30 0) 69 31 0) 69 32 0) 69 33 0) 69 34 0) 69 38 0) 69 41 0) 69 44 0) 69 45 (-1)) 69 46 0) 69 47 0) 69 48 0) 69 49 0) 69 50 0) 69 64 0) 109 0 (-1)) 109 1 (-1)) 109 2 (-1)) 109 3 (-1)) 109 4 (-1)) 109 5 (-1)) := Z_r hZ551 (by decide)
  refine g_aload_n (M := mX11_init) (pc := 556) dX11_init_556 rfl (k := ?_)
  refine g_sipush (M := mX11_init) (pc := 557) dX11_init_557 (k := ?_)
  refine g_newa (M := mX11_init) (pc := 560) (N := 360) rfl (Or.inr (Or.inl ⟨rfl, rfl⟩)) (by omega) (Z_at hZ553) dX11_init_560 (Nat.le_of_ble_eq_true rfl) (Nat.le_of_ble_eq_true rfl) (kk := ?_)
  have hZ560 : Z 112 (upr (upr (upr (upr (upr (upr (upr (upr (upr (upr (upr (upr (upr (upr (upr (upr (upr (upr (upr (upr (upr (upr (upr (upr (upr (upr (upr (upr (upr (upr (upr (upr (upr (upr (upr (upr (upr (upr (upr (upr (upr ρ 69 2 71) 69 3 72) 69 4 73) 69 5 74) 69 6 75) 69 7 76) 69 8 77) 69 9 78) 69 15 79) 69 16 80) 69 17 81) 69 18 82) 69 19 83) 69 20 84) 69 21 85) 69 22 86) 69 26 87) 69 27 88) 69 35 89) 69 36 90) 69 37 91) 69 39 92) 69 40 93) 69 42 94) 69 43 95) 69 51 96) 69 52 97) 69 53 98) 69 54 99) 69 55 100) 69 56 101) 69 57 102) 69 58 103) 69 59 104) 69 60 105) 69 61 106) 69 62 107) 69 63 108) 69 65 109) 69 66 110) 69 67 111) (up (up (up (up (up (up (up (up (up (up (up (up (up (up (up (up (up (up (up (up (up (up (up (up (up (up (up (up (up (up (up (up (up (up (up (up (up (up (up (up (up (up (up (up (up (up σ 69 0 0) 69 1 0) 69 10 0) 69 11 (-1)) 69 12 0) 69 13 0) 69 14 0) 69 23 0) 69 24 0) 69 25 0) 86 0 99) 86 1 111) 86 2 117) 86 3 110) 86 4 116) 86 5 119) 86 6 97) 86 7 108) 86 8 107) 86 9 100) 86 10 97) 86 11 119) 86 12 110) 69 28 0) 69 29 0) 69 30 0) 69 31 0) 69 32 0) 69 33 0) 69 34 0) 69 38 0) 69 41 0) 69 44 0) 69 45 (-1)) 69 46 0) 69 47 0) 69 48 0) 69 49 0) 69 50 0) 69 64 0) 109 0 (-1)) 109 1 (-1)) 109 2 (-1)) 109 3 (-1)) 109 4 (-1)) 109 5 (-1)) := Z_n hZ553
  refine g_putr (M := mX11_init) (pc := 562) (by rfl) fX11_68 kX11_217 dX11_init_562 (by first | exact Or.inl ⟨_, rfl⟩ | exact Or.inr ⟨_, rfl⟩) (Or.inr ⟨rfl, rfl, linkP kX11_217⟩) (kk := ?_)
  have hZ562 : Z 112 (upr (upr (upr (upr (upr (upr (upr (upr (upr (upr (upr (upr (upr (upr (upr (upr (upr (upr (upr (upr (upr (upr (upr (upr (upr (upr (upr (upr (upr (upr (upr (upr (upr (upr (upr (upr (upr (upr (upr (upr (upr (upr ρ 69 2 71) 69 3 72) 69 4 73) 69 5 74) 69 6 75) 69 7 76) 69 8 77) 69 9 78) 69 15 79) 69 16 80) 69 17 81) 69 18 82) 69 19 83) 69 20 84) 69 21 85) 69 22 86) 69 26 87) 69 27 88) 69 35 89) 69 36 90) 69 37 91) 69 39 92) 69 40 93) 69 42 94) 69 43 95) 69 51 96) 69 52 97) 69 53 98) 69 54 99) 69 55 100) 69 56 101) 69 57 102) 69 58 103) 69 59 104) 69 60 105) 69 61 106) 69 62 107) 69 63 108) 69 65 109) 69 66 110) 69 67 111) 69 68 112) (up (up (up (up (up (up (up (up (up (up (up (up (up (up (up (up (up (up (up (up (up (up (up (up (up (up (up (up (up (up (up (up (up (up (up (up (up (up (up (up (up (up (up (up (up (up σ 69 0 0) 69 1 0) 69 10 0) 69 11 (-1)) 69 12 0) 69 13 0) 69 14 0) 69 23 0) 69 24 0) 69 25 0) 86 0 99) 86 1 111) 86 2 117) 86 3 110) 86 4 116) 86 5 119) 86 6 97) 86 7 108) 86 8 107) 86 9 100) 86 10 97) 86 11 119) 86 12 110) 69 28 0) 69 29 0) 69 30 0) 69 31 0) 69 32 0) 69 33 0) 69 34 0) 69 38 0) 69 41 0) 69 44 0) 69 45 (-1)) 69 46 0) 69 47 0) 69 48 0) 69 49 0) 69 50 0) 69 64 0) 109 0 (-1)) 109 1 (-1)) 109 2 (-1)) 109 3 (-1)) 109 4 (-1)) 109 5 (-1)) := Z_r hZ560 (by decide)
  refine g_aload_n (M := mX11_init) (pc := 565) dX11_init_565 rfl (k := ?_)
  refine g_bipush (M := mX11_init) (pc := 566) dX11_init_566 (k := ?_)
  refine g_newa (M := mX11_init) (pc := 568) (N := 60) rfl (Or.inr (Or.inl ⟨rfl, rfl⟩)) (by omega) (Z_at hZ562) dX11_init_568 (Nat.le_of_ble_eq_true rfl) (Nat.le_of_ble_eq_true rfl) (kk := ?_)
  have hZ568 : Z 113 (upr (upr (upr (upr (upr (upr (upr (upr (upr (upr (upr (upr (upr (upr (upr (upr (upr (upr (upr (upr (upr (upr (upr (upr (upr (upr (upr (upr (upr (upr (upr (upr (upr (upr (upr (upr (upr (upr (upr (upr (upr (upr ρ 69 2 71) 69 3 72) 69 4 73) 69 5 74) 69 6 75) 69 7 76) 69 8 77) 69 9 78) 69 15 79) 69 16 80) 69 17 81) 69 18 82) 69 19 83) 69 20 84) 69 21 85) 69 22 86) 69 26 87) 69 27 88) 69 35 89) 69 36 90) 69 37 91) 69 39 92) 69 40 93) 69 42 94) 69 43 95) 69 51 96) 69 52 97) 69 53 98) 69 54 99) 69 55 100) 69 56 101) 69 57 102) 69 58 103) 69 59 104) 69 60 105) 69 61 106) 69 62 107) 69 63 108) 69 65 109) 69 66 110) 69 67 111) 69 68 112) (up (up (up (up (up (up (up (up (up (up (up (up (up (up (up (up (up (up (up (up (up (up (up (up (up (up (up (up (up (up (up (up (up (up (up (up (up (up (up (up (up (up (up (up (up (up σ 69 0 0) 69 1 0) 69 10 0) 69 11 (-1)) 69 12 0) 69 13 0) 69 14 0) 69 23 0) 69 24 0) 69 25 0) 86 0 99) 86 1 111) 86 2 117) 86 3 110) 86 4 116) 86 5 119) 86 6 97) 86 7 108) 86 8 107) 86 9 100) 86 10 97) 86 11 119) 86 12 110) 69 28 0) 69 29 0) 69 30 0) 69 31 0) 69 32 0) 69 33 0) 69 34 0) 69 38 0) 69 41 0) 69 44 0) 69 45 (-1)) 69 46 0) 69 47 0) 69 48 0) 69 49 0) 69 50 0) 69 64 0) 109 0 (-1)) 109 1 (-1)) 109 2 (-1)) 109 3 (-1)) 109 4 (-1)) 109 5 (-1)) := Z_n hZ562
  refine g_putr (M := mX11_init) (pc := 570) (by rfl) fX11_69 kX11_221 dX11_init_570 (by first | exact Or.inl ⟨_, rfl⟩ | exact Or.inr ⟨_, rfl⟩) (Or.inr ⟨rfl, rfl, linkP kX11_221⟩) (kk := ?_)
  have hZ570 : Z 113 (upr (upr (upr (upr (upr (upr (upr (upr (upr (upr (upr (upr (upr (upr (upr (upr (upr (upr (upr (upr (upr (upr (upr (upr (upr (upr (upr (upr (upr (upr (upr (upr (upr (upr (upr (upr (upr (upr (upr (upr (upr (upr (upr ρ 69 2 71) 69 3 72) 69 4 73) 69 5 74) 69 6 75) 69 7 76) 69 8 77) 69 9 78) 69 15 79) 69 16 80) 69 17 81) 69 18 82) 69 19 83) 69 20 84) 69 21 85) 69 22 86) 69 26 87) 69 27 88) 69 35 89) 69 36 90) 69 37 91) 69 39 92) 69 40 93) 69 42 94) 69 43 95) 69 51 96) 69 52 97) 69 53 98) 69 54 99) 69 55 100) 69 56 101) 69 57 102) 69 58 103) 69 59 104) 69 60 105) 69 61 106) 69 62 107) 69 63 108) 69 65 109) 69 66 110) 69 67 111) 69 68 112) 69 69 113) (up (up (up (up (up (up (up (up (up (up (up (up (up (up (up (up (up (up (up (up (up (up (up (up (up (up (up (up (up (up (up (up (up (up (up (up (up (up (up (up (up (up (up (up (up (up σ 69 0 0) 69 1 0) 69 10 0) 69 11 (-1)) 69 12 0) 69 13 0) 69 14 0) 69 23 0) 69 24 0) 69 25 0) 86 0 99) 86 1 111) 86 2 117) 86 3 110) 86 4 116) 86 5 119) 86 6 97) 86 7 108) 86 8 107) 86 9 100) 86 10 97) 86 11 119) 86 12 110) 69 28 0) 69 29 0) 69 30 0) 69 31 0) 69 32 0) 69 33 0) 69 34 0) 69 38 0) 69 41 0) 69 44 0) 69 45 (-1)) 69 46 0) 69 47 0) 69 48 0) 69 49 0) 69 50 0) 69 64 0) 109 0 (-1)) 109 1 (-1)) 109 2 (-1)) 109 3 (-1)) 109 4 (-1)) 109 5 (-1)) := Z_r hZ568 (by decide)
  refine g_vret (M := mX11_init) (pc := 573) rfl dX11_init_573 rfl ⟨rfl, rfl, hZ570⟩
