set_option maxHeartbeats 4000000 in
set_option maxRecDepth 20000 in
theorem c_X1_measure (Γ : KT) (t : Nat) (σ : Nat → Int → Int) (f : Int) (h : Int) (g : Int) (hI : InvX σ) (hf : 0 ≤ f ∧ f < 4) (hh : 0 ≤ h ∧ h < 6) (hg : 0 ≤ g ∧ g ≤ 99) : Ct Γ mX1_measure 4 (0, 0) [vR Γ 66, vI f, vI h, vI g] (113, ρT t, σ) (pV 113 (ρT t) (fun σ' => (InvX σ') ∧ (Fr scM σ σ'))) := by
  refine Ct.of rfl (Nat.le_of_ble_eq_true rfl) ?_
  show G Γ mX1_measure 4 (0, 0) _ (0, 0) 0 [some (vR Γ 66), some (vI f), some (vI h), some (vI g)] [] (113, ρT t, σ)
  refine g_aload_n (M := mX1_measure) (pc := 0) dX1_measure_0 rfl (k := ?_)
  refine g_getr (M := mX1_measure) (pc := 1) (by rfl) fX1_1 kX1_22 dX1_measure_1 (by rfl) (kk := ?_)
  refine g_aload_n (M := mX1_measure) (pc := 4) dX1_measure_4 rfl (k := ?_)
  refine g_getr (M := mX1_measure) (pc := 5) (by rfl) fX1_0 kX1_18 dX1_measure_5 (by rfl) (kk := ?_)
  refine g_iload_n (M := mX1_measure) (pc := 8) dX1_measure_8 rfl (k := ?_)
  refine g_iload_n (M := mX1_measure) (pc := 9) dX1_measure_9 rfl (k := ?_)
  refine g_iload_n (M := mX1_measure) (pc := 10) dX1_measure_10 rfl (k := ?_)
  refine g_cV4V (M := mX1_measure) (pc := 11) (c_X9_weigh Γ t _ _ _ _ hI (by omega) (by omega) (by omega)) qX9_weigh vX9_weigh sX9_weigh kX1_26 dX1_measure_11 (kk := ?_)
  rintro τ11 ⟨hI11, hG11⟩
  have hF11 : Fr scM σ τ11 := by refine Fr.tr ?_ (Fr.mono hG11 sb_scT_scM); exact (Fr.rf)
  refine g_aload_n (M := mX1_measure) (pc := 14) dX1_measure_14 rfl (k := ?_)
  refine g_getr (M := mX1_measure) (pc := 15) (by rfl) fX1_2 kX1_9 dX1_measure_15 (by rfl) (kk := ?_)
  refine g_iload_n (M := mX1_measure) (pc := 18) dX1_measure_18 rfl (k := ?_)
  refine g_aload_n (M := mX1_measure) (pc := 19) dX1_measure_19 rfl (k := ?_)
  refine g_getr (M := mX1_measure) (pc := 20) (by rfl) fX1_1 kX1_22 dX1_measure_20 (by rfl) (kk := ?_)
  refine g_get (M := mX1_measure) (pc := 23) (ji := 6) (by rfl) fX9_6 kX1_32 dX1_measure_23 (kk := fun hr23 => ?_)
  have hb23 := iv51_6 hI11 6 (by omega) (by omega)
  refine g_iast (M := mX1_measure) (pc := 26) (by rfl) (by omega) (by omega) (by omega) dX1_measure_26 (kk := ?_)
  refine g_aload_n (M := mX1_measure) (pc := 27) dX1_measure_27 rfl (k := ?_)
  refine g_getr (M := mX1_measure) (pc := 28) (by rfl) fX1_3 kX1_15 dX1_measure_28 (by rfl) (kk := ?_)
  refine g_iload_n (M := mX1_measure) (pc := 31) dX1_measure_31 rfl (k := ?_)
  refine g_aload_n (M := mX1_measure) (pc := 32) dX1_measure_32 rfl (k := ?_)
  refine g_getr (M := mX1_measure) (pc := 33) (by rfl) fX1_1 kX1_22 dX1_measure_33 (by rfl) (kk := ?_)
  refine g_get (M := mX1_measure) (pc := 36) (ji := 5) (by rfl) fX9_5 kX1_36 dX1_measure_36 (kk := fun hr36 => ?_)
  simp only [up_same, up_cell, up_slot, ne_eq, not_false_eq_true, Nat.reduceEqDiff, Int.reduceEq, reduceCtorEq, Nat.reduceAdd, Int.reduceAdd, Int.reduceSub] at hr36 ⊢
  have hb36 := iv51_5 hI11 5 (by omega) (by omega)
  refine g_iload_n (M := mX1_measure) (pc := 39) dX1_measure_39 rfl (k := ?_)
  refine g_imul (M := mX1_measure) (pc := 40) dX1_measure_40 (k := ?_)
  have hz40 := mulB (a := (τ11 51 5)) (b := g) (A := 9900) (C := 99) (by omega) (by omega)
  refine g_aload_n (M := mX1_measure) (pc := 41) dX1_measure_41 rfl (k := ?_)
  refine g_getr (M := mX1_measure) (pc := 42) (by rfl) fX1_0 kX1_18 dX1_measure_42 (by rfl) (kk := ?_)
  refine g_getr (M := mX1_measure) (pc := 45) (by rfl) fX5_9 kX1_39 dX1_measure_45 (by rfl) (kk := ?_)
  refine g_iload_n (M := mX1_measure) (pc := 48) dX1_measure_48 rfl (k := ?_)
  refine g_iald (M := mX1_measure) (pc := 49) (by rfl) (by omega) (by omega) dX1_measure_49 (kk := fun hr49 => ?_)
  simp only [up_same, up_cell, up_slot, ne_eq, not_false_eq_true, Nat.reduceEqDiff, Int.reduceEq, reduceCtorEq, Nat.reduceAdd, Int.reduceAdd, Int.reduceSub] at hr49 ⊢
  have hb49 := iv41_0 hI11 f (by omega) (by omega)
  refine g_cS2I (M := mX1_measure) (pc := 50) (c_X10_roundedUp Γ t _ _ _ (by first | omega | (simp only [up_same, up_cell, up_slot, ne_eq, not_false_eq_true, Nat.reduceEqDiff, Int.reduceEq, reduceCtorEq, Nat.reduceAdd, Int.reduceAdd, Int.reduceSub]; done) | (simp only [up_same, up_cell, up_slot, ne_eq, not_false_eq_true, Nat.reduceEqDiff, Int.reduceEq, reduceCtorEq, Nat.reduceAdd, Int.reduceAdd, Int.reduceSub]; omega)) (by first | omega | (simp only [up_same, up_cell, up_slot, ne_eq, not_false_eq_true, Nat.reduceEqDiff, Int.reduceEq, reduceCtorEq, Nat.reduceAdd, Int.reduceAdd, Int.reduceSub]; done) | (simp only [up_same, up_cell, up_slot, ne_eq, not_false_eq_true, Nat.reduceEqDiff, Int.reduceEq, reduceCtorEq, Nat.reduceAdd, Int.reduceAdd, Int.reduceSub]; omega)) (by first | omega | (simp only [up_same, up_cell, up_slot, ne_eq, not_false_eq_true, Nat.reduceEqDiff, Int.reduceEq, reduceCtorEq, Nat.reduceAdd, Int.reduceAdd, Int.reduceSub]; done) | (simp only [up_same, up_cell, up_slot, ne_eq, not_false_eq_true, Nat.reduceEqDiff, Int.reduceEq, reduceCtorEq, Nat.reduceAdd, Int.reduceAdd, Int.reduceSub]; omega))) qX10_roundedUp vX10_roundedUp kX1_44 dX1_measure_50 (kk := ?_)
  rintro _ _ ⟨e1, e⟩; rw [e1, e]; clear e1 e
  have hq50_0 := rupC (w := ((τ11 51 5) * g)) (b := (τ11 41 f)) (by omega)
  refine g_iast (M := mX1_measure) (pc := 53) (by rfl) (by omega) (by omega) (by omega) dX1_measure_53 (kk := ?_)
  refine g_vret (M := mX1_measure) (pc := 54) rfl dX1_measure_54 rfl ⟨_, rfl, rfl, ?_⟩
  refine ⟨?_, ?_⟩
  · refine ivu68 ?_ (by omega) (by omega); refine ivu67 ?_ (by omega) (by omega); exact hI11
  · refine Fr.up ?_ (by first | rfl | (unfold scM; simp; try omega)); refine Fr.up ?_ (by first | rfl | (unfold scM; simp; try omega)); exact hF11
set_option maxHeartbeats 4000000 in
set_option maxRecDepth 20000 in
theorem c_X1_begin (Γ : KT) (t : Nat) (σ : Nat → Int → Int) (f : Int) (m : Int) (hI : InvX σ) (hf : 0 ≤ f ∧ f < 4) (hm : R32 m) : Ct Γ mX1_begin 1 (0, 0) [vR Γ 66, vI f, vI m] (113, ρT t, σ) (pV 113 (ρT t) (fun σ' => (σ' 66 7 = m) ∧ (InvX σ') ∧ (Fr scN σ σ'))) := by
  refine Ct.of rfl (Nat.le_of_ble_eq_true rfl) ?_
  show G Γ mX1_begin 1 (0, 0) _ (0, 0) 0 [some (vR Γ 66), some (vI f), some (vI m)] [] (113, ρT t, σ)
  refine g_aload_n (M := mX1_begin) (pc := 0) dX1_begin_0 rfl (k := ?_)
  refine g_iload_n (M := mX1_begin) (pc := 1) dX1_begin_1 rfl (k := ?_)
  refine g_put (M := mX1_begin) (pc := 2) (ji := 4) (by rfl) fX1_4 kX1_48 dX1_begin_2 (by omega) (kk := ?_)
  refine g_aload_n (M := mX1_begin) (pc := 5) dX1_begin_5 rfl (k := ?_)
  refine g_iload_n (M := mX1_begin) (pc := 6) dX1_begin_6 rfl (k := ?_)
  refine g_put (M := mX1_begin) (pc := 7) (ji := 7) (by rfl) fX1_7 kX1_51 dX1_begin_7 (by omega) (kk := ?_)
  refine g_aload_n (M := mX1_begin) (pc := 10) dX1_begin_10 rfl (k := ?_)
  refine g_aload_n (M := mX1_begin) (pc := 11) dX1_begin_11 rfl (k := ?_)
  refine g_getr (M := mX1_begin) (pc := 12) (by rfl) fX1_0 kX1_18 dX1_begin_12 (by rfl) (kk := ?_)
  refine g_getr (M := mX1_begin) (pc := 15) (by rfl) fX5_7 kX1_54 dX1_begin_15 (by rfl) (kk := ?_)
  refine g_iload_n (M := mX1_begin) (pc := 18) dX1_begin_18 rfl (k := ?_)
  refine g_iald (M := mX1_begin) (pc := 19) (by rfl) (by omega) (by omega) dX1_begin_19 (kk := fun hr19 => ?_)
  simp only [up_same, up_cell, up_slot, ne_eq, not_false_eq_true, Nat.reduceEqDiff, Int.reduceEq, reduceCtorEq, Nat.reduceAdd, Int.reduceAdd, Int.reduceSub] at hr19 ⊢
  have hb19 := iv39_0 hI f (by omega) (by omega)
  refine g_put (M := mX1_begin) (pc := 20) (ji := 5) (by rfl) fX1_5 kX1_57 dX1_begin_20 (by omega) (kk := ?_)
  refine g_aload_n (M := mX1_begin) (pc := 23) dX1_begin_23 rfl (k := ?_)
  refine g_aload_n (M := mX1_begin) (pc := 24) dX1_begin_24 rfl (k := ?_)
  refine g_getr (M := mX1_begin) (pc := 25) (by rfl) fX1_0 kX1_18 dX1_begin_25 (by rfl) (kk := ?_)
  refine g_getr (M := mX1_begin) (pc := 28) (by rfl) fX5_8 kX1_60 dX1_begin_28 (by rfl) (kk := ?_)
  refine g_iload_n (M := mX1_begin) (pc := 31) dX1_begin_31 rfl (k := ?_)
  refine g_iald (M := mX1_begin) (pc := 32) (by rfl) (by omega) (by omega) dX1_begin_32 (kk := fun hr32 => ?_)
  simp only [up_same, up_cell, up_slot, ne_eq, not_false_eq_true, Nat.reduceEqDiff, Int.reduceEq, reduceCtorEq, Nat.reduceAdd, Int.reduceAdd, Int.reduceSub] at hr32 ⊢
  have hb32 := iv40_0 hI f (by omega) (by omega)
  refine g_put (M := mX1_begin) (pc := 33) (ji := 8) (by rfl) fX1_8 kX1_63 dX1_begin_33 (by omega) (kk := ?_)
  refine g_aload_n (M := mX1_begin) (pc := 36) dX1_begin_36 rfl (k := ?_)
  refine g_iconst (M := mX1_begin) (pc := 37) dX1_begin_37 (k := ?_)
  refine g_put (M := mX1_begin) (pc := 38) (ji := 9) (by rfl) fX1_9 kX1_66 dX1_begin_38 (by omega) (kk := ?_)
  refine g_aload_n (M := mX1_begin) (pc := 41) dX1_begin_41 rfl (k := ?_)
  refine g_iconst (M := mX1_begin) (pc := 42) dX1_begin_42 (k := ?_)
  refine g_put (M := mX1_begin) (pc := 43) (ji := 6) (by rfl) fX1_6 kX1_69 dX1_begin_43 (by omega) (kk := ?_)
  refine g_vret (M := mX1_begin) (pc := 46) rfl dX1_begin_46 rfl ⟨_, rfl, rfl, ?_⟩
  refine ⟨?_, ?_, ?_⟩
  · simp only [up_same, up_cell, up_slot, ne_eq, not_false_eq_true, Nat.reduceEqDiff, Int.reduceEq, reduceCtorEq, Nat.reduceAdd, Int.reduceAdd, Int.reduceSub]
  · refine iv_free ?_ (by rfl); refine iv_free ?_ (by rfl); refine ivu66_8 ?_ (by omega) (by omega); refine ivu66_5 ?_ (by omega) (by omega); refine iv_free ?_ (by rfl); refine iv_free ?_ (by rfl); exact hI
  · refine Fr.up ?_ (by first | rfl | (unfold scN; simp; try omega)); refine Fr.up ?_ (by first | rfl | (unfold scN; simp; try omega)); refine Fr.up ?_ (by first | rfl | (unfold scN; simp; try omega)); refine Fr.up ?_ (by first | rfl | (unfold scN; simp; try omega)); refine Fr.up ?_ (by first | rfl | (unfold scN; simp; try omega)); refine Fr.up ?_ (by first | rfl | (unfold scN; simp; try omega)); exact (Fr.rf)
set_option maxHeartbeats 4000000 in
set_option maxRecDepth 20000 in
theorem c_X1_isLate (Γ : KT) (t : Nat) (σ : Nat → Int → Int) (v : Int) (hv : 0 ≤ v ∧ v ≤ 9) : Ct Γ mX1_isLate 1 (0, 0) [vR Γ 66, vI v] (113, ρT t, σ) (pI 113 (ρT t) (fun r σ' => (0 ≤ r ∧ r ≤ 1) ∧ σ' = σ)) := by
  refine Ct.of rfl (Nat.le_of_ble_eq_true rfl) ?_
  show G Γ mX1_isLate 1 (0, 0) _ (0, 0) 0 [some (vR Γ 66), some (vI v)] [] (113, ρT t, σ)
  refine g_aload_n (M := mX1_isLate) (pc := 0) dX1_isLate_0 rfl (k := ?_)
  refine g_get (M := mX1_isLate) (pc := 1) (ji := 7) (by rfl) fX1_7 kX1_51 dX1_isLate_1 (kk := fun hr1 => ?_)
  refine g_iconst (M := mX1_isLate) (pc := 4) dX1_isLate_4 (k := ?_)
  refine g_iload_n (M := mX1_isLate) (pc := 5) dX1_isLate_5 rfl (k := ?_)
  refine g_imul (M := mX1_isLate) (pc := 6) dX1_isLate_6 (k := ?_)
  refine g_icmp_lt (M := mX1_isLate) (pc := 7) (tgt := 14) (by omega) (by omega) dX1_isLate_7 (k1 := fun h7 => ?_) (k2 := fun h7 => ?_)
  · skip
    refine g_iconst (M := mX1_isLate) (pc := 14) dX1_isLate_14 (k := ?_)
    refine g_zret (M := mX1_isLate) (pc := 15) (by first | omega | (unfold b2; split <;> omega)) rfl dX1_isLate_15 rfl ⟨_, _, rfl, rfl, ?_⟩
    refine ⟨?_, rfl⟩
    · omega
  · skip
    refine g_iconst (M := mX1_isLate) (pc := 10) dX1_isLate_10 (k := ?_)
    refine g_goto (M := mX1_isLate) (pc := 11) (tgt := 15) dX1_isLate_11 (k := ?_)
    refine g_zret (M := mX1_isLate) (pc := 15) (by first | omega | (unfold b2; split <;> omega)) rfl dX1_isLate_15 rfl ⟨_, _, rfl, rfl, ?_⟩
    refine ⟨?_, rfl⟩
    · omega
set_option maxHeartbeats 4000000 in
set_option maxRecDepth 20000 in
theorem c_X1_isKnown (Γ : KT) (t : Nat) (σ : Nat → Int → Int) (h : Int) (v : Int) (hv : 0 ≤ v ∧ v ≤ 9) : Ct Γ mX1_isKnown 2 (0, 0) [vR Γ 66, vI h, vI v] (113, ρT t, σ) (pI 113 (ρT t) (fun r σ' => (0 ≤ r ∧ r ≤ 1) ∧ σ' = σ)) := by
  refine Ct.of rfl (Nat.le_of_ble_eq_true rfl) ?_
  show G Γ mX1_isKnown 2 (0, 0) _ (0, 0) 0 [some (vR Γ 66), some (vI h), some (vI v)] [] (113, ρT t, σ)
  refine g_aload_n (M := mX1_isKnown) (pc := 0) dX1_isKnown_0 rfl (k := ?_)
  refine g_get (M := mX1_isKnown) (pc := 1) (ji := 9) (by rfl) fX1_9 kX1_66 dX1_isKnown_1 (kk := fun hr1 => ?_)
  refine g_iload_n (M := mX1_isKnown) (pc := 4) dX1_isKnown_4 rfl (k := ?_)
  refine g_iconst (M := mX1_isKnown) (pc := 5) dX1_isKnown_5 (k := ?_)
  refine g_cS3I (M := mX1_isKnown) (pc := 6) (c_X10_withBit Γ t _ _ _ _ (by omega)) qX10_withBit vX10_withBit kX1_81 dX1_isKnown_6 (kk := ?_)
  rintro _ _ ⟨e1, e⟩; rw [e1, e]; clear e1 e
  have hq6_0 := zwithR (σ 66 9) h 0
  refine g_cS1I (M := mX1_isKnown) (pc := 9) (c_J6_bitCount_0f7a4 Γ t _ _) qJ6_bitCount_0f7a4 vJ6_bitCount_0f7a4 kX1_121 dX1_isKnown_9 (kk := ?_)
  rintro r9 _ ⟨hf9, e⟩; rw [e]; clear e
  refine g_iload_n (M := mX1_isKnown) (pc := 12) dX1_isKnown_12 rfl (k := ?_)
  refine g_iconst (M := mX1_isKnown) (pc := 13) dX1_isKnown_13 (k := ?_)
  refine g_irem (M := mX1_isKnown) (pc := 14) (by omega) (by omega) (by omega) dX1_isKnown_14 (k := ?_)
  have hz14 := tmodB (a := v) (b := 3) (by omega)
  refine g_icmp_lt (M := mX1_isKnown) (pc := 15) (tgt := 22) (by omega) (by omega) dX1_isKnown_15 (k1 := fun h15 => ?_) (k2 := fun h15 => ?_)
  · skip
    refine g_iconst (M := mX1_isKnown) (pc := 22) dX1_isKnown_22 (k := ?_)
    refine g_zret (M := mX1_isKnown) (pc := 23) (by first | omega | (unfold b2; split <;> omega)) rfl dX1_isKnown_23 rfl ⟨_, _, rfl, rfl, ?_⟩
    refine ⟨?_, rfl⟩
    · omega
  · skip
    refine g_iconst (M := mX1_isKnown) (pc := 18) dX1_isKnown_18 (k := ?_)
    refine g_goto (M := mX1_isKnown) (pc := 19) (tgt := 23) dX1_isKnown_19 (k := ?_)
    refine g_zret (M := mX1_isKnown) (pc := 23) (by first | omega | (unfold b2; split <;> omega)) rfl dX1_isKnown_23 rfl ⟨_, _, rfl, rfl, ?_⟩
    refine ⟨?_, rfl⟩
    · omega
set_option maxHeartbeats 4000000 in
set_option maxRecDepth 20000 in
theorem c_X1_pays (Γ : KT) (t : Nat) (σ : Nat → Int → Int) (v : Int) (hI : InvX σ) (hv : 0 ≤ v ∧ v ≤ 9) : Ct Γ mX1_pays 1 (0, 0) [vR Γ 66, vI v] (113, ρT t, σ) (pI 113 (ρT t) (fun r σ' => (0 ≤ r ∧ r ≤ 1) ∧ (InvX σ') ∧ (Fr scC σ σ'))) := by
  refine Ct.of rfl (Nat.le_of_ble_eq_true rfl) ?_
  show G Γ mX1_pays 1 (0, 0) _ (0, 0) 0 [some (vR Γ 66), some (vI v), none] [] (113, ρT t, σ)
  refine g_aload_n (M := mX1_pays) (pc := 0) dX1_pays_0 rfl (k := ?_)
  refine g_get (M := mX1_pays) (pc := 1) (ji := 8) (by rfl) fX1_8 kX1_63 dX1_pays_1 (kk := fun hr1 => ?_)
  have hb1 := iv66_8 hI 8 (by omega) (by omega)
  refine g_iload_n (M := mX1_pays) (pc := 4) dX1_pays_4 rfl (k := ?_)
  refine g_icmp_lt (M := mX1_pays) (pc := 5) (tgt := 12) (by omega) (by omega) dX1_pays_5 (k1 := fun h5 => ?_) (k2 := fun h5 => ?_)
  · skip
    refine g_iconst (M := mX1_pays) (pc := 12) dX1_pays_12 (k := ?_)
    refine g_istore_2 (M := mX1_pays) (pc := 13) dX1_pays_13 (k := ?_)
    refine g_iload_n (M := mX1_pays) (pc := 14) dX1_pays_14 rfl (k := ?_)
    refine g_if_eq (M := mX1_pays) (pc := 15) (tgt := 28) (by omega) dX1_pays_15 (k1 := fun h15 => ?_) (k2 := fun h15 => ?_)
    · skip
      refine g_iload_n (M := mX1_pays) (pc := 28) dX1_pays_28 rfl (k := ?_)
      refine g_zret (M := mX1_pays) (pc := 29) (by first | omega | (unfold b2; split <;> omega)) rfl dX1_pays_29 rfl ⟨_, _, rfl, rfl, ?_⟩
      refine ⟨?_, ?_, ?_⟩
      · omega
      · exact hI
      · exact (Fr.rf)
    · omega
  · skip
    refine g_iconst (M := mX1_pays) (pc := 8) dX1_pays_8 (k := ?_)
    refine g_goto (M := mX1_pays) (pc := 9) (tgt := 13) dX1_pays_9 (k := ?_)
    refine g_istore_2 (M := mX1_pays) (pc := 13) dX1_pays_13 (k := ?_)
    refine g_iload_n (M := mX1_pays) (pc := 14) dX1_pays_14 rfl (k := ?_)
    refine g_if_eq (M := mX1_pays) (pc := 15) (tgt := 28) (by omega) dX1_pays_15 (k1 := fun h15 => ?_) (k2 := fun h15 => ?_)
    · omega
    · skip
      refine g_aload_n (M := mX1_pays) (pc := 18) dX1_pays_18 rfl (k := ?_)
      refine g_dupR (M := mX1_pays) (pc := 19) dX1_pays_19 (k := ?_)
      refine g_get (M := mX1_pays) (pc := 20) (ji := 8) (by rfl) fX1_8 kX1_63 dX1_pays_20 (kk := fun hr20 => ?_)
      refine g_iload_n (M := mX1_pays) (pc := 23) dX1_pays_23 rfl (k := ?_)
      refine g_isub (M := mX1_pays) (pc := 24) dX1_pays_24 (k := ?_)
      refine g_put (M := mX1_pays) (pc := 25) (ji := 8) (by rfl) fX1_8 kX1_63 dX1_pays_25 (by omega) (kk := ?_)
      refine g_iload_n (M := mX1_pays) (pc := 28) dX1_pays_28 rfl (k := ?_)
      refine g_zret (M := mX1_pays) (pc := 29) (by first | omega | (unfold b2; split <;> omega)) rfl dX1_pays_29 rfl ⟨_, _, rfl, rfl, ?_⟩
      refine ⟨?_, ?_, ?_⟩
      · omega
      · refine ivu66_8 ?_ (by omega) (by omega); exact hI
      · refine Fr.up ?_ (by first | rfl | (unfold scC; simp; try omega)); exact (Fr.rf)
set_option maxHeartbeats 4000000 in
set_option maxRecDepth 20000 in
theorem c_X1_isLet (Γ : KT) (t : Nat) (σ : Nat → Int → Int) (h : Int) (hI : InvX σ) (hh : 0 ≤ h ∧ h < 6) : Ct Γ mX1_isLet 3 (0, 0) [vR Γ 66, vI h] (113, ρT t, σ) (pI 113 (ρT t) (fun r σ' => (0 ≤ r ∧ r ≤ 1) ∧ (InvX σ') ∧ (Fr scC σ σ'))) := by
  refine Ct.of rfl (Nat.le_of_ble_eq_true rfl) ?_
  show G Γ mX1_isLet 3 (0, 0) _ (0, 0) 0 [some (vR Γ 66), some (vI h), none] [] (113, ρT t, σ)
  refine g_aload_n (M := mX1_isLet) (pc := 0) dX1_isLet_0 rfl (k := ?_)
  refine g_getr (M := mX1_isLet) (pc := 1) (by rfl) fX1_0 kX1_18 dX1_isLet_1 (by rfl) (kk := ?_)
  refine g_getr (M := mX1_isLet) (pc := 4) (by rfl) fX5_4 kX1_99 dX1_isLet_4 (by rfl) (kk := ?_)
  refine g_iload_n (M := mX1_isLet) (pc := 7) dX1_isLet_7 rfl (k := ?_)
  refine g_iald (M := mX1_isLet) (pc := 8) (by rfl) (by omega) (by omega) dX1_isLet_8 (kk := fun hr8 => ?_)
  refine g_aload_n (M := mX1_isLet) (pc := 9) dX1_isLet_9 rfl (k := ?_)
  refine g_get (M := mX1_isLet) (pc := 10) (ji := 4) (by rfl) fX1_4 kX1_48 dX1_isLet_10 (kk := fun hr10 => ?_)
  refine g_cS2I (M := mX1_isLet) (pc := 13) (c_X10_bit Γ t _ _ _) qX10_bit vX10_bit kX1_78 dX1_isLet_13 (kk := ?_)
  rintro _ _ ⟨e1, e⟩; rw [e1, e]; clear e1 e
  have hq13_0 := zbitR (σ 37 h) (σ 66 4)
  refine g_iconst (M := mX1_isLet) (pc := 16) dX1_isLet_16 (k := ?_)
  refine g_icmp_ne (M := mX1_isLet) (pc := 17) (tgt := 22) (by omega) (by omega) dX1_isLet_17 (k1 := fun h17 => ?_) (k2 := fun h17 => ?_)
  · skip
    refine g_aload_n (M := mX1_isLet) (pc := 22) dX1_isLet_22 rfl (k := ?_)
    refine g_getr (M := mX1_isLet) (pc := 23) (by rfl) fX1_0 kX1_18 dX1_isLet_23 (by rfl) (kk := ?_)
    refine g_getr (M := mX1_isLet) (pc := 26) (by rfl) fX5_2 kX1_102 dX1_isLet_26 (by rfl) (kk := ?_)
    refine g_iload_n (M := mX1_isLet) (pc := 29) dX1_isLet_29 rfl (k := ?_)
    refine g_iald (M := mX1_isLet) (pc := 30) (by rfl) (by omega) (by omega) dX1_isLet_30 (kk := fun hr30 => ?_)
    have hb30 := iv35_0 hI h (by omega) (by omega)
    refine g_istore_2 (M := mX1_isLet) (pc := 31) dX1_isLet_31 (k := ?_)
    refine g_aload_n (M := mX1_isLet) (pc := 32) dX1_isLet_32 rfl (k := ?_)
    refine g_getr (M := mX1_isLet) (pc := 33) (by rfl) fX1_0 kX1_18 dX1_isLet_33 (by rfl) (kk := ?_)
    refine g_getr (M := mX1_isLet) (pc := 36) (by rfl) fX5_1 kX1_105 dX1_isLet_36 (by rfl) (kk := ?_)
    refine g_iload_n (M := mX1_isLet) (pc := 39) dX1_isLet_39 rfl (k := ?_)
    refine g_iald (M := mX1_isLet) (pc := 40) (by rfl) (by omega) (by omega) dX1_isLet_40 (kk := fun hr40 => ?_)
    have hb40 := iv34_0 hI h (by omega) (by omega)
    by_cases hsw41 : (σ 34 h) < 1 ∨ 6 < (σ 34 h)
    · skip
      refine g_tableOut (M := mX1_isLet) (pc := 41) (tgt := 177) (by omega) dX1_isLet_41 (h := hsw41) (k := ?_)
      refine g_iconst (M := mX1_isLet) (pc := 177) dX1_isLet_177 (k := ?_)
      refine g_zret (M := mX1_isLet) (pc := 178) (by first | omega | (unfold b2; split <;> omega)) rfl dX1_isLet_178 rfl ⟨_, _, rfl, rfl, ?_⟩
      refine ⟨?_, ?_, ?_⟩
      · omega
      · exact hI
      · exact (Fr.rf)
    · obtain hc41 | hc41 | hc41 | hc41 | hc41 | hc41 : (σ 34 h) = 1 ∨ (σ 34 h) = 2 ∨ (σ 34 h) = 3 ∨ (σ 34 h) = 4 ∨ (σ 34 h) = 5 ∨ (σ 34 h) = 6 := by omega
      · skip
        refine g_tableIn (M := mX1_isLet) (pc := 41) (tgt := 80) (by omega) dX1_isLet_41 (1) hc41 (k := ?_)
        refine g_aload_n (M := mX1_isLet) (pc := 80) dX1_isLet_80 rfl (k := ?_)
        refine g_iload_n (M := mX1_isLet) (pc := 81) dX1_isLet_81 rfl (k := ?_)
        refine g_cV1I (M := mX1_isLet) (pc := 82) (c_X1_isLate Γ t _ _ (by omega)) qX1_isLate vX1_isLate sX1_isLate kX1_108 dX1_isLet_82 (kk := ?_)
        rintro r82 _ ⟨hi82, e⟩; rw [e]; clear e
        refine g_zret (M := mX1_isLet) (pc := 85) (by first | omega | (unfold b2; split <;> omega)) rfl dX1_isLet_85 rfl ⟨_, _, rfl, rfl, ?_⟩
        refine ⟨?_, ?_, ?_⟩
        · omega
        · exact hI
        · exact (Fr.rf)
      · skip
        refine g_tableIn (M := mX1_isLet) (pc := 41) (tgt := 86) (by omega) dX1_isLet_41 (2) hc41 (k := ?_)
        refine g_aload_n (M := mX1_isLet) (pc := 86) dX1_isLet_86 rfl (k := ?_)
        refine g_iload_n (M := mX1_isLet) (pc := 87) dX1_isLet_87 rfl (k := ?_)
        refine g_iload_n (M := mX1_isLet) (pc := 88) dX1_isLet_88 rfl (k := ?_)
        refine g_cV2I (M := mX1_isLet) (pc := 89) (c_X1_isKnown Γ t _ _ _ (by omega)) qX1_isKnown vX1_isKnown sX1_isKnown kX1_111 dX1_isLet_89 (kk := ?_)
        rintro r89 _ ⟨hi89, e⟩; rw [e]; clear e
        refine g_zret (M := mX1_isLet) (pc := 92) (by first | omega | (unfold b2; split <;> omega)) rfl dX1_isLet_92 rfl ⟨_, _, rfl, rfl, ?_⟩
        refine ⟨?_, ?_, ?_⟩
        · omega
        · exact hI
        · exact (Fr.rf)
      · skip
        refine g_tableIn (M := mX1_isLet) (pc := 41) (tgt := 93) (by omega) dX1_isLet_41 (3) hc41 (k := ?_)
        refine g_aload_n (M := mX1_isLet) (pc := 93) dX1_isLet_93 rfl (k := ?_)
        refine g_iload_n (M := mX1_isLet) (pc := 94) dX1_isLet_94 rfl (k := ?_)
        refine g_cV1I (M := mX1_isLet) (pc := 95) (c_X1_pays Γ t _ _ hI (by omega)) qX1_pays vX1_pays sX1_pays kX1_115 dX1_isLet_95 (kk := ?_)
        rintro r95 τ95 ⟨hi95, hI95, hG95⟩
        have hF95 : Fr scC σ τ95 := by refine Fr.tr ?_ hG95; exact (Fr.rf)
        refine g_zret (M := mX1_isLet) (pc := 98) (by first | omega | (unfold b2; split <;> omega)) rfl dX1_isLet_98 rfl ⟨_, _, rfl, rfl, ?_⟩
        refine ⟨?_, ?_, ?_⟩
        · omega
        · exact hI95
        · exact hF95
      · skip
        refine g_tableIn (M := mX1_isLet) (pc := 41) (tgt := 99) (by omega) dX1_isLet_41 (4) hc41 (k := ?_)
        refine g_iload_n (M := mX1_isLet) (pc := 99) dX1_isLet_99 rfl (k := ?_)
        refine g_bipush (M := mX1_isLet) (pc := 100) dX1_isLet_100 (k := ?_)
        refine g_icmp_gt (M := mX1_isLet) (pc := 102) (tgt := 113) (by omega) (by omega) dX1_isLet_102 (k1 := fun h102 => ?_) (k2 := fun h102 => ?_)
        · skip
          refine g_iconst (M := mX1_isLet) (pc := 113) dX1_isLet_113 (k := ?_)
          refine g_goto (M := mX1_isLet) (pc := 114) (tgt := 118) dX1_isLet_114 (k := ?_)
          refine g_zret (M := mX1_isLet) (pc := 118) (by first | omega | (unfold b2; split <;> omega)) rfl dX1_isLet_118 rfl ⟨_, _, rfl, rfl, ?_⟩
          refine ⟨?_, ?_, ?_⟩
          · omega
          · exact hI
          · exact (Fr.rf)
        · skip
          refine g_aload_n (M := mX1_isLet) (pc := 105) dX1_isLet_105 rfl (k := ?_)
          refine g_iload_n (M := mX1_isLet) (pc := 106) dX1_isLet_106 rfl (k := ?_)
          refine g_cV1I (M := mX1_isLet) (pc := 107) (c_X1_isLate Γ t _ _ (by omega)) qX1_isLate vX1_isLate sX1_isLate kX1_108 dX1_isLet_107 (kk := ?_)
          rintro r107 _ ⟨hi107, e⟩; rw [e]; clear e
          refine g_if_eq (M := mX1_isLet) (pc := 110) (tgt := 117) (by omega) dX1_isLet_110 (k1 := fun h110 => ?_) (k2 := fun h110 => ?_)
          · skip
            refine g_iconst (M := mX1_isLet) (pc := 117) dX1_isLet_117 (k := ?_)
            refine g_zret (M := mX1_isLet) (pc := 118) (by first | omega | (unfold b2; split <;> omega)) rfl dX1_isLet_118 rfl ⟨_, _, rfl, rfl, ?_⟩
            refine ⟨?_, ?_, ?_⟩
            · omega
            · exact hI
            · exact (Fr.rf)
          · skip
            refine g_iconst (M := mX1_isLet) (pc := 113) dX1_isLet_113 (k := ?_)
            refine g_goto (M := mX1_isLet) (pc := 114) (tgt := 118) dX1_isLet_114 (k := ?_)
            refine g_zret (M := mX1_isLet) (pc := 118) (by first | omega | (unfold b2; split <;> omega)) rfl dX1_isLet_118 rfl ⟨_, _, rfl, rfl, ?_⟩
            refine ⟨?_, ?_, ?_⟩
            · omega
            · exact hI
            · exact (Fr.rf)
      · skip
        refine g_tableIn (M := mX1_isLet) (pc := 41) (tgt := 119) (by omega) dX1_isLet_41 (5) hc41 (k := ?_)
        refine g_aload_n (M := mX1_isLet) (pc := 119) dX1_isLet_119 rfl (k := ?_)
        refine g_get (M := mX1_isLet) (pc := 120) (ji := 8) (by rfl) fX1_8 kX1_63 dX1_isLet_120 (kk := fun hr120 => ?_)
        have hb120 := iv66_8 hI 8 (by omega) (by omega)
        refine g_if_le (M := mX1_isLet) (pc := 123) (tgt := 139) (by omega) dX1_isLet_123 (k1 := fun h123 => ?_) (k2 := fun h123 => ?_)
        · skip
          refine g_iconst (M := mX1_isLet) (pc := 139) dX1_isLet_139 (k := ?_)
          refine g_zret (M := mX1_isLet) (pc := 140) (by first | omega | (unfold b2; split <;> omega)) rfl dX1_isLet_140 rfl ⟨_, _, rfl, rfl, ?_⟩
          refine ⟨?_, ?_, ?_⟩
          · omega
          · exact hI
          · exact (Fr.rf)
        · skip
          refine g_aload_n (M := mX1_isLet) (pc := 126) dX1_isLet_126 rfl (k := ?_)
          refine g_iload_n (M := mX1_isLet) (pc := 127) dX1_isLet_127 rfl (k := ?_)
          refine g_iload_n (M := mX1_isLet) (pc := 128) dX1_isLet_128 rfl (k := ?_)
          refine g_cV2I (M := mX1_isLet) (pc := 129) (c_X1_isKnown Γ t _ _ _ (by omega)) qX1_isKnown vX1_isKnown sX1_isKnown kX1_111 dX1_isLet_129 (kk := ?_)
          rintro r129 _ ⟨hi129, e⟩; rw [e]; clear e
          refine g_if_eq (M := mX1_isLet) (pc := 132) (tgt := 139) (by omega) dX1_isLet_132 (k1 := fun h132 => ?_) (k2 := fun h132 => ?_)
          · skip
            refine g_iconst (M := mX1_isLet) (pc := 139) dX1_isLet_139 (k := ?_)
            refine g_zret (M := mX1_isLet) (pc := 140) (by first | omega | (unfold b2; split <;> omega)) rfl dX1_isLet_140 rfl ⟨_, _, rfl, rfl, ?_⟩
            refine ⟨?_, ?_, ?_⟩
            · omega
            · exact hI
            · exact (Fr.rf)
          · skip
            refine g_iconst (M := mX1_isLet) (pc := 135) dX1_isLet_135 (k := ?_)
            refine g_goto (M := mX1_isLet) (pc := 136) (tgt := 140) dX1_isLet_136 (k := ?_)
            refine g_zret (M := mX1_isLet) (pc := 140) (by first | omega | (unfold b2; split <;> omega)) rfl dX1_isLet_140 rfl ⟨_, _, rfl, rfl, ?_⟩
            refine ⟨?_, ?_, ?_⟩
            · omega
            · exact hI
            · exact (Fr.rf)
      · skip
        refine g_tableIn (M := mX1_isLet) (pc := 41) (tgt := 141) (by omega) dX1_isLet_41 (6) hc41 (k := ?_)
        refine g_aload_n (M := mX1_isLet) (pc := 141) dX1_isLet_141 rfl (k := ?_)
        refine g_getr (M := mX1_isLet) (pc := 142) (by rfl) fX1_0 kX1_18 dX1_isLet_142 (by rfl) (kk := ?_)
        refine g_getr (M := mX1_isLet) (pc := 145) (by rfl) fX5_5 kX1_118 dX1_isLet_145 (by rfl) (kk := ?_)
        refine g_iload_n (M := mX1_isLet) (pc := 148) dX1_isLet_148 rfl (k := ?_)
        refine g_iald (M := mX1_isLet) (pc := 149) (by rfl) (by omega) (by omega) dX1_isLet_149 (kk := fun hr149 => ?_)
        refine g_aload_n (M := mX1_isLet) (pc := 150) dX1_isLet_150 rfl (k := ?_)
        refine g_get (M := mX1_isLet) (pc := 151) (ji := 7) (by rfl) fX1_7 kX1_51 dX1_isLet_151 (kk := fun hr151 => ?_)
        refine g_iconst (M := mX1_isLet) (pc := 154) dX1_isLet_154 (k := ?_)
        refine g_irem (M := mX1_isLet) (pc := 155) (by omega) (by omega) (by omega) dX1_isLet_155 (k := ?_)
        have hz155 := tmodB (a := σ 66 7) (b := 4) (by omega)
        refine g_cS2I (M := mX1_isLet) (pc := 156) (c_X10_bit Γ t _ _ _) qX10_bit vX10_bit kX1_78 dX1_isLet_156 (kk := ?_)
        rintro _ _ ⟨e1, e⟩; rw [e1, e]; clear e1 e
        have hq156_0 := zbitR (σ 38 h) (Int.tmod (σ 66 7) 4)
        refine g_iconst (M := mX1_isLet) (pc := 159) dX1_isLet_159 (k := ?_)
        refine g_icmp_ne (M := mX1_isLet) (pc := 160) (tgt := 175) (by omega) (by omega) dX1_isLet_160 (k1 := fun h160 => ?_) (k2 := fun h160 => ?_)
        · skip
          refine g_iconst (M := mX1_isLet) (pc := 175) dX1_isLet_175 (k := ?_)
          refine g_zret (M := mX1_isLet) (pc := 176) (by first | omega | (unfold b2; split <;> omega)) rfl dX1_isLet_176 rfl ⟨_, _, rfl, rfl, ?_⟩
          refine ⟨?_, ?_, ?_⟩
          · omega
          · exact hI
          · exact (Fr.rf)
        · skip
          refine g_aload_n (M := mX1_isLet) (pc := 163) dX1_isLet_163 rfl (k := ?_)
          refine g_iload_n (M := mX1_isLet) (pc := 164) dX1_isLet_164 rfl (k := ?_)
          refine g_cV1I (M := mX1_isLet) (pc := 165) (c_X1_pays Γ t _ _ hI (by omega)) qX1_pays vX1_pays sX1_pays kX1_115 dX1_isLet_165 (kk := ?_)
          rintro r165 τ165 ⟨hi165, hI165, hG165⟩
          have hF165 : Fr scC σ τ165 := by refine Fr.tr ?_ hG165; exact (Fr.rf)
          refine g_if_eq (M := mX1_isLet) (pc := 168) (tgt := 175) (by omega) dX1_isLet_168 (k1 := fun h168 => ?_) (k2 := fun h168 => ?_)
          · skip
            refine g_iconst (M := mX1_isLet) (pc := 175) dX1_isLet_175 (k := ?_)
            refine g_zret (M := mX1_isLet) (pc := 176) (by first | omega | (unfold b2; split <;> omega)) rfl dX1_isLet_176 rfl ⟨_, _, rfl, rfl, ?_⟩
            refine ⟨?_, ?_, ?_⟩
            · omega
            · exact hI165
            · exact hF165
          · skip
            refine g_iconst (M := mX1_isLet) (pc := 171) dX1_isLet_171 (k := ?_)
            refine g_goto (M := mX1_isLet) (pc := 172) (tgt := 176) dX1_isLet_172 (k := ?_)
            refine g_zret (M := mX1_isLet) (pc := 176) (by first | omega | (unfold b2; split <;> omega)) rfl dX1_isLet_176 rfl ⟨_, _, rfl, rfl, ?_⟩
            refine ⟨?_, ?_, ?_⟩
            · omega
            · exact hI165
            · exact hF165
  · skip
    refine g_iconst (M := mX1_isLet) (pc := 20) dX1_isLet_20 (k := ?_)
    refine g_zret (M := mX1_isLet) (pc := 21) (by first | omega | (unfold b2; split <;> omega)) rfl dX1_isLet_21 rfl ⟨_, _, rfl, rfl, ?_⟩
    refine ⟨?_, ?_, ?_⟩
    · omega
    · exact hI
    · exact (Fr.rf)
set_option maxHeartbeats 4000000 in
set_option maxRecDepth 20000 in
theorem c_X1_reach (Γ : KT) (t : Nat) (σ : Nat → Int → Int) (h : Int) (hI : InvX σ) (hh : 0 ≤ h ∧ h < 6) (hm : -20000000 ≤ σ 66 7 ∧ σ 66 7 ≤ 20000000) : Ct Γ mX1_reach 4 (0, 0) [vR Γ 66, vI h] (113, ρT t, σ) (pI 113 (ρT t) (fun r σ' => (0 ≤ r ∧ r ≤ 1) ∧ ((σ 66 7 - 1050000 ≤ σ' 66 7 ∧ σ' 66 7 ≤ σ 66 7 + 1050000)) ∧ (InvX σ') ∧ (Fr scN σ σ'))) := by
  refine Ct.of rfl (Nat.le_of_ble_eq_true rfl) ?_
  show G Γ mX1_reach 4 (0, 0) _ (0, 0) 0 [some (vR Γ 66), some (vI h), none] [] (113, ρT t, σ)
  refine g_aload_n (M := mX1_reach) (pc := 0) dX1_reach_0 rfl (k := ?_)
  refine g_dupR (M := mX1_reach) (pc := 1) dX1_reach_1 (k := ?_)
  refine g_get (M := mX1_reach) (pc := 2) (ji := 7) (by rfl) fX1_7 kX1_51 dX1_reach_2 (kk := fun hr2 => ?_)
  refine g_aload_n (M := mX1_reach) (pc := 5) dX1_reach_5 rfl (k := ?_)
  refine g_getr (M := mX1_reach) (pc := 6) (by rfl) fX1_2 kX1_9 dX1_reach_6 (by rfl) (kk := ?_)
  refine g_iload_n (M := mX1_reach) (pc := 9) dX1_reach_9 rfl (k := ?_)
  refine g_iald (M := mX1_reach) (pc := 10) (by rfl) (by omega) (by omega) dX1_reach_10 (kk := fun hr10 => ?_)
  have hb10 := iv67_0 hI h (by omega) (by omega)
  refine g_iload_n (M := mX1_reach) (pc := 11) dX1_reach_11 rfl (k := ?_)
  refine g_aload_n (M := mX1_reach) (pc := 12) dX1_reach_12 rfl (k := ?_)
  refine g_get (M := mX1_reach) (pc := 13) (ji := 5) (by rfl) fX1_5 kX1_57 dX1_reach_13 (kk := fun hr13 => ?_)
  have hb13 := iv66_5 hI 5 (by omega) (by omega)
  refine g_isub (M := mX1_reach) (pc := 16) dX1_reach_16 (k := ?_)
  refine g_abs2 (M := mX1_reach) (pc := 17) (by omega) kmX1_72 nm_abs dX1_reach_17 (by omega) rfl (k := fun c17 hz17 => ?_)
  refine g_imul (M := mX1_reach) (pc := 20) dX1_reach_20 (k := ?_)
  have hz20 := mulB (a := (σ 67 h)) (b := c17) (A := 9900) (C := 5) (by omega) (by omega)
  refine g_iadd (M := mX1_reach) (pc := 21) dX1_reach_21 (k := ?_)
  refine g_put (M := mX1_reach) (pc := 22) (ji := 7) (by rfl) fX1_7 kX1_51 dX1_reach_22 (by omega) (kk := ?_)
  refine g_aload_n (M := mX1_reach) (pc := 25) dX1_reach_25 rfl (k := ?_)
  refine g_get (M := mX1_reach) (pc := 26) (ji := 6) (by rfl) fX1_6 kX1_69 dX1_reach_26 (kk := fun hr26 => ?_)
  simp only [up_same, up_cell, up_slot, ne_eq, not_false_eq_true, Nat.reduceEqDiff, Int.reduceEq, reduceCtorEq, Nat.reduceAdd, Int.reduceAdd, Int.reduceSub] at hr26 ⊢
  refine g_iload_n (M := mX1_reach) (pc := 29) dX1_reach_29 rfl (k := ?_)
  refine g_cS2I (M := mX1_reach) (pc := 30) (c_X10_bit Γ t _ _ _) qX10_bit vX10_bit kX1_78 dX1_reach_30 (kk := ?_)
  rintro _ _ ⟨e1, e⟩; rw [e1, e]; clear e1 e
  have hq30_0 := zbitR (σ 66 6) h
  refine g_if_ne (M := mX1_reach) (pc := 33) (tgt := 64) (by omega) dX1_reach_33 (k1 := fun h33 => ?_) (k2 := fun h33 => ?_)
  · skip
    refine g_aload_n (M := mX1_reach) (pc := 64) dX1_reach_64 rfl (k := ?_)
    refine g_iload_n (M := mX1_reach) (pc := 65) dX1_reach_65 rfl (k := ?_)
    refine g_put (M := mX1_reach) (pc := 66) (ji := 5) (by rfl) fX1_5 kX1_57 dX1_reach_66 (by omega) (kk := ?_)
    refine g_aload_n (M := mX1_reach) (pc := 69) dX1_reach_69 rfl (k := ?_)
    refine g_get (M := mX1_reach) (pc := 70) (ji := 7) (by rfl) fX1_7 kX1_51 dX1_reach_70 (kk := fun hr70 => ?_)
    simp only [up_same, up_cell, up_slot, ne_eq, not_false_eq_true, Nat.reduceEqDiff, Int.reduceEq, reduceCtorEq, Nat.reduceAdd, Int.reduceAdd, Int.reduceSub] at hr70 ⊢
    refine g_aload_n (M := mX1_reach) (pc := 73) dX1_reach_73 rfl (k := ?_)
    refine g_getr (M := mX1_reach) (pc := 74) (by rfl) fX1_1 kX1_22 dX1_reach_74 (by rfl) (kk := ?_)
    refine g_aload_n (M := mX1_reach) (pc := 77) dX1_reach_77 rfl (k := ?_)
    refine g_getr (M := mX1_reach) (pc := 78) (by rfl) fX1_0 kX1_18 dX1_reach_78 (by rfl) (kk := ?_)
    refine g_get (M := mX1_reach) (pc := 81) (ji := 13) (by rfl) fX5_13 kX1_85 dX1_reach_81 (kk := fun hr81 => ?_)
    simp only [up_same, up_cell, up_slot, ne_eq, not_false_eq_true, Nat.reduceEqDiff, Int.reduceEq, reduceCtorEq, Nat.reduceAdd, Int.reduceAdd, Int.reduceSub] at hr81 ⊢
    refine g_cV1I (M := mX1_reach) (pc := 84) (c_X9_dawnOf Γ t _ _ (by refine ivu66_5 ?_ (by omega) (by omega); refine iv_free ?_ (by rfl); exact hI) (by first | omega | (simp only [up_same, up_cell, up_slot, ne_eq, not_false_eq_true, Nat.reduceEqDiff, Int.reduceEq, reduceCtorEq, Nat.reduceAdd, Int.reduceAdd, Int.reduceSub]; done) | (simp only [up_same, up_cell, up_slot, ne_eq, not_false_eq_true, Nat.reduceEqDiff, Int.reduceEq, reduceCtorEq, Nat.reduceAdd, Int.reduceAdd, Int.reduceSub]; omega))) qX9_dawnOf vX9_dawnOf sX9_dawnOf kX1_88 dX1_reach_84 (kk := ?_)
    rintro r84 _ ⟨hi84, e⟩; rw [e]; clear e
    try simp only [up_same, up_cell, up_slot, ne_eq, not_false_eq_true, Nat.reduceEqDiff, Int.reduceEq, reduceCtorEq, Nat.reduceAdd, Int.reduceAdd, Int.reduceSub] at hi84
    refine g_icmp_ge (M := mX1_reach) (pc := 87) (tgt := 102) (by omega) (by omega) dX1_reach_87 (k1 := fun h87 => ?_) (k2 := fun h87 => ?_)
    · skip
      refine g_iconst (M := mX1_reach) (pc := 102) dX1_reach_102 (k := ?_)
      refine g_istore_2 (M := mX1_reach) (pc := 103) dX1_reach_103 (k := ?_)
      refine g_iload_n (M := mX1_reach) (pc := 104) dX1_reach_104 rfl (k := ?_)
      refine g_if_eq (M := mX1_reach) (pc := 105) (tgt := 121) (by omega) dX1_reach_105 (k1 := fun h105 => ?_) (k2 := fun h105 => ?_)
      · skip
        refine g_iload_n (M := mX1_reach) (pc := 121) dX1_reach_121 rfl (k := ?_)
        refine g_zret (M := mX1_reach) (pc := 122) (by first | omega | (unfold b2; split <;> omega)) rfl dX1_reach_122 rfl ⟨_, _, rfl, rfl, ?_⟩
        refine ⟨?_, ?_, ?_, ?_⟩
        · omega
        · (try simp only [up_same, up_cell, up_slot, ne_eq, not_false_eq_true, Nat.reduceEqDiff, Int.reduceEq, reduceCtorEq, Nat.reduceAdd, Int.reduceAdd, Int.reduceSub]); omega
        · refine ivu66_5 ?_ (by omega) (by omega); refine iv_free ?_ (by rfl); exact hI
        · refine Fr.up ?_ (by first | rfl | (unfold scN; simp; try omega)); refine Fr.up ?_ (by first | rfl | (unfold scN; simp; try omega)); exact (Fr.rf)
      · omega
    · skip
      refine g_aload_n (M := mX1_reach) (pc := 90) dX1_reach_90 rfl (k := ?_)
      refine g_iload_n (M := mX1_reach) (pc := 91) dX1_reach_91 rfl (k := ?_)
      refine g_cV1I (M := mX1_reach) (pc := 92) (c_X1_isLet Γ t _ _ (by refine ivu66_5 ?_ (by omega) (by omega); refine iv_free ?_ (by rfl); exact hI) (by first | omega | (simp only [up_same, up_cell, up_slot, ne_eq, not_false_eq_true, Nat.reduceEqDiff, Int.reduceEq, reduceCtorEq, Nat.reduceAdd, Int.reduceAdd, Int.reduceSub]; done) | (simp only [up_same, up_cell, up_slot, ne_eq, not_false_eq_true, Nat.reduceEqDiff, Int.reduceEq, reduceCtorEq, Nat.reduceAdd, Int.reduceAdd, Int.reduceSub]; omega))) qX1_isLet vX1_isLet sX1_isLet kX1_91 dX1_reach_92 (kk := ?_)
      rintro r92 τ92 ⟨hi92, hI92, hG92⟩
      try simp only [up_same, up_cell, up_slot, ne_eq, not_false_eq_true, Nat.reduceEqDiff, Int.reduceEq, reduceCtorEq, Nat.reduceAdd, Int.reduceAdd, Int.reduceSub] at hi92
      have hk92_66_7 := hG92 66 7 rfl
      simp only [up_same, up_cell, up_slot, ne_eq, not_false_eq_true, Nat.reduceEqDiff, Int.reduceEq, reduceCtorEq, Nat.reduceAdd, Int.reduceAdd, Int.reduceSub] at hk92_66_7
      have hF92 : Fr scN σ τ92 := by refine Fr.tr ?_ (Fr.mono hG92 sb_scC_scN); refine Fr.up ?_ (by first | rfl | (unfold scN; simp; try omega)); refine Fr.up ?_ (by first | rfl | (unfold scN; simp; try omega)); exact (Fr.rf)
      refine g_if_eq (M := mX1_reach) (pc := 95) (tgt := 102) (by omega) dX1_reach_95 (k1 := fun h95 => ?_) (k2 := fun h95 => ?_)
      · skip
        refine g_iconst (M := mX1_reach) (pc := 102) dX1_reach_102 (k := ?_)
        refine g_istore_2 (M := mX1_reach) (pc := 103) dX1_reach_103 (k := ?_)
        refine g_iload_n (M := mX1_reach) (pc := 104) dX1_reach_104 rfl (k := ?_)
        refine g_if_eq (M := mX1_reach) (pc := 105) (tgt := 121) (by omega) dX1_reach_105 (k1 := fun h105 => ?_) (k2 := fun h105 => ?_)
        · skip
          refine g_iload_n (M := mX1_reach) (pc := 121) dX1_reach_121 rfl (k := ?_)
          refine g_zret (M := mX1_reach) (pc := 122) (by first | omega | (unfold b2; split <;> omega)) rfl dX1_reach_122 rfl ⟨_, _, rfl, rfl, ?_⟩
          refine ⟨?_, ?_, ?_, ?_⟩
          · omega
          · (try simp only [up_same, up_cell, up_slot, ne_eq, not_false_eq_true, Nat.reduceEqDiff, Int.reduceEq, reduceCtorEq, Nat.reduceAdd, Int.reduceAdd, Int.reduceSub]); omega
          · exact hI92
          · exact hF92
        · omega
      · skip
        refine g_iconst (M := mX1_reach) (pc := 98) dX1_reach_98 (k := ?_)
        refine g_goto (M := mX1_reach) (pc := 99) (tgt := 103) dX1_reach_99 (k := ?_)
        refine g_istore_2 (M := mX1_reach) (pc := 103) dX1_reach_103 (k := ?_)
        refine g_iload_n (M := mX1_reach) (pc := 104) dX1_reach_104 rfl (k := ?_)
        refine g_if_eq (M := mX1_reach) (pc := 105) (tgt := 121) (by omega) dX1_reach_105 (k1 := fun h105 => ?_) (k2 := fun h105 => ?_)
        · omega
        · skip
          refine g_aload_n (M := mX1_reach) (pc := 108) dX1_reach_108 rfl (k := ?_)
          refine g_aload_n (M := mX1_reach) (pc := 109) dX1_reach_109 rfl (k := ?_)
          refine g_get (M := mX1_reach) (pc := 110) (ji := 9) (by rfl) fX1_9 kX1_66 dX1_reach_110 (kk := fun hr110 => ?_)
          refine g_iload_n (M := mX1_reach) (pc := 113) dX1_reach_113 rfl (k := ?_)
          refine g_iconst (M := mX1_reach) (pc := 114) dX1_reach_114 (k := ?_)
          refine g_cS3I (M := mX1_reach) (pc := 115) (c_X10_withBit Γ t _ _ _ _ (by omega)) qX10_withBit vX10_withBit kX1_81 dX1_reach_115 (kk := ?_)
          rintro _ _ ⟨e1, e⟩; rw [e1, e]; clear e1 e
          have hq115_0 := zwithR (τ92 66 9) h 1
          refine g_put (M := mX1_reach) (pc := 118) (ji := 9) (by rfl) fX1_9 kX1_66 dX1_reach_118 (by omega) (kk := ?_)
          refine g_iload_n (M := mX1_reach) (pc := 121) dX1_reach_121 rfl (k := ?_)
          refine g_zret (M := mX1_reach) (pc := 122) (by first | omega | (unfold b2; split <;> omega)) rfl dX1_reach_122 rfl ⟨_, _, rfl, rfl, ?_⟩
          refine ⟨?_, ?_, ?_, ?_⟩
          · omega
          · (try simp only [up_same, up_cell, up_slot, ne_eq, not_false_eq_true, Nat.reduceEqDiff, Int.reduceEq, reduceCtorEq, Nat.reduceAdd, Int.reduceAdd, Int.reduceSub]); omega
          · refine iv_free ?_ (by rfl); exact hI92
          · refine Fr.up ?_ (by first | rfl | (unfold scN; simp; try omega)); exact hF92
  · skip
    refine g_aload_n (M := mX1_reach) (pc := 36) dX1_reach_36 rfl (k := ?_)
    refine g_dupR (M := mX1_reach) (pc := 37) dX1_reach_37 (k := ?_)
    refine g_get (M := mX1_reach) (pc := 38) (ji := 7) (by rfl) fX1_7 kX1_51 dX1_reach_38 (kk := fun hr38 => ?_)
    simp only [up_same, up_cell, up_slot, ne_eq, not_false_eq_true, Nat.reduceEqDiff, Int.reduceEq, reduceCtorEq, Nat.reduceAdd, Int.reduceAdd, Int.reduceSub] at hr38 ⊢
    refine g_aload_n (M := mX1_reach) (pc := 41) dX1_reach_41 rfl (k := ?_)
    refine g_getr (M := mX1_reach) (pc := 42) (by rfl) fX1_3 kX1_15 dX1_reach_42 (by rfl) (kk := ?_)
    refine g_iload_n (M := mX1_reach) (pc := 45) dX1_reach_45 rfl (k := ?_)
    refine g_iald (M := mX1_reach) (pc := 46) (by rfl) (by omega) (by omega) dX1_reach_46 (kk := fun hr46 => ?_)
    simp only [up_same, up_cell, up_slot, ne_eq, not_false_eq_true, Nat.reduceEqDiff, Int.reduceEq, reduceCtorEq, Nat.reduceAdd, Int.reduceAdd, Int.reduceSub] at hr46 ⊢
    have hb46 := iv68_0 hI h (by omega) (by omega)
    refine g_iadd (M := mX1_reach) (pc := 47) dX1_reach_47 (k := ?_)
    refine g_put (M := mX1_reach) (pc := 48) (ji := 7) (by rfl) fX1_7 kX1_51 dX1_reach_48 (by omega) (kk := ?_)
    refine g_aload_n (M := mX1_reach) (pc := 51) dX1_reach_51 rfl (k := ?_)
    refine g_aload_n (M := mX1_reach) (pc := 52) dX1_reach_52 rfl (k := ?_)
    refine g_get (M := mX1_reach) (pc := 53) (ji := 6) (by rfl) fX1_6 kX1_69 dX1_reach_53 (kk := fun hr53 => ?_)
    simp only [up_same, up_cell, up_slot, ne_eq, not_false_eq_true, Nat.reduceEqDiff, Int.reduceEq, reduceCtorEq, Nat.reduceAdd, Int.reduceAdd, Int.reduceSub] at hr53 ⊢
    refine g_iload_n (M := mX1_reach) (pc := 56) dX1_reach_56 rfl (k := ?_)
    refine g_iconst (M := mX1_reach) (pc := 57) dX1_reach_57 (k := ?_)
    refine g_cS3I (M := mX1_reach) (pc := 58) (c_X10_withBit Γ t _ _ _ _ (by first | omega | (simp only [up_same, up_cell, up_slot, ne_eq, not_false_eq_true, Nat.reduceEqDiff, Int.reduceEq, reduceCtorEq, Nat.reduceAdd, Int.reduceAdd, Int.reduceSub]; done) | (simp only [up_same, up_cell, up_slot, ne_eq, not_false_eq_true, Nat.reduceEqDiff, Int.reduceEq, reduceCtorEq, Nat.reduceAdd, Int.reduceAdd, Int.reduceSub]; omega))) qX10_withBit vX10_withBit kX1_81 dX1_reach_58 (kk := ?_)
    rintro _ _ ⟨e1, e⟩; rw [e1, e]; clear e1 e
    have hq58_0 := zwithR (σ 66 6) h 1
    refine g_put (M := mX1_reach) (pc := 61) (ji := 6) (by rfl) fX1_6 kX1_69 dX1_reach_61 (by omega) (kk := ?_)
    refine g_aload_n (M := mX1_reach) (pc := 64) dX1_reach_64 rfl (k := ?_)
    refine g_iload_n (M := mX1_reach) (pc := 65) dX1_reach_65 rfl (k := ?_)
    refine g_put (M := mX1_reach) (pc := 66) (ji := 5) (by rfl) fX1_5 kX1_57 dX1_reach_66 (by omega) (kk := ?_)
    refine g_aload_n (M := mX1_reach) (pc := 69) dX1_reach_69 rfl (k := ?_)
    refine g_get (M := mX1_reach) (pc := 70) (ji := 7) (by rfl) fX1_7 kX1_51 dX1_reach_70 (kk := fun hr70 => ?_)
    simp only [up_same, up_cell, up_slot, ne_eq, not_false_eq_true, Nat.reduceEqDiff, Int.reduceEq, reduceCtorEq, Nat.reduceAdd, Int.reduceAdd, Int.reduceSub] at hr70 ⊢
    refine g_aload_n (M := mX1_reach) (pc := 73) dX1_reach_73 rfl (k := ?_)
    refine g_getr (M := mX1_reach) (pc := 74) (by rfl) fX1_1 kX1_22 dX1_reach_74 (by rfl) (kk := ?_)
    refine g_aload_n (M := mX1_reach) (pc := 77) dX1_reach_77 rfl (k := ?_)
    refine g_getr (M := mX1_reach) (pc := 78) (by rfl) fX1_0 kX1_18 dX1_reach_78 (by rfl) (kk := ?_)
    refine g_get (M := mX1_reach) (pc := 81) (ji := 13) (by rfl) fX5_13 kX1_85 dX1_reach_81 (kk := fun hr81 => ?_)
    simp only [up_same, up_cell, up_slot, ne_eq, not_false_eq_true, Nat.reduceEqDiff, Int.reduceEq, reduceCtorEq, Nat.reduceAdd, Int.reduceAdd, Int.reduceSub] at hr81 ⊢
    refine g_cV1I (M := mX1_reach) (pc := 84) (c_X9_dawnOf Γ t _ _ (by refine ivu66_5 ?_ (by omega) (by omega); refine iv_free ?_ (by rfl); refine iv_free ?_ (by rfl); refine iv_free ?_ (by rfl); exact hI) (by first | omega | (simp only [up_same, up_cell, up_slot, ne_eq, not_false_eq_true, Nat.reduceEqDiff, Int.reduceEq, reduceCtorEq, Nat.reduceAdd, Int.reduceAdd, Int.reduceSub]; done) | (simp only [up_same, up_cell, up_slot, ne_eq, not_false_eq_true, Nat.reduceEqDiff, Int.reduceEq, reduceCtorEq, Nat.reduceAdd, Int.reduceAdd, Int.reduceSub]; omega))) qX9_dawnOf vX9_dawnOf sX9_dawnOf kX1_88 dX1_reach_84 (kk := ?_)
    rintro r84 _ ⟨hi84, e⟩; rw [e]; clear e
    try simp only [up_same, up_cell, up_slot, ne_eq, not_false_eq_true, Nat.reduceEqDiff, Int.reduceEq, reduceCtorEq, Nat.reduceAdd, Int.reduceAdd, Int.reduceSub] at hi84
    refine g_icmp_ge (M := mX1_reach) (pc := 87) (tgt := 102) (by omega) (by omega) dX1_reach_87 (k1 := fun h87 => ?_) (k2 := fun h87 => ?_)
    · skip
      refine g_iconst (M := mX1_reach) (pc := 102) dX1_reach_102 (k := ?_)
      refine g_istore_2 (M := mX1_reach) (pc := 103) dX1_reach_103 (k := ?_)
      refine g_iload_n (M := mX1_reach) (pc := 104) dX1_reach_104 rfl (k := ?_)
      refine g_if_eq (M := mX1_reach) (pc := 105) (tgt := 121) (by omega) dX1_reach_105 (k1 := fun h105 => ?_) (k2 := fun h105 => ?_)
      · skip
        refine g_iload_n (M := mX1_reach) (pc := 121) dX1_reach_121 rfl (k := ?_)
        refine g_zret (M := mX1_reach) (pc := 122) (by first | omega | (unfold b2; split <;> omega)) rfl dX1_reach_122 rfl ⟨_, _, rfl, rfl, ?_⟩
        refine ⟨?_, ?_, ?_, ?_⟩
        · omega
        · (try simp only [up_same, up_cell, up_slot, ne_eq, not_false_eq_true, Nat.reduceEqDiff, Int.reduceEq, reduceCtorEq, Nat.reduceAdd, Int.reduceAdd, Int.reduceSub]); omega
        · refine ivu66_5 ?_ (by omega) (by omega); refine iv_free ?_ (by rfl); refine iv_free ?_ (by rfl); refine iv_free ?_ (by rfl); exact hI
        · refine Fr.up ?_ (by first | rfl | (unfold scN; simp; try omega)); refine Fr.up ?_ (by first | rfl | (unfold scN; simp; try omega)); refine Fr.up ?_ (by first | rfl | (unfold scN; simp; try omega)); refine Fr.up ?_ (by first | rfl | (unfold scN; simp; try omega)); exact (Fr.rf)
      · omega
    · skip
      refine g_aload_n (M := mX1_reach) (pc := 90) dX1_reach_90 rfl (k := ?_)
      refine g_iload_n (M := mX1_reach) (pc := 91) dX1_reach_91 rfl (k := ?_)
      refine g_cV1I (M := mX1_reach) (pc := 92) (c_X1_isLet Γ t _ _ (by refine ivu66_5 ?_ (by omega) (by omega); refine iv_free ?_ (by rfl); refine iv_free ?_ (by rfl); refine iv_free ?_ (by rfl); exact hI) (by first | omega | (simp only [up_same, up_cell, up_slot, ne_eq, not_false_eq_true, Nat.reduceEqDiff, Int.reduceEq, reduceCtorEq, Nat.reduceAdd, Int.reduceAdd, Int.reduceSub]; done) | (simp only [up_same, up_cell, up_slot, ne_eq, not_false_eq_true, Nat.reduceEqDiff, Int.reduceEq, reduceCtorEq, Nat.reduceAdd, Int.reduceAdd, Int.reduceSub]; omega))) qX1_isLet vX1_isLet sX1_isLet kX1_91 dX1_reach_92 (kk := ?_)
      rintro r92 τ92 ⟨hi92, hI92, hG92⟩
      try simp only [up_same, up_cell, up_slot, ne_eq, not_false_eq_true, Nat.reduceEqDiff, Int.reduceEq, reduceCtorEq, Nat.reduceAdd, Int.reduceAdd, Int.reduceSub] at hi92
      have hk92_66_7 := hG92 66 7 rfl
      simp only [up_same, up_cell, up_slot, ne_eq, not_false_eq_true, Nat.reduceEqDiff, Int.reduceEq, reduceCtorEq, Nat.reduceAdd, Int.reduceAdd, Int.reduceSub] at hk92_66_7
      have hF92 : Fr scN σ τ92 := by refine Fr.tr ?_ (Fr.mono hG92 sb_scC_scN); refine Fr.up ?_ (by first | rfl | (unfold scN; simp; try omega)); refine Fr.up ?_ (by first | rfl | (unfold scN; simp; try omega)); refine Fr.up ?_ (by first | rfl | (unfold scN; simp; try omega)); refine Fr.up ?_ (by first | rfl | (unfold scN; simp; try omega)); exact (Fr.rf)
      refine g_if_eq (M := mX1_reach) (pc := 95) (tgt := 102) (by omega) dX1_reach_95 (k1 := fun h95 => ?_) (k2 := fun h95 => ?_)
      · skip
        refine g_iconst (M := mX1_reach) (pc := 102) dX1_reach_102 (k := ?_)
        refine g_istore_2 (M := mX1_reach) (pc := 103) dX1_reach_103 (k := ?_)
        refine g_iload_n (M := mX1_reach) (pc := 104) dX1_reach_104 rfl (k := ?_)
        refine g_if_eq (M := mX1_reach) (pc := 105) (tgt := 121) (by omega) dX1_reach_105 (k1 := fun h105 => ?_) (k2 := fun h105 => ?_)
        · skip
          refine g_iload_n (M := mX1_reach) (pc := 121) dX1_reach_121 rfl (k := ?_)
          refine g_zret (M := mX1_reach) (pc := 122) (by first | omega | (unfold b2; split <;> omega)) rfl dX1_reach_122 rfl ⟨_, _, rfl, rfl, ?_⟩
          refine ⟨?_, ?_, ?_, ?_⟩
          · omega
          · (try simp only [up_same, up_cell, up_slot, ne_eq, not_false_eq_true, Nat.reduceEqDiff, Int.reduceEq, reduceCtorEq, Nat.reduceAdd, Int.reduceAdd, Int.reduceSub]); omega
          · exact hI92
          · exact hF92
        · omega
      · skip
        refine g_iconst (M := mX1_reach) (pc := 98) dX1_reach_98 (k := ?_)
        refine g_goto (M := mX1_reach) (pc := 99) (tgt := 103) dX1_reach_99 (k := ?_)
        refine g_istore_2 (M := mX1_reach) (pc := 103) dX1_reach_103 (k := ?_)
        refine g_iload_n (M := mX1_reach) (pc := 104) dX1_reach_104 rfl (k := ?_)
        refine g_if_eq (M := mX1_reach) (pc := 105) (tgt := 121) (by omega) dX1_reach_105 (k1 := fun h105 => ?_) (k2 := fun h105 => ?_)
        · omega
        · skip
          refine g_aload_n (M := mX1_reach) (pc := 108) dX1_reach_108 rfl (k := ?_)
          refine g_aload_n (M := mX1_reach) (pc := 109) dX1_reach_109 rfl (k := ?_)
          refine g_get (M := mX1_reach) (pc := 110) (ji := 9) (by rfl) fX1_9 kX1_66 dX1_reach_110 (kk := fun hr110 => ?_)
          refine g_iload_n (M := mX1_reach) (pc := 113) dX1_reach_113 rfl (k := ?_)
          refine g_iconst (M := mX1_reach) (pc := 114) dX1_reach_114 (k := ?_)
          refine g_cS3I (M := mX1_reach) (pc := 115) (c_X10_withBit Γ t _ _ _ _ (by omega)) qX10_withBit vX10_withBit kX1_81 dX1_reach_115 (kk := ?_)
          rintro _ _ ⟨e1, e⟩; rw [e1, e]; clear e1 e
          have hq115_0 := zwithR (τ92 66 9) h 1
          refine g_put (M := mX1_reach) (pc := 118) (ji := 9) (by rfl) fX1_9 kX1_66 dX1_reach_118 (by omega) (kk := ?_)
          refine g_iload_n (M := mX1_reach) (pc := 121) dX1_reach_121 rfl (k := ?_)
          refine g_zret (M := mX1_reach) (pc := 122) (by first | omega | (unfold b2; split <;> omega)) rfl dX1_reach_122 rfl ⟨_, _, rfl, rfl, ?_⟩
          refine ⟨?_, ?_, ?_, ?_⟩
          · omega
          · (try simp only [up_same, up_cell, up_slot, ne_eq, not_false_eq_true, Nat.reduceEqDiff, Int.reduceEq, reduceCtorEq, Nat.reduceAdd, Int.reduceAdd, Int.reduceSub]); omega
          · refine iv_free ?_ (by rfl); exact hI92
          · refine Fr.up ?_ (by first | rfl | (unfold scN; simp; try omega)); exact hF92
set_option maxHeartbeats 4000000 in
set_option maxRecDepth 20000 in
theorem c_X1_isLetIn (Γ : KT) (t : Nat) (σ : Nat → Int → Int) (f : Int) (h : Int) (m : Int) (hI : InvX σ) (hf : 0 ≤ f ∧ f < 4) (hh : 0 ≤ h ∧ h < 6) (hm : R32 m) : Ct Γ mX1_isLetIn 4 (0, 0) [vR Γ 66, vI f, vI h, vI m] (113, ρT t, σ) (pI 113 (ρT t) (fun r σ' => (0 ≤ r ∧ r ≤ 1) ∧ (InvX σ') ∧ (Fr scX σ σ'))) := by
  refine Ct.of rfl (Nat.le_of_ble_eq_true rfl) ?_
  show G Γ mX1_isLetIn 4 (0, 0) _ (0, 0) 0 [some (vR Γ 66), some (vI f), some (vI h), some (vI m)] [] (113, ρT t, σ)
  refine g_aload_n (M := mX1_isLetIn) (pc := 0) dX1_isLetIn_0 rfl (k := ?_)
  refine g_iload_n (M := mX1_isLetIn) (pc := 1) dX1_isLetIn_1 rfl (k := ?_)
  refine g_iload_n (M := mX1_isLetIn) (pc := 2) dX1_isLetIn_2 rfl (k := ?_)
  refine g_cV2V (M := mX1_isLetIn) (pc := 3) (c_X1_begin Γ t _ _ _ hI (by omega) (by omega)) qX1_begin vX1_begin sX1_begin kX1_95 dX1_isLetIn_3 (kk := ?_)
  rintro τ3 ⟨hm3, hI3, hG3⟩
  have hF3 : Fr scX σ τ3 := by refine Fr.tr ?_ (Fr.mono hG3 sb_scN_scX); exact (Fr.rf)
  refine g_aload_n (M := mX1_isLetIn) (pc := 6) dX1_isLetIn_6 rfl (k := ?_)
  refine g_get (M := mX1_isLetIn) (pc := 7) (ji := 7) (by rfl) fX1_7 kX1_51 dX1_isLetIn_7 (kk := fun hr7 => ?_)
  refine g_aload_n (M := mX1_isLetIn) (pc := 10) dX1_isLetIn_10 rfl (k := ?_)
  refine g_getr (M := mX1_isLetIn) (pc := 11) (by rfl) fX1_1 kX1_22 dX1_isLetIn_11 (by rfl) (kk := ?_)
  refine g_aload_n (M := mX1_isLetIn) (pc := 14) dX1_isLetIn_14 rfl (k := ?_)
  refine g_getr (M := mX1_isLetIn) (pc := 15) (by rfl) fX1_0 kX1_18 dX1_isLetIn_15 (by rfl) (kk := ?_)
  refine g_get (M := mX1_isLetIn) (pc := 18) (ji := 13) (by rfl) fX5_13 kX1_85 dX1_isLetIn_18 (kk := fun hr18 => ?_)
  refine g_cV1I (M := mX1_isLetIn) (pc := 21) (c_X9_dawnOf Γ t _ _ hI3 (by omega)) qX9_dawnOf vX9_dawnOf sX9_dawnOf kX1_88 dX1_isLetIn_21 (kk := ?_)
  rintro r21 _ ⟨hi21, e⟩; rw [e]; clear e
  refine g_icmp_ge (M := mX1_isLetIn) (pc := 24) (tgt := 39) (by omega) (by omega) dX1_isLetIn_24 (k1 := fun h24 => ?_) (k2 := fun h24 => ?_)
  · skip
    refine g_iconst (M := mX1_isLetIn) (pc := 39) dX1_isLetIn_39 (k := ?_)
    refine g_zret (M := mX1_isLetIn) (pc := 40) (by first | omega | (unfold b2; split <;> omega)) rfl dX1_isLetIn_40 rfl ⟨_, _, rfl, rfl, ?_⟩
    refine ⟨?_, ?_, ?_⟩
    · omega
    · exact hI3
    · exact hF3
  · skip
    refine g_aload_n (M := mX1_isLetIn) (pc := 27) dX1_isLetIn_27 rfl (k := ?_)
    refine g_iload_n (M := mX1_isLetIn) (pc := 28) dX1_isLetIn_28 rfl (k := ?_)
    refine g_cV1I (M := mX1_isLetIn) (pc := 29) (c_X1_isLet Γ t _ _ hI3 (by omega)) qX1_isLet vX1_isLet sX1_isLet kX1_91 dX1_isLetIn_29 (kk := ?_)
    rintro r29 τ29 ⟨hi29, hI29, hG29⟩
    have hF29 : Fr scX σ τ29 := by refine Fr.tr ?_ (Fr.mono hG29 sb_scC_scX); exact hF3
    refine g_if_eq (M := mX1_isLetIn) (pc := 32) (tgt := 39) (by omega) dX1_isLetIn_32 (k1 := fun h32 => ?_) (k2 := fun h32 => ?_)
    · skip
      refine g_iconst (M := mX1_isLetIn) (pc := 39) dX1_isLetIn_39 (k := ?_)
      refine g_zret (M := mX1_isLetIn) (pc := 40) (by first | omega | (unfold b2; split <;> omega)) rfl dX1_isLetIn_40 rfl ⟨_, _, rfl, rfl, ?_⟩
      refine ⟨?_, ?_, ?_⟩
      · omega
      · exact hI29
      · exact hF29
    · skip
      refine g_iconst (M := mX1_isLetIn) (pc := 35) dX1_isLetIn_35 (k := ?_)
      refine g_goto (M := mX1_isLetIn) (pc := 36) (tgt := 40) dX1_isLetIn_36 (k := ?_)
      refine g_zret (M := mX1_isLetIn) (pc := 40) (by first | omega | (unfold b2; split <;> omega)) rfl dX1_isLetIn_40 rfl ⟨_, _, rfl, rfl, ?_⟩
      refine ⟨?_, ?_, ?_⟩
      · omega
      · exact hI29
      · exact hF29
