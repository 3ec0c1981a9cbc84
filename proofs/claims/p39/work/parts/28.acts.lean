set_option maxHeartbeats 4000000 in
set_option maxRecDepth 20000 in
theorem c_X0_forget (Γ : KT) (t : Nat) (σ : Nat → Int → Int)  : Ct Γ mX0_forget 1 (0, 0) [vR Γ 21] (113, ρT t, σ) (pV 113 (ρT t) (fun σ' => σ' = (up σ 21 1 0))) := by
  refine Ct.of rfl (Nat.le_of_ble_eq_true rfl) ?_
  show G Γ mX0_forget 1 (0, 0) _ (0, 0) 0 [some (vR Γ 21)] [] (113, ρT t, σ)
  refine g_aload_n (M := mX0_forget) (pc := 0) dX0_forget_0 rfl (k := ?_)
  refine g_iconst (M := mX0_forget) (pc := 1) dX0_forget_1 (k := ?_)
  refine g_put (M := mX0_forget) (pc := 2) (ji := 1) (by rfl) fX0_1 kX0_15 dX0_forget_2 (by omega) (kk := ?_)
  refine g_vret (M := mX0_forget) (pc := 5) rfl dX0_forget_5 rfl ⟨_, rfl, rfl, ?_⟩
  rfl
set_option maxHeartbeats 4000000 in
set_option maxRecDepth 20000 in
theorem c_X0_begun (Γ : KT) (t : Nat) (σ : Nat → Int → Int) (i : Int) (hI : InvX σ) (hi : R32 i) : Ct Γ mX0_begun 2 (0, 0) [vR Γ 21, vI i] (113, ρT t, σ) (pI 113 (ρT t) (fun r σ' => (R32 r) ∧ ((0 ≤ i ∧ i < σ 21 1 ∧ i < 20 ∧ r = σ 22 i) ∨ (¬ (0 ≤ i ∧ i < σ 21 1 ∧ i < 20) ∧ r = -1)) ∧ σ' = σ)) := by
  refine Ct.of rfl (Nat.le_of_ble_eq_true rfl) ?_
  show G Γ mX0_begun 2 (0, 0) _ (0, 0) 0 [some (vR Γ 21), some (vI i)] [] (113, ρT t, σ)
  refine g_iload_n (M := mX0_begun) (pc := 0) dX0_begun_0 rfl (k := ?_)
  refine g_aload_n (M := mX0_begun) (pc := 1) dX0_begun_1 rfl (k := ?_)
  refine g_get (M := mX0_begun) (pc := 2) (ji := 1) (by rfl) fX0_1 kX0_15 dX0_begun_2 (kk := fun hr2 => ?_)
  have hb2 := iv21_1 hI 1 (by omega) (by omega)
  refine g_bipush (M := mX0_begun) (pc := 5) dX0_begun_5 (k := ?_)
  refine g_min2 (M := mX0_begun) (pc := 7) (by omega) (by omega) kmX0_19 nm_min dX0_begun_7 (by omega) rfl (k := fun c7 hz7 => ?_)
  refine g_iconst (M := mX0_begun) (pc := 10) dX0_begun_10 (k := ?_)
  refine g_isub (M := mX0_begun) (pc := 11) dX0_begun_11 (k := ?_)
  refine g_cS2I (M := mX0_begun) (pc := 12) (c_X10_isUpTo Γ t _ _ _ (by omega) (by omega)) qX10_isUpTo vX10_isUpTo kX0_25 dX0_begun_12 (kk := ?_)
  rintro _ _ ⟨e1, e⟩; rw [e1, e]; clear e1 e
  refine g_if_eqB (M := mX0_begun) (pc := 15) (tgt := 27) dX0_begun_15 (k1 := fun h15 => ?_) (k2 := fun h15 => ?_)
  · skip
    refine g_iconst (M := mX0_begun) (pc := 27) dX0_begun_27 (k := ?_)
    refine g_iret (M := mX0_begun) (pc := 28) rfl dX0_begun_28 rfl ⟨_, _, rfl, rfl, ?_⟩
    refine ⟨?_, ?_, rfl⟩
    · omega
    · omega
  · skip
    refine g_aload_n (M := mX0_begun) (pc := 18) dX0_begun_18 rfl (k := ?_)
    refine g_getr (M := mX0_begun) (pc := 19) (by rfl) fX0_0 kX0_11 dX0_begun_19 (by rfl) (kk := ?_)
    refine g_iload_n (M := mX0_begun) (pc := 22) dX0_begun_22 rfl (k := ?_)
    refine g_iald (M := mX0_begun) (pc := 23) (by rfl) (by omega) (by omega) dX0_begun_23 (kk := fun hr23 => ?_)
    refine g_goto (M := mX0_begun) (pc := 24) (tgt := 28) dX0_begun_24 (k := ?_)
    refine g_iret (M := mX0_begun) (pc := 28) rfl dX0_begun_28 rfl ⟨_, _, rfl, rfl, ?_⟩
    refine ⟨?_, ?_, rfl⟩
    · omega
    · omega
set_option maxHeartbeats 4000000 in
set_option maxRecDepth 20000 in
theorem c_X0_note (Γ : KT) (t : Nat) (σ : Nat → Int → Int) (b : Int) (hI : InvX σ) (hb : R32 b) (hr : σ 21 1 ≤ 20000000) : Ct Γ mX0_note 1 (0, 0) [vR Γ 21, vI b] (113, ρT t, σ) (pV 113 (ρT t) (fun σ' => (σ' 21 1 = σ 21 1 + 1) ∧ ((σ' 21 1, σ' 22) = ntF (σ 21 1, σ 22) b) ∧ (InvX σ') ∧ (Fr scA σ σ'))) := by
  refine Ct.of rfl (Nat.le_of_ble_eq_true rfl) ?_
  show G Γ mX0_note 1 (0, 0) _ (0, 0) 0 [some (vR Γ 21), some (vI b)] [] (113, ρT t, σ)
  refine g_aload_n (M := mX0_note) (pc := 0) dX0_note_0 rfl (k := ?_)
  refine g_get (M := mX0_note) (pc := 1) (ji := 1) (by rfl) fX0_1 kX0_15 dX0_note_1 (kk := fun hr1 => ?_)
  have hb1 := iv21_1 hI 1 (by omega) (by omega)
  refine g_bipush (M := mX0_note) (pc := 4) dX0_note_4 (k := ?_)
  refine g_icmp_ge (M := mX0_note) (pc := 6) (tgt := 19) (by omega) (by omega) dX0_note_6 (k1 := fun h6 => ?_) (k2 := fun h6 => ?_)
  · skip
    refine g_aload_n (M := mX0_note) (pc := 19) dX0_note_19 rfl (k := ?_)
    refine g_dupR (M := mX0_note) (pc := 20) dX0_note_20 (k := ?_)
    refine g_get (M := mX0_note) (pc := 21) (ji := 1) (by rfl) fX0_1 kX0_15 dX0_note_21 (kk := fun hr21 => ?_)
    refine g_iconst (M := mX0_note) (pc := 24) dX0_note_24 (k := ?_)
    refine g_iadd (M := mX0_note) (pc := 25) dX0_note_25 (k := ?_)
    refine g_put (M := mX0_note) (pc := 26) (ji := 1) (by rfl) fX0_1 kX0_15 dX0_note_26 (by omega) (kk := ?_)
    refine g_vret (M := mX0_note) (pc := 29) rfl dX0_note_29 rfl ⟨_, rfl, rfl, ?_⟩
    refine ⟨?_, ?_, ?_, ?_⟩
    · (try simp only [up_same, up_cell, up_slot, ne_eq, not_false_eq_true, Nat.reduceEqDiff, Int.reduceEq, reduceCtorEq, Nat.reduceAdd, Int.reduceAdd, Int.reduceSub]); try omega
    · unfold ntF; dsimp only; first | (rw [if_neg (by omega)]; rfl) | (rw [if_pos (by omega)]; refine Prod.ext rfl (funext fun j => ?_); simp [up])
    · refine ivu21 ?_ (by omega) (by omega); exact hI
    · refine Fr.up ?_ (by first | rfl | (unfold scA; simp; try omega)); exact (Fr.rf)
  · skip
    refine g_aload_n (M := mX0_note) (pc := 9) dX0_note_9 rfl (k := ?_)
    refine g_getr (M := mX0_note) (pc := 10) (by rfl) fX0_0 kX0_11 dX0_note_10 (by rfl) (kk := ?_)
    refine g_aload_n (M := mX0_note) (pc := 13) dX0_note_13 rfl (k := ?_)
    refine g_get (M := mX0_note) (pc := 14) (ji := 1) (by rfl) fX0_1 kX0_15 dX0_note_14 (kk := fun hr14 => ?_)
    refine g_iload_n (M := mX0_note) (pc := 17) dX0_note_17 rfl (k := ?_)
    refine g_iast (M := mX0_note) (pc := 18) (by rfl) (by omega) (by omega) (by omega) dX0_note_18 (kk := ?_)
    refine g_aload_n (M := mX0_note) (pc := 19) dX0_note_19 rfl (k := ?_)
    refine g_dupR (M := mX0_note) (pc := 20) dX0_note_20 (k := ?_)
    refine g_get (M := mX0_note) (pc := 21) (ji := 1) (by rfl) fX0_1 kX0_15 dX0_note_21 (kk := fun hr21 => ?_)
    simp only [up_same, up_cell, up_slot, ne_eq, not_false_eq_true, Nat.reduceEqDiff, Int.reduceEq, reduceCtorEq, Nat.reduceAdd, Int.reduceAdd, Int.reduceSub] at hr21 ⊢
    refine g_iconst (M := mX0_note) (pc := 24) dX0_note_24 (k := ?_)
    refine g_iadd (M := mX0_note) (pc := 25) dX0_note_25 (k := ?_)
    refine g_put (M := mX0_note) (pc := 26) (ji := 1) (by rfl) fX0_1 kX0_15 dX0_note_26 (by omega) (kk := ?_)
    refine g_vret (M := mX0_note) (pc := 29) rfl dX0_note_29 rfl ⟨_, rfl, rfl, ?_⟩
    refine ⟨?_, ?_, ?_, ?_⟩
    · (try simp only [up_same, up_cell, up_slot, ne_eq, not_false_eq_true, Nat.reduceEqDiff, Int.reduceEq, reduceCtorEq, Nat.reduceAdd, Int.reduceAdd, Int.reduceSub]); try omega
    · unfold ntF; dsimp only; first | (rw [if_neg (by omega)]; rfl) | (rw [if_pos (by omega)]; refine Prod.ext rfl (funext fun j => ?_); simp [up])
    · refine ivu21 ?_ (by omega) (by omega); refine iv_cell ?_ (by rfl); exact hI
    · refine Fr.up ?_ (by first | rfl | (unfold scA; simp; try omega)); refine Fr.up ?_ (by first | rfl | (unfold scA; simp; try omega)); exact (Fr.rf)
set_option maxHeartbeats 4000000 in
set_option maxRecDepth 20000 in
theorem c_X0_run (Γ : KT) (t : Nat) (σ : Nat → Int → Int) (k : Nat) (hC : (∀ (σ : Nat → Int → Int) (a fr x dp : Int), InvX σ → (0 ≤ a ∧ a ≤ 2) → R32 fr → σ 21 1 + acN k ≤ 10000000 → (0 ≤ dp ∧ dp + ((k : Nat) : Int) = 20) → Ct Γ mX0_call (2 * k + 3) (0, 0) [vR Γ 21, vI a, vI fr, vI x, vI dp] (113, ρT t, σ) (pI 113 (ρT t) (fun r σ' => (σ' 21 1 ≤ σ 21 1 + acN k) ∧ ((r, σ' 21 1, σ' 22) = calF k (σ 21 2) (σ 21 3) (σ 21 4) a fr x (σ 21 1, σ 22)) ∧ (InvX σ') ∧ (Fr scA σ σ'))))) (b : Int) (ab : Int) (x : Int) (dp : Int) (hI : InvX σ) (hb : R32 b) (hab : R32 ab) (hn : σ 21 1 + (1 + 2 * acN k) ≤ 10000000) (hd : 0 ≤ dp ∧ dp + (k : Int) = 20) : Ct Γ mX0_run (2 * k + 4) (0, 0) [vR Γ 21, vI b, vI ab, vI x, vI dp] (113, ρT t, σ) (pI 113 (ρT t) (fun r σ' => (σ' 21 1 ≤ σ 21 1 + (1 + 2 * acN k)) ∧ ((r, σ' 21 1, σ' 22) = runF (calF k (σ 21 2) (σ 21 3) (σ 21 4)) (σ 21 2) (σ 21 3) (σ 21 4) b ab x (σ 21 1, σ 22)) ∧ (InvX σ') ∧ (Fr scA σ σ'))) := by
  refine Ct.of rfl (Nat.le_of_ble_eq_true rfl) ?_
  show G Γ mX0_run (2 * k + 4) (0, 0) _ (0, 0) 0 [some (vR Γ 21), some (vI b), some (vI ab), some (vI x), some (vI dp)] [] (113, ρT t, σ)
  have hk0 := acN_0 k
  refine g_aload_n (M := mX0_run) (pc := 0) dX0_run_0 rfl (k := ?_)
  refine g_iload_n (M := mX0_run) (pc := 1) dX0_run_1 rfl (k := ?_)
  refine g_cV1V (M := mX0_run) (pc := 2) (c_X0_note Γ t _ _ hI (by omega) (by omega)) qX0_note vX0_note sX0_note kX0_59 dX0_run_2 (kk := ?_)
  rintro τ2 ⟨hn2, hx2, hI2, hG2⟩
  have hF2 : Fr scA σ τ2 := by refine Fr.tr ?_ hG2; exact (Fr.rf)
  refine g_iload_n (M := mX0_run) (pc := 5) dX0_run_5 rfl (k := ?_)
  by_cases hc6_0 : b = 10
  · refine g_lookup (M := mX0_run) (pc := 6) (tgt := 104) (off := 98) (by omega) dX0_run_6 rfl (by rw [hc6_0]; rfl) (k := ?_)
    refine g_iload_n (M := mX0_run) (pc := 104) dX0_run_104 rfl (k := ?_)
    refine g_aload_n (M := mX0_run) (pc := 105) dX0_run_105 rfl (k := ?_)
    refine g_get (M := mX0_run) (pc := 106) (ji := 2) (by rfl) fX0_2 kX0_29 dX0_run_106 (kk := fun hr106 => ?_)
    refine g_iadd (M := mX0_run) (pc := 109) dX0_run_109 (k := ?_)
    refine g_iret (M := mX0_run) (pc := 110) rfl dX0_run_110 rfl ⟨_, _, rfl, rfl, ?_⟩
    refine ⟨?_, ?_, ?_, ?_⟩
    · omega
    · first | (subst hc6_0; rw [run10, ← hx2, hF2 21 2 rfl]) | (subst hc6_1; rw [hF2 21 2 rfl, hF2 21 3 rfl, hF2 21 4 rfl] at hx120; rw [run11, ← hx2, ← hx120, hF120 21 4 rfl]) | (subst hc6_2; rw [hF2 21 2 rfl, hF2 21 3 rfl, hF2 21 4 rfl] at hx138; rw [run12, ← hx2, ← hx138]) | (subst hc6_3; rw [hF2 21 2 rfl, hF2 21 3 rfl, hF2 21 4 rfl] at hx150; rw [run20, ← hx2, ← hx150]) | (subst hc6_4; rw [hF2 21 2 rfl, hF2 21 3 rfl, hF2 21 4 rfl] at hx165; rw [run30, ← hx2, ← hx165]) | (subst hc6_5; rw [hF2 21 2 rfl, hF2 21 3 rfl, hF2 21 4 rfl] at hx175; rw [hF175 21 2 rfl, hF175 21 3 rfl, hF175 21 4 rfl] at hx187; rw [run40, ← hx2, ← hx175]; dsimp only; rw [← hx187]) | (subst hc6_6; rw [hF2 21 2 rfl, hF2 21 3 rfl, hF2 21 4 rfl] at hx198; rw [run50, ← hx2, ← hx198]) | (subst hc6_7; rw [hF2 21 2 rfl, hF2 21 3 rfl, hF2 21 4 rfl] at hx211; rw [run51, ← hx2, ← hx211]) | (subst hc6_8; rw [hF2 21 2 rfl, hF2 21 3 rfl, hF2 21 4 rfl] at hx226; rw [run60, ← hx2, ← hx226]) | (subst hc6_9; rw [hF2 21 2 rfl, hF2 21 3 rfl, hF2 21 4 rfl] at hx236; rw [hF236 21 2 rfl, hF236 21 3 rfl, hF236 21 4 rfl] at hx245; rw [run70, ← hx2, ← hx236]; dsimp only; rw [← hx245]) | (subst hc6_10; rw [hF2 21 2 rfl, hF2 21 3 rfl, hF2 21 4 rfl] at hx256; rw [run71, ← hx2, ← hx256, hF256 21 4 rfl]) | (rw [runN (by omega), ← hx2])
    · exact hI2
    · exact hF2
  by_cases hc6_1 : b = 11
  · refine g_lookup (M := mX0_run) (pc := 6) (tgt := 111) (off := 105) (by omega) dX0_run_6 rfl (by rw [hc6_1]; rfl) (k := ?_)
    refine g_aload_n (M := mX0_run) (pc := 111) dX0_run_111 rfl (k := ?_)
    refine g_iconst (M := mX0_run) (pc := 112) dX0_run_112 (k := ?_)
    refine g_aload_n (M := mX0_run) (pc := 113) dX0_run_113 rfl (k := ?_)
    refine g_get (M := mX0_run) (pc := 114) (ji := 3) (by rfl) fX0_3 kX0_37 dX0_run_114 (kk := fun hr114 => ?_)
    refine g_iload_n (M := mX0_run) (pc := 117) dX0_run_117 rfl (k := ?_)
    refine g_iload (M := mX0_run) (pc := 118) dX0_run_118 rfl (k := ?_)
    refine g_cV4I (M := mX0_run) (pc := 120) (hC _ _ _ _ _ hI2 (by omega) (by omega) (by omega) (by omega)) qX0_call vX0_call sX0_call kX0_46 dX0_run_120 (kk := ?_)
    rintro r120 τ120 ⟨hn120, hx120, hI120, hG120⟩
    have hF120 : Fr scA σ τ120 := by refine Fr.tr ?_ hG120; exact hF2
    refine g_aload_n (M := mX0_run) (pc := 123) dX0_run_123 rfl (k := ?_)
    refine g_get (M := mX0_run) (pc := 124) (ji := 4) (by rfl) fX0_4 kX0_43 dX0_run_124 (kk := fun hr124 => ?_)
    refine g_isub (M := mX0_run) (pc := 127) dX0_run_127 (k := ?_)
    refine g_iret (M := mX0_run) (pc := 128) rfl dX0_run_128 rfl ⟨_, _, rfl, rfl, ?_⟩
    refine ⟨?_, ?_, ?_, ?_⟩
    · omega
    · first | (subst hc6_0; rw [run10, ← hx2, hF2 21 2 rfl]) | (subst hc6_1; rw [hF2 21 2 rfl, hF2 21 3 rfl, hF2 21 4 rfl] at hx120; rw [run11, ← hx2, ← hx120, hF120 21 4 rfl]) | (subst hc6_2; rw [hF2 21 2 rfl, hF2 21 3 rfl, hF2 21 4 rfl] at hx138; rw [run12, ← hx2, ← hx138]) | (subst hc6_3; rw [hF2 21 2 rfl, hF2 21 3 rfl, hF2 21 4 rfl] at hx150; rw [run20, ← hx2, ← hx150]) | (subst hc6_4; rw [hF2 21 2 rfl, hF2 21 3 rfl, hF2 21 4 rfl] at hx165; rw [run30, ← hx2, ← hx165]) | (subst hc6_5; rw [hF2 21 2 rfl, hF2 21 3 rfl, hF2 21 4 rfl] at hx175; rw [hF175 21 2 rfl, hF175 21 3 rfl, hF175 21 4 rfl] at hx187; rw [run40, ← hx2, ← hx175]; dsimp only; rw [← hx187]) | (subst hc6_6; rw [hF2 21 2 rfl, hF2 21 3 rfl, hF2 21 4 rfl] at hx198; rw [run50, ← hx2, ← hx198]) | (subst hc6_7; rw [hF2 21 2 rfl, hF2 21 3 rfl, hF2 21 4 rfl] at hx211; rw [run51, ← hx2, ← hx211]) | (subst hc6_8; rw [hF2 21 2 rfl, hF2 21 3 rfl, hF2 21 4 rfl] at hx226; rw [run60, ← hx2, ← hx226]) | (subst hc6_9; rw [hF2 21 2 rfl, hF2 21 3 rfl, hF2 21 4 rfl] at hx236; rw [hF236 21 2 rfl, hF236 21 3 rfl, hF236 21 4 rfl] at hx245; rw [run70, ← hx2, ← hx236]; dsimp only; rw [← hx245]) | (subst hc6_10; rw [hF2 21 2 rfl, hF2 21 3 rfl, hF2 21 4 rfl] at hx256; rw [run71, ← hx2, ← hx256, hF256 21 4 rfl]) | (rw [runN (by omega), ← hx2])
    · exact hI120
    · exact hF120
  by_cases hc6_2 : b = 12
  · refine g_lookup (M := mX0_run) (pc := 6) (tgt := 129) (off := 123) (by omega) dX0_run_6 rfl (by rw [hc6_2]; rfl) (k := ?_)
    refine g_aload_n (M := mX0_run) (pc := 129) dX0_run_129 rfl (k := ?_)
    refine g_iconst (M := mX0_run) (pc := 130) dX0_run_130 (k := ?_)
    refine g_aload_n (M := mX0_run) (pc := 131) dX0_run_131 rfl (k := ?_)
    refine g_get (M := mX0_run) (pc := 132) (ji := 3) (by rfl) fX0_3 kX0_37 dX0_run_132 (kk := fun hr132 => ?_)
    refine g_iload_n (M := mX0_run) (pc := 135) dX0_run_135 rfl (k := ?_)
    refine g_iload (M := mX0_run) (pc := 136) dX0_run_136 rfl (k := ?_)
    refine g_cV4I (M := mX0_run) (pc := 138) (hC _ _ _ _ _ hI2 (by omega) (by omega) (by omega) (by omega)) qX0_call vX0_call sX0_call kX0_46 dX0_run_138 (kk := ?_)
    rintro r138 τ138 ⟨hn138, hx138, hI138, hG138⟩
    have hF138 : Fr scA σ τ138 := by refine Fr.tr ?_ hG138; exact hF2
    refine g_iconst (M := mX0_run) (pc := 141) dX0_run_141 (k := ?_)
    refine g_imul (M := mX0_run) (pc := 142) dX0_run_142 (k := ?_)
    refine g_iret (M := mX0_run) (pc := 143) rfl dX0_run_143 rfl ⟨_, _, rfl, rfl, ?_⟩
    refine ⟨?_, ?_, ?_, ?_⟩
    · omega
    · first | (subst hc6_0; rw [run10, ← hx2, hF2 21 2 rfl]) | (subst hc6_1; rw [hF2 21 2 rfl, hF2 21 3 rfl, hF2 21 4 rfl] at hx120; rw [run11, ← hx2, ← hx120, hF120 21 4 rfl]) | (subst hc6_2; rw [hF2 21 2 rfl, hF2 21 3 rfl, hF2 21 4 rfl] at hx138; rw [run12, ← hx2, ← hx138]) | (subst hc6_3; rw [hF2 21 2 rfl, hF2 21 3 rfl, hF2 21 4 rfl] at hx150; rw [run20, ← hx2, ← hx150]) | (subst hc6_4; rw [hF2 21 2 rfl, hF2 21 3 rfl, hF2 21 4 rfl] at hx165; rw [run30, ← hx2, ← hx165]) | (subst hc6_5; rw [hF2 21 2 rfl, hF2 21 3 rfl, hF2 21 4 rfl] at hx175; rw [hF175 21 2 rfl, hF175 21 3 rfl, hF175 21 4 rfl] at hx187; rw [run40, ← hx2, ← hx175]; dsimp only; rw [← hx187]) | (subst hc6_6; rw [hF2 21 2 rfl, hF2 21 3 rfl, hF2 21 4 rfl] at hx198; rw [run50, ← hx2, ← hx198]) | (subst hc6_7; rw [hF2 21 2 rfl, hF2 21 3 rfl, hF2 21 4 rfl] at hx211; rw [run51, ← hx2, ← hx211]) | (subst hc6_8; rw [hF2 21 2 rfl, hF2 21 3 rfl, hF2 21 4 rfl] at hx226; rw [run60, ← hx2, ← hx226]) | (subst hc6_9; rw [hF2 21 2 rfl, hF2 21 3 rfl, hF2 21 4 rfl] at hx236; rw [hF236 21 2 rfl, hF236 21 3 rfl, hF236 21 4 rfl] at hx245; rw [run70, ← hx2, ← hx236]; dsimp only; rw [← hx245]) | (subst hc6_10; rw [hF2 21 2 rfl, hF2 21 3 rfl, hF2 21 4 rfl] at hx256; rw [run71, ← hx2, ← hx256, hF256 21 4 rfl]) | (rw [runN (by omega), ← hx2])
    · exact hI138
    · exact hF138
  by_cases hc6_3 : b = 20
  · refine g_lookup (M := mX0_run) (pc := 6) (tgt := 144) (off := 138) (by omega) dX0_run_6 rfl (by rw [hc6_3]; rfl) (k := ?_)
    refine g_aload_n (M := mX0_run) (pc := 144) dX0_run_144 rfl (k := ?_)
    refine g_iconst (M := mX0_run) (pc := 145) dX0_run_145 (k := ?_)
    refine g_iload_n (M := mX0_run) (pc := 146) dX0_run_146 rfl (k := ?_)
    refine g_iload_n (M := mX0_run) (pc := 147) dX0_run_147 rfl (k := ?_)
    refine g_iload (M := mX0_run) (pc := 148) dX0_run_148 rfl (k := ?_)
    refine g_cV4I (M := mX0_run) (pc := 150) (hC _ _ _ _ _ hI2 (by omega) (by omega) (by omega) (by omega)) qX0_call vX0_call sX0_call kX0_46 dX0_run_150 (kk := ?_)
    rintro r150 τ150 ⟨hn150, hx150, hI150, hG150⟩
    have hF150 : Fr scA σ τ150 := by refine Fr.tr ?_ hG150; exact hF2
    refine g_bipush (M := mX0_run) (pc := 153) dX0_run_153 (k := ?_)
    refine g_ixor (M := mX0_run) (pc := 155) dX0_run_155 (k := ?_)
    have hz155 := zxorR r150 6
    refine g_iret (M := mX0_run) (pc := 156) rfl dX0_run_156 rfl ⟨_, _, rfl, rfl, ?_⟩
    refine ⟨?_, ?_, ?_, ?_⟩
    · omega
    · first | (subst hc6_0; rw [run10, ← hx2, hF2 21 2 rfl]) | (subst hc6_1; rw [hF2 21 2 rfl, hF2 21 3 rfl, hF2 21 4 rfl] at hx120; rw [run11, ← hx2, ← hx120, hF120 21 4 rfl]) | (subst hc6_2; rw [hF2 21 2 rfl, hF2 21 3 rfl, hF2 21 4 rfl] at hx138; rw [run12, ← hx2, ← hx138]) | (subst hc6_3; rw [hF2 21 2 rfl, hF2 21 3 rfl, hF2 21 4 rfl] at hx150; rw [run20, ← hx2, ← hx150]) | (subst hc6_4; rw [hF2 21 2 rfl, hF2 21 3 rfl, hF2 21 4 rfl] at hx165; rw [run30, ← hx2, ← hx165]) | (subst hc6_5; rw [hF2 21 2 rfl, hF2 21 3 rfl, hF2 21 4 rfl] at hx175; rw [hF175 21 2 rfl, hF175 21 3 rfl, hF175 21 4 rfl] at hx187; rw [run40, ← hx2, ← hx175]; dsimp only; rw [← hx187]) | (subst hc6_6; rw [hF2 21 2 rfl, hF2 21 3 rfl, hF2 21 4 rfl] at hx198; rw [run50, ← hx2, ← hx198]) | (subst hc6_7; rw [hF2 21 2 rfl, hF2 21 3 rfl, hF2 21 4 rfl] at hx211; rw [run51, ← hx2, ← hx211]) | (subst hc6_8; rw [hF2 21 2 rfl, hF2 21 3 rfl, hF2 21 4 rfl] at hx226; rw [run60, ← hx2, ← hx226]) | (subst hc6_9; rw [hF2 21 2 rfl, hF2 21 3 rfl, hF2 21 4 rfl] at hx236; rw [hF236 21 2 rfl, hF236 21 3 rfl, hF236 21 4 rfl] at hx245; rw [run70, ← hx2, ← hx236]; dsimp only; rw [← hx245]) | (subst hc6_10; rw [hF2 21 2 rfl, hF2 21 3 rfl, hF2 21 4 rfl] at hx256; rw [run71, ← hx2, ← hx256, hF256 21 4 rfl]) | (rw [runN (by omega), ← hx2])
    · exact hI150
    · exact hF150
  by_cases hc6_4 : b = 30
  · refine g_lookup (M := mX0_run) (pc := 6) (tgt := 157) (off := 151) (by omega) dX0_run_6 rfl (by rw [hc6_4]; rfl) (k := ?_)
    refine g_aload_n (M := mX0_run) (pc := 157) dX0_run_157 rfl (k := ?_)
    refine g_iconst (M := mX0_run) (pc := 158) dX0_run_158 (k := ?_)
    refine g_iload_n (M := mX0_run) (pc := 159) dX0_run_159 rfl (k := ?_)
    refine g_iload_n (M := mX0_run) (pc := 160) dX0_run_160 rfl (k := ?_)
    refine g_iconst (M := mX0_run) (pc := 161) dX0_run_161 (k := ?_)
    refine g_imul (M := mX0_run) (pc := 162) dX0_run_162 (k := ?_)
    refine g_iload (M := mX0_run) (pc := 163) dX0_run_163 rfl (k := ?_)
    refine g_cV4I (M := mX0_run) (pc := 165) (hC _ _ _ _ _ hI2 (by omega) (by omega) (by omega) (by omega)) qX0_call vX0_call sX0_call kX0_46 dX0_run_165 (kk := ?_)
    rintro r165 τ165 ⟨hn165, hx165, hI165, hG165⟩
    have hF165 : Fr scA σ τ165 := by refine Fr.tr ?_ hG165; exact hF2
    refine g_iret (M := mX0_run) (pc := 168) rfl dX0_run_168 rfl ⟨_, _, rfl, rfl, ?_⟩
    refine ⟨?_, ?_, ?_, ?_⟩
    · omega
    · first | (subst hc6_0; rw [run10, ← hx2, hF2 21 2 rfl]) | (subst hc6_1; rw [hF2 21 2 rfl, hF2 21 3 rfl, hF2 21 4 rfl] at hx120; rw [run11, ← hx2, ← hx120, hF120 21 4 rfl]) | (subst hc6_2; rw [hF2 21 2 rfl, hF2 21 3 rfl, hF2 21 4 rfl] at hx138; rw [run12, ← hx2, ← hx138]) | (subst hc6_3; rw [hF2 21 2 rfl, hF2 21 3 rfl, hF2 21 4 rfl] at hx150; rw [run20, ← hx2, ← hx150]) | (subst hc6_4; rw [hF2 21 2 rfl, hF2 21 3 rfl, hF2 21 4 rfl] at hx165; rw [run30, ← hx2, ← hx165]) | (subst hc6_5; rw [hF2 21 2 rfl, hF2 21 3 rfl, hF2 21 4 rfl] at hx175; rw [hF175 21 2 rfl, hF175 21 3 rfl, hF175 21 4 rfl] at hx187; rw [run40, ← hx2, ← hx175]; dsimp only; rw [← hx187]) | (subst hc6_6; rw [hF2 21 2 rfl, hF2 21 3 rfl, hF2 21 4 rfl] at hx198; rw [run50, ← hx2, ← hx198]) | (subst hc6_7; rw [hF2 21 2 rfl, hF2 21 3 rfl, hF2 21 4 rfl] at hx211; rw [run51, ← hx2, ← hx211]) | (subst hc6_8; rw [hF2 21 2 rfl, hF2 21 3 rfl, hF2 21 4 rfl] at hx226; rw [run60, ← hx2, ← hx226]) | (subst hc6_9; rw [hF2 21 2 rfl, hF2 21 3 rfl, hF2 21 4 rfl] at hx236; rw [hF236 21 2 rfl, hF236 21 3 rfl, hF236 21 4 rfl] at hx245; rw [run70, ← hx2, ← hx236]; dsimp only; rw [← hx245]) | (subst hc6_10; rw [hF2 21 2 rfl, hF2 21 3 rfl, hF2 21 4 rfl] at hx256; rw [run71, ← hx2, ← hx256, hF256 21 4 rfl]) | (rw [runN (by omega), ← hx2])
    · exact hI165
    · exact hF165
  by_cases hc6_5 : b = 40
  · refine g_lookup (M := mX0_run) (pc := 6) (tgt := 169) (off := 163) (by omega) dX0_run_6 rfl (by rw [hc6_5]; rfl) (k := ?_)
    refine g_aload_n (M := mX0_run) (pc := 169) dX0_run_169 rfl (k := ?_)
    refine g_iconst (M := mX0_run) (pc := 170) dX0_run_170 (k := ?_)
    refine g_iload_n (M := mX0_run) (pc := 171) dX0_run_171 rfl (k := ?_)
    refine g_iload_n (M := mX0_run) (pc := 172) dX0_run_172 rfl (k := ?_)
    refine g_iload (M := mX0_run) (pc := 173) dX0_run_173 rfl (k := ?_)
    refine g_cV4I (M := mX0_run) (pc := 175) (hC _ _ _ _ _ hI2 (by omega) (by omega) (by omega) (by omega)) qX0_call vX0_call sX0_call kX0_46 dX0_run_175 (kk := ?_)
    rintro r175 τ175 ⟨hn175, hx175, hI175, hG175⟩
    have hF175 : Fr scA σ τ175 := by refine Fr.tr ?_ hG175; exact hF2
    refine g_aload_n (M := mX0_run) (pc := 178) dX0_run_178 rfl (k := ?_)
    refine g_iconst (M := mX0_run) (pc := 179) dX0_run_179 (k := ?_)
    refine g_aload_n (M := mX0_run) (pc := 180) dX0_run_180 rfl (k := ?_)
    refine g_get (M := mX0_run) (pc := 181) (ji := 3) (by rfl) fX0_3 kX0_37 dX0_run_181 (kk := fun hr181 => ?_)
    refine g_iconst (M := mX0_run) (pc := 184) dX0_run_184 (k := ?_)
    refine g_iload (M := mX0_run) (pc := 185) dX0_run_185 rfl (k := ?_)
    refine g_cV4I (M := mX0_run) (pc := 187) (hC _ _ _ _ _ hI175 (by omega) (by omega) (by omega) (by omega)) qX0_call vX0_call sX0_call kX0_46 dX0_run_187 (kk := ?_)
    rintro r187 τ187 ⟨hn187, hx187, hI187, hG187⟩
    have hF187 : Fr scA σ τ187 := by refine Fr.tr ?_ hG187; exact hF175
    refine g_iadd (M := mX0_run) (pc := 190) dX0_run_190 (k := ?_)
    refine g_iret (M := mX0_run) (pc := 191) rfl dX0_run_191 rfl ⟨_, _, rfl, rfl, ?_⟩
    refine ⟨?_, ?_, ?_, ?_⟩
    · omega
    · first | (subst hc6_0; rw [run10, ← hx2, hF2 21 2 rfl]) | (subst hc6_1; rw [hF2 21 2 rfl, hF2 21 3 rfl, hF2 21 4 rfl] at hx120; rw [run11, ← hx2, ← hx120, hF120 21 4 rfl]) | (subst hc6_2; rw [hF2 21 2 rfl, hF2 21 3 rfl, hF2 21 4 rfl] at hx138; rw [run12, ← hx2, ← hx138]) | (subst hc6_3; rw [hF2 21 2 rfl, hF2 21 3 rfl, hF2 21 4 rfl] at hx150; rw [run20, ← hx2, ← hx150]) | (subst hc6_4; rw [hF2 21 2 rfl, hF2 21 3 rfl, hF2 21 4 rfl] at hx165; rw [run30, ← hx2, ← hx165]) | (subst hc6_5; rw [hF2 21 2 rfl, hF2 21 3 rfl, hF2 21 4 rfl] at hx175; rw [hF175 21 2 rfl, hF175 21 3 rfl, hF175 21 4 rfl] at hx187; rw [run40, ← hx2, ← hx175]; dsimp only; rw [← hx187]) | (subst hc6_6; rw [hF2 21 2 rfl, hF2 21 3 rfl, hF2 21 4 rfl] at hx198; rw [run50, ← hx2, ← hx198]) | (subst hc6_7; rw [hF2 21 2 rfl, hF2 21 3 rfl, hF2 21 4 rfl] at hx211; rw [run51, ← hx2, ← hx211]) | (subst hc6_8; rw [hF2 21 2 rfl, hF2 21 3 rfl, hF2 21 4 rfl] at hx226; rw [run60, ← hx2, ← hx226]) | (subst hc6_9; rw [hF2 21 2 rfl, hF2 21 3 rfl, hF2 21 4 rfl] at hx236; rw [hF236 21 2 rfl, hF236 21 3 rfl, hF236 21 4 rfl] at hx245; rw [run70, ← hx2, ← hx236]; dsimp only; rw [← hx245]) | (subst hc6_10; rw [hF2 21 2 rfl, hF2 21 3 rfl, hF2 21 4 rfl] at hx256; rw [run71, ← hx2, ← hx256, hF256 21 4 rfl]) | (rw [runN (by omega), ← hx2])
    · exact hI187
    · exact hF187
  by_cases hc6_6 : b = 50
  · refine g_lookup (M := mX0_run) (pc := 6) (tgt := 192) (off := 186) (by omega) dX0_run_6 rfl (by rw [hc6_6]; rfl) (k := ?_)
    refine g_aload_n (M := mX0_run) (pc := 192) dX0_run_192 rfl (k := ?_)
    refine g_iconst (M := mX0_run) (pc := 193) dX0_run_193 (k := ?_)
    refine g_iload_n (M := mX0_run) (pc := 194) dX0_run_194 rfl (k := ?_)
    refine g_iload_n (M := mX0_run) (pc := 195) dX0_run_195 rfl (k := ?_)
    refine g_iload (M := mX0_run) (pc := 196) dX0_run_196 rfl (k := ?_)
    refine g_cV4I (M := mX0_run) (pc := 198) (hC _ _ _ _ _ hI2 (by omega) (by omega) (by omega) (by omega)) qX0_call vX0_call sX0_call kX0_46 dX0_run_198 (kk := ?_)
    rintro r198 τ198 ⟨hn198, hx198, hI198, hG198⟩
    have hF198 : Fr scA σ τ198 := by refine Fr.tr ?_ hG198; exact hF2
    refine g_ineg (M := mX0_run) (pc := 201) dX0_run_201 (k := ?_)
    refine g_iret (M := mX0_run) (pc := 202) rfl dX0_run_202 rfl ⟨_, _, rfl, rfl, ?_⟩
    refine ⟨?_, ?_, ?_, ?_⟩
    · omega
    · first | (subst hc6_0; rw [run10, ← hx2, hF2 21 2 rfl]) | (subst hc6_1; rw [hF2 21 2 rfl, hF2 21 3 rfl, hF2 21 4 rfl] at hx120; rw [run11, ← hx2, ← hx120, hF120 21 4 rfl]) | (subst hc6_2; rw [hF2 21 2 rfl, hF2 21 3 rfl, hF2 21 4 rfl] at hx138; rw [run12, ← hx2, ← hx138]) | (subst hc6_3; rw [hF2 21 2 rfl, hF2 21 3 rfl, hF2 21 4 rfl] at hx150; rw [run20, ← hx2, ← hx150]) | (subst hc6_4; rw [hF2 21 2 rfl, hF2 21 3 rfl, hF2 21 4 rfl] at hx165; rw [run30, ← hx2, ← hx165]) | (subst hc6_5; rw [hF2 21 2 rfl, hF2 21 3 rfl, hF2 21 4 rfl] at hx175; rw [hF175 21 2 rfl, hF175 21 3 rfl, hF175 21 4 rfl] at hx187; rw [run40, ← hx2, ← hx175]; dsimp only; rw [← hx187]) | (subst hc6_6; rw [hF2 21 2 rfl, hF2 21 3 rfl, hF2 21 4 rfl] at hx198; rw [run50, ← hx2, ← hx198]) | (subst hc6_7; rw [hF2 21 2 rfl, hF2 21 3 rfl, hF2 21 4 rfl] at hx211; rw [run51, ← hx2, ← hx211]) | (subst hc6_8; rw [hF2 21 2 rfl, hF2 21 3 rfl, hF2 21 4 rfl] at hx226; rw [run60, ← hx2, ← hx226]) | (subst hc6_9; rw [hF2 21 2 rfl, hF2 21 3 rfl, hF2 21 4 rfl] at hx236; rw [hF236 21 2 rfl, hF236 21 3 rfl, hF236 21 4 rfl] at hx245; rw [run70, ← hx2, ← hx236]; dsimp only; rw [← hx245]) | (subst hc6_10; rw [hF2 21 2 rfl, hF2 21 3 rfl, hF2 21 4 rfl] at hx256; rw [run71, ← hx2, ← hx256, hF256 21 4 rfl]) | (rw [runN (by omega), ← hx2])
    · exact hI198
    · exact hF198
  by_cases hc6_7 : b = 51
  · refine g_lookup (M := mX0_run) (pc := 6) (tgt := 203) (off := 197) (by omega) dX0_run_6 rfl (by rw [hc6_7]; rfl) (k := ?_)
    refine g_aload_n (M := mX0_run) (pc := 203) dX0_run_203 rfl (k := ?_)
    refine g_iconst (M := mX0_run) (pc := 204) dX0_run_204 (k := ?_)
    refine g_iload_n (M := mX0_run) (pc := 205) dX0_run_205 rfl (k := ?_)
    refine g_iload_n (M := mX0_run) (pc := 206) dX0_run_206 rfl (k := ?_)
    refine g_iconst (M := mX0_run) (pc := 207) dX0_run_207 (k := ?_)
    refine g_iadd (M := mX0_run) (pc := 208) dX0_run_208 (k := ?_)
    refine g_iload (M := mX0_run) (pc := 209) dX0_run_209 rfl (k := ?_)
    refine g_cV4I (M := mX0_run) (pc := 211) (hC _ _ _ _ _ hI2 (by omega) (by omega) (by omega) (by omega)) qX0_call vX0_call sX0_call kX0_46 dX0_run_211 (kk := ?_)
    rintro r211 τ211 ⟨hn211, hx211, hI211, hG211⟩
    have hF211 : Fr scA σ τ211 := by refine Fr.tr ?_ hG211; exact hF2
    refine g_iret (M := mX0_run) (pc := 214) rfl dX0_run_214 rfl ⟨_, _, rfl, rfl, ?_⟩
    refine ⟨?_, ?_, ?_, ?_⟩
    · omega
    · first | (subst hc6_0; rw [run10, ← hx2, hF2 21 2 rfl]) | (subst hc6_1; rw [hF2 21 2 rfl, hF2 21 3 rfl, hF2 21 4 rfl] at hx120; rw [run11, ← hx2, ← hx120, hF120 21 4 rfl]) | (subst hc6_2; rw [hF2 21 2 rfl, hF2 21 3 rfl, hF2 21 4 rfl] at hx138; rw [run12, ← hx2, ← hx138]) | (subst hc6_3; rw [hF2 21 2 rfl, hF2 21 3 rfl, hF2 21 4 rfl] at hx150; rw [run20, ← hx2, ← hx150]) | (subst hc6_4; rw [hF2 21 2 rfl, hF2 21 3 rfl, hF2 21 4 rfl] at hx165; rw [run30, ← hx2, ← hx165]) | (subst hc6_5; rw [hF2 21 2 rfl, hF2 21 3 rfl, hF2 21 4 rfl] at hx175; rw [hF175 21 2 rfl, hF175 21 3 rfl, hF175 21 4 rfl] at hx187; rw [run40, ← hx2, ← hx175]; dsimp only; rw [← hx187]) | (subst hc6_6; rw [hF2 21 2 rfl, hF2 21 3 rfl, hF2 21 4 rfl] at hx198; rw [run50, ← hx2, ← hx198]) | (subst hc6_7; rw [hF2 21 2 rfl, hF2 21 3 rfl, hF2 21 4 rfl] at hx211; rw [run51, ← hx2, ← hx211]) | (subst hc6_8; rw [hF2 21 2 rfl, hF2 21 3 rfl, hF2 21 4 rfl] at hx226; rw [run60, ← hx2, ← hx226]) | (subst hc6_9; rw [hF2 21 2 rfl, hF2 21 3 rfl, hF2 21 4 rfl] at hx236; rw [hF236 21 2 rfl, hF236 21 3 rfl, hF236 21 4 rfl] at hx245; rw [run70, ← hx2, ← hx236]; dsimp only; rw [← hx245]) | (subst hc6_10; rw [hF2 21 2 rfl, hF2 21 3 rfl, hF2 21 4 rfl] at hx256; rw [run71, ← hx2, ← hx256, hF256 21 4 rfl]) | (rw [runN (by omega), ← hx2])
    · exact hI211
    · exact hF211
  by_cases hc6_8 : b = 60
  · refine g_lookup (M := mX0_run) (pc := 6) (tgt := 215) (off := 209) (by omega) dX0_run_6 rfl (by rw [hc6_8]; rfl) (k := ?_)
    refine g_aload_n (M := mX0_run) (pc := 215) dX0_run_215 rfl (k := ?_)
    refine g_iconst (M := mX0_run) (pc := 216) dX0_run_216 (k := ?_)
    refine g_iload_n (M := mX0_run) (pc := 217) dX0_run_217 rfl (k := ?_)
    refine g_iload_n (M := mX0_run) (pc := 218) dX0_run_218 rfl (k := ?_)
    refine g_aload_n (M := mX0_run) (pc := 219) dX0_run_219 rfl (k := ?_)
    refine g_get (M := mX0_run) (pc := 220) (ji := 2) (by rfl) fX0_2 kX0_29 dX0_run_220 (kk := fun hr220 => ?_)
    refine g_isub (M := mX0_run) (pc := 223) dX0_run_223 (k := ?_)
    refine g_iload (M := mX0_run) (pc := 224) dX0_run_224 rfl (k := ?_)
    refine g_cV4I (M := mX0_run) (pc := 226) (hC _ _ _ _ _ hI2 (by omega) (by omega) (by omega) (by omega)) qX0_call vX0_call sX0_call kX0_46 dX0_run_226 (kk := ?_)
    rintro r226 τ226 ⟨hn226, hx226, hI226, hG226⟩
    have hF226 : Fr scA σ τ226 := by refine Fr.tr ?_ hG226; exact hF2
    refine g_iret (M := mX0_run) (pc := 229) rfl dX0_run_229 rfl ⟨_, _, rfl, rfl, ?_⟩
    refine ⟨?_, ?_, ?_, ?_⟩
    · omega
    · first | (subst hc6_0; rw [run10, ← hx2, hF2 21 2 rfl]) | (subst hc6_1; rw [hF2 21 2 rfl, hF2 21 3 rfl, hF2 21 4 rfl] at hx120; rw [run11, ← hx2, ← hx120, hF120 21 4 rfl]) | (subst hc6_2; rw [hF2 21 2 rfl, hF2 21 3 rfl, hF2 21 4 rfl] at hx138; rw [run12, ← hx2, ← hx138]) | (subst hc6_3; rw [hF2 21 2 rfl, hF2 21 3 rfl, hF2 21 4 rfl] at hx150; rw [run20, ← hx2, ← hx150]) | (subst hc6_4; rw [hF2 21 2 rfl, hF2 21 3 rfl, hF2 21 4 rfl] at hx165; rw [run30, ← hx2, ← hx165]) | (subst hc6_5; rw [hF2 21 2 rfl, hF2 21 3 rfl, hF2 21 4 rfl] at hx175; rw [hF175 21 2 rfl, hF175 21 3 rfl, hF175 21 4 rfl] at hx187; rw [run40, ← hx2, ← hx175]; dsimp only; rw [← hx187]) | (subst hc6_6; rw [hF2 21 2 rfl, hF2 21 3 rfl, hF2 21 4 rfl] at hx198; rw [run50, ← hx2, ← hx198]) | (subst hc6_7; rw [hF2 21 2 rfl, hF2 21 3 rfl, hF2 21 4 rfl] at hx211; rw [run51, ← hx2, ← hx211]) | (subst hc6_8; rw [hF2 21 2 rfl, hF2 21 3 rfl, hF2 21 4 rfl] at hx226; rw [run60, ← hx2, ← hx226]) | (subst hc6_9; rw [hF2 21 2 rfl, hF2 21 3 rfl, hF2 21 4 rfl] at hx236; rw [hF236 21 2 rfl, hF236 21 3 rfl, hF236 21 4 rfl] at hx245; rw [run70, ← hx2, ← hx236]; dsimp only; rw [← hx245]) | (subst hc6_10; rw [hF2 21 2 rfl, hF2 21 3 rfl, hF2 21 4 rfl] at hx256; rw [run71, ← hx2, ← hx256, hF256 21 4 rfl]) | (rw [runN (by omega), ← hx2])
    · exact hI226
    · exact hF226
  by_cases hc6_9 : b = 70
  · refine g_lookup (M := mX0_run) (pc := 6) (tgt := 230) (off := 224) (by omega) dX0_run_6 rfl (by rw [hc6_9]; rfl) (k := ?_)
    refine g_aload_n (M := mX0_run) (pc := 230) dX0_run_230 rfl (k := ?_)
    refine g_iconst (M := mX0_run) (pc := 231) dX0_run_231 (k := ?_)
    refine g_iload_n (M := mX0_run) (pc := 232) dX0_run_232 rfl (k := ?_)
    refine g_iload_n (M := mX0_run) (pc := 233) dX0_run_233 rfl (k := ?_)
    refine g_iload (M := mX0_run) (pc := 234) dX0_run_234 rfl (k := ?_)
    refine g_cV4I (M := mX0_run) (pc := 236) (hC _ _ _ _ _ hI2 (by omega) (by omega) (by omega) (by omega)) qX0_call vX0_call sX0_call kX0_46 dX0_run_236 (kk := ?_)
    rintro r236 τ236 ⟨hn236, hx236, hI236, hG236⟩
    have hF236 : Fr scA σ τ236 := by refine Fr.tr ?_ hG236; exact hF2
    refine g_aload_n (M := mX0_run) (pc := 239) dX0_run_239 rfl (k := ?_)
    refine g_iconst (M := mX0_run) (pc := 240) dX0_run_240 (k := ?_)
    refine g_iload_n (M := mX0_run) (pc := 241) dX0_run_241 rfl (k := ?_)
    refine g_iconst (M := mX0_run) (pc := 242) dX0_run_242 (k := ?_)
    refine g_iload (M := mX0_run) (pc := 243) dX0_run_243 rfl (k := ?_)
    refine g_cV4I (M := mX0_run) (pc := 245) (hC _ _ _ _ _ hI236 (by omega) (by omega) (by omega) (by omega)) qX0_call vX0_call sX0_call kX0_46 dX0_run_245 (kk := ?_)
    rintro r245 τ245 ⟨hn245, hx245, hI245, hG245⟩
    have hF245 : Fr scA σ τ245 := by refine Fr.tr ?_ hG245; exact hF236
    refine g_iadd (M := mX0_run) (pc := 248) dX0_run_248 (k := ?_)
    refine g_iret (M := mX0_run) (pc := 249) rfl dX0_run_249 rfl ⟨_, _, rfl, rfl, ?_⟩
    refine ⟨?_, ?_, ?_, ?_⟩
    · omega
    · first | (subst hc6_0; rw [run10, ← hx2, hF2 21 2 rfl]) | (subst hc6_1; rw [hF2 21 2 rfl, hF2 21 3 rfl, hF2 21 4 rfl] at hx120; rw [run11, ← hx2, ← hx120, hF120 21 4 rfl]) | (subst hc6_2; rw [hF2 21 2 rfl, hF2 21 3 rfl, hF2 21 4 rfl] at hx138; rw [run12, ← hx2, ← hx138]) | (subst hc6_3; rw [hF2 21 2 rfl, hF2 21 3 rfl, hF2 21 4 rfl] at hx150; rw [run20, ← hx2, ← hx150]) | (subst hc6_4; rw [hF2 21 2 rfl, hF2 21 3 rfl, hF2 21 4 rfl] at hx165; rw [run30, ← hx2, ← hx165]) | (subst hc6_5; rw [hF2 21 2 rfl, hF2 21 3 rfl, hF2 21 4 rfl] at hx175; rw [hF175 21 2 rfl, hF175 21 3 rfl, hF175 21 4 rfl] at hx187; rw [run40, ← hx2, ← hx175]; dsimp only; rw [← hx187]) | (subst hc6_6; rw [hF2 21 2 rfl, hF2 21 3 rfl, hF2 21 4 rfl] at hx198; rw [run50, ← hx2, ← hx198]) | (subst hc6_7; rw [hF2 21 2 rfl, hF2 21 3 rfl, hF2 21 4 rfl] at hx211; rw [run51, ← hx2, ← hx211]) | (subst hc6_8; rw [hF2 21 2 rfl, hF2 21 3 rfl, hF2 21 4 rfl] at hx226; rw [run60, ← hx2, ← hx226]) | (subst hc6_9; rw [hF2 21 2 rfl, hF2 21 3 rfl, hF2 21 4 rfl] at hx236; rw [hF236 21 2 rfl, hF236 21 3 rfl, hF236 21 4 rfl] at hx245; rw [run70, ← hx2, ← hx236]; dsimp only; rw [← hx245]) | (subst hc6_10; rw [hF2 21 2 rfl, hF2 21 3 rfl, hF2 21 4 rfl] at hx256; rw [run71, ← hx2, ← hx256, hF256 21 4 rfl]) | (rw [runN (by omega), ← hx2])
    · exact hI245
    · exact hF245
  by_cases hc6_10 : b = 71
  · refine g_lookup (M := mX0_run) (pc := 6) (tgt := 250) (off := 244) (by omega) dX0_run_6 rfl (by rw [hc6_10]; rfl) (k := ?_)
    refine g_aload_n (M := mX0_run) (pc := 250) dX0_run_250 rfl (k := ?_)
    refine g_iconst (M := mX0_run) (pc := 251) dX0_run_251 (k := ?_)
    refine g_iload_n (M := mX0_run) (pc := 252) dX0_run_252 rfl (k := ?_)
    refine g_iload_n (M := mX0_run) (pc := 253) dX0_run_253 rfl (k := ?_)
    refine g_iload (M := mX0_run) (pc := 254) dX0_run_254 rfl (k := ?_)
    refine g_cV4I (M := mX0_run) (pc := 256) (hC _ _ _ _ _ hI2 (by omega) (by omega) (by omega) (by omega)) qX0_call vX0_call sX0_call kX0_46 dX0_run_256 (kk := ?_)
    rintro r256 τ256 ⟨hn256, hx256, hI256, hG256⟩
    have hF256 : Fr scA σ τ256 := by refine Fr.tr ?_ hG256; exact hF2
    refine g_aload_n (M := mX0_run) (pc := 259) dX0_run_259 rfl (k := ?_)
    refine g_get (M := mX0_run) (pc := 260) (ji := 4) (by rfl) fX0_4 kX0_43 dX0_run_260 (kk := fun hr260 => ?_)
    refine g_ixor (M := mX0_run) (pc := 263) dX0_run_263 (k := ?_)
    have hz263 := zxorR r256 (τ256 21 4)
    refine g_iret (M := mX0_run) (pc := 264) rfl dX0_run_264 rfl ⟨_, _, rfl, rfl, ?_⟩
    refine ⟨?_, ?_, ?_, ?_⟩
    · omega
    · first | (subst hc6_0; rw [run10, ← hx2, hF2 21 2 rfl]) | (subst hc6_1; rw [hF2 21 2 rfl, hF2 21 3 rfl, hF2 21 4 rfl] at hx120; rw [run11, ← hx2, ← hx120, hF120 21 4 rfl]) | (subst hc6_2; rw [hF2 21 2 rfl, hF2 21 3 rfl, hF2 21 4 rfl] at hx138; rw [run12, ← hx2, ← hx138]) | (subst hc6_3; rw [hF2 21 2 rfl, hF2 21 3 rfl, hF2 21 4 rfl] at hx150; rw [run20, ← hx2, ← hx150]) | (subst hc6_4; rw [hF2 21 2 rfl, hF2 21 3 rfl, hF2 21 4 rfl] at hx165; rw [run30, ← hx2, ← hx165]) | (subst hc6_5; rw [hF2 21 2 rfl, hF2 21 3 rfl, hF2 21 4 rfl] at hx175; rw [hF175 21 2 rfl, hF175 21 3 rfl, hF175 21 4 rfl] at hx187; rw [run40, ← hx2, ← hx175]; dsimp only; rw [← hx187]) | (subst hc6_6; rw [hF2 21 2 rfl, hF2 21 3 rfl, hF2 21 4 rfl] at hx198; rw [run50, ← hx2, ← hx198]) | (subst hc6_7; rw [hF2 21 2 rfl, hF2 21 3 rfl, hF2 21 4 rfl] at hx211; rw [run51, ← hx2, ← hx211]) | (subst hc6_8; rw [hF2 21 2 rfl, hF2 21 3 rfl, hF2 21 4 rfl] at hx226; rw [run60, ← hx2, ← hx226]) | (subst hc6_9; rw [hF2 21 2 rfl, hF2 21 3 rfl, hF2 21 4 rfl] at hx236; rw [hF236 21 2 rfl, hF236 21 3 rfl, hF236 21 4 rfl] at hx245; rw [run70, ← hx2, ← hx236]; dsimp only; rw [← hx245]) | (subst hc6_10; rw [hF2 21 2 rfl, hF2 21 3 rfl, hF2 21 4 rfl] at hx256; rw [run71, ← hx2, ← hx256, hF256 21 4 rfl]) | (rw [runN (by omega), ← hx2])
    · exact hI256
    · exact hF256
  refine g_lookup (M := mX0_run) (pc := 6) (tgt := 265) (off := 259) (by omega) dX0_run_6 rfl (by simp [Op.lookupswitch.offset, Ne.symm hc6_0, hc6_0, Ne.symm hc6_1, hc6_1, Ne.symm hc6_2, hc6_2, Ne.symm hc6_3, hc6_3, Ne.symm hc6_4, hc6_4, Ne.symm hc6_5, hc6_5, Ne.symm hc6_6, hc6_6, Ne.symm hc6_7, hc6_7, Ne.symm hc6_8, hc6_8, Ne.symm hc6_9, hc6_9, Ne.symm hc6_10, hc6_10]) (k := ?_)
  refine g_iconst (M := mX0_run) (pc := 265) dX0_run_265 (k := ?_)
  refine g_iret (M := mX0_run) (pc := 266) rfl dX0_run_266 rfl ⟨_, _, rfl, rfl, ?_⟩
  refine ⟨?_, ?_, ?_, ?_⟩
  · omega
  · first | (subst hc6_0; rw [run10, ← hx2, hF2 21 2 rfl]) | (subst hc6_1; rw [hF2 21 2 rfl, hF2 21 3 rfl, hF2 21 4 rfl] at hx120; rw [run11, ← hx2, ← hx120, hF120 21 4 rfl]) | (subst hc6_2; rw [hF2 21 2 rfl, hF2 21 3 rfl, hF2 21 4 rfl] at hx138; rw [run12, ← hx2, ← hx138]) | (subst hc6_3; rw [hF2 21 2 rfl, hF2 21 3 rfl, hF2 21 4 rfl] at hx150; rw [run20, ← hx2, ← hx150]) | (subst hc6_4; rw [hF2 21 2 rfl, hF2 21 3 rfl, hF2 21 4 rfl] at hx165; rw [run30, ← hx2, ← hx165]) | (subst hc6_5; rw [hF2 21 2 rfl, hF2 21 3 rfl, hF2 21 4 rfl] at hx175; rw [hF175 21 2 rfl, hF175 21 3 rfl, hF175 21 4 rfl] at hx187; rw [run40, ← hx2, ← hx175]; dsimp only; rw [← hx187]) | (subst hc6_6; rw [hF2 21 2 rfl, hF2 21 3 rfl, hF2 21 4 rfl] at hx198; rw [run50, ← hx2, ← hx198]) | (subst hc6_7; rw [hF2 21 2 rfl, hF2 21 3 rfl, hF2 21 4 rfl] at hx211; rw [run51, ← hx2, ← hx211]) | (subst hc6_8; rw [hF2 21 2 rfl, hF2 21 3 rfl, hF2 21 4 rfl] at hx226; rw [run60, ← hx2, ← hx226]) | (subst hc6_9; rw [hF2 21 2 rfl, hF2 21 3 rfl, hF2 21 4 rfl] at hx236; rw [hF236 21 2 rfl, hF236 21 3 rfl, hF236 21 4 rfl] at hx245; rw [run70, ← hx2, ← hx236]; dsimp only; rw [← hx245]) | (subst hc6_10; rw [hF2 21 2 rfl, hF2 21 3 rfl, hF2 21 4 rfl] at hx256; rw [run71, ← hx2, ← hx256, hF256 21 4 rfl]) | (rw [runN (by omega), ← hx2])
  · exact hI2
  · exact hF2
set_option maxHeartbeats 4000000 in
set_option maxRecDepth 20000 in
theorem c_X0_call0 (Γ : KT) (t : Nat) (σ : Nat → Int → Int) (a : Int) (fr : Int) (x : Int) (dp : Int) (hI : InvX σ) (ha : 0 ≤ a ∧ a ≤ 2) (hfr : R32 fr) (hd : dp = 20) : Ct Γ mX0_call 3 (0, 0) [vR Γ 21, vI a, vI fr, vI x, vI dp] (113, ρT t, σ) (pI 113 (ρT t) (fun r σ' => (σ' 21 1 ≤ σ 21 1) ∧ ((r, σ' 21 1, σ' 22) = calF 0 (σ 21 2) (σ 21 3) (σ 21 4) a fr x (σ 21 1, σ 22)) ∧ (InvX σ') ∧ (Fr scA σ σ'))) := by
  refine Ct.of rfl (Nat.le_of_ble_eq_true rfl) ?_
  show G Γ mX0_call 3 (0, 0) _ (0, 0) 0 [some (vR Γ 21), some (vI a), some (vI fr), some (vI x), some (vI dp), none, none, none] [] (113, ρT t, σ)
  refine g_iload_n (M := mX0_call) (pc := 0) dX0_call_0 rfl (k := ?_)
  refine g_istore_5 (M := mX0_call) (pc := 1) dX0_call_1 (k := ?_)
  refine g_iconst (M := mX0_call) (pc := 3) dX0_call_3 (k := ?_)
  refine g_istore_6 (M := mX0_call) (pc := 4) dX0_call_4 (k := ?_)
  have loop6 : ∀ (N : Nat) (ow : Int) (s : Int), ((8 - s).toNat) < N → ((-2147483648 ≤ ow ∧ ow ≤ 2147483647) ∧ (0 ≤ s ∧ s ≤ 7) ∧ (bdF ow a = bdF fr a) ∧ (abF ow a = abF fr a) ∧ ((¬ (0 ≤ ow ∧ ow ≤ 6)) ∨ (ow = 0 ∧ s ≤ 3) ∨ (1 ≤ ow ∧ ow ≤ 3 ∧ s ≤ 2) ∨ (4 ≤ ow ∧ ow ≤ 6 ∧ s ≤ 1))) → G Γ mX0_call 3 (0, 0) (pI 113 (ρT t) (fun r σ' => (σ' 21 1 ≤ σ 21 1) ∧ ((r, σ' 21 1, σ' 22) = calF 0 (σ 21 2) (σ 21 3) (σ 21 4) a fr x (σ 21 1, σ 22)) ∧ (InvX σ') ∧ (Fr scA σ σ'))) (0, 0) 6 [some (vR Γ 21), some (vI a), some (vI fr), some (vI x), some (vI dp), some (vI ow), some (vI s), none] [] (113, ρT t, σ) := by
    intro N
    induction N with
    | zero => intro ow s hmu6 hinv6; exact absurd hmu6 (Nat.not_lt_zero _)
    | succ N ih6 =>
      intro ow s hmu6 hinv6
      obtain ⟨hb6_ow, hb6_s, hx6_0, hx6_1, hx6_2⟩ := hinv6
      refine g_iload (M := mX0_call) (pc := 6) dX0_call_6 rfl (k := ?_)
      refine g_bipush (M := mX0_call) (pc := 8) dX0_call_8 (k := ?_)
      refine g_icmp_gt (M := mX0_call) (pc := 10) (tgt := 83) (by omega) (by omega) dX0_call_10 (k1 := fun h10 => ?_) (k2 := fun h10 => ?_)
      · skip
        refine g_iconst (M := mX0_call) (pc := 83) dX0_call_83 (k := ?_)
        refine g_iret (M := mX0_call) (pc := 84) rfl dX0_call_84 rfl ⟨_, _, rfl, rfl, ?_⟩
        refine ⟨?_, ?_, ?_, ?_⟩
        · omega
        · rfl
        · exact hI
        · exact (Fr.rf)
      · skip
        refine g_iload (M := mX0_call) (pc := 13) dX0_call_13 rfl (k := ?_)
        refine g_bipush (M := mX0_call) (pc := 15) dX0_call_15 (k := ?_)
        refine g_cS2I (M := mX0_call) (pc := 17) (c_X10_isUpTo Γ t _ _ _ (by omega) (by omega)) qX10_isUpTo vX10_isUpTo kX0_25 dX0_call_17 (kk := ?_)
        rintro _ _ ⟨e1, e⟩; rw [e1, e]; clear e1 e
        refine g_if_eqB (M := mX0_call) (pc := 20) (tgt := 83) dX0_call_20 (k1 := fun h20 => ?_) (k2 := fun h20 => ?_)
        · skip
          refine g_iconst (M := mX0_call) (pc := 83) dX0_call_83 (k := ?_)
          refine g_iret (M := mX0_call) (pc := 84) rfl dX0_call_84 rfl ⟨_, _, rfl, rfl, ?_⟩
          refine ⟨?_, ?_, ?_, ?_⟩
          · omega
          · rfl
          · exact hI
          · exact (Fr.rf)
        · skip
          refine g_bodies (M := mX0_call) (pc := 23) kX0_50 dX0_call_23 (k := ?_)
          refine g_iload (M := mX0_call) (pc := 26) dX0_call_26 rfl (k := ?_)
          refine g_iconst (M := mX0_call) (pc := 28) dX0_call_28 (k := ?_)
          refine g_imul (M := mX0_call) (pc := 29) dX0_call_29 (k := ?_)
          refine g_iload_n (M := mX0_call) (pc := 30) dX0_call_30 rfl (k := ?_)
          refine g_iadd (M := mX0_call) (pc := 31) dX0_call_31 (k := ?_)
          refine g_bodiesAt (M := mX0_call) (pc := 32) (by omega) (by omega) dX0_call_32 (k := ?_)
          have hz32 := bodiesB (Int.toNat ((ow * 3) + a))
          refine g_istore_7 (M := mX0_call) (pc := 33) dX0_call_33 (k := ?_)
          refine g_iload (M := mX0_call) (pc := 35) dX0_call_35 rfl (k := ?_)
          refine g_if_eq (M := mX0_call) (pc := 37) (tgt := 69) (by omega) dX0_call_37 (k1 := fun h37 => ?_) (k2 := fun h37 => ?_)
          · skip
            refine g_above (M := mX0_call) (pc := 69) kX0_53 dX0_call_69 (k := ?_)
            refine g_iload (M := mX0_call) (pc := 72) dX0_call_72 rfl (k := ?_)
            refine g_aboveAt (M := mX0_call) (pc := 74) (by omega) (by omega) dX0_call_74 (k := ?_)
            have hz74 := aboveE (i := ow) (by omega) (by omega)
            refine g_istore_5 (M := mX0_call) (pc := 75) dX0_call_75 (k := ?_)
            refine g_iinc_6 (M := mX0_call) (pc := 77) dX0_call_77 (k := ?_)
            refine g_goto (M := mX0_call) (pc := 80) (tgt := 6) dX0_call_80 (k := ?_)
            refine g_less (leL_s (leL_s (leL_s (leL_s (leL_s (leL_s (leL_s (leL_n leL_0)))))))) ?_
            refine ih6 _ _ ?_ ?_
            · omega
            · skip
              refine ⟨?_, ?_, ?_, ?_, ?_⟩
              · omega
              · omega
              · first | rfl | exact (bd_step (by omega) ha h37).1.trans hx6_0
              · first | rfl | exact (bd_step (by omega) ha h37).2.trans hx6_1
              · omega
          · skip
            refine g_iload (M := mX0_call) (pc := 40) dX0_call_40 rfl (k := ?_)
            refine g_bipush (M := mX0_call) (pc := 42) dX0_call_42 (k := ?_)
            refine g_icmp_ge (M := mX0_call) (pc := 44) (tgt := 67) (by omega) (by omega) dX0_call_44 (k1 := fun h44 => ?_) (k2 := fun h44 => ?_)
            · skip
              refine g_iconst (M := mX0_call) (pc := 67) dX0_call_67 (k := ?_)
              refine g_iret (M := mX0_call) (pc := 68) rfl dX0_call_68 rfl ⟨_, _, rfl, rfl, ?_⟩
              refine ⟨?_, ?_, ?_, ?_⟩
              · omega
              · rfl
              · exact hI
              · exact (Fr.rf)
            · omega
  refine loop6 _ _ _ (Nat.lt_succ_self _) ?_
  refine ⟨?_, ?_, ?_, ?_, ?_⟩
  · omega
  · omega
  · first | rfl | exact (bd_step (by omega) ha h37).1.trans hx6_0
  · first | rfl | exact (bd_step (by omega) ha h37).2.trans hx6_1
  · omega
set_option maxHeartbeats 4000000 in
set_option maxRecDepth 20000 in
theorem c_X0_callS (Γ : KT) (t : Nat) (σ : Nat → Int → Int) (k : Nat) (hR : (∀ (σ : Nat → Int → Int) (b ab x dp : Int), InvX σ → R32 b → R32 ab → σ 21 1 + (1 + 2 * acN k) ≤ 10000000 → (0 ≤ dp ∧ dp + ((k : Nat) : Int) = 20) → Ct Γ mX0_run (2 * k + 4) (0, 0) [vR Γ 21, vI b, vI ab, vI x, vI dp] (113, ρT t, σ) (pI 113 (ρT t) (fun r σ' => (σ' 21 1 ≤ σ 21 1 + (1 + 2 * acN k)) ∧ ((r, σ' 21 1, σ' 22) = runF (calF k (σ 21 2) (σ 21 3) (σ 21 4)) (σ 21 2) (σ 21 3) (σ 21 4) b ab x (σ 21 1, σ 22)) ∧ (InvX σ') ∧ (Fr scA σ σ'))))) (a : Int) (fr : Int) (x : Int) (dp : Int) (hI : InvX σ) (ha : 0 ≤ a ∧ a ≤ 2) (hfr : R32 fr) (hn : σ 21 1 + (1 + 2 * acN k) ≤ 10000000) (hd : 0 ≤ dp ∧ dp + ((k : Int) + 1) = 20) : Ct Γ mX0_call (2 * k + 5) (0, 0) [vR Γ 21, vI a, vI fr, vI x, vI dp] (113, ρT t, σ) (pI 113 (ρT t) (fun r σ' => (σ' 21 1 ≤ σ 21 1 + (1 + 2 * acN k)) ∧ ((r, σ' 21 1, σ' 22) = calF (k + 1) (σ 21 2) (σ 21 3) (σ 21 4) a fr x (σ 21 1, σ 22)) ∧ (InvX σ') ∧ (Fr scA σ σ'))) := by
  refine Ct.of rfl (Nat.le_of_ble_eq_true rfl) ?_
  show G Γ mX0_call (2 * k + 5) (0, 0) _ (0, 0) 0 [some (vR Γ 21), some (vI a), some (vI fr), some (vI x), some (vI dp), none, none, none] [] (113, ρT t, σ)
  have hk0 := acN_0 k
  refine g_iload_n (M := mX0_call) (pc := 0) dX0_call_0 rfl (k := ?_)
  refine g_istore_5 (M := mX0_call) (pc := 1) dX0_call_1 (k := ?_)
  refine g_iconst (M := mX0_call) (pc := 3) dX0_call_3 (k := ?_)
  refine g_istore_6 (M := mX0_call) (pc := 4) dX0_call_4 (k := ?_)
  have loop6 : ∀ (N : Nat) (ow : Int) (s : Int), ((8 - s).toNat) < N → ((-2147483648 ≤ ow ∧ ow ≤ 2147483647) ∧ (0 ≤ s ∧ s ≤ 7) ∧ (bdF ow a = bdF fr a) ∧ (abF ow a = abF fr a) ∧ ((¬ (0 ≤ ow ∧ ow ≤ 6)) ∨ (ow = 0 ∧ s ≤ 3) ∨ (1 ≤ ow ∧ ow ≤ 3 ∧ s ≤ 2) ∨ (4 ≤ ow ∧ ow ≤ 6 ∧ s ≤ 1))) → G Γ mX0_call (2 * k + 5) (0, 0) (pI 113 (ρT t) (fun r σ' => (σ' 21 1 ≤ σ 21 1 + (1 + 2 * acN k)) ∧ ((r, σ' 21 1, σ' 22) = calF (k + 1) (σ 21 2) (σ 21 3) (σ 21 4) a fr x (σ 21 1, σ 22)) ∧ (InvX σ') ∧ (Fr scA σ σ'))) (0, 0) 6 [some (vR Γ 21), some (vI a), some (vI fr), some (vI x), some (vI dp), some (vI ow), some (vI s), none] [] (113, ρT t, σ) := by
    intro N
    induction N with
    | zero => intro ow s hmu6 hinv6; exact absurd hmu6 (Nat.not_lt_zero _)
    | succ N ih6 =>
      intro ow s hmu6 hinv6
      obtain ⟨hb6_ow, hb6_s, hx6_0, hx6_1, hx6_2⟩ := hinv6
      refine g_iload (M := mX0_call) (pc := 6) dX0_call_6 rfl (k := ?_)
      refine g_bipush (M := mX0_call) (pc := 8) dX0_call_8 (k := ?_)
      refine g_icmp_gt (M := mX0_call) (pc := 10) (tgt := 83) (by omega) (by omega) dX0_call_10 (k1 := fun h10 => ?_) (k2 := fun h10 => ?_)
      · skip
        refine g_iconst (M := mX0_call) (pc := 83) dX0_call_83 (k := ?_)
        refine g_iret (M := mX0_call) (pc := 84) rfl dX0_call_84 rfl ⟨_, _, rfl, rfl, ?_⟩
        refine ⟨?_, ?_, ?_, ?_⟩
        · omega
        · first | exact (cal_0 (by rw [← hx6_0]; exact bd_out (by omega))).symm | (exfalso; omega) | (rw [cal_S (by rw [← hx6_0, (bd_here (by omega) ha h37).1]; exact h37), ← hx6_0, ← hx6_1, (bd_here (by omega) ha h37).1, (bd_here (by omega) ha h37).2]; exact hx61)
        · exact hI
        · exact (Fr.rf)
      · skip
        refine g_iload (M := mX0_call) (pc := 13) dX0_call_13 rfl (k := ?_)
        refine g_bipush (M := mX0_call) (pc := 15) dX0_call_15 (k := ?_)
        refine g_cS2I (M := mX0_call) (pc := 17) (c_X10_isUpTo Γ t _ _ _ (by omega) (by omega)) qX10_isUpTo vX10_isUpTo kX0_25 dX0_call_17 (kk := ?_)
        rintro _ _ ⟨e1, e⟩; rw [e1, e]; clear e1 e
        refine g_if_eqB (M := mX0_call) (pc := 20) (tgt := 83) dX0_call_20 (k1 := fun h20 => ?_) (k2 := fun h20 => ?_)
        · skip
          refine g_iconst (M := mX0_call) (pc := 83) dX0_call_83 (k := ?_)
          refine g_iret (M := mX0_call) (pc := 84) rfl dX0_call_84 rfl ⟨_, _, rfl, rfl, ?_⟩
          refine ⟨?_, ?_, ?_, ?_⟩
          · omega
          · first | exact (cal_0 (by rw [← hx6_0]; exact bd_out (by omega))).symm | (exfalso; omega) | (rw [cal_S (by rw [← hx6_0, (bd_here (by omega) ha h37).1]; exact h37), ← hx6_0, ← hx6_1, (bd_here (by omega) ha h37).1, (bd_here (by omega) ha h37).2]; exact hx61)
          · exact hI
          · exact (Fr.rf)
        · skip
          refine g_bodies (M := mX0_call) (pc := 23) kX0_50 dX0_call_23 (k := ?_)
          refine g_iload (M := mX0_call) (pc := 26) dX0_call_26 rfl (k := ?_)
          refine g_iconst (M := mX0_call) (pc := 28) dX0_call_28 (k := ?_)
          refine g_imul (M := mX0_call) (pc := 29) dX0_call_29 (k := ?_)
          refine g_iload_n (M := mX0_call) (pc := 30) dX0_call_30 rfl (k := ?_)
          refine g_iadd (M := mX0_call) (pc := 31) dX0_call_31 (k := ?_)
          refine g_bodiesAt (M := mX0_call) (pc := 32) (by omega) (by omega) dX0_call_32 (k := ?_)
          have hz32 := bodiesB (Int.toNat ((ow * 3) + a))
          refine g_istore_7 (M := mX0_call) (pc := 33) dX0_call_33 (k := ?_)
          refine g_iload (M := mX0_call) (pc := 35) dX0_call_35 rfl (k := ?_)
          refine g_if_eq (M := mX0_call) (pc := 37) (tgt := 69) (by omega) dX0_call_37 (k1 := fun h37 => ?_) (k2 := fun h37 => ?_)
          · skip
            refine g_above (M := mX0_call) (pc := 69) kX0_53 dX0_call_69 (k := ?_)
            refine g_iload (M := mX0_call) (pc := 72) dX0_call_72 rfl (k := ?_)
            refine g_aboveAt (M := mX0_call) (pc := 74) (by omega) (by omega) dX0_call_74 (k := ?_)
            have hz74 := aboveE (i := ow) (by omega) (by omega)
            refine g_istore_5 (M := mX0_call) (pc := 75) dX0_call_75 (k := ?_)
            refine g_iinc_6 (M := mX0_call) (pc := 77) dX0_call_77 (k := ?_)
            refine g_goto (M := mX0_call) (pc := 80) (tgt := 6) dX0_call_80 (k := ?_)
            refine g_less (leL_s (leL_s (leL_s (leL_s (leL_s (leL_s (leL_s (leL_n leL_0)))))))) ?_
            refine ih6 _ _ ?_ ?_
            · omega
            · skip
              refine ⟨?_, ?_, ?_, ?_, ?_⟩
              · omega
              · omega
              · first | rfl | exact (bd_step (by omega) ha h37).1.trans hx6_0
              · first | rfl | exact (bd_step (by omega) ha h37).2.trans hx6_1
              · omega
          · skip
            refine g_iload (M := mX0_call) (pc := 40) dX0_call_40 rfl (k := ?_)
            refine g_bipush (M := mX0_call) (pc := 42) dX0_call_42 (k := ?_)
            refine g_icmp_ge (M := mX0_call) (pc := 44) (tgt := 67) (by omega) (by omega) dX0_call_44 (k1 := fun h44 => ?_) (k2 := fun h44 => ?_)
            · skip
              refine g_iconst (M := mX0_call) (pc := 67) dX0_call_67 (k := ?_)
              refine g_iret (M := mX0_call) (pc := 68) rfl dX0_call_68 rfl ⟨_, _, rfl, rfl, ?_⟩
              refine ⟨?_, ?_, ?_, ?_⟩
              · omega
              · first | exact (cal_0 (by rw [← hx6_0]; exact bd_out (by omega))).symm | (exfalso; omega) | (rw [cal_S (by rw [← hx6_0, (bd_here (by omega) ha h37).1]; exact h37), ← hx6_0, ← hx6_1, (bd_here (by omega) ha h37).1, (bd_here (by omega) ha h37).2]; exact hx61)
              · exact hI
              · exact (Fr.rf)
            · skip
              refine g_aload_n (M := mX0_call) (pc := 47) dX0_call_47 rfl (k := ?_)
              refine g_iload (M := mX0_call) (pc := 48) dX0_call_48 rfl (k := ?_)
              refine g_above (M := mX0_call) (pc := 50) kX0_53 dX0_call_50 (k := ?_)
              refine g_iload (M := mX0_call) (pc := 53) dX0_call_53 rfl (k := ?_)
              refine g_aboveAt (M := mX0_call) (pc := 55) (by omega) (by omega) dX0_call_55 (k := ?_)
              have hz55 := aboveE (i := ow) (by omega) (by omega)
              refine g_iload_n (M := mX0_call) (pc := 56) dX0_call_56 rfl (k := ?_)
              refine g_iload (M := mX0_call) (pc := 57) dX0_call_57 rfl (k := ?_)
              refine g_iconst (M := mX0_call) (pc := 59) dX0_call_59 (k := ?_)
              refine g_iadd (M := mX0_call) (pc := 60) dX0_call_60 (k := ?_)
              refine g_cV4I (M := mX0_call) (pc := 61) (hR _ _ _ _ _ hI (by omega) (by omega) (by omega) (by omega)) qX0_run vX0_run sX0_run kX0_56 dX0_call_61 (kk := ?_)
              rintro r61 τ61 ⟨hn61, hx61, hI61, hG61⟩
              have hF61 : Fr scA σ τ61 := by refine Fr.tr ?_ hG61; exact (Fr.rf)
              refine g_goto (M := mX0_call) (pc := 64) (tgt := 68) dX0_call_64 (k := ?_)
              refine g_iret (M := mX0_call) (pc := 68) rfl dX0_call_68 rfl ⟨_, _, rfl, rfl, ?_⟩
              refine ⟨?_, ?_, ?_, ?_⟩
              · omega
              · first | exact (cal_0 (by rw [← hx6_0]; exact bd_out (by omega))).symm | (exfalso; omega) | (rw [cal_S (by rw [← hx6_0, (bd_here (by omega) ha h37).1]; exact h37), ← hx6_0, ← hx6_1, (bd_here (by omega) ha h37).1, (bd_here (by omega) ha h37).2]; exact hx61)
              · exact hI61
              · exact hF61
  refine loop6 _ _ _ (Nat.lt_succ_self _) ?_
  refine ⟨?_, ?_, ?_, ?_, ?_⟩
  · omega
  · omega
  · first | rfl | exact (bd_step (by omega) ha h37).1.trans hx6_0
  · first | rfl | exact (bd_step (by omega) ha h37).2.trans hx6_1
  · omega
theorem c_X0_call (Γ : KT) (t : Nat) : ∀ (k : Nat), (∀ (σ : Nat → Int → Int) (a fr x dp : Int), InvX σ → (0 ≤ a ∧ a ≤ 2) → R32 fr → σ 21 1 + acN k ≤ 10000000 → (0 ≤ dp ∧ dp + ((k : Nat) : Int) = 20) → Ct Γ mX0_call (2 * k + 3) (0, 0) [vR Γ 21, vI a, vI fr, vI x, vI dp] (113, ρT t, σ) (pI 113 (ρT t) (fun r σ' => (σ' 21 1 ≤ σ 21 1 + acN k) ∧ ((r, σ' 21 1, σ' 22) = calF k (σ 21 2) (σ 21 3) (σ 21 4) a fr x (σ 21 1, σ 22)) ∧ (InvX σ') ∧ (Fr scA σ σ')))) := by
  intro k
  induction k with
  | zero =>
    intro σ a fr x dp hI ha hfr hn hd
    have e : acN 0 = 0 := rfl
    rw [e]
    have h := c_X0_call0 Γ t σ a fr x dp hI ha hfr (by omega)
    simpa using h
  | succ k ih =>
    intro σ a fr x dp hI ha hfr hn hd
    rw [acN_s] at hn ⊢
    have h := c_X0_callS Γ t σ k (fun σ b ab x dp hI hb hab hn hd => c_X0_run Γ t σ k ih b ab x dp hI hb hab hn hd) a fr x dp hI ha hfr hn (by omega)
    exact h
set_option maxHeartbeats 4000000 in
set_option maxRecDepth 20000 in
theorem c_X0_start (Γ : KT) (t : Nat) (σ : Nat → Int → Int) (h : Int) (a : Int) (x : Int) (hI : InvX σ) (hh : 0 ≤ h ∧ h < 6) (ha : 0 ≤ a ∧ a ≤ 2) (h0 : σ 21 1 = 0) : Ct Γ mX0_start 44 (0, 0) [vR Γ 21, vR Γ 33, vI h, vI a, vI x] (113, ρT t, σ) (pI 113 (ρT t) (fun r σ' => ((r, σ' 21 1, σ' 22) = calF 20 h (σ 34 h) (σ 35 h) a (σ 34 h) x (0, σ 22)) ∧ (InvX σ') ∧ (Fr scAc σ σ'))) := by
  refine Ct.of rfl (Nat.le_of_ble_eq_true rfl) ?_
  show G Γ mX0_start 44 (0, 0) _ (0, 0) 0 [some (vR Γ 21), some (vR Γ 33), some (vI h), some (vI a), some (vI x)] [] (113, ρT t, σ)
  have hk0 : acN 20 = 1048575 := rfl
  refine g_aload_n (M := mX0_start) (pc := 0) dX0_start_0 rfl (k := ?_)
  refine g_iload_n (M := mX0_start) (pc := 1) dX0_start_1 rfl (k := ?_)
  refine g_put (M := mX0_start) (pc := 2) (ji := 2) (by rfl) fX0_2 kX0_29 dX0_start_2 (by omega) (kk := ?_)
  refine g_aload_n (M := mX0_start) (pc := 5) dX0_start_5 rfl (k := ?_)
  refine g_aload_n (M := mX0_start) (pc := 6) dX0_start_6 rfl (k := ?_)
  refine g_getr (M := mX0_start) (pc := 7) (by rfl) fX5_1 kX0_32 dX0_start_7 (by rfl) (kk := ?_)
  refine g_iload_n (M := mX0_start) (pc := 10) dX0_start_10 rfl (k := ?_)
  refine g_iald (M := mX0_start) (pc := 11) (by rfl) (by omega) (by omega) dX0_start_11 (kk := fun hr11 => ?_)
  simp only [up_same, up_cell, up_slot, ne_eq, not_false_eq_true, Nat.reduceEqDiff, Int.reduceEq, reduceCtorEq, Nat.reduceAdd, Int.reduceAdd, Int.reduceSub] at hr11 ⊢
  have hb11 := iv34_0 hI h (by omega) (by omega)
  refine g_put (M := mX0_start) (pc := 12) (ji := 3) (by rfl) fX0_3 kX0_37 dX0_start_12 (by omega) (kk := ?_)
  refine g_aload_n (M := mX0_start) (pc := 15) dX0_start_15 rfl (k := ?_)
  refine g_aload_n (M := mX0_start) (pc := 16) dX0_start_16 rfl (k := ?_)
  refine g_getr (M := mX0_start) (pc := 17) (by rfl) fX5_2 kX0_40 dX0_start_17 (by rfl) (kk := ?_)
  refine g_iload_n (M := mX0_start) (pc := 20) dX0_start_20 rfl (k := ?_)
  refine g_iald (M := mX0_start) (pc := 21) (by rfl) (by omega) (by omega) dX0_start_21 (kk := fun hr21 => ?_)
  simp only [up_same, up_cell, up_slot, ne_eq, not_false_eq_true, Nat.reduceEqDiff, Int.reduceEq, reduceCtorEq, Nat.reduceAdd, Int.reduceAdd, Int.reduceSub] at hr21 ⊢
  have hb21 := iv35_0 hI h (by omega) (by omega)
  refine g_put (M := mX0_start) (pc := 22) (ji := 4) (by rfl) fX0_4 kX0_43 dX0_start_22 (by omega) (kk := ?_)
  refine g_aload_n (M := mX0_start) (pc := 25) dX0_start_25 rfl (k := ?_)
  refine g_iload_n (M := mX0_start) (pc := 26) dX0_start_26 rfl (k := ?_)
  refine g_aload_n (M := mX0_start) (pc := 27) dX0_start_27 rfl (k := ?_)
  refine g_get (M := mX0_start) (pc := 28) (ji := 3) (by rfl) fX0_3 kX0_37 dX0_start_28 (kk := fun hr28 => ?_)
  simp only [up_same, up_cell, up_slot, ne_eq, not_false_eq_true, Nat.reduceEqDiff, Int.reduceEq, reduceCtorEq, Nat.reduceAdd, Int.reduceAdd, Int.reduceSub] at hr28 ⊢
  refine g_iload (M := mX0_start) (pc := 31) dX0_start_31 rfl (k := ?_)
  refine g_iconst (M := mX0_start) (pc := 33) dX0_start_33 (k := ?_)
  refine g_cV4I (M := mX0_start) (pc := 34) (c_X0_call Γ t 20 _ _ _ _ _ (by refine iv_free ?_ (by rfl); refine iv_free ?_ (by rfl); refine iv_free ?_ (by rfl); exact hI) (by first | omega | (simp only [up_same, up_cell, up_slot, ne_eq, not_false_eq_true, Nat.reduceEqDiff, Int.reduceEq, reduceCtorEq, Nat.reduceAdd, Int.reduceAdd, Int.reduceSub]; done) | (simp only [up_same, up_cell, up_slot, ne_eq, not_false_eq_true, Nat.reduceEqDiff, Int.reduceEq, reduceCtorEq, Nat.reduceAdd, Int.reduceAdd, Int.reduceSub]; omega)) (by first | omega | (simp only [up_same, up_cell, up_slot, ne_eq, not_false_eq_true, Nat.reduceEqDiff, Int.reduceEq, reduceCtorEq, Nat.reduceAdd, Int.reduceAdd, Int.reduceSub]; done) | (simp only [up_same, up_cell, up_slot, ne_eq, not_false_eq_true, Nat.reduceEqDiff, Int.reduceEq, reduceCtorEq, Nat.reduceAdd, Int.reduceAdd, Int.reduceSub]; omega)) (by simp only [up_same, up_cell, up_slot, ne_eq, not_false_eq_true, Nat.reduceEqDiff, Int.reduceEq, reduceCtorEq, Nat.reduceAdd, Int.reduceAdd, Int.reduceSub]; omega) (by first | omega | (simp only [up_same, up_cell, up_slot, ne_eq, not_false_eq_true, Nat.reduceEqDiff, Int.reduceEq, reduceCtorEq, Nat.reduceAdd, Int.reduceAdd, Int.reduceSub]; done) | (simp only [up_same, up_cell, up_slot, ne_eq, not_false_eq_true, Nat.reduceEqDiff, Int.reduceEq, reduceCtorEq, Nat.reduceAdd, Int.reduceAdd, Int.reduceSub]; omega))) qX0_call vX0_call sX0_call kX0_46 dX0_start_34 (kk := ?_)
  rintro r34 τ34 ⟨hn34, hx34, hI34, hG34⟩
  try simp only [up_same, up_cell, up_slot, ne_eq, not_false_eq_true, Nat.reduceEqDiff, Int.reduceEq, reduceCtorEq, Nat.reduceAdd, Int.reduceAdd, Int.reduceSub] at hn34 hx34
  have hF34 : Fr scAc σ τ34 := by refine Fr.tr ?_ (Fr.mono hG34 sb_scA_scAc); refine Fr.up ?_ (by first | rfl | (unfold scAc; simp; try omega)); refine Fr.up ?_ (by first | rfl | (unfold scAc; simp; try omega)); refine Fr.up ?_ (by first | rfl | (unfold scAc; simp; try omega)); exact (Fr.rf)
  refine g_iret (M := mX0_start) (pc := 37) rfl dX0_start_37 rfl ⟨_, _, rfl, rfl, ?_⟩
  refine ⟨?_, ?_, ?_⟩
  · rw [h0] at hx34; exact hx34
  · exact hI34
  · exact hF34
