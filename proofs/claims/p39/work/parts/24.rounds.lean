set_option maxHeartbeats 4000000 in
set_option maxRecDepth 20000 in
theorem c_X3_swap (Γ : KT) (t : Nat) (σ : Nat → Int → Int) (a : Int) (b : Int) (hI : InvX σ) (ha : 0 ≤ a ∧ a < 5) (hb : 0 ≤ b ∧ b < 5) : Ct Γ mX3_swap 1 (0, 0) [vR Γ 63, vI a, vI b] (113, ρT t, σ) (pV 113 (ρT t) (fun σ' => (InvX σ') ∧ (Fr scW σ σ'))) := by
  refine Ct.of rfl (Nat.le_of_ble_eq_true rfl) ?_
  show G Γ mX3_swap 1 (0, 0) _ (0, 0) 0 [some (vR Γ 63), some (vI a), some (vI b), none] [] (113, ρT t, σ)
  refine g_aload_n (M := mX3_swap) (pc := 0) dX3_swap_0 rfl (k := ?_)
  refine g_getr (M := mX3_swap) (pc := 1) (by rfl) fX3_1 kX3_15 dX3_swap_1 (by rfl) (kk := ?_)
  refine g_iload_n (M := mX3_swap) (pc := 4) dX3_swap_4 rfl (k := ?_)
  refine g_iald (M := mX3_swap) (pc := 5) (by rfl) (by omega) (by omega) dX3_swap_5 (kk := fun hr5 => ?_)
  have hb5 := iv65_0 hI a (by omega) (by omega)
  refine g_istore_3 (M := mX3_swap) (pc := 6) dX3_swap_6 (k := ?_)
  refine g_aload_n (M := mX3_swap) (pc := 7) dX3_swap_7 rfl (k := ?_)
  refine g_getr (M := mX3_swap) (pc := 8) (by rfl) fX3_1 kX3_15 dX3_swap_8 (by rfl) (kk := ?_)
  refine g_iload_n (M := mX3_swap) (pc := 11) dX3_swap_11 rfl (k := ?_)
  refine g_aload_n (M := mX3_swap) (pc := 12) dX3_swap_12 rfl (k := ?_)
  refine g_getr (M := mX3_swap) (pc := 13) (by rfl) fX3_1 kX3_15 dX3_swap_13 (by rfl) (kk := ?_)
  refine g_iload_n (M := mX3_swap) (pc := 16) dX3_swap_16 rfl (k := ?_)
  refine g_iald (M := mX3_swap) (pc := 17) (by rfl) (by omega) (by omega) dX3_swap_17 (kk := fun hr17 => ?_)
  have hb17 := iv65_0 hI b (by omega) (by omega)
  refine g_iast (M := mX3_swap) (pc := 18) (by rfl) (by omega) (by omega) (by omega) dX3_swap_18 (kk := ?_)
  refine g_aload_n (M := mX3_swap) (pc := 19) dX3_swap_19 rfl (k := ?_)
  refine g_getr (M := mX3_swap) (pc := 20) (by rfl) fX3_1 kX3_15 dX3_swap_20 (by rfl) (kk := ?_)
  refine g_iload_n (M := mX3_swap) (pc := 23) dX3_swap_23 rfl (k := ?_)
  refine g_iload_n (M := mX3_swap) (pc := 24) dX3_swap_24 rfl (k := ?_)
  refine g_iast (M := mX3_swap) (pc := 25) (by rfl) (by omega) (by omega) (by omega) dX3_swap_25 (kk := ?_)
  refine g_vret (M := mX3_swap) (pc := 26) rfl dX3_swap_26 rfl ⟨_, rfl, rfl, ?_⟩
  refine ⟨?_, ?_⟩
  · refine ivu65 ?_ (by omega) (by omega); refine ivu65 ?_ (by omega) (by omega); exact hI
  · refine Fr.up ?_ (by first | rfl | (unfold scW; simp; try omega)); refine Fr.up ?_ (by first | rfl | (unfold scW; simp; try omega)); exact (Fr.rf)
set_option maxHeartbeats 4000000 in
set_option maxRecDepth 20000 in
theorem c_X3_start (Γ : KT) (t : Nat) (σ : Nat → Int → Int) (s : Int) (hI : InvX σ) : Ct Γ mX3_start 2 (0, 0) [vR Γ 63, vI s] (113, ρT t, σ) (pV 113 (ρT t) (fun σ' => (InvX σ') ∧ (Fr scR σ σ'))) := by
  refine Ct.of rfl (Nat.le_of_ble_eq_true rfl) ?_
  show G Γ mX3_start 2 (0, 0) _ (0, 0) 0 [some (vR Γ 63), some (vI s), none] [] (113, ρT t, σ)
  refine g_aload_n (M := mX3_start) (pc := 0) dX3_start_0 rfl (k := ?_)
  refine g_iconst (M := mX3_start) (pc := 1) dX3_start_1 (k := ?_)
  refine g_put (M := mX3_start) (pc := 2) (ji := 2) (by rfl) fX3_2 kX3_18 dX3_start_2 (by omega) (kk := ?_)
  refine g_aload_n (M := mX3_start) (pc := 5) dX3_start_5 rfl (k := ?_)
  refine g_iconst (M := mX3_start) (pc := 6) dX3_start_6 (k := ?_)
  refine g_put (M := mX3_start) (pc := 7) (ji := 3) (by rfl) fX3_3 kX3_22 dX3_start_7 (by omega) (kk := ?_)
  refine g_aload_n (M := mX3_start) (pc := 10) dX3_start_10 rfl (k := ?_)
  refine g_iconst (M := mX3_start) (pc := 11) dX3_start_11 (k := ?_)
  refine g_put (M := mX3_start) (pc := 12) (ji := 4) (by rfl) fX3_4 kX3_25 dX3_start_12 (by omega) (kk := ?_)
  refine g_iconst (M := mX3_start) (pc := 15) dX3_start_15 (k := ?_)
  refine g_istore_2 (M := mX3_start) (pc := 16) dX3_start_16 (k := ?_)
  have loop17 : ∀ (N : Nat) (τ17 : Nat → Int → Int) (q : Int), ((7 - q).toNat) < N → ((InvX τ17) ∧ (Fr scR σ τ17) ∧ (0 ≤ q ∧ q ≤ 6)) → G Γ mX3_start 2 (0, 0) (pV 113 (ρT t) (fun σ' => (InvX σ') ∧ (Fr scR σ σ'))) (0, 0) 17 [some (vR Γ 63), some (vI s), some (vI q)] [] (113, ρT t, τ17) := by
    intro N
    induction N with
    | zero => intro τ17 q hmu17 hinv17; exact absurd hmu17 (Nat.not_lt_zero _)
    | succ N ih17 =>
      intro τ17 q hmu17 hinv17
      obtain ⟨hI17, hF17, hb17_q⟩ := hinv17
      refine g_iload_n (M := mX3_start) (pc := 17) dX3_start_17 rfl (k := ?_)
      refine g_bipush (M := mX3_start) (pc := 18) dX3_start_18 (k := ?_)
      refine g_icmp_ge (M := mX3_start) (pc := 20) (tgt := 70) (by omega) (by omega) dX3_start_20 (k1 := fun h20 => ?_) (k2 := fun h20 => ?_)
      · skip
        refine g_vret (M := mX3_start) (pc := 70) rfl dX3_start_70 rfl ⟨_, rfl, rfl, ?_⟩
        refine ⟨?_, ?_⟩
        · exact hI17
        · exact hF17
      · skip
        refine g_aload_n (M := mX3_start) (pc := 23) dX3_start_23 rfl (k := ?_)
        refine g_get (M := mX3_start) (pc := 24) (ji := 2) (by rfl) fX3_2 kX3_18 dX3_start_24 (kk := fun hr24 => ?_)
        have hb24 := iv63_2 hI17 2 (by omega) (by omega)
        refine g_aload_n (M := mX3_start) (pc := 27) dX3_start_27 rfl (k := ?_)
        refine g_getr (M := mX3_start) (pc := 28) (by rfl) fX3_1 kX3_15 dX3_start_28 (by rfl) (kk := ?_)
        refine g_alen (M := mX3_start) (pc := 31) (by rfl) (by decide) dX3_start_31 (kk := ?_)
        refine g_icmp_ge (M := mX3_start) (pc := 32) (tgt := 70) (by omega) (by omega) dX3_start_32 (k1 := fun h32 => ?_) (k2 := fun h32 => ?_)
        · skip
          refine g_vret (M := mX3_start) (pc := 70) rfl dX3_start_70 rfl ⟨_, rfl, rfl, ?_⟩
          refine ⟨?_, ?_⟩
          · exact hI17
          · exact hF17
        · skip
          refine g_iload_n (M := mX3_start) (pc := 35) dX3_start_35 rfl (k := ?_)
          refine g_iload_n (M := mX3_start) (pc := 36) dX3_start_36 rfl (k := ?_)
          refine g_cS2I (M := mX3_start) (pc := 37) (c_X10_bit Γ t _ _ _) qX10_bit vX10_bit kX3_28 dX3_start_37 (kk := ?_)
          rintro _ _ ⟨e1, e⟩; rw [e1, e]; clear e1 e
          have hq37_0 := zbitR s q
          refine g_iconst (M := mX3_start) (pc := 40) dX3_start_40 (k := ?_)
          refine g_icmp_ne (M := mX3_start) (pc := 41) (tgt := 64) (by omega) (by omega) dX3_start_41 (k1 := fun h41 => ?_) (k2 := fun h41 => ?_)
          · skip
            refine g_iinc_2 (M := mX3_start) (pc := 64) dX3_start_64 (k := ?_)
            refine g_goto (M := mX3_start) (pc := 67) (tgt := 17) dX3_start_67 (k := ?_)
            refine ih17 _ _ ?_ ?_
            · omega
            · skip
              refine ⟨?_, ?_, ?_⟩
              · exact hI17
              · exact hF17
              · omega
          · skip
            refine g_aload_n (M := mX3_start) (pc := 44) dX3_start_44 rfl (k := ?_)
            refine g_getr (M := mX3_start) (pc := 45) (by rfl) fX3_1 kX3_15 dX3_start_45 (by rfl) (kk := ?_)
            refine g_aload_n (M := mX3_start) (pc := 48) dX3_start_48 rfl (k := ?_)
            refine g_get (M := mX3_start) (pc := 49) (ji := 2) (by rfl) fX3_2 kX3_18 dX3_start_49 (kk := fun hr49 => ?_)
            refine g_iload_n (M := mX3_start) (pc := 52) dX3_start_52 rfl (k := ?_)
            refine g_iast (M := mX3_start) (pc := 53) (by rfl) (by omega) (by omega) (by omega) dX3_start_53 (kk := ?_)
            refine g_aload_n (M := mX3_start) (pc := 54) dX3_start_54 rfl (k := ?_)
            refine g_dupR (M := mX3_start) (pc := 55) dX3_start_55 (k := ?_)
            refine g_get (M := mX3_start) (pc := 56) (ji := 2) (by rfl) fX3_2 kX3_18 dX3_start_56 (kk := fun hr56 => ?_)
            simp only [up_same, up_cell, up_slot, ne_eq, not_false_eq_true, Nat.reduceEqDiff, Int.reduceEq, reduceCtorEq, Nat.reduceAdd, Int.reduceAdd, Int.reduceSub] at hr56 ⊢
            refine g_iconst (M := mX3_start) (pc := 59) dX3_start_59 (k := ?_)
            refine g_iadd (M := mX3_start) (pc := 60) dX3_start_60 (k := ?_)
            refine g_put (M := mX3_start) (pc := 61) (ji := 2) (by rfl) fX3_2 kX3_18 dX3_start_61 (by omega) (kk := ?_)
            refine g_iinc_2 (M := mX3_start) (pc := 64) dX3_start_64 (k := ?_)
            refine g_goto (M := mX3_start) (pc := 67) (tgt := 17) dX3_start_67 (k := ?_)
            refine ih17 _ _ ?_ ?_
            · omega
            · skip
              refine ⟨?_, ?_, ?_⟩
              · refine ivu63 ?_ (by omega) (by omega); refine ivu65 ?_ (by omega) (by omega); exact hI17
              · refine Fr.up ?_ (by first | rfl | (unfold scR; simp; try omega)); refine Fr.up ?_ (by first | rfl | (unfold scR; simp; try omega)); exact hF17
              · omega
  refine loop17 _ _ _ (Nat.lt_succ_self _) ?_
  refine ⟨?_, ?_, ?_⟩
  · refine iv_free ?_ (by rfl); refine iv_free ?_ (by rfl); refine ivu63 ?_ (by omega) (by omega); exact hI
  · refine Fr.up ?_ (by first | rfl | (unfold scR; simp; try omega)); refine Fr.up ?_ (by first | rfl | (unfold scR; simp; try omega)); refine Fr.up ?_ (by first | rfl | (unfold scR; simp; try omega)); exact (Fr.rf)
  · omega
set_option maxHeartbeats 4000000 in
set_option maxRecDepth 20000 in
theorem c_X3_weigh (Γ : KT) (t : Nat) (σ : Nat → Int → Int) (i : Int) (m : Int) (hI : InvX σ) (hi : R32 i) (hm : R32 m) : Ct Γ mX3_weigh 1 (0, 0) [vR Γ 63, vI i, vI m] (113, ρT t, σ) (pV 113 (ρT t) (fun σ' => (InvX σ') ∧ (Fr scR σ σ'))) := by
  refine Ct.of rfl (Nat.le_of_ble_eq_true rfl) ?_
  show G Γ mX3_weigh 1 (0, 0) _ (0, 0) 0 [some (vR Γ 63), some (vI i), some (vI m)] [] (113, ρT t, σ)
  refine g_iload_n (M := mX3_weigh) (pc := 0) dX3_weigh_0 rfl (k := ?_)
  refine g_aload_n (M := mX3_weigh) (pc := 1) dX3_weigh_1 rfl (k := ?_)
  refine g_get (M := mX3_weigh) (pc := 2) (ji := 3) (by rfl) fX3_3 kX3_22 dX3_weigh_2 (kk := fun hr2 => ?_)
  refine g_icmp_gt (M := mX3_weigh) (pc := 5) (tgt := 24) (by omega) (by omega) dX3_weigh_5 (k1 := fun h5 => ?_) (k2 := fun h5 => ?_)
  · skip
    refine g_aload_n (M := mX3_weigh) (pc := 24) dX3_weigh_24 rfl (k := ?_)
    refine g_iload_n (M := mX3_weigh) (pc := 25) dX3_weigh_25 rfl (k := ?_)
    refine g_put (M := mX3_weigh) (pc := 26) (ji := 3) (by rfl) fX3_3 kX3_22 dX3_weigh_26 (by omega) (kk := ?_)
    refine g_aload_n (M := mX3_weigh) (pc := 29) dX3_weigh_29 rfl (k := ?_)
    refine g_iload_n (M := mX3_weigh) (pc := 30) dX3_weigh_30 rfl (k := ?_)
    refine g_put (M := mX3_weigh) (pc := 31) (ji := 4) (by rfl) fX3_4 kX3_25 dX3_weigh_31 (by omega) (kk := ?_)
    refine g_aload_n (M := mX3_weigh) (pc := 34) dX3_weigh_34 rfl (k := ?_)
    refine g_getr (M := mX3_weigh) (pc := 35) (by rfl) fX3_1 kX3_15 dX3_weigh_35 (by rfl) (kk := ?_)
    refine g_iconst (M := mX3_weigh) (pc := 38) dX3_weigh_38 (k := ?_)
    refine g_aload_n (M := mX3_weigh) (pc := 39) dX3_weigh_39 rfl (k := ?_)
    refine g_getr (M := mX3_weigh) (pc := 40) (by rfl) fX3_0 kX3_9 dX3_weigh_40 (by rfl) (kk := ?_)
    refine g_iconst (M := mX3_weigh) (pc := 43) dX3_weigh_43 (k := ?_)
    refine g_aload_n (M := mX3_weigh) (pc := 44) dX3_weigh_44 rfl (k := ?_)
    refine g_get (M := mX3_weigh) (pc := 45) (ji := 2) (by rfl) fX3_2 kX3_18 dX3_weigh_45 (kk := fun hr45 => ?_)
    simp only [up_same, up_cell, up_slot, ne_eq, not_false_eq_true, Nat.reduceEqDiff, Int.reduceEq, reduceCtorEq, Nat.reduceAdd, Int.reduceAdd, Int.reduceSub] at hr45 ⊢
    have hb45 := iv63_2 hI 2 (by omega) (by omega)
    refine g_copy (M := mX3_weigh) (pc := 48) cpX3_32 (by rfl) (by rfl) (by decide) (by omega) (by omega) (by omega) (by omega) (by omega) dX3_weigh_48 (by omega) (kk := ?_)
    have hI48 := iv_cpy (σ := (up (up σ 63 3 i) 63 4 m)) (k0 := 65) (k1 := 64) (sp := 0) (dp := 0) (len := σ 63 2) (by refine iv_free ?_ (by rfl); refine iv_free ?_ (by rfl); exact hI) (by decide +kernel) rfl
    have hF48 : Fr scR σ (cpy (up (up σ 63 3 i) 63 4 m) 65 64 0 0 (σ 63 2)) := by refine Fr.cpy ?_ (by intro j; first | rfl | (unfold scR; simp; try omega)); refine Fr.up ?_ (by first | rfl | (unfold scR; simp; try omega)); refine Fr.up ?_ (by first | rfl | (unfold scR; simp; try omega)); exact (Fr.rf)
    generalize hcp48 : cpy (up (up σ 63 3 i) 63 4 m) 65 64 0 0 (σ 63 2) = τ48 at hI48 hF48 ⊢
    refine g_vret (M := mX3_weigh) (pc := 51) rfl dX3_weigh_51 rfl ⟨_, rfl, rfl, ?_⟩
    refine ⟨?_, ?_⟩
    · exact hI48
    · exact hF48
  · skip
    refine g_iload_n (M := mX3_weigh) (pc := 8) dX3_weigh_8 rfl (k := ?_)
    refine g_aload_n (M := mX3_weigh) (pc := 9) dX3_weigh_9 rfl (k := ?_)
    refine g_get (M := mX3_weigh) (pc := 10) (ji := 3) (by rfl) fX3_3 kX3_22 dX3_weigh_10 (kk := fun hr10 => ?_)
    refine g_icmp_ne (M := mX3_weigh) (pc := 13) (tgt := 51) (by omega) (by omega) dX3_weigh_13 (k1 := fun h13 => ?_) (k2 := fun h13 => ?_)
    · skip
      refine g_vret (M := mX3_weigh) (pc := 51) rfl dX3_weigh_51 rfl ⟨_, rfl, rfl, ?_⟩
      refine ⟨?_, ?_⟩
      · exact hI
      · exact (Fr.rf)
    · skip
      refine g_iload_n (M := mX3_weigh) (pc := 16) dX3_weigh_16 rfl (k := ?_)
      refine g_aload_n (M := mX3_weigh) (pc := 17) dX3_weigh_17 rfl (k := ?_)
      refine g_get (M := mX3_weigh) (pc := 18) (ji := 4) (by rfl) fX3_4 kX3_25 dX3_weigh_18 (kk := fun hr18 => ?_)
      refine g_icmp_ge (M := mX3_weigh) (pc := 21) (tgt := 51) (by omega) (by omega) dX3_weigh_21 (k1 := fun h21 => ?_) (k2 := fun h21 => ?_)
      · skip
        refine g_vret (M := mX3_weigh) (pc := 51) rfl dX3_weigh_51 rfl ⟨_, rfl, rfl, ?_⟩
        refine ⟨?_, ?_⟩
        · exact hI
        · exact (Fr.rf)
      · skip
        refine g_aload_n (M := mX3_weigh) (pc := 24) dX3_weigh_24 rfl (k := ?_)
        refine g_iload_n (M := mX3_weigh) (pc := 25) dX3_weigh_25 rfl (k := ?_)
        refine g_put (M := mX3_weigh) (pc := 26) (ji := 3) (by rfl) fX3_3 kX3_22 dX3_weigh_26 (by omega) (kk := ?_)
        refine g_aload_n (M := mX3_weigh) (pc := 29) dX3_weigh_29 rfl (k := ?_)
        refine g_iload_n (M := mX3_weigh) (pc := 30) dX3_weigh_30 rfl (k := ?_)
        refine g_put (M := mX3_weigh) (pc := 31) (ji := 4) (by rfl) fX3_4 kX3_25 dX3_weigh_31 (by omega) (kk := ?_)
        refine g_aload_n (M := mX3_weigh) (pc := 34) dX3_weigh_34 rfl (k := ?_)
        refine g_getr (M := mX3_weigh) (pc := 35) (by rfl) fX3_1 kX3_15 dX3_weigh_35 (by rfl) (kk := ?_)
        refine g_iconst (M := mX3_weigh) (pc := 38) dX3_weigh_38 (k := ?_)
        refine g_aload_n (M := mX3_weigh) (pc := 39) dX3_weigh_39 rfl (k := ?_)
        refine g_getr (M := mX3_weigh) (pc := 40) (by rfl) fX3_0 kX3_9 dX3_weigh_40 (by rfl) (kk := ?_)
        refine g_iconst (M := mX3_weigh) (pc := 43) dX3_weigh_43 (k := ?_)
        refine g_aload_n (M := mX3_weigh) (pc := 44) dX3_weigh_44 rfl (k := ?_)
        refine g_get (M := mX3_weigh) (pc := 45) (ji := 2) (by rfl) fX3_2 kX3_18 dX3_weigh_45 (kk := fun hr45 => ?_)
        simp only [up_same, up_cell, up_slot, ne_eq, not_false_eq_true, Nat.reduceEqDiff, Int.reduceEq, reduceCtorEq, Nat.reduceAdd, Int.reduceAdd, Int.reduceSub] at hr45 ⊢
        have hb45 := iv63_2 hI 2 (by omega) (by omega)
        refine g_copy (M := mX3_weigh) (pc := 48) cpX3_32 (by rfl) (by rfl) (by decide) (by omega) (by omega) (by omega) (by omega) (by omega) dX3_weigh_48 (by omega) (kk := ?_)
        have hI48 := iv_cpy (σ := (up (up σ 63 3 i) 63 4 m)) (k0 := 65) (k1 := 64) (sp := 0) (dp := 0) (len := σ 63 2) (by refine iv_free ?_ (by rfl); refine iv_free ?_ (by rfl); exact hI) (by decide +kernel) rfl
        have hF48 : Fr scR σ (cpy (up (up σ 63 3 i) 63 4 m) 65 64 0 0 (σ 63 2)) := by refine Fr.cpy ?_ (by intro j; first | rfl | (unfold scR; simp; try omega)); refine Fr.up ?_ (by first | rfl | (unfold scR; simp; try omega)); refine Fr.up ?_ (by first | rfl | (unfold scR; simp; try omega)); exact (Fr.rf)
        generalize hcp48 : cpy (up (up σ 63 3 i) 63 4 m) 65 64 0 0 (σ 63 2) = τ48 at hI48 hF48 ⊢
        refine g_vret (M := mX3_weigh) (pc := 51) rfl dX3_weigh_51 rfl ⟨_, rfl, rfl, ?_⟩
        refine ⟨?_, ?_⟩
        · exact hI48
        · exact hF48
set_option maxHeartbeats 4000000 in
set_option maxRecDepth 20000 in
theorem c_X3_advance (Γ : KT) (t : Nat) (σ : Nat → Int → Int)  (hI : InvX σ) : Ct Γ mX3_advance 2 (0, 0) [vR Γ 63] (113, ρT t, σ) (pI 113 (ρT t) (fun r σ' => (0 ≤ r ∧ r ≤ 1) ∧ (InvX σ') ∧ (Fr scR σ σ'))) := by
  refine Ct.of rfl (Nat.le_of_ble_eq_true rfl) ?_
  show G Γ mX3_advance 2 (0, 0) _ (0, 0) 0 [some (vR Γ 63), none, none, none, none] [] (113, ρT t, σ)
  refine g_aload_n (M := mX3_advance) (pc := 0) dX3_advance_0 rfl (k := ?_)
  refine g_get (M := mX3_advance) (pc := 1) (ji := 2) (by rfl) fX3_2 kX3_18 dX3_advance_1 (kk := fun hr1 => ?_)
  have hb1 := iv63_2 hI 2 (by omega) (by omega)
  refine g_iconst (M := mX3_advance) (pc := 4) dX3_advance_4 (k := ?_)
  refine g_isub (M := mX3_advance) (pc := 5) dX3_advance_5 (k := ?_)
  refine g_istore_1 (M := mX3_advance) (pc := 6) dX3_advance_6 (k := ?_)
  have loop7 : ∀ (N : Nat) (f : Int), ((f + 3).toNat) < N → ((-2 ≤ f ∧ f ≤ 3) ∧ (f ≤ σ 63 2 - 2)) → G Γ mX3_advance 2 (0, 0) (pI 113 (ρT t) (fun r σ' => (0 ≤ r ∧ r ≤ 1) ∧ (InvX σ') ∧ (Fr scR σ σ'))) (0, 0) 7 [some (vR Γ 63), some (vI f), none, none, none] [] (113, ρT t, σ) := by
    intro N
    induction N with
    | zero => intro f hmu7 hinv7; exact absurd hmu7 (Nat.not_lt_zero _)
    | succ N ih7 =>
      intro f hmu7 hinv7
      obtain ⟨hb7_f, hx7_0⟩ := hinv7
      refine g_iload_n (M := mX3_advance) (pc := 7) dX3_advance_7 rfl (k := ?_)
      refine g_if_lt (M := mX3_advance) (pc := 8) (tgt := 34) (by omega) dX3_advance_8 (k1 := fun h8 => ?_) (k2 := fun h8 => ?_)
      · skip
        refine g_iload_n (M := mX3_advance) (pc := 34) dX3_advance_34 rfl (k := ?_)
        refine g_if_ge (M := mX3_advance) (pc := 35) (tgt := 40) (by omega) dX3_advance_35 (k1 := fun h35 => ?_) (k2 := fun h35 => ?_)
        · skip
          refine g_aload_n (M := mX3_advance) (pc := 40) dX3_advance_40 rfl (k := ?_)
          refine g_get (M := mX3_advance) (pc := 41) (ji := 2) (by rfl) fX3_2 kX3_18 dX3_advance_41 (kk := fun hr41 => ?_)
          refine g_iconst (M := mX3_advance) (pc := 44) dX3_advance_44 (k := ?_)
          refine g_isub (M := mX3_advance) (pc := 45) dX3_advance_45 (k := ?_)
          refine g_istore_2 (M := mX3_advance) (pc := 46) dX3_advance_46 (k := ?_)
          have loop47 : ∀ (N : Nat) (e : Int), ((e + 2).toNat) < N → ((-1 ≤ e ∧ e ≤ 4) ∧ (f ≤ e ∧ e ≤ σ 63 2 - 1)) → G Γ mX3_advance 2 (0, 0) (pI 113 (ρT t) (fun r σ' => (0 ≤ r ∧ r ≤ 1) ∧ (InvX σ') ∧ (Fr scR σ σ'))) (0, 0) 47 [some (vR Γ 63), some (vI f), some (vI e), none, none] [] (113, ρT t, σ) := by
            intro N
            induction N with
            | zero => intro e hmu47 hinv47; exact absurd hmu47 (Nat.not_lt_zero _)
            | succ N ih47 =>
              intro e hmu47 hinv47
              obtain ⟨hb47_e, hx47_0⟩ := hinv47
              refine g_iload_n (M := mX3_advance) (pc := 47) dX3_advance_47 rfl (k := ?_)
              refine g_iload_n (M := mX3_advance) (pc := 48) dX3_advance_48 rfl (k := ?_)
              refine g_icmp_le (M := mX3_advance) (pc := 49) (tgt := 73) (by omega) (by omega) dX3_advance_49 (k1 := fun h49 => ?_) (k2 := fun h49 => ?_)
              · skip
                refine g_aload_n (M := mX3_advance) (pc := 73) dX3_advance_73 rfl (k := ?_)
                refine g_iload_n (M := mX3_advance) (pc := 74) dX3_advance_74 rfl (k := ?_)
                refine g_iload_n (M := mX3_advance) (pc := 75) dX3_advance_75 rfl (k := ?_)
                refine g_cV2V (M := mX3_advance) (pc := 76) (c_X3_swap Γ t _ _ _ hI (by omega) (by omega)) qX3_swap vX3_swap sX3_swap kX3_38 dX3_advance_76 (kk := ?_)
                rintro τ76 ⟨hI76, hG76⟩
                have hF76 : Fr scR σ τ76 := by refine Fr.tr ?_ (Fr.mono hG76 sb_scW_scR); exact (Fr.rf)
                refine g_iload_n (M := mX3_advance) (pc := 79) dX3_advance_79 rfl (k := ?_)
                refine g_iconst (M := mX3_advance) (pc := 80) dX3_advance_80 (k := ?_)
                refine g_iadd (M := mX3_advance) (pc := 81) dX3_advance_81 (k := ?_)
                refine g_istore_3 (M := mX3_advance) (pc := 82) dX3_advance_82 (k := ?_)
                refine g_aload_n (M := mX3_advance) (pc := 83) dX3_advance_83 rfl (k := ?_)
                refine g_get (M := mX3_advance) (pc := 84) (ji := 2) (by rfl) fX3_2 kX3_18 dX3_advance_84 (kk := fun hr84 => ?_)
                have hb84 := iv63_2 hI76 2 (by omega) (by omega)
                refine g_iconst (M := mX3_advance) (pc := 87) dX3_advance_87 (k := ?_)
                refine g_isub (M := mX3_advance) (pc := 88) dX3_advance_88 (k := ?_)
                refine g_istore_4 (M := mX3_advance) (pc := 89) dX3_advance_89 (k := ?_)
                have loop91 : ∀ (N : Nat) (τ91 : Nat → Int → Int) (le : Int) (ri : Int), ((ri + 2).toNat) < N → ((InvX τ91) ∧ (Fr scR σ τ91) ∧ (0 ≤ le ∧ le ≤ 6) ∧ (-1 ≤ ri ∧ ri ≤ 4)) → G Γ mX3_advance 2 (0, 0) (pI 113 (ρT t) (fun r σ' => (0 ≤ r ∧ r ≤ 1) ∧ (InvX σ') ∧ (Fr scR σ σ'))) (0, 0) 91 [some (vR Γ 63), some (vI f), some (vI e), some (vI le), some (vI ri)] [] (113, ρT t, τ91) := by
                  intro N
                  induction N with
                  | zero => intro τ91 le ri hmu91 hinv91; exact absurd hmu91 (Nat.not_lt_zero _)
                  | succ N ih91 =>
                    intro τ91 le ri hmu91 hinv91
                    obtain ⟨hI91, hF91, hb91_le, hb91_ri⟩ := hinv91
                    refine g_iload_n (M := mX3_advance) (pc := 91) dX3_advance_91 rfl (k := ?_)
                    refine g_iload (M := mX3_advance) (pc := 92) dX3_advance_92 rfl (k := ?_)
                    refine g_icmp_ge (M := mX3_advance) (pc := 94) (tgt := 113) (by omega) (by omega) dX3_advance_94 (k1 := fun h94 => ?_) (k2 := fun h94 => ?_)
                    · skip
                      refine g_iconst (M := mX3_advance) (pc := 113) dX3_advance_113 (k := ?_)
                      refine g_zret (M := mX3_advance) (pc := 114) (by first | omega | (unfold b2; split <;> omega)) rfl dX3_advance_114 rfl ⟨_, _, rfl, rfl, ?_⟩
                      refine ⟨?_, ?_, ?_⟩
                      · omega
                      · exact hI91
                      · exact hF91
                    · skip
                      refine g_aload_n (M := mX3_advance) (pc := 97) dX3_advance_97 rfl (k := ?_)
                      refine g_iload_n (M := mX3_advance) (pc := 98) dX3_advance_98 rfl (k := ?_)
                      refine g_iload (M := mX3_advance) (pc := 99) dX3_advance_99 rfl (k := ?_)
                      refine g_cV2V (M := mX3_advance) (pc := 101) (c_X3_swap Γ t _ _ _ hI91 (by omega) (by omega)) qX3_swap vX3_swap sX3_swap kX3_38 dX3_advance_101 (kk := ?_)
                      rintro τ101 ⟨hI101, hG101⟩
                      have hF101 : Fr scR σ τ101 := by refine Fr.tr ?_ (Fr.mono hG101 sb_scW_scR); exact hF91
                      refine g_iinc_3 (M := mX3_advance) (pc := 104) dX3_advance_104 (k := ?_)
                      refine g_iinc_4 (M := mX3_advance) (pc := 107) dX3_advance_107 (k := ?_)
                      refine g_goto (M := mX3_advance) (pc := 110) (tgt := 91) dX3_advance_110 (k := ?_)
                      refine ih91 _ _ _ ?_ ?_
                      · omega
                      · skip
                        refine ⟨?_, ?_, ?_, ?_⟩
                        · exact hI101
                        · exact hF101
                        · omega
                        · omega
                refine loop91 _ _ _ _ (Nat.lt_succ_self _) ?_
                refine ⟨?_, ?_, ?_, ?_⟩
                · exact hI76
                · exact hF76
                · omega
                · omega
              · skip
                refine g_aload_n (M := mX3_advance) (pc := 52) dX3_advance_52 rfl (k := ?_)
                refine g_getr (M := mX3_advance) (pc := 53) (by rfl) fX3_1 kX3_15 dX3_advance_53 (by rfl) (kk := ?_)
                refine g_iload_n (M := mX3_advance) (pc := 56) dX3_advance_56 rfl (k := ?_)
                refine g_iald (M := mX3_advance) (pc := 57) (by rfl) (by omega) (by omega) dX3_advance_57 (kk := fun hr57 => ?_)
                have hb57 := iv65_0 hI e (by omega) (by omega)
                refine g_aload_n (M := mX3_advance) (pc := 58) dX3_advance_58 rfl (k := ?_)
                refine g_getr (M := mX3_advance) (pc := 59) (by rfl) fX3_1 kX3_15 dX3_advance_59 (by rfl) (kk := ?_)
                refine g_iload_n (M := mX3_advance) (pc := 62) dX3_advance_62 rfl (k := ?_)
                refine g_iald (M := mX3_advance) (pc := 63) (by rfl) (by omega) (by omega) dX3_advance_63 (kk := fun hr63 => ?_)
                have hb63 := iv65_0 hI f (by omega) (by omega)
                refine g_icmp_ge (M := mX3_advance) (pc := 64) (tgt := 73) (by omega) (by omega) dX3_advance_64 (k1 := fun h64 => ?_) (k2 := fun h64 => ?_)
                · skip
                  refine g_aload_n (M := mX3_advance) (pc := 73) dX3_advance_73 rfl (k := ?_)
                  refine g_iload_n (M := mX3_advance) (pc := 74) dX3_advance_74 rfl (k := ?_)
                  refine g_iload_n (M := mX3_advance) (pc := 75) dX3_advance_75 rfl (k := ?_)
                  refine g_cV2V (M := mX3_advance) (pc := 76) (c_X3_swap Γ t _ _ _ hI (by omega) (by omega)) qX3_swap vX3_swap sX3_swap kX3_38 dX3_advance_76 (kk := ?_)
                  rintro τ76 ⟨hI76, hG76⟩
                  have hF76 : Fr scR σ τ76 := by refine Fr.tr ?_ (Fr.mono hG76 sb_scW_scR); exact (Fr.rf)
                  refine g_iload_n (M := mX3_advance) (pc := 79) dX3_advance_79 rfl (k := ?_)
                  refine g_iconst (M := mX3_advance) (pc := 80) dX3_advance_80 (k := ?_)
                  refine g_iadd (M := mX3_advance) (pc := 81) dX3_advance_81 (k := ?_)
                  refine g_istore_3 (M := mX3_advance) (pc := 82) dX3_advance_82 (k := ?_)
                  refine g_aload_n (M := mX3_advance) (pc := 83) dX3_advance_83 rfl (k := ?_)
                  refine g_get (M := mX3_advance) (pc := 84) (ji := 2) (by rfl) fX3_2 kX3_18 dX3_advance_84 (kk := fun hr84 => ?_)
                  have hb84 := iv63_2 hI76 2 (by omega) (by omega)
                  refine g_iconst (M := mX3_advance) (pc := 87) dX3_advance_87 (k := ?_)
                  refine g_isub (M := mX3_advance) (pc := 88) dX3_advance_88 (k := ?_)
                  refine g_istore_4 (M := mX3_advance) (pc := 89) dX3_advance_89 (k := ?_)
                  have loop91 : ∀ (N : Nat) (τ91 : Nat → Int → Int) (le : Int) (ri : Int), ((ri + 2).toNat) < N → ((InvX τ91) ∧ (Fr scR σ τ91) ∧ (0 ≤ le ∧ le ≤ 6) ∧ (-1 ≤ ri ∧ ri ≤ 4)) → G Γ mX3_advance 2 (0, 0) (pI 113 (ρT t) (fun r σ' => (0 ≤ r ∧ r ≤ 1) ∧ (InvX σ') ∧ (Fr scR σ σ'))) (0, 0) 91 [some (vR Γ 63), some (vI f), some (vI e), some (vI le), some (vI ri)] [] (113, ρT t, τ91) := by
                    intro N
                    induction N with
                    | zero => intro τ91 le ri hmu91 hinv91; exact absurd hmu91 (Nat.not_lt_zero _)
                    | succ N ih91 =>
                      intro τ91 le ri hmu91 hinv91
                      obtain ⟨hI91, hF91, hb91_le, hb91_ri⟩ := hinv91
                      refine g_iload_n (M := mX3_advance) (pc := 91) dX3_advance_91 rfl (k := ?_)
                      refine g_iload (M := mX3_advance) (pc := 92) dX3_advance_92 rfl (k := ?_)
                      refine g_icmp_ge (M := mX3_advance) (pc := 94) (tgt := 113) (by omega) (by omega) dX3_advance_94 (k1 := fun h94 => ?_) (k2 := fun h94 => ?_)
                      · skip
                        refine g_iconst (M := mX3_advance) (pc := 113) dX3_advance_113 (k := ?_)
                        refine g_zret (M := mX3_advance) (pc := 114) (by first | omega | (unfold b2; split <;> omega)) rfl dX3_advance_114 rfl ⟨_, _, rfl, rfl, ?_⟩
                        refine ⟨?_, ?_, ?_⟩
                        · omega
                        · exact hI91
                        · exact hF91
                      · skip
                        refine g_aload_n (M := mX3_advance) (pc := 97) dX3_advance_97 rfl (k := ?_)
                        refine g_iload_n (M := mX3_advance) (pc := 98) dX3_advance_98 rfl (k := ?_)
                        refine g_iload (M := mX3_advance) (pc := 99) dX3_advance_99 rfl (k := ?_)
                        refine g_cV2V (M := mX3_advance) (pc := 101) (c_X3_swap Γ t _ _ _ hI91 (by omega) (by omega)) qX3_swap vX3_swap sX3_swap kX3_38 dX3_advance_101 (kk := ?_)
                        rintro τ101 ⟨hI101, hG101⟩
                        have hF101 : Fr scR σ τ101 := by refine Fr.tr ?_ (Fr.mono hG101 sb_scW_scR); exact hF91
                        refine g_iinc_3 (M := mX3_advance) (pc := 104) dX3_advance_104 (k := ?_)
                        refine g_iinc_4 (M := mX3_advance) (pc := 107) dX3_advance_107 (k := ?_)
                        refine g_goto (M := mX3_advance) (pc := 110) (tgt := 91) dX3_advance_110 (k := ?_)
                        refine ih91 _ _ _ ?_ ?_
                        · omega
                        · skip
                          refine ⟨?_, ?_, ?_, ?_⟩
                          · exact hI101
                          · exact hF101
                          · omega
                          · omega
                  refine loop91 _ _ _ _ (Nat.lt_succ_self _) ?_
                  refine ⟨?_, ?_, ?_, ?_⟩
                  · exact hI76
                  · exact hF76
                  · omega
                  · omega
                · skip
                  refine g_iinc_2 (M := mX3_advance) (pc := 67) dX3_advance_67 (k := ?_)
                  refine g_goto (M := mX3_advance) (pc := 70) (tgt := 47) dX3_advance_70 (k := ?_)
                  refine ih47 _ ?_ ?_
                  · omega
                  · skip
                    refine ⟨?_, ?_⟩
                    · omega
                    · omega
          refine loop47 _ _ (Nat.lt_succ_self _) ?_
          refine ⟨?_, ?_⟩
          · omega
          · omega
        · skip
          refine g_iconst (M := mX3_advance) (pc := 38) dX3_advance_38 (k := ?_)
          refine g_zret (M := mX3_advance) (pc := 39) (by first | omega | (unfold b2; split <;> omega)) rfl dX3_advance_39 rfl ⟨_, _, rfl, rfl, ?_⟩
          refine ⟨?_, ?_, ?_⟩
          · omega
          · exact hI
          · exact (Fr.rf)
      · skip
        refine g_aload_n (M := mX3_advance) (pc := 11) dX3_advance_11 rfl (k := ?_)
        refine g_getr (M := mX3_advance) (pc := 12) (by rfl) fX3_1 kX3_15 dX3_advance_12 (by rfl) (kk := ?_)
        refine g_iload_n (M := mX3_advance) (pc := 15) dX3_advance_15 rfl (k := ?_)
        refine g_iald (M := mX3_advance) (pc := 16) (by rfl) (by omega) (by omega) dX3_advance_16 (kk := fun hr16 => ?_)
        have hb16 := iv65_0 hI f (by omega) (by omega)
        refine g_aload_n (M := mX3_advance) (pc := 17) dX3_advance_17 rfl (k := ?_)
        refine g_getr (M := mX3_advance) (pc := 18) (by rfl) fX3_1 kX3_15 dX3_advance_18 (by rfl) (kk := ?_)
        refine g_iload_n (M := mX3_advance) (pc := 21) dX3_advance_21 rfl (k := ?_)
        refine g_iconst (M := mX3_advance) (pc := 22) dX3_advance_22 (k := ?_)
        refine g_iadd (M := mX3_advance) (pc := 23) dX3_advance_23 (k := ?_)
        refine g_iald (M := mX3_advance) (pc := 24) (by rfl) (by omega) (by omega) dX3_advance_24 (kk := fun hr24 => ?_)
        have hb24 := iv65_0 hI (f + 1) (by omega) (by omega)
        refine g_icmp_le (M := mX3_advance) (pc := 25) (tgt := 34) (by omega) (by omega) dX3_advance_25 (k1 := fun h25 => ?_) (k2 := fun h25 => ?_)
        · skip
          refine g_iload_n (M := mX3_advance) (pc := 34) dX3_advance_34 rfl (k := ?_)
          refine g_if_ge (M := mX3_advance) (pc := 35) (tgt := 40) (by omega) dX3_advance_35 (k1 := fun h35 => ?_) (k2 := fun h35 => ?_)
          · skip
            refine g_aload_n (M := mX3_advance) (pc := 40) dX3_advance_40 rfl (k := ?_)
            refine g_get (M := mX3_advance) (pc := 41) (ji := 2) (by rfl) fX3_2 kX3_18 dX3_advance_41 (kk := fun hr41 => ?_)
            refine g_iconst (M := mX3_advance) (pc := 44) dX3_advance_44 (k := ?_)
            refine g_isub (M := mX3_advance) (pc := 45) dX3_advance_45 (k := ?_)
            refine g_istore_2 (M := mX3_advance) (pc := 46) dX3_advance_46 (k := ?_)
            have loop47 : ∀ (N : Nat) (e : Int), ((e + 2).toNat) < N → ((-1 ≤ e ∧ e ≤ 4) ∧ (f ≤ e ∧ e ≤ σ 63 2 - 1)) → G Γ mX3_advance 2 (0, 0) (pI 113 (ρT t) (fun r σ' => (0 ≤ r ∧ r ≤ 1) ∧ (InvX σ') ∧ (Fr scR σ σ'))) (0, 0) 47 [some (vR Γ 63), some (vI f), some (vI e), none, none] [] (113, ρT t, σ) := by
              intro N
              induction N with
              | zero => intro e hmu47 hinv47; exact absurd hmu47 (Nat.not_lt_zero _)
              | succ N ih47 =>
                intro e hmu47 hinv47
                obtain ⟨hb47_e, hx47_0⟩ := hinv47
                refine g_iload_n (M := mX3_advance) (pc := 47) dX3_advance_47 rfl (k := ?_)
                refine g_iload_n (M := mX3_advance) (pc := 48) dX3_advance_48 rfl (k := ?_)
                refine g_icmp_le (M := mX3_advance) (pc := 49) (tgt := 73) (by omega) (by omega) dX3_advance_49 (k1 := fun h49 => ?_) (k2 := fun h49 => ?_)
                · skip
                  refine g_aload_n (M := mX3_advance) (pc := 73) dX3_advance_73 rfl (k := ?_)
                  refine g_iload_n (M := mX3_advance) (pc := 74) dX3_advance_74 rfl (k := ?_)
                  refine g_iload_n (M := mX3_advance) (pc := 75) dX3_advance_75 rfl (k := ?_)
                  refine g_cV2V (M := mX3_advance) (pc := 76) (c_X3_swap Γ t _ _ _ hI (by omega) (by omega)) qX3_swap vX3_swap sX3_swap kX3_38 dX3_advance_76 (kk := ?_)
                  rintro τ76 ⟨hI76, hG76⟩
                  have hF76 : Fr scR σ τ76 := by refine Fr.tr ?_ (Fr.mono hG76 sb_scW_scR); exact (Fr.rf)
                  refine g_iload_n (M := mX3_advance) (pc := 79) dX3_advance_79 rfl (k := ?_)
                  refine g_iconst (M := mX3_advance) (pc := 80) dX3_advance_80 (k := ?_)
                  refine g_iadd (M := mX3_advance) (pc := 81) dX3_advance_81 (k := ?_)
                  refine g_istore_3 (M := mX3_advance) (pc := 82) dX3_advance_82 (k := ?_)
                  refine g_aload_n (M := mX3_advance) (pc := 83) dX3_advance_83 rfl (k := ?_)
                  refine g_get (M := mX3_advance) (pc := 84) (ji := 2) (by rfl) fX3_2 kX3_18 dX3_advance_84 (kk := fun hr84 => ?_)
                  have hb84 := iv63_2 hI76 2 (by omega) (by omega)
                  refine g_iconst (M := mX3_advance) (pc := 87) dX3_advance_87 (k := ?_)
                  refine g_isub (M := mX3_advance) (pc := 88) dX3_advance_88 (k := ?_)
                  refine g_istore_4 (M := mX3_advance) (pc := 89) dX3_advance_89 (k := ?_)
                  have loop91 : ∀ (N : Nat) (τ91 : Nat → Int → Int) (le : Int) (ri : Int), ((ri + 2).toNat) < N → ((InvX τ91) ∧ (Fr scR σ τ91) ∧ (0 ≤ le ∧ le ≤ 6) ∧ (-1 ≤ ri ∧ ri ≤ 4)) → G Γ mX3_advance 2 (0, 0) (pI 113 (ρT t) (fun r σ' => (0 ≤ r ∧ r ≤ 1) ∧ (InvX σ') ∧ (Fr scR σ σ'))) (0, 0) 91 [some (vR Γ 63), some (vI f), some (vI e), some (vI le), some (vI ri)] [] (113, ρT t, τ91) := by
                    intro N
                    induction N with
                    | zero => intro τ91 le ri hmu91 hinv91; exact absurd hmu91 (Nat.not_lt_zero _)
                    | succ N ih91 =>
                      intro τ91 le ri hmu91 hinv91
                      obtain ⟨hI91, hF91, hb91_le, hb91_ri⟩ := hinv91
                      refine g_iload_n (M := mX3_advance) (pc := 91) dX3_advance_91 rfl (k := ?_)
                      refine g_iload (M := mX3_advance) (pc := 92) dX3_advance_92 rfl (k := ?_)
                      refine g_icmp_ge (M := mX3_advance) (pc := 94) (tgt := 113) (by omega) (by omega) dX3_advance_94 (k1 := fun h94 => ?_) (k2 := fun h94 => ?_)
                      · skip
                        refine g_iconst (M := mX3_advance) (pc := 113) dX3_advance_113 (k := ?_)
                        refine g_zret (M := mX3_advance) (pc := 114) (by first | omega | (unfold b2; split <;> omega)) rfl dX3_advance_114 rfl ⟨_, _, rfl, rfl, ?_⟩
                        refine ⟨?_, ?_, ?_⟩
                        · omega
                        · exact hI91
                        · exact hF91
                      · skip
                        refine g_aload_n (M := mX3_advance) (pc := 97) dX3_advance_97 rfl (k := ?_)
                        refine g_iload_n (M := mX3_advance) (pc := 98) dX3_advance_98 rfl (k := ?_)
                        refine g_iload (M := mX3_advance) (pc := 99) dX3_advance_99 rfl (k := ?_)
                        refine g_cV2V (M := mX3_advance) (pc := 101) (c_X3_swap Γ t _ _ _ hI91 (by omega) (by omega)) qX3_swap vX3_swap sX3_swap kX3_38 dX3_advance_101 (kk := ?_)
                        rintro τ101 ⟨hI101, hG101⟩
                        have hF101 : Fr scR σ τ101 := by refine Fr.tr ?_ (Fr.mono hG101 sb_scW_scR); exact hF91
                        refine g_iinc_3 (M := mX3_advance) (pc := 104) dX3_advance_104 (k := ?_)
                        refine g_iinc_4 (M := mX3_advance) (pc := 107) dX3_advance_107 (k := ?_)
                        refine g_goto (M := mX3_advance) (pc := 110) (tgt := 91) dX3_advance_110 (k := ?_)
                        refine ih91 _ _ _ ?_ ?_
                        · omega
                        · skip
                          refine ⟨?_, ?_, ?_, ?_⟩
                          · exact hI101
                          · exact hF101
                          · omega
                          · omega
                  refine loop91 _ _ _ _ (Nat.lt_succ_self _) ?_
                  refine ⟨?_, ?_, ?_, ?_⟩
                  · exact hI76
                  · exact hF76
                  · omega
                  · omega
                · skip
                  refine g_aload_n (M := mX3_advance) (pc := 52) dX3_advance_52 rfl (k := ?_)
                  refine g_getr (M := mX3_advance) (pc := 53) (by rfl) fX3_1 kX3_15 dX3_advance_53 (by rfl) (kk := ?_)
                  refine g_iload_n (M := mX3_advance) (pc := 56) dX3_advance_56 rfl (k := ?_)
                  refine g_iald (M := mX3_advance) (pc := 57) (by rfl) (by omega) (by omega) dX3_advance_57 (kk := fun hr57 => ?_)
                  have hb57 := iv65_0 hI e (by omega) (by omega)
                  refine g_aload_n (M := mX3_advance) (pc := 58) dX3_advance_58 rfl (k := ?_)
                  refine g_getr (M := mX3_advance) (pc := 59) (by rfl) fX3_1 kX3_15 dX3_advance_59 (by rfl) (kk := ?_)
                  refine g_iload_n (M := mX3_advance) (pc := 62) dX3_advance_62 rfl (k := ?_)
                  refine g_iald (M := mX3_advance) (pc := 63) (by rfl) (by omega) (by omega) dX3_advance_63 (kk := fun hr63 => ?_)
                  refine g_icmp_ge (M := mX3_advance) (pc := 64) (tgt := 73) (by omega) (by omega) dX3_advance_64 (k1 := fun h64 => ?_) (k2 := fun h64 => ?_)
                  · skip
                    refine g_aload_n (M := mX3_advance) (pc := 73) dX3_advance_73 rfl (k := ?_)
                    refine g_iload_n (M := mX3_advance) (pc := 74) dX3_advance_74 rfl (k := ?_)
                    refine g_iload_n (M := mX3_advance) (pc := 75) dX3_advance_75 rfl (k := ?_)
                    refine g_cV2V (M := mX3_advance) (pc := 76) (c_X3_swap Γ t _ _ _ hI (by omega) (by omega)) qX3_swap vX3_swap sX3_swap kX3_38 dX3_advance_76 (kk := ?_)
                    rintro τ76 ⟨hI76, hG76⟩
                    have hF76 : Fr scR σ τ76 := by refine Fr.tr ?_ (Fr.mono hG76 sb_scW_scR); exact (Fr.rf)
                    refine g_iload_n (M := mX3_advance) (pc := 79) dX3_advance_79 rfl (k := ?_)
                    refine g_iconst (M := mX3_advance) (pc := 80) dX3_advance_80 (k := ?_)
                    refine g_iadd (M := mX3_advance) (pc := 81) dX3_advance_81 (k := ?_)
                    refine g_istore_3 (M := mX3_advance) (pc := 82) dX3_advance_82 (k := ?_)
                    refine g_aload_n (M := mX3_advance) (pc := 83) dX3_advance_83 rfl (k := ?_)
                    refine g_get (M := mX3_advance) (pc := 84) (ji := 2) (by rfl) fX3_2 kX3_18 dX3_advance_84 (kk := fun hr84 => ?_)
                    have hb84 := iv63_2 hI76 2 (by omega) (by omega)
                    refine g_iconst (M := mX3_advance) (pc := 87) dX3_advance_87 (k := ?_)
                    refine g_isub (M := mX3_advance) (pc := 88) dX3_advance_88 (k := ?_)
                    refine g_istore_4 (M := mX3_advance) (pc := 89) dX3_advance_89 (k := ?_)
                    have loop91 : ∀ (N : Nat) (τ91 : Nat → Int → Int) (le : Int) (ri : Int), ((ri + 2).toNat) < N → ((InvX τ91) ∧ (Fr scR σ τ91) ∧ (0 ≤ le ∧ le ≤ 6) ∧ (-1 ≤ ri ∧ ri ≤ 4)) → G Γ mX3_advance 2 (0, 0) (pI 113 (ρT t) (fun r σ' => (0 ≤ r ∧ r ≤ 1) ∧ (InvX σ') ∧ (Fr scR σ σ'))) (0, 0) 91 [some (vR Γ 63), some (vI f), some (vI e), some (vI le), some (vI ri)] [] (113, ρT t, τ91) := by
                      intro N
                      induction N with
                      | zero => intro τ91 le ri hmu91 hinv91; exact absurd hmu91 (Nat.not_lt_zero _)
                      | succ N ih91 =>
                        intro τ91 le ri hmu91 hinv91
                        obtain ⟨hI91, hF91, hb91_le, hb91_ri⟩ := hinv91
                        refine g_iload_n (M := mX3_advance) (pc := 91) dX3_advance_91 rfl (k := ?_)
                        refine g_iload (M := mX3_advance) (pc := 92) dX3_advance_92 rfl (k := ?_)
                        refine g_icmp_ge (M := mX3_advance) (pc := 94) (tgt := 113) (by omega) (by omega) dX3_advance_94 (k1 := fun h94 => ?_) (k2 := fun h94 => ?_)
                        · skip
                          refine g_iconst (M := mX3_advance) (pc := 113) dX3_advance_113 (k := ?_)
                          refine g_zret (M := mX3_advance) (pc := 114) (by first | omega | (unfold b2; split <;> omega)) rfl dX3_advance_114 rfl ⟨_, _, rfl, rfl, ?_⟩
                          refine ⟨?_, ?_, ?_⟩
                          · omega
                          · exact hI91
                          · exact hF91
                        · skip
                          refine g_aload_n (M := mX3_advance) (pc := 97) dX3_advance_97 rfl (k := ?_)
                          refine g_iload_n (M := mX3_advance) (pc := 98) dX3_advance_98 rfl (k := ?_)
                          refine g_iload (M := mX3_advance) (pc := 99) dX3_advance_99 rfl (k := ?_)
                          refine g_cV2V (M := mX3_advance) (pc := 101) (c_X3_swap Γ t _ _ _ hI91 (by omega) (by omega)) qX3_swap vX3_swap sX3_swap kX3_38 dX3_advance_101 (kk := ?_)
                          rintro τ101 ⟨hI101, hG101⟩
                          have hF101 : Fr scR σ τ101 := by refine Fr.tr ?_ (Fr.mono hG101 sb_scW_scR); exact hF91
                          refine g_iinc_3 (M := mX3_advance) (pc := 104) dX3_advance_104 (k := ?_)
                          refine g_iinc_4 (M := mX3_advance) (pc := 107) dX3_advance_107 (k := ?_)
                          refine g_goto (M := mX3_advance) (pc := 110) (tgt := 91) dX3_advance_110 (k := ?_)
                          refine ih91 _ _ _ ?_ ?_
                          · omega
                          · skip
                            refine ⟨?_, ?_, ?_, ?_⟩
                            · exact hI101
                            · exact hF101
                            · omega
                            · omega
                    refine loop91 _ _ _ _ (Nat.lt_succ_self _) ?_
                    refine ⟨?_, ?_, ?_, ?_⟩
                    · exact hI76
                    · exact hF76
                    · omega
                    · omega
                  · skip
                    refine g_iinc_2 (M := mX3_advance) (pc := 67) dX3_advance_67 (k := ?_)
                    refine g_goto (M := mX3_advance) (pc := 70) (tgt := 47) dX3_advance_70 (k := ?_)
                    refine ih47 _ ?_ ?_
                    · omega
                    · skip
                      refine ⟨?_, ?_⟩
                      · omega
                      · omega
            refine loop47 _ _ (Nat.lt_succ_self _) ?_
            refine ⟨?_, ?_⟩
            · omega
            · omega
          · skip
            refine g_iconst (M := mX3_advance) (pc := 38) dX3_advance_38 (k := ?_)
            refine g_zret (M := mX3_advance) (pc := 39) (by first | omega | (unfold b2; split <;> omega)) rfl dX3_advance_39 rfl ⟨_, _, rfl, rfl, ?_⟩
            refine ⟨?_, ?_, ?_⟩
            · omega
            · exact hI
            · exact (Fr.rf)
        · skip
          refine g_iinc_1 (M := mX3_advance) (pc := 28) dX3_advance_28 (k := ?_)
          refine g_goto (M := mX3_advance) (pc := 31) (tgt := 7) dX3_advance_31 (k := ?_)
          refine ih7 _ ?_ ?_
          · omega
          · skip
            refine ⟨?_, ?_⟩
            · omega
            · omega
  refine loop7 _ _ (Nat.lt_succ_self _) ?_
  refine ⟨?_, ?_⟩
  · omega
  · omega
