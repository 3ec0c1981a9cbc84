set_option maxHeartbeats 4000000 in
set_option maxRecDepth 20000 in
theorem c_X7_add (Γ : KT) (t : Nat) (σ : Nat → Int → Int) (s : Int) (hI : InvX σ) (hs : 0 ≤ s ∧ s ≤ 127) : Ct Γ mX7_add 1 (0, 0) [vR Γ 19, vI s] (113, ρT t, σ) (pI 113 (ρT t) (fun r σ' => (R32 r) ∧ (InvX σ') ∧ (Fr scFd σ σ'))) := by
  refine Ct.of rfl (Nat.le_of_ble_eq_true rfl) ?_
  show G Γ mX7_add 1 (0, 0) _ (0, 0) 0 [some (vR Γ 19), some (vI s)] [] (113, ρT t, σ)
  refine g_aload_n (M := mX7_add) (pc := 0) dX7_add_0 rfl (k := ?_)
  refine g_get (M := mX7_add) (pc := 1) (ji := 1) (by rfl) fX7_1 kX7_19 dX7_add_1 (kk := fun hr1 => ?_)
  have hb1 := iv19_1 hI 1 (by omega) (by omega)
  refine g_bipush (M := mX7_add) (pc := 4) dX7_add_4 (k := ?_)
  refine g_icmp_lt (M := mX7_add) (pc := 6) (tgt := 12) (by omega) (by omega) dX7_add_6 (k1 := fun h6 => ?_) (k2 := fun h6 => ?_)
  · skip
    refine g_aload_n (M := mX7_add) (pc := 12) dX7_add_12 rfl (k := ?_)
    refine g_getr (M := mX7_add) (pc := 13) (by rfl) fX7_0 kX7_9 dX7_add_13 (by rfl) (kk := ?_)
    refine g_aload_n (M := mX7_add) (pc := 16) dX7_add_16 rfl (k := ?_)
    refine g_get (M := mX7_add) (pc := 17) (ji := 1) (by rfl) fX7_1 kX7_19 dX7_add_17 (kk := fun hr17 => ?_)
    refine g_iload_n (M := mX7_add) (pc := 20) dX7_add_20 rfl (k := ?_)
    refine g_i2b (M := mX7_add) (pc := 21) dX7_add_21 (k := ?_)
    have hz21 := zi2bR s
    refine g_bast (M := mX7_add) (pc := 22) (by rfl) (by omega) (by omega) (by omega) dX7_add_22 (kk := ?_)
    refine g_aload_n (M := mX7_add) (pc := 23) dX7_add_23 rfl (k := ?_)
    refine g_dupR (M := mX7_add) (pc := 24) dX7_add_24 (k := ?_)
    refine g_get (M := mX7_add) (pc := 25) (ji := 1) (by rfl) fX7_1 kX7_19 dX7_add_25 (kk := fun hr25 => ?_)
    simp only [up_same, up_cell, up_slot, ne_eq, not_false_eq_true, Nat.reduceEqDiff, Int.reduceEq, reduceCtorEq, Nat.reduceAdd, Int.reduceAdd, Int.reduceSub] at hr25 ⊢
    refine g_iconst (M := mX7_add) (pc := 28) dX7_add_28 (k := ?_)
    refine g_iadd (M := mX7_add) (pc := 29) dX7_add_29 (k := ?_)
    refine g_put (M := mX7_add) (pc := 30) (ji := 1) (by rfl) fX7_1 kX7_19 dX7_add_30 (by omega) (kk := ?_)
    refine g_aload_n (M := mX7_add) (pc := 33) dX7_add_33 rfl (k := ?_)
    refine g_get (M := mX7_add) (pc := 34) (ji := 1) (by rfl) fX7_1 kX7_19 dX7_add_34 (kk := fun hr34 => ?_)
    simp only [up_same, up_cell, up_slot, ne_eq, not_false_eq_true, Nat.reduceEqDiff, Int.reduceEq, reduceCtorEq, Nat.reduceAdd, Int.reduceAdd, Int.reduceSub] at hr34 ⊢
    refine g_iret (M := mX7_add) (pc := 37) rfl dX7_add_37 rfl ⟨_, _, rfl, rfl, ?_⟩
    refine ⟨?_, ?_, ?_⟩
    · omega
    · refine ivu19_1 ?_ (by omega) (by omega); refine iv_cell ?_ (by rfl); exact hI
    · refine Fr.up ?_ (by first | rfl | (unfold scFd; simp; try omega)); refine Fr.up ?_ (by first | rfl | (unfold scFd; simp; try omega)); exact (Fr.rf)
  · skip
    refine g_bipush (M := mX7_add) (pc := 9) dX7_add_9 (k := ?_)
    refine g_iret (M := mX7_add) (pc := 11) rfl dX7_add_11 rfl ⟨_, _, rfl, rfl, ?_⟩
    refine ⟨?_, ?_, ?_⟩
    · omega
    · exact hI
    · exact (Fr.rf)
set_option maxHeartbeats 4000000 in
set_option maxRecDepth 20000 in
theorem c_X7_take (Γ : KT) (t : Nat) (σ : Nat → Int → Int) (s : Int) (hI : InvX σ) (hs : R32 s) : Ct Γ mX7_take 1 (0, 0) [vR Γ 19, vI s] (113, ρT t, σ) (pI 113 (ρT t) (fun r σ' => (0 ≤ r ∧ r ≤ 1) ∧ (InvX σ') ∧ (Fr scP σ σ'))) := by
  refine Ct.of rfl (Nat.le_of_ble_eq_true rfl) ?_
  show G Γ mX7_take 1 (0, 0) _ (0, 0) 0 [some (vR Γ 19), some (vI s), none] [] (113, ρT t, σ)
  refine g_aload_n (M := mX7_take) (pc := 0) dX7_take_0 rfl (k := ?_)
  refine g_get (M := mX7_take) (pc := 1) (ji := 3) (by rfl) fX7_3 kX7_15 dX7_take_1 (kk := fun hr1 => ?_)
  refine g_iconst (M := mX7_take) (pc := 4) dX7_take_4 (k := ?_)
  refine g_icmp_ne (M := mX7_take) (pc := 5) (tgt := 36) (by omega) (by omega) dX7_take_5 (k1 := fun h5 => ?_) (k2 := fun h5 => ?_)
  · skip
    refine g_iconst (M := mX7_take) (pc := 36) dX7_take_36 (k := ?_)
    refine g_istore_2 (M := mX7_take) (pc := 37) dX7_take_37 (k := ?_)
    refine g_iload_n (M := mX7_take) (pc := 38) dX7_take_38 rfl (k := ?_)
    refine g_if_eq (M := mX7_take) (pc := 39) (tgt := 52) (by omega) dX7_take_39 (k1 := fun h39 => ?_) (k2 := fun h39 => ?_)
    · skip
      refine g_iload_n (M := mX7_take) (pc := 52) dX7_take_52 rfl (k := ?_)
      refine g_zret (M := mX7_take) (pc := 53) (by first | omega | (unfold b2; split <;> omega)) rfl dX7_take_53 rfl ⟨_, _, rfl, rfl, ?_⟩
      refine ⟨?_, ?_, ?_⟩
      · omega
      · exact hI
      · exact (Fr.rf)
    · omega
  · skip
    refine g_aload_n (M := mX7_take) (pc := 8) dX7_take_8 rfl (k := ?_)
    refine g_get (M := mX7_take) (pc := 9) (ji := 2) (by rfl) fX7_2 kX7_22 dX7_take_9 (kk := fun hr9 => ?_)
    have hb9 := iv19_2 hI 2 (by omega) (by omega)
    refine g_aload_n (M := mX7_take) (pc := 12) dX7_take_12 rfl (k := ?_)
    refine g_get (M := mX7_take) (pc := 13) (ji := 1) (by rfl) fX7_1 kX7_19 dX7_take_13 (kk := fun hr13 => ?_)
    have hb13 := iv19_1 hI 1 (by omega) (by omega)
    refine g_icmp_ge (M := mX7_take) (pc := 16) (tgt := 36) (by omega) (by omega) dX7_take_16 (k1 := fun h16 => ?_) (k2 := fun h16 => ?_)
    · skip
      refine g_iconst (M := mX7_take) (pc := 36) dX7_take_36 (k := ?_)
      refine g_istore_2 (M := mX7_take) (pc := 37) dX7_take_37 (k := ?_)
      refine g_iload_n (M := mX7_take) (pc := 38) dX7_take_38 rfl (k := ?_)
      refine g_if_eq (M := mX7_take) (pc := 39) (tgt := 52) (by omega) dX7_take_39 (k1 := fun h39 => ?_) (k2 := fun h39 => ?_)
      · skip
        refine g_iload_n (M := mX7_take) (pc := 52) dX7_take_52 rfl (k := ?_)
        refine g_zret (M := mX7_take) (pc := 53) (by first | omega | (unfold b2; split <;> omega)) rfl dX7_take_53 rfl ⟨_, _, rfl, rfl, ?_⟩
        refine ⟨?_, ?_, ?_⟩
        · omega
        · exact hI
        · exact (Fr.rf)
      · omega
    · skip
      refine g_aload_n (M := mX7_take) (pc := 19) dX7_take_19 rfl (k := ?_)
      refine g_getr (M := mX7_take) (pc := 20) (by rfl) fX7_0 kX7_9 dX7_take_20 (by rfl) (kk := ?_)
      refine g_aload_n (M := mX7_take) (pc := 23) dX7_take_23 rfl (k := ?_)
      refine g_get (M := mX7_take) (pc := 24) (ji := 2) (by rfl) fX7_2 kX7_22 dX7_take_24 (kk := fun hr24 => ?_)
      refine g_bald (M := mX7_take) (pc := 27) (by rfl) (by omega) (by omega) dX7_take_27 (kk := fun hr27 => ?_)
      refine g_iload_n (M := mX7_take) (pc := 28) dX7_take_28 rfl (k := ?_)
      refine g_icmp_ne (M := mX7_take) (pc := 29) (tgt := 36) (by omega) (by omega) dX7_take_29 (k1 := fun h29 => ?_) (k2 := fun h29 => ?_)
      · skip
        refine g_iconst (M := mX7_take) (pc := 36) dX7_take_36 (k := ?_)
        refine g_istore_2 (M := mX7_take) (pc := 37) dX7_take_37 (k := ?_)
        refine g_iload_n (M := mX7_take) (pc := 38) dX7_take_38 rfl (k := ?_)
        refine g_if_eq (M := mX7_take) (pc := 39) (tgt := 52) (by omega) dX7_take_39 (k1 := fun h39 => ?_) (k2 := fun h39 => ?_)
        · skip
          refine g_iload_n (M := mX7_take) (pc := 52) dX7_take_52 rfl (k := ?_)
          refine g_zret (M := mX7_take) (pc := 53) (by first | omega | (unfold b2; split <;> omega)) rfl dX7_take_53 rfl ⟨_, _, rfl, rfl, ?_⟩
          refine ⟨?_, ?_, ?_⟩
          · omega
          · exact hI
          · exact (Fr.rf)
        · omega
      · skip
        refine g_iconst (M := mX7_take) (pc := 32) dX7_take_32 (k := ?_)
        refine g_goto (M := mX7_take) (pc := 33) (tgt := 37) dX7_take_33 (k := ?_)
        refine g_istore_2 (M := mX7_take) (pc := 37) dX7_take_37 (k := ?_)
        refine g_iload_n (M := mX7_take) (pc := 38) dX7_take_38 rfl (k := ?_)
        refine g_if_eq (M := mX7_take) (pc := 39) (tgt := 52) (by omega) dX7_take_39 (k1 := fun h39 => ?_) (k2 := fun h39 => ?_)
        · omega
        · skip
          refine g_aload_n (M := mX7_take) (pc := 42) dX7_take_42 rfl (k := ?_)
          refine g_dupR (M := mX7_take) (pc := 43) dX7_take_43 (k := ?_)
          refine g_get (M := mX7_take) (pc := 44) (ji := 2) (by rfl) fX7_2 kX7_22 dX7_take_44 (kk := fun hr44 => ?_)
          refine g_iconst (M := mX7_take) (pc := 47) dX7_take_47 (k := ?_)
          refine g_iadd (M := mX7_take) (pc := 48) dX7_take_48 (k := ?_)
          refine g_put (M := mX7_take) (pc := 49) (ji := 2) (by rfl) fX7_2 kX7_22 dX7_take_49 (by omega) (kk := ?_)
          refine g_iload_n (M := mX7_take) (pc := 52) dX7_take_52 rfl (k := ?_)
          refine g_zret (M := mX7_take) (pc := 53) (by first | omega | (unfold b2; split <;> omega)) rfl dX7_take_53 rfl ⟨_, _, rfl, rfl, ?_⟩
          refine ⟨?_, ?_, ?_⟩
          · omega
          · refine ivu19_2 ?_ (by omega) (by omega); exact hI
          · refine Fr.up ?_ (by first | rfl | (unfold scP; simp; try omega)); exact (Fr.rf)
set_option maxHeartbeats 4000000 in
set_option maxRecDepth 20000 in
theorem c_X7_word (Γ : KT) (t : Nat) (σ : Nat → Int → Int) (i : Nat) (hi : i < 8)  (hI : InvX σ) : Ct Γ mX7_word 7 (0, 0) [vR Γ 19, .ref (adK Γ i)] (113, ρT t, σ) (pV 113 (ρT t) (fun σ' => (InvX σ') ∧ (Fr scP σ σ'))) := by
  refine Ct.of rfl (Nat.le_of_ble_eq_true rfl) ?_
  show G Γ mX7_word 7 (0, 0) _ (0, 0) 0 [some (vR Γ 19), some (.ref (adK Γ i)), none] [] (113, ρT t, σ)
  have hL := lenJ (i := i)
  refine g_iconst (M := mX7_word) (pc := 0) dX7_word_0 (k := ?_)
  refine g_istore_2 (M := mX7_word) (pc := 1) dX7_word_1 (k := ?_)
  have loop2 : ∀ (N : Nat) (τ2 : Nat → Int → Int) (q : Int), ((11 - q).toNat) < N → ((InvX τ2) ∧ (Fr scP σ τ2) ∧ (0 ≤ q ∧ q ≤ 10)) → G Γ mX7_word 7 (0, 0) (pV 113 (ρT t) (fun σ' => (InvX σ') ∧ (Fr scP σ σ'))) (0, 0) 2 [some (vR Γ 19), some (.ref (adK Γ i)), some (vI q)] [] (113, ρT t, τ2) := by
    intro N
    induction N with
    | zero => intro τ2 q hmu2 hinv2; exact absurd hmu2 (Nat.not_lt_zero _)
    | succ N ih2 =>
      intro τ2 q hmu2 hinv2
      obtain ⟨hI2, hF2, hb2_q⟩ := hinv2
      refine g_iload_n (M := mX7_word) (pc := 2) dX7_word_2 rfl (k := ?_)
      refine g_aload_n (M := mX7_word) (pc := 3) dX7_word_3 rfl (k := ?_)
      refine g_cK0I (M := mX7_word) (pc := 4) (c_J0_length_8abf5 Γ t _ _ (by first | exact hi | decide)) qJ0_length_8abf5 vJ0_length_8abf5 sJ0_length_8abf5 kX7_83 dX7_word_4 hi (kk := ?_)
      rintro _ _ ⟨e1, e⟩; rw [e1, e]; clear e1 e
      refine g_icmp_ge (M := mX7_word) (pc := 7) (tgt := 44) (by omega) (by omega) dX7_word_7 (k1 := fun h7 => ?_) (k2 := fun h7 => ?_)
      · skip
        refine g_vret (M := mX7_word) (pc := 44) rfl dX7_word_44 rfl ⟨_, rfl, rfl, ?_⟩
        refine ⟨?_, ?_⟩
        · exact hI2
        · exact hF2
      · skip
        refine g_aload_n (M := mX7_word) (pc := 10) dX7_word_10 rfl (k := ?_)
        refine g_aload_n (M := mX7_word) (pc := 11) dX7_word_11 rfl (k := ?_)
        refine g_iload_n (M := mX7_word) (pc := 12) dX7_word_12 rfl (k := ?_)
        refine g_cK1I (M := mX7_word) (pc := 13) (c_J0_charAt_5068e Γ t _ _ (by first | exact hi | decide) _ (by omega)) qJ0_charAt_5068e vJ0_charAt_5068e sJ0_charAt_5068e kX7_87 dX7_word_13 hi (kk := ?_)
        rintro r13 _ ⟨hf13, e⟩; rw [e]; clear e
        refine g_cV1I (M := mX7_word) (pc := 16) (c_X7_take Γ t _ _ hI2 (by obtain ⟨_, rfl⟩ := hf13; exact zi2cR _)) qX7_take vX7_take sX7_take kX7_38 dX7_word_16 (kk := ?_)
        rintro r16 τ16 ⟨hi16, hI16, hG16⟩
        have hF16 : Fr scP σ τ16 := by refine Fr.tr ?_ hG16; exact hF2
        refine g_if_ne (M := mX7_word) (pc := 19) (tgt := 38) (by omega) dX7_word_19 (k1 := fun h19 => ?_) (k2 := fun h19 => ?_)
        · skip
          refine g_iinc_2 (M := mX7_word) (pc := 38) dX7_word_38 (k := ?_)
          refine g_goto (M := mX7_word) (pc := 41) (tgt := 2) dX7_word_41 (k := ?_)
          refine ih2 _ _ ?_ ?_
          · omega
          · skip
            refine ⟨?_, ?_, ?_⟩
            · exact hI16
            · exact hF16
            · omega
        · skip
          refine g_aload_n (M := mX7_word) (pc := 22) dX7_word_22 rfl (k := ?_)
          refine g_get (M := mX7_word) (pc := 23) (ji := 3) (by rfl) fX7_3 kX7_15 dX7_word_23 (kk := fun hr23 => ?_)
          refine g_iconst (M := mX7_word) (pc := 26) dX7_word_26 (k := ?_)
          refine g_icmp_ne (M := mX7_word) (pc := 27) (tgt := 38) (by omega) (by omega) dX7_word_27 (k1 := fun h27 => ?_) (k2 := fun h27 => ?_)
          · skip
            refine g_iinc_2 (M := mX7_word) (pc := 38) dX7_word_38 (k := ?_)
            refine g_goto (M := mX7_word) (pc := 41) (tgt := 2) dX7_word_41 (k := ?_)
            refine ih2 _ _ ?_ ?_
            · omega
            · skip
              refine ⟨?_, ?_, ?_⟩
              · exact hI16
              · exact hF16
              · omega
          · skip
            refine g_aload_n (M := mX7_word) (pc := 30) dX7_word_30 rfl (k := ?_)
            refine g_aload_n (M := mX7_word) (pc := 31) dX7_word_31 rfl (k := ?_)
            refine g_get (M := mX7_word) (pc := 32) (ji := 2) (by rfl) fX7_2 kX7_22 dX7_word_32 (kk := fun hr32 => ?_)
            have hb32 := iv19_2 hI16 2 (by omega) (by omega)
            refine g_put (M := mX7_word) (pc := 35) (ji := 3) (by rfl) fX7_3 kX7_15 dX7_word_35 (by omega) (kk := ?_)
            refine g_iinc_2 (M := mX7_word) (pc := 38) dX7_word_38 (k := ?_)
            refine g_goto (M := mX7_word) (pc := 41) (tgt := 2) dX7_word_41 (k := ?_)
            refine ih2 _ _ ?_ ?_
            · omega
            · skip
              refine ⟨?_, ?_, ?_⟩
              · refine iv_free ?_ (by rfl); exact hI16
              · refine Fr.up ?_ (by first | rfl | (unfold scP; simp; try omega)); exact hF16
              · omega
  refine loop2 _ _ _ (Nat.lt_succ_self _) ?_
  refine ⟨?_, ?_, ?_⟩
  · exact hI
  · exact (Fr.rf)
  · omega
set_option maxHeartbeats 4000000 in
set_option maxRecDepth 20000 in
theorem c_X7_choice (Γ : KT) (t : Nat) (σ : Nat → Int → Int) (i : Nat) (hi : i < 8)  (hI : InvX σ) : Ct Γ mX7_choice 7 (0, 0) [vR Γ 19, .ref (adK Γ i)] (113, ρT t, σ) (pI 113 (ρT t) (fun r σ' => (0 ≤ r ∧ r ≤ 10) ∧ (InvX σ') ∧ (Fr scP σ σ'))) := by
  refine Ct.of rfl (Nat.le_of_ble_eq_true rfl) ?_
  show G Γ mX7_choice 7 (0, 0) _ (0, 0) 0 [some (vR Γ 19), some (.ref (adK Γ i)), none] [] (113, ρT t, σ)
  refine g_aload_n (M := mX7_choice) (pc := 0) dX7_choice_0 rfl (k := ?_)
  refine g_get (M := mX7_choice) (pc := 1) (ji := 3) (by rfl) fX7_3 kX7_15 dX7_choice_1 (kk := fun hr1 => ?_)
  refine g_iconst (M := mX7_choice) (pc := 4) dX7_choice_4 (k := ?_)
  refine g_icmp_ne (M := mX7_choice) (pc := 5) (tgt := 36) (by omega) (by omega) dX7_choice_5 (k1 := fun h5 => ?_) (k2 := fun h5 => ?_)
  · skip
    refine g_iconst (M := mX7_choice) (pc := 36) dX7_choice_36 (k := ?_)
    refine g_istore_2 (M := mX7_choice) (pc := 37) dX7_choice_37 (k := ?_)
    refine g_iload_n (M := mX7_choice) (pc := 38) dX7_choice_38 rfl (k := ?_)
    refine g_if_lt (M := mX7_choice) (pc := 39) (tgt := 54) (by omega) dX7_choice_39 (k1 := fun h39 => ?_) (k2 := fun h39 => ?_)
    · skip
      refine g_aload_n (M := mX7_choice) (pc := 54) dX7_choice_54 rfl (k := ?_)
      refine g_aload_n (M := mX7_choice) (pc := 55) dX7_choice_55 rfl (k := ?_)
      refine g_get (M := mX7_choice) (pc := 56) (ji := 3) (by rfl) fX7_3 kX7_15 dX7_choice_56 (kk := fun hr56 => ?_)
      refine g_iconst (M := mX7_choice) (pc := 59) dX7_choice_59 (k := ?_)
      refine g_icmp_ne (M := mX7_choice) (pc := 60) (tgt := 70) (by omega) (by omega) dX7_choice_60 (k1 := fun h60 => ?_) (k2 := fun h60 => ?_)
      · skip
        refine g_aload_n (M := mX7_choice) (pc := 70) dX7_choice_70 rfl (k := ?_)
        refine g_get (M := mX7_choice) (pc := 71) (ji := 3) (by rfl) fX7_3 kX7_15 dX7_choice_71 (kk := fun hr71 => ?_)
        refine g_put (M := mX7_choice) (pc := 74) (ji := 3) (by rfl) fX7_3 kX7_15 dX7_choice_74 (by omega) (kk := ?_)
        refine g_iconst (M := mX7_choice) (pc := 77) dX7_choice_77 (k := ?_)
        refine g_iret (M := mX7_choice) (pc := 78) rfl dX7_choice_78 rfl ⟨_, _, rfl, rfl, ?_⟩
        refine ⟨?_, ?_, ?_⟩
        · omega
        · refine iv_free ?_ (by rfl); exact hI
        · refine Fr.up ?_ (by first | rfl | (unfold scP; simp; try omega)); exact (Fr.rf)
      · skip
        refine g_aload_n (M := mX7_choice) (pc := 63) dX7_choice_63 rfl (k := ?_)
        refine g_get (M := mX7_choice) (pc := 64) (ji := 2) (by rfl) fX7_2 kX7_22 dX7_choice_64 (kk := fun hr64 => ?_)
        have hb64 := iv19_2 hI 2 (by omega) (by omega)
        refine g_goto (M := mX7_choice) (pc := 67) (tgt := 74) dX7_choice_67 (k := ?_)
        refine g_put (M := mX7_choice) (pc := 74) (ji := 3) (by rfl) fX7_3 kX7_15 dX7_choice_74 (by omega) (kk := ?_)
        refine g_iconst (M := mX7_choice) (pc := 77) dX7_choice_77 (k := ?_)
        refine g_iret (M := mX7_choice) (pc := 78) rfl dX7_choice_78 rfl ⟨_, _, rfl, rfl, ?_⟩
        refine ⟨?_, ?_, ?_⟩
        · omega
        · refine iv_free ?_ (by rfl); exact hI
        · refine Fr.up ?_ (by first | rfl | (unfold scP; simp; try omega)); exact (Fr.rf)
    · omega
  · skip
    refine g_aload_n (M := mX7_choice) (pc := 8) dX7_choice_8 rfl (k := ?_)
    refine g_get (M := mX7_choice) (pc := 9) (ji := 2) (by rfl) fX7_2 kX7_22 dX7_choice_9 (kk := fun hr9 => ?_)
    have hb9 := iv19_2 hI 2 (by omega) (by omega)
    refine g_aload_n (M := mX7_choice) (pc := 12) dX7_choice_12 rfl (k := ?_)
    refine g_get (M := mX7_choice) (pc := 13) (ji := 1) (by rfl) fX7_1 kX7_19 dX7_choice_13 (kk := fun hr13 => ?_)
    have hb13 := iv19_1 hI 1 (by omega) (by omega)
    refine g_icmp_ge (M := mX7_choice) (pc := 16) (tgt := 36) (by omega) (by omega) dX7_choice_16 (k1 := fun h16 => ?_) (k2 := fun h16 => ?_)
    · skip
      refine g_iconst (M := mX7_choice) (pc := 36) dX7_choice_36 (k := ?_)
      refine g_istore_2 (M := mX7_choice) (pc := 37) dX7_choice_37 (k := ?_)
      refine g_iload_n (M := mX7_choice) (pc := 38) dX7_choice_38 rfl (k := ?_)
      refine g_if_lt (M := mX7_choice) (pc := 39) (tgt := 54) (by omega) dX7_choice_39 (k1 := fun h39 => ?_) (k2 := fun h39 => ?_)
      · skip
        refine g_aload_n (M := mX7_choice) (pc := 54) dX7_choice_54 rfl (k := ?_)
        refine g_aload_n (M := mX7_choice) (pc := 55) dX7_choice_55 rfl (k := ?_)
        refine g_get (M := mX7_choice) (pc := 56) (ji := 3) (by rfl) fX7_3 kX7_15 dX7_choice_56 (kk := fun hr56 => ?_)
        refine g_iconst (M := mX7_choice) (pc := 59) dX7_choice_59 (k := ?_)
        refine g_icmp_ne (M := mX7_choice) (pc := 60) (tgt := 70) (by omega) (by omega) dX7_choice_60 (k1 := fun h60 => ?_) (k2 := fun h60 => ?_)
        · skip
          refine g_aload_n (M := mX7_choice) (pc := 70) dX7_choice_70 rfl (k := ?_)
          refine g_get (M := mX7_choice) (pc := 71) (ji := 3) (by rfl) fX7_3 kX7_15 dX7_choice_71 (kk := fun hr71 => ?_)
          refine g_put (M := mX7_choice) (pc := 74) (ji := 3) (by rfl) fX7_3 kX7_15 dX7_choice_74 (by omega) (kk := ?_)
          refine g_iconst (M := mX7_choice) (pc := 77) dX7_choice_77 (k := ?_)
          refine g_iret (M := mX7_choice) (pc := 78) rfl dX7_choice_78 rfl ⟨_, _, rfl, rfl, ?_⟩
          refine ⟨?_, ?_, ?_⟩
          · omega
          · refine iv_free ?_ (by rfl); exact hI
          · refine Fr.up ?_ (by first | rfl | (unfold scP; simp; try omega)); exact (Fr.rf)
        · skip
          refine g_aload_n (M := mX7_choice) (pc := 63) dX7_choice_63 rfl (k := ?_)
          refine g_get (M := mX7_choice) (pc := 64) (ji := 2) (by rfl) fX7_2 kX7_22 dX7_choice_64 (kk := fun hr64 => ?_)
          refine g_goto (M := mX7_choice) (pc := 67) (tgt := 74) dX7_choice_67 (k := ?_)
          refine g_put (M := mX7_choice) (pc := 74) (ji := 3) (by rfl) fX7_3 kX7_15 dX7_choice_74 (by omega) (kk := ?_)
          refine g_iconst (M := mX7_choice) (pc := 77) dX7_choice_77 (k := ?_)
          refine g_iret (M := mX7_choice) (pc := 78) rfl dX7_choice_78 rfl ⟨_, _, rfl, rfl, ?_⟩
          refine ⟨?_, ?_, ?_⟩
          · omega
          · refine iv_free ?_ (by rfl); exact hI
          · refine Fr.up ?_ (by first | rfl | (unfold scP; simp; try omega)); exact (Fr.rf)
      · omega
    · skip
      refine g_aload_n (M := mX7_choice) (pc := 19) dX7_choice_19 rfl (k := ?_)
      refine g_aload_n (M := mX7_choice) (pc := 20) dX7_choice_20 rfl (k := ?_)
      refine g_getr (M := mX7_choice) (pc := 21) (by rfl) fX7_0 kX7_9 dX7_choice_21 (by rfl) (kk := ?_)
      refine g_aload_n (M := mX7_choice) (pc := 24) dX7_choice_24 rfl (k := ?_)
      refine g_get (M := mX7_choice) (pc := 25) (ji := 2) (by rfl) fX7_2 kX7_22 dX7_choice_25 (kk := fun hr25 => ?_)
      refine g_bald (M := mX7_choice) (pc := 28) (by rfl) (by omega) (by omega) dX7_choice_28 (kk := fun hr28 => ?_)
      refine g_i2c (M := mX7_choice) (pc := 29) dX7_choice_29 (k := ?_)
      have hz29 := zi2cR (σ 20 (σ 19 2))
      refine g_cK1I (M := mX7_choice) (pc := 30) (c_J0_indexOf_0f7a4 Γ t _ _ (by first | exact hi | decide) _ (by omega)) qJ0_indexOf_0f7a4 vJ0_indexOf_0f7a4 sJ0_indexOf_0f7a4 kX7_91 dX7_choice_30 hi (kk := ?_)
      rintro r30 _ ⟨hf30, e⟩; rw [e]; clear e
      refine g_goto (M := mX7_choice) (pc := 33) (tgt := 37) dX7_choice_33 (k := ?_)
      refine g_istore_2 (M := mX7_choice) (pc := 37) dX7_choice_37 (k := ?_)
      refine g_iload_n (M := mX7_choice) (pc := 38) dX7_choice_38 rfl (k := ?_)
      refine g_if_lt (M := mX7_choice) (pc := 39) (tgt := 54) (by omega) dX7_choice_39 (k1 := fun h39 => ?_) (k2 := fun h39 => ?_)
      · skip
        refine g_aload_n (M := mX7_choice) (pc := 54) dX7_choice_54 rfl (k := ?_)
        refine g_aload_n (M := mX7_choice) (pc := 55) dX7_choice_55 rfl (k := ?_)
        refine g_get (M := mX7_choice) (pc := 56) (ji := 3) (by rfl) fX7_3 kX7_15 dX7_choice_56 (kk := fun hr56 => ?_)
        refine g_iconst (M := mX7_choice) (pc := 59) dX7_choice_59 (k := ?_)
        refine g_icmp_ne (M := mX7_choice) (pc := 60) (tgt := 70) (by omega) (by omega) dX7_choice_60 (k1 := fun h60 => ?_) (k2 := fun h60 => ?_)
        · skip
          refine g_aload_n (M := mX7_choice) (pc := 70) dX7_choice_70 rfl (k := ?_)
          refine g_get (M := mX7_choice) (pc := 71) (ji := 3) (by rfl) fX7_3 kX7_15 dX7_choice_71 (kk := fun hr71 => ?_)
          refine g_put (M := mX7_choice) (pc := 74) (ji := 3) (by rfl) fX7_3 kX7_15 dX7_choice_74 (by omega) (kk := ?_)
          refine g_iconst (M := mX7_choice) (pc := 77) dX7_choice_77 (k := ?_)
          refine g_iret (M := mX7_choice) (pc := 78) rfl dX7_choice_78 rfl ⟨_, _, rfl, rfl, ?_⟩
          refine ⟨?_, ?_, ?_⟩
          · omega
          · refine iv_free ?_ (by rfl); exact hI
          · refine Fr.up ?_ (by first | rfl | (unfold scP; simp; try omega)); exact (Fr.rf)
        · skip
          refine g_aload_n (M := mX7_choice) (pc := 63) dX7_choice_63 rfl (k := ?_)
          refine g_get (M := mX7_choice) (pc := 64) (ji := 2) (by rfl) fX7_2 kX7_22 dX7_choice_64 (kk := fun hr64 => ?_)
          refine g_goto (M := mX7_choice) (pc := 67) (tgt := 74) dX7_choice_67 (k := ?_)
          refine g_put (M := mX7_choice) (pc := 74) (ji := 3) (by rfl) fX7_3 kX7_15 dX7_choice_74 (by omega) (kk := ?_)
          refine g_iconst (M := mX7_choice) (pc := 77) dX7_choice_77 (k := ?_)
          refine g_iret (M := mX7_choice) (pc := 78) rfl dX7_choice_78 rfl ⟨_, _, rfl, rfl, ?_⟩
          refine ⟨?_, ?_, ?_⟩
          · omega
          · refine iv_free ?_ (by rfl); exact hI
          · refine Fr.up ?_ (by first | rfl | (unfold scP; simp; try omega)); exact (Fr.rf)
      · skip
        refine g_aload_n (M := mX7_choice) (pc := 42) dX7_choice_42 rfl (k := ?_)
        refine g_dupR (M := mX7_choice) (pc := 43) dX7_choice_43 (k := ?_)
        refine g_get (M := mX7_choice) (pc := 44) (ji := 2) (by rfl) fX7_2 kX7_22 dX7_choice_44 (kk := fun hr44 => ?_)
        refine g_iconst (M := mX7_choice) (pc := 47) dX7_choice_47 (k := ?_)
        refine g_iadd (M := mX7_choice) (pc := 48) dX7_choice_48 (k := ?_)
        refine g_put (M := mX7_choice) (pc := 49) (ji := 2) (by rfl) fX7_2 kX7_22 dX7_choice_49 (by omega) (kk := ?_)
        refine g_iload_n (M := mX7_choice) (pc := 52) dX7_choice_52 rfl (k := ?_)
        refine g_iret (M := mX7_choice) (pc := 53) rfl dX7_choice_53 rfl ⟨_, _, rfl, rfl, ?_⟩
        refine ⟨?_, ?_, ?_⟩
        · omega
        · refine ivu19_2 ?_ (by omega) (by omega); exact hI
        · refine Fr.up ?_ (by first | rfl | (unfold scP; simp; try omega)); exact (Fr.rf)
set_option maxHeartbeats 4000000 in
set_option maxRecDepth 20000 in
theorem c_X7_number (Γ : KT) (t : Nat) (σ : Nat → Int → Int)  (hI : InvX σ) : Ct Γ mX7_number 8 (0, 0) [vR Γ 19] (113, ρT t, σ) (pI 113 (ρT t) (fun r σ' => (0 ≤ r ∧ r ≤ 110) ∧ (InvX σ') ∧ (Fr scP σ σ'))) := by
  refine Ct.of rfl (Nat.le_of_ble_eq_true rfl) ?_
  show G Γ mX7_number 8 (0, 0) _ (0, 0) 0 [some (vR Γ 19), none] [] (113, ρT t, σ)
  refine g_aload_n (M := mX7_number) (pc := 0) dX7_number_0 rfl (k := ?_)
  refine g_ldcS (M := mX7_number) (pc := 1) (i := 3) rfl rfl dX7_number_1 (k := ?_)
  refine g_cV1I (M := mX7_number) (pc := 3) (c_X7_choice Γ t _ _ (by decide) hI) qX7_choice vX7_choice sX7_choice kX7_75 dX7_number_3 (kk := ?_)
  rintro r3 τ3 ⟨hi3, hI3, hG3⟩
  have hF3 : Fr scP σ τ3 := by refine Fr.tr ?_ hG3; exact (Fr.rf)
  refine g_istore_1 (M := mX7_number) (pc := 6) dX7_number_6 (k := ?_)
  refine g_aload_n (M := mX7_number) (pc := 7) dX7_number_7 rfl (k := ?_)
  refine g_get (M := mX7_number) (pc := 8) (ji := 2) (by rfl) fX7_2 kX7_22 dX7_number_8 (kk := fun hr8 => ?_)
  have hb8 := iv19_2 hI3 2 (by omega) (by omega)
  refine g_aload_n (M := mX7_number) (pc := 11) dX7_number_11 rfl (k := ?_)
  refine g_get (M := mX7_number) (pc := 12) (ji := 1) (by rfl) fX7_1 kX7_19 dX7_number_12 (kk := fun hr12 => ?_)
  have hb12 := iv19_1 hI3 1 (by omega) (by omega)
  refine g_icmp_ge (M := mX7_number) (pc := 15) (tgt := 58) (by omega) (by omega) dX7_number_15 (k1 := fun h15 => ?_) (k2 := fun h15 => ?_)
  · skip
    refine g_iload_n (M := mX7_number) (pc := 58) dX7_number_58 rfl (k := ?_)
    refine g_iret (M := mX7_number) (pc := 59) rfl dX7_number_59 rfl ⟨_, _, rfl, rfl, ?_⟩
    refine ⟨?_, ?_, ?_⟩
    · omega
    · exact hI3
    · exact hF3
  · skip
    refine g_aload_n (M := mX7_number) (pc := 18) dX7_number_18 rfl (k := ?_)
    refine g_getr (M := mX7_number) (pc := 19) (by rfl) fX7_0 kX7_9 dX7_number_19 (by rfl) (kk := ?_)
    refine g_aload_n (M := mX7_number) (pc := 22) dX7_number_22 rfl (k := ?_)
    refine g_get (M := mX7_number) (pc := 23) (ji := 2) (by rfl) fX7_2 kX7_22 dX7_number_23 (kk := fun hr23 => ?_)
    refine g_bald (M := mX7_number) (pc := 26) (by rfl) (by omega) (by omega) dX7_number_26 (kk := fun hr26 => ?_)
    refine g_bipush (M := mX7_number) (pc := 27) dX7_number_27 (k := ?_)
    refine g_icmp_lt (M := mX7_number) (pc := 29) (tgt := 58) (by omega) (by omega) dX7_number_29 (k1 := fun h29 => ?_) (k2 := fun h29 => ?_)
    · skip
      refine g_iload_n (M := mX7_number) (pc := 58) dX7_number_58 rfl (k := ?_)
      refine g_iret (M := mX7_number) (pc := 59) rfl dX7_number_59 rfl ⟨_, _, rfl, rfl, ?_⟩
      refine ⟨?_, ?_, ?_⟩
      · omega
      · exact hI3
      · exact hF3
    · skip
      refine g_aload_n (M := mX7_number) (pc := 32) dX7_number_32 rfl (k := ?_)
      refine g_getr (M := mX7_number) (pc := 33) (by rfl) fX7_0 kX7_9 dX7_number_33 (by rfl) (kk := ?_)
      refine g_aload_n (M := mX7_number) (pc := 36) dX7_number_36 rfl (k := ?_)
      refine g_get (M := mX7_number) (pc := 37) (ji := 2) (by rfl) fX7_2 kX7_22 dX7_number_37 (kk := fun hr37 => ?_)
      refine g_bald (M := mX7_number) (pc := 40) (by rfl) (by omega) (by omega) dX7_number_40 (kk := fun hr40 => ?_)
      refine g_bipush (M := mX7_number) (pc := 41) dX7_number_41 (k := ?_)
      refine g_icmp_gt (M := mX7_number) (pc := 43) (tgt := 58) (by omega) (by omega) dX7_number_43 (k1 := fun h43 => ?_) (k2 := fun h43 => ?_)
      · skip
        refine g_iload_n (M := mX7_number) (pc := 58) dX7_number_58 rfl (k := ?_)
        refine g_iret (M := mX7_number) (pc := 59) rfl dX7_number_59 rfl ⟨_, _, rfl, rfl, ?_⟩
        refine ⟨?_, ?_, ?_⟩
        · omega
        · exact hI3
        · exact hF3
      · skip
        refine g_iload_n (M := mX7_number) (pc := 46) dX7_number_46 rfl (k := ?_)
        refine g_bipush (M := mX7_number) (pc := 47) dX7_number_47 (k := ?_)
        refine g_imul (M := mX7_number) (pc := 49) dX7_number_49 (k := ?_)
        refine g_aload_n (M := mX7_number) (pc := 50) dX7_number_50 rfl (k := ?_)
        refine g_ldcS (M := mX7_number) (pc := 51) (i := 3) rfl rfl dX7_number_51 (k := ?_)
        refine g_cV1I (M := mX7_number) (pc := 53) (c_X7_choice Γ t _ _ (by decide) hI3) qX7_choice vX7_choice sX7_choice kX7_75 dX7_number_53 (kk := ?_)
        rintro r53 τ53 ⟨hi53, hI53, hG53⟩
        have hF53 : Fr scP σ τ53 := by refine Fr.tr ?_ hG53; exact hF3
        refine g_iadd (M := mX7_number) (pc := 56) dX7_number_56 (k := ?_)
        refine g_istore_1 (M := mX7_number) (pc := 57) dX7_number_57 (k := ?_)
        refine g_iload_n (M := mX7_number) (pc := 58) dX7_number_58 rfl (k := ?_)
        refine g_iret (M := mX7_number) (pc := 59) rfl dX7_number_59 rfl ⟨_, _, rfl, rfl, ?_⟩
        refine ⟨?_, ?_, ?_⟩
        · omega
        · exact hI53
        · exact hF53
set_option maxHeartbeats 4000000 in
set_option maxRecDepth 20000 in
theorem c_X7_note (Γ : KT) (t : Nat) (σ : Nat → Int → Int) (m : Int) (w : Int) (n : Int) (hI : InvX σ) (hm : 0 ≤ m ∧ m < 6) (ht : t = 54 + Int.toNat m) (hw : 0 ≤ w ∧ w ≤ 40) (hn : 0 ≤ n ∧ n ≤ 110) : Ct Γ mX7_note 1 (0, 0) [vR Γ 19, vI w, vI n] (113, ρT t, σ) (pV 113 (ρT t) (fun σ' => (InvX σ') ∧ (Fr scP σ σ'))) := by
  refine Ct.of rfl (Nat.le_of_ble_eq_true rfl) ?_
  show G Γ mX7_note 1 (0, 0) _ (0, 0) 0 [some (vR Γ 19), some (vI w), some (vI n)] [] (113, ρT t, σ)
  refine g_aload_n (M := mX7_note) (pc := 0) dX7_note_0 rfl (k := ?_)
  refine g_get (M := mX7_note) (pc := 1) (ji := 3) (by rfl) fX7_3 kX7_15 dX7_note_1 (kk := fun hr1 => ?_)
  refine g_iconst (M := mX7_note) (pc := 4) dX7_note_4 (k := ?_)
  refine g_icmp_ne (M := mX7_note) (pc := 5) (tgt := 52) (by omega) (by omega) dX7_note_5 (k1 := fun h5 => ?_) (k2 := fun h5 => ?_)
  · skip
    refine g_vret (M := mX7_note) (pc := 52) rfl dX7_note_52 rfl ⟨_, rfl, rfl, ?_⟩
    refine ⟨?_, ?_⟩
    · exact hI
    · exact (Fr.rf)
  · skip
    refine g_aload_n (M := mX7_note) (pc := 8) dX7_note_8 rfl (k := ?_)
    refine g_getr (M := mX7_note) (pc := 9) (by rfl) fX7_4 kX7_25 dX7_note_9 (by exact tok_own hm.1 hm.2 ht) (kk := ?_)
    refine g_ifnull (M := mX7_note) (pc := 12) dX7_note_12 (k := ?_)
    refine g_aload_n (M := mX7_note) (pc := 15) dX7_note_15 rfl (k := ?_)
    refine g_get (M := mX7_note) (pc := 16) (ji := 5) (by rfl) fX7_5 kX7_29 dX7_note_16 (kk := fun hr16 => ?_)
    have hb16 := iv19_5 hI 5 (by omega) (by omega)
    refine g_aload_n (M := mX7_note) (pc := 19) dX7_note_19 rfl (k := ?_)
    refine g_getr (M := mX7_note) (pc := 20) (by rfl) fX7_4 kX7_25 dX7_note_20 (by exact tok_own hm.1 hm.2 ht) (kk := ?_)
    refine g_alen (M := mX7_note) (pc := 23) (shp_tok hm.1 hm.2) (by decide) dX7_note_23 (hk := by omega) (kk := ?_)
    refine g_icmp_ge (M := mX7_note) (pc := 24) (tgt := 52) (by omega) (by omega) dX7_note_24 (k1 := fun h24 => ?_) (k2 := fun h24 => ?_)
    · skip
      refine g_vret (M := mX7_note) (pc := 52) rfl dX7_note_52 rfl ⟨_, rfl, rfl, ?_⟩
      refine ⟨?_, ?_⟩
      · exact hI
      · exact (Fr.rf)
    · skip
      refine g_aload_n (M := mX7_note) (pc := 27) dX7_note_27 rfl (k := ?_)
      refine g_getr (M := mX7_note) (pc := 28) (by rfl) fX7_4 kX7_25 dX7_note_28 (by exact tok_own hm.1 hm.2 ht) (kk := ?_)
      refine g_aload_n (M := mX7_note) (pc := 31) dX7_note_31 rfl (k := ?_)
      refine g_get (M := mX7_note) (pc := 32) (ji := 5) (by rfl) fX7_5 kX7_29 dX7_note_32 (kk := fun hr32 => ?_)
      refine g_iload_n (M := mX7_note) (pc := 35) dX7_note_35 rfl (k := ?_)
      refine g_bipush (M := mX7_note) (pc := 36) dX7_note_36 (k := ?_)
      refine g_imul (M := mX7_note) (pc := 38) dX7_note_38 (k := ?_)
      refine g_iload_n (M := mX7_note) (pc := 39) dX7_note_39 rfl (k := ?_)
      refine g_iadd (M := mX7_note) (pc := 40) dX7_note_40 (k := ?_)
      refine g_iast (M := mX7_note) (pc := 41) (shp_tok hm.1 hm.2) (by omega) (by omega) (by omega) dX7_note_41 (hk := by omega) (kk := ?_)
      refine g_aload_n (M := mX7_note) (pc := 42) dX7_note_42 rfl (k := ?_)
      refine g_dupR (M := mX7_note) (pc := 43) dX7_note_43 (k := ?_)
      refine g_get (M := mX7_note) (pc := 44) (ji := 5) (by rfl) fX7_5 kX7_29 dX7_note_44 (kk := fun hr44 => ?_)
      rw [up_cell (by omega)] at hr44 ⊢
      refine g_iconst (M := mX7_note) (pc := 47) dX7_note_47 (k := ?_)
      refine g_iadd (M := mX7_note) (pc := 48) dX7_note_48 (k := ?_)
      refine g_put (M := mX7_note) (pc := 49) (ji := 5) (by rfl) fX7_5 kX7_29 dX7_note_49 (by omega) (kk := ?_)
      refine g_vret (M := mX7_note) (pc := 52) rfl dX7_note_52 rfl ⟨_, rfl, rfl, ?_⟩
      refine ⟨?_, ?_⟩
      · refine ivu19_5 ?_ (by omega) (by omega); refine iv_cellV ?_ (by first | omega | decide); exact hI
      · refine Fr.up ?_ (by first | rfl | (unfold scP; simp; try omega)); refine Fr.up ?_ (by first | rfl | (unfold scP; simp; try omega)); exact (Fr.rf)
set_option maxHeartbeats 4000000 in
set_option maxRecDepth 20000 in
theorem c_X7_part_4 (Γ : KT) (t : Nat) (σ : Nat → Int → Int) (m : Int)  (hI : InvX σ) (hm : 0 ≤ m ∧ m < 6) (ht : t = 54 + Int.toNat m) : Ct Γ mX7_part 9 (0, 0) [vR Γ 19, vI 4] (113, ρT t, σ) (pV 113 (ρT t) (fun σ' => (InvX σ') ∧ (Fr scP σ σ'))) := by
  refine Ct.of rfl (Nat.le_of_ble_eq_true rfl) ?_
  show G Γ mX7_part 9 (0, 0) _ (0, 0) 0 [some (vR Γ 19), some (vI 4), none, none, none] [] (113, ρT t, σ)
  refine g_iload_n (M := mX7_part) (pc := 0) dX7_part_0 rfl (k := ?_)
  refine g_iconst (M := mX7_part) (pc := 1) dX7_part_1 (k := ?_)
  refine g_icmp_ge (M := mX7_part) (pc := 2) (tgt := 9) (by omega) (by omega) dX7_part_2 (k1 := fun h2 => ?_) (k2 := fun h2 => ?_)
  · skip
    refine g_iconst (M := mX7_part) (pc := 9) dX7_part_9 (k := ?_)
    refine g_istore_2 (M := mX7_part) (pc := 10) dX7_part_10 (k := ?_)
    refine g_iload_n (M := mX7_part) (pc := 11) dX7_part_11 rfl (k := ?_)
    refine g_if_eq (M := mX7_part) (pc := 12) (tgt := 41) (by omega) dX7_part_12 (k1 := fun h12 => ?_) (k2 := fun h12 => ?_)
    · skip
      refine g_iload_n (M := mX7_part) (pc := 41) dX7_part_41 rfl (k := ?_)
      refine g_if_eq (M := mX7_part) (pc := 42) (tgt := 70) (by omega) dX7_part_42 (k1 := fun h42 => ?_) (k2 := fun h42 => ?_)
      · skip
        refine g_aload_n (M := mX7_part) (pc := 70) dX7_part_70 rfl (k := ?_)
        refine g_ldcS (M := mX7_part) (pc := 71) (i := 6) rfl rfl dX7_part_71 (k := ?_)
        refine g_cV1I (M := mX7_part) (pc := 73) (c_X7_choice Γ t _ _ (by decide) hI) qX7_choice vX7_choice sX7_choice kX7_75 dX7_part_73 (kk := ?_)
        rintro r73 τ73 ⟨hi73, hI73, hG73⟩
        have hF73 : Fr scP σ τ73 := by refine Fr.tr ?_ hG73; exact (Fr.rf)
        refine g_istore_3 (M := mX7_part) (pc := 76) dX7_part_76 (k := ?_)
        refine g_aload_n (M := mX7_part) (pc := 77) dX7_part_77 rfl (k := ?_)
        refine g_ldcS (M := mX7_part) (pc := 78) (i := 7) rfl rfl dX7_part_78 (k := ?_)
        refine g_cV1I (M := mX7_part) (pc := 80) (c_X7_choice Γ t _ _ (by decide) hI73) qX7_choice vX7_choice sX7_choice kX7_75 dX7_part_80 (kk := ?_)
        rintro r80 τ80 ⟨hi80, hI80, hG80⟩
        have hF80 : Fr scP σ τ80 := by refine Fr.tr ?_ hG80; exact hF73
        refine g_istore_4 (M := mX7_part) (pc := 83) dX7_part_83 (k := ?_)
        refine g_aload_n (M := mX7_part) (pc := 85) dX7_part_85 rfl (k := ?_)
        refine g_iload_n (M := mX7_part) (pc := 86) dX7_part_86 rfl (k := ?_)
        refine g_iconst (M := mX7_part) (pc := 87) dX7_part_87 (k := ?_)
        refine g_imul (M := mX7_part) (pc := 88) dX7_part_88 (k := ?_)
        refine g_iload (M := mX7_part) (pc := 89) dX7_part_89 rfl (k := ?_)
        refine g_iadd (M := mX7_part) (pc := 91) dX7_part_91 (k := ?_)
        refine g_aload_n (M := mX7_part) (pc := 92) dX7_part_92 rfl (k := ?_)
        refine g_cV0I (M := mX7_part) (pc := 93) (c_X7_number Γ t _ hI80) qX7_number vX7_number sX7_number kX7_54 dX7_part_93 (kk := ?_)
        rintro r93 τ93 ⟨hi93, hI93, hG93⟩
        have hF93 : Fr scP σ τ93 := by refine Fr.tr ?_ hG93; exact hF80
        refine g_cV2V (M := mX7_part) (pc := 96) (c_X7_note Γ t _ m _ _ hI93 (by omega) (by omega) (by omega) (by omega)) qX7_note vX7_note sX7_note kX7_64 dX7_part_96 (kk := ?_)
        rintro τ96 ⟨hI96, hG96⟩
        have hF96 : Fr scP σ τ96 := by refine Fr.tr ?_ hG96; exact hF93
        refine g_vret (M := mX7_part) (pc := 99) rfl dX7_part_99 rfl ⟨_, rfl, rfl, ?_⟩
        refine ⟨?_, ?_⟩
        · exact hI96
        · exact hF96
      · omega
    · omega
  · omega
set_option maxHeartbeats 4000000 in
set_option maxRecDepth 20000 in
theorem c_X7_either_4 (Γ : KT) (t : Nat) (σ : Nat → Int → Int) (m : Int)  (hI : InvX σ) (hm : 0 ≤ m ∧ m < 6) (ht : t = 54 + Int.toNat m) : Ct Γ mX7_either 10 (0, 0) [vR Γ 19, vI 4] (113, ρT t, σ) (pV 113 (ρT t) (fun σ' => (InvX σ') ∧ (Fr scP σ σ'))) := by
  refine Ct.of rfl (Nat.le_of_ble_eq_true rfl) ?_
  show G Γ mX7_either 10 (0, 0) _ (0, 0) 0 [some (vR Γ 19), some (vI 4), none, none, none] [] (113, ρT t, σ)
  refine g_iconst (M := mX7_either) (pc := 0) dX7_either_0 (k := ?_)
  refine g_istore_2 (M := mX7_either) (pc := 1) dX7_either_1 (k := ?_)
  refine g_iconst (M := mX7_either) (pc := 2) dX7_either_2 (k := ?_)
  refine g_istore_3 (M := mX7_either) (pc := 3) dX7_either_3 (k := ?_)
  refine g_iconst (M := mX7_either) (pc := 4) dX7_either_4 (k := ?_)
  refine g_istore_4 (M := mX7_either) (pc := 5) dX7_either_5 (k := ?_)
  have loop7 : ∀ (N : Nat) (τ7 : Nat → Int → Int) (an : Int) (orr : Int) (q : Int), ((101 - q).toNat) < N → ((InvX τ7) ∧ (Fr scP σ τ7) ∧ (0 ≤ an ∧ an ≤ 1) ∧ (0 ≤ orr ∧ orr ≤ 1) ∧ (0 ≤ q ∧ q ≤ 100)) → G Γ mX7_either 10 (0, 0) (pV 113 (ρT t) (fun σ' => (InvX σ') ∧ (Fr scP σ σ'))) (0, 0) 7 [some (vR Γ 19), some (vI 4), some (vI an), some (vI orr), some (vI q)] [] (113, ρT t, τ7) := by
    intro N
    induction N with
    | zero => intro τ7 an orr q hmu7 hinv7; exact absurd hmu7 (Nat.not_lt_zero _)
    | succ N ih7 =>
      intro τ7 an orr q hmu7 hinv7
      obtain ⟨hI7, hF7, hb7_an, hb7_orr, hb7_q⟩ := hinv7
      refine g_iload (M := mX7_either) (pc := 7) dX7_either_7 rfl (k := ?_)
      refine g_bipush (M := mX7_either) (pc := 9) dX7_either_9 (k := ?_)
      refine g_icmp_ge (M := mX7_either) (pc := 11) (tgt := 73) (by omega) (by omega) dX7_either_11 (k1 := fun h11 => ?_) (k2 := fun h11 => ?_)
      · skip
        refine g_vret (M := mX7_either) (pc := 73) rfl dX7_either_73 rfl ⟨_, rfl, rfl, ?_⟩
        refine ⟨?_, ?_⟩
        · exact hI7
        · exact hF7
      · skip
        refine g_aload_n (M := mX7_either) (pc := 14) dX7_either_14 rfl (k := ?_)
        refine g_iload_n (M := mX7_either) (pc := 15) dX7_either_15 rfl (k := ?_)
        refine g_cV1V (M := mX7_either) (pc := 16) (c_X7_part_4 Γ t _ m hI7 (by omega) (by omega)) qX7_part vX7_part sX7_part kX7_68 dX7_either_16 (kk := ?_)
        rintro τ16 ⟨hI16, hG16⟩
        have hF16 : Fr scP σ τ16 := by refine Fr.tr ?_ hG16; exact hF7
        refine g_iload_n (M := mX7_either) (pc := 19) dX7_either_19 rfl (k := ?_)
        refine g_if_eq (M := mX7_either) (pc := 20) (tgt := 30) (by omega) dX7_either_20 (k1 := fun h20 => ?_) (k2 := fun h20 => ?_)
        · skip
          refine g_aload_n (M := mX7_either) (pc := 30) dX7_either_30 rfl (k := ?_)
          refine g_bipush (M := mX7_either) (pc := 31) dX7_either_31 (k := ?_)
          refine g_cV1I (M := mX7_either) (pc := 33) (c_X7_take Γ t _ _ hI16 (by omega)) qX7_take vX7_take sX7_take kX7_38 dX7_either_33 (kk := ?_)
          rintro r33 τ33 ⟨hi33, hI33, hG33⟩
          have hF33 : Fr scP σ τ33 := by refine Fr.tr ?_ hG33; exact hF16
          refine g_istore_2 (M := mX7_either) (pc := 36) dX7_either_36 (k := ?_)
          refine g_iload_n (M := mX7_either) (pc := 37) dX7_either_37 rfl (k := ?_)
          refine g_if_eq (M := mX7_either) (pc := 38) (tgt := 44) (by omega) dX7_either_38 (k1 := fun h38 => ?_) (k2 := fun h38 => ?_)
          · skip
            refine g_iload_n (M := mX7_either) (pc := 44) dX7_either_44 rfl (k := ?_)
            refine g_if_eq (M := mX7_either) (pc := 45) (tgt := 55) (by omega) dX7_either_45 (k1 := fun h45 => ?_) (k2 := fun h45 => ?_)
            · skip
              refine g_aload_n (M := mX7_either) (pc := 55) dX7_either_55 rfl (k := ?_)
              refine g_bipush (M := mX7_either) (pc := 56) dX7_either_56 (k := ?_)
              refine g_cV1I (M := mX7_either) (pc := 58) (c_X7_take Γ t _ _ hI33 (by omega)) qX7_take vX7_take sX7_take kX7_38 dX7_either_58 (kk := ?_)
              rintro r58 τ58 ⟨hi58, hI58, hG58⟩
              have hF58 : Fr scP σ τ58 := by refine Fr.tr ?_ hG58; exact hF33
              refine g_istore_3 (M := mX7_either) (pc := 61) dX7_either_61 (k := ?_)
              refine g_iload_n (M := mX7_either) (pc := 62) dX7_either_62 rfl (k := ?_)
              refine g_if_ne (M := mX7_either) (pc := 63) (tgt := 67) (by omega) dX7_either_63 (k1 := fun h63 => ?_) (k2 := fun h63 => ?_)
              · skip
                refine g_iinc_4 (M := mX7_either) (pc := 67) dX7_either_67 (k := ?_)
                refine g_goto (M := mX7_either) (pc := 70) (tgt := 7) dX7_either_70 (k := ?_)
                refine ih7 _ _ _ _ ?_ ?_
                · omega
                · skip
                  refine ⟨?_, ?_, ?_, ?_, ?_⟩
                  · exact hI58
                  · exact hF58
                  · omega
                  · omega
                  · omega
              · skip
                refine g_vret (M := mX7_either) (pc := 66) rfl dX7_either_66 rfl ⟨_, rfl, rfl, ?_⟩
                refine ⟨?_, ?_⟩
                · exact hI58
                · exact hF58
            · skip
              refine g_aload_n (M := mX7_either) (pc := 48) dX7_either_48 rfl (k := ?_)
              refine g_bipush (M := mX7_either) (pc := 49) dX7_either_49 (k := ?_)
              refine g_iconst (M := mX7_either) (pc := 51) dX7_either_51 (k := ?_)
              refine g_cV2V (M := mX7_either) (pc := 52) (c_X7_note Γ t _ m _ _ hI33 (by omega) (by omega) (by omega) (by omega)) qX7_note vX7_note sX7_note kX7_64 dX7_either_52 (kk := ?_)
              rintro τ52 ⟨hI52, hG52⟩
              have hF52 : Fr scP σ τ52 := by refine Fr.tr ?_ hG52; exact hF33
              refine g_aload_n (M := mX7_either) (pc := 55) dX7_either_55 rfl (k := ?_)
              refine g_bipush (M := mX7_either) (pc := 56) dX7_either_56 (k := ?_)
              refine g_cV1I (M := mX7_either) (pc := 58) (c_X7_take Γ t _ _ hI52 (by omega)) qX7_take vX7_take sX7_take kX7_38 dX7_either_58 (kk := ?_)
              rintro r58 τ58 ⟨hi58, hI58, hG58⟩
              have hF58 : Fr scP σ τ58 := by refine Fr.tr ?_ hG58; exact hF52
              refine g_istore_3 (M := mX7_either) (pc := 61) dX7_either_61 (k := ?_)
              refine g_iload_n (M := mX7_either) (pc := 62) dX7_either_62 rfl (k := ?_)
              refine g_if_ne (M := mX7_either) (pc := 63) (tgt := 67) (by omega) dX7_either_63 (k1 := fun h63 => ?_) (k2 := fun h63 => ?_)
              · skip
                refine g_iinc_4 (M := mX7_either) (pc := 67) dX7_either_67 (k := ?_)
                refine g_goto (M := mX7_either) (pc := 70) (tgt := 7) dX7_either_70 (k := ?_)
                refine ih7 _ _ _ _ ?_ ?_
                · omega
                · skip
                  refine ⟨?_, ?_, ?_, ?_, ?_⟩
                  · exact hI58
                  · exact hF58
                  · omega
                  · omega
                  · omega
              · skip
                refine g_vret (M := mX7_either) (pc := 66) rfl dX7_either_66 rfl ⟨_, rfl, rfl, ?_⟩
                refine ⟨?_, ?_⟩
                · exact hI58
                · exact hF58
          · skip
            refine g_goto (M := mX7_either) (pc := 41) (tgt := 67) dX7_either_41 (k := ?_)
            refine g_iinc_4 (M := mX7_either) (pc := 67) dX7_either_67 (k := ?_)
            refine g_goto (M := mX7_either) (pc := 70) (tgt := 7) dX7_either_70 (k := ?_)
            refine ih7 _ _ _ _ ?_ ?_
            · omega
            · skip
              refine ⟨?_, ?_, ?_, ?_, ?_⟩
              · exact hI33
              · exact hF33
              · omega
              · omega
              · omega
        · skip
          refine g_aload_n (M := mX7_either) (pc := 23) dX7_either_23 rfl (k := ?_)
          refine g_bipush (M := mX7_either) (pc := 24) dX7_either_24 (k := ?_)
          refine g_iconst (M := mX7_either) (pc := 26) dX7_either_26 (k := ?_)
          refine g_cV2V (M := mX7_either) (pc := 27) (c_X7_note Γ t _ m _ _ hI16 (by omega) (by omega) (by omega) (by omega)) qX7_note vX7_note sX7_note kX7_64 dX7_either_27 (kk := ?_)
          rintro τ27 ⟨hI27, hG27⟩
          have hF27 : Fr scP σ τ27 := by refine Fr.tr ?_ hG27; exact hF16
          refine g_aload_n (M := mX7_either) (pc := 30) dX7_either_30 rfl (k := ?_)
          refine g_bipush (M := mX7_either) (pc := 31) dX7_either_31 (k := ?_)
          refine g_cV1I (M := mX7_either) (pc := 33) (c_X7_take Γ t _ _ hI27 (by omega)) qX7_take vX7_take sX7_take kX7_38 dX7_either_33 (kk := ?_)
          rintro r33 τ33 ⟨hi33, hI33, hG33⟩
          have hF33 : Fr scP σ τ33 := by refine Fr.tr ?_ hG33; exact hF27
          refine g_istore_2 (M := mX7_either) (pc := 36) dX7_either_36 (k := ?_)
          refine g_iload_n (M := mX7_either) (pc := 37) dX7_either_37 rfl (k := ?_)
          refine g_if_eq (M := mX7_either) (pc := 38) (tgt := 44) (by omega) dX7_either_38 (k1 := fun h38 => ?_) (k2 := fun h38 => ?_)
          · skip
            refine g_iload_n (M := mX7_either) (pc := 44) dX7_either_44 rfl (k := ?_)
            refine g_if_eq (M := mX7_either) (pc := 45) (tgt := 55) (by omega) dX7_either_45 (k1 := fun h45 => ?_) (k2 := fun h45 => ?_)
            · skip
              refine g_aload_n (M := mX7_either) (pc := 55) dX7_either_55 rfl (k := ?_)
              refine g_bipush (M := mX7_either) (pc := 56) dX7_either_56 (k := ?_)
              refine g_cV1I (M := mX7_either) (pc := 58) (c_X7_take Γ t _ _ hI33 (by omega)) qX7_take vX7_take sX7_take kX7_38 dX7_either_58 (kk := ?_)
              rintro r58 τ58 ⟨hi58, hI58, hG58⟩
              have hF58 : Fr scP σ τ58 := by refine Fr.tr ?_ hG58; exact hF33
              refine g_istore_3 (M := mX7_either) (pc := 61) dX7_either_61 (k := ?_)
              refine g_iload_n (M := mX7_either) (pc := 62) dX7_either_62 rfl (k := ?_)
              refine g_if_ne (M := mX7_either) (pc := 63) (tgt := 67) (by omega) dX7_either_63 (k1 := fun h63 => ?_) (k2 := fun h63 => ?_)
              · skip
                refine g_iinc_4 (M := mX7_either) (pc := 67) dX7_either_67 (k := ?_)
                refine g_goto (M := mX7_either) (pc := 70) (tgt := 7) dX7_either_70 (k := ?_)
                refine ih7 _ _ _ _ ?_ ?_
                · omega
                · skip
                  refine ⟨?_, ?_, ?_, ?_, ?_⟩
                  · exact hI58
                  · exact hF58
                  · omega
                  · omega
                  · omega
              · skip
                refine g_vret (M := mX7_either) (pc := 66) rfl dX7_either_66 rfl ⟨_, rfl, rfl, ?_⟩
                refine ⟨?_, ?_⟩
                · exact hI58
                · exact hF58
            · skip
              refine g_aload_n (M := mX7_either) (pc := 48) dX7_either_48 rfl (k := ?_)
              refine g_bipush (M := mX7_either) (pc := 49) dX7_either_49 (k := ?_)
              refine g_iconst (M := mX7_either) (pc := 51) dX7_either_51 (k := ?_)
              refine g_cV2V (M := mX7_either) (pc := 52) (c_X7_note Γ t _ m _ _ hI33 (by omega) (by omega) (by omega) (by omega)) qX7_note vX7_note sX7_note kX7_64 dX7_either_52 (kk := ?_)
              rintro τ52 ⟨hI52, hG52⟩
              have hF52 : Fr scP σ τ52 := by refine Fr.tr ?_ hG52; exact hF33
              refine g_aload_n (M := mX7_either) (pc := 55) dX7_either_55 rfl (k := ?_)
              refine g_bipush (M := mX7_either) (pc := 56) dX7_either_56 (k := ?_)
              refine g_cV1I (M := mX7_either) (pc := 58) (c_X7_take Γ t _ _ hI52 (by omega)) qX7_take vX7_take sX7_take kX7_38 dX7_either_58 (kk := ?_)
              rintro r58 τ58 ⟨hi58, hI58, hG58⟩
              have hF58 : Fr scP σ τ58 := by refine Fr.tr ?_ hG58; exact hF52
              refine g_istore_3 (M := mX7_either) (pc := 61) dX7_either_61 (k := ?_)
              refine g_iload_n (M := mX7_either) (pc := 62) dX7_either_62 rfl (k := ?_)
              refine g_if_ne (M := mX7_either) (pc := 63) (tgt := 67) (by omega) dX7_either_63 (k1 := fun h63 => ?_) (k2 := fun h63 => ?_)
              · skip
                refine g_iinc_4 (M := mX7_either) (pc := 67) dX7_either_67 (k := ?_)
                refine g_goto (M := mX7_either) (pc := 70) (tgt := 7) dX7_either_70 (k := ?_)
                refine ih7 _ _ _ _ ?_ ?_
                · omega
                · skip
                  refine ⟨?_, ?_, ?_, ?_, ?_⟩
                  · exact hI58
                  · exact hF58
                  · omega
                  · omega
                  · omega
              · skip
                refine g_vret (M := mX7_either) (pc := 66) rfl dX7_either_66 rfl ⟨_, rfl, rfl, ?_⟩
                refine ⟨?_, ?_⟩
                · exact hI58
                · exact hF58
          · skip
            refine g_goto (M := mX7_either) (pc := 41) (tgt := 67) dX7_either_41 (k := ?_)
            refine g_iinc_4 (M := mX7_either) (pc := 67) dX7_either_67 (k := ?_)
            refine g_goto (M := mX7_either) (pc := 70) (tgt := 7) dX7_either_70 (k := ?_)
            refine ih7 _ _ _ _ ?_ ?_
            · omega
            · skip
              refine ⟨?_, ?_, ?_, ?_, ?_⟩
              · exact hI33
              · exact hF33
              · omega
              · omega
              · omega
  refine loop7 _ _ _ _ _ (Nat.lt_succ_self _) ?_
  refine ⟨?_, ?_, ?_, ?_, ?_⟩
  · exact hI
  · exact (Fr.rf)
  · omega
  · omega
  · omega
set_option maxHeartbeats 4000000 in
set_option maxRecDepth 20000 in
theorem c_X7_part_3 (Γ : KT) (t : Nat) (σ : Nat → Int → Int) (m : Int)  (hI : InvX σ) (hm : 0 ≤ m ∧ m < 6) (ht : t = 54 + Int.toNat m) : Ct Γ mX7_part 11 (0, 0) [vR Γ 19, vI 3] (113, ρT t, σ) (pV 113 (ρT t) (fun σ' => (InvX σ') ∧ (Fr scP σ σ'))) := by
  refine Ct.of rfl (Nat.le_of_ble_eq_true rfl) ?_
  show G Γ mX7_part 11 (0, 0) _ (0, 0) 0 [some (vR Γ 19), some (vI 3), none, none, none] [] (113, ρT t, σ)
  refine g_iload_n (M := mX7_part) (pc := 0) dX7_part_0 rfl (k := ?_)
  refine g_iconst (M := mX7_part) (pc := 1) dX7_part_1 (k := ?_)
  refine g_icmp_ge (M := mX7_part) (pc := 2) (tgt := 9) (by omega) (by omega) dX7_part_2 (k1 := fun h2 => ?_) (k2 := fun h2 => ?_)
  · omega
  · skip
    refine g_iconst (M := mX7_part) (pc := 5) dX7_part_5 (k := ?_)
    refine g_goto (M := mX7_part) (pc := 6) (tgt := 10) dX7_part_6 (k := ?_)
    refine g_istore_2 (M := mX7_part) (pc := 10) dX7_part_10 (k := ?_)
    refine g_iload_n (M := mX7_part) (pc := 11) dX7_part_11 rfl (k := ?_)
    refine g_if_eq (M := mX7_part) (pc := 12) (tgt := 41) (by omega) dX7_part_12 (k1 := fun h12 => ?_) (k2 := fun h12 => ?_)
    · omega
    · skip
      refine g_aload_n (M := mX7_part) (pc := 15) dX7_part_15 rfl (k := ?_)
      refine g_bipush (M := mX7_part) (pc := 16) dX7_part_16 (k := ?_)
      refine g_cV1I (M := mX7_part) (pc := 18) (c_X7_take Γ t _ _ hI (by omega)) qX7_take vX7_take sX7_take kX7_38 dX7_part_18 (kk := ?_)
      rintro r18 τ18 ⟨hi18, hI18, hG18⟩
      have hF18 : Fr scP σ τ18 := by refine Fr.tr ?_ hG18; exact (Fr.rf)
      refine g_if_eq (M := mX7_part) (pc := 21) (tgt := 41) (by omega) dX7_part_21 (k1 := fun h21 => ?_) (k2 := fun h21 => ?_)
      · skip
        refine g_iload_n (M := mX7_part) (pc := 41) dX7_part_41 rfl (k := ?_)
        refine g_if_eq (M := mX7_part) (pc := 42) (tgt := 70) (by omega) dX7_part_42 (k1 := fun h42 => ?_) (k2 := fun h42 => ?_)
        · omega
        · skip
          refine g_aload_n (M := mX7_part) (pc := 45) dX7_part_45 rfl (k := ?_)
          refine g_bipush (M := mX7_part) (pc := 46) dX7_part_46 (k := ?_)
          refine g_cV1I (M := mX7_part) (pc := 48) (c_X7_take Γ t _ _ hI18 (by omega)) qX7_take vX7_take sX7_take kX7_38 dX7_part_48 (kk := ?_)
          rintro r48 τ48 ⟨hi48, hI48, hG48⟩
          have hF48 : Fr scP σ τ48 := by refine Fr.tr ?_ hG48; exact hF18
          refine g_if_eq (M := mX7_part) (pc := 51) (tgt := 70) (by omega) dX7_part_51 (k1 := fun h51 => ?_) (k2 := fun h51 => ?_)
          · skip
            refine g_aload_n (M := mX7_part) (pc := 70) dX7_part_70 rfl (k := ?_)
            refine g_ldcS (M := mX7_part) (pc := 71) (i := 6) rfl rfl dX7_part_71 (k := ?_)
            refine g_cV1I (M := mX7_part) (pc := 73) (c_X7_choice Γ t _ _ (by decide) hI48) qX7_choice vX7_choice sX7_choice kX7_75 dX7_part_73 (kk := ?_)
            rintro r73 τ73 ⟨hi73, hI73, hG73⟩
            have hF73 : Fr scP σ τ73 := by refine Fr.tr ?_ hG73; exact hF48
            refine g_istore_3 (M := mX7_part) (pc := 76) dX7_part_76 (k := ?_)
            refine g_aload_n (M := mX7_part) (pc := 77) dX7_part_77 rfl (k := ?_)
            refine g_ldcS (M := mX7_part) (pc := 78) (i := 7) rfl rfl dX7_part_78 (k := ?_)
            refine g_cV1I (M := mX7_part) (pc := 80) (c_X7_choice Γ t _ _ (by decide) hI73) qX7_choice vX7_choice sX7_choice kX7_75 dX7_part_80 (kk := ?_)
            rintro r80 τ80 ⟨hi80, hI80, hG80⟩
            have hF80 : Fr scP σ τ80 := by refine Fr.tr ?_ hG80; exact hF73
            refine g_istore_4 (M := mX7_part) (pc := 83) dX7_part_83 (k := ?_)
            refine g_aload_n (M := mX7_part) (pc := 85) dX7_part_85 rfl (k := ?_)
            refine g_iload_n (M := mX7_part) (pc := 86) dX7_part_86 rfl (k := ?_)
            refine g_iconst (M := mX7_part) (pc := 87) dX7_part_87 (k := ?_)
            refine g_imul (M := mX7_part) (pc := 88) dX7_part_88 (k := ?_)
            refine g_iload (M := mX7_part) (pc := 89) dX7_part_89 rfl (k := ?_)
            refine g_iadd (M := mX7_part) (pc := 91) dX7_part_91 (k := ?_)
            refine g_aload_n (M := mX7_part) (pc := 92) dX7_part_92 rfl (k := ?_)
            refine g_cV0I (M := mX7_part) (pc := 93) (c_X7_number Γ t _ hI80) qX7_number vX7_number sX7_number kX7_54 dX7_part_93 (kk := ?_)
            rintro r93 τ93 ⟨hi93, hI93, hG93⟩
            have hF93 : Fr scP σ τ93 := by refine Fr.tr ?_ hG93; exact hF80
            refine g_cV2V (M := mX7_part) (pc := 96) (c_X7_note Γ t _ m _ _ hI93 (by omega) (by omega) (by omega) (by omega)) qX7_note vX7_note sX7_note kX7_64 dX7_part_96 (kk := ?_)
            rintro τ96 ⟨hI96, hG96⟩
            have hF96 : Fr scP σ τ96 := by refine Fr.tr ?_ hG96; exact hF93
            refine g_vret (M := mX7_part) (pc := 99) rfl dX7_part_99 rfl ⟨_, rfl, rfl, ?_⟩
            refine ⟨?_, ?_⟩
            · exact hI96
            · exact hF96
          · skip
            refine g_aload_n (M := mX7_part) (pc := 54) dX7_part_54 rfl (k := ?_)
            refine g_iload_n (M := mX7_part) (pc := 55) dX7_part_55 rfl (k := ?_)
            refine g_iconst (M := mX7_part) (pc := 56) dX7_part_56 (k := ?_)
            refine g_iadd (M := mX7_part) (pc := 57) dX7_part_57 (k := ?_)
            refine g_cV1V (M := mX7_part) (pc := 58) (c_X7_either_4 Γ t _ m hI48 (by omega) (by omega)) qX7_either vX7_either sX7_either kX7_60 dX7_part_58 (kk := ?_)
            rintro τ58 ⟨hI58, hG58⟩
            have hF58 : Fr scP σ τ58 := by refine Fr.tr ?_ hG58; exact hF48
            refine g_aload_n (M := mX7_part) (pc := 61) dX7_part_61 rfl (k := ?_)
            refine g_ldcS (M := mX7_part) (pc := 62) (i := 5) rfl rfl dX7_part_62 (k := ?_)
            refine g_cV1V (M := mX7_part) (pc := 64) (c_X7_word Γ t _ _ (by decide) hI58) qX7_word vX7_word sX7_word kX7_50 dX7_part_64 (kk := ?_)
            rintro τ64 ⟨hI64, hG64⟩
            have hF64 : Fr scP σ τ64 := by refine Fr.tr ?_ hG64; exact hF58
            refine g_goto (M := mX7_part) (pc := 67) (tgt := 99) dX7_part_67 (k := ?_)
            refine g_vret (M := mX7_part) (pc := 99) rfl dX7_part_99 rfl ⟨_, rfl, rfl, ?_⟩
            refine ⟨?_, ?_⟩
            · exact hI64
            · exact hF64
      · skip
        refine g_aload_n (M := mX7_part) (pc := 24) dX7_part_24 rfl (k := ?_)
        refine g_iload_n (M := mX7_part) (pc := 25) dX7_part_25 rfl (k := ?_)
        refine g_iconst (M := mX7_part) (pc := 26) dX7_part_26 (k := ?_)
        refine g_iadd (M := mX7_part) (pc := 27) dX7_part_27 (k := ?_)
        refine g_cV1V (M := mX7_part) (pc := 28) (c_X7_part_4 Γ t _ m hI18 (by omega) (by omega)) qX7_part vX7_part sX7_part kX7_68 dX7_part_28 (kk := ?_)
        rintro τ28 ⟨hI28, hG28⟩
        have hF28 : Fr scP σ τ28 := by refine Fr.tr ?_ hG28; exact hF18
        refine g_aload_n (M := mX7_part) (pc := 31) dX7_part_31 rfl (k := ?_)
        refine g_bipush (M := mX7_part) (pc := 32) dX7_part_32 (k := ?_)
        refine g_iconst (M := mX7_part) (pc := 34) dX7_part_34 (k := ?_)
        refine g_cV2V (M := mX7_part) (pc := 35) (c_X7_note Γ t _ m _ _ hI28 (by omega) (by omega) (by omega) (by omega)) qX7_note vX7_note sX7_note kX7_64 dX7_part_35 (kk := ?_)
        rintro τ35 ⟨hI35, hG35⟩
        have hF35 : Fr scP σ τ35 := by refine Fr.tr ?_ hG35; exact hF28
        refine g_goto (M := mX7_part) (pc := 38) (tgt := 99) dX7_part_38 (k := ?_)
        refine g_vret (M := mX7_part) (pc := 99) rfl dX7_part_99 rfl ⟨_, rfl, rfl, ?_⟩
        refine ⟨?_, ?_⟩
        · exact hI35
        · exact hF35
set_option maxHeartbeats 4000000 in
set_option maxRecDepth 20000 in
theorem c_X7_either_3 (Γ : KT) (t : Nat) (σ : Nat → Int → Int) (m : Int)  (hI : InvX σ) (hm : 0 ≤ m ∧ m < 6) (ht : t = 54 + Int.toNat m) : Ct Γ mX7_either 12 (0, 0) [vR Γ 19, vI 3] (113, ρT t, σ) (pV 113 (ρT t) (fun σ' => (InvX σ') ∧ (Fr scP σ σ'))) := by
  refine Ct.of rfl (Nat.le_of_ble_eq_true rfl) ?_
  show G Γ mX7_either 12 (0, 0) _ (0, 0) 0 [some (vR Γ 19), some (vI 3), none, none, none] [] (113, ρT t, σ)
  refine g_iconst (M := mX7_either) (pc := 0) dX7_either_0 (k := ?_)
  refine g_istore_2 (M := mX7_either) (pc := 1) dX7_either_1 (k := ?_)
  refine g_iconst (M := mX7_either) (pc := 2) dX7_either_2 (k := ?_)
  refine g_istore_3 (M := mX7_either) (pc := 3) dX7_either_3 (k := ?_)
  refine g_iconst (M := mX7_either) (pc := 4) dX7_either_4 (k := ?_)
  refine g_istore_4 (M := mX7_either) (pc := 5) dX7_either_5 (k := ?_)
  have loop7 : ∀ (N : Nat) (τ7 : Nat → Int → Int) (an : Int) (orr : Int) (q : Int), ((101 - q).toNat) < N → ((InvX τ7) ∧ (Fr scP σ τ7) ∧ (0 ≤ an ∧ an ≤ 1) ∧ (0 ≤ orr ∧ orr ≤ 1) ∧ (0 ≤ q ∧ q ≤ 100)) → G Γ mX7_either 12 (0, 0) (pV 113 (ρT t) (fun σ' => (InvX σ') ∧ (Fr scP σ σ'))) (0, 0) 7 [some (vR Γ 19), some (vI 3), some (vI an), some (vI orr), some (vI q)] [] (113, ρT t, τ7) := by
    intro N
    induction N with
    | zero => intro τ7 an orr q hmu7 hinv7; exact absurd hmu7 (Nat.not_lt_zero _)
    | succ N ih7 =>
      intro τ7 an orr q hmu7 hinv7
      obtain ⟨hI7, hF7, hb7_an, hb7_orr, hb7_q⟩ := hinv7
      refine g_iload (M := mX7_either) (pc := 7) dX7_either_7 rfl (k := ?_)
      refine g_bipush (M := mX7_either) (pc := 9) dX7_either_9 (k := ?_)
      refine g_icmp_ge (M := mX7_either) (pc := 11) (tgt := 73) (by omega) (by omega) dX7_either_11 (k1 := fun h11 => ?_) (k2 := fun h11 => ?_)
      · skip
        refine g_vret (M := mX7_either) (pc := 73) rfl dX7_either_73 rfl ⟨_, rfl, rfl, ?_⟩
        refine ⟨?_, ?_⟩
        · exact hI7
        · exact hF7
      · skip
        refine g_aload_n (M := mX7_either) (pc := 14) dX7_either_14 rfl (k := ?_)
        refine g_iload_n (M := mX7_either) (pc := 15) dX7_either_15 rfl (k := ?_)
        refine g_cV1V (M := mX7_either) (pc := 16) (c_X7_part_3 Γ t _ m hI7 (by omega) (by omega)) qX7_part vX7_part sX7_part kX7_68 dX7_either_16 (kk := ?_)
        rintro τ16 ⟨hI16, hG16⟩
        have hF16 : Fr scP σ τ16 := by refine Fr.tr ?_ hG16; exact hF7
        refine g_iload_n (M := mX7_either) (pc := 19) dX7_either_19 rfl (k := ?_)
        refine g_if_eq (M := mX7_either) (pc := 20) (tgt := 30) (by omega) dX7_either_20 (k1 := fun h20 => ?_) (k2 := fun h20 => ?_)
        · skip
          refine g_aload_n (M := mX7_either) (pc := 30) dX7_either_30 rfl (k := ?_)
          refine g_bipush (M := mX7_either) (pc := 31) dX7_either_31 (k := ?_)
          refine g_cV1I (M := mX7_either) (pc := 33) (c_X7_take Γ t _ _ hI16 (by omega)) qX7_take vX7_take sX7_take kX7_38 dX7_either_33 (kk := ?_)
          rintro r33 τ33 ⟨hi33, hI33, hG33⟩
          have hF33 : Fr scP σ τ33 := by refine Fr.tr ?_ hG33; exact hF16
          refine g_istore_2 (M := mX7_either) (pc := 36) dX7_either_36 (k := ?_)
          refine g_iload_n (M := mX7_either) (pc := 37) dX7_either_37 rfl (k := ?_)
          refine g_if_eq (M := mX7_either) (pc := 38) (tgt := 44) (by omega) dX7_either_38 (k1 := fun h38 => ?_) (k2 := fun h38 => ?_)
          · skip
            refine g_iload_n (M := mX7_either) (pc := 44) dX7_either_44 rfl (k := ?_)
            refine g_if_eq (M := mX7_either) (pc := 45) (tgt := 55) (by omega) dX7_either_45 (k1 := fun h45 => ?_) (k2 := fun h45 => ?_)
            · skip
              refine g_aload_n (M := mX7_either) (pc := 55) dX7_either_55 rfl (k := ?_)
              refine g_bipush (M := mX7_either) (pc := 56) dX7_either_56 (k := ?_)
              refine g_cV1I (M := mX7_either) (pc := 58) (c_X7_take Γ t _ _ hI33 (by omega)) qX7_take vX7_take sX7_take kX7_38 dX7_either_58 (kk := ?_)
              rintro r58 τ58 ⟨hi58, hI58, hG58⟩
              have hF58 : Fr scP σ τ58 := by refine Fr.tr ?_ hG58; exact hF33
              refine g_istore_3 (M := mX7_either) (pc := 61) dX7_either_61 (k := ?_)
              refine g_iload_n (M := mX7_either) (pc := 62) dX7_either_62 rfl (k := ?_)
              refine g_if_ne (M := mX7_either) (pc := 63) (tgt := 67) (by omega) dX7_either_63 (k1 := fun h63 => ?_) (k2 := fun h63 => ?_)
              · skip
                refine g_iinc_4 (M := mX7_either) (pc := 67) dX7_either_67 (k := ?_)
                refine g_goto (M := mX7_either) (pc := 70) (tgt := 7) dX7_either_70 (k := ?_)
                refine ih7 _ _ _ _ ?_ ?_
                · omega
                · skip
                  refine ⟨?_, ?_, ?_, ?_, ?_⟩
                  · exact hI58
                  · exact hF58
                  · omega
                  · omega
                  · omega
              · skip
                refine g_vret (M := mX7_either) (pc := 66) rfl dX7_either_66 rfl ⟨_, rfl, rfl, ?_⟩
                refine ⟨?_, ?_⟩
                · exact hI58
                · exact hF58
            · skip
              refine g_aload_n (M := mX7_either) (pc := 48) dX7_either_48 rfl (k := ?_)
              refine g_bipush (M := mX7_either) (pc := 49) dX7_either_49 (k := ?_)
              refine g_iconst (M := mX7_either) (pc := 51) dX7_either_51 (k := ?_)
              refine g_cV2V (M := mX7_either) (pc := 52) (c_X7_note Γ t _ m _ _ hI33 (by omega) (by omega) (by omega) (by omega)) qX7_note vX7_note sX7_note kX7_64 dX7_either_52 (kk := ?_)
              rintro τ52 ⟨hI52, hG52⟩
              have hF52 : Fr scP σ τ52 := by refine Fr.tr ?_ hG52; exact hF33
              refine g_aload_n (M := mX7_either) (pc := 55) dX7_either_55 rfl (k := ?_)
              refine g_bipush (M := mX7_either) (pc := 56) dX7_either_56 (k := ?_)
              refine g_cV1I (M := mX7_either) (pc := 58) (c_X7_take Γ t _ _ hI52 (by omega)) qX7_take vX7_take sX7_take kX7_38 dX7_either_58 (kk := ?_)
              rintro r58 τ58 ⟨hi58, hI58, hG58⟩
              have hF58 : Fr scP σ τ58 := by refine Fr.tr ?_ hG58; exact hF52
              refine g_istore_3 (M := mX7_either) (pc := 61) dX7_either_61 (k := ?_)
              refine g_iload_n (M := mX7_either) (pc := 62) dX7_either_62 rfl (k := ?_)
              refine g_if_ne (M := mX7_either) (pc := 63) (tgt := 67) (by omega) dX7_either_63 (k1 := fun h63 => ?_) (k2 := fun h63 => ?_)
              · skip
                refine g_iinc_4 (M := mX7_either) (pc := 67) dX7_either_67 (k := ?_)
                refine g_goto (M := mX7_either) (pc := 70) (tgt := 7) dX7_either_70 (k := ?_)
                refine ih7 _ _ _ _ ?_ ?_
                · omega
                · skip
                  refine ⟨?_, ?_, ?_, ?_, ?_⟩
                  · exact hI58
                  · exact hF58
                  · omega
                  · omega
                  · omega
              · skip
                refine g_vret (M := mX7_either) (pc := 66) rfl dX7_either_66 rfl ⟨_, rfl, rfl, ?_⟩
                refine ⟨?_, ?_⟩
                · exact hI58
                · exact hF58
          · skip
            refine g_goto (M := mX7_either) (pc := 41) (tgt := 67) dX7_either_41 (k := ?_)
            refine g_iinc_4 (M := mX7_either) (pc := 67) dX7_either_67 (k := ?_)
            refine g_goto (M := mX7_either) (pc := 70) (tgt := 7) dX7_either_70 (k := ?_)
            refine ih7 _ _ _ _ ?_ ?_
            · omega
            · skip
              refine ⟨?_, ?_, ?_, ?_, ?_⟩
              · exact hI33
              · exact hF33
              · omega
              · omega
              · omega
        · skip
          refine g_aload_n (M := mX7_either) (pc := 23) dX7_either_23 rfl (k := ?_)
          refine g_bipush (M := mX7_either) (pc := 24) dX7_either_24 (k := ?_)
          refine g_iconst (M := mX7_either) (pc := 26) dX7_either_26 (k := ?_)
          refine g_cV2V (M := mX7_either) (pc := 27) (c_X7_note Γ t _ m _ _ hI16 (by omega) (by omega) (by omega) (by omega)) qX7_note vX7_note sX7_note kX7_64 dX7_either_27 (kk := ?_)
          rintro τ27 ⟨hI27, hG27⟩
          have hF27 : Fr scP σ τ27 := by refine Fr.tr ?_ hG27; exact hF16
          refine g_aload_n (M := mX7_either) (pc := 30) dX7_either_30 rfl (k := ?_)
          refine g_bipush (M := mX7_either) (pc := 31) dX7_either_31 (k := ?_)
          refine g_cV1I (M := mX7_either) (pc := 33) (c_X7_take Γ t _ _ hI27 (by omega)) qX7_take vX7_take sX7_take kX7_38 dX7_either_33 (kk := ?_)
          rintro r33 τ33 ⟨hi33, hI33, hG33⟩
          have hF33 : Fr scP σ τ33 := by refine Fr.tr ?_ hG33; exact hF27
          refine g_istore_2 (M := mX7_either) (pc := 36) dX7_either_36 (k := ?_)
          refine g_iload_n (M := mX7_either) (pc := 37) dX7_either_37 rfl (k := ?_)
          refine g_if_eq (M := mX7_either) (pc := 38) (tgt := 44) (by omega) dX7_either_38 (k1 := fun h38 => ?_) (k2 := fun h38 => ?_)
          · skip
            refine g_iload_n (M := mX7_either) (pc := 44) dX7_either_44 rfl (k := ?_)
            refine g_if_eq (M := mX7_either) (pc := 45) (tgt := 55) (by omega) dX7_either_45 (k1 := fun h45 => ?_) (k2 := fun h45 => ?_)
            · skip
              refine g_aload_n (M := mX7_either) (pc := 55) dX7_either_55 rfl (k := ?_)
              refine g_bipush (M := mX7_either) (pc := 56) dX7_either_56 (k := ?_)
              refine g_cV1I (M := mX7_either) (pc := 58) (c_X7_take Γ t _ _ hI33 (by omega)) qX7_take vX7_take sX7_take kX7_38 dX7_either_58 (kk := ?_)
              rintro r58 τ58 ⟨hi58, hI58, hG58⟩
              have hF58 : Fr scP σ τ58 := by refine Fr.tr ?_ hG58; exact hF33
              refine g_istore_3 (M := mX7_either) (pc := 61) dX7_either_61 (k := ?_)
              refine g_iload_n (M := mX7_either) (pc := 62) dX7_either_62 rfl (k := ?_)
              refine g_if_ne (M := mX7_either) (pc := 63) (tgt := 67) (by omega) dX7_either_63 (k1 := fun h63 => ?_) (k2 := fun h63 => ?_)
              · skip
                refine g_iinc_4 (M := mX7_either) (pc := 67) dX7_either_67 (k := ?_)
                refine g_goto (M := mX7_either) (pc := 70) (tgt := 7) dX7_either_70 (k := ?_)
                refine ih7 _ _ _ _ ?_ ?_
                · omega
                · skip
                  refine ⟨?_, ?_, ?_, ?_, ?_⟩
                  · exact hI58
                  · exact hF58
                  · omega
                  · omega
                  · omega
              · skip
                refine g_vret (M := mX7_either) (pc := 66) rfl dX7_either_66 rfl ⟨_, rfl, rfl, ?_⟩
                refine ⟨?_, ?_⟩
                · exact hI58
                · exact hF58
            · skip
              refine g_aload_n (M := mX7_either) (pc := 48) dX7_either_48 rfl (k := ?_)
              refine g_bipush (M := mX7_either) (pc := 49) dX7_either_49 (k := ?_)
              refine g_iconst (M := mX7_either) (pc := 51) dX7_either_51 (k := ?_)
              refine g_cV2V (M := mX7_either) (pc := 52) (c_X7_note Γ t _ m _ _ hI33 (by omega) (by omega) (by omega) (by omega)) qX7_note vX7_note sX7_note kX7_64 dX7_either_52 (kk := ?_)
              rintro τ52 ⟨hI52, hG52⟩
              have hF52 : Fr scP σ τ52 := by refine Fr.tr ?_ hG52; exact hF33
              refine g_aload_n (M := mX7_either) (pc := 55) dX7_either_55 rfl (k := ?_)
              refine g_bipush (M := mX7_either) (pc := 56) dX7_either_56 (k := ?_)
              refine g_cV1I (M := mX7_either) (pc := 58) (c_X7_take Γ t _ _ hI52 (by omega)) qX7_take vX7_take sX7_take kX7_38 dX7_either_58 (kk := ?_)
              rintro r58 τ58 ⟨hi58, hI58, hG58⟩
              have hF58 : Fr scP σ τ58 := by refine Fr.tr ?_ hG58; exact hF52
              refine g_istore_3 (M := mX7_either) (pc := 61) dX7_either_61 (k := ?_)
              refine g_iload_n (M := mX7_either) (pc := 62) dX7_either_62 rfl (k := ?_)
              refine g_if_ne (M := mX7_either) (pc := 63) (tgt := 67) (by omega) dX7_either_63 (k1 := fun h63 => ?_) (k2 := fun h63 => ?_)
              · skip
                refine g_iinc_4 (M := mX7_either) (pc := 67) dX7_either_67 (k := ?_)
                refine g_goto (M := mX7_either) (pc := 70) (tgt := 7) dX7_either_70 (k := ?_)
                refine ih7 _ _ _ _ ?_ ?_
                · omega
                · skip
                  refine ⟨?_, ?_, ?_, ?_, ?_⟩
                  · exact hI58
                  · exact hF58
                  · omega
                  · omega
                  · omega
              · skip
                refine g_vret (M := mX7_either) (pc := 66) rfl dX7_either_66 rfl ⟨_, rfl, rfl, ?_⟩
                refine ⟨?_, ?_⟩
                · exact hI58
                · exact hF58
          · skip
            refine g_goto (M := mX7_either) (pc := 41) (tgt := 67) dX7_either_41 (k := ?_)
            refine g_iinc_4 (M := mX7_either) (pc := 67) dX7_either_67 (k := ?_)
            refine g_goto (M := mX7_either) (pc := 70) (tgt := 7) dX7_either_70 (k := ?_)
            refine ih7 _ _ _ _ ?_ ?_
            · omega
            · skip
              refine ⟨?_, ?_, ?_, ?_, ?_⟩
              · exact hI33
              · exact hF33
              · omega
              · omega
              · omega
  refine loop7 _ _ _ _ _ (Nat.lt_succ_self _) ?_
  refine ⟨?_, ?_, ?_, ?_, ?_⟩
  · exact hI
  · exact (Fr.rf)
  · omega
  · omega
  · omega
set_option maxHeartbeats 4000000 in
set_option maxRecDepth 20000 in
theorem c_X7_part_2 (Γ : KT) (t : Nat) (σ : Nat → Int → Int) (m : Int)  (hI : InvX σ) (hm : 0 ≤ m ∧ m < 6) (ht : t = 54 + Int.toNat m) : Ct Γ mX7_part 13 (0, 0) [vR Γ 19, vI 2] (113, ρT t, σ) (pV 113 (ρT t) (fun σ' => (InvX σ') ∧ (Fr scP σ σ'))) := by
  refine Ct.of rfl (Nat.le_of_ble_eq_true rfl) ?_
  show G Γ mX7_part 13 (0, 0) _ (0, 0) 0 [some (vR Γ 19), some (vI 2), none, none, none] [] (113, ρT t, σ)
  refine g_iload_n (M := mX7_part) (pc := 0) dX7_part_0 rfl (k := ?_)
  refine g_iconst (M := mX7_part) (pc := 1) dX7_part_1 (k := ?_)
  refine g_icmp_ge (M := mX7_part) (pc := 2) (tgt := 9) (by omega) (by omega) dX7_part_2 (k1 := fun h2 => ?_) (k2 := fun h2 => ?_)
  · omega
  · skip
    refine g_iconst (M := mX7_part) (pc := 5) dX7_part_5 (k := ?_)
    refine g_goto (M := mX7_part) (pc := 6) (tgt := 10) dX7_part_6 (k := ?_)
    refine g_istore_2 (M := mX7_part) (pc := 10) dX7_part_10 (k := ?_)
    refine g_iload_n (M := mX7_part) (pc := 11) dX7_part_11 rfl (k := ?_)
    refine g_if_eq (M := mX7_part) (pc := 12) (tgt := 41) (by omega) dX7_part_12 (k1 := fun h12 => ?_) (k2 := fun h12 => ?_)
    · omega
    · skip
      refine g_aload_n (M := mX7_part) (pc := 15) dX7_part_15 rfl (k := ?_)
      refine g_bipush (M := mX7_part) (pc := 16) dX7_part_16 (k := ?_)
      refine g_cV1I (M := mX7_part) (pc := 18) (c_X7_take Γ t _ _ hI (by omega)) qX7_take vX7_take sX7_take kX7_38 dX7_part_18 (kk := ?_)
      rintro r18 τ18 ⟨hi18, hI18, hG18⟩
      have hF18 : Fr scP σ τ18 := by refine Fr.tr ?_ hG18; exact (Fr.rf)
      refine g_if_eq (M := mX7_part) (pc := 21) (tgt := 41) (by omega) dX7_part_21 (k1 := fun h21 => ?_) (k2 := fun h21 => ?_)
      · skip
        refine g_iload_n (M := mX7_part) (pc := 41) dX7_part_41 rfl (k := ?_)
        refine g_if_eq (M := mX7_part) (pc := 42) (tgt := 70) (by omega) dX7_part_42 (k1 := fun h42 => ?_) (k2 := fun h42 => ?_)
        · omega
        · skip
          refine g_aload_n (M := mX7_part) (pc := 45) dX7_part_45 rfl (k := ?_)
          refine g_bipush (M := mX7_part) (pc := 46) dX7_part_46 (k := ?_)
          refine g_cV1I (M := mX7_part) (pc := 48) (c_X7_take Γ t _ _ hI18 (by omega)) qX7_take vX7_take sX7_take kX7_38 dX7_part_48 (kk := ?_)
          rintro r48 τ48 ⟨hi48, hI48, hG48⟩
          have hF48 : Fr scP σ τ48 := by refine Fr.tr ?_ hG48; exact hF18
          refine g_if_eq (M := mX7_part) (pc := 51) (tgt := 70) (by omega) dX7_part_51 (k1 := fun h51 => ?_) (k2 := fun h51 => ?_)
          · skip
            refine g_aload_n (M := mX7_part) (pc := 70) dX7_part_70 rfl (k := ?_)
            refine g_ldcS (M := mX7_part) (pc := 71) (i := 6) rfl rfl dX7_part_71 (k := ?_)
            refine g_cV1I (M := mX7_part) (pc := 73) (c_X7_choice Γ t _ _ (by decide) hI48) qX7_choice vX7_choice sX7_choice kX7_75 dX7_part_73 (kk := ?_)
            rintro r73 τ73 ⟨hi73, hI73, hG73⟩
            have hF73 : Fr scP σ τ73 := by refine Fr.tr ?_ hG73; exact hF48
            refine g_istore_3 (M := mX7_part) (pc := 76) dX7_part_76 (k := ?_)
            refine g_aload_n (M := mX7_part) (pc := 77) dX7_part_77 rfl (k := ?_)
            refine g_ldcS (M := mX7_part) (pc := 78) (i := 7) rfl rfl dX7_part_78 (k := ?_)
            refine g_cV1I (M := mX7_part) (pc := 80) (c_X7_choice Γ t _ _ (by decide) hI73) qX7_choice vX7_choice sX7_choice kX7_75 dX7_part_80 (kk := ?_)
            rintro r80 τ80 ⟨hi80, hI80, hG80⟩
            have hF80 : Fr scP σ τ80 := by refine Fr.tr ?_ hG80; exact hF73
            refine g_istore_4 (M := mX7_part) (pc := 83) dX7_part_83 (k := ?_)
            refine g_aload_n (M := mX7_part) (pc := 85) dX7_part_85 rfl (k := ?_)
            refine g_iload_n (M := mX7_part) (pc := 86) dX7_part_86 rfl (k := ?_)
            refine g_iconst (M := mX7_part) (pc := 87) dX7_part_87 (k := ?_)
            refine g_imul (M := mX7_part) (pc := 88) dX7_part_88 (k := ?_)
            refine g_iload (M := mX7_part) (pc := 89) dX7_part_89 rfl (k := ?_)
            refine g_iadd (M := mX7_part) (pc := 91) dX7_part_91 (k := ?_)
            refine g_aload_n (M := mX7_part) (pc := 92) dX7_part_92 rfl (k := ?_)
            refine g_cV0I (M := mX7_part) (pc := 93) (c_X7_number Γ t _ hI80) qX7_number vX7_number sX7_number kX7_54 dX7_part_93 (kk := ?_)
            rintro r93 τ93 ⟨hi93, hI93, hG93⟩
            have hF93 : Fr scP σ τ93 := by refine Fr.tr ?_ hG93; exact hF80
            refine g_cV2V (M := mX7_part) (pc := 96) (c_X7_note Γ t _ m _ _ hI93 (by omega) (by omega) (by omega) (by omega)) qX7_note vX7_note sX7_note kX7_64 dX7_part_96 (kk := ?_)
            rintro τ96 ⟨hI96, hG96⟩
            have hF96 : Fr scP σ τ96 := by refine Fr.tr ?_ hG96; exact hF93
            refine g_vret (M := mX7_part) (pc := 99) rfl dX7_part_99 rfl ⟨_, rfl, rfl, ?_⟩
            refine ⟨?_, ?_⟩
            · exact hI96
            · exact hF96
          · skip
            refine g_aload_n (M := mX7_part) (pc := 54) dX7_part_54 rfl (k := ?_)
            refine g_iload_n (M := mX7_part) (pc := 55) dX7_part_55 rfl (k := ?_)
            refine g_iconst (M := mX7_part) (pc := 56) dX7_part_56 (k := ?_)
            refine g_iadd (M := mX7_part) (pc := 57) dX7_part_57 (k := ?_)
            refine g_cV1V (M := mX7_part) (pc := 58) (c_X7_either_3 Γ t _ m hI48 (by omega) (by omega)) qX7_either vX7_either sX7_either kX7_60 dX7_part_58 (kk := ?_)
            rintro τ58 ⟨hI58, hG58⟩
            have hF58 : Fr scP σ τ58 := by refine Fr.tr ?_ hG58; exact hF48
            refine g_aload_n (M := mX7_part) (pc := 61) dX7_part_61 rfl (k := ?_)
            refine g_ldcS (M := mX7_part) (pc := 62) (i := 5) rfl rfl dX7_part_62 (k := ?_)
            refine g_cV1V (M := mX7_part) (pc := 64) (c_X7_word Γ t _ _ (by decide) hI58) qX7_word vX7_word sX7_word kX7_50 dX7_part_64 (kk := ?_)
            rintro τ64 ⟨hI64, hG64⟩
            have hF64 : Fr scP σ τ64 := by refine Fr.tr ?_ hG64; exact hF58
            refine g_goto (M := mX7_part) (pc := 67) (tgt := 99) dX7_part_67 (k := ?_)
            refine g_vret (M := mX7_part) (pc := 99) rfl dX7_part_99 rfl ⟨_, rfl, rfl, ?_⟩
            refine ⟨?_, ?_⟩
            · exact hI64
            · exact hF64
      · skip
        refine g_aload_n (M := mX7_part) (pc := 24) dX7_part_24 rfl (k := ?_)
        refine g_iload_n (M := mX7_part) (pc := 25) dX7_part_25 rfl (k := ?_)
        refine g_iconst (M := mX7_part) (pc := 26) dX7_part_26 (k := ?_)
        refine g_iadd (M := mX7_part) (pc := 27) dX7_part_27 (k := ?_)
        refine g_cV1V (M := mX7_part) (pc := 28) (c_X7_part_3 Γ t _ m hI18 (by omega) (by omega)) qX7_part vX7_part sX7_part kX7_68 dX7_part_28 (kk := ?_)
        rintro τ28 ⟨hI28, hG28⟩
        have hF28 : Fr scP σ τ28 := by refine Fr.tr ?_ hG28; exact hF18
        refine g_aload_n (M := mX7_part) (pc := 31) dX7_part_31 rfl (k := ?_)
        refine g_bipush (M := mX7_part) (pc := 32) dX7_part_32 (k := ?_)
        refine g_iconst (M := mX7_part) (pc := 34) dX7_part_34 (k := ?_)
        refine g_cV2V (M := mX7_part) (pc := 35) (c_X7_note Γ t _ m _ _ hI28 (by omega) (by omega) (by omega) (by omega)) qX7_note vX7_note sX7_note kX7_64 dX7_part_35 (kk := ?_)
        rintro τ35 ⟨hI35, hG35⟩
        have hF35 : Fr scP σ τ35 := by refine Fr.tr ?_ hG35; exact hF28
        refine g_goto (M := mX7_part) (pc := 38) (tgt := 99) dX7_part_38 (k := ?_)
        refine g_vret (M := mX7_part) (pc := 99) rfl dX7_part_99 rfl ⟨_, rfl, rfl, ?_⟩
        refine ⟨?_, ?_⟩
        · exact hI35
        · exact hF35
set_option maxHeartbeats 4000000 in
set_option maxRecDepth 20000 in
theorem c_X7_either_2 (Γ : KT) (t : Nat) (σ : Nat → Int → Int) (m : Int)  (hI : InvX σ) (hm : 0 ≤ m ∧ m < 6) (ht : t = 54 + Int.toNat m) : Ct Γ mX7_either 14 (0, 0) [vR Γ 19, vI 2] (113, ρT t, σ) (pV 113 (ρT t) (fun σ' => (InvX σ') ∧ (Fr scP σ σ'))) := by
  refine Ct.of rfl (Nat.le_of_ble_eq_true rfl) ?_
  show G Γ mX7_either 14 (0, 0) _ (0, 0) 0 [some (vR Γ 19), some (vI 2), none, none, none] [] (113, ρT t, σ)
  refine g_iconst (M := mX7_either) (pc := 0) dX7_either_0 (k := ?_)
  refine g_istore_2 (M := mX7_either) (pc := 1) dX7_either_1 (k := ?_)
  refine g_iconst (M := mX7_either) (pc := 2) dX7_either_2 (k := ?_)
  refine g_istore_3 (M := mX7_either) (pc := 3) dX7_either_3 (k := ?_)
  refine g_iconst (M := mX7_either) (pc := 4) dX7_either_4 (k := ?_)
  refine g_istore_4 (M := mX7_either) (pc := 5) dX7_either_5 (k := ?_)
  have loop7 : ∀ (N : Nat) (τ7 : Nat → Int → Int) (an : Int) (orr : Int) (q : Int), ((101 - q).toNat) < N → ((InvX τ7) ∧ (Fr scP σ τ7) ∧ (0 ≤ an ∧ an ≤ 1) ∧ (0 ≤ orr ∧ orr ≤ 1) ∧ (0 ≤ q ∧ q ≤ 100)) → G Γ mX7_either 14 (0, 0) (pV 113 (ρT t) (fun σ' => (InvX σ') ∧ (Fr scP σ σ'))) (0, 0) 7 [some (vR Γ 19), some (vI 2), some (vI an), some (vI orr), some (vI q)] [] (113, ρT t, τ7) := by
    intro N
    induction N with
    | zero => intro τ7 an orr q hmu7 hinv7; exact absurd hmu7 (Nat.not_lt_zero _)
    | succ N ih7 =>
      intro τ7 an orr q hmu7 hinv7
      obtain ⟨hI7, hF7, hb7_an, hb7_orr, hb7_q⟩ := hinv7
      refine g_iload (M := mX7_either) (pc := 7) dX7_either_7 rfl (k := ?_)
      refine g_bipush (M := mX7_either) (pc := 9) dX7_either_9 (k := ?_)
      refine g_icmp_ge (M := mX7_either) (pc := 11) (tgt := 73) (by omega) (by omega) dX7_either_11 (k1 := fun h11 => ?_) (k2 := fun h11 => ?_)
      · skip
        refine g_vret (M := mX7_either) (pc := 73) rfl dX7_either_73 rfl ⟨_, rfl, rfl, ?_⟩
        refine ⟨?_, ?_⟩
        · exact hI7
        · exact hF7
      · skip
        refine g_aload_n (M := mX7_either) (pc := 14) dX7_either_14 rfl (k := ?_)
        refine g_iload_n (M := mX7_either) (pc := 15) dX7_either_15 rfl (k := ?_)
        refine g_cV1V (M := mX7_either) (pc := 16) (c_X7_part_2 Γ t _ m hI7 (by omega) (by omega)) qX7_part vX7_part sX7_part kX7_68 dX7_either_16 (kk := ?_)
        rintro τ16 ⟨hI16, hG16⟩
        have hF16 : Fr scP σ τ16 := by refine Fr.tr ?_ hG16; exact hF7
        refine g_iload_n (M := mX7_either) (pc := 19) dX7_either_19 rfl (k := ?_)
        refine g_if_eq (M := mX7_either) (pc := 20) (tgt := 30) (by omega) dX7_either_20 (k1 := fun h20 => ?_) (k2 := fun h20 => ?_)
        · skip
          refine g_aload_n (M := mX7_either) (pc := 30) dX7_either_30 rfl (k := ?_)
          refine g_bipush (M := mX7_either) (pc := 31) dX7_either_31 (k := ?_)
          refine g_cV1I (M := mX7_either) (pc := 33) (c_X7_take Γ t _ _ hI16 (by omega)) qX7_take vX7_take sX7_take kX7_38 dX7_either_33 (kk := ?_)
          rintro r33 τ33 ⟨hi33, hI33, hG33⟩
          have hF33 : Fr scP σ τ33 := by refine Fr.tr ?_ hG33; exact hF16
          refine g_istore_2 (M := mX7_either) (pc := 36) dX7_either_36 (k := ?_)
          refine g_iload_n (M := mX7_either) (pc := 37) dX7_either_37 rfl (k := ?_)
          refine g_if_eq (M := mX7_either) (pc := 38) (tgt := 44) (by omega) dX7_either_38 (k1 := fun h38 => ?_) (k2 := fun h38 => ?_)
          · skip
            refine g_iload_n (M := mX7_either) (pc := 44) dX7_either_44 rfl (k := ?_)
            refine g_if_eq (M := mX7_either) (pc := 45) (tgt := 55) (by omega) dX7_either_45 (k1 := fun h45 => ?_) (k2 := fun h45 => ?_)
            · skip
              refine g_aload_n (M := mX7_either) (pc := 55) dX7_either_55 rfl (k := ?_)
              refine g_bipush (M := mX7_either) (pc := 56) dX7_either_56 (k := ?_)
              refine g_cV1I (M := mX7_either) (pc := 58) (c_X7_take Γ t _ _ hI33 (by omega)) qX7_take vX7_take sX7_take kX7_38 dX7_either_58 (kk := ?_)
              rintro r58 τ58 ⟨hi58, hI58, hG58⟩
              have hF58 : Fr scP σ τ58 := by refine Fr.tr ?_ hG58; exact hF33
              refine g_istore_3 (M := mX7_either) (pc := 61) dX7_either_61 (k := ?_)
              refine g_iload_n (M := mX7_either) (pc := 62) dX7_either_62 rfl (k := ?_)
              refine g_if_ne (M := mX7_either) (pc := 63) (tgt := 67) (by omega) dX7_either_63 (k1 := fun h63 => ?_) (k2 := fun h63 => ?_)
              · skip
                refine g_iinc_4 (M := mX7_either) (pc := 67) dX7_either_67 (k := ?_)
                refine g_goto (M := mX7_either) (pc := 70) (tgt := 7) dX7_either_70 (k := ?_)
                refine ih7 _ _ _ _ ?_ ?_
                · omega
                · skip
                  refine ⟨?_, ?_, ?_, ?_, ?_⟩
                  · exact hI58
                  · exact hF58
                  · omega
                  · omega
                  · omega
              · skip
                refine g_vret (M := mX7_either) (pc := 66) rfl dX7_either_66 rfl ⟨_, rfl, rfl, ?_⟩
                refine ⟨?_, ?_⟩
                · exact hI58
                · exact hF58
            · skip
              refine g_aload_n (M := mX7_either) (pc := 48) dX7_either_48 rfl (k := ?_)
              refine g_bipush (M := mX7_either) (pc := 49) dX7_either_49 (k := ?_)
              refine g_iconst (M := mX7_either) (pc := 51) dX7_either_51 (k := ?_)
              refine g_cV2V (M := mX7_either) (pc := 52) (c_X7_note Γ t _ m _ _ hI33 (by omega) (by omega) (by omega) (by omega)) qX7_note vX7_note sX7_note kX7_64 dX7_either_52 (kk := ?_)
              rintro τ52 ⟨hI52, hG52⟩
              have hF52 : Fr scP σ τ52 := by refine Fr.tr ?_ hG52; exact hF33
              refine g_aload_n (M := mX7_either) (pc := 55) dX7_either_55 rfl (k := ?_)
              refine g_bipush (M := mX7_either) (pc := 56) dX7_either_56 (k := ?_)
              refine g_cV1I (M := mX7_either) (pc := 58) (c_X7_take Γ t _ _ hI52 (by omega)) qX7_take vX7_take sX7_take kX7_38 dX7_either_58 (kk := ?_)
              rintro r58 τ58 ⟨hi58, hI58, hG58⟩
              have hF58 : Fr scP σ τ58 := by refine Fr.tr ?_ hG58; exact hF52
              refine g_istore_3 (M := mX7_either) (pc := 61) dX7_either_61 (k := ?_)
              refine g_iload_n (M := mX7_either) (pc := 62) dX7_either_62 rfl (k := ?_)
              refine g_if_ne (M := mX7_either) (pc := 63) (tgt := 67) (by omega) dX7_either_63 (k1 := fun h63 => ?_) (k2 := fun h63 => ?_)
              · skip
                refine g_iinc_4 (M := mX7_either) (pc := 67) dX7_either_67 (k := ?_)
                refine g_goto (M := mX7_either) (pc := 70) (tgt := 7) dX7_either_70 (k := ?_)
                refine ih7 _ _ _ _ ?_ ?_
                · omega
                · skip
                  refine ⟨?_, ?_, ?_, ?_, ?_⟩
                  · exact hI58
                  · exact hF58
                  · omega
                  · omega
                  · omega
              · skip
                refine g_vret (M := mX7_either) (pc := 66) rfl dX7_either_66 rfl ⟨_, rfl, rfl, ?_⟩
                refine ⟨?_, ?_⟩
                · exact hI58
                · exact hF58
          · skip
            refine g_goto (M := mX7_either) (pc := 41) (tgt := 67) dX7_either_41 (k := ?_)
            refine g_iinc_4 (M := mX7_either) (pc := 67) dX7_either_67 (k := ?_)
            refine g_goto (M := mX7_either) (pc := 70) (tgt := 7) dX7_either_70 (k := ?_)
            refine ih7 _ _ _ _ ?_ ?_
            · omega
            · skip
              refine ⟨?_, ?_, ?_, ?_, ?_⟩
              · exact hI33
              · exact hF33
              · omega
              · omega
              · omega
        · skip
          refine g_aload_n (M := mX7_either) (pc := 23) dX7_either_23 rfl (k := ?_)
          refine g_bipush (M := mX7_either) (pc := 24) dX7_either_24 (k := ?_)
          refine g_iconst (M := mX7_either) (pc := 26) dX7_either_26 (k := ?_)
          refine g_cV2V (M := mX7_either) (pc := 27) (c_X7_note Γ t _ m _ _ hI16 (by omega) (by omega) (by omega) (by omega)) qX7_note vX7_note sX7_note kX7_64 dX7_either_27 (kk := ?_)
          rintro τ27 ⟨hI27, hG27⟩
          have hF27 : Fr scP σ τ27 := by refine Fr.tr ?_ hG27; exact hF16
          refine g_aload_n (M := mX7_either) (pc := 30) dX7_either_30 rfl (k := ?_)
          refine g_bipush (M := mX7_either) (pc := 31) dX7_either_31 (k := ?_)
          refine g_cV1I (M := mX7_either) (pc := 33) (c_X7_take Γ t _ _ hI27 (by omega)) qX7_take vX7_take sX7_take kX7_38 dX7_either_33 (kk := ?_)
          rintro r33 τ33 ⟨hi33, hI33, hG33⟩
          have hF33 : Fr scP σ τ33 := by refine Fr.tr ?_ hG33; exact hF27
          refine g_istore_2 (M := mX7_either) (pc := 36) dX7_either_36 (k := ?_)
          refine g_iload_n (M := mX7_either) (pc := 37) dX7_either_37 rfl (k := ?_)
          refine g_if_eq (M := mX7_either) (pc := 38) (tgt := 44) (by omega) dX7_either_38 (k1 := fun h38 => ?_) (k2 := fun h38 => ?_)
          · skip
            refine g_iload_n (M := mX7_either) (pc := 44) dX7_either_44 rfl (k := ?_)
            refine g_if_eq (M := mX7_either) (pc := 45) (tgt := 55) (by omega) dX7_either_45 (k1 := fun h45 => ?_) (k2 := fun h45 => ?_)
            · skip
              refine g_aload_n (M := mX7_either) (pc := 55) dX7_either_55 rfl (k := ?_)
              refine g_bipush (M := mX7_either) (pc := 56) dX7_either_56 (k := ?_)
              refine g_cV1I (M := mX7_either) (pc := 58) (c_X7_take Γ t _ _ hI33 (by omega)) qX7_take vX7_take sX7_take kX7_38 dX7_either_58 (kk := ?_)
              rintro r58 τ58 ⟨hi58, hI58, hG58⟩
              have hF58 : Fr scP σ τ58 := by refine Fr.tr ?_ hG58; exact hF33
              refine g_istore_3 (M := mX7_either) (pc := 61) dX7_either_61 (k := ?_)
              refine g_iload_n (M := mX7_either) (pc := 62) dX7_either_62 rfl (k := ?_)
              refine g_if_ne (M := mX7_either) (pc := 63) (tgt := 67) (by omega) dX7_either_63 (k1 := fun h63 => ?_) (k2 := fun h63 => ?_)
              · skip
                refine g_iinc_4 (M := mX7_either) (pc := 67) dX7_either_67 (k := ?_)
                refine g_goto (M := mX7_either) (pc := 70) (tgt := 7) dX7_either_70 (k := ?_)
                refine ih7 _ _ _ _ ?_ ?_
                · omega
                · skip
                  refine ⟨?_, ?_, ?_, ?_, ?_⟩
                  · exact hI58
                  · exact hF58
                  · omega
                  · omega
                  · omega
              · skip
                refine g_vret (M := mX7_either) (pc := 66) rfl dX7_either_66 rfl ⟨_, rfl, rfl, ?_⟩
                refine ⟨?_, ?_⟩
                · exact hI58
                · exact hF58
            · skip
              refine g_aload_n (M := mX7_either) (pc := 48) dX7_either_48 rfl (k := ?_)
              refine g_bipush (M := mX7_either) (pc := 49) dX7_either_49 (k := ?_)
              refine g_iconst (M := mX7_either) (pc := 51) dX7_either_51 (k := ?_)
              refine g_cV2V (M := mX7_either) (pc := 52) (c_X7_note Γ t _ m _ _ hI33 (by omega) (by omega) (by omega) (by omega)) qX7_note vX7_note sX7_note kX7_64 dX7_either_52 (kk := ?_)
              rintro τ52 ⟨hI52, hG52⟩
              have hF52 : Fr scP σ τ52 := by refine Fr.tr ?_ hG52; exact hF33
              refine g_aload_n (M := mX7_either) (pc := 55) dX7_either_55 rfl (k := ?_)
              refine g_bipush (M := mX7_either) (pc := 56) dX7_either_56 (k := ?_)
              refine g_cV1I (M := mX7_either) (pc := 58) (c_X7_take Γ t _ _ hI52 (by omega)) qX7_take vX7_take sX7_take kX7_38 dX7_either_58 (kk := ?_)
              rintro r58 τ58 ⟨hi58, hI58, hG58⟩
              have hF58 : Fr scP σ τ58 := by refine Fr.tr ?_ hG58; exact hF52
              refine g_istore_3 (M := mX7_either) (pc := 61) dX7_either_61 (k := ?_)
              refine g_iload_n (M := mX7_either) (pc := 62) dX7_either_62 rfl (k := ?_)
              refine g_if_ne (M := mX7_either) (pc := 63) (tgt := 67) (by omega) dX7_either_63 (k1 := fun h63 => ?_) (k2 := fun h63 => ?_)
              · skip
                refine g_iinc_4 (M := mX7_either) (pc := 67) dX7_either_67 (k := ?_)
                refine g_goto (M := mX7_either) (pc := 70) (tgt := 7) dX7_either_70 (k := ?_)
                refine ih7 _ _ _ _ ?_ ?_
                · omega
                · skip
                  refine ⟨?_, ?_, ?_, ?_, ?_⟩
                  · exact hI58
                  · exact hF58
                  · omega
                  · omega
                  · omega
              · skip
                refine g_vret (M := mX7_either) (pc := 66) rfl dX7_either_66 rfl ⟨_, rfl, rfl, ?_⟩
                refine ⟨?_, ?_⟩
                · exact hI58
                · exact hF58
          · skip
            refine g_goto (M := mX7_either) (pc := 41) (tgt := 67) dX7_either_41 (k := ?_)
            refine g_iinc_4 (M := mX7_either) (pc := 67) dX7_either_67 (k := ?_)
            refine g_goto (M := mX7_either) (pc := 70) (tgt := 7) dX7_either_70 (k := ?_)
            refine ih7 _ _ _ _ ?_ ?_
            · omega
            · skip
              refine ⟨?_, ?_, ?_, ?_, ?_⟩
              · exact hI33
              · exact hF33
              · omega
              · omega
              · omega
  refine loop7 _ _ _ _ _ (Nat.lt_succ_self _) ?_
  refine ⟨?_, ?_, ?_, ?_, ?_⟩
  · exact hI
  · exact (Fr.rf)
  · omega
  · omega
  · omega
set_option maxHeartbeats 4000000 in
set_option maxRecDepth 20000 in
theorem c_X7_part_1 (Γ : KT) (t : Nat) (σ : Nat → Int → Int) (m : Int)  (hI : InvX σ) (hm : 0 ≤ m ∧ m < 6) (ht : t = 54 + Int.toNat m) : Ct Γ mX7_part 15 (0, 0) [vR Γ 19, vI 1] (113, ρT t, σ) (pV 113 (ρT t) (fun σ' => (InvX σ') ∧ (Fr scP σ σ'))) := by
  refine Ct.of rfl (Nat.le_of_ble_eq_true rfl) ?_
  show G Γ mX7_part 15 (0, 0) _ (0, 0) 0 [some (vR Γ 19), some (vI 1), none, none, none] [] (113, ρT t, σ)
  refine g_iload_n (M := mX7_part) (pc := 0) dX7_part_0 rfl (k := ?_)
  refine g_iconst (M := mX7_part) (pc := 1) dX7_part_1 (k := ?_)
  refine g_icmp_ge (M := mX7_part) (pc := 2) (tgt := 9) (by omega) (by omega) dX7_part_2 (k1 := fun h2 => ?_) (k2 := fun h2 => ?_)
  · omega
  · skip
    refine g_iconst (M := mX7_part) (pc := 5) dX7_part_5 (k := ?_)
    refine g_goto (M := mX7_part) (pc := 6) (tgt := 10) dX7_part_6 (k := ?_)
    refine g_istore_2 (M := mX7_part) (pc := 10) dX7_part_10 (k := ?_)
    refine g_iload_n (M := mX7_part) (pc := 11) dX7_part_11 rfl (k := ?_)
    refine g_if_eq (M := mX7_part) (pc := 12) (tgt := 41) (by omega) dX7_part_12 (k1 := fun h12 => ?_) (k2 := fun h12 => ?_)
    · omega
    · skip
      refine g_aload_n (M := mX7_part) (pc := 15) dX7_part_15 rfl (k := ?_)
      refine g_bipush (M := mX7_part) (pc := 16) dX7_part_16 (k := ?_)
      refine g_cV1I (M := mX7_part) (pc := 18) (c_X7_take Γ t _ _ hI (by omega)) qX7_take vX7_take sX7_take kX7_38 dX7_part_18 (kk := ?_)
      rintro r18 τ18 ⟨hi18, hI18, hG18⟩
      have hF18 : Fr scP σ τ18 := by refine Fr.tr ?_ hG18; exact (Fr.rf)
      refine g_if_eq (M := mX7_part) (pc := 21) (tgt := 41) (by omega) dX7_part_21 (k1 := fun h21 => ?_) (k2 := fun h21 => ?_)
      · skip
        refine g_iload_n (M := mX7_part) (pc := 41) dX7_part_41 rfl (k := ?_)
        refine g_if_eq (M := mX7_part) (pc := 42) (tgt := 70) (by omega) dX7_part_42 (k1 := fun h42 => ?_) (k2 := fun h42 => ?_)
        · omega
        · skip
          refine g_aload_n (M := mX7_part) (pc := 45) dX7_part_45 rfl (k := ?_)
          refine g_bipush (M := mX7_part) (pc := 46) dX7_part_46 (k := ?_)
          refine g_cV1I (M := mX7_part) (pc := 48) (c_X7_take Γ t _ _ hI18 (by omega)) qX7_take vX7_take sX7_take kX7_38 dX7_part_48 (kk := ?_)
          rintro r48 τ48 ⟨hi48, hI48, hG48⟩
          have hF48 : Fr scP σ τ48 := by refine Fr.tr ?_ hG48; exact hF18
          refine g_if_eq (M := mX7_part) (pc := 51) (tgt := 70) (by omega) dX7_part_51 (k1 := fun h51 => ?_) (k2 := fun h51 => ?_)
          · skip
            refine g_aload_n (M := mX7_part) (pc := 70) dX7_part_70 rfl (k := ?_)
            refine g_ldcS (M := mX7_part) (pc := 71) (i := 6) rfl rfl dX7_part_71 (k := ?_)
            refine g_cV1I (M := mX7_part) (pc := 73) (c_X7_choice Γ t _ _ (by decide) hI48) qX7_choice vX7_choice sX7_choice kX7_75 dX7_part_73 (kk := ?_)
            rintro r73 τ73 ⟨hi73, hI73, hG73⟩
            have hF73 : Fr scP σ τ73 := by refine Fr.tr ?_ hG73; exact hF48
            refine g_istore_3 (M := mX7_part) (pc := 76) dX7_part_76 (k := ?_)
            refine g_aload_n (M := mX7_part) (pc := 77) dX7_part_77 rfl (k := ?_)
            refine g_ldcS (M := mX7_part) (pc := 78) (i := 7) rfl rfl dX7_part_78 (k := ?_)
            refine g_cV1I (M := mX7_part) (pc := 80) (c_X7_choice Γ t _ _ (by decide) hI73) qX7_choice vX7_choice sX7_choice kX7_75 dX7_part_80 (kk := ?_)
            rintro r80 τ80 ⟨hi80, hI80, hG80⟩
            have hF80 : Fr scP σ τ80 := by refine Fr.tr ?_ hG80; exact hF73
            refine g_istore_4 (M := mX7_part) (pc := 83) dX7_part_83 (k := ?_)
            refine g_aload_n (M := mX7_part) (pc := 85) dX7_part_85 rfl (k := ?_)
            refine g_iload_n (M := mX7_part) (pc := 86) dX7_part_86 rfl (k := ?_)
            refine g_iconst (M := mX7_part) (pc := 87) dX7_part_87 (k := ?_)
            refine g_imul (M := mX7_part) (pc := 88) dX7_part_88 (k := ?_)
            refine g_iload (M := mX7_part) (pc := 89) dX7_part_89 rfl (k := ?_)
            refine g_iadd (M := mX7_part) (pc := 91) dX7_part_91 (k := ?_)
            refine g_aload_n (M := mX7_part) (pc := 92) dX7_part_92 rfl (k := ?_)
            refine g_cV0I (M := mX7_part) (pc := 93) (c_X7_number Γ t _ hI80) qX7_number vX7_number sX7_number kX7_54 dX7_part_93 (kk := ?_)
            rintro r93 τ93 ⟨hi93, hI93, hG93⟩
            have hF93 : Fr scP σ τ93 := by refine Fr.tr ?_ hG93; exact hF80
            refine g_cV2V (M := mX7_part) (pc := 96) (c_X7_note Γ t _ m _ _ hI93 (by omega) (by omega) (by omega) (by omega)) qX7_note vX7_note sX7_note kX7_64 dX7_part_96 (kk := ?_)
            rintro τ96 ⟨hI96, hG96⟩
            have hF96 : Fr scP σ τ96 := by refine Fr.tr ?_ hG96; exact hF93
            refine g_vret (M := mX7_part) (pc := 99) rfl dX7_part_99 rfl ⟨_, rfl, rfl, ?_⟩
            refine ⟨?_, ?_⟩
            · exact hI96
            · exact hF96
          · skip
            refine g_aload_n (M := mX7_part) (pc := 54) dX7_part_54 rfl (k := ?_)
            refine g_iload_n (M := mX7_part) (pc := 55) dX7_part_55 rfl (k := ?_)
            refine g_iconst (M := mX7_part) (pc := 56) dX7_part_56 (k := ?_)
            refine g_iadd (M := mX7_part) (pc := 57) dX7_part_57 (k := ?_)
            refine g_cV1V (M := mX7_part) (pc := 58) (c_X7_either_2 Γ t _ m hI48 (by omega) (by omega)) qX7_either vX7_either sX7_either kX7_60 dX7_part_58 (kk := ?_)
            rintro τ58 ⟨hI58, hG58⟩
            have hF58 : Fr scP σ τ58 := by refine Fr.tr ?_ hG58; exact hF48
            refine g_aload_n (M := mX7_part) (pc := 61) dX7_part_61 rfl (k := ?_)
            refine g_ldcS (M := mX7_part) (pc := 62) (i := 5) rfl rfl dX7_part_62 (k := ?_)
            refine g_cV1V (M := mX7_part) (pc := 64) (c_X7_word Γ t _ _ (by decide) hI58) qX7_word vX7_word sX7_word kX7_50 dX7_part_64 (kk := ?_)
            rintro τ64 ⟨hI64, hG64⟩
            have hF64 : Fr scP σ τ64 := by refine Fr.tr ?_ hG64; exact hF58
            refine g_goto (M := mX7_part) (pc := 67) (tgt := 99) dX7_part_67 (k := ?_)
            refine g_vret (M := mX7_part) (pc := 99) rfl dX7_part_99 rfl ⟨_, rfl, rfl, ?_⟩
            refine ⟨?_, ?_⟩
            · exact hI64
            · exact hF64
      · skip
        refine g_aload_n (M := mX7_part) (pc := 24) dX7_part_24 rfl (k := ?_)
        refine g_iload_n (M := mX7_part) (pc := 25) dX7_part_25 rfl (k := ?_)
        refine g_iconst (M := mX7_part) (pc := 26) dX7_part_26 (k := ?_)
        refine g_iadd (M := mX7_part) (pc := 27) dX7_part_27 (k := ?_)
        refine g_cV1V (M := mX7_part) (pc := 28) (c_X7_part_2 Γ t _ m hI18 (by omega) (by omega)) qX7_part vX7_part sX7_part kX7_68 dX7_part_28 (kk := ?_)
        rintro τ28 ⟨hI28, hG28⟩
        have hF28 : Fr scP σ τ28 := by refine Fr.tr ?_ hG28; exact hF18
        refine g_aload_n (M := mX7_part) (pc := 31) dX7_part_31 rfl (k := ?_)
        refine g_bipush (M := mX7_part) (pc := 32) dX7_part_32 (k := ?_)
        refine g_iconst (M := mX7_part) (pc := 34) dX7_part_34 (k := ?_)
        refine g_cV2V (M := mX7_part) (pc := 35) (c_X7_note Γ t _ m _ _ hI28 (by omega) (by omega) (by omega) (by omega)) qX7_note vX7_note sX7_note kX7_64 dX7_part_35 (kk := ?_)
        rintro τ35 ⟨hI35, hG35⟩
        have hF35 : Fr scP σ τ35 := by refine Fr.tr ?_ hG35; exact hF28
        refine g_goto (M := mX7_part) (pc := 38) (tgt := 99) dX7_part_38 (k := ?_)
        refine g_vret (M := mX7_part) (pc := 99) rfl dX7_part_99 rfl ⟨_, rfl, rfl, ?_⟩
        refine ⟨?_, ?_⟩
        · exact hI35
        · exact hF35
set_option maxHeartbeats 4000000 in
set_option maxRecDepth 20000 in
theorem c_X7_either_1 (Γ : KT) (t : Nat) (σ : Nat → Int → Int) (m : Int)  (hI : InvX σ) (hm : 0 ≤ m ∧ m < 6) (ht : t = 54 + Int.toNat m) : Ct Γ mX7_either 16 (0, 0) [vR Γ 19, vI 1] (113, ρT t, σ) (pV 113 (ρT t) (fun σ' => (InvX σ') ∧ (Fr scP σ σ'))) := by
  refine Ct.of rfl (Nat.le_of_ble_eq_true rfl) ?_
  show G Γ mX7_either 16 (0, 0) _ (0, 0) 0 [some (vR Γ 19), some (vI 1), none, none, none] [] (113, ρT t, σ)
  refine g_iconst (M := mX7_either) (pc := 0) dX7_either_0 (k := ?_)
  refine g_istore_2 (M := mX7_either) (pc := 1) dX7_either_1 (k := ?_)
  refine g_iconst (M := mX7_either) (pc := 2) dX7_either_2 (k := ?_)
  refine g_istore_3 (M := mX7_either) (pc := 3) dX7_either_3 (k := ?_)
  refine g_iconst (M := mX7_either) (pc := 4) dX7_either_4 (k := ?_)
  refine g_istore_4 (M := mX7_either) (pc := 5) dX7_either_5 (k := ?_)
  have loop7 : ∀ (N : Nat) (τ7 : Nat → Int → Int) (an : Int) (orr : Int) (q : Int), ((101 - q).toNat) < N → ((InvX τ7) ∧ (Fr scP σ τ7) ∧ (0 ≤ an ∧ an ≤ 1) ∧ (0 ≤ orr ∧ orr ≤ 1) ∧ (0 ≤ q ∧ q ≤ 100)) → G Γ mX7_either 16 (0, 0) (pV 113 (ρT t) (fun σ' => (InvX σ') ∧ (Fr scP σ σ'))) (0, 0) 7 [some (vR Γ 19), some (vI 1), some (vI an), some (vI orr), some (vI q)] [] (113, ρT t, τ7) := by
    intro N
    induction N with
    | zero => intro τ7 an orr q hmu7 hinv7; exact absurd hmu7 (Nat.not_lt_zero _)
    | succ N ih7 =>
      intro τ7 an orr q hmu7 hinv7
      obtain ⟨hI7, hF7, hb7_an, hb7_orr, hb7_q⟩ := hinv7
      refine g_iload (M := mX7_either) (pc := 7) dX7_either_7 rfl (k := ?_)
      refine g_bipush (M := mX7_either) (pc := 9) dX7_either_9 (k := ?_)
      refine g_icmp_ge (M := mX7_either) (pc := 11) (tgt := 73) (by omega) (by omega) dX7_either_11 (k1 := fun h11 => ?_) (k2 := fun h11 => ?_)
      · skip
        refine g_vret (M := mX7_either) (pc := 73) rfl dX7_either_73 rfl ⟨_, rfl, rfl, ?_⟩
        refine ⟨?_, ?_⟩
        · exact hI7
        · exact hF7
      · skip
        refine g_aload_n (M := mX7_either) (pc := 14) dX7_either_14 rfl (k := ?_)
        refine g_iload_n (M := mX7_either) (pc := 15) dX7_either_15 rfl (k := ?_)
        refine g_cV1V (M := mX7_either) (pc := 16) (c_X7_part_1 Γ t _ m hI7 (by omega) (by omega)) qX7_part vX7_part sX7_part kX7_68 dX7_either_16 (kk := ?_)
        rintro τ16 ⟨hI16, hG16⟩
        have hF16 : Fr scP σ τ16 := by refine Fr.tr ?_ hG16; exact hF7
        refine g_iload_n (M := mX7_either) (pc := 19) dX7_either_19 rfl (k := ?_)
        refine g_if_eq (M := mX7_either) (pc := 20) (tgt := 30) (by omega) dX7_either_20 (k1 := fun h20 => ?_) (k2 := fun h20 => ?_)
        · skip
          refine g_aload_n (M := mX7_either) (pc := 30) dX7_either_30 rfl (k := ?_)
          refine g_bipush (M := mX7_either) (pc := 31) dX7_either_31 (k := ?_)
          refine g_cV1I (M := mX7_either) (pc := 33) (c_X7_take Γ t _ _ hI16 (by omega)) qX7_take vX7_take sX7_take kX7_38 dX7_either_33 (kk := ?_)
          rintro r33 τ33 ⟨hi33, hI33, hG33⟩
          have hF33 : Fr scP σ τ33 := by refine Fr.tr ?_ hG33; exact hF16
          refine g_istore_2 (M := mX7_either) (pc := 36) dX7_either_36 (k := ?_)
          refine g_iload_n (M := mX7_either) (pc := 37) dX7_either_37 rfl (k := ?_)
          refine g_if_eq (M := mX7_either) (pc := 38) (tgt := 44) (by omega) dX7_either_38 (k1 := fun h38 => ?_) (k2 := fun h38 => ?_)
          · skip
            refine g_iload_n (M := mX7_either) (pc := 44) dX7_either_44 rfl (k := ?_)
            refine g_if_eq (M := mX7_either) (pc := 45) (tgt := 55) (by omega) dX7_either_45 (k1 := fun h45 => ?_) (k2 := fun h45 => ?_)
            · skip
              refine g_aload_n (M := mX7_either) (pc := 55) dX7_either_55 rfl (k := ?_)
              refine g_bipush (M := mX7_either) (pc := 56) dX7_either_56 (k := ?_)
              refine g_cV1I (M := mX7_either) (pc := 58) (c_X7_take Γ t _ _ hI33 (by omega)) qX7_take vX7_take sX7_take kX7_38 dX7_either_58 (kk := ?_)
              rintro r58 τ58 ⟨hi58, hI58, hG58⟩
              have hF58 : Fr scP σ τ58 := by refine Fr.tr ?_ hG58; exact hF33
              refine g_istore_3 (M := mX7_either) (pc := 61) dX7_either_61 (k := ?_)
              refine g_iload_n (M := mX7_either) (pc := 62) dX7_either_62 rfl (k := ?_)
              refine g_if_ne (M := mX7_either) (pc := 63) (tgt := 67) (by omega) dX7_either_63 (k1 := fun h63 => ?_) (k2 := fun h63 => ?_)
              · skip
                refine g_iinc_4 (M := mX7_either) (pc := 67) dX7_either_67 (k := ?_)
                refine g_goto (M := mX7_either) (pc := 70) (tgt := 7) dX7_either_70 (k := ?_)
                refine ih7 _ _ _ _ ?_ ?_
                · omega
                · skip
                  refine ⟨?_, ?_, ?_, ?_, ?_⟩
                  · exact hI58
                  · exact hF58
                  · omega
                  · omega
                  · omega
              · skip
                refine g_vret (M := mX7_either) (pc := 66) rfl dX7_either_66 rfl ⟨_, rfl, rfl, ?_⟩
                refine ⟨?_, ?_⟩
                · exact hI58
                · exact hF58
            · skip
              refine g_aload_n (M := mX7_either) (pc := 48) dX7_either_48 rfl (k := ?_)
              refine g_bipush (M := mX7_either) (pc := 49) dX7_either_49 (k := ?_)
              refine g_iconst (M := mX7_either) (pc := 51) dX7_either_51 (k := ?_)
              refine g_cV2V (M := mX7_either) (pc := 52) (c_X7_note Γ t _ m _ _ hI33 (by omega) (by omega) (by omega) (by omega)) qX7_note vX7_note sX7_note kX7_64 dX7_either_52 (kk := ?_)
              rintro τ52 ⟨hI52, hG52⟩
              have hF52 : Fr scP σ τ52 := by refine Fr.tr ?_ hG52; exact hF33
              refine g_aload_n (M := mX7_either) (pc := 55) dX7_either_55 rfl (k := ?_)
              refine g_bipush (M := mX7_either) (pc := 56) dX7_either_56 (k := ?_)
              refine g_cV1I (M := mX7_either) (pc := 58) (c_X7_take Γ t _ _ hI52 (by omega)) qX7_take vX7_take sX7_take kX7_38 dX7_either_58 (kk := ?_)
              rintro r58 τ58 ⟨hi58, hI58, hG58⟩
              have hF58 : Fr scP σ τ58 := by refine Fr.tr ?_ hG58; exact hF52
              refine g_istore_3 (M := mX7_either) (pc := 61) dX7_either_61 (k := ?_)
              refine g_iload_n (M := mX7_either) (pc := 62) dX7_either_62 rfl (k := ?_)
              refine g_if_ne (M := mX7_either) (pc := 63) (tgt := 67) (by omega) dX7_either_63 (k1 := fun h63 => ?_) (k2 := fun h63 => ?_)
              · skip
                refine g_iinc_4 (M := mX7_either) (pc := 67) dX7_either_67 (k := ?_)
                refine g_goto (M := mX7_either) (pc := 70) (tgt := 7) dX7_either_70 (k := ?_)
                refine ih7 _ _ _ _ ?_ ?_
                · omega
                · skip
                  refine ⟨?_, ?_, ?_, ?_, ?_⟩
                  · exact hI58
                  · exact hF58
                  · omega
                  · omega
                  · omega
              · skip
                refine g_vret (M := mX7_either) (pc := 66) rfl dX7_either_66 rfl ⟨_, rfl, rfl, ?_⟩
                refine ⟨?_, ?_⟩
                · exact hI58
                · exact hF58
          · skip
            refine g_goto (M := mX7_either) (pc := 41) (tgt := 67) dX7_either_41 (k := ?_)
            refine g_iinc_4 (M := mX7_either) (pc := 67) dX7_either_67 (k := ?_)
            refine g_goto (M := mX7_either) (pc := 70) (tgt := 7) dX7_either_70 (k := ?_)
            refine ih7 _ _ _ _ ?_ ?_
            · omega
            · skip
              refine ⟨?_, ?_, ?_, ?_, ?_⟩
              · exact hI33
              · exact hF33
              · omega
              · omega
              · omega
        · skip
          refine g_aload_n (M := mX7_either) (pc := 23) dX7_either_23 rfl (k := ?_)
          refine g_bipush (M := mX7_either) (pc := 24) dX7_either_24 (k := ?_)
          refine g_iconst (M := mX7_either) (pc := 26) dX7_either_26 (k := ?_)
          refine g_cV2V (M := mX7_either) (pc := 27) (c_X7_note Γ t _ m _ _ hI16 (by omega) (by omega) (by omega) (by omega)) qX7_note vX7_note sX7_note kX7_64 dX7_either_27 (kk := ?_)
          rintro τ27 ⟨hI27, hG27⟩
          have hF27 : Fr scP σ τ27 := by refine Fr.tr ?_ hG27; exact hF16
          refine g_aload_n (M := mX7_either) (pc := 30) dX7_either_30 rfl (k := ?_)
          refine g_bipush (M := mX7_either) (pc := 31) dX7_either_31 (k := ?_)
          refine g_cV1I (M := mX7_either) (pc := 33) (c_X7_take Γ t _ _ hI27 (by omega)) qX7_take vX7_take sX7_take kX7_38 dX7_either_33 (kk := ?_)
          rintro r33 τ33 ⟨hi33, hI33, hG33⟩
          have hF33 : Fr scP σ τ33 := by refine Fr.tr ?_ hG33; exact hF27
          refine g_istore_2 (M := mX7_either) (pc := 36) dX7_either_36 (k := ?_)
          refine g_iload_n (M := mX7_either) (pc := 37) dX7_either_37 rfl (k := ?_)
          refine g_if_eq (M := mX7_either) (pc := 38) (tgt := 44) (by omega) dX7_either_38 (k1 := fun h38 => ?_) (k2 := fun h38 => ?_)
          · skip
            refine g_iload_n (M := mX7_either) (pc := 44) dX7_either_44 rfl (k := ?_)
            refine g_if_eq (M := mX7_either) (pc := 45) (tgt := 55) (by omega) dX7_either_45 (k1 := fun h45 => ?_) (k2 := fun h45 => ?_)
            · skip
              refine g_aload_n (M := mX7_either) (pc := 55) dX7_either_55 rfl (k := ?_)
              refine g_bipush (M := mX7_either) (pc := 56) dX7_either_56 (k := ?_)
              refine g_cV1I (M := mX7_either) (pc := 58) (c_X7_take Γ t _ _ hI33 (by omega)) qX7_take vX7_take sX7_take kX7_38 dX7_either_58 (kk := ?_)
              rintro r58 τ58 ⟨hi58, hI58, hG58⟩
              have hF58 : Fr scP σ τ58 := by refine Fr.tr ?_ hG58; exact hF33
              refine g_istore_3 (M := mX7_either) (pc := 61) dX7_either_61 (k := ?_)
              refine g_iload_n (M := mX7_either) (pc := 62) dX7_either_62 rfl (k := ?_)
              refine g_if_ne (M := mX7_either) (pc := 63) (tgt := 67) (by omega) dX7_either_63 (k1 := fun h63 => ?_) (k2 := fun h63 => ?_)
              · skip
                refine g_iinc_4 (M := mX7_either) (pc := 67) dX7_either_67 (k := ?_)
                refine g_goto (M := mX7_either) (pc := 70) (tgt := 7) dX7_either_70 (k := ?_)
                refine ih7 _ _ _ _ ?_ ?_
                · omega
                · skip
                  refine ⟨?_, ?_, ?_, ?_, ?_⟩
                  · exact hI58
                  · exact hF58
                  · omega
                  · omega
                  · omega
              · skip
                refine g_vret (M := mX7_either) (pc := 66) rfl dX7_either_66 rfl ⟨_, rfl, rfl, ?_⟩
                refine ⟨?_, ?_⟩
                · exact hI58
                · exact hF58
            · skip
              refine g_aload_n (M := mX7_either) (pc := 48) dX7_either_48 rfl (k := ?_)
              refine g_bipush (M := mX7_either) (pc := 49) dX7_either_49 (k := ?_)
              refine g_iconst (M := mX7_either) (pc := 51) dX7_either_51 (k := ?_)
              refine g_cV2V (M := mX7_either) (pc := 52) (c_X7_note Γ t _ m _ _ hI33 (by omega) (by omega) (by omega) (by omega)) qX7_note vX7_note sX7_note kX7_64 dX7_either_52 (kk := ?_)
              rintro τ52 ⟨hI52, hG52⟩
              have hF52 : Fr scP σ τ52 := by refine Fr.tr ?_ hG52; exact hF33
              refine g_aload_n (M := mX7_either) (pc := 55) dX7_either_55 rfl (k := ?_)
              refine g_bipush (M := mX7_either) (pc := 56) dX7_either_56 (k := ?_)
              refine g_cV1I (M := mX7_either) (pc := 58) (c_X7_take Γ t _ _ hI52 (by omega)) qX7_take vX7_take sX7_take kX7_38 dX7_either_58 (kk := ?_)
              rintro r58 τ58 ⟨hi58, hI58, hG58⟩
              have hF58 : Fr scP σ τ58 := by refine Fr.tr ?_ hG58; exact hF52
              refine g_istore_3 (M := mX7_either) (pc := 61) dX7_either_61 (k := ?_)
              refine g_iload_n (M := mX7_either) (pc := 62) dX7_either_62 rfl (k := ?_)
              refine g_if_ne (M := mX7_either) (pc := 63) (tgt := 67) (by omega) dX7_either_63 (k1 := fun h63 => ?_) (k2 := fun h63 => ?_)
              · skip
                refine g_iinc_4 (M := mX7_either) (pc := 67) dX7_either_67 (k := ?_)
                refine g_goto (M := mX7_either) (pc := 70) (tgt := 7) dX7_either_70 (k := ?_)
                refine ih7 _ _ _ _ ?_ ?_
                · omega
                · skip
                  refine ⟨?_, ?_, ?_, ?_, ?_⟩
                  · exact hI58
                  · exact hF58
                  · omega
                  · omega
                  · omega
              · skip
                refine g_vret (M := mX7_either) (pc := 66) rfl dX7_either_66 rfl ⟨_, rfl, rfl, ?_⟩
                refine ⟨?_, ?_⟩
                · exact hI58
                · exact hF58
          · skip
            refine g_goto (M := mX7_either) (pc := 41) (tgt := 67) dX7_either_41 (k := ?_)
            refine g_iinc_4 (M := mX7_either) (pc := 67) dX7_either_67 (k := ?_)
            refine g_goto (M := mX7_either) (pc := 70) (tgt := 7) dX7_either_70 (k := ?_)
            refine ih7 _ _ _ _ ?_ ?_
            · omega
            · skip
              refine ⟨?_, ?_, ?_, ?_, ?_⟩
              · exact hI33
              · exact hF33
              · omega
              · omega
              · omega
  refine loop7 _ _ _ _ _ (Nat.lt_succ_self _) ?_
  refine ⟨?_, ?_, ?_, ?_, ?_⟩
  · exact hI
  · exact (Fr.rf)
  · omega
  · omega
  · omega
set_option maxHeartbeats 4000000 in
set_option maxRecDepth 20000 in
theorem c_X7_part_0 (Γ : KT) (t : Nat) (σ : Nat → Int → Int) (m : Int)  (hI : InvX σ) (hm : 0 ≤ m ∧ m < 6) (ht : t = 54 + Int.toNat m) : Ct Γ mX7_part 17 (0, 0) [vR Γ 19, vI 0] (113, ρT t, σ) (pV 113 (ρT t) (fun σ' => (InvX σ') ∧ (Fr scP σ σ'))) := by
  refine Ct.of rfl (Nat.le_of_ble_eq_true rfl) ?_
  show G Γ mX7_part 17 (0, 0) _ (0, 0) 0 [some (vR Γ 19), some (vI 0), none, none, none] [] (113, ρT t, σ)
  refine g_iload_n (M := mX7_part) (pc := 0) dX7_part_0 rfl (k := ?_)
  refine g_iconst (M := mX7_part) (pc := 1) dX7_part_1 (k := ?_)
  refine g_icmp_ge (M := mX7_part) (pc := 2) (tgt := 9) (by omega) (by omega) dX7_part_2 (k1 := fun h2 => ?_) (k2 := fun h2 => ?_)
  · omega
  · skip
    refine g_iconst (M := mX7_part) (pc := 5) dX7_part_5 (k := ?_)
    refine g_goto (M := mX7_part) (pc := 6) (tgt := 10) dX7_part_6 (k := ?_)
    refine g_istore_2 (M := mX7_part) (pc := 10) dX7_part_10 (k := ?_)
    refine g_iload_n (M := mX7_part) (pc := 11) dX7_part_11 rfl (k := ?_)
    refine g_if_eq (M := mX7_part) (pc := 12) (tgt := 41) (by omega) dX7_part_12 (k1 := fun h12 => ?_) (k2 := fun h12 => ?_)
    · omega
    · skip
      refine g_aload_n (M := mX7_part) (pc := 15) dX7_part_15 rfl (k := ?_)
      refine g_bipush (M := mX7_part) (pc := 16) dX7_part_16 (k := ?_)
      refine g_cV1I (M := mX7_part) (pc := 18) (c_X7_take Γ t _ _ hI (by omega)) qX7_take vX7_take sX7_take kX7_38 dX7_part_18 (kk := ?_)
      rintro r18 τ18 ⟨hi18, hI18, hG18⟩
      have hF18 : Fr scP σ τ18 := by refine Fr.tr ?_ hG18; exact (Fr.rf)
      refine g_if_eq (M := mX7_part) (pc := 21) (tgt := 41) (by omega) dX7_part_21 (k1 := fun h21 => ?_) (k2 := fun h21 => ?_)
      · skip
        refine g_iload_n (M := mX7_part) (pc := 41) dX7_part_41 rfl (k := ?_)
        refine g_if_eq (M := mX7_part) (pc := 42) (tgt := 70) (by omega) dX7_part_42 (k1 := fun h42 => ?_) (k2 := fun h42 => ?_)
        · omega
        · skip
          refine g_aload_n (M := mX7_part) (pc := 45) dX7_part_45 rfl (k := ?_)
          refine g_bipush (M := mX7_part) (pc := 46) dX7_part_46 (k := ?_)
          refine g_cV1I (M := mX7_part) (pc := 48) (c_X7_take Γ t _ _ hI18 (by omega)) qX7_take vX7_take sX7_take kX7_38 dX7_part_48 (kk := ?_)
          rintro r48 τ48 ⟨hi48, hI48, hG48⟩
          have hF48 : Fr scP σ τ48 := by refine Fr.tr ?_ hG48; exact hF18
          refine g_if_eq (M := mX7_part) (pc := 51) (tgt := 70) (by omega) dX7_part_51 (k1 := fun h51 => ?_) (k2 := fun h51 => ?_)
          · skip
            refine g_aload_n (M := mX7_part) (pc := 70) dX7_part_70 rfl (k := ?_)
            refine g_ldcS (M := mX7_part) (pc := 71) (i := 6) rfl rfl dX7_part_71 (k := ?_)
            refine g_cV1I (M := mX7_part) (pc := 73) (c_X7_choice Γ t _ _ (by decide) hI48) qX7_choice vX7_choice sX7_choice kX7_75 dX7_part_73 (kk := ?_)
            rintro r73 τ73 ⟨hi73, hI73, hG73⟩
            have hF73 : Fr scP σ τ73 := by refine Fr.tr ?_ hG73; exact hF48
            refine g_istore_3 (M := mX7_part) (pc := 76) dX7_part_76 (k := ?_)
            refine g_aload_n (M := mX7_part) (pc := 77) dX7_part_77 rfl (k := ?_)
            refine g_ldcS (M := mX7_part) (pc := 78) (i := 7) rfl rfl dX7_part_78 (k := ?_)
            refine g_cV1I (M := mX7_part) (pc := 80) (c_X7_choice Γ t _ _ (by decide) hI73) qX7_choice vX7_choice sX7_choice kX7_75 dX7_part_80 (kk := ?_)
            rintro r80 τ80 ⟨hi80, hI80, hG80⟩
            have hF80 : Fr scP σ τ80 := by refine Fr.tr ?_ hG80; exact hF73
            refine g_istore_4 (M := mX7_part) (pc := 83) dX7_part_83 (k := ?_)
            refine g_aload_n (M := mX7_part) (pc := 85) dX7_part_85 rfl (k := ?_)
            refine g_iload_n (M := mX7_part) (pc := 86) dX7_part_86 rfl (k := ?_)
            refine g_iconst (M := mX7_part) (pc := 87) dX7_part_87 (k := ?_)
            refine g_imul (M := mX7_part) (pc := 88) dX7_part_88 (k := ?_)
            refine g_iload (M := mX7_part) (pc := 89) dX7_part_89 rfl (k := ?_)
            refine g_iadd (M := mX7_part) (pc := 91) dX7_part_91 (k := ?_)
            refine g_aload_n (M := mX7_part) (pc := 92) dX7_part_92 rfl (k := ?_)
            refine g_cV0I (M := mX7_part) (pc := 93) (c_X7_number Γ t _ hI80) qX7_number vX7_number sX7_number kX7_54 dX7_part_93 (kk := ?_)
            rintro r93 τ93 ⟨hi93, hI93, hG93⟩
            have hF93 : Fr scP σ τ93 := by refine Fr.tr ?_ hG93; exact hF80
            refine g_cV2V (M := mX7_part) (pc := 96) (c_X7_note Γ t _ m _ _ hI93 (by omega) (by omega) (by omega) (by omega)) qX7_note vX7_note sX7_note kX7_64 dX7_part_96 (kk := ?_)
            rintro τ96 ⟨hI96, hG96⟩
            have hF96 : Fr scP σ τ96 := by refine Fr.tr ?_ hG96; exact hF93
            refine g_vret (M := mX7_part) (pc := 99) rfl dX7_part_99 rfl ⟨_, rfl, rfl, ?_⟩
            refine ⟨?_, ?_⟩
            · exact hI96
            · exact hF96
          · skip
            refine g_aload_n (M := mX7_part) (pc := 54) dX7_part_54 rfl (k := ?_)
            refine g_iload_n (M := mX7_part) (pc := 55) dX7_part_55 rfl (k := ?_)
            refine g_iconst (M := mX7_part) (pc := 56) dX7_part_56 (k := ?_)
            refine g_iadd (M := mX7_part) (pc := 57) dX7_part_57 (k := ?_)
            refine g_cV1V (M := mX7_part) (pc := 58) (c_X7_either_1 Γ t _ m hI48 (by omega) (by omega)) qX7_either vX7_either sX7_either kX7_60 dX7_part_58 (kk := ?_)
            rintro τ58 ⟨hI58, hG58⟩
            have hF58 : Fr scP σ τ58 := by refine Fr.tr ?_ hG58; exact hF48
            refine g_aload_n (M := mX7_part) (pc := 61) dX7_part_61 rfl (k := ?_)
            refine g_ldcS (M := mX7_part) (pc := 62) (i := 5) rfl rfl dX7_part_62 (k := ?_)
            refine g_cV1V (M := mX7_part) (pc := 64) (c_X7_word Γ t _ _ (by decide) hI58) qX7_word vX7_word sX7_word kX7_50 dX7_part_64 (kk := ?_)
            rintro τ64 ⟨hI64, hG64⟩
            have hF64 : Fr scP σ τ64 := by refine Fr.tr ?_ hG64; exact hF58
            refine g_goto (M := mX7_part) (pc := 67) (tgt := 99) dX7_part_67 (k := ?_)
            refine g_vret (M := mX7_part) (pc := 99) rfl dX7_part_99 rfl ⟨_, rfl, rfl, ?_⟩
            refine ⟨?_, ?_⟩
            · exact hI64
            · exact hF64
      · skip
        refine g_aload_n (M := mX7_part) (pc := 24) dX7_part_24 rfl (k := ?_)
        refine g_iload_n (M := mX7_part) (pc := 25) dX7_part_25 rfl (k := ?_)
        refine g_iconst (M := mX7_part) (pc := 26) dX7_part_26 (k := ?_)
        refine g_iadd (M := mX7_part) (pc := 27) dX7_part_27 (k := ?_)
        refine g_cV1V (M := mX7_part) (pc := 28) (c_X7_part_1 Γ t _ m hI18 (by omega) (by omega)) qX7_part vX7_part sX7_part kX7_68 dX7_part_28 (kk := ?_)
        rintro τ28 ⟨hI28, hG28⟩
        have hF28 : Fr scP σ τ28 := by refine Fr.tr ?_ hG28; exact hF18
        refine g_aload_n (M := mX7_part) (pc := 31) dX7_part_31 rfl (k := ?_)
        refine g_bipush (M := mX7_part) (pc := 32) dX7_part_32 (k := ?_)
        refine g_iconst (M := mX7_part) (pc := 34) dX7_part_34 (k := ?_)
        refine g_cV2V (M := mX7_part) (pc := 35) (c_X7_note Γ t _ m _ _ hI28 (by omega) (by omega) (by omega) (by omega)) qX7_note vX7_note sX7_note kX7_64 dX7_part_35 (kk := ?_)
        rintro τ35 ⟨hI35, hG35⟩
        have hF35 : Fr scP σ τ35 := by refine Fr.tr ?_ hG35; exact hF28
        refine g_goto (M := mX7_part) (pc := 38) (tgt := 99) dX7_part_38 (k := ?_)
        refine g_vret (M := mX7_part) (pc := 99) rfl dX7_part_99 rfl ⟨_, rfl, rfl, ?_⟩
        refine ⟨?_, ?_⟩
        · exact hI35
        · exact hF35
set_option maxHeartbeats 4000000 in
set_option maxRecDepth 20000 in
theorem c_X7_either_0 (Γ : KT) (t : Nat) (σ : Nat → Int → Int) (m : Int)  (hI : InvX σ) (hm : 0 ≤ m ∧ m < 6) (ht : t = 54 + Int.toNat m) : Ct Γ mX7_either 18 (0, 0) [vR Γ 19, vI 0] (113, ρT t, σ) (pV 113 (ρT t) (fun σ' => (InvX σ') ∧ (Fr scP σ σ'))) := by
  refine Ct.of rfl (Nat.le_of_ble_eq_true rfl) ?_
  show G Γ mX7_either 18 (0, 0) _ (0, 0) 0 [some (vR Γ 19), some (vI 0), none, none, none] [] (113, ρT t, σ)
  refine g_iconst (M := mX7_either) (pc := 0) dX7_either_0 (k := ?_)
  refine g_istore_2 (M := mX7_either) (pc := 1) dX7_either_1 (k := ?_)
  refine g_iconst (M := mX7_either) (pc := 2) dX7_either_2 (k := ?_)
  refine g_istore_3 (M := mX7_either) (pc := 3) dX7_either_3 (k := ?_)
  refine g_iconst (M := mX7_either) (pc := 4) dX7_either_4 (k := ?_)
  refine g_istore_4 (M := mX7_either) (pc := 5) dX7_either_5 (k := ?_)
  have loop7 : ∀ (N : Nat) (τ7 : Nat → Int → Int) (an : Int) (orr : Int) (q : Int), ((101 - q).toNat) < N → ((InvX τ7) ∧ (Fr scP σ τ7) ∧ (0 ≤ an ∧ an ≤ 1) ∧ (0 ≤ orr ∧ orr ≤ 1) ∧ (0 ≤ q ∧ q ≤ 100)) → G Γ mX7_either 18 (0, 0) (pV 113 (ρT t) (fun σ' => (InvX σ') ∧ (Fr scP σ σ'))) (0, 0) 7 [some (vR Γ 19), some (vI 0), some (vI an), some (vI orr), some (vI q)] [] (113, ρT t, τ7) := by
    intro N
    induction N with
    | zero => intro τ7 an orr q hmu7 hinv7; exact absurd hmu7 (Nat.not_lt_zero _)
    | succ N ih7 =>
      intro τ7 an orr q hmu7 hinv7
      obtain ⟨hI7, hF7, hb7_an, hb7_orr, hb7_q⟩ := hinv7
      refine g_iload (M := mX7_either) (pc := 7) dX7_either_7 rfl (k := ?_)
      refine g_bipush (M := mX7_either) (pc := 9) dX7_either_9 (k := ?_)
      refine g_icmp_ge (M := mX7_either) (pc := 11) (tgt := 73) (by omega) (by omega) dX7_either_11 (k1 := fun h11 => ?_) (k2 := fun h11 => ?_)
      · skip
        refine g_vret (M := mX7_either) (pc := 73) rfl dX7_either_73 rfl ⟨_, rfl, rfl, ?_⟩
        refine ⟨?_, ?_⟩
        · exact hI7
        · exact hF7
      · skip
        refine g_aload_n (M := mX7_either) (pc := 14) dX7_either_14 rfl (k := ?_)
        refine g_iload_n (M := mX7_either) (pc := 15) dX7_either_15 rfl (k := ?_)
        refine g_cV1V (M := mX7_either) (pc := 16) (c_X7_part_0 Γ t _ m hI7 (by omega) (by omega)) qX7_part vX7_part sX7_part kX7_68 dX7_either_16 (kk := ?_)
        rintro τ16 ⟨hI16, hG16⟩
        have hF16 : Fr scP σ τ16 := by refine Fr.tr ?_ hG16; exact hF7
        refine g_iload_n (M := mX7_either) (pc := 19) dX7_either_19 rfl (k := ?_)
        refine g_if_eq (M := mX7_either) (pc := 20) (tgt := 30) (by omega) dX7_either_20 (k1 := fun h20 => ?_) (k2 := fun h20 => ?_)
        · skip
          refine g_aload_n (M := mX7_either) (pc := 30) dX7_either_30 rfl (k := ?_)
          refine g_bipush (M := mX7_either) (pc := 31) dX7_either_31 (k := ?_)
          refine g_cV1I (M := mX7_either) (pc := 33) (c_X7_take Γ t _ _ hI16 (by omega)) qX7_take vX7_take sX7_take kX7_38 dX7_either_33 (kk := ?_)
          rintro r33 τ33 ⟨hi33, hI33, hG33⟩
          have hF33 : Fr scP σ τ33 := by refine Fr.tr ?_ hG33; exact hF16
          refine g_istore_2 (M := mX7_either) (pc := 36) dX7_either_36 (k := ?_)
          refine g_iload_n (M := mX7_either) (pc := 37) dX7_either_37 rfl (k := ?_)
          refine g_if_eq (M := mX7_either) (pc := 38) (tgt := 44) (by omega) dX7_either_38 (k1 := fun h38 => ?_) (k2 := fun h38 => ?_)
          · skip
            refine g_iload_n (M := mX7_either) (pc := 44) dX7_either_44 rfl (k := ?_)
            refine g_if_eq (M := mX7_either) (pc := 45) (tgt := 55) (by omega) dX7_either_45 (k1 := fun h45 => ?_) (k2 := fun h45 => ?_)
            · skip
              refine g_aload_n (M := mX7_either) (pc := 55) dX7_either_55 rfl (k := ?_)
              refine g_bipush (M := mX7_either) (pc := 56) dX7_either_56 (k := ?_)
              refine g_cV1I (M := mX7_either) (pc := 58) (c_X7_take Γ t _ _ hI33 (by omega)) qX7_take vX7_take sX7_take kX7_38 dX7_either_58 (kk := ?_)
              rintro r58 τ58 ⟨hi58, hI58, hG58⟩
              have hF58 : Fr scP σ τ58 := by refine Fr.tr ?_ hG58; exact hF33
              refine g_istore_3 (M := mX7_either) (pc := 61) dX7_either_61 (k := ?_)
              refine g_iload_n (M := mX7_either) (pc := 62) dX7_either_62 rfl (k := ?_)
              refine g_if_ne (M := mX7_either) (pc := 63) (tgt := 67) (by omega) dX7_either_63 (k1 := fun h63 => ?_) (k2 := fun h63 => ?_)
              · skip
                refine g_iinc_4 (M := mX7_either) (pc := 67) dX7_either_67 (k := ?_)
                refine g_goto (M := mX7_either) (pc := 70) (tgt := 7) dX7_either_70 (k := ?_)
                refine ih7 _ _ _ _ ?_ ?_
                · omega
                · skip
                  refine ⟨?_, ?_, ?_, ?_, ?_⟩
                  · exact hI58
                  · exact hF58
                  · omega
                  · omega
                  · omega
              · skip
                refine g_vret (M := mX7_either) (pc := 66) rfl dX7_either_66 rfl ⟨_, rfl, rfl, ?_⟩
                refine ⟨?_, ?_⟩
                · exact hI58
                · exact hF58
            · skip
              refine g_aload_n (M := mX7_either) (pc := 48) dX7_either_48 rfl (k := ?_)
              refine g_bipush (M := mX7_either) (pc := 49) dX7_either_49 (k := ?_)
              refine g_iconst (M := mX7_either) (pc := 51) dX7_either_51 (k := ?_)
              refine g_cV2V (M := mX7_either) (pc := 52) (c_X7_note Γ t _ m _ _ hI33 (by omega) (by omega) (by omega) (by omega)) qX7_note vX7_note sX7_note kX7_64 dX7_either_52 (kk := ?_)
              rintro τ52 ⟨hI52, hG52⟩
              have hF52 : Fr scP σ τ52 := by refine Fr.tr ?_ hG52; exact hF33
              refine g_aload_n (M := mX7_either) (pc := 55) dX7_either_55 rfl (k := ?_)
              refine g_bipush (M := mX7_either) (pc := 56) dX7_either_56 (k := ?_)
              refine g_cV1I (M := mX7_either) (pc := 58) (c_X7_take Γ t _ _ hI52 (by omega)) qX7_take vX7_take sX7_take kX7_38 dX7_either_58 (kk := ?_)
              rintro r58 τ58 ⟨hi58, hI58, hG58⟩
              have hF58 : Fr scP σ τ58 := by refine Fr.tr ?_ hG58; exact hF52
              refine g_istore_3 (M := mX7_either) (pc := 61) dX7_either_61 (k := ?_)
              refine g_iload_n (M := mX7_either) (pc := 62) dX7_either_62 rfl (k := ?_)
              refine g_if_ne (M := mX7_either) (pc := 63) (tgt := 67) (by omega) dX7_either_63 (k1 := fun h63 => ?_) (k2 := fun h63 => ?_)
              · skip
                refine g_iinc_4 (M := mX7_either) (pc := 67) dX7_either_67 (k := ?_)
                refine g_goto (M := mX7_either) (pc := 70) (tgt := 7) dX7_either_70 (k := ?_)
                refine ih7 _ _ _ _ ?_ ?_
                · omega
                · skip
                  refine ⟨?_, ?_, ?_, ?_, ?_⟩
                  · exact hI58
                  · exact hF58
                  · omega
                  · omega
                  · omega
              · skip
                refine g_vret (M := mX7_either) (pc := 66) rfl dX7_either_66 rfl ⟨_, rfl, rfl, ?_⟩
                refine ⟨?_, ?_⟩
                · exact hI58
                · exact hF58
          · skip
            refine g_goto (M := mX7_either) (pc := 41) (tgt := 67) dX7_either_41 (k := ?_)
            refine g_iinc_4 (M := mX7_either) (pc := 67) dX7_either_67 (k := ?_)
            refine g_goto (M := mX7_either) (pc := 70) (tgt := 7) dX7_either_70 (k := ?_)
            refine ih7 _ _ _ _ ?_ ?_
            · omega
            · skip
              refine ⟨?_, ?_, ?_, ?_, ?_⟩
              · exact hI33
              · exact hF33
              · omega
              · omega
              · omega
        · skip
          refine g_aload_n (M := mX7_either) (pc := 23) dX7_either_23 rfl (k := ?_)
          refine g_bipush (M := mX7_either) (pc := 24) dX7_either_24 (k := ?_)
          refine g_iconst (M := mX7_either) (pc := 26) dX7_either_26 (k := ?_)
          refine g_cV2V (M := mX7_either) (pc := 27) (c_X7_note Γ t _ m _ _ hI16 (by omega) (by omega) (by omega) (by omega)) qX7_note vX7_note sX7_note kX7_64 dX7_either_27 (kk := ?_)
          rintro τ27 ⟨hI27, hG27⟩
          have hF27 : Fr scP σ τ27 := by refine Fr.tr ?_ hG27; exact hF16
          refine g_aload_n (M := mX7_either) (pc := 30) dX7_either_30 rfl (k := ?_)
          refine g_bipush (M := mX7_either) (pc := 31) dX7_either_31 (k := ?_)
          refine g_cV1I (M := mX7_either) (pc := 33) (c_X7_take Γ t _ _ hI27 (by omega)) qX7_take vX7_take sX7_take kX7_38 dX7_either_33 (kk := ?_)
          rintro r33 τ33 ⟨hi33, hI33, hG33⟩
          have hF33 : Fr scP σ τ33 := by refine Fr.tr ?_ hG33; exact hF27
          refine g_istore_2 (M := mX7_either) (pc := 36) dX7_either_36 (k := ?_)
          refine g_iload_n (M := mX7_either) (pc := 37) dX7_either_37 rfl (k := ?_)
          refine g_if_eq (M := mX7_either) (pc := 38) (tgt := 44) (by omega) dX7_either_38 (k1 := fun h38 => ?_) (k2 := fun h38 => ?_)
          · skip
            refine g_iload_n (M := mX7_either) (pc := 44) dX7_either_44 rfl (k := ?_)
            refine g_if_eq (M := mX7_either) (pc := 45) (tgt := 55) (by omega) dX7_either_45 (k1 := fun h45 => ?_) (k2 := fun h45 => ?_)
            · skip
              refine g_aload_n (M := mX7_either) (pc := 55) dX7_either_55 rfl (k := ?_)
              refine g_bipush (M := mX7_either) (pc := 56) dX7_either_56 (k := ?_)
              refine g_cV1I (M := mX7_either) (pc := 58) (c_X7_take Γ t _ _ hI33 (by omega)) qX7_take vX7_take sX7_take kX7_38 dX7_either_58 (kk := ?_)
              rintro r58 τ58 ⟨hi58, hI58, hG58⟩
              have hF58 : Fr scP σ τ58 := by refine Fr.tr ?_ hG58; exact hF33
              refine g_istore_3 (M := mX7_either) (pc := 61) dX7_either_61 (k := ?_)
              refine g_iload_n (M := mX7_either) (pc := 62) dX7_either_62 rfl (k := ?_)
              refine g_if_ne (M := mX7_either) (pc := 63) (tgt := 67) (by omega) dX7_either_63 (k1 := fun h63 => ?_) (k2 := fun h63 => ?_)
              · skip
                refine g_iinc_4 (M := mX7_either) (pc := 67) dX7_either_67 (k := ?_)
                refine g_goto (M := mX7_either) (pc := 70) (tgt := 7) dX7_either_70 (k := ?_)
                refine ih7 _ _ _ _ ?_ ?_
                · omega
                · skip
                  refine ⟨?_, ?_, ?_, ?_, ?_⟩
                  · exact hI58
                  · exact hF58
                  · omega
                  · omega
                  · omega
              · skip
                refine g_vret (M := mX7_either) (pc := 66) rfl dX7_either_66 rfl ⟨_, rfl, rfl, ?_⟩
                refine ⟨?_, ?_⟩
                · exact hI58
                · exact hF58
            · skip
              refine g_aload_n (M := mX7_either) (pc := 48) dX7_either_48 rfl (k := ?_)
              refine g_bipush (M := mX7_either) (pc := 49) dX7_either_49 (k := ?_)
              refine g_iconst (M := mX7_either) (pc := 51) dX7_either_51 (k := ?_)
              refine g_cV2V (M := mX7_either) (pc := 52) (c_X7_note Γ t _ m _ _ hI33 (by omega) (by omega) (by omega) (by omega)) qX7_note vX7_note sX7_note kX7_64 dX7_either_52 (kk := ?_)
              rintro τ52 ⟨hI52, hG52⟩
              have hF52 : Fr scP σ τ52 := by refine Fr.tr ?_ hG52; exact hF33
              refine g_aload_n (M := mX7_either) (pc := 55) dX7_either_55 rfl (k := ?_)
              refine g_bipush (M := mX7_either) (pc := 56) dX7_either_56 (k := ?_)
              refine g_cV1I (M := mX7_either) (pc := 58) (c_X7_take Γ t _ _ hI52 (by omega)) qX7_take vX7_take sX7_take kX7_38 dX7_either_58 (kk := ?_)
              rintro r58 τ58 ⟨hi58, hI58, hG58⟩
              have hF58 : Fr scP σ τ58 := by refine Fr.tr ?_ hG58; exact hF52
              refine g_istore_3 (M := mX7_either) (pc := 61) dX7_either_61 (k := ?_)
              refine g_iload_n (M := mX7_either) (pc := 62) dX7_either_62 rfl (k := ?_)
              refine g_if_ne (M := mX7_either) (pc := 63) (tgt := 67) (by omega) dX7_either_63 (k1 := fun h63 => ?_) (k2 := fun h63 => ?_)
              · skip
                refine g_iinc_4 (M := mX7_either) (pc := 67) dX7_either_67 (k := ?_)
                refine g_goto (M := mX7_either) (pc := 70) (tgt := 7) dX7_either_70 (k := ?_)
                refine ih7 _ _ _ _ ?_ ?_
                · omega
                · skip
                  refine ⟨?_, ?_, ?_, ?_, ?_⟩
                  · exact hI58
                  · exact hF58
                  · omega
                  · omega
                  · omega
              · skip
                refine g_vret (M := mX7_either) (pc := 66) rfl dX7_either_66 rfl ⟨_, rfl, rfl, ?_⟩
                refine ⟨?_, ?_⟩
                · exact hI58
                · exact hF58
          · skip
            refine g_goto (M := mX7_either) (pc := 41) (tgt := 67) dX7_either_41 (k := ?_)
            refine g_iinc_4 (M := mX7_either) (pc := 67) dX7_either_67 (k := ?_)
            refine g_goto (M := mX7_either) (pc := 70) (tgt := 7) dX7_either_70 (k := ?_)
            refine ih7 _ _ _ _ ?_ ?_
            · omega
            · skip
              refine ⟨?_, ?_, ?_, ?_, ?_⟩
              · exact hI33
              · exact hF33
              · omega
              · omega
              · omega
  refine loop7 _ _ _ _ _ (Nat.lt_succ_self _) ?_
  refine ⟨?_, ?_, ?_, ?_, ?_⟩
  · exact hI
  · exact (Fr.rf)
  · omega
  · omega
  · omega
set_option maxHeartbeats 4000000 in
set_option maxRecDepth 20000 in
theorem c_X7_clause (Γ : KT) (t : Nat) (σ : Nat → Int → Int) (m : Int)  (hI : InvX σ) (hm : 0 ≤ m ∧ m < 6) (ht : t = 54 + Int.toNat m) : Ct Γ mX7_clause 19 (0, 0) [vR Γ 19] (113, ρT t, σ) (pV 113 (ρT t) (fun σ' => (InvX σ') ∧ (Fr scP σ σ'))) := by
  refine Ct.of rfl (Nat.le_of_ble_eq_true rfl) ?_
  show G Γ mX7_clause 19 (0, 0) _ (0, 0) 0 [some (vR Γ 19), none, none] [] (113, ρT t, σ)
  refine g_aload_n (M := mX7_clause) (pc := 0) dX7_clause_0 rfl (k := ?_)
  refine g_bipush (M := mX7_clause) (pc := 1) dX7_clause_1 (k := ?_)
  refine g_cV1I (M := mX7_clause) (pc := 3) (c_X7_take Γ t _ _ hI (by omega)) qX7_take vX7_take sX7_take kX7_38 dX7_clause_3 (kk := ?_)
  rintro r3 τ3 ⟨hi3, hI3, hG3⟩
  have hF3 : Fr scP σ τ3 := by refine Fr.tr ?_ hG3; exact (Fr.rf)
  refine g_if_eq (M := mX7_clause) (pc := 6) (tgt := 14) (by omega) dX7_clause_6 (k1 := fun h6 => ?_) (k2 := fun h6 => ?_)
  · skip
    refine g_aload_n (M := mX7_clause) (pc := 14) dX7_clause_14 rfl (k := ?_)
    refine g_bipush (M := mX7_clause) (pc := 15) dX7_clause_15 (k := ?_)
    refine g_cV1I (M := mX7_clause) (pc := 17) (c_X7_take Γ t _ _ hI3 (by omega)) qX7_take vX7_take sX7_take kX7_38 dX7_clause_17 (kk := ?_)
    rintro r17 τ17 ⟨hi17, hI17, hG17⟩
    have hF17 : Fr scP σ τ17 := by refine Fr.tr ?_ hG17; exact hF3
    refine g_if_eq (M := mX7_clause) (pc := 20) (tgt := 28) (by omega) dX7_clause_20 (k1 := fun h20 => ?_) (k2 := fun h20 => ?_)
    · skip
      refine g_iconst (M := mX7_clause) (pc := 28) dX7_clause_28 (k := ?_)
      refine g_istore_1 (M := mX7_clause) (pc := 29) dX7_clause_29 (k := ?_)
      refine g_aload_n (M := mX7_clause) (pc := 30) dX7_clause_30 rfl (k := ?_)
      refine g_iload_n (M := mX7_clause) (pc := 31) dX7_clause_31 rfl (k := ?_)
      refine g_bipush (M := mX7_clause) (pc := 32) dX7_clause_32 (k := ?_)
      refine g_icmp_ne (M := mX7_clause) (pc := 34) (tgt := 42) (by omega) (by omega) dX7_clause_34 (k1 := fun h34 => ?_) (k2 := fun h34 => ?_)
      · skip
        refine g_iload_n (M := mX7_clause) (pc := 42) dX7_clause_42 rfl (k := ?_)
        refine g_bipush (M := mX7_clause) (pc := 43) dX7_clause_43 (k := ?_)
        refine g_icmp_ne (M := mX7_clause) (pc := 45) (tgt := 53) (by omega) (by omega) dX7_clause_45 (k1 := fun h45 => ?_) (k2 := fun h45 => ?_)
        · skip
          refine g_ldcS (M := mX7_clause) (pc := 53) (i := 2) rfl rfl dX7_clause_53 (k := ?_)
          refine g_cV1V (M := mX7_clause) (pc := 55) (c_X7_word Γ t _ _ (by decide) hI17) qX7_word vX7_word sX7_word kX7_50 dX7_clause_55 (kk := ?_)
          rintro τ55 ⟨hI55, hG55⟩
          have hF55 : Fr scP σ τ55 := by refine Fr.tr ?_ hG55; exact hF17
          refine g_aload_n (M := mX7_clause) (pc := 58) dX7_clause_58 rfl (k := ?_)
          refine g_cV0I (M := mX7_clause) (pc := 59) (c_X7_number Γ t _ hI55) qX7_number vX7_number sX7_number kX7_54 dX7_clause_59 (kk := ?_)
          rintro r59 τ59 ⟨hi59, hI59, hG59⟩
          have hF59 : Fr scP σ τ59 := by refine Fr.tr ?_ hG59; exact hF55
          refine g_istore_2 (M := mX7_clause) (pc := 62) dX7_clause_62 (k := ?_)
          refine g_iload_n (M := mX7_clause) (pc := 63) dX7_clause_63 rfl (k := ?_)
          refine g_iconst (M := mX7_clause) (pc := 64) dX7_clause_64 (k := ?_)
          refine g_icmp_ne (M := mX7_clause) (pc := 65) (tgt := 74) (by omega) (by omega) dX7_clause_65 (k1 := fun h65 => ?_) (k2 := fun h65 => ?_)
          · omega
          · skip
            refine g_aload_n (M := mX7_clause) (pc := 68) dX7_clause_68 rfl (k := ?_)
            refine g_iload_n (M := mX7_clause) (pc := 69) dX7_clause_69 rfl (k := ?_)
            refine g_put (M := mX7_clause) (pc := 70) (ji := 6) (by rfl) fX7_6 kX7_32 dX7_clause_70 (by omega) (kk := ?_)
            refine g_vret (M := mX7_clause) (pc := 73) rfl dX7_clause_73 rfl ⟨_, rfl, rfl, ?_⟩
            refine ⟨?_, ?_⟩
            · refine ivu19_6 ?_ (by omega) (by omega); exact hI59
            · refine Fr.up ?_ (by first | rfl | (unfold scP; simp; try omega)); exact hF59
        · omega
      · omega
    · skip
      refine g_bipush (M := mX7_clause) (pc := 23) dX7_clause_23 (k := ?_)
      refine g_goto (M := mX7_clause) (pc := 25) (tgt := 29) dX7_clause_25 (k := ?_)
      refine g_istore_1 (M := mX7_clause) (pc := 29) dX7_clause_29 (k := ?_)
      refine g_aload_n (M := mX7_clause) (pc := 30) dX7_clause_30 rfl (k := ?_)
      refine g_iload_n (M := mX7_clause) (pc := 31) dX7_clause_31 rfl (k := ?_)
      refine g_bipush (M := mX7_clause) (pc := 32) dX7_clause_32 (k := ?_)
      refine g_icmp_ne (M := mX7_clause) (pc := 34) (tgt := 42) (by omega) (by omega) dX7_clause_34 (k1 := fun h34 => ?_) (k2 := fun h34 => ?_)
      · skip
        refine g_iload_n (M := mX7_clause) (pc := 42) dX7_clause_42 rfl (k := ?_)
        refine g_bipush (M := mX7_clause) (pc := 43) dX7_clause_43 (k := ?_)
        refine g_icmp_ne (M := mX7_clause) (pc := 45) (tgt := 53) (by omega) (by omega) dX7_clause_45 (k1 := fun h45 => ?_) (k2 := fun h45 => ?_)
        · omega
        · skip
          refine g_ldcS (M := mX7_clause) (pc := 48) (i := 1) rfl rfl dX7_clause_48 (k := ?_)
          refine g_goto (M := mX7_clause) (pc := 50) (tgt := 55) dX7_clause_50 (k := ?_)
          refine g_cV1V (M := mX7_clause) (pc := 55) (c_X7_word Γ t _ _ (by decide) hI17) qX7_word vX7_word sX7_word kX7_50 dX7_clause_55 (kk := ?_)
          rintro τ55 ⟨hI55, hG55⟩
          have hF55 : Fr scP σ τ55 := by refine Fr.tr ?_ hG55; exact hF17
          refine g_aload_n (M := mX7_clause) (pc := 58) dX7_clause_58 rfl (k := ?_)
          refine g_cV0I (M := mX7_clause) (pc := 59) (c_X7_number Γ t _ hI55) qX7_number vX7_number sX7_number kX7_54 dX7_clause_59 (kk := ?_)
          rintro r59 τ59 ⟨hi59, hI59, hG59⟩
          have hF59 : Fr scP σ τ59 := by refine Fr.tr ?_ hG59; exact hF55
          refine g_istore_2 (M := mX7_clause) (pc := 62) dX7_clause_62 (k := ?_)
          refine g_iload_n (M := mX7_clause) (pc := 63) dX7_clause_63 rfl (k := ?_)
          refine g_iconst (M := mX7_clause) (pc := 64) dX7_clause_64 (k := ?_)
          refine g_icmp_ne (M := mX7_clause) (pc := 65) (tgt := 74) (by omega) (by omega) dX7_clause_65 (k1 := fun h65 => ?_) (k2 := fun h65 => ?_)
          · skip
            refine g_aload_n (M := mX7_clause) (pc := 74) dX7_clause_74 rfl (k := ?_)
            refine g_ldcS (M := mX7_clause) (pc := 75) (i := 4) rfl rfl dX7_clause_75 (k := ?_)
            refine g_cV1V (M := mX7_clause) (pc := 77) (c_X7_word Γ t _ _ (by decide) hI59) qX7_word vX7_word sX7_word kX7_50 dX7_clause_77 (kk := ?_)
            rintro τ77 ⟨hI77, hG77⟩
            have hF77 : Fr scP σ τ77 := by refine Fr.tr ?_ hG77; exact hF59
            refine g_aload_n (M := mX7_clause) (pc := 80) dX7_clause_80 rfl (k := ?_)
            refine g_iconst (M := mX7_clause) (pc := 81) dX7_clause_81 (k := ?_)
            refine g_cV1V (M := mX7_clause) (pc := 82) (c_X7_either_0 Γ t _ m hI77 (by omega) (by omega)) qX7_either vX7_either sX7_either kX7_60 dX7_clause_82 (kk := ?_)
            rintro τ82 ⟨hI82, hG82⟩
            have hF82 : Fr scP σ τ82 := by refine Fr.tr ?_ hG82; exact hF77
            refine g_aload_n (M := mX7_clause) (pc := 85) dX7_clause_85 rfl (k := ?_)
            refine g_iload_n (M := mX7_clause) (pc := 86) dX7_clause_86 rfl (k := ?_)
            refine g_iload_n (M := mX7_clause) (pc := 87) dX7_clause_87 rfl (k := ?_)
            refine g_cV2V (M := mX7_clause) (pc := 88) (c_X7_note Γ t _ m _ _ hI82 (by omega) (by omega) (by omega) (by omega)) qX7_note vX7_note sX7_note kX7_64 dX7_clause_88 (kk := ?_)
            rintro τ88 ⟨hI88, hG88⟩
            have hF88 : Fr scP σ τ88 := by refine Fr.tr ?_ hG88; exact hF82
            refine g_vret (M := mX7_clause) (pc := 91) rfl dX7_clause_91 rfl ⟨_, rfl, rfl, ?_⟩
            refine ⟨?_, ?_⟩
            · exact hI88
            · exact hF88
          · omega
      · omega
  · skip
    refine g_bipush (M := mX7_clause) (pc := 9) dX7_clause_9 (k := ?_)
    refine g_goto (M := mX7_clause) (pc := 11) (tgt := 29) dX7_clause_11 (k := ?_)
    refine g_istore_1 (M := mX7_clause) (pc := 29) dX7_clause_29 (k := ?_)
    refine g_aload_n (M := mX7_clause) (pc := 30) dX7_clause_30 rfl (k := ?_)
    refine g_iload_n (M := mX7_clause) (pc := 31) dX7_clause_31 rfl (k := ?_)
    refine g_bipush (M := mX7_clause) (pc := 32) dX7_clause_32 (k := ?_)
    refine g_icmp_ne (M := mX7_clause) (pc := 34) (tgt := 42) (by omega) (by omega) dX7_clause_34 (k1 := fun h34 => ?_) (k2 := fun h34 => ?_)
    · omega
    · skip
      refine g_ldcS (M := mX7_clause) (pc := 37) (i := 0) rfl rfl dX7_clause_37 (k := ?_)
      refine g_goto (M := mX7_clause) (pc := 39) (tgt := 55) dX7_clause_39 (k := ?_)
      refine g_cV1V (M := mX7_clause) (pc := 55) (c_X7_word Γ t _ _ (by decide) hI3) qX7_word vX7_word sX7_word kX7_50 dX7_clause_55 (kk := ?_)
      rintro τ55 ⟨hI55, hG55⟩
      have hF55 : Fr scP σ τ55 := by refine Fr.tr ?_ hG55; exact hF3
      refine g_aload_n (M := mX7_clause) (pc := 58) dX7_clause_58 rfl (k := ?_)
      refine g_cV0I (M := mX7_clause) (pc := 59) (c_X7_number Γ t _ hI55) qX7_number vX7_number sX7_number kX7_54 dX7_clause_59 (kk := ?_)
      rintro r59 τ59 ⟨hi59, hI59, hG59⟩
      have hF59 : Fr scP σ τ59 := by refine Fr.tr ?_ hG59; exact hF55
      refine g_istore_2 (M := mX7_clause) (pc := 62) dX7_clause_62 (k := ?_)
      refine g_iload_n (M := mX7_clause) (pc := 63) dX7_clause_63 rfl (k := ?_)
      refine g_iconst (M := mX7_clause) (pc := 64) dX7_clause_64 (k := ?_)
      refine g_icmp_ne (M := mX7_clause) (pc := 65) (tgt := 74) (by omega) (by omega) dX7_clause_65 (k1 := fun h65 => ?_) (k2 := fun h65 => ?_)
      · skip
        refine g_aload_n (M := mX7_clause) (pc := 74) dX7_clause_74 rfl (k := ?_)
        refine g_ldcS (M := mX7_clause) (pc := 75) (i := 4) rfl rfl dX7_clause_75 (k := ?_)
        refine g_cV1V (M := mX7_clause) (pc := 77) (c_X7_word Γ t _ _ (by decide) hI59) qX7_word vX7_word sX7_word kX7_50 dX7_clause_77 (kk := ?_)
        rintro τ77 ⟨hI77, hG77⟩
        have hF77 : Fr scP σ τ77 := by refine Fr.tr ?_ hG77; exact hF59
        refine g_aload_n (M := mX7_clause) (pc := 80) dX7_clause_80 rfl (k := ?_)
        refine g_iconst (M := mX7_clause) (pc := 81) dX7_clause_81 (k := ?_)
        refine g_cV1V (M := mX7_clause) (pc := 82) (c_X7_either_0 Γ t _ m hI77 (by omega) (by omega)) qX7_either vX7_either sX7_either kX7_60 dX7_clause_82 (kk := ?_)
        rintro τ82 ⟨hI82, hG82⟩
        have hF82 : Fr scP σ τ82 := by refine Fr.tr ?_ hG82; exact hF77
        refine g_aload_n (M := mX7_clause) (pc := 85) dX7_clause_85 rfl (k := ?_)
        refine g_iload_n (M := mX7_clause) (pc := 86) dX7_clause_86 rfl (k := ?_)
        refine g_iload_n (M := mX7_clause) (pc := 87) dX7_clause_87 rfl (k := ?_)
        refine g_cV2V (M := mX7_clause) (pc := 88) (c_X7_note Γ t _ m _ _ hI82 (by omega) (by omega) (by omega) (by omega)) qX7_note vX7_note sX7_note kX7_64 dX7_clause_88 (kk := ?_)
        rintro τ88 ⟨hI88, hG88⟩
        have hF88 : Fr scP σ τ88 := by refine Fr.tr ?_ hG88; exact hF82
        refine g_vret (M := mX7_clause) (pc := 91) rfl dX7_clause_91 rfl ⟨_, rfl, rfl, ?_⟩
        refine ⟨?_, ?_⟩
        · exact hI88
        · exact hF88
      · omega
set_option maxHeartbeats 4000000 in
set_option maxRecDepth 20000 in
theorem c_X7_compile (Γ : KT) (t : Nat) (σ : Nat → Int → Int) (m : Int)  (hI : InvX σ) (hm : 0 ≤ m ∧ m < 6) : Ct Γ mX7_compile 20 (0, 0) [vR Γ 19, vR Γ (53 + Int.toNat m)] (113, ρT t, σ) (pVT (fun t' σ' => (InvX σ') ∧ (Fr scP σ σ'))) := by
  refine Ct.of rfl (Nat.le_of_ble_eq_true rfl) ?_
  show G Γ mX7_compile 20 (0, 0) _ (0, 0) 0 [some (vR Γ 19), some (vR Γ (53 + Int.toNat m)), none] [] (113, ρT t, σ)
  refine g_aload_n (M := mX7_compile) (pc := 0) dX7_compile_0 rfl (k := ?_)
  refine g_iconst (M := mX7_compile) (pc := 1) dX7_compile_1 (k := ?_)
  refine g_put (M := mX7_compile) (pc := 2) (ji := 2) (by rfl) fX7_2 kX7_22 dX7_compile_2 (by omega) (kk := ?_)
  refine g_aload_n (M := mX7_compile) (pc := 5) dX7_compile_5 rfl (k := ?_)
  refine g_iconst (M := mX7_compile) (pc := 6) dX7_compile_6 (k := ?_)
  refine g_put (M := mX7_compile) (pc := 7) (ji := 3) (by rfl) fX7_3 kX7_15 dX7_compile_7 (by omega) (kk := ?_)
  refine g_aload_n (M := mX7_compile) (pc := 10) dX7_compile_10 rfl (k := ?_)
  refine g_aload_n (M := mX7_compile) (pc := 11) dX7_compile_11 rfl (k := ?_)
  refine g_putr (M := mX7_compile) (pc := 12) (by rfl) fX7_4 kX7_25 dX7_compile_12 (by first | exact Or.inl ⟨_, rfl⟩ | exact Or.inr ⟨_, rfl⟩) (Or.inl rfl) (kk := ?_)
  rw [ρT_upr]
  refine g_aload_n (M := mX7_compile) (pc := 15) dX7_compile_15 rfl (k := ?_)
  refine g_iconst (M := mX7_compile) (pc := 16) dX7_compile_16 (k := ?_)
  refine g_put (M := mX7_compile) (pc := 17) (ji := 5) (by rfl) fX7_5 kX7_29 dX7_compile_17 (by omega) (kk := ?_)
  refine g_aload_n (M := mX7_compile) (pc := 20) dX7_compile_20 rfl (k := ?_)
  refine g_bipush (M := mX7_compile) (pc := 21) dX7_compile_21 (k := ?_)
  refine g_put (M := mX7_compile) (pc := 23) (ji := 6) (by rfl) fX7_6 kX7_32 dX7_compile_23 (by omega) (kk := ?_)
  refine g_aload_n (M := mX7_compile) (pc := 26) dX7_compile_26 rfl (k := ?_)
  refine g_cV0V (M := mX7_compile) (pc := 27) (c_X7_clause Γ (53 + Int.toNat m + 1) _ m (by refine ivu19_6 ?_ (by omega) (by omega); refine ivu19_5 ?_ (by omega) (by omega); refine iv_free ?_ (by rfl); refine ivu19_2 ?_ (by omega) (by omega); exact hI) (by first | omega | (simp only [up_same, up_cell, up_slot, ne_eq, not_false_eq_true, Nat.reduceEqDiff, Int.reduceEq, reduceCtorEq, Nat.reduceAdd, Int.reduceAdd, Int.reduceSub]; done) | (simp only [up_same, up_cell, up_slot, ne_eq, not_false_eq_true, Nat.reduceEqDiff, Int.reduceEq, reduceCtorEq, Nat.reduceAdd, Int.reduceAdd, Int.reduceSub]; omega)) (by first | omega | (simp only [up_same, up_cell, up_slot, ne_eq, not_false_eq_true, Nat.reduceEqDiff, Int.reduceEq, reduceCtorEq, Nat.reduceAdd, Int.reduceAdd, Int.reduceSub]; done) | (simp only [up_same, up_cell, up_slot, ne_eq, not_false_eq_true, Nat.reduceEqDiff, Int.reduceEq, reduceCtorEq, Nat.reduceAdd, Int.reduceAdd, Int.reduceSub]; omega))) qX7_clause vX7_clause sX7_clause kX7_35 dX7_compile_27 (kk := ?_)
  rintro τ27 ⟨hI27, hG27⟩
  have hF27 : Fr scP σ τ27 := by refine Fr.tr ?_ hG27; refine Fr.up ?_ (by first | rfl | (unfold scP; simp; try omega)); refine Fr.up ?_ (by first | rfl | (unfold scP; simp; try omega)); refine Fr.up ?_ (by first | rfl | (unfold scP; simp; try omega)); refine Fr.up ?_ (by first | rfl | (unfold scP; simp; try omega)); exact (Fr.rf)
  refine g_iconst (M := mX7_compile) (pc := 30) dX7_compile_30 (k := ?_)
  refine g_istore_2 (M := mX7_compile) (pc := 31) dX7_compile_31 (k := ?_)
  have loop32 : ∀ (N : Nat) (τ32 : Nat → Int → Int) (q : Int), ((11 - q).toNat) < N → ((InvX τ32) ∧ (Fr scP σ τ32) ∧ (0 ≤ q ∧ q ≤ 10)) → G Γ mX7_compile 20 (0, 0) (pVT (fun t' σ' => (InvX σ') ∧ (Fr scP σ σ'))) (0, 0) 32 [some (vR Γ 19), some (vR Γ (53 + Int.toNat m)), some (vI q)] [] (113, ρT (53 + Int.toNat m + 1), τ32) := by
    intro N
    induction N with
    | zero => intro τ32 q hmu32 hinv32; exact absurd hmu32 (Nat.not_lt_zero _)
    | succ N ih32 =>
      intro τ32 q hmu32 hinv32
      obtain ⟨hI32, hF32, hb32_q⟩ := hinv32
      refine g_iload_n (M := mX7_compile) (pc := 32) dX7_compile_32 rfl (k := ?_)
      refine g_bipush (M := mX7_compile) (pc := 33) dX7_compile_33 (k := ?_)
      refine g_icmp_ge (M := mX7_compile) (pc := 35) (tgt := 57) (by omega) (by omega) dX7_compile_35 (k1 := fun h35 => ?_) (k2 := fun h35 => ?_)
      · skip
        refine g_aload_n (M := mX7_compile) (pc := 57) dX7_compile_57 rfl (k := ?_)
        refine g_get (M := mX7_compile) (pc := 58) (ji := 3) (by rfl) fX7_3 kX7_15 dX7_compile_58 (kk := fun hr58 => ?_)
        refine g_iconst (M := mX7_compile) (pc := 61) dX7_compile_61 (k := ?_)
        refine g_icmp_ne (M := mX7_compile) (pc := 62) (tgt := 84) (by omega) (by omega) dX7_compile_62 (k1 := fun h62 => ?_) (k2 := fun h62 => ?_)
        · skip
          refine g_vret (M := mX7_compile) (pc := 84) rfl dX7_compile_84 rfl ⟨_, _, rfl, rfl, ?_⟩
          refine ⟨?_, ?_⟩
          · exact hI32
          · exact hF32
        · skip
          refine g_aload_n (M := mX7_compile) (pc := 65) dX7_compile_65 rfl (k := ?_)
          refine g_get (M := mX7_compile) (pc := 66) (ji := 2) (by rfl) fX7_2 kX7_22 dX7_compile_66 (kk := fun hr66 => ?_)
          have hb66 := iv19_2 hI32 2 (by omega) (by omega)
          refine g_aload_n (M := mX7_compile) (pc := 69) dX7_compile_69 rfl (k := ?_)
          refine g_get (M := mX7_compile) (pc := 70) (ji := 1) (by rfl) fX7_1 kX7_19 dX7_compile_70 (kk := fun hr70 => ?_)
          have hb70 := iv19_1 hI32 1 (by omega) (by omega)
          refine g_icmp_ge (M := mX7_compile) (pc := 73) (tgt := 84) (by omega) (by omega) dX7_compile_73 (k1 := fun h73 => ?_) (k2 := fun h73 => ?_)
          · skip
            refine g_vret (M := mX7_compile) (pc := 84) rfl dX7_compile_84 rfl ⟨_, _, rfl, rfl, ?_⟩
            refine ⟨?_, ?_⟩
            · exact hI32
            · exact hF32
          · skip
            refine g_aload_n (M := mX7_compile) (pc := 76) dX7_compile_76 rfl (k := ?_)
            refine g_aload_n (M := mX7_compile) (pc := 77) dX7_compile_77 rfl (k := ?_)
            refine g_get (M := mX7_compile) (pc := 78) (ji := 2) (by rfl) fX7_2 kX7_22 dX7_compile_78 (kk := fun hr78 => ?_)
            refine g_put (M := mX7_compile) (pc := 81) (ji := 3) (by rfl) fX7_3 kX7_15 dX7_compile_81 (by omega) (kk := ?_)
            refine g_vret (M := mX7_compile) (pc := 84) rfl dX7_compile_84 rfl ⟨_, _, rfl, rfl, ?_⟩
            refine ⟨?_, ?_⟩
            · refine iv_free ?_ (by rfl); exact hI32
            · refine Fr.up ?_ (by first | rfl | (unfold scP; simp; try omega)); exact hF32
      · skip
        refine g_aload_n (M := mX7_compile) (pc := 38) dX7_compile_38 rfl (k := ?_)
        refine g_bipush (M := mX7_compile) (pc := 39) dX7_compile_39 (k := ?_)
        refine g_cV1I (M := mX7_compile) (pc := 41) (c_X7_take Γ (53 + Int.toNat m + 1) _ _ hI32 (by omega)) qX7_take vX7_take sX7_take kX7_38 dX7_compile_41 (kk := ?_)
        rintro r41 τ41 ⟨hi41, hI41, hG41⟩
        have hF41 : Fr scP σ τ41 := by refine Fr.tr ?_ hG41; exact hF32
        refine g_if_eq (M := mX7_compile) (pc := 44) (tgt := 57) (by omega) dX7_compile_44 (k1 := fun h44 => ?_) (k2 := fun h44 => ?_)
        · skip
          refine g_aload_n (M := mX7_compile) (pc := 57) dX7_compile_57 rfl (k := ?_)
          refine g_get (M := mX7_compile) (pc := 58) (ji := 3) (by rfl) fX7_3 kX7_15 dX7_compile_58 (kk := fun hr58 => ?_)
          refine g_iconst (M := mX7_compile) (pc := 61) dX7_compile_61 (k := ?_)
          refine g_icmp_ne (M := mX7_compile) (pc := 62) (tgt := 84) (by omega) (by omega) dX7_compile_62 (k1 := fun h62 => ?_) (k2 := fun h62 => ?_)
          · skip
            refine g_vret (M := mX7_compile) (pc := 84) rfl dX7_compile_84 rfl ⟨_, _, rfl, rfl, ?_⟩
            refine ⟨?_, ?_⟩
            · exact hI41
            · exact hF41
          · skip
            refine g_aload_n (M := mX7_compile) (pc := 65) dX7_compile_65 rfl (k := ?_)
            refine g_get (M := mX7_compile) (pc := 66) (ji := 2) (by rfl) fX7_2 kX7_22 dX7_compile_66 (kk := fun hr66 => ?_)
            have hb66 := iv19_2 hI41 2 (by omega) (by omega)
            refine g_aload_n (M := mX7_compile) (pc := 69) dX7_compile_69 rfl (k := ?_)
            refine g_get (M := mX7_compile) (pc := 70) (ji := 1) (by rfl) fX7_1 kX7_19 dX7_compile_70 (kk := fun hr70 => ?_)
            have hb70 := iv19_1 hI41 1 (by omega) (by omega)
            refine g_icmp_ge (M := mX7_compile) (pc := 73) (tgt := 84) (by omega) (by omega) dX7_compile_73 (k1 := fun h73 => ?_) (k2 := fun h73 => ?_)
            · skip
              refine g_vret (M := mX7_compile) (pc := 84) rfl dX7_compile_84 rfl ⟨_, _, rfl, rfl, ?_⟩
              refine ⟨?_, ?_⟩
              · exact hI41
              · exact hF41
            · skip
              refine g_aload_n (M := mX7_compile) (pc := 76) dX7_compile_76 rfl (k := ?_)
              refine g_aload_n (M := mX7_compile) (pc := 77) dX7_compile_77 rfl (k := ?_)
              refine g_get (M := mX7_compile) (pc := 78) (ji := 2) (by rfl) fX7_2 kX7_22 dX7_compile_78 (kk := fun hr78 => ?_)
              refine g_put (M := mX7_compile) (pc := 81) (ji := 3) (by rfl) fX7_3 kX7_15 dX7_compile_81 (by omega) (kk := ?_)
              refine g_vret (M := mX7_compile) (pc := 84) rfl dX7_compile_84 rfl ⟨_, _, rfl, rfl, ?_⟩
              refine ⟨?_, ?_⟩
              · refine iv_free ?_ (by rfl); exact hI41
              · refine Fr.up ?_ (by first | rfl | (unfold scP; simp; try omega)); exact hF41
        · skip
          refine g_aload_n (M := mX7_compile) (pc := 47) dX7_compile_47 rfl (k := ?_)
          refine g_cV0V (M := mX7_compile) (pc := 48) (c_X7_clause Γ (53 + Int.toNat m + 1) _ m hI41 (by omega) (by omega)) qX7_clause vX7_clause sX7_clause kX7_35 dX7_compile_48 (kk := ?_)
          rintro τ48 ⟨hI48, hG48⟩
          have hF48 : Fr scP σ τ48 := by refine Fr.tr ?_ hG48; exact hF41
          refine g_iinc_2 (M := mX7_compile) (pc := 51) dX7_compile_51 (k := ?_)
          refine g_goto (M := mX7_compile) (pc := 54) (tgt := 32) dX7_compile_54 (k := ?_)
          refine ih32 _ _ ?_ ?_
          · omega
          · skip
            refine ⟨?_, ?_, ?_⟩
            · exact hI48
            · exact hF48
            · omega
  refine loop32 _ _ _ (Nat.lt_succ_self _) ?_
  refine ⟨?_, ?_, ?_⟩
  · exact hI27
  · exact hF27
  · omega
