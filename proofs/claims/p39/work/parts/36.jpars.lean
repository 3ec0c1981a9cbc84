set_option maxHeartbeats 4000000 in
set_option maxRecDepth 20000 in
theorem c_X11_takes (Γ : KT) (t : Nat) (σ : Nat → Int → Int) (s : Int) (hI : InvJ σ) (hs : 0 ≤ s ∧ s < 256) : Ct Γ mX11_takes 2 (0, 0) [vR Γ 69, vI s] (113, ρT t, σ) (pI 113 (ρT t) (fun r σ' => ((r = 1 ∧ σ' 69 13 = σ 69 13 + 1 ∧ σ 69 13 < σ 69 12) ∨ (r = 0 ∧ σ' 69 13 = σ 69 13)) ∧ (InvJ σ') ∧ (Fr jcA σ σ'))) := by
  refine Ct.of rfl (Nat.le_of_ble_eq_true rfl) ?_
  show G Γ mX11_takes 2 (0, 0) _ (0, 0) 0 [some (vR Γ 69), some (vI s)] [] (113, ρT t, σ)
  refine g_aload_n (M := mX11_takes) (pc := 0) dX11_takes_0 rfl (k := ?_)
  refine g_cV0I (M := mX11_takes) (pc := 1) (c_X11_peek Γ t _ hI) qX11_peek vX11_peek sX11_peek kX11_239 dX11_takes_1 (kk := ?_)
  rintro r1 _ ⟨hd1, hi1, e⟩; rw [e]; clear e
  have hb1_69 := jv69_12 hI 12 (by omega) (by omega)
  have hb1_69 := jv69_13 hI 13 (by omega) (by omega)
  refine g_iload_n (M := mX11_takes) (pc := 4) dX11_takes_4 rfl (k := ?_)
  refine g_icmp_eq (M := mX11_takes) (pc := 5) (tgt := 10) (by omega) (by omega) dX11_takes_5 (k1 := fun h5 => ?_) (k2 := fun h5 => ?_)
  · skip
    refine g_aload_n (M := mX11_takes) (pc := 10) dX11_takes_10 rfl (k := ?_)
    refine g_dupR (M := mX11_takes) (pc := 11) dX11_takes_11 (k := ?_)
    refine g_get (M := mX11_takes) (pc := 12) (ji := 13) (by rfl) fX11_13 kX11_50 dX11_takes_12 (kk := fun hr12 => ?_)
    refine g_iconst (M := mX11_takes) (pc := 15) dX11_takes_15 (k := ?_)
    refine g_iadd (M := mX11_takes) (pc := 16) dX11_takes_16 (k := ?_)
    refine g_put (M := mX11_takes) (pc := 17) (ji := 13) (by rfl) fX11_13 kX11_50 dX11_takes_17 (by omega) (kk := ?_)
    refine g_iconst (M := mX11_takes) (pc := 20) dX11_takes_20 (k := ?_)
    refine g_zret (M := mX11_takes) (pc := 21) (by first | omega | (unfold b2; split <;> omega)) rfl dX11_takes_21 rfl ⟨_, _, rfl, rfl, ?_⟩
    refine ⟨?_, ?_, ?_⟩
    · first | omega | (simp [up]; done) | (simp [up]; omega)
    · refine jvu69_13 ?_ (by omega) (by omega); exact hI
    · refine Fr.up ?_ (by first | rfl | (unfold jcA; simp; try omega)); exact (Fr.rf)
  · skip
    refine g_iconst (M := mX11_takes) (pc := 8) dX11_takes_8 (k := ?_)
    refine g_zret (M := mX11_takes) (pc := 9) (by first | omega | (unfold b2; split <;> omega)) rfl dX11_takes_9 rfl ⟨_, _, rfl, rfl, ?_⟩
    refine ⟨?_, ?_, ?_⟩
    · first | omega | (simp [up]; done) | (simp [up]; omega)
    · exact hI
    · exact (Fr.rf)
set_option maxHeartbeats 4000000 in
set_option maxRecDepth 20000 in
theorem c_X11_takesWord (Γ : KT) (t : Nat) (σ : Nat → Int → Int) (u : Int) (m : Int) (hI : InvJ σ) (hu : 0 ≤ u) (hm : 0 ≤ m ∧ m ≤ 5) (hum : u + m ≤ 13) : Ct Γ mX11_takesWord 3 (0, 0) [vR Γ 69, vI u, vI m] (113, ρT t, σ) (pI 113 (ρT t) (fun r σ' => (0 ≤ r ∧ r ≤ 1) ∧ (σ 69 13 ≤ σ' 69 13) ∧ (InvJ σ') ∧ (Fr jcA σ σ'))) := by
  refine Ct.of rfl (Nat.le_of_ble_eq_true rfl) ?_
  show G Γ mX11_takesWord 3 (0, 0) _ (0, 0) 0 [some (vR Γ 69), some (vI u), some (vI m), none] [] (113, ρT t, σ)
  refine g_iconst (M := mX11_takesWord) (pc := 0) dX11_takesWord_0 (k := ?_)
  refine g_istore_3 (M := mX11_takesWord) (pc := 1) dX11_takesWord_1 (k := ?_)
  have loop2 : ∀ (N : Nat) (τ2 : Nat → Int → Int) (k : Int), ((m - k).toNat) < N → ((InvJ τ2) ∧ (Fr jcA σ τ2) ∧ (0 ≤ k ∧ k ≤ m) ∧ (σ 69 13 ≤ τ2 69 13)) → G Γ mX11_takesWord 3 (0, 0) (pI 113 (ρT t) (fun r σ' => (0 ≤ r ∧ r ≤ 1) ∧ (σ 69 13 ≤ σ' 69 13) ∧ (InvJ σ') ∧ (Fr jcA σ σ'))) (0, 0) 2 [some (vR Γ 69), some (vI u), some (vI m), some (vI k)] [] (113, ρT t, τ2) := by
    intro N
    induction N with
    | zero => intro τ2 k hmu2 hinv2; exact absurd hmu2 (Nat.not_lt_zero _)
    | succ N ih2 =>
      intro τ2 k hmu2 hinv2
      obtain ⟨hI2, hF2, hb2_k, hx2_0⟩ := hinv2
      refine g_iload_n (M := mX11_takesWord) (pc := 2) dX11_takesWord_2 rfl (k := ?_)
      refine g_iload_n (M := mX11_takesWord) (pc := 3) dX11_takesWord_3 rfl (k := ?_)
      refine g_icmp_ge (M := mX11_takesWord) (pc := 4) (tgt := 30) (by omega) (by omega) dX11_takesWord_4 (k1 := fun h4 => ?_) (k2 := fun h4 => ?_)
      · skip
        refine g_aload_n (M := mX11_takesWord) (pc := 30) dX11_takesWord_30 rfl (k := ?_)
        refine g_bipush (M := mX11_takesWord) (pc := 31) dX11_takesWord_31 (k := ?_)
        refine g_cV1I (M := mX11_takesWord) (pc := 33) (c_X11_takes Γ t _ _ hI2 (by omega)) qX11_takes vX11_takes sX11_takes kX11_243 dX11_takesWord_33 (kk := ?_)
        rintro r33 τ33 ⟨ht33, hI33, hG33⟩
        have hF33 : Fr jcA σ τ33 := by refine Fr.tr ?_ hG33; exact hF2
        refine g_zret (M := mX11_takesWord) (pc := 36) (by first | omega | (unfold b2; split <;> omega)) rfl dX11_takesWord_36 rfl ⟨_, _, rfl, rfl, ?_⟩
        refine ⟨?_, ?_, ?_, ?_⟩
        · omega
        · first | omega | (simp [up]; done) | (simp [up]; omega)
        · exact hI33
        · exact hF33
      · skip
        refine g_aload_n (M := mX11_takesWord) (pc := 7) dX11_takesWord_7 rfl (k := ?_)
        refine g_aload_n (M := mX11_takesWord) (pc := 8) dX11_takesWord_8 rfl (k := ?_)
        refine g_getr (M := mX11_takesWord) (pc := 9) (by rfl) fX11_26 kX11_89 dX11_takesWord_9 (by rfl) (kk := ?_)
        refine g_iload_n (M := mX11_takesWord) (pc := 12) dX11_takesWord_12 rfl (k := ?_)
        refine g_iload_n (M := mX11_takesWord) (pc := 13) dX11_takesWord_13 rfl (k := ?_)
        refine g_iadd (M := mX11_takesWord) (pc := 14) dX11_takesWord_14 (k := ?_)
        refine g_iald (M := mX11_takesWord) (pc := 15) (by rfl) (by omega) (by omega) dX11_takesWord_15 (kk := fun hr15 => ?_)
        have hb15 := jv86_0 hI2 (u + k) (by omega) (by omega)
        refine g_cV1I (M := mX11_takesWord) (pc := 16) (c_X11_takes Γ t _ _ hI2 (by omega)) qX11_takes vX11_takes sX11_takes kX11_243 dX11_takesWord_16 (kk := ?_)
        rintro r16 τ16 ⟨ht16, hI16, hG16⟩
        have hF16 : Fr jcA σ τ16 := by refine Fr.tr ?_ hG16; exact hF2
        refine g_if_ne (M := mX11_takesWord) (pc := 19) (tgt := 24) (by omega) dX11_takesWord_19 (k1 := fun h19 => ?_) (k2 := fun h19 => ?_)
        · skip
          refine g_iinc_3 (M := mX11_takesWord) (pc := 24) dX11_takesWord_24 (k := ?_)
          refine g_goto (M := mX11_takesWord) (pc := 27) (tgt := 2) dX11_takesWord_27 (k := ?_)
          refine ih2 _ _ ?_ ?_
          · omega
          · skip
            refine ⟨?_, ?_, ?_, ?_⟩
            · exact hI16
            · exact hF16
            · omega
            · omega
        · skip
          refine g_iconst (M := mX11_takesWord) (pc := 22) dX11_takesWord_22 (k := ?_)
          refine g_zret (M := mX11_takesWord) (pc := 23) (by first | omega | (unfold b2; split <;> omega)) rfl dX11_takesWord_23 rfl ⟨_, _, rfl, rfl, ?_⟩
          refine ⟨?_, ?_, ?_, ?_⟩
          · omega
          · first | omega | (simp [up]; done) | (simp [up]; omega)
          · exact hI16
          · exact hF16
  refine loop2 _ _ _ (Nat.lt_succ_self _) ?_
  refine ⟨?_, ?_, ?_, ?_⟩
  · exact hI
  · exact (Fr.rf)
  · omega
  · omega
set_option maxHeartbeats 4000000 in
set_option maxRecDepth 20000 in
theorem c_X11_isDigit (Γ : KT) (t : Nat) (σ : Nat → Int → Int)  (hI : InvJ σ) : Ct Γ mX11_isDigit 2 (0, 0) [vR Γ 69] (113, ρT t, σ) (pI 113 (ρT t) (fun r σ' => ((r = 1 ∧ σ 69 13 < σ 69 12 ∧ 48 ≤ σ 78 (σ 69 13) ∧ σ 78 (σ 69 13) ≤ 57) ∨ r = 0) ∧ σ' = σ)) := by
  refine Ct.of rfl (Nat.le_of_ble_eq_true rfl) ?_
  show G Γ mX11_isDigit 2 (0, 0) _ (0, 0) 0 [some (vR Γ 69)] [] (113, ρT t, σ)
  refine g_aload_n (M := mX11_isDigit) (pc := 0) dX11_isDigit_0 rfl (k := ?_)
  refine g_aload_n (M := mX11_isDigit) (pc := 1) dX11_isDigit_1 rfl (k := ?_)
  refine g_cV0I (M := mX11_isDigit) (pc := 2) (c_X11_peek Γ t _ hI) qX11_peek vX11_peek sX11_peek kX11_239 dX11_isDigit_2 (kk := ?_)
  rintro r2 _ ⟨hd2, hi2, e⟩; rw [e]; clear e
  have hb2_69 := jv69_12 hI 12 (by omega) (by omega)
  have hb2_69 := jv69_13 hI 13 (by omega) (by omega)
  refine g_bipush (M := mX11_isDigit) (pc := 5) dX11_isDigit_5 (k := ?_)
  refine g_bipush (M := mX11_isDigit) (pc := 7) dX11_isDigit_7 (k := ?_)
  refine g_cV3I (M := mX11_isDigit) (pc := 9) (c_X11_in Γ t _ _ _ _ (by omega) (by omega) (by omega)) qX11_in vX11_in sX11_in kX11_224 dX11_isDigit_9 (kk := ?_)
  rintro _ _ ⟨e1, e⟩; rw [e1, e]; clear e1 e
  refine g_zret (M := mX11_isDigit) (pc := 12) (by first | omega | (unfold b2; split <;> omega)) rfl dX11_isDigit_12 rfl ⟨_, _, rfl, rfl, ?_⟩
  refine ⟨?_, rfl⟩
  · rcases Classical.em (48 ≤ r2 ∧ r2 ≤ 57) with hh | hh <;> first | (rw [b2_t hh]; omega) | (rw [b2_f hh]; omega)
set_option maxHeartbeats 4000000 in
set_option maxRecDepth 20000 in
theorem c_X11_takesNumber (Γ : KT) (t : Nat) (σ : Nat → Int → Int)  (hI : InvJ σ) : Ct Γ mX11_takesNumber 3 (0, 0) [vR Γ 69] (113, ρT t, σ) (pI 113 (ρT t) (fun r σ' => (0 ≤ r ∧ r ≤ 1) ∧ (σ 69 13 ≤ σ' 69 13) ∧ (InvJ σ') ∧ (Fr jcD σ σ'))) := by
  refine Ct.of rfl (Nat.le_of_ble_eq_true rfl) ?_
  show G Γ mX11_takesNumber 3 (0, 0) _ (0, 0) 0 [some (vR Γ 69), none] [] (113, ρT t, σ)
  refine g_aload_n (M := mX11_takesNumber) (pc := 0) dX11_takesNumber_0 rfl (k := ?_)
  refine g_cV0I (M := mX11_takesNumber) (pc := 1) (c_X11_isDigit Γ t _ hI) qX11_isDigit vX11_isDigit sX11_isDigit kX11_246 dX11_takesNumber_1 (kk := ?_)
  rintro r1 _ ⟨hd1, e⟩; rw [e]; clear e
  refine g_if_ne (M := mX11_takesNumber) (pc := 4) (tgt := 9) (by omega) dX11_takesNumber_4 (k1 := fun h4 => ?_) (k2 := fun h4 => ?_)
  · skip
    refine g_aload_n (M := mX11_takesNumber) (pc := 9) dX11_takesNumber_9 rfl (k := ?_)
    refine g_iconst (M := mX11_takesNumber) (pc := 10) dX11_takesNumber_10 (k := ?_)
    refine g_put (M := mX11_takesNumber) (pc := 11) (ji := 14) (by rfl) fX11_14 kX11_53 dX11_takesNumber_11 (by omega) (kk := ?_)
    refine g_iconst (M := mX11_takesNumber) (pc := 14) dX11_takesNumber_14 (k := ?_)
    refine g_istore_1 (M := mX11_takesNumber) (pc := 15) dX11_takesNumber_15 (k := ?_)
    have loop16 : ∀ (N : Nat) (τ16 : Nat → Int → Int) (q : Int), ((3 - q).toNat) < N → ((InvJ τ16) ∧ (Fr jcD σ τ16) ∧ (0 ≤ q ∧ q ≤ 2) ∧ ((q = 0 ∧ τ16 69 14 = 0) ∨ (q = 1 ∧ τ16 69 14 ≤ 9) ∨ (q = 2 ∧ τ16 69 14 ≤ 99)) ∧ (σ 69 13 ≤ τ16 69 13)) → G Γ mX11_takesNumber 3 (0, 0) (pI 113 (ρT t) (fun r σ' => (0 ≤ r ∧ r ≤ 1) ∧ (σ 69 13 ≤ σ' 69 13) ∧ (InvJ σ') ∧ (Fr jcD σ σ'))) (0, 0) 16 [some (vR Γ 69), some (vI q)] [] (113, ρT t, τ16) := by
      intro N
      induction N with
      | zero => intro τ16 q hmu16 hinv16; exact absurd hmu16 (Nat.not_lt_zero _)
      | succ N ih16 =>
        intro τ16 q hmu16 hinv16
        obtain ⟨hI16, hF16, hb16_q, hx16_0, hx16_1⟩ := hinv16
        refine g_iload_n (M := mX11_takesNumber) (pc := 16) dX11_takesNumber_16 rfl (k := ?_)
        refine g_iconst (M := mX11_takesNumber) (pc := 17) dX11_takesNumber_17 (k := ?_)
        refine g_icmp_ge (M := mX11_takesNumber) (pc := 18) (tgt := 63) (by omega) (by omega) dX11_takesNumber_18 (k1 := fun h18 => ?_) (k2 := fun h18 => ?_)
        · skip
          refine g_iconst (M := mX11_takesNumber) (pc := 63) dX11_takesNumber_63 (k := ?_)
          refine g_zret (M := mX11_takesNumber) (pc := 64) (by first | omega | (unfold b2; split <;> omega)) rfl dX11_takesNumber_64 rfl ⟨_, _, rfl, rfl, ?_⟩
          refine ⟨?_, ?_, ?_, ?_⟩
          · omega
          · first | omega | (simp [up]; done) | (simp [up]; omega)
          · exact hI16
          · exact hF16
        · skip
          refine g_aload_n (M := mX11_takesNumber) (pc := 21) dX11_takesNumber_21 rfl (k := ?_)
          refine g_cV0I (M := mX11_takesNumber) (pc := 22) (c_X11_isDigit Γ t _ hI16) qX11_isDigit vX11_isDigit sX11_isDigit kX11_246 dX11_takesNumber_22 (kk := ?_)
          rintro r22 _ ⟨hd22, e⟩; rw [e]; clear e
          refine g_if_eq (M := mX11_takesNumber) (pc := 25) (tgt := 63) (by omega) dX11_takesNumber_25 (k1 := fun h25 => ?_) (k2 := fun h25 => ?_)
          · skip
            refine g_iconst (M := mX11_takesNumber) (pc := 63) dX11_takesNumber_63 (k := ?_)
            refine g_zret (M := mX11_takesNumber) (pc := 64) (by first | omega | (unfold b2; split <;> omega)) rfl dX11_takesNumber_64 rfl ⟨_, _, rfl, rfl, ?_⟩
            refine ⟨?_, ?_, ?_, ?_⟩
            · omega
            · first | omega | (simp [up]; done) | (simp [up]; omega)
            · exact hI16
            · exact hF16
          · skip
            refine g_aload_n (M := mX11_takesNumber) (pc := 28) dX11_takesNumber_28 rfl (k := ?_)
            refine g_bipush (M := mX11_takesNumber) (pc := 29) dX11_takesNumber_29 (k := ?_)
            refine g_aload_n (M := mX11_takesNumber) (pc := 31) dX11_takesNumber_31 rfl (k := ?_)
            refine g_get (M := mX11_takesNumber) (pc := 32) (ji := 14) (by rfl) fX11_14 kX11_53 dX11_takesNumber_32 (kk := fun hr32 => ?_)
            have hb32 := jv69_14 hI16 14 (by omega) (by omega)
            refine g_imul (M := mX11_takesNumber) (pc := 35) dX11_takesNumber_35 (k := ?_)
            refine g_aload_n (M := mX11_takesNumber) (pc := 36) dX11_takesNumber_36 rfl (k := ?_)
            refine g_cV0I (M := mX11_takesNumber) (pc := 37) (c_X11_peek Γ t _ hI16) qX11_peek vX11_peek sX11_peek kX11_239 dX11_takesNumber_37 (kk := ?_)
            rintro r37 _ ⟨hd37, hi37, e⟩; rw [e]; clear e
            have hb37_69 := jv69_12 hI16 12 (by omega) (by omega)
            have hb37_69 := jv69_13 hI16 13 (by omega) (by omega)
            refine g_iadd (M := mX11_takesNumber) (pc := 40) dX11_takesNumber_40 (k := ?_)
            refine g_bipush (M := mX11_takesNumber) (pc := 41) dX11_takesNumber_41 (k := ?_)
            refine g_isub (M := mX11_takesNumber) (pc := 43) dX11_takesNumber_43 (k := ?_)
            refine g_put (M := mX11_takesNumber) (pc := 44) (ji := 14) (by rfl) fX11_14 kX11_53 dX11_takesNumber_44 (by omega) (kk := ?_)
            refine g_aload_n (M := mX11_takesNumber) (pc := 47) dX11_takesNumber_47 rfl (k := ?_)
            refine g_dupR (M := mX11_takesNumber) (pc := 48) dX11_takesNumber_48 (k := ?_)
            refine g_get (M := mX11_takesNumber) (pc := 49) (ji := 13) (by rfl) fX11_13 kX11_50 dX11_takesNumber_49 (kk := fun hr49 => ?_)
            simp only [up_same, up_cell, up_slot, ne_eq, not_false_eq_true, Nat.reduceEqDiff, Int.reduceEq, reduceCtorEq, Nat.reduceAdd, Int.reduceAdd, Int.reduceSub] at hr49 ⊢
            refine g_iconst (M := mX11_takesNumber) (pc := 52) dX11_takesNumber_52 (k := ?_)
            refine g_iadd (M := mX11_takesNumber) (pc := 53) dX11_takesNumber_53 (k := ?_)
            refine g_put (M := mX11_takesNumber) (pc := 54) (ji := 13) (by rfl) fX11_13 kX11_50 dX11_takesNumber_54 (by omega) (kk := ?_)
            refine g_iinc_1 (M := mX11_takesNumber) (pc := 57) dX11_takesNumber_57 (k := ?_)
            refine g_goto (M := mX11_takesNumber) (pc := 60) (tgt := 16) dX11_takesNumber_60 (k := ?_)
            refine ih16 _ _ ?_ ?_
            · omega
            · skip
              refine ⟨?_, ?_, ?_, ?_, ?_⟩
              · refine jvu69_13 ?_ (by omega) (by omega); refine jvu69_14 ?_ (by omega) (by omega); exact hI16
              · refine Fr.up ?_ (by first | rfl | (unfold jcD; simp; try omega)); refine Fr.up ?_ (by first | rfl | (unfold jcD; simp; try omega)); exact hF16
              · omega
              · first | omega | (simp [up]; done) | (simp [up]; omega)
              · first | omega | (simp [up]; done) | (simp [up]; omega)
    refine loop16 _ _ _ (Nat.lt_succ_self _) ?_
    refine ⟨?_, ?_, ?_, ?_, ?_⟩
    · refine jvu69_14 ?_ (by omega) (by omega); exact hI
    · refine Fr.up ?_ (by first | rfl | (unfold jcD; simp; try omega)); exact (Fr.rf)
    · omega
    · first | omega | (simp [up]; done) | (simp [up]; omega)
    · first | omega | (simp [up]; done) | (simp [up]; omega)
  · skip
    refine g_iconst (M := mX11_takesNumber) (pc := 7) dX11_takesNumber_7 (k := ?_)
    refine g_zret (M := mX11_takesNumber) (pc := 8) (by first | omega | (unfold b2; split <;> omega)) rfl dX11_takesNumber_8 rfl ⟨_, _, rfl, rfl, ?_⟩
    refine ⟨?_, ?_, ?_, ?_⟩
    · omega
    · first | omega | (simp [up]; done) | (simp [up]; omega)
    · exact hI
    · exact (Fr.rf)
set_option maxHeartbeats 4000000 in
set_option maxRecDepth 20000 in
theorem c_X11_emits (Γ : KT) (t : Nat) (σ : Nat → Int → Int) (s : Int) (h0 : 0 ≤ σ 69 23 ∧ σ 69 23 < 600) (hs : R32 s) : Ct Γ mX11_emits 1 (0, 0) [vR Γ 69, vI s] (113, ρT t, σ) (pV 113 (ρT t) (fun σ' => σ' = (up (up σ 84 (σ 69 23) s) 69 23 ((σ 69 23) + 1)))) := by
  refine Ct.of rfl (Nat.le_of_ble_eq_true rfl) ?_
  show G Γ mX11_emits 1 (0, 0) _ (0, 0) 0 [some (vR Γ 69), some (vI s)] [] (113, ρT t, σ)
  refine g_aload_n (M := mX11_emits) (pc := 0) dX11_emits_0 rfl (k := ?_)
  refine g_getr (M := mX11_emits) (pc := 1) (by rfl) fX11_21 kX11_74 dX11_emits_1 (by rfl) (kk := ?_)
  refine g_aload_n (M := mX11_emits) (pc := 4) dX11_emits_4 rfl (k := ?_)
  refine g_get (M := mX11_emits) (pc := 5) (ji := 23) (by rfl) fX11_23 kX11_80 dX11_emits_5 (kk := fun hr5 => ?_)
  refine g_iload_n (M := mX11_emits) (pc := 8) dX11_emits_8 rfl (k := ?_)
  refine g_iast (M := mX11_emits) (pc := 9) (by rfl) (by omega) (by omega) (by omega) dX11_emits_9 (kk := ?_)
  refine g_aload_n (M := mX11_emits) (pc := 10) dX11_emits_10 rfl (k := ?_)
  refine g_dupR (M := mX11_emits) (pc := 11) dX11_emits_11 (k := ?_)
  refine g_get (M := mX11_emits) (pc := 12) (ji := 23) (by rfl) fX11_23 kX11_80 dX11_emits_12 (kk := fun hr12 => ?_)
  simp only [up_same, up_cell, up_slot, ne_eq, not_false_eq_true, Nat.reduceEqDiff, Int.reduceEq, reduceCtorEq, Nat.reduceAdd, Int.reduceAdd, Int.reduceSub] at hr12 ⊢
  refine g_iconst (M := mX11_emits) (pc := 15) dX11_emits_15 (k := ?_)
  refine g_iadd (M := mX11_emits) (pc := 16) dX11_emits_16 (k := ?_)
  refine g_put (M := mX11_emits) (pc := 17) (ji := 23) (by rfl) fX11_23 kX11_80 dX11_emits_17 (by omega) (kk := ?_)
  refine g_vret (M := mX11_emits) (pc := 20) rfl dX11_emits_20 rfl ⟨_, rfl, rfl, ?_⟩
  rfl
set_option maxHeartbeats 4000000 in
set_option maxRecDepth 20000 in
theorem c_X11_whole (Γ : KT) (t : Nat) (σ : Nat → Int → Int) (a b : Int)  (hI : InvJ σ) (hP : PS σ a b 0) (hb : 0 ≤ b ∧ b ≤ 500) : Ct Γ mX11_whole 2 (0, 0) [vR Γ 69] (113, ρT t, σ) (pV 113 (ρT t) (fun σ' => (PS σ' a b 0) ∧ (∀ j, j < a → σ' 84 j = σ 84 j) ∧ (InvJ σ') ∧ (Fr jcW σ σ'))) := by
  refine Ct.of rfl (Nat.le_of_ble_eq_true rfl) ?_
  show G Γ mX11_whole 2 (0, 0) _ (0, 0) 0 [some (vR Γ 69)] [] (113, ρT t, σ)
  have loop0 : ∀ (N : Nat) (τ0 : Nat → Int → Int) , ((τ0 69 24).toNat) < N → ((InvJ τ0) ∧ (Fr jcW σ τ0) ∧ (PS τ0 a b 0) ∧ (∀ j, j < a → τ0 84 j = σ 84 j)) → G Γ mX11_whole 2 (0, 0) (pV 113 (ρT t) (fun σ' => (PS σ' a b 0) ∧ (∀ j, j < a → σ' 84 j = σ 84 j) ∧ (InvJ σ') ∧ (Fr jcW σ σ'))) (0, 0) 0 [some (vR Γ 69)] [] (113, ρT t, τ0) := by
    intro N
    induction N with
    | zero => intro τ0  hmu0 hinv0; exact absurd hmu0 (Nat.not_lt_zero _)
    | succ N ih0 =>
      intro τ0  hmu0 hinv0
      obtain ⟨hI0, hF0, hx0_0, hx0_1⟩ := hinv0
      have hat := jv69_13 hI0 13 (by omega) (by omega); have hpp := hx0_0; obtain ⟨p1, p2, p3, p4, p5, p6⟩ := hpp
      have hnb := nbF_b (τ0 85) (τ0 69 24).toNat
      refine g_aload_n (M := mX11_whole) (pc := 0) dX11_whole_0 rfl (k := ?_)
      refine g_get (M := mX11_whole) (pc := 1) (ji := 24) (by rfl) fX11_24 kX11_83 dX11_whole_1 (kk := fun hr1 => ?_)
      have hb1 := jv69_24 hI0 24 (by omega) (by omega)
      refine g_if_le (M := mX11_whole) (pc := 4) (tgt := 52) (by omega) dX11_whole_4 (k1 := fun h4 => ?_) (k2 := fun h4 => ?_)
      · skip
        refine g_vret (M := mX11_whole) (pc := 52) rfl dX11_whole_52 rfl ⟨_, rfl, rfl, ?_⟩
        refine ⟨?_, ?_, ?_, ?_⟩
        · exact hx0_0
        · exact hx0_1
        · exact hI0
        · exact hF0
      · skip
        refine g_aload_n (M := mX11_whole) (pc := 7) dX11_whole_7 rfl (k := ?_)
        refine g_getr (M := mX11_whole) (pc := 8) (by rfl) fX11_22 kX11_77 dX11_whole_8 (by rfl) (kk := ?_)
        refine g_aload_n (M := mX11_whole) (pc := 11) dX11_whole_11 rfl (k := ?_)
        refine g_get (M := mX11_whole) (pc := 12) (ji := 24) (by rfl) fX11_24 kX11_83 dX11_whole_12 (kk := fun hr12 => ?_)
        refine g_iconst (M := mX11_whole) (pc := 15) dX11_whole_15 (k := ?_)
        refine g_isub (M := mX11_whole) (pc := 16) dX11_whole_16 (k := ?_)
        refine g_iald (M := mX11_whole) (pc := 17) (by rfl) (by omega) (by omega) dX11_whole_17 (kk := fun hr17 => ?_)
        refine g_bipush (M := mX11_whole) (pc := 18) dX11_whole_18 (k := ?_)
        refine g_icmp_ne (M := mX11_whole) (pc := 20) (tgt := 52) (by omega) (by omega) dX11_whole_20 (k1 := fun h20 => ?_) (k2 := fun h20 => ?_)
        · skip
          refine g_vret (M := mX11_whole) (pc := 52) rfl dX11_whole_52 rfl ⟨_, rfl, rfl, ?_⟩
          refine ⟨?_, ?_, ?_, ?_⟩
          · exact hx0_0
          · exact hx0_1
          · exact hI0
          · exact hF0
        · skip
          refine g_aload_n (M := mX11_whole) (pc := 23) dX11_whole_23 rfl (k := ?_)
          refine g_bipush (M := mX11_whole) (pc := 24) dX11_whole_24 (k := ?_)
          refine g_cV1V (M := mX11_whole) (pc := 26) (c_X11_emits Γ t _ _ (by omega) (by omega)) qX11_emits vX11_emits sX11_emits kX11_250 dX11_whole_26 (kk := ?_)
          rintro _ e; rw [e]; clear e
          refine g_aload_n (M := mX11_whole) (pc := 29) dX11_whole_29 rfl (k := ?_)
          refine g_dupR (M := mX11_whole) (pc := 30) dX11_whole_30 (k := ?_)
          refine g_get (M := mX11_whole) (pc := 31) (ji := 24) (by rfl) fX11_24 kX11_83 dX11_whole_31 (kk := fun hr31 => ?_)
          simp only [up_same, up_cell, up_slot, ne_eq, not_false_eq_true, Nat.reduceEqDiff, Int.reduceEq, reduceCtorEq, Nat.reduceAdd, Int.reduceAdd, Int.reduceSub] at hr31 ⊢
          refine g_iconst (M := mX11_whole) (pc := 34) dX11_whole_34 (k := ?_)
          refine g_isub (M := mX11_whole) (pc := 35) dX11_whole_35 (k := ?_)
          refine g_put (M := mX11_whole) (pc := 36) (ji := 24) (by rfl) fX11_24 kX11_83 dX11_whole_36 (by omega) (kk := ?_)
          refine g_aload_n (M := mX11_whole) (pc := 39) dX11_whole_39 rfl (k := ?_)
          refine g_dupR (M := mX11_whole) (pc := 40) dX11_whole_40 (k := ?_)
          refine g_get (M := mX11_whole) (pc := 41) (ji := 25) (by rfl) fX11_25 kX11_86 dX11_whole_41 (kk := fun hr41 => ?_)
          simp only [up_same, up_cell, up_slot, ne_eq, not_false_eq_true, Nat.reduceEqDiff, Int.reduceEq, reduceCtorEq, Nat.reduceAdd, Int.reduceAdd, Int.reduceSub] at hr41 ⊢
          refine g_iconst (M := mX11_whole) (pc := 44) dX11_whole_44 (k := ?_)
          refine g_isub (M := mX11_whole) (pc := 45) dX11_whole_45 (k := ?_)
          refine g_put (M := mX11_whole) (pc := 46) (ji := 25) (by rfl) fX11_25 kX11_86 dX11_whole_46 (by omega) (kk := ?_)
          refine g_goto (M := mX11_whole) (pc := 49) (tgt := 0) dX11_whole_49 (k := ?_)
          refine ih0 _ ?_ ?_
          · (simp only [up_same, up_cell, up_slot, ne_eq, not_false_eq_true, Nat.reduceEqDiff, Int.reduceEq, reduceCtorEq, Nat.reduceAdd, Int.reduceAdd, Int.reduceSub]; omega)
          · skip
            refine ⟨?_, ?_, ?_, ?_⟩
            · refine jv_free ?_ (by rfl); refine jvu69_24 ?_ (by omega) (by omega); refine jvu69_23 ?_ (by omega) (by omega); refine jv_cell ?_ (by rfl); exact hI0
            · refine Fr.up ?_ (by first | rfl | (unfold jcW; simp; try omega)); refine Fr.up ?_ (by first | rfl | (unfold jcW; simp; try omega)); refine Fr.up ?_ (by first | rfl | (unfold jcW; simp; try omega)); refine Fr.up ?_ (by first | rfl | (unfold jcW; simp; try omega)); exact hF0
            · first | exact hP | exact PS_bang hx0_0 (by omega) (by omega)
            · intro j hj; first | rfl | (rw [up_cell (by decide), up_cell (by decide), up_cell (by decide), up_slot (by omega)]; exact hx0_1 j hj)
  refine loop0 _ _ (Nat.lt_succ_self _) ?_
  refine ⟨?_, ?_, ?_, ?_⟩
  · exact hI
  · exact (Fr.rf)
  · first | exact hP | exact PS_bang hx0_0 (by omega) (by omega)
  · intro j hj; first | rfl | (rw [up_cell (by decide), up_cell (by decide), up_cell (by decide), up_slot (by omega)]; exact hx0_1 j hj)
set_option maxHeartbeats 4000000 in
set_option maxRecDepth 20000 in
theorem c_X11_settle (Γ : KT) (t : Nat) (σ : Nat → Int → Int) (a b : Int) (s : Int) (hI : InvJ σ) (hP : PS σ a b 0) (hb : 0 ≤ b ∧ b ≤ 500) (hs : s = 38 ∨ s = 124) : Ct Γ mX11_settle 2 (0, 0) [vR Γ 69, vI s] (113, ρT t, σ) (pV 113 (ρT t) (fun σ' => (PS σ' a b 0) ∧ (∀ j, j < a → σ' 84 j = σ 84 j) ∧ ((σ' 69 24 = 0 ∨ ¬ (σ' 85 (σ' 69 24 - 1) = 38 ∨ (σ' 85 (σ' 69 24 - 1) = 124 ∧ s = 124)))) ∧ (InvJ σ') ∧ (Fr jcS σ σ'))) := by
  refine Ct.of rfl (Nat.le_of_ble_eq_true rfl) ?_
  show G Γ mX11_settle 2 (0, 0) _ (0, 0) 0 [some (vR Γ 69), some (vI s)] [] (113, ρT t, σ)
  have loop0 : ∀ (N : Nat) (τ0 : Nat → Int → Int) , ((τ0 69 24).toNat) < N → ((InvJ τ0) ∧ (Fr jcS σ τ0) ∧ (PS τ0 a b 0) ∧ (∀ j, j < a → τ0 84 j = σ 84 j)) → G Γ mX11_settle 2 (0, 0) (pV 113 (ρT t) (fun σ' => (PS σ' a b 0) ∧ (∀ j, j < a → σ' 84 j = σ 84 j) ∧ ((σ' 69 24 = 0 ∨ ¬ (σ' 85 (σ' 69 24 - 1) = 38 ∨ (σ' 85 (σ' 69 24 - 1) = 124 ∧ s = 124)))) ∧ (InvJ σ') ∧ (Fr jcS σ σ'))) (0, 0) 0 [some (vR Γ 69), some (vI s)] [] (113, ρT t, τ0) := by
    intro N
    induction N with
    | zero => intro τ0  hmu0 hinv0; exact absurd hmu0 (Nat.not_lt_zero _)
    | succ N ih0 =>
      intro τ0  hmu0 hinv0
      obtain ⟨hI0, hF0, hx0_0, hx0_1⟩ := hinv0
      have hat := jv69_13 hI0 13 (by omega) (by omega); have hpp := hx0_0; obtain ⟨p1, p2, p3, p4, p5, p6⟩ := hpp
      have hnb := nbF_b (τ0 85) (τ0 69 24).toNat
      refine g_aload_n (M := mX11_settle) (pc := 0) dX11_settle_0 rfl (k := ?_)
      refine g_get (M := mX11_settle) (pc := 1) (ji := 24) (by rfl) fX11_24 kX11_83 dX11_settle_1 (kk := fun hr1 => ?_)
      have hb1 := jv69_24 hI0 24 (by omega) (by omega)
      refine g_if_le (M := mX11_settle) (pc := 4) (tgt := 72) (by omega) dX11_settle_4 (k1 := fun h4 => ?_) (k2 := fun h4 => ?_)
      · skip
        refine g_vret (M := mX11_settle) (pc := 72) rfl dX11_settle_72 rfl ⟨_, rfl, rfl, ?_⟩
        refine ⟨?_, ?_, ?_, ?_, ?_⟩
        · exact hx0_0
        · exact hx0_1
        · omega
        · exact hI0
        · exact hF0
      · skip
        refine g_aload_n (M := mX11_settle) (pc := 7) dX11_settle_7 rfl (k := ?_)
        refine g_getr (M := mX11_settle) (pc := 8) (by rfl) fX11_22 kX11_77 dX11_settle_8 (by rfl) (kk := ?_)
        refine g_aload_n (M := mX11_settle) (pc := 11) dX11_settle_11 rfl (k := ?_)
        refine g_get (M := mX11_settle) (pc := 12) (ji := 24) (by rfl) fX11_24 kX11_83 dX11_settle_12 (kk := fun hr12 => ?_)
        refine g_iconst (M := mX11_settle) (pc := 15) dX11_settle_15 (k := ?_)
        refine g_isub (M := mX11_settle) (pc := 16) dX11_settle_16 (k := ?_)
        refine g_iald (M := mX11_settle) (pc := 17) (by rfl) (by omega) (by omega) dX11_settle_17 (kk := fun hr17 => ?_)
        refine g_bipush (M := mX11_settle) (pc := 18) dX11_settle_18 (k := ?_)
        refine g_icmp_eq (M := mX11_settle) (pc := 20) (tgt := 45) (by omega) (by omega) dX11_settle_20 (k1 := fun h20 => ?_) (k2 := fun h20 => ?_)
        · skip
          refine g_aload_n (M := mX11_settle) (pc := 45) dX11_settle_45 rfl (k := ?_)
          refine g_dupR (M := mX11_settle) (pc := 46) dX11_settle_46 (k := ?_)
          refine g_get (M := mX11_settle) (pc := 47) (ji := 24) (by rfl) fX11_24 kX11_83 dX11_settle_47 (kk := fun hr47 => ?_)
          refine g_iconst (M := mX11_settle) (pc := 50) dX11_settle_50 (k := ?_)
          refine g_isub (M := mX11_settle) (pc := 51) dX11_settle_51 (k := ?_)
          refine g_put (M := mX11_settle) (pc := 52) (ji := 24) (by rfl) fX11_24 kX11_83 dX11_settle_52 (by omega) (kk := ?_)
          refine g_aload_n (M := mX11_settle) (pc := 55) dX11_settle_55 rfl (k := ?_)
          refine g_aload_n (M := mX11_settle) (pc := 56) dX11_settle_56 rfl (k := ?_)
          refine g_getr (M := mX11_settle) (pc := 57) (by rfl) fX11_22 kX11_77 dX11_settle_57 (by rfl) (kk := ?_)
          refine g_aload_n (M := mX11_settle) (pc := 60) dX11_settle_60 rfl (k := ?_)
          refine g_get (M := mX11_settle) (pc := 61) (ji := 24) (by rfl) fX11_24 kX11_83 dX11_settle_61 (kk := fun hr61 => ?_)
          simp only [up_same, up_cell, up_slot, ne_eq, not_false_eq_true, Nat.reduceEqDiff, Int.reduceEq, reduceCtorEq, Nat.reduceAdd, Int.reduceAdd, Int.reduceSub] at hr61 ⊢
          refine g_iald (M := mX11_settle) (pc := 64) (by rfl) (by omega) (by omega) dX11_settle_64 (kk := fun hr64 => ?_)
          simp only [up_same, up_cell, up_slot, ne_eq, not_false_eq_true, Nat.reduceEqDiff, Int.reduceEq, reduceCtorEq, Nat.reduceAdd, Int.reduceAdd, Int.reduceSub] at hr64 ⊢
          refine g_ineg (M := mX11_settle) (pc := 65) dX11_settle_65 (k := ?_)
          refine g_cV1V (M := mX11_settle) (pc := 66) (c_X11_emits Γ t _ _ (by first | omega | (simp only [up_same, up_cell, up_slot, ne_eq, not_false_eq_true, Nat.reduceEqDiff, Int.reduceEq, reduceCtorEq, Nat.reduceAdd, Int.reduceAdd, Int.reduceSub]; done) | (simp only [up_same, up_cell, up_slot, ne_eq, not_false_eq_true, Nat.reduceEqDiff, Int.reduceEq, reduceCtorEq, Nat.reduceAdd, Int.reduceAdd, Int.reduceSub]; omega)) (by first | omega | (simp only [up_same, up_cell, up_slot, ne_eq, not_false_eq_true, Nat.reduceEqDiff, Int.reduceEq, reduceCtorEq, Nat.reduceAdd, Int.reduceAdd, Int.reduceSub]; done) | (simp only [up_same, up_cell, up_slot, ne_eq, not_false_eq_true, Nat.reduceEqDiff, Int.reduceEq, reduceCtorEq, Nat.reduceAdd, Int.reduceAdd, Int.reduceSub]; omega))) qX11_emits vX11_emits sX11_emits kX11_250 dX11_settle_66 (kk := ?_)
          rintro _ e; rw [e]; clear e
          try simp only [up_same, up_cell, up_slot, ne_eq, not_false_eq_true, Nat.reduceEqDiff, Int.reduceEq, reduceCtorEq, Nat.reduceAdd, Int.reduceAdd, Int.reduceSub]
          refine g_goto (M := mX11_settle) (pc := 69) (tgt := 0) dX11_settle_69 (k := ?_)
          refine ih0 _ ?_ ?_
          · (simp only [up_same, up_cell, up_slot, ne_eq, not_false_eq_true, Nat.reduceEqDiff, Int.reduceEq, reduceCtorEq, Nat.reduceAdd, Int.reduceAdd, Int.reduceSub]; omega)
          · skip
            refine ⟨?_, ?_, ?_, ?_⟩
            · refine jvu69_23 ?_ (by omega) (by omega); refine jv_cell ?_ (by rfl); refine jvu69_24 ?_ (by omega) (by omega); exact hI0
            · refine Fr.up ?_ (by first | rfl | (unfold jcS; simp; try omega)); refine Fr.up ?_ (by first | rfl | (unfold jcS; simp; try omega)); refine Fr.up ?_ (by first | rfl | (unfold jcS; simp; try omega)); exact hF0
            · first | exact hP | exact PS_bin hx0_0 (by omega) (by omega)
            · intro j hj; first | rfl | (rw [up_cell (by decide), up_slot (by omega), up_cell (by decide)]; exact hx0_1 j hj)
        · skip
          refine g_aload_n (M := mX11_settle) (pc := 23) dX11_settle_23 rfl (k := ?_)
          refine g_getr (M := mX11_settle) (pc := 24) (by rfl) fX11_22 kX11_77 dX11_settle_24 (by rfl) (kk := ?_)
          refine g_aload_n (M := mX11_settle) (pc := 27) dX11_settle_27 rfl (k := ?_)
          refine g_get (M := mX11_settle) (pc := 28) (ji := 24) (by rfl) fX11_24 kX11_83 dX11_settle_28 (kk := fun hr28 => ?_)
          refine g_iconst (M := mX11_settle) (pc := 31) dX11_settle_31 (k := ?_)
          refine g_isub (M := mX11_settle) (pc := 32) dX11_settle_32 (k := ?_)
          refine g_iald (M := mX11_settle) (pc := 33) (by rfl) (by omega) (by omega) dX11_settle_33 (kk := fun hr33 => ?_)
          refine g_bipush (M := mX11_settle) (pc := 34) dX11_settle_34 (k := ?_)
          refine g_icmp_ne (M := mX11_settle) (pc := 36) (tgt := 72) (by omega) (by omega) dX11_settle_36 (k1 := fun h36 => ?_) (k2 := fun h36 => ?_)
          · skip
            refine g_vret (M := mX11_settle) (pc := 72) rfl dX11_settle_72 rfl ⟨_, rfl, rfl, ?_⟩
            refine ⟨?_, ?_, ?_, ?_, ?_⟩
            · exact hx0_0
            · exact hx0_1
            · omega
            · exact hI0
            · exact hF0
          · skip
            refine g_iload_n (M := mX11_settle) (pc := 39) dX11_settle_39 rfl (k := ?_)
            refine g_bipush (M := mX11_settle) (pc := 40) dX11_settle_40 (k := ?_)
            refine g_icmp_eq (M := mX11_settle) (pc := 42) (tgt := 72) (by omega) (by omega) dX11_settle_42 (k1 := fun h42 => ?_) (k2 := fun h42 => ?_)
            · skip
              refine g_vret (M := mX11_settle) (pc := 72) rfl dX11_settle_72 rfl ⟨_, rfl, rfl, ?_⟩
              refine ⟨?_, ?_, ?_, ?_, ?_⟩
              · exact hx0_0
              · exact hx0_1
              · omega
              · exact hI0
              · exact hF0
            · skip
              refine g_aload_n (M := mX11_settle) (pc := 45) dX11_settle_45 rfl (k := ?_)
              refine g_dupR (M := mX11_settle) (pc := 46) dX11_settle_46 (k := ?_)
              refine g_get (M := mX11_settle) (pc := 47) (ji := 24) (by rfl) fX11_24 kX11_83 dX11_settle_47 (kk := fun hr47 => ?_)
              refine g_iconst (M := mX11_settle) (pc := 50) dX11_settle_50 (k := ?_)
              refine g_isub (M := mX11_settle) (pc := 51) dX11_settle_51 (k := ?_)
              refine g_put (M := mX11_settle) (pc := 52) (ji := 24) (by rfl) fX11_24 kX11_83 dX11_settle_52 (by omega) (kk := ?_)
              refine g_aload_n (M := mX11_settle) (pc := 55) dX11_settle_55 rfl (k := ?_)
              refine g_aload_n (M := mX11_settle) (pc := 56) dX11_settle_56 rfl (k := ?_)
              refine g_getr (M := mX11_settle) (pc := 57) (by rfl) fX11_22 kX11_77 dX11_settle_57 (by rfl) (kk := ?_)
              refine g_aload_n (M := mX11_settle) (pc := 60) dX11_settle_60 rfl (k := ?_)
              refine g_get (M := mX11_settle) (pc := 61) (ji := 24) (by rfl) fX11_24 kX11_83 dX11_settle_61 (kk := fun hr61 => ?_)
              simp only [up_same, up_cell, up_slot, ne_eq, not_false_eq_true, Nat.reduceEqDiff, Int.reduceEq, reduceCtorEq, Nat.reduceAdd, Int.reduceAdd, Int.reduceSub] at hr61 ⊢
              refine g_iald (M := mX11_settle) (pc := 64) (by rfl) (by omega) (by omega) dX11_settle_64 (kk := fun hr64 => ?_)
              simp only [up_same, up_cell, up_slot, ne_eq, not_false_eq_true, Nat.reduceEqDiff, Int.reduceEq, reduceCtorEq, Nat.reduceAdd, Int.reduceAdd, Int.reduceSub] at hr64 ⊢
              refine g_ineg (M := mX11_settle) (pc := 65) dX11_settle_65 (k := ?_)
              refine g_cV1V (M := mX11_settle) (pc := 66) (c_X11_emits Γ t _ _ (by first | omega | (simp only [up_same, up_cell, up_slot, ne_eq, not_false_eq_true, Nat.reduceEqDiff, Int.reduceEq, reduceCtorEq, Nat.reduceAdd, Int.reduceAdd, Int.reduceSub]; done) | (simp only [up_same, up_cell, up_slot, ne_eq, not_false_eq_true, Nat.reduceEqDiff, Int.reduceEq, reduceCtorEq, Nat.reduceAdd, Int.reduceAdd, Int.reduceSub]; omega)) (by first | omega | (simp only [up_same, up_cell, up_slot, ne_eq, not_false_eq_true, Nat.reduceEqDiff, Int.reduceEq, reduceCtorEq, Nat.reduceAdd, Int.reduceAdd, Int.reduceSub]; done) | (simp only [up_same, up_cell, up_slot, ne_eq, not_false_eq_true, Nat.reduceEqDiff, Int.reduceEq, reduceCtorEq, Nat.reduceAdd, Int.reduceAdd, Int.reduceSub]; omega))) qX11_emits vX11_emits sX11_emits kX11_250 dX11_settle_66 (kk := ?_)
              rintro _ e; rw [e]; clear e
              try simp only [up_same, up_cell, up_slot, ne_eq, not_false_eq_true, Nat.reduceEqDiff, Int.reduceEq, reduceCtorEq, Nat.reduceAdd, Int.reduceAdd, Int.reduceSub]
              refine g_goto (M := mX11_settle) (pc := 69) (tgt := 0) dX11_settle_69 (k := ?_)
              refine ih0 _ ?_ ?_
              · (simp only [up_same, up_cell, up_slot, ne_eq, not_false_eq_true, Nat.reduceEqDiff, Int.reduceEq, reduceCtorEq, Nat.reduceAdd, Int.reduceAdd, Int.reduceSub]; omega)
              · skip
                refine ⟨?_, ?_, ?_, ?_⟩
                · refine jvu69_23 ?_ (by omega) (by omega); refine jv_cell ?_ (by rfl); refine jvu69_24 ?_ (by omega) (by omega); exact hI0
                · refine Fr.up ?_ (by first | rfl | (unfold jcS; simp; try omega)); refine Fr.up ?_ (by first | rfl | (unfold jcS; simp; try omega)); refine Fr.up ?_ (by first | rfl | (unfold jcS; simp; try omega)); exact hF0
                · first | exact hP | exact PS_bin hx0_0 (by omega) (by omega)
                · intro j hj; first | rfl | (rw [up_cell (by decide), up_slot (by omega), up_cell (by decide)]; exact hx0_1 j hj)
  refine loop0 _ _ (Nat.lt_succ_self _) ?_
  refine ⟨?_, ?_, ?_, ?_⟩
  · exact hI
  · exact (Fr.rf)
  · first | exact hP | exact PS_bin hx0_0 (by omega) (by omega)
  · intro j hj; first | rfl | (rw [up_cell (by decide), up_slot (by omega), up_cell (by decide)]; exact hx0_1 j hj)
set_option maxHeartbeats 4000000 in
set_option maxRecDepth 20000 in
theorem c_X11_takesTest (Γ : KT) (t : Nat) (σ : Nat → Int → Int) (a b : Int)  (hI : InvJ σ) (hP : PS σ a b 1) (hb : 0 ≤ b ∧ b ≤ 500) : Ct Γ mX11_takesTest 4 (0, 0) [vR Γ 69] (113, ρT t, σ) (pI 113 (ρT t) (fun r σ' => ((r = 0 ∨ (r = 1 ∧ PS σ' a b 0 ∧ σ 69 13 < σ' 69 13))) ∧ (∀ j, j < a → σ' 84 j = σ 84 j) ∧ (InvJ σ') ∧ (Fr jcT σ σ'))) := by
  refine Ct.of rfl (Nat.le_of_ble_eq_true rfl) ?_
  show G Γ mX11_takesTest 4 (0, 0) _ (0, 0) 0 [some (vR Γ 69), none, none] [] (113, ρT t, σ)
  have hwt := jv69_24 hI 24 (by omega) (by omega)
  have hpp := hP
  obtain ⟨p1, p2, p3, p4, p5, p6⟩ := hpp
  refine g_aload_n (M := mX11_takesTest) (pc := 0) dX11_takesTest_0 rfl (k := ?_)
  refine g_aload_n (M := mX11_takesTest) (pc := 1) dX11_takesTest_1 rfl (k := ?_)
  refine g_cV0I (M := mX11_takesTest) (pc := 2) (c_X11_peek Γ t _ hI) qX11_peek vX11_peek sX11_peek kX11_239 dX11_takesTest_2 (kk := ?_)
  rintro r2 _ ⟨hd2, hi2, e⟩; rw [e]; clear e
  have hb2_69 := jv69_12 hI 12 (by omega) (by omega)
  have hb2_69 := jv69_13 hI 13 (by omega) (by omega)
  refine g_cV1I (M := mX11_takesTest) (pc := 5) (c_X11_place Γ t _ _ (by omega)) qX11_place vX11_place sX11_place kX11_254 dX11_takesTest_5 (kk := ?_)
  rintro r5 _ ⟨hd5, e⟩; rw [e]; clear e
  refine g_istore_1 (M := mX11_takesTest) (pc := 8) dX11_takesTest_8 (k := ?_)
  refine g_iload_n (M := mX11_takesTest) (pc := 9) dX11_takesTest_9 rfl (k := ?_)
  refine g_if_ge (M := mX11_takesTest) (pc := 10) (tgt := 15) (by omega) dX11_takesTest_10 (k1 := fun h10 => ?_) (k2 := fun h10 => ?_)
  · skip
    refine g_aload_n (M := mX11_takesTest) (pc := 15) dX11_takesTest_15 rfl (k := ?_)
    refine g_dupR (M := mX11_takesTest) (pc := 16) dX11_takesTest_16 (k := ?_)
    refine g_get (M := mX11_takesTest) (pc := 17) (ji := 13) (by rfl) fX11_13 kX11_50 dX11_takesTest_17 (kk := fun hr17 => ?_)
    refine g_iconst (M := mX11_takesTest) (pc := 20) dX11_takesTest_20 (k := ?_)
    refine g_iadd (M := mX11_takesTest) (pc := 21) dX11_takesTest_21 (k := ?_)
    refine g_put (M := mX11_takesTest) (pc := 22) (ji := 13) (by rfl) fX11_13 kX11_50 dX11_takesTest_22 (by omega) (kk := ?_)
    refine g_aload_n (M := mX11_takesTest) (pc := 25) dX11_takesTest_25 rfl (k := ?_)
    refine g_cV0I (M := mX11_takesTest) (pc := 26) (c_X11_peek Γ t _ (by refine jvu69_13 ?_ (by omega) (by omega); exact hI)) qX11_peek vX11_peek sX11_peek kX11_239 dX11_takesTest_26 (kk := ?_)
    rintro r26 _ ⟨hd26, hi26, e⟩; rw [e]; clear e
    try simp only [up_same, up_cell, up_slot, ne_eq, not_false_eq_true, Nat.reduceEqDiff, Int.reduceEq, reduceCtorEq, Nat.reduceAdd, Int.reduceAdd, Int.reduceSub] at hd26 hi26
    refine g_istore_2 (M := mX11_takesTest) (pc := 29) dX11_takesTest_29 (k := ?_)
    refine g_aload_n (M := mX11_takesTest) (pc := 30) dX11_takesTest_30 rfl (k := ?_)
    refine g_iload_n (M := mX11_takesTest) (pc := 31) dX11_takesTest_31 rfl (k := ?_)
    refine g_bipush (M := mX11_takesTest) (pc := 32) dX11_takesTest_32 (k := ?_)
    refine g_bipush (M := mX11_takesTest) (pc := 34) dX11_takesTest_34 (k := ?_)
    refine g_cV3I (M := mX11_takesTest) (pc := 36) (c_X11_in Γ t _ _ _ _ (by first | omega | (simp only [up_same, up_cell, up_slot, ne_eq, not_false_eq_true, Nat.reduceEqDiff, Int.reduceEq, reduceCtorEq, Nat.reduceAdd, Int.reduceAdd, Int.reduceSub]; done) | (simp only [up_same, up_cell, up_slot, ne_eq, not_false_eq_true, Nat.reduceEqDiff, Int.reduceEq, reduceCtorEq, Nat.reduceAdd, Int.reduceAdd, Int.reduceSub]; omega)) (by first | omega | (simp only [up_same, up_cell, up_slot, ne_eq, not_false_eq_true, Nat.reduceEqDiff, Int.reduceEq, reduceCtorEq, Nat.reduceAdd, Int.reduceAdd, Int.reduceSub]; done) | (simp only [up_same, up_cell, up_slot, ne_eq, not_false_eq_true, Nat.reduceEqDiff, Int.reduceEq, reduceCtorEq, Nat.reduceAdd, Int.reduceAdd, Int.reduceSub]; omega)) (by first | omega | (simp only [up_same, up_cell, up_slot, ne_eq, not_false_eq_true, Nat.reduceEqDiff, Int.reduceEq, reduceCtorEq, Nat.reduceAdd, Int.reduceAdd, Int.reduceSub]; done) | (simp only [up_same, up_cell, up_slot, ne_eq, not_false_eq_true, Nat.reduceEqDiff, Int.reduceEq, reduceCtorEq, Nat.reduceAdd, Int.reduceAdd, Int.reduceSub]; omega))) qX11_in vX11_in sX11_in kX11_224 dX11_takesTest_36 (kk := ?_)
    rintro _ _ ⟨e1, e⟩; rw [e1, e]; clear e1 e
    refine g_if_neB (M := mX11_takesTest) (pc := 39) (tgt := 44) dX11_takesTest_39 (k1 := fun h39 => ?_) (k2 := fun h39 => ?_)
    · skip
      refine g_aload_n (M := mX11_takesTest) (pc := 44) dX11_takesTest_44 rfl (k := ?_)
      refine g_dupR (M := mX11_takesTest) (pc := 45) dX11_takesTest_45 (k := ?_)
      refine g_get (M := mX11_takesTest) (pc := 46) (ji := 13) (by rfl) fX11_13 kX11_50 dX11_takesTest_46 (kk := fun hr46 => ?_)
      simp only [up_same, up_cell, up_slot, ne_eq, not_false_eq_true, Nat.reduceEqDiff, Int.reduceEq, reduceCtorEq, Nat.reduceAdd, Int.reduceAdd, Int.reduceSub] at hr46 ⊢
      refine g_iconst (M := mX11_takesTest) (pc := 49) dX11_takesTest_49 (k := ?_)
      refine g_iadd (M := mX11_takesTest) (pc := 50) dX11_takesTest_50 (k := ?_)
      refine g_put (M := mX11_takesTest) (pc := 51) (ji := 13) (by rfl) fX11_13 kX11_50 dX11_takesTest_51 (by omega) (kk := ?_)
      refine g_aload_n (M := mX11_takesTest) (pc := 54) dX11_takesTest_54 rfl (k := ?_)
      refine g_cV0I (M := mX11_takesTest) (pc := 55) (c_X11_takesNumber Γ t _ (by refine jvu69_13 ?_ (by omega) (by omega); refine jvu69_13 ?_ (by omega) (by omega); exact hI)) qX11_takesNumber vX11_takesNumber sX11_takesNumber kX11_258 dX11_takesTest_55 (kk := ?_)
      rintro r55 τ55 ⟨hi55, hm55, hI55, hG55⟩
      try simp only [up_same, up_cell, up_slot, ne_eq, not_false_eq_true, Nat.reduceEqDiff, Int.reduceEq, reduceCtorEq, Nat.reduceAdd, Int.reduceAdd, Int.reduceSub] at hi55 hm55
      have hk55_69_23 := hG55 69 23 rfl
      simp only [up_same, up_cell, up_slot, ne_eq, not_false_eq_true, Nat.reduceEqDiff, Int.reduceEq, reduceCtorEq, Nat.reduceAdd, Int.reduceAdd, Int.reduceSub] at hk55_69_23
      have hk55_69_24 := hG55 69 24 rfl
      simp only [up_same, up_cell, up_slot, ne_eq, not_false_eq_true, Nat.reduceEqDiff, Int.reduceEq, reduceCtorEq, Nat.reduceAdd, Int.reduceAdd, Int.reduceSub] at hk55_69_24
      have hk55_69_25 := hG55 69 25 rfl
      simp only [up_same, up_cell, up_slot, ne_eq, not_false_eq_true, Nat.reduceEqDiff, Int.reduceEq, reduceCtorEq, Nat.reduceAdd, Int.reduceAdd, Int.reduceSub] at hk55_69_25
      have hF55 : Fr jcT σ τ55 := by refine Fr.tr ?_ (Fr.mono hG55 sb_jcD_jcT); refine Fr.up ?_ (by first | rfl | (unfold jcT; simp; try omega)); refine Fr.up ?_ (by first | rfl | (unfold jcT; simp; try omega)); exact (Fr.rf)
      refine g_if_ne (M := mX11_takesTest) (pc := 58) (tgt := 63) (by omega) dX11_takesTest_58 (k1 := fun h58 => ?_) (k2 := fun h58 => ?_)
      · skip
        refine g_aload_n (M := mX11_takesTest) (pc := 63) dX11_takesTest_63 rfl (k := ?_)
        refine g_sipush (M := mX11_takesTest) (pc := 64) dX11_takesTest_64 (k := ?_)
        refine g_iload_n (M := mX11_takesTest) (pc := 67) dX11_takesTest_67 rfl (k := ?_)
        refine g_imul (M := mX11_takesTest) (pc := 68) dX11_takesTest_68 (k := ?_)
        refine g_bipush (M := mX11_takesTest) (pc := 69) dX11_takesTest_69 (k := ?_)
        refine g_iload_n (M := mX11_takesTest) (pc := 71) dX11_takesTest_71 rfl (k := ?_)
        refine g_bipush (M := mX11_takesTest) (pc := 72) dX11_takesTest_72 (k := ?_)
        refine g_isub (M := mX11_takesTest) (pc := 74) dX11_takesTest_74 (k := ?_)
        refine g_imul (M := mX11_takesTest) (pc := 75) dX11_takesTest_75 (k := ?_)
        refine g_iadd (M := mX11_takesTest) (pc := 76) dX11_takesTest_76 (k := ?_)
        refine g_aload_n (M := mX11_takesTest) (pc := 77) dX11_takesTest_77 rfl (k := ?_)
        refine g_get (M := mX11_takesTest) (pc := 78) (ji := 14) (by rfl) fX11_14 kX11_53 dX11_takesTest_78 (kk := fun hr78 => ?_)
        have hb78 := jv69_14 hI55 14 (by omega) (by omega)
        refine g_iadd (M := mX11_takesTest) (pc := 81) dX11_takesTest_81 (k := ?_)
        refine g_cV1V (M := mX11_takesTest) (pc := 82) (c_X11_emits Γ t _ _ (by omega) (by omega)) qX11_emits vX11_emits sX11_emits kX11_250 dX11_takesTest_82 (kk := ?_)
        rintro _ e; rw [e]; clear e
        refine g_aload_n (M := mX11_takesTest) (pc := 85) dX11_takesTest_85 rfl (k := ?_)
        refine g_cV0V (M := mX11_takesTest) (pc := 86) (c_X11_whole Γ t _ a b (by refine jvu69_23 ?_ (by omega) (by omega); refine jv_cell ?_ (by rfl); exact hI55) (PS_val hP (fun j => hG55 84 j rfl) (fun j => hG55 85 j rfl) (by omega) (by omega) (by omega) (by omega) (by omega)) (by first | omega | (simp only [up_same, up_cell, up_slot, ne_eq, not_false_eq_true, Nat.reduceEqDiff, Int.reduceEq, reduceCtorEq, Nat.reduceAdd, Int.reduceAdd, Int.reduceSub]; done) | (simp only [up_same, up_cell, up_slot, ne_eq, not_false_eq_true, Nat.reduceEqDiff, Int.reduceEq, reduceCtorEq, Nat.reduceAdd, Int.reduceAdd, Int.reduceSub]; omega))) qX11_whole vX11_whole sX11_whole kX11_261 dX11_takesTest_86 (kk := ?_)
        rintro τ86 ⟨hp86, hk86, hI86, hG86⟩
        try simp only [up_same, up_cell, up_slot, ne_eq, not_false_eq_true, Nat.reduceEqDiff, Int.reduceEq, reduceCtorEq, Nat.reduceAdd, Int.reduceAdd, Int.reduceSub] at hp86 hk86
        have hk86_69_13 := hG86 69 13 rfl
        simp only [up_same, up_cell, up_slot, ne_eq, not_false_eq_true, Nat.reduceEqDiff, Int.reduceEq, reduceCtorEq, Nat.reduceAdd, Int.reduceAdd, Int.reduceSub] at hk86_69_13
        have hF86 : Fr jcT σ τ86 := by refine Fr.tr ?_ (Fr.mono hG86 sb_jcW_jcT); refine Fr.up ?_ (by first | rfl | (unfold jcT; simp; try omega)); refine Fr.up ?_ (by first | rfl | (unfold jcT; simp; try omega)); exact hF55
        refine g_iconst (M := mX11_takesTest) (pc := 89) dX11_takesTest_89 (k := ?_)
        refine g_zret (M := mX11_takesTest) (pc := 90) (by first | omega | (unfold b2; split <;> omega)) rfl dX11_takesTest_90 rfl ⟨_, _, rfl, rfl, ?_⟩
        refine ⟨?_, ?_, ?_, ?_⟩
        · first | exact Or.inl rfl | exact Or.inr ⟨rfl, hp86, by omega⟩
        · intro j hj; first | rfl | exact hG55 84 j rfl | (rw [hk86 j hj]; (try rw [up_cell (by decide)]); rw [up_slot (by omega)]; exact (hG55 84 j rfl).trans (by simp only [up_same, up_cell, up_slot, ne_eq, not_false_eq_true, Nat.reduceEqDiff, Int.reduceEq, reduceCtorEq, Nat.reduceAdd, Int.reduceAdd, Int.reduceSub])) | (simp only [up_same, up_cell, up_slot, ne_eq, not_false_eq_true, Nat.reduceEqDiff, Int.reduceEq, reduceCtorEq, Nat.reduceAdd, Int.reduceAdd, Int.reduceSub]; done)
        · exact hI86
        · exact hF86
      · skip
        refine g_iconst (M := mX11_takesTest) (pc := 61) dX11_takesTest_61 (k := ?_)
        refine g_zret (M := mX11_takesTest) (pc := 62) (by first | omega | (unfold b2; split <;> omega)) rfl dX11_takesTest_62 rfl ⟨_, _, rfl, rfl, ?_⟩
        refine ⟨?_, ?_, ?_, ?_⟩
        · first | exact Or.inl rfl | exact Or.inr ⟨rfl, hp86, by omega⟩
        · intro j hj; first | rfl | exact hG55 84 j rfl | (rw [hk86 j hj]; (try rw [up_cell (by decide)]); rw [up_slot (by omega)]; exact (hG55 84 j rfl).trans (by simp only [up_same, up_cell, up_slot, ne_eq, not_false_eq_true, Nat.reduceEqDiff, Int.reduceEq, reduceCtorEq, Nat.reduceAdd, Int.reduceAdd, Int.reduceSub])) | (simp only [up_same, up_cell, up_slot, ne_eq, not_false_eq_true, Nat.reduceEqDiff, Int.reduceEq, reduceCtorEq, Nat.reduceAdd, Int.reduceAdd, Int.reduceSub]; done)
        · exact hI55
        · exact hF55
    · skip
      refine g_iconst (M := mX11_takesTest) (pc := 42) dX11_takesTest_42 (k := ?_)
      refine g_zret (M := mX11_takesTest) (pc := 43) (by first | omega | (unfold b2; split <;> omega)) rfl dX11_takesTest_43 rfl ⟨_, _, rfl, rfl, ?_⟩
      refine ⟨?_, ?_, ?_, ?_⟩
      · first | exact Or.inl rfl | exact Or.inr ⟨rfl, hp86, by omega⟩
      · intro j hj; first | rfl | exact hG55 84 j rfl | (rw [hk86 j hj]; (try rw [up_cell (by decide)]); rw [up_slot (by omega)]; exact (hG55 84 j rfl).trans (by simp only [up_same, up_cell, up_slot, ne_eq, not_false_eq_true, Nat.reduceEqDiff, Int.reduceEq, reduceCtorEq, Nat.reduceAdd, Int.reduceAdd, Int.reduceSub])) | (simp only [up_same, up_cell, up_slot, ne_eq, not_false_eq_true, Nat.reduceEqDiff, Int.reduceEq, reduceCtorEq, Nat.reduceAdd, Int.reduceAdd, Int.reduceSub]; done)
      · refine jvu69_13 ?_ (by omega) (by omega); exact hI
      · refine Fr.up ?_ (by first | rfl | (unfold jcT; simp; try omega)); exact (Fr.rf)
  · skip
    refine g_iconst (M := mX11_takesTest) (pc := 13) dX11_takesTest_13 (k := ?_)
    refine g_zret (M := mX11_takesTest) (pc := 14) (by first | omega | (unfold b2; split <;> omega)) rfl dX11_takesTest_14 rfl ⟨_, _, rfl, rfl, ?_⟩
    refine ⟨?_, ?_, ?_, ?_⟩
    · first | exact Or.inl rfl | exact Or.inr ⟨rfl, hp86, by omega⟩
    · intro j hj; first | rfl | exact hG55 84 j rfl | (rw [hk86 j hj]; (try rw [up_cell (by decide)]); rw [up_slot (by omega)]; exact (hG55 84 j rfl).trans (by simp only [up_same, up_cell, up_slot, ne_eq, not_false_eq_true, Nat.reduceEqDiff, Int.reduceEq, reduceCtorEq, Nat.reduceAdd, Int.reduceAdd, Int.reduceSub])) | (simp only [up_same, up_cell, up_slot, ne_eq, not_false_eq_true, Nat.reduceEqDiff, Int.reduceEq, reduceCtorEq, Nat.reduceAdd, Int.reduceAdd, Int.reduceSub]; done)
    · exact hI
    · exact (Fr.rf)
