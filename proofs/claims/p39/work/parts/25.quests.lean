set_option maxHeartbeats 4000000 in
set_option maxRecDepth 20000 in
theorem c_X2_comesIn (Γ : KT) (t : Nat) (σ : Nat → Int → Int) (f : Int) (h : Int) (g : Int) (hI : InvX σ) (hf : 0 ≤ f ∧ f < 4) (hh : 0 ≤ h ∧ h < 6) (hg : 0 ≤ g ∧ g ≤ 99) : Ct Γ mX2_comesIn 6 (0, 0) [vR Γ 62, vI f, vI h, vI g] (113, ρT t, σ) (pI 113 (ρT t) (fun r σ' => (0 ≤ r ∧ r ≤ 1) ∧ ((-1050200 ≤ σ' 66 7 ∧ σ' 66 7 ≤ 1050200)) ∧ (InvX σ') ∧ (Fr scX σ σ'))) := by
  refine Ct.of rfl (Nat.le_of_ble_eq_true rfl) ?_
  show G Γ mX2_comesIn 6 (0, 0) _ (0, 0) 0 [some (vR Γ 62), some (vI f), some (vI h), some (vI g)] [] (113, ρT t, σ)
  refine g_aload_n (M := mX2_comesIn) (pc := 0) dX2_comesIn_0 rfl (k := ?_)
  refine g_getr (M := mX2_comesIn) (pc := 1) (by rfl) fX2_2 kX2_31 dX2_comesIn_1 (by rfl) (kk := ?_)
  refine g_iload_n (M := mX2_comesIn) (pc := 4) dX2_comesIn_4 rfl (k := ?_)
  refine g_iload_n (M := mX2_comesIn) (pc := 5) dX2_comesIn_5 rfl (k := ?_)
  refine g_iload_n (M := mX2_comesIn) (pc := 6) dX2_comesIn_6 rfl (k := ?_)
  refine g_cV3V (M := mX2_comesIn) (pc := 7) (c_X1_measure Γ t _ _ _ _ hI (by omega) (by omega) (by omega)) qX1_measure vX1_measure sX1_measure kX2_35 dX2_comesIn_7 (kk := ?_)
  rintro τ7 ⟨hI7, hG7⟩
  have hF7 : Fr scX σ τ7 := by refine Fr.tr ?_ (Fr.mono hG7 sb_scM_scX); exact (Fr.rf)
  refine g_aload_n (M := mX2_comesIn) (pc := 10) dX2_comesIn_10 rfl (k := ?_)
  refine g_getr (M := mX2_comesIn) (pc := 11) (by rfl) fX2_2 kX2_31 dX2_comesIn_11 (by rfl) (kk := ?_)
  refine g_iload_n (M := mX2_comesIn) (pc := 14) dX2_comesIn_14 rfl (k := ?_)
  refine g_iconst (M := mX2_comesIn) (pc := 15) dX2_comesIn_15 (k := ?_)
  refine g_cV2V (M := mX2_comesIn) (pc := 16) (c_X1_begin Γ t _ _ _ hI7 (by omega) (by omega)) qX1_begin vX1_begin sX1_begin kX2_39 dX2_comesIn_16 (kk := ?_)
  rintro τ16 ⟨hm16, hI16, hG16⟩
  have hF16 : Fr scX σ τ16 := by refine Fr.tr ?_ (Fr.mono hG16 sb_scN_scX); exact hF7
  refine g_aload_n (M := mX2_comesIn) (pc := 19) dX2_comesIn_19 rfl (k := ?_)
  refine g_getr (M := mX2_comesIn) (pc := 20) (by rfl) fX2_2 kX2_31 dX2_comesIn_20 (by rfl) (kk := ?_)
  refine g_iload_n (M := mX2_comesIn) (pc := 23) dX2_comesIn_23 rfl (k := ?_)
  refine g_cV1I (M := mX2_comesIn) (pc := 24) (c_X1_reach Γ t _ _ hI16 (by omega) (by omega)) qX1_reach vX1_reach sX1_reach kX2_43 dX2_comesIn_24 (kk := ?_)
  rintro r24 τ24 ⟨hi24, hm24, hI24, hG24⟩
  have hF24 : Fr scX σ τ24 := by refine Fr.tr ?_ (Fr.mono hG24 sb_scN_scX); exact hF16
  refine g_zret (M := mX2_comesIn) (pc := 27) (by first | omega | (unfold b2; split <;> omega)) rfl dX2_comesIn_27 rfl ⟨_, _, rfl, rfl, ?_⟩
  refine ⟨?_, ?_, ?_, ?_⟩
  · omega
  · omega
  · exact hI24
  · exact hF24
set_option maxHeartbeats 4000000 in
set_option maxRecDepth 20000 in
theorem c_X2_followPlan (Γ : KT) (t : Nat) (σ : Nat → Int → Int) (f : Int) (hI : InvX σ) (hf : 0 ≤ f ∧ f < 4) : Ct Γ mX2_followPlan 6 (0, 0) [vR Γ 62, vI f] (113, ρT t, σ) (pI 113 (ρT t) (fun r σ' => (-5 ≤ r ∧ r ≤ 8) ∧ (InvX σ') ∧ (Fr scX σ σ'))) := by
  refine Ct.of rfl (Nat.le_of_ble_eq_true rfl) ?_
  show G Γ mX2_followPlan 6 (0, 0) _ (0, 0) 0 [some (vR Γ 62), some (vI f), none, none, none] [] (113, ρT t, σ)
  refine g_bipush (M := mX2_followPlan) (pc := 0) dX2_followPlan_0 (k := ?_)
  refine g_istore_2 (M := mX2_followPlan) (pc := 2) dX2_followPlan_2 (k := ?_)
  refine g_aload_n (M := mX2_followPlan) (pc := 3) dX2_followPlan_3 rfl (k := ?_)
  refine g_getr (M := mX2_followPlan) (pc := 4) (by rfl) fX2_2 kX2_31 dX2_followPlan_4 (by rfl) (kk := ?_)
  refine g_iload_n (M := mX2_followPlan) (pc := 7) dX2_followPlan_7 rfl (k := ?_)
  refine g_iconst (M := mX2_followPlan) (pc := 8) dX2_followPlan_8 (k := ?_)
  refine g_cV2V (M := mX2_followPlan) (pc := 9) (c_X1_begin Γ t _ _ _ hI (by omega) (by omega)) qX1_begin vX1_begin sX1_begin kX2_39 dX2_followPlan_9 (kk := ?_)
  rintro τ9 ⟨hm9, hI9, hG9⟩
  have hF9 : Fr scX σ τ9 := by refine Fr.tr ?_ (Fr.mono hG9 sb_scN_scX); exact (Fr.rf)
  refine g_iconst (M := mX2_followPlan) (pc := 12) dX2_followPlan_12 (k := ?_)
  refine g_istore_3 (M := mX2_followPlan) (pc := 13) dX2_followPlan_13 (k := ?_)
  have loop14 : ∀ (N : Nat) (τ14 : Nat → Int → Int) (sp : Int) (q : Int), ((9 - q).toNat) < N → ((InvX τ14) ∧ (Fr scX σ τ14) ∧ (-5 ≤ sp ∧ sp ≤ 8) ∧ (0 ≤ q ∧ q ≤ 8) ∧ (-(200 + 1050000 * q) ≤ τ14 66 7 ∧ τ14 66 7 ≤ 200 + 1050000 * q)) → G Γ mX2_followPlan 6 (0, 0) (pI 113 (ρT t) (fun r σ' => (-5 ≤ r ∧ r ≤ 8) ∧ (InvX σ') ∧ (Fr scX σ σ'))) (0, 0) 14 [some (vR Γ 62), some (vI f), some (vI sp), some (vI q), none] [] (113, ρT t, τ14) := by
    intro N
    induction N with
    | zero => intro τ14 sp q hmu14 hinv14; exact absurd hmu14 (Nat.not_lt_zero _)
    | succ N ih14 =>
      intro τ14 sp q hmu14 hinv14
      obtain ⟨hI14, hF14, hb14_sp, hb14_q, hx14_0⟩ := hinv14
      refine g_iload_n (M := mX2_followPlan) (pc := 14) dX2_followPlan_14 rfl (k := ?_)
      refine g_aload_n (M := mX2_followPlan) (pc := 15) dX2_followPlan_15 rfl (k := ?_)
      refine g_getr (M := mX2_followPlan) (pc := 16) (by rfl) fX2_0 kX2_18 dX2_followPlan_16 (by rfl) (kk := ?_)
      refine g_getr (M := mX2_followPlan) (pc := 19) (by rfl) fX5_10 kX2_47 dX2_followPlan_19 (by rfl) (kk := ?_)
      refine g_get (M := mX2_followPlan) (pc := 22) (ji := 2) (by rfl) fX4_2 kX2_53 dX2_followPlan_22 (kk := fun hr22 => ?_)
      have hb22 := iv42_2 hI14 2 (by omega) (by omega)
      refine g_icmp_ge (M := mX2_followPlan) (pc := 25) (tgt := 88) (by omega) (by omega) dX2_followPlan_25 (k1 := fun h25 => ?_) (k2 := fun h25 => ?_)
      · skip
        refine g_iload_n (M := mX2_followPlan) (pc := 88) dX2_followPlan_88 rfl (k := ?_)
        refine g_iret (M := mX2_followPlan) (pc := 89) rfl dX2_followPlan_89 rfl ⟨_, _, rfl, rfl, ?_⟩
        refine ⟨?_, ?_, ?_⟩
        · omega
        · exact hI14
        · exact hF14
      · skip
        refine g_aload_n (M := mX2_followPlan) (pc := 28) dX2_followPlan_28 rfl (k := ?_)
        refine g_getr (M := mX2_followPlan) (pc := 29) (by rfl) fX2_0 kX2_18 dX2_followPlan_29 (by rfl) (kk := ?_)
        refine g_getr (M := mX2_followPlan) (pc := 32) (by rfl) fX5_10 kX2_47 dX2_followPlan_32 (by rfl) (kk := ?_)
        refine g_getr (M := mX2_followPlan) (pc := 35) (by rfl) fX4_0 kX2_59 dX2_followPlan_35 (by rfl) (kk := ?_)
        refine g_iload_n (M := mX2_followPlan) (pc := 38) dX2_followPlan_38 rfl (k := ?_)
        refine g_iald (M := mX2_followPlan) (pc := 39) (by rfl) (by omega) (by omega) dX2_followPlan_39 (kk := fun hr39 => ?_)
        have hb39 := iv43_0 hI14 q (by omega) (by omega)
        refine g_istore_4 (M := mX2_followPlan) (pc := 40) dX2_followPlan_40 (k := ?_)
        refine g_aload_n (M := mX2_followPlan) (pc := 42) dX2_followPlan_42 rfl (k := ?_)
        refine g_getr (M := mX2_followPlan) (pc := 43) (by rfl) fX2_2 kX2_31 dX2_followPlan_43 (by rfl) (kk := ?_)
        refine g_iload_n (M := mX2_followPlan) (pc := 46) dX2_followPlan_46 rfl (k := ?_)
        refine g_iload (M := mX2_followPlan) (pc := 47) dX2_followPlan_47 rfl (k := ?_)
        refine g_aload_n (M := mX2_followPlan) (pc := 49) dX2_followPlan_49 rfl (k := ?_)
        refine g_getr (M := mX2_followPlan) (pc := 50) (by rfl) fX2_0 kX2_18 dX2_followPlan_50 (by rfl) (kk := ?_)
        refine g_getr (M := mX2_followPlan) (pc := 53) (by rfl) fX5_3 kX2_63 dX2_followPlan_53 (by rfl) (kk := ?_)
        refine g_iload (M := mX2_followPlan) (pc := 56) dX2_followPlan_56 rfl (k := ?_)
        refine g_iald (M := mX2_followPlan) (pc := 58) (by rfl) (by omega) (by omega) dX2_followPlan_58 (kk := fun hr58 => ?_)
        have hb58 := iv36_0 hI14 (τ14 43 q) (by omega) (by omega)
        refine g_cV3V (M := mX2_followPlan) (pc := 59) (c_X1_measure Γ t _ _ _ _ hI14 (by omega) (by omega) (by omega)) qX1_measure vX1_measure sX1_measure kX2_35 dX2_followPlan_59 (kk := ?_)
        rintro τ59 ⟨hI59, hG59⟩
        have hk59_66_7 := hG59 66 7 rfl
        have hF59 : Fr scX σ τ59 := by refine Fr.tr ?_ (Fr.mono hG59 sb_scM_scX); exact hF14
        refine g_aload_n (M := mX2_followPlan) (pc := 62) dX2_followPlan_62 rfl (k := ?_)
        refine g_getr (M := mX2_followPlan) (pc := 63) (by rfl) fX2_2 kX2_31 dX2_followPlan_63 (by rfl) (kk := ?_)
        refine g_iload (M := mX2_followPlan) (pc := 66) dX2_followPlan_66 rfl (k := ?_)
        refine g_cV1I (M := mX2_followPlan) (pc := 68) (c_X1_reach Γ t _ _ hI59 (by omega) (by omega)) qX1_reach vX1_reach sX1_reach kX2_43 dX2_followPlan_68 (kk := ?_)
        rintro r68 τ68 ⟨hi68, hm68, hI68, hG68⟩
        have hF68 : Fr scX σ τ68 := by refine Fr.tr ?_ (Fr.mono hG68 sb_scN_scX); exact hF59
        refine g_if_ne (M := mX2_followPlan) (pc := 71) (tgt := 82) (by omega) dX2_followPlan_71 (k1 := fun h71 => ?_) (k2 := fun h71 => ?_)
        · skip
          refine g_iinc_3 (M := mX2_followPlan) (pc := 82) dX2_followPlan_82 (k := ?_)
          refine g_goto (M := mX2_followPlan) (pc := 85) (tgt := 14) dX2_followPlan_85 (k := ?_)
          refine g_less (leL_s (leL_s (leL_s (leL_s (leL_n leL_0))))) ?_
          refine ih14 _ _ _ ?_ ?_
          · omega
          · skip
            refine ⟨?_, ?_, ?_, ?_, ?_⟩
            · exact hI68
            · exact hF68
            · omega
            · omega
            · omega
        · skip
          refine g_iload_n (M := mX2_followPlan) (pc := 74) dX2_followPlan_74 rfl (k := ?_)
          refine g_bipush (M := mX2_followPlan) (pc := 75) dX2_followPlan_75 (k := ?_)
          refine g_icmp_ne (M := mX2_followPlan) (pc := 77) (tgt := 82) (by omega) (by omega) dX2_followPlan_77 (k1 := fun h77 => ?_) (k2 := fun h77 => ?_)
          · skip
            refine g_iinc_3 (M := mX2_followPlan) (pc := 82) dX2_followPlan_82 (k := ?_)
            refine g_goto (M := mX2_followPlan) (pc := 85) (tgt := 14) dX2_followPlan_85 (k := ?_)
            refine g_less (leL_s (leL_s (leL_s (leL_s (leL_n leL_0))))) ?_
            refine ih14 _ _ _ ?_ ?_
            · omega
            · skip
              refine ⟨?_, ?_, ?_, ?_, ?_⟩
              · exact hI68
              · exact hF68
              · omega
              · omega
              · omega
          · skip
            refine g_iload_n (M := mX2_followPlan) (pc := 80) dX2_followPlan_80 rfl (k := ?_)
            refine g_istore_2 (M := mX2_followPlan) (pc := 81) dX2_followPlan_81 (k := ?_)
            refine g_iinc_3 (M := mX2_followPlan) (pc := 82) dX2_followPlan_82 (k := ?_)
            refine g_goto (M := mX2_followPlan) (pc := 85) (tgt := 14) dX2_followPlan_85 (k := ?_)
            refine g_less (leL_s (leL_s (leL_s (leL_s (leL_n leL_0))))) ?_
            refine ih14 _ _ _ ?_ ?_
            · omega
            · skip
              refine ⟨?_, ?_, ?_, ?_, ?_⟩
              · exact hI68
              · exact hF68
              · omega
              · omega
              · omega
  refine loop14 _ _ _ _ (Nat.lt_succ_self _) ?_
  refine ⟨?_, ?_, ?_, ?_, ?_⟩
  · exact hI9
  · exact hF9
  · omega
  · omega
  · omega
set_option maxHeartbeats 4000000 in
set_option maxRecDepth 20000 in
theorem c_X2_bestRound (Γ : KT) (t : Nat) (σ : Nat → Int → Int) (f : Int) (s : Int) (hI : InvX σ) (hf : 0 ≤ f ∧ f < 4) : Ct Γ mX2_bestRound 6 (0, 0) [vR Γ 62, vI f, vI s] (113, ρT t, σ) (pA Γ 113 (ρT t) (fun r σ' => (r = 63) ∧ (InvX σ') ∧ (Fr scX σ σ'))) := by
  refine Ct.of rfl (Nat.le_of_ble_eq_true rfl) ?_
  show G Γ mX2_bestRound 6 (0, 0) _ (0, 0) 0 [some (vR Γ 62), some (vI f), some (vI s), none, none, none] [] (113, ρT t, σ)
  refine g_aload_n (M := mX2_bestRound) (pc := 0) dX2_bestRound_0 rfl (k := ?_)
  refine g_getr (M := mX2_bestRound) (pc := 1) (by rfl) fX2_3 kX2_12 dX2_bestRound_1 (by rfl) (kk := ?_)
  refine g_iload_n (M := mX2_bestRound) (pc := 4) dX2_bestRound_4 rfl (k := ?_)
  refine g_cV1V (M := mX2_bestRound) (pc := 5) (c_X3_start Γ t _ _ hI) qX3_start vX3_start sX3_start kX2_66 dX2_bestRound_5 (kk := ?_)
  rintro τ5 ⟨hI5, hG5⟩
  have hF5 : Fr scX σ τ5 := by refine Fr.tr ?_ (Fr.mono hG5 sb_scR_scX); exact (Fr.rf)
  refine g_iconst (M := mX2_bestRound) (pc := 8) dX2_bestRound_8 (k := ?_)
  refine g_istore_3 (M := mX2_bestRound) (pc := 9) dX2_bestRound_9 (k := ?_)
  have loop10 : ∀ (N : Nat) (τ10 : Nat → Int → Int) (q : Int), ((6 - q).toNat) < N → ((InvX τ10) ∧ (Fr scX σ τ10) ∧ (0 ≤ q ∧ q ≤ 5)) → G Γ mX2_bestRound 6 (0, 0) (pA Γ 113 (ρT t) (fun r σ' => (r = 63) ∧ (InvX σ') ∧ (Fr scX σ σ'))) (0, 0) 10 [some (vR Γ 62), some (vI f), some (vI s), some (vI q), none, none] [] (113, ρT t, τ10) := by
    intro N
    induction N with
    | zero => intro τ10 q hmu10 hinv10; exact absurd hmu10 (Nat.not_lt_zero _)
    | succ N ih10 =>
      intro τ10 q hmu10 hinv10
      obtain ⟨hI10, hF10, hb10_q⟩ := hinv10
      refine g_iload_n (M := mX2_bestRound) (pc := 10) dX2_bestRound_10 rfl (k := ?_)
      refine g_aload_n (M := mX2_bestRound) (pc := 11) dX2_bestRound_11 rfl (k := ?_)
      refine g_getr (M := mX2_bestRound) (pc := 12) (by rfl) fX2_3 kX2_12 dX2_bestRound_12 (by rfl) (kk := ?_)
      refine g_get (M := mX2_bestRound) (pc := 15) (ji := 2) (by rfl) fX3_2 kX2_70 dX2_bestRound_15 (kk := fun hr15 => ?_)
      have hb15 := iv63_2 hI10 2 (by omega) (by omega)
      refine g_icmp_ge (M := mX2_bestRound) (pc := 18) (tgt := 58) (by omega) (by omega) dX2_bestRound_18 (k1 := fun h18 => ?_) (k2 := fun h18 => ?_)
      · skip
        refine g_iconst (M := mX2_bestRound) (pc := 58) dX2_bestRound_58 (k := ?_)
        refine g_istore_3 (M := mX2_bestRound) (pc := 59) dX2_bestRound_59 (k := ?_)
        refine g_iconst (M := mX2_bestRound) (pc := 60) dX2_bestRound_60 (k := ?_)
        refine g_istore_4 (M := mX2_bestRound) (pc := 61) dX2_bestRound_61 (k := ?_)
        have loop63 : ∀ (N : Nat) (τ63 : Nat → Int → Int) (an : Int) (tr : Int), ((121 - tr).toNat) < N → ((InvX τ63) ∧ (Fr scX σ τ63) ∧ (0 ≤ an ∧ an ≤ 1) ∧ (0 ≤ tr ∧ tr ≤ 120)) → G Γ mX2_bestRound 6 (0, 0) (pA Γ 113 (ρT t) (fun r σ' => (r = 63) ∧ (InvX σ') ∧ (Fr scX σ σ'))) (0, 0) 63 [some (vR Γ 62), some (vI f), some (vI s), some (vI an), some (vI tr), none] [] (113, ρT t, τ63) := by
          intro N
          induction N with
          | zero => intro τ63 an tr hmu63 hinv63; exact absurd hmu63 (Nat.not_lt_zero _)
          | succ N ih63 =>
            intro τ63 an tr hmu63 hinv63
            obtain ⟨hI63, hF63, hb63_an, hb63_tr⟩ := hinv63
            refine g_iload (M := mX2_bestRound) (pc := 63) dX2_bestRound_63 rfl (k := ?_)
            refine g_bipush (M := mX2_bestRound) (pc := 65) dX2_bestRound_65 (k := ?_)
            refine g_icmp_ge (M := mX2_bestRound) (pc := 67) (tgt := 160) (by omega) (by omega) dX2_bestRound_67 (k1 := fun h67 => ?_) (k2 := fun h67 => ?_)
            · skip
              refine g_aload_n (M := mX2_bestRound) (pc := 160) dX2_bestRound_160 rfl (k := ?_)
              refine g_getr (M := mX2_bestRound) (pc := 161) (by rfl) fX2_3 kX2_12 dX2_bestRound_161 (by rfl) (kk := ?_)
              refine g_aret (M := mX2_bestRound) (pc := 164) rfl dX2_bestRound_164 rfl ⟨_, _, rfl, rfl, ?_⟩
              refine ⟨?_, ?_, ?_⟩
              · rfl
              · exact hI63
              · exact hF63
            · skip
              refine g_iload_n (M := mX2_bestRound) (pc := 70) dX2_bestRound_70 rfl (k := ?_)
              refine g_if_eq (M := mX2_bestRound) (pc := 71) (tgt := 160) (by omega) dX2_bestRound_71 (k1 := fun h71 => ?_) (k2 := fun h71 => ?_)
              · skip
                refine g_aload_n (M := mX2_bestRound) (pc := 160) dX2_bestRound_160 rfl (k := ?_)
                refine g_getr (M := mX2_bestRound) (pc := 161) (by rfl) fX2_3 kX2_12 dX2_bestRound_161 (by rfl) (kk := ?_)
                refine g_aret (M := mX2_bestRound) (pc := 164) rfl dX2_bestRound_164 rfl ⟨_, _, rfl, rfl, ?_⟩
                refine ⟨?_, ?_, ?_⟩
                · rfl
                · exact hI63
                · exact hF63
              · skip
                refine g_aload_n (M := mX2_bestRound) (pc := 74) dX2_bestRound_74 rfl (k := ?_)
                refine g_getr (M := mX2_bestRound) (pc := 75) (by rfl) fX2_2 kX2_31 dX2_bestRound_75 (by rfl) (kk := ?_)
                refine g_iload_n (M := mX2_bestRound) (pc := 78) dX2_bestRound_78 rfl (k := ?_)
                refine g_iconst (M := mX2_bestRound) (pc := 79) dX2_bestRound_79 (k := ?_)
                refine g_cV2V (M := mX2_bestRound) (pc := 80) (c_X1_begin Γ t _ _ _ hI63 (by omega) (by omega)) qX1_begin vX1_begin sX1_begin kX2_39 dX2_bestRound_80 (kk := ?_)
                rintro τ80 ⟨hm80, hI80, hG80⟩
                have hF80 : Fr scX σ τ80 := by refine Fr.tr ?_ (Fr.mono hG80 sb_scN_scX); exact hF63
                refine g_iconst (M := mX2_bestRound) (pc := 83) dX2_bestRound_83 (k := ?_)
                refine g_istore_5 (M := mX2_bestRound) (pc := 84) dX2_bestRound_84 (k := ?_)
                have loop86 : ∀ (N : Nat) (τ86 : Nat → Int → Int) (p : Int), ((6 - p).toNat) < N → ((InvX τ86) ∧ (Fr scX σ τ86) ∧ (0 ≤ p ∧ p ≤ 5) ∧ (-(200 + 1050000 * p) ≤ τ86 66 7 ∧ τ86 66 7 ≤ 200 + 1050000 * p)) → G Γ mX2_bestRound 6 (0, 0) (pA Γ 113 (ρT t) (fun r σ' => (r = 63) ∧ (InvX σ') ∧ (Fr scX σ σ'))) (0, 0) 86 [some (vR Γ 62), some (vI f), some (vI s), some (vI an), some (vI tr), some (vI p)] [] (113, ρT t, τ86) := by
                  intro N
                  induction N with
                  | zero => intro τ86 p hmu86 hinv86; exact absurd hmu86 (Nat.not_lt_zero _)
                  | succ N ih86 =>
                    intro τ86 p hmu86 hinv86
                    obtain ⟨hI86, hF86, hb86_p, hx86_0⟩ := hinv86
                    refine g_iload (M := mX2_bestRound) (pc := 86) dX2_bestRound_86 rfl (k := ?_)
                    refine g_aload_n (M := mX2_bestRound) (pc := 88) dX2_bestRound_88 rfl (k := ?_)
                    refine g_getr (M := mX2_bestRound) (pc := 89) (by rfl) fX2_3 kX2_12 dX2_bestRound_89 (by rfl) (kk := ?_)
                    refine g_get (M := mX2_bestRound) (pc := 92) (ji := 2) (by rfl) fX3_2 kX2_70 dX2_bestRound_92 (kk := fun hr92 => ?_)
                    have hb92 := iv63_2 hI86 2 (by omega) (by omega)
                    refine g_icmp_ge (M := mX2_bestRound) (pc := 95) (tgt := 122) (by omega) (by omega) dX2_bestRound_95 (k1 := fun h95 => ?_) (k2 := fun h95 => ?_)
                    · skip
                      refine g_aload_n (M := mX2_bestRound) (pc := 122) dX2_bestRound_122 rfl (k := ?_)
                      refine g_getr (M := mX2_bestRound) (pc := 123) (by rfl) fX2_3 kX2_12 dX2_bestRound_123 (by rfl) (kk := ?_)
                      refine g_aload_n (M := mX2_bestRound) (pc := 126) dX2_bestRound_126 rfl (k := ?_)
                      refine g_getr (M := mX2_bestRound) (pc := 127) (by rfl) fX2_2 kX2_31 dX2_bestRound_127 (by rfl) (kk := ?_)
                      refine g_get (M := mX2_bestRound) (pc := 130) (ji := 9) (by rfl) fX1_9 kX2_74 dX2_bestRound_130 (kk := fun hr130 => ?_)
                      refine g_cS1I (M := mX2_bestRound) (pc := 133) (c_J6_bitCount_0f7a4 Γ t _ _) qJ6_bitCount_0f7a4 vJ6_bitCount_0f7a4 kX2_77 dX2_bestRound_133 (kk := ?_)
                      rintro r133 _ ⟨hf133, e⟩; rw [e]; clear e
                      refine g_aload_n (M := mX2_bestRound) (pc := 136) dX2_bestRound_136 rfl (k := ?_)
                      refine g_getr (M := mX2_bestRound) (pc := 137) (by rfl) fX2_2 kX2_31 dX2_bestRound_137 (by rfl) (kk := ?_)
                      refine g_get (M := mX2_bestRound) (pc := 140) (ji := 7) (by rfl) fX1_7 kX2_83 dX2_bestRound_140 (kk := fun hr140 => ?_)
                      refine g_cV2V (M := mX2_bestRound) (pc := 143) (c_X3_weigh Γ t _ _ _ hI86 (by omega) (by omega)) qX3_weigh vX3_weigh sX3_weigh kX2_86 dX2_bestRound_143 (kk := ?_)
                      rintro τ143 ⟨hI143, hG143⟩
                      have hF143 : Fr scX σ τ143 := by refine Fr.tr ?_ (Fr.mono hG143 sb_scR_scX); exact hF86
                      refine g_aload_n (M := mX2_bestRound) (pc := 146) dX2_bestRound_146 rfl (k := ?_)
                      refine g_getr (M := mX2_bestRound) (pc := 147) (by rfl) fX2_3 kX2_12 dX2_bestRound_147 (by rfl) (kk := ?_)
                      refine g_cV0I (M := mX2_bestRound) (pc := 150) (c_X3_advance Γ t _ hI143) qX3_advance vX3_advance sX3_advance kX2_89 dX2_bestRound_150 (kk := ?_)
                      rintro r150 τ150 ⟨hi150, hI150, hG150⟩
                      have hF150 : Fr scX σ τ150 := by refine Fr.tr ?_ (Fr.mono hG150 sb_scR_scX); exact hF143
                      refine g_istore_3 (M := mX2_bestRound) (pc := 153) dX2_bestRound_153 (k := ?_)
                      refine g_iinc_4 (M := mX2_bestRound) (pc := 154) dX2_bestRound_154 (k := ?_)
                      refine g_goto (M := mX2_bestRound) (pc := 157) (tgt := 63) dX2_bestRound_157 (k := ?_)
                      refine g_less (leL_s (leL_s (leL_s (leL_s (leL_s (leL_n leL_0)))))) ?_
                      refine ih63 _ _ _ ?_ ?_
                      · omega
                      · skip
                        refine ⟨?_, ?_, ?_, ?_⟩
                        · exact hI150
                        · exact hF150
                        · omega
                        · omega
                    · skip
                      refine g_aload_n (M := mX2_bestRound) (pc := 98) dX2_bestRound_98 rfl (k := ?_)
                      refine g_getr (M := mX2_bestRound) (pc := 99) (by rfl) fX2_2 kX2_31 dX2_bestRound_99 (by rfl) (kk := ?_)
                      refine g_aload_n (M := mX2_bestRound) (pc := 102) dX2_bestRound_102 rfl (k := ?_)
                      refine g_getr (M := mX2_bestRound) (pc := 103) (by rfl) fX2_3 kX2_12 dX2_bestRound_103 (by rfl) (kk := ?_)
                      refine g_getr (M := mX2_bestRound) (pc := 106) (by rfl) fX3_1 kX2_71 dX2_bestRound_106 (by rfl) (kk := ?_)
                      refine g_iload (M := mX2_bestRound) (pc := 109) dX2_bestRound_109 rfl (k := ?_)
                      refine g_iald (M := mX2_bestRound) (pc := 111) (by rfl) (by omega) (by omega) dX2_bestRound_111 (kk := fun hr111 => ?_)
                      have hb111 := iv65_0 hI86 p (by omega) (by omega)
                      refine g_cV1I (M := mX2_bestRound) (pc := 112) (c_X1_reach Γ t _ _ hI86 (by omega) (by omega)) qX1_reach vX1_reach sX1_reach kX2_43 dX2_bestRound_112 (kk := ?_)
                      rintro r112 τ112 ⟨hi112, hm112, hI112, hG112⟩
                      have hF112 : Fr scX σ τ112 := by refine Fr.tr ?_ (Fr.mono hG112 sb_scN_scX); exact hF86
                      refine g_popI (M := mX2_bestRound) (pc := 115) dX2_bestRound_115 (k := ?_)
                      refine g_iinc_5 (M := mX2_bestRound) (pc := 116) dX2_bestRound_116 (k := ?_)
                      refine g_goto (M := mX2_bestRound) (pc := 119) (tgt := 86) dX2_bestRound_119 (k := ?_)
                      refine ih86 _ _ ?_ ?_
                      · omega
                      · skip
                        refine ⟨?_, ?_, ?_, ?_⟩
                        · exact hI112
                        · exact hF112
                        · omega
                        · omega
                refine loop86 _ _ _ (Nat.lt_succ_self _) ?_
                refine ⟨?_, ?_, ?_, ?_⟩
                · exact hI80
                · exact hF80
                · omega
                · omega
        refine loop63 _ _ _ _ (Nat.lt_succ_self _) ?_
        refine ⟨?_, ?_, ?_, ?_⟩
        · exact hI10
        · exact hF10
        · omega
        · omega
      · skip
        refine g_aload_n (M := mX2_bestRound) (pc := 21) dX2_bestRound_21 rfl (k := ?_)
        refine g_getr (M := mX2_bestRound) (pc := 22) (by rfl) fX2_3 kX2_12 dX2_bestRound_22 (by rfl) (kk := ?_)
        refine g_getr (M := mX2_bestRound) (pc := 25) (by rfl) fX3_1 kX2_71 dX2_bestRound_25 (by rfl) (kk := ?_)
        refine g_iload_n (M := mX2_bestRound) (pc := 28) dX2_bestRound_28 rfl (k := ?_)
        refine g_iald (M := mX2_bestRound) (pc := 29) (by rfl) (by omega) (by omega) dX2_bestRound_29 (kk := fun hr29 => ?_)
        have hb29 := iv65_0 hI10 q (by omega) (by omega)
        refine g_istore_4 (M := mX2_bestRound) (pc := 30) dX2_bestRound_30 (k := ?_)
        refine g_aload_n (M := mX2_bestRound) (pc := 32) dX2_bestRound_32 rfl (k := ?_)
        refine g_getr (M := mX2_bestRound) (pc := 33) (by rfl) fX2_2 kX2_31 dX2_bestRound_33 (by rfl) (kk := ?_)
        refine g_iload_n (M := mX2_bestRound) (pc := 36) dX2_bestRound_36 rfl (k := ?_)
        refine g_iload (M := mX2_bestRound) (pc := 37) dX2_bestRound_37 rfl (k := ?_)
        refine g_aload_n (M := mX2_bestRound) (pc := 39) dX2_bestRound_39 rfl (k := ?_)
        refine g_getr (M := mX2_bestRound) (pc := 40) (by rfl) fX2_0 kX2_18 dX2_bestRound_40 (by rfl) (kk := ?_)
        refine g_getr (M := mX2_bestRound) (pc := 43) (by rfl) fX5_3 kX2_63 dX2_bestRound_43 (by rfl) (kk := ?_)
        refine g_iload (M := mX2_bestRound) (pc := 46) dX2_bestRound_46 rfl (k := ?_)
        refine g_iald (M := mX2_bestRound) (pc := 48) (by rfl) (by omega) (by omega) dX2_bestRound_48 (kk := fun hr48 => ?_)
        have hb48 := iv36_0 hI10 (τ10 65 q) (by omega) (by omega)
        refine g_cV3V (M := mX2_bestRound) (pc := 49) (c_X1_measure Γ t _ _ _ _ hI10 (by omega) (by omega) (by omega)) qX1_measure vX1_measure sX1_measure kX2_35 dX2_bestRound_49 (kk := ?_)
        rintro τ49 ⟨hI49, hG49⟩
        have hF49 : Fr scX σ τ49 := by refine Fr.tr ?_ (Fr.mono hG49 sb_scM_scX); exact hF10
        refine g_iinc_3 (M := mX2_bestRound) (pc := 52) dX2_bestRound_52 (k := ?_)
        refine g_goto (M := mX2_bestRound) (pc := 55) (tgt := 10) dX2_bestRound_55 (k := ?_)
        refine g_less (leL_s (leL_s (leL_s (leL_s (leL_n (leL_n leL_0)))))) ?_
        refine ih10 _ _ ?_ ?_
        · omega
        · skip
          refine ⟨?_, ?_, ?_⟩
          · exact hI49
          · exact hF49
          · omega
  refine loop10 _ _ _ (Nat.lt_succ_self _) ?_
  refine ⟨?_, ?_, ?_⟩
  · exact hI5
  · exact hF5
  · omega
set_option maxHeartbeats 4000000 in
set_option maxRecDepth 20000 in
theorem c_X2_leastGrain (Γ : KT) (t : Nat) (σ : Nat → Int → Int) (f : Int) (h : Int) (hI : InvX σ) (hf : 0 ≤ f ∧ f < 4) (hh : 0 ≤ h ∧ h < 6) : Ct Γ mX2_leastGrain 7 (0, 0) [vR Γ 62, vI f, vI h] (113, ρT t, σ) (pI 113 (ρT t) (fun r σ' => (-5 ≤ r ∧ r ≤ 99) ∧ (InvX σ') ∧ (Fr scX σ σ'))) := by
  refine Ct.of rfl (Nat.le_of_ble_eq_true rfl) ?_
  show G Γ mX2_leastGrain 7 (0, 0) _ (0, 0) 0 [some (vR Γ 62), some (vI f), some (vI h), none] [] (113, ρT t, σ)
  refine g_iconst (M := mX2_leastGrain) (pc := 0) dX2_leastGrain_0 (k := ?_)
  refine g_istore_3 (M := mX2_leastGrain) (pc := 1) dX2_leastGrain_1 (k := ?_)
  have loop2 : ∀ (N : Nat) (τ2 : Nat → Int → Int) (q : Int), ((101 - q).toNat) < N → ((InvX τ2) ∧ (Fr scX σ τ2) ∧ (0 ≤ q ∧ q ≤ 100)) → G Γ mX2_leastGrain 7 (0, 0) (pI 113 (ρT t) (fun r σ' => (-5 ≤ r ∧ r ≤ 99) ∧ (InvX σ') ∧ (Fr scX σ σ'))) (0, 0) 2 [some (vR Γ 62), some (vI f), some (vI h), some (vI q)] [] (113, ρT t, τ2) := by
    intro N
    induction N with
    | zero => intro τ2 q hmu2 hinv2; exact absurd hmu2 (Nat.not_lt_zero _)
    | succ N ih2 =>
      intro τ2 q hmu2 hinv2
      obtain ⟨hI2, hF2, hb2_q⟩ := hinv2
      refine g_iload_n (M := mX2_leastGrain) (pc := 2) dX2_leastGrain_2 rfl (k := ?_)
      refine g_bipush (M := mX2_leastGrain) (pc := 3) dX2_leastGrain_3 (k := ?_)
      refine g_icmp_gt (M := mX2_leastGrain) (pc := 5) (tgt := 26) (by omega) (by omega) dX2_leastGrain_5 (k1 := fun h5 => ?_) (k2 := fun h5 => ?_)
      · skip
        refine g_bipush (M := mX2_leastGrain) (pc := 26) dX2_leastGrain_26 (k := ?_)
        refine g_iret (M := mX2_leastGrain) (pc := 28) rfl dX2_leastGrain_28 rfl ⟨_, _, rfl, rfl, ?_⟩
        refine ⟨?_, ?_, ?_⟩
        · omega
        · exact hI2
        · exact hF2
      · skip
        refine g_aload_n (M := mX2_leastGrain) (pc := 8) dX2_leastGrain_8 rfl (k := ?_)
        refine g_iload_n (M := mX2_leastGrain) (pc := 9) dX2_leastGrain_9 rfl (k := ?_)
        refine g_iload_n (M := mX2_leastGrain) (pc := 10) dX2_leastGrain_10 rfl (k := ?_)
        refine g_iload_n (M := mX2_leastGrain) (pc := 11) dX2_leastGrain_11 rfl (k := ?_)
        refine g_cV3I (M := mX2_leastGrain) (pc := 12) (c_X2_comesIn Γ t _ _ _ _ hI2 (by omega) (by omega) (by omega)) qX2_comesIn vX2_comesIn sX2_comesIn kX2_93 dX2_leastGrain_12 (kk := ?_)
        rintro r12 τ12 ⟨hi12, hm12, hI12, hG12⟩
        have hF12 : Fr scX σ τ12 := by refine Fr.tr ?_ hG12; exact hF2
        refine g_if_ne (M := mX2_leastGrain) (pc := 15) (tgt := 20) (by omega) dX2_leastGrain_15 (k1 := fun h15 => ?_) (k2 := fun h15 => ?_)
        · skip
          refine g_iinc_3 (M := mX2_leastGrain) (pc := 20) dX2_leastGrain_20 (k := ?_)
          refine g_goto (M := mX2_leastGrain) (pc := 23) (tgt := 2) dX2_leastGrain_23 (k := ?_)
          refine ih2 _ _ ?_ ?_
          · omega
          · skip
            refine ⟨?_, ?_, ?_⟩
            · exact hI12
            · exact hF12
            · omega
        · skip
          refine g_iload_n (M := mX2_leastGrain) (pc := 18) dX2_leastGrain_18 rfl (k := ?_)
          refine g_iret (M := mX2_leastGrain) (pc := 19) rfl dX2_leastGrain_19 rfl ⟨_, _, rfl, rfl, ?_⟩
          refine ⟨?_, ?_, ?_⟩
          · omega
          · exact hI12
          · exact hF12
  refine loop2 _ _ _ (Nat.lt_succ_self _) ?_
  refine ⟨?_, ?_, ?_⟩
  · exact hI
  · exact (Fr.rf)
  · omega
set_option maxHeartbeats 4000000 in
set_option maxRecDepth 20000 in
theorem c_X2_insAt (Γ : KT) (t : Nat) (σ : Nat → Int → Int) (h : Int) (e : Int) (hI : InvX σ) (hh : 0 ≤ h ∧ h < 6) (he : 0 ≤ e ∧ e ≤ 99) : Ct Γ mX2_insAt 7 (0, 0) [vR Γ 62, vI h, vI e] (113, ρT t, σ) (pI 113 (ρT t) (fun r σ' => (0 ≤ r ∧ r ≤ 4) ∧ (InvX σ') ∧ (Fr scX σ σ'))) := by
  refine Ct.of rfl (Nat.le_of_ble_eq_true rfl) ?_
  show G Γ mX2_insAt 7 (0, 0) _ (0, 0) 0 [some (vR Γ 62), some (vI h), some (vI e), none, none, none] [] (113, ρT t, σ)
  refine g_iconst (M := mX2_insAt) (pc := 0) dX2_insAt_0 (k := ?_)
  refine g_istore_3 (M := mX2_insAt) (pc := 1) dX2_insAt_1 (k := ?_)
  refine g_aload_n (M := mX2_insAt) (pc := 2) dX2_insAt_2 rfl (k := ?_)
  refine g_getr (M := mX2_insAt) (pc := 3) (by rfl) fX2_0 kX2_18 dX2_insAt_3 (by rfl) (kk := ?_)
  refine g_getr (M := mX2_insAt) (pc := 6) (by rfl) fX5_3 kX2_63 dX2_insAt_6 (by rfl) (kk := ?_)
  refine g_iload_n (M := mX2_insAt) (pc := 9) dX2_insAt_9 rfl (k := ?_)
  refine g_iald (M := mX2_insAt) (pc := 10) (by rfl) (by omega) (by omega) dX2_insAt_10 (kk := fun hr10 => ?_)
  have hb10 := iv36_0 hI h (by omega) (by omega)
  refine g_iload_n (M := mX2_insAt) (pc := 11) dX2_insAt_11 rfl (k := ?_)
  refine g_iadd (M := mX2_insAt) (pc := 12) dX2_insAt_12 (k := ?_)
  refine g_bipush (M := mX2_insAt) (pc := 13) dX2_insAt_13 (k := ?_)
  refine g_min2 (M := mX2_insAt) (pc := 15) (by omega) (by omega) kmX2_104 nm_min dX2_insAt_15 (by omega) rfl (k := fun c15 hz15 => ?_)
  refine g_istore_4 (M := mX2_insAt) (pc := 18) dX2_insAt_18 (k := ?_)
  refine g_iconst (M := mX2_insAt) (pc := 20) dX2_insAt_20 (k := ?_)
  refine g_istore_5 (M := mX2_insAt) (pc := 21) dX2_insAt_21 (k := ?_)
  have loop23 : ∀ (N : Nat) (τ23 : Nat → Int → Int) (n : Int) (q : Int), ((5 - q).toNat) < N → ((InvX τ23) ∧ (Fr scX σ τ23) ∧ (0 ≤ n ∧ n ≤ q) ∧ (0 ≤ q ∧ q ≤ 4)) → G Γ mX2_insAt 7 (0, 0) (pI 113 (ρT t) (fun r σ' => (0 ≤ r ∧ r ≤ 4) ∧ (InvX σ') ∧ (Fr scX σ σ'))) (0, 0) 23 [some (vR Γ 62), some (vI h), some (vI e), some (vI n), some (vI c15), some (vI q)] [] (113, ρT t, τ23) := by
    intro N
    induction N with
    | zero => intro τ23 n q hmu23 hinv23; exact absurd hmu23 (Nat.not_lt_zero _)
    | succ N ih23 =>
      intro τ23 n q hmu23 hinv23
      obtain ⟨hI23, hF23, hb23_n, hb23_q⟩ := hinv23
      refine g_iload (M := mX2_insAt) (pc := 23) dX2_insAt_23 rfl (k := ?_)
      refine g_aload_n (M := mX2_insAt) (pc := 25) dX2_insAt_25 rfl (k := ?_)
      refine g_getr (M := mX2_insAt) (pc := 26) (by rfl) fX2_0 kX2_18 dX2_insAt_26 (by rfl) (kk := ?_)
      refine g_get (M := mX2_insAt) (pc := 29) (ji := 6) (by rfl) fX5_6 kX2_109 dX2_insAt_29 (kk := fun hr29 => ?_)
      have hb29 := iv33_6 hI23 6 (by omega) (by omega)
      refine g_icmp_ge (M := mX2_insAt) (pc := 32) (tgt := 56) (by omega) (by omega) dX2_insAt_32 (k1 := fun h32 => ?_) (k2 := fun h32 => ?_)
      · skip
        refine g_iload_n (M := mX2_insAt) (pc := 56) dX2_insAt_56 rfl (k := ?_)
        refine g_iret (M := mX2_insAt) (pc := 57) rfl dX2_insAt_57 rfl ⟨_, _, rfl, rfl, ?_⟩
        refine ⟨?_, ?_, ?_⟩
        · omega
        · exact hI23
        · exact hF23
      · skip
        refine g_aload_n (M := mX2_insAt) (pc := 35) dX2_insAt_35 rfl (k := ?_)
        refine g_iload (M := mX2_insAt) (pc := 36) dX2_insAt_36 rfl (k := ?_)
        refine g_iload_n (M := mX2_insAt) (pc := 38) dX2_insAt_38 rfl (k := ?_)
        refine g_iload (M := mX2_insAt) (pc := 39) dX2_insAt_39 rfl (k := ?_)
        refine g_cV3I (M := mX2_insAt) (pc := 41) (c_X2_comesIn Γ t _ _ _ _ hI23 (by omega) (by omega) (by omega)) qX2_comesIn vX2_comesIn sX2_comesIn kX2_93 dX2_insAt_41 (kk := ?_)
        rintro r41 τ41 ⟨hi41, hm41, hI41, hG41⟩
        have hF41 : Fr scX σ τ41 := by refine Fr.tr ?_ hG41; exact hF23
        refine g_if_eq (M := mX2_insAt) (pc := 44) (tgt := 50) (by omega) dX2_insAt_44 (k1 := fun h44 => ?_) (k2 := fun h44 => ?_)
        · skip
          refine g_iinc_5 (M := mX2_insAt) (pc := 50) dX2_insAt_50 (k := ?_)
          refine g_goto (M := mX2_insAt) (pc := 53) (tgt := 23) dX2_insAt_53 (k := ?_)
          refine ih23 _ _ _ ?_ ?_
          · omega
          · skip
            refine ⟨?_, ?_, ?_, ?_⟩
            · exact hI41
            · exact hF41
            · omega
            · omega
        · skip
          refine g_iinc_3 (M := mX2_insAt) (pc := 47) dX2_insAt_47 (k := ?_)
          refine g_iinc_5 (M := mX2_insAt) (pc := 50) dX2_insAt_50 (k := ?_)
          refine g_goto (M := mX2_insAt) (pc := 53) (tgt := 23) dX2_insAt_53 (k := ?_)
          refine ih23 _ _ _ ?_ ?_
          · omega
          · skip
            refine ⟨?_, ?_, ?_, ?_⟩
            · exact hI41
            · exact hF41
            · omega
            · omega
  refine loop23 _ _ _ _ (Nat.lt_succ_self _) ?_
  refine ⟨?_, ?_, ?_, ?_⟩
  · exact hI
  · exact (Fr.rf)
  · omega
  · omega
set_option maxHeartbeats 4000000 in
set_option maxRecDepth 20000 in
theorem c_X2_houseToStrew (Γ : KT) (t : Nat) (σ : Nat → Int → Int) (e : Int) (hI : InvX σ) (he : 0 ≤ e ∧ e ≤ 99) : Ct Γ mX2_houseToStrew 8 (0, 0) [vR Γ 62, vI e] (113, ρT t, σ) (pI 113 (ρT t) (fun r σ' => (r = -5 ∨ (0 ≤ r ∧ r ≤ 5)) ∧ (InvX σ') ∧ (Fr scX σ σ'))) := by
  refine Ct.of rfl (Nat.le_of_ble_eq_true rfl) ?_
  show G Γ mX2_houseToStrew 8 (0, 0) _ (0, 0) 0 [some (vR Γ 62), some (vI e), none, none, none, none] [] (113, ρT t, σ)
  refine g_bipush (M := mX2_houseToStrew) (pc := 0) dX2_houseToStrew_0 (k := ?_)
  refine g_istore_2 (M := mX2_houseToStrew) (pc := 2) dX2_houseToStrew_2 (k := ?_)
  refine g_iconst (M := mX2_houseToStrew) (pc := 3) dX2_houseToStrew_3 (k := ?_)
  refine g_istore_3 (M := mX2_houseToStrew) (pc := 4) dX2_houseToStrew_4 (k := ?_)
  refine g_iconst (M := mX2_houseToStrew) (pc := 5) dX2_houseToStrew_5 (k := ?_)
  refine g_istore_4 (M := mX2_houseToStrew) (pc := 6) dX2_houseToStrew_6 (k := ?_)
  have loop8 : ∀ (N : Nat) (τ8 : Nat → Int → Int) (fo : Int) (mo : Int) (q : Int), ((7 - q).toNat) < N → ((InvX τ8) ∧ (Fr scX σ τ8) ∧ (-5 ≤ fo ∧ fo ≤ 5) ∧ (-4 ≤ mo ∧ mo ≤ 4) ∧ (0 ≤ q ∧ q ≤ 6) ∧ (fo = -5 ∨ 0 ≤ fo)) → G Γ mX2_houseToStrew 8 (0, 0) (pI 113 (ρT t) (fun r σ' => (r = -5 ∨ (0 ≤ r ∧ r ≤ 5)) ∧ (InvX σ') ∧ (Fr scX σ σ'))) (0, 0) 8 [some (vR Γ 62), some (vI e), some (vI fo), some (vI mo), some (vI q), none] [] (113, ρT t, τ8) := by
    intro N
    induction N with
    | zero => intro τ8 fo mo q hmu8 hinv8; exact absurd hmu8 (Nat.not_lt_zero _)
    | succ N ih8 =>
      intro τ8 fo mo q hmu8 hinv8
      obtain ⟨hI8, hF8, hb8_fo, hb8_mo, hb8_q, hx8_0⟩ := hinv8
      refine g_iload (M := mX2_houseToStrew) (pc := 8) dX2_houseToStrew_8 rfl (k := ?_)
      refine g_aload_n (M := mX2_houseToStrew) (pc := 10) dX2_houseToStrew_10 rfl (k := ?_)
      refine g_getr (M := mX2_houseToStrew) (pc := 11) (by rfl) fX2_0 kX2_18 dX2_houseToStrew_11 (by rfl) (kk := ?_)
      refine g_get (M := mX2_houseToStrew) (pc := 14) (ji := 0) (by rfl) fX5_0 kX2_97 dX2_houseToStrew_14 (kk := fun hr14 => ?_)
      have hb14 := iv33_0 hI8 0 (by omega) (by omega)
      refine g_icmp_ge (M := mX2_houseToStrew) (pc := 17) (tgt := 61) (by omega) (by omega) dX2_houseToStrew_17 (k1 := fun h17 => ?_) (k2 := fun h17 => ?_)
      · skip
        refine g_iload_n (M := mX2_houseToStrew) (pc := 61) dX2_houseToStrew_61 rfl (k := ?_)
        refine g_iret (M := mX2_houseToStrew) (pc := 62) rfl dX2_houseToStrew_62 rfl ⟨_, _, rfl, rfl, ?_⟩
        refine ⟨?_, ?_, ?_⟩
        · omega
        · exact hI8
        · exact hF8
      · skip
        refine g_aload_n (M := mX2_houseToStrew) (pc := 20) dX2_houseToStrew_20 rfl (k := ?_)
        refine g_iload (M := mX2_houseToStrew) (pc := 21) dX2_houseToStrew_21 rfl (k := ?_)
        refine g_iconst (M := mX2_houseToStrew) (pc := 23) dX2_houseToStrew_23 (k := ?_)
        refine g_cV2I (M := mX2_houseToStrew) (pc := 24) (c_X2_insAt Γ t _ _ _ hI8 (by omega) (by omega)) qX2_insAt vX2_insAt sX2_insAt kX2_100 dX2_houseToStrew_24 (kk := ?_)
        rintro r24 τ24 ⟨hi24, hI24, hG24⟩
        have hF24 : Fr scX σ τ24 := by refine Fr.tr ?_ hG24; exact hF8
        refine g_aload_n (M := mX2_houseToStrew) (pc := 27) dX2_houseToStrew_27 rfl (k := ?_)
        refine g_iload (M := mX2_houseToStrew) (pc := 28) dX2_houseToStrew_28 rfl (k := ?_)
        refine g_iload_n (M := mX2_houseToStrew) (pc := 30) dX2_houseToStrew_30 rfl (k := ?_)
        refine g_cV2I (M := mX2_houseToStrew) (pc := 31) (c_X2_insAt Γ t _ _ _ hI24 (by omega) (by omega)) qX2_insAt vX2_insAt sX2_insAt kX2_100 dX2_houseToStrew_31 (kk := ?_)
        rintro r31 τ31 ⟨hi31, hI31, hG31⟩
        have hF31 : Fr scX σ τ31 := by refine Fr.tr ?_ hG31; exact hF24
        refine g_isub (M := mX2_houseToStrew) (pc := 34) dX2_houseToStrew_34 (k := ?_)
        refine g_istore_5 (M := mX2_houseToStrew) (pc := 35) dX2_houseToStrew_35 (k := ?_)
        refine g_iload_n (M := mX2_houseToStrew) (pc := 37) dX2_houseToStrew_37 rfl (k := ?_)
        refine g_bipush (M := mX2_houseToStrew) (pc := 38) dX2_houseToStrew_38 (k := ?_)
        refine g_icmp_eq (M := mX2_houseToStrew) (pc := 40) (tgt := 49) (by omega) (by omega) dX2_houseToStrew_40 (k1 := fun h40 => ?_) (k2 := fun h40 => ?_)
        · skip
          refine g_iload (M := mX2_houseToStrew) (pc := 49) dX2_houseToStrew_49 rfl (k := ?_)
          refine g_istore_2 (M := mX2_houseToStrew) (pc := 51) dX2_houseToStrew_51 (k := ?_)
          refine g_iload (M := mX2_houseToStrew) (pc := 52) dX2_houseToStrew_52 rfl (k := ?_)
          refine g_istore_3 (M := mX2_houseToStrew) (pc := 54) dX2_houseToStrew_54 (k := ?_)
          refine g_iinc_4 (M := mX2_houseToStrew) (pc := 55) dX2_houseToStrew_55 (k := ?_)
          refine g_goto (M := mX2_houseToStrew) (pc := 58) (tgt := 8) dX2_houseToStrew_58 (k := ?_)
          refine g_less (leL_s (leL_s (leL_s (leL_s (leL_s (leL_n leL_0)))))) ?_
          refine ih8 _ _ _ _ ?_ ?_
          · omega
          · skip
            refine ⟨?_, ?_, ?_, ?_, ?_, ?_⟩
            · exact hI31
            · exact hF31
            · omega
            · omega
            · omega
            · omega
        · skip
          refine g_iload (M := mX2_houseToStrew) (pc := 43) dX2_houseToStrew_43 rfl (k := ?_)
          refine g_iload_n (M := mX2_houseToStrew) (pc := 45) dX2_houseToStrew_45 rfl (k := ?_)
          refine g_icmp_le (M := mX2_houseToStrew) (pc := 46) (tgt := 55) (by omega) (by omega) dX2_houseToStrew_46 (k1 := fun h46 => ?_) (k2 := fun h46 => ?_)
          · skip
            refine g_iinc_4 (M := mX2_houseToStrew) (pc := 55) dX2_houseToStrew_55 (k := ?_)
            refine g_goto (M := mX2_houseToStrew) (pc := 58) (tgt := 8) dX2_houseToStrew_58 (k := ?_)
            refine g_less (leL_s (leL_s (leL_s (leL_s (leL_s (leL_n leL_0)))))) ?_
            refine ih8 _ _ _ _ ?_ ?_
            · omega
            · skip
              refine ⟨?_, ?_, ?_, ?_, ?_, ?_⟩
              · exact hI31
              · exact hF31
              · omega
              · omega
              · omega
              · omega
          · skip
            refine g_iload (M := mX2_houseToStrew) (pc := 49) dX2_houseToStrew_49 rfl (k := ?_)
            refine g_istore_2 (M := mX2_houseToStrew) (pc := 51) dX2_houseToStrew_51 (k := ?_)
            refine g_iload (M := mX2_houseToStrew) (pc := 52) dX2_houseToStrew_52 rfl (k := ?_)
            refine g_istore_3 (M := mX2_houseToStrew) (pc := 54) dX2_houseToStrew_54 (k := ?_)
            refine g_iinc_4 (M := mX2_houseToStrew) (pc := 55) dX2_houseToStrew_55 (k := ?_)
            refine g_goto (M := mX2_houseToStrew) (pc := 58) (tgt := 8) dX2_houseToStrew_58 (k := ?_)
            refine g_less (leL_s (leL_s (leL_s (leL_s (leL_s (leL_n leL_0)))))) ?_
            refine ih8 _ _ _ _ ?_ ?_
            · omega
            · skip
              refine ⟨?_, ?_, ?_, ?_, ?_, ?_⟩
              · exact hI31
              · exact hF31
              · omega
              · omega
              · omega
              · omega
  refine loop8 _ _ _ _ _ (Nat.lt_succ_self _) ?_
  refine ⟨?_, ?_, ?_, ?_, ?_, ?_⟩
  · exact hI
  · exact (Fr.rf)
  · omega
  · omega
  · omega
  · omega
set_option maxHeartbeats 4000000 in
set_option maxRecDepth 20000 in
theorem c_X2_pairsAfter (Γ : KT) (t : Nat) (σ : Nat → Int → Int) (w : Int) (e : Int) (hI : InvX σ) (hw : R32 w) (he : 0 ≤ e ∧ e ≤ 99) : Ct Γ mX2_pairsAfter 8 (0, 0) [vR Γ 62, vI w, vI e] (113, ρT t, σ) (pI 113 (ρT t) (fun r σ' => (0 ≤ r ∧ r ≤ 24) ∧ (InvX σ') ∧ (Fr scX σ σ'))) := by
  refine Ct.of rfl (Nat.le_of_ble_eq_true rfl) ?_
  show G Γ mX2_pairsAfter 8 (0, 0) _ (0, 0) 0 [some (vR Γ 62), some (vI w), some (vI e), none, none] [] (113, ρT t, σ)
  refine g_iconst (M := mX2_pairsAfter) (pc := 0) dX2_pairsAfter_0 (k := ?_)
  refine g_istore_3 (M := mX2_pairsAfter) (pc := 1) dX2_pairsAfter_1 (k := ?_)
  refine g_iconst (M := mX2_pairsAfter) (pc := 2) dX2_pairsAfter_2 (k := ?_)
  refine g_istore_4 (M := mX2_pairsAfter) (pc := 3) dX2_pairsAfter_3 (k := ?_)
  have loop5 : ∀ (N : Nat) (τ5 : Nat → Int → Int) (n : Int) (q : Int), ((7 - q).toNat) < N → ((InvX τ5) ∧ (Fr scX σ τ5) ∧ (0 ≤ n ∧ n ≤ 4 * q) ∧ (0 ≤ q ∧ q ≤ 6)) → G Γ mX2_pairsAfter 8 (0, 0) (pI 113 (ρT t) (fun r σ' => (0 ≤ r ∧ r ≤ 24) ∧ (InvX σ') ∧ (Fr scX σ σ'))) (0, 0) 5 [some (vR Γ 62), some (vI w), some (vI e), some (vI n), some (vI q)] [] (113, ρT t, τ5) := by
    intro N
    induction N with
    | zero => intro τ5 n q hmu5 hinv5; exact absurd hmu5 (Nat.not_lt_zero _)
    | succ N ih5 =>
      intro τ5 n q hmu5 hinv5
      obtain ⟨hI5, hF5, hb5_n, hb5_q⟩ := hinv5
      refine g_iload (M := mX2_pairsAfter) (pc := 5) dX2_pairsAfter_5 rfl (k := ?_)
      refine g_aload_n (M := mX2_pairsAfter) (pc := 7) dX2_pairsAfter_7 rfl (k := ?_)
      refine g_getr (M := mX2_pairsAfter) (pc := 8) (by rfl) fX2_0 kX2_18 dX2_pairsAfter_8 (by rfl) (kk := ?_)
      refine g_get (M := mX2_pairsAfter) (pc := 11) (ji := 0) (by rfl) fX5_0 kX2_97 dX2_pairsAfter_11 (kk := fun hr11 => ?_)
      have hb11 := iv33_0 hI5 0 (by omega) (by omega)
      refine g_icmp_ge (M := mX2_pairsAfter) (pc := 14) (tgt := 43) (by omega) (by omega) dX2_pairsAfter_14 (k1 := fun h14 => ?_) (k2 := fun h14 => ?_)
      · skip
        refine g_iload_n (M := mX2_pairsAfter) (pc := 43) dX2_pairsAfter_43 rfl (k := ?_)
        refine g_iret (M := mX2_pairsAfter) (pc := 44) rfl dX2_pairsAfter_44 rfl ⟨_, _, rfl, rfl, ?_⟩
        refine ⟨?_, ?_, ?_⟩
        · omega
        · exact hI5
        · exact hF5
      · skip
        refine g_iload_n (M := mX2_pairsAfter) (pc := 17) dX2_pairsAfter_17 rfl (k := ?_)
        refine g_aload_n (M := mX2_pairsAfter) (pc := 18) dX2_pairsAfter_18 rfl (k := ?_)
        refine g_iload (M := mX2_pairsAfter) (pc := 19) dX2_pairsAfter_19 rfl (k := ?_)
        refine g_iload (M := mX2_pairsAfter) (pc := 21) dX2_pairsAfter_21 rfl (k := ?_)
        refine g_iload_n (M := mX2_pairsAfter) (pc := 23) dX2_pairsAfter_23 rfl (k := ?_)
        refine g_icmp_ne (M := mX2_pairsAfter) (pc := 24) (tgt := 31) (by omega) (by omega) dX2_pairsAfter_24 (k1 := fun h24 => ?_) (k2 := fun h24 => ?_)
        · skip
          refine g_iconst (M := mX2_pairsAfter) (pc := 31) dX2_pairsAfter_31 (k := ?_)
          refine g_cV2I (M := mX2_pairsAfter) (pc := 32) (c_X2_insAt Γ t _ _ _ hI5 (by omega) (by omega)) qX2_insAt vX2_insAt sX2_insAt kX2_100 dX2_pairsAfter_32 (kk := ?_)
          rintro r32 τ32 ⟨hi32, hI32, hG32⟩
          have hF32 : Fr scX σ τ32 := by refine Fr.tr ?_ hG32; exact hF5
          refine g_iadd (M := mX2_pairsAfter) (pc := 35) dX2_pairsAfter_35 (k := ?_)
          refine g_istore_3 (M := mX2_pairsAfter) (pc := 36) dX2_pairsAfter_36 (k := ?_)
          refine g_iinc_4 (M := mX2_pairsAfter) (pc := 37) dX2_pairsAfter_37 (k := ?_)
          refine g_goto (M := mX2_pairsAfter) (pc := 40) (tgt := 5) dX2_pairsAfter_40 (k := ?_)
          refine ih5 _ _ _ ?_ ?_
          · omega
          · skip
            refine ⟨?_, ?_, ?_, ?_⟩
            · exact hI32
            · exact hF32
            · omega
            · omega
        · skip
          refine g_iload_n (M := mX2_pairsAfter) (pc := 27) dX2_pairsAfter_27 rfl (k := ?_)
          refine g_goto (M := mX2_pairsAfter) (pc := 28) (tgt := 32) dX2_pairsAfter_28 (k := ?_)
          refine g_cV2I (M := mX2_pairsAfter) (pc := 32) (c_X2_insAt Γ t _ _ _ hI5 (by omega) (by omega)) qX2_insAt vX2_insAt sX2_insAt kX2_100 dX2_pairsAfter_32 (kk := ?_)
          rintro r32 τ32 ⟨hi32, hI32, hG32⟩
          have hF32 : Fr scX σ τ32 := by refine Fr.tr ?_ hG32; exact hF5
          refine g_iadd (M := mX2_pairsAfter) (pc := 35) dX2_pairsAfter_35 (k := ?_)
          refine g_istore_3 (M := mX2_pairsAfter) (pc := 36) dX2_pairsAfter_36 (k := ?_)
          refine g_iinc_4 (M := mX2_pairsAfter) (pc := 37) dX2_pairsAfter_37 (k := ?_)
          refine g_goto (M := mX2_pairsAfter) (pc := 40) (tgt := 5) dX2_pairsAfter_40 (k := ?_)
          refine ih5 _ _ _ ?_ ?_
          · omega
          · skip
            refine ⟨?_, ?_, ?_, ?_⟩
            · exact hI32
            · exact hF32
            · omega
            · omega
  refine loop5 _ _ _ _ (Nat.lt_succ_self _) ?_
  refine ⟨?_, ?_, ?_, ?_⟩
  · exact hI
  · exact (Fr.rf)
  · omega
  · omega
set_option maxHeartbeats 4000000 in
set_option maxRecDepth 20000 in
theorem c_X2_walk (Γ : KT) (t : Nat) (σ : Nat → Int → Int) (f : Int) (h : Int) (hI : InvX σ) (hf : 0 ≤ f ∧ f < 4) (hh : 0 ≤ h ∧ h < 6) : Ct Γ mX2_walk 4 (0, 0) [vR Γ 62, vI f, vI h] (113, ρT t, σ) (pI 113 (ρT t) (fun r σ' => (-49500 ≤ r ∧ r ≤ 49500) ∧ (InvX σ') ∧ (Fr scT σ σ'))) := by
  refine Ct.of rfl (Nat.le_of_ble_eq_true rfl) ?_
  show G Γ mX2_walk 4 (0, 0) _ (0, 0) 0 [some (vR Γ 62), some (vI f), some (vI h)] [] (113, ρT t, σ)
  refine g_aload_n (M := mX2_walk) (pc := 0) dX2_walk_0 rfl (k := ?_)
  refine g_getr (M := mX2_walk) (pc := 1) (by rfl) fX2_1 kX2_22 dX2_walk_1 (by rfl) (kk := ?_)
  refine g_aload_n (M := mX2_walk) (pc := 4) dX2_walk_4 rfl (k := ?_)
  refine g_getr (M := mX2_walk) (pc := 5) (by rfl) fX2_0 kX2_18 dX2_walk_5 (by rfl) (kk := ?_)
  refine g_iload_n (M := mX2_walk) (pc := 8) dX2_walk_8 rfl (k := ?_)
  refine g_iload_n (M := mX2_walk) (pc := 9) dX2_walk_9 rfl (k := ?_)
  refine g_aload_n (M := mX2_walk) (pc := 10) dX2_walk_10 rfl (k := ?_)
  refine g_getr (M := mX2_walk) (pc := 11) (by rfl) fX2_0 kX2_18 dX2_walk_11 (by rfl) (kk := ?_)
  refine g_getr (M := mX2_walk) (pc := 14) (by rfl) fX5_3 kX2_63 dX2_walk_14 (by rfl) (kk := ?_)
  refine g_iload_n (M := mX2_walk) (pc := 17) dX2_walk_17 rfl (k := ?_)
  refine g_iald (M := mX2_walk) (pc := 18) (by rfl) (by omega) (by omega) dX2_walk_18 (kk := fun hr18 => ?_)
  have hb18 := iv36_0 hI h (by omega) (by omega)
  refine g_cV4V (M := mX2_walk) (pc := 19) (c_X9_weigh Γ t _ _ _ _ hI (by omega) (by omega) (by omega)) qX9_weigh vX9_weigh sX9_weigh kX2_118 dX2_walk_19 (kk := ?_)
  rintro τ19 ⟨hI19, hG19⟩
  have hF19 : Fr scT σ τ19 := by refine Fr.tr ?_ hG19; exact (Fr.rf)
  refine g_aload_n (M := mX2_walk) (pc := 22) dX2_walk_22 rfl (k := ?_)
  refine g_getr (M := mX2_walk) (pc := 23) (by rfl) fX2_1 kX2_22 dX2_walk_23 (by rfl) (kk := ?_)
  refine g_get (M := mX2_walk) (pc := 26) (ji := 6) (by rfl) fX9_6 kX2_132 dX2_walk_26 (kk := fun hr26 => ?_)
  have hb26 := iv51_6 hI19 6 (by omega) (by omega)
  refine g_iload_n (M := mX2_walk) (pc := 29) dX2_walk_29 rfl (k := ?_)
  refine g_aload_n (M := mX2_walk) (pc := 30) dX2_walk_30 rfl (k := ?_)
  refine g_getr (M := mX2_walk) (pc := 31) (by rfl) fX2_0 kX2_18 dX2_walk_31 (by rfl) (kk := ?_)
  refine g_getr (M := mX2_walk) (pc := 34) (by rfl) fX5_7 kX2_135 dX2_walk_34 (by rfl) (kk := ?_)
  refine g_iload_n (M := mX2_walk) (pc := 37) dX2_walk_37 rfl (k := ?_)
  refine g_iald (M := mX2_walk) (pc := 38) (by rfl) (by omega) (by omega) dX2_walk_38 (kk := fun hr38 => ?_)
  have hb38 := iv39_0 hI19 f (by omega) (by omega)
  refine g_isub (M := mX2_walk) (pc := 39) dX2_walk_39 (k := ?_)
  refine g_abs2 (M := mX2_walk) (pc := 40) (by omega) kmX2_138 nm_abs dX2_walk_40 (by omega) rfl (k := fun c40 hz40 => ?_)
  refine g_imul (M := mX2_walk) (pc := 43) dX2_walk_43 (k := ?_)
  have hz43 := mulB (a := (τ19 51 6)) (b := c40) (A := 9900) (C := 5) (by omega) (by omega)
  refine g_iret (M := mX2_walk) (pc := 44) rfl dX2_walk_44 rfl ⟨_, _, rfl, rfl, ?_⟩
  refine ⟨?_, ?_, ?_⟩
  · omega
  · exact hI19
  · exact hF19
set_option maxHeartbeats 4000000 in
set_option maxRecDepth 20000 in
theorem c_X2_doneTogether (Γ : KT) (t : Nat) (σ : Nat → Int → Int) (f : Int) (f2 : Int) (h : Int) (hI : InvX σ) (hf : 0 ≤ f ∧ f < 4) (hh : 0 ≤ h ∧ h < 6) (hf2 : 0 ≤ f2 ∧ f2 < 4) : Ct Γ mX2_doneTogether 5 (0, 0) [vR Γ 62, vI f, vI f2, vI h] (113, ρT t, σ) (pI 113 (ρT t) (fun r σ' => (-1100000 ≤ r ∧ r ≤ 1100000) ∧ (InvX σ') ∧ (Fr scT σ σ'))) := by
  refine Ct.of rfl (Nat.le_of_ble_eq_true rfl) ?_
  show G Γ mX2_doneTogether 5 (0, 0) _ (0, 0) 0 [some (vR Γ 62), some (vI f), some (vI f2), some (vI h), none, none, none] [] (113, ρT t, σ)
  refine g_aload_n (M := mX2_doneTogether) (pc := 0) dX2_doneTogether_0 rfl (k := ?_)
  refine g_getr (M := mX2_doneTogether) (pc := 1) (by rfl) fX2_0 kX2_18 dX2_doneTogether_1 (by rfl) (kk := ?_)
  refine g_getr (M := mX2_doneTogether) (pc := 4) (by rfl) fX5_3 kX2_63 dX2_doneTogether_4 (by rfl) (kk := ?_)
  refine g_iload_n (M := mX2_doneTogether) (pc := 7) dX2_doneTogether_7 rfl (k := ?_)
  refine g_iald (M := mX2_doneTogether) (pc := 8) (by rfl) (by omega) (by omega) dX2_doneTogether_8 (kk := fun hr8 => ?_)
  have hb8 := iv36_0 hI h (by omega) (by omega)
  refine g_istore_4 (M := mX2_doneTogether) (pc := 9) dX2_doneTogether_9 (k := ?_)
  refine g_aload_n (M := mX2_doneTogether) (pc := 11) dX2_doneTogether_11 rfl (k := ?_)
  refine g_iload_n (M := mX2_doneTogether) (pc := 12) dX2_doneTogether_12 rfl (k := ?_)
  refine g_iload_n (M := mX2_doneTogether) (pc := 13) dX2_doneTogether_13 rfl (k := ?_)
  refine g_cV2I (M := mX2_doneTogether) (pc := 14) (c_X2_walk Γ t _ _ _ hI (by omega) (by omega)) qX2_walk vX2_walk sX2_walk kX2_112 dX2_doneTogether_14 (kk := ?_)
  rintro r14 τ14 ⟨hi14, hI14, hG14⟩
  have hF14 : Fr scT σ τ14 := by refine Fr.tr ?_ hG14; exact (Fr.rf)
  refine g_aload_n (M := mX2_doneTogether) (pc := 17) dX2_doneTogether_17 rfl (k := ?_)
  refine g_iload_n (M := mX2_doneTogether) (pc := 18) dX2_doneTogether_18 rfl (k := ?_)
  refine g_iload_n (M := mX2_doneTogether) (pc := 19) dX2_doneTogether_19 rfl (k := ?_)
  refine g_cV2I (M := mX2_doneTogether) (pc := 20) (c_X2_walk Γ t _ _ _ hI14 (by omega) (by omega)) qX2_walk vX2_walk sX2_walk kX2_112 dX2_doneTogether_20 (kk := ?_)
  rintro r20 τ20 ⟨hi20, hI20, hG20⟩
  have hF20 : Fr scT σ τ20 := by refine Fr.tr ?_ hG20; exact hF14
  refine g_max2 (M := mX2_doneTogether) (pc := 23) (by omega) (by omega) kmX2_115 nm_max dX2_doneTogether_23 (by omega) rfl (k := fun c23 hz23 => ?_)
  refine g_istore_5 (M := mX2_doneTogether) (pc := 26) dX2_doneTogether_26 (k := ?_)
  refine g_aload_n (M := mX2_doneTogether) (pc := 28) dX2_doneTogether_28 rfl (k := ?_)
  refine g_getr (M := mX2_doneTogether) (pc := 29) (by rfl) fX2_1 kX2_22 dX2_doneTogether_29 (by rfl) (kk := ?_)
  refine g_aload_n (M := mX2_doneTogether) (pc := 32) dX2_doneTogether_32 rfl (k := ?_)
  refine g_getr (M := mX2_doneTogether) (pc := 33) (by rfl) fX2_0 kX2_18 dX2_doneTogether_33 (by rfl) (kk := ?_)
  refine g_iload_n (M := mX2_doneTogether) (pc := 36) dX2_doneTogether_36 rfl (k := ?_)
  refine g_iload_n (M := mX2_doneTogether) (pc := 37) dX2_doneTogether_37 rfl (k := ?_)
  refine g_iload (M := mX2_doneTogether) (pc := 38) dX2_doneTogether_38 rfl (k := ?_)
  refine g_cV4V (M := mX2_doneTogether) (pc := 40) (c_X9_weigh Γ t _ _ _ _ hI20 (by omega) (by omega) (by omega)) qX9_weigh vX9_weigh sX9_weigh kX2_118 dX2_doneTogether_40 (kk := ?_)
  rintro τ40 ⟨hI40, hG40⟩
  have hF40 : Fr scT σ τ40 := by refine Fr.tr ?_ hG40; exact hF20
  refine g_aload_n (M := mX2_doneTogether) (pc := 43) dX2_doneTogether_43 rfl (k := ?_)
  refine g_getr (M := mX2_doneTogether) (pc := 44) (by rfl) fX2_0 kX2_18 dX2_doneTogether_44 (by rfl) (kk := ?_)
  refine g_getr (M := mX2_doneTogether) (pc := 47) (by rfl) fX5_9 kX2_123 dX2_doneTogether_47 (by rfl) (kk := ?_)
  refine g_iload_n (M := mX2_doneTogether) (pc := 50) dX2_doneTogether_50 rfl (k := ?_)
  refine g_iald (M := mX2_doneTogether) (pc := 51) (by rfl) (by omega) (by omega) dX2_doneTogether_51 (kk := fun hr51 => ?_)
  have hb51 := iv41_0 hI40 f (by omega) (by omega)
  refine g_aload_n (M := mX2_doneTogether) (pc := 52) dX2_doneTogether_52 rfl (k := ?_)
  refine g_getr (M := mX2_doneTogether) (pc := 53) (by rfl) fX2_0 kX2_18 dX2_doneTogether_53 (by rfl) (kk := ?_)
  refine g_getr (M := mX2_doneTogether) (pc := 56) (by rfl) fX5_9 kX2_123 dX2_doneTogether_56 (by rfl) (kk := ?_)
  refine g_iload_n (M := mX2_doneTogether) (pc := 59) dX2_doneTogether_59 rfl (k := ?_)
  refine g_iald (M := mX2_doneTogether) (pc := 60) (by rfl) (by omega) (by omega) dX2_doneTogether_60 (kk := fun hr60 => ?_)
  have hb60 := iv41_0 hI40 f2 (by omega) (by omega)
  refine g_iadd (M := mX2_doneTogether) (pc := 61) dX2_doneTogether_61 (k := ?_)
  refine g_istore_6 (M := mX2_doneTogether) (pc := 62) dX2_doneTogether_62 (k := ?_)
  refine g_iload (M := mX2_doneTogether) (pc := 64) dX2_doneTogether_64 rfl (k := ?_)
  refine g_aload_n (M := mX2_doneTogether) (pc := 66) dX2_doneTogether_66 rfl (k := ?_)
  refine g_getr (M := mX2_doneTogether) (pc := 67) (by rfl) fX2_1 kX2_22 dX2_doneTogether_67 (by rfl) (kk := ?_)
  refine g_get (M := mX2_doneTogether) (pc := 70) (ji := 5) (by rfl) fX9_5 kX2_126 dX2_doneTogether_70 (kk := fun hr70 => ?_)
  have hb70 := iv51_5 hI40 5 (by omega) (by omega)
  refine g_iload (M := mX2_doneTogether) (pc := 73) dX2_doneTogether_73 rfl (k := ?_)
  refine g_imul (M := mX2_doneTogether) (pc := 75) dX2_doneTogether_75 (k := ?_)
  have hz75 := mulB (a := (τ40 51 5)) (b := (σ 36 h)) (A := 9900) (C := 99) (by omega) (by omega)
  refine g_iload (M := mX2_doneTogether) (pc := 76) dX2_doneTogether_76 rfl (k := ?_)
  refine g_cS2I (M := mX2_doneTogether) (pc := 78) (c_X10_roundedUp Γ t _ _ _ (by omega) (by omega) (by omega)) qX10_roundedUp vX10_roundedUp kX2_129 dX2_doneTogether_78 (kk := ?_)
  rintro _ _ ⟨e1, e⟩; rw [e1, e]; clear e1 e
  have hq78_0 := rupC (w := ((τ40 51 5) * (σ 36 h))) (b := ((τ40 41 f) + (τ40 41 f2))) (by omega)
  refine g_iadd (M := mX2_doneTogether) (pc := 81) dX2_doneTogether_81 (k := ?_)
  refine g_iret (M := mX2_doneTogether) (pc := 82) rfl dX2_doneTogether_82 rfl ⟨_, _, rfl, rfl, ?_⟩
  refine ⟨?_, ?_, ?_⟩
  · omega
  · exact hI40
  · exact hF40
set_option maxHeartbeats 4000000 in
set_option maxRecDepth 20000 in
theorem c_X2_whoBits (Γ : KT) (t : Nat) (σ : Nat → Int → Int)  (hI : InvX σ) : Ct Γ mX2_whoBits 7 (0, 0) [vR Γ 62] (113, ρT t, σ) (pI 113 (ρT t) (fun r σ' => (R32 r) ∧ (InvX σ') ∧ (Fr scX σ σ'))) := by
  refine Ct.of rfl (Nat.le_of_ble_eq_true rfl) ?_
  show G Γ mX2_whoBits 7 (0, 0) _ (0, 0) 0 [some (vR Γ 62), none, none, none, none, none, none] [] (113, ρT t, σ)
  refine g_iconst (M := mX2_whoBits) (pc := 0) dX2_whoBits_0 (k := ?_)
  refine g_istore_1 (M := mX2_whoBits) (pc := 1) dX2_whoBits_1 (k := ?_)
  refine g_iconst (M := mX2_whoBits) (pc := 2) dX2_whoBits_2 (k := ?_)
  refine g_istore_2 (M := mX2_whoBits) (pc := 3) dX2_whoBits_3 (k := ?_)
  have loop4 : ∀ (N : Nat) (τ4 : Nat → Int → Int) (wh : Int) (q : Int), ((5 - q).toNat) < N → ((InvX τ4) ∧ (Fr scX σ τ4) ∧ (-2147483648 ≤ wh ∧ wh ≤ 2147483647) ∧ (0 ≤ q ∧ q ≤ 4)) → G Γ mX2_whoBits 7 (0, 0) (pI 113 (ρT t) (fun r σ' => (R32 r) ∧ (InvX σ') ∧ (Fr scX σ σ'))) (0, 0) 4 [some (vR Γ 62), some (vI wh), some (vI q), none, none, none, none] [] (113, ρT t, τ4) := by
    intro N
    induction N with
    | zero => intro τ4 wh q hmu4 hinv4; exact absurd hmu4 (Nat.not_lt_zero _)
    | succ N ih4 =>
      intro τ4 wh q hmu4 hinv4
      obtain ⟨hI4, hF4, hb4_wh, hb4_q⟩ := hinv4
      refine g_iload_n (M := mX2_whoBits) (pc := 4) dX2_whoBits_4 rfl (k := ?_)
      refine g_aload_n (M := mX2_whoBits) (pc := 5) dX2_whoBits_5 rfl (k := ?_)
      refine g_getr (M := mX2_whoBits) (pc := 6) (by rfl) fX2_0 kX2_18 dX2_whoBits_6 (by rfl) (kk := ?_)
      refine g_get (M := mX2_whoBits) (pc := 9) (ji := 6) (by rfl) fX5_6 kX2_109 dX2_whoBits_9 (kk := fun hr9 => ?_)
      have hb9 := iv33_6 hI4 6 (by omega) (by omega)
      refine g_icmp_ge (M := mX2_whoBits) (pc := 12) (tgt := 125) (by omega) (by omega) dX2_whoBits_12 (k1 := fun h12 => ?_) (k2 := fun h12 => ?_)
      · skip
        refine g_iload_n (M := mX2_whoBits) (pc := 125) dX2_whoBits_125 rfl (k := ?_)
        refine g_iret (M := mX2_whoBits) (pc := 126) rfl dX2_whoBits_126 rfl ⟨_, _, rfl, rfl, ?_⟩
        refine ⟨?_, ?_, ?_⟩
        · omega
        · exact hI4
        · exact hF4
      · skip
        refine g_iconst (M := mX2_whoBits) (pc := 15) dX2_whoBits_15 (k := ?_)
        refine g_istore_3 (M := mX2_whoBits) (pc := 16) dX2_whoBits_16 (k := ?_)
        refine g_iconst (M := mX2_whoBits) (pc := 17) dX2_whoBits_17 (k := ?_)
        refine g_istore_4 (M := mX2_whoBits) (pc := 18) dX2_whoBits_18 (k := ?_)
        have loop20 : ∀ (N : Nat) (τ20 : Nat → Int → Int) (is : Int) (p : Int), ((9 - p).toNat) < N → ((InvX τ20) ∧ (Fr scX σ τ20) ∧ (0 ≤ is ∧ is ≤ 1) ∧ (0 ≤ p ∧ p ≤ 8)) → G Γ mX2_whoBits 7 (0, 0) (pI 113 (ρT t) (fun r σ' => (R32 r) ∧ (InvX σ') ∧ (Fr scX σ σ'))) (0, 0) 20 [some (vR Γ 62), some (vI wh), some (vI q), some (vI is), some (vI p), none, none] [] (113, ρT t, τ20) := by
          intro N
          induction N with
          | zero => intro τ20 is p hmu20 hinv20; exact absurd hmu20 (Nat.not_lt_zero _)
          | succ N ih20 =>
            intro τ20 is p hmu20 hinv20
            obtain ⟨hI20, hF20, hb20_is, hb20_p⟩ := hinv20
            refine g_iload (M := mX2_whoBits) (pc := 20) dX2_whoBits_20 rfl (k := ?_)
            refine g_aload_n (M := mX2_whoBits) (pc := 22) dX2_whoBits_22 rfl (k := ?_)
            refine g_getr (M := mX2_whoBits) (pc := 23) (by rfl) fX2_0 kX2_18 dX2_whoBits_23 (by rfl) (kk := ?_)
            refine g_getr (M := mX2_whoBits) (pc := 26) (by rfl) fX5_11 kX2_141 dX2_whoBits_26 (by rfl) (kk := ?_)
            refine g_get (M := mX2_whoBits) (pc := 29) (ji := 2) (by rfl) fX4_2 kX2_53 dX2_whoBits_29 (kk := fun hr29 => ?_)
            have hb29 := iv45_2 hI20 2 (by omega) (by omega)
            refine g_icmp_ge (M := mX2_whoBits) (pc := 32) (tgt := 112) (by omega) (by omega) dX2_whoBits_32 (k1 := fun h32 => ?_) (k2 := fun h32 => ?_)
            · skip
              refine g_iload_n (M := mX2_whoBits) (pc := 112) dX2_whoBits_112 rfl (k := ?_)
              refine g_iload_n (M := mX2_whoBits) (pc := 113) dX2_whoBits_113 rfl (k := ?_)
              refine g_iload_n (M := mX2_whoBits) (pc := 114) dX2_whoBits_114 rfl (k := ?_)
              refine g_cS3I (M := mX2_whoBits) (pc := 115) (c_X10_withBit Γ t _ _ _ _ (by omega)) qX10_withBit vX10_withBit kX2_147 dX2_whoBits_115 (kk := ?_)
              rintro _ _ ⟨e1, e⟩; rw [e1, e]; clear e1 e
              have hq115_0 := zwithR wh q is
              refine g_istore_1 (M := mX2_whoBits) (pc := 118) dX2_whoBits_118 (k := ?_)
              refine g_iinc_2 (M := mX2_whoBits) (pc := 119) dX2_whoBits_119 (k := ?_)
              refine g_goto (M := mX2_whoBits) (pc := 122) (tgt := 4) dX2_whoBits_122 (k := ?_)
              refine g_less (leL_s (leL_s (leL_s (leL_n (leL_n (leL_n (leL_n leL_0))))))) ?_
              refine ih4 _ _ _ ?_ ?_
              · omega
              · skip
                refine ⟨?_, ?_, ?_, ?_⟩
                · exact hI20
                · exact hF20
                · omega
                · omega
            · skip
              refine g_iload_n (M := mX2_whoBits) (pc := 35) dX2_whoBits_35 rfl (k := ?_)
              refine g_if_eq (M := mX2_whoBits) (pc := 36) (tgt := 112) (by omega) dX2_whoBits_36 (k1 := fun h36 => ?_) (k2 := fun h36 => ?_)
              · skip
                refine g_iload_n (M := mX2_whoBits) (pc := 112) dX2_whoBits_112 rfl (k := ?_)
                refine g_iload_n (M := mX2_whoBits) (pc := 113) dX2_whoBits_113 rfl (k := ?_)
                refine g_iload_n (M := mX2_whoBits) (pc := 114) dX2_whoBits_114 rfl (k := ?_)
                refine g_cS3I (M := mX2_whoBits) (pc := 115) (c_X10_withBit Γ t _ _ _ _ (by omega)) qX10_withBit vX10_withBit kX2_147 dX2_whoBits_115 (kk := ?_)
                rintro _ _ ⟨e1, e⟩; rw [e1, e]; clear e1 e
                have hq115_0 := zwithR wh q is
                refine g_istore_1 (M := mX2_whoBits) (pc := 118) dX2_whoBits_118 (k := ?_)
                refine g_iinc_2 (M := mX2_whoBits) (pc := 119) dX2_whoBits_119 (k := ?_)
                refine g_goto (M := mX2_whoBits) (pc := 122) (tgt := 4) dX2_whoBits_122 (k := ?_)
                refine g_less (leL_s (leL_s (leL_s (leL_n (leL_n (leL_n (leL_n leL_0))))))) ?_
                refine ih4 _ _ _ ?_ ?_
                · omega
                · skip
                  refine ⟨?_, ?_, ?_, ?_⟩
                  · exact hI20
                  · exact hF20
                  · omega
                  · omega
              · skip
                refine g_aload_n (M := mX2_whoBits) (pc := 39) dX2_whoBits_39 rfl (k := ?_)
                refine g_getr (M := mX2_whoBits) (pc := 40) (by rfl) fX2_0 kX2_18 dX2_whoBits_40 (by rfl) (kk := ?_)
                refine g_getr (M := mX2_whoBits) (pc := 43) (by rfl) fX5_11 kX2_141 dX2_whoBits_43 (by rfl) (kk := ?_)
                refine g_getr (M := mX2_whoBits) (pc := 46) (by rfl) fX4_0 kX2_59 dX2_whoBits_46 (by rfl) (kk := ?_)
                refine g_iload (M := mX2_whoBits) (pc := 49) dX2_whoBits_49 rfl (k := ?_)
                refine g_iald (M := mX2_whoBits) (pc := 51) (by rfl) (by omega) (by omega) dX2_whoBits_51 (kk := fun hr51 => ?_)
                have hb51 := iv46_0 hI20 p (by omega) (by omega)
                refine g_istore_5 (M := mX2_whoBits) (pc := 52) dX2_whoBits_52 (k := ?_)
                refine g_aload_n (M := mX2_whoBits) (pc := 54) dX2_whoBits_54 rfl (k := ?_)
                refine g_iload_n (M := mX2_whoBits) (pc := 55) dX2_whoBits_55 rfl (k := ?_)
                refine g_iload (M := mX2_whoBits) (pc := 56) dX2_whoBits_56 rfl (k := ?_)
                refine g_aload_n (M := mX2_whoBits) (pc := 58) dX2_whoBits_58 rfl (k := ?_)
                refine g_getr (M := mX2_whoBits) (pc := 59) (by rfl) fX2_0 kX2_18 dX2_whoBits_59 (by rfl) (kk := ?_)
                refine g_getr (M := mX2_whoBits) (pc := 62) (by rfl) fX5_3 kX2_63 dX2_whoBits_62 (by rfl) (kk := ?_)
                refine g_iload (M := mX2_whoBits) (pc := 65) dX2_whoBits_65 rfl (k := ?_)
                refine g_iald (M := mX2_whoBits) (pc := 67) (by rfl) (by omega) (by omega) dX2_whoBits_67 (kk := fun hr67 => ?_)
                have hb67 := iv36_0 hI20 (τ20 46 p) (by omega) (by omega)
                refine g_cV3I (M := mX2_whoBits) (pc := 68) (c_X2_comesIn Γ t _ _ _ _ hI20 (by omega) (by omega) (by omega)) qX2_comesIn vX2_comesIn sX2_comesIn kX2_93 dX2_whoBits_68 (kk := ?_)
                rintro r68 τ68 ⟨hi68, hm68, hI68, hG68⟩
                have hF68 : Fr scX σ τ68 := by refine Fr.tr ?_ hG68; exact hF20
                refine g_istore_6 (M := mX2_whoBits) (pc := 71) dX2_whoBits_71 (k := ?_)
                refine g_iload (M := mX2_whoBits) (pc := 73) dX2_whoBits_73 rfl (k := ?_)
                refine g_aload_n (M := mX2_whoBits) (pc := 75) dX2_whoBits_75 rfl (k := ?_)
                refine g_getr (M := mX2_whoBits) (pc := 76) (by rfl) fX2_0 kX2_18 dX2_whoBits_76 (by rfl) (kk := ?_)
                refine g_getr (M := mX2_whoBits) (pc := 79) (by rfl) fX5_11 kX2_141 dX2_whoBits_79 (by rfl) (kk := ?_)
                refine g_getr (M := mX2_whoBits) (pc := 82) (by rfl) fX4_1 kX2_144 dX2_whoBits_82 (by rfl) (kk := ?_)
                refine g_iload (M := mX2_whoBits) (pc := 85) dX2_whoBits_85 rfl (k := ?_)
                refine g_iald (M := mX2_whoBits) (pc := 87) (by rfl) (by omega) (by omega) dX2_whoBits_87 (kk := fun hr87 => ?_)
                refine g_iconst (M := mX2_whoBits) (pc := 88) dX2_whoBits_88 (k := ?_)
                refine g_icmp_ne (M := mX2_whoBits) (pc := 89) (tgt := 96) (by omega) (by omega) dX2_whoBits_89 (k1 := fun h89 => ?_) (k2 := fun h89 => ?_)
                · skip
                  refine g_iconst (M := mX2_whoBits) (pc := 96) dX2_whoBits_96 (k := ?_)
                  refine g_icmp_ne (M := mX2_whoBits) (pc := 97) (tgt := 104) (by omega) (by omega) dX2_whoBits_97 (k1 := fun h97 => ?_) (k2 := fun h97 => ?_)
                  · skip
                    refine g_iconst (M := mX2_whoBits) (pc := 104) dX2_whoBits_104 (k := ?_)
                    refine g_istore_3 (M := mX2_whoBits) (pc := 105) dX2_whoBits_105 (k := ?_)
                    refine g_iinc_4 (M := mX2_whoBits) (pc := 106) dX2_whoBits_106 (k := ?_)
                    refine g_goto (M := mX2_whoBits) (pc := 109) (tgt := 20) dX2_whoBits_109 (k := ?_)
                    refine g_less (leL_s (leL_s (leL_s (leL_s (leL_s (leL_n (leL_n leL_0))))))) ?_
                    refine ih20 _ _ _ ?_ ?_
                    · omega
                    · skip
                      refine ⟨?_, ?_, ?_, ?_⟩
                      · exact hI68
                      · exact hF68
                      · omega
                      · omega
                  · skip
                    refine g_iconst (M := mX2_whoBits) (pc := 100) dX2_whoBits_100 (k := ?_)
                    refine g_goto (M := mX2_whoBits) (pc := 101) (tgt := 105) dX2_whoBits_101 (k := ?_)
                    refine g_istore_3 (M := mX2_whoBits) (pc := 105) dX2_whoBits_105 (k := ?_)
                    refine g_iinc_4 (M := mX2_whoBits) (pc := 106) dX2_whoBits_106 (k := ?_)
                    refine g_goto (M := mX2_whoBits) (pc := 109) (tgt := 20) dX2_whoBits_109 (k := ?_)
                    refine g_less (leL_s (leL_s (leL_s (leL_s (leL_s (leL_n (leL_n leL_0))))))) ?_
                    refine ih20 _ _ _ ?_ ?_
                    · omega
                    · skip
                      refine ⟨?_, ?_, ?_, ?_⟩
                      · exact hI68
                      · exact hF68
                      · omega
                      · omega
                · skip
                  refine g_iconst (M := mX2_whoBits) (pc := 92) dX2_whoBits_92 (k := ?_)
                  refine g_goto (M := mX2_whoBits) (pc := 93) (tgt := 97) dX2_whoBits_93 (k := ?_)
                  refine g_icmp_ne (M := mX2_whoBits) (pc := 97) (tgt := 104) (by omega) (by omega) dX2_whoBits_97 (k1 := fun h97 => ?_) (k2 := fun h97 => ?_)
                  · skip
                    refine g_iconst (M := mX2_whoBits) (pc := 104) dX2_whoBits_104 (k := ?_)
                    refine g_istore_3 (M := mX2_whoBits) (pc := 105) dX2_whoBits_105 (k := ?_)
                    refine g_iinc_4 (M := mX2_whoBits) (pc := 106) dX2_whoBits_106 (k := ?_)
                    refine g_goto (M := mX2_whoBits) (pc := 109) (tgt := 20) dX2_whoBits_109 (k := ?_)
                    refine g_less (leL_s (leL_s (leL_s (leL_s (leL_s (leL_n (leL_n leL_0))))))) ?_
                    refine ih20 _ _ _ ?_ ?_
                    · omega
                    · skip
                      refine ⟨?_, ?_, ?_, ?_⟩
                      · exact hI68
                      · exact hF68
                      · omega
                      · omega
                  · skip
                    refine g_iconst (M := mX2_whoBits) (pc := 100) dX2_whoBits_100 (k := ?_)
                    refine g_goto (M := mX2_whoBits) (pc := 101) (tgt := 105) dX2_whoBits_101 (k := ?_)
                    refine g_istore_3 (M := mX2_whoBits) (pc := 105) dX2_whoBits_105 (k := ?_)
                    refine g_iinc_4 (M := mX2_whoBits) (pc := 106) dX2_whoBits_106 (k := ?_)
                    refine g_goto (M := mX2_whoBits) (pc := 109) (tgt := 20) dX2_whoBits_109 (k := ?_)
                    refine g_less (leL_s (leL_s (leL_s (leL_s (leL_s (leL_n (leL_n leL_0))))))) ?_
                    refine ih20 _ _ _ ?_ ?_
                    · omega
                    · skip
                      refine ⟨?_, ?_, ?_, ?_⟩
                      · exact hI68
                      · exact hF68
                      · omega
                      · omega
        refine loop20 _ _ _ _ (Nat.lt_succ_self _) ?_
        refine ⟨?_, ?_, ?_, ?_⟩
        · exact hI4
        · exact hF4
        · omega
        · omega
  refine loop4 _ _ _ _ (Nat.lt_succ_self _) ?_
  refine ⟨?_, ?_, ?_, ?_⟩
  · exact hI
  · exact (Fr.rf)
  · omega
  · omega
set_option maxHeartbeats 4000000 in
set_option maxRecDepth 20000 in
theorem c_X2_apartAt (Γ : KT) (t : Nat) (σ : Nat → Int → Int) (h : Int) (w : Int) (hI : InvX σ) (hh : 0 ≤ h ∧ h < 6) : Ct Γ mX2_apartAt 7 (0, 0) [vR Γ 62, vI h, vI w] (113, ρT t, σ) (pI 113 (ρT t) (fun r σ' => (0 ≤ r ∧ r ≤ 4) ∧ (InvX σ') ∧ (Fr scX σ σ'))) := by
  refine Ct.of rfl (Nat.le_of_ble_eq_true rfl) ?_
  show G Γ mX2_apartAt 7 (0, 0) _ (0, 0) 0 [some (vR Γ 62), some (vI h), some (vI w), none, none] [] (113, ρT t, σ)
  refine g_iconst (M := mX2_apartAt) (pc := 0) dX2_apartAt_0 (k := ?_)
  refine g_istore_3 (M := mX2_apartAt) (pc := 1) dX2_apartAt_1 (k := ?_)
  refine g_iconst (M := mX2_apartAt) (pc := 2) dX2_apartAt_2 (k := ?_)
  refine g_istore_4 (M := mX2_apartAt) (pc := 3) dX2_apartAt_3 (k := ?_)
  have loop5 : ∀ (N : Nat) (τ5 : Nat → Int → Int) (n : Int) (q : Int), ((5 - q).toNat) < N → ((InvX τ5) ∧ (Fr scX σ τ5) ∧ (-q ≤ n ∧ n ≤ q) ∧ (0 ≤ q ∧ q ≤ 4)) → G Γ mX2_apartAt 7 (0, 0) (pI 113 (ρT t) (fun r σ' => (0 ≤ r ∧ r ≤ 4) ∧ (InvX σ') ∧ (Fr scX σ σ'))) (0, 0) 5 [some (vR Γ 62), some (vI h), some (vI w), some (vI n), some (vI q)] [] (113, ρT t, τ5) := by
    intro N
    induction N with
    | zero => intro τ5 n q hmu5 hinv5; exact absurd hmu5 (Nat.not_lt_zero _)
    | succ N ih5 =>
      intro τ5 n q hmu5 hinv5
      obtain ⟨hI5, hF5, hb5_n, hb5_q⟩ := hinv5
      refine g_iload (M := mX2_apartAt) (pc := 5) dX2_apartAt_5 rfl (k := ?_)
      refine g_aload_n (M := mX2_apartAt) (pc := 7) dX2_apartAt_7 rfl (k := ?_)
      refine g_getr (M := mX2_apartAt) (pc := 8) (by rfl) fX2_0 kX2_18 dX2_apartAt_8 (by rfl) (kk := ?_)
      refine g_get (M := mX2_apartAt) (pc := 11) (ji := 6) (by rfl) fX5_6 kX2_109 dX2_apartAt_11 (kk := fun hr11 => ?_)
      have hb11 := iv33_6 hI5 6 (by omega) (by omega)
      refine g_icmp_ge (M := mX2_apartAt) (pc := 14) (tgt := 60) (by omega) (by omega) dX2_apartAt_14 (k1 := fun h14 => ?_) (k2 := fun h14 => ?_)
      · skip
        refine g_iload_n (M := mX2_apartAt) (pc := 60) dX2_apartAt_60 rfl (k := ?_)
        refine g_abs2 (M := mX2_apartAt) (pc := 61) (by omega) kmX2_138 nm_abs dX2_apartAt_61 (by omega) rfl (k := fun c61 hz61 => ?_)
        refine g_iret (M := mX2_apartAt) (pc := 64) rfl dX2_apartAt_64 rfl ⟨_, _, rfl, rfl, ?_⟩
        refine ⟨?_, ?_, ?_⟩
        · omega
        · exact hI5
        · exact hF5
      · skip
        refine g_iload_n (M := mX2_apartAt) (pc := 17) dX2_apartAt_17 rfl (k := ?_)
        refine g_iload (M := mX2_apartAt) (pc := 18) dX2_apartAt_18 rfl (k := ?_)
        refine g_cS2I (M := mX2_apartAt) (pc := 20) (c_X10_bit Γ t _ _ _) qX10_bit vX10_bit kX2_158 dX2_apartAt_20 (kk := ?_)
        rintro _ _ ⟨e1, e⟩; rw [e1, e]; clear e1 e
        have hq20_0 := zbitR w q
        refine g_iconst (M := mX2_apartAt) (pc := 23) dX2_apartAt_23 (k := ?_)
        refine g_icmp_ne (M := mX2_apartAt) (pc := 24) (tgt := 54) (by omega) (by omega) dX2_apartAt_24 (k1 := fun h24 => ?_) (k2 := fun h24 => ?_)
        · skip
          refine g_iinc_4 (M := mX2_apartAt) (pc := 54) dX2_apartAt_54 (k := ?_)
          refine g_goto (M := mX2_apartAt) (pc := 57) (tgt := 5) dX2_apartAt_57 (k := ?_)
          refine ih5 _ _ _ ?_ ?_
          · omega
          · skip
            refine ⟨?_, ?_, ?_, ?_⟩
            · exact hI5
            · exact hF5
            · omega
            · omega
        · skip
          refine g_iload_n (M := mX2_apartAt) (pc := 27) dX2_apartAt_27 rfl (k := ?_)
          refine g_aload_n (M := mX2_apartAt) (pc := 28) dX2_apartAt_28 rfl (k := ?_)
          refine g_iload (M := mX2_apartAt) (pc := 29) dX2_apartAt_29 rfl (k := ?_)
          refine g_iload_n (M := mX2_apartAt) (pc := 31) dX2_apartAt_31 rfl (k := ?_)
          refine g_aload_n (M := mX2_apartAt) (pc := 32) dX2_apartAt_32 rfl (k := ?_)
          refine g_getr (M := mX2_apartAt) (pc := 33) (by rfl) fX2_0 kX2_18 dX2_apartAt_33 (by rfl) (kk := ?_)
          refine g_getr (M := mX2_apartAt) (pc := 36) (by rfl) fX5_3 kX2_63 dX2_apartAt_36 (by rfl) (kk := ?_)
          refine g_iload_n (M := mX2_apartAt) (pc := 39) dX2_apartAt_39 rfl (k := ?_)
          refine g_iald (M := mX2_apartAt) (pc := 40) (by rfl) (by omega) (by omega) dX2_apartAt_40 (kk := fun hr40 => ?_)
          have hb40 := iv36_0 hI5 h (by omega) (by omega)
          refine g_cV3I (M := mX2_apartAt) (pc := 41) (c_X2_comesIn Γ t _ _ _ _ hI5 (by omega) (by omega) (by omega)) qX2_comesIn vX2_comesIn sX2_comesIn kX2_93 dX2_apartAt_41 (kk := ?_)
          rintro r41 τ41 ⟨hi41, hm41, hI41, hG41⟩
          have hF41 : Fr scX σ τ41 := by refine Fr.tr ?_ hG41; exact hF5
          refine g_if_eq (M := mX2_apartAt) (pc := 44) (tgt := 51) (by omega) dX2_apartAt_44 (k1 := fun h44 => ?_) (k2 := fun h44 => ?_)
          · skip
            refine g_iconst (M := mX2_apartAt) (pc := 51) dX2_apartAt_51 (k := ?_)
            refine g_iadd (M := mX2_apartAt) (pc := 52) dX2_apartAt_52 (k := ?_)
            refine g_istore_3 (M := mX2_apartAt) (pc := 53) dX2_apartAt_53 (k := ?_)
            refine g_iinc_4 (M := mX2_apartAt) (pc := 54) dX2_apartAt_54 (k := ?_)
            refine g_goto (M := mX2_apartAt) (pc := 57) (tgt := 5) dX2_apartAt_57 (k := ?_)
            refine ih5 _ _ _ ?_ ?_
            · omega
            · skip
              refine ⟨?_, ?_, ?_, ?_⟩
              · exact hI41
              · exact hF41
              · omega
              · omega
          · skip
            refine g_iconst (M := mX2_apartAt) (pc := 47) dX2_apartAt_47 (k := ?_)
            refine g_goto (M := mX2_apartAt) (pc := 48) (tgt := 52) dX2_apartAt_48 (k := ?_)
            refine g_iadd (M := mX2_apartAt) (pc := 52) dX2_apartAt_52 (k := ?_)
            refine g_istore_3 (M := mX2_apartAt) (pc := 53) dX2_apartAt_53 (k := ?_)
            refine g_iinc_4 (M := mX2_apartAt) (pc := 54) dX2_apartAt_54 (k := ?_)
            refine g_goto (M := mX2_apartAt) (pc := 57) (tgt := 5) dX2_apartAt_57 (k := ?_)
            refine ih5 _ _ _ ?_ ?_
            · omega
            · skip
              refine ⟨?_, ?_, ?_, ?_⟩
              · exact hI41
              · exact hF41
              · omega
              · omega
  refine loop5 _ _ _ _ (Nat.lt_succ_self _) ?_
  refine ⟨?_, ?_, ?_, ?_⟩
  · exact hI
  · exact (Fr.rf)
  · omega
  · omega
set_option maxHeartbeats 4000000 in
set_option maxRecDepth 20000 in
theorem c_X2_houseToWatch (Γ : KT) (t : Nat) (σ : Nat → Int → Int)  (hI : InvX σ) : Ct Γ mX2_houseToWatch 8 (0, 0) [vR Γ 62] (113, ρT t, σ) (pI 113 (ρT t) (fun r σ' => (-5 ≤ r ∧ r ≤ 5) ∧ (InvX σ') ∧ (Fr scX σ σ'))) := by
  refine Ct.of rfl (Nat.le_of_ble_eq_true rfl) ?_
  show G Γ mX2_houseToWatch 8 (0, 0) _ (0, 0) 0 [some (vR Γ 62), none, none, none, none, none] [] (113, ρT t, σ)
  refine g_aload_n (M := mX2_houseToWatch) (pc := 0) dX2_houseToWatch_0 rfl (k := ?_)
  refine g_cV0I (M := mX2_houseToWatch) (pc := 1) (c_X2_whoBits Γ t _ hI) qX2_whoBits vX2_whoBits sX2_whoBits kX2_151 dX2_houseToWatch_1 (kk := ?_)
  rintro r1 τ1 ⟨hi1, hI1, hG1⟩
  have hF1 : Fr scX σ τ1 := by refine Fr.tr ?_ hG1; exact (Fr.rf)
  refine g_istore_1 (M := mX2_houseToWatch) (pc := 4) dX2_houseToWatch_4 (k := ?_)
  refine g_bipush (M := mX2_houseToWatch) (pc := 5) dX2_houseToWatch_5 (k := ?_)
  refine g_istore_2 (M := mX2_houseToWatch) (pc := 7) dX2_houseToWatch_7 (k := ?_)
  refine g_iconst (M := mX2_houseToWatch) (pc := 8) dX2_houseToWatch_8 (k := ?_)
  refine g_istore_3 (M := mX2_houseToWatch) (pc := 9) dX2_houseToWatch_9 (k := ?_)
  refine g_iconst (M := mX2_houseToWatch) (pc := 10) dX2_houseToWatch_10 (k := ?_)
  refine g_istore_4 (M := mX2_houseToWatch) (pc := 11) dX2_houseToWatch_11 (k := ?_)
  have loop13 : ∀ (N : Nat) (τ13 : Nat → Int → Int) (fo : Int) (la : Int) (q : Int), ((7 - q).toNat) < N → ((InvX τ13) ∧ (Fr scX σ τ13) ∧ (-5 ≤ fo ∧ fo ≤ 5) ∧ (0 ≤ la ∧ la ≤ 5) ∧ (0 ≤ q ∧ q ≤ 6)) → G Γ mX2_houseToWatch 8 (0, 0) (pI 113 (ρT t) (fun r σ' => (-5 ≤ r ∧ r ≤ 5) ∧ (InvX σ') ∧ (Fr scX σ σ'))) (0, 0) 13 [some (vR Γ 62), some (vI r1), some (vI fo), some (vI la), some (vI q), none] [] (113, ρT t, τ13) := by
    intro N
    induction N with
    | zero => intro τ13 fo la q hmu13 hinv13; exact absurd hmu13 (Nat.not_lt_zero _)
    | succ N ih13 =>
      intro τ13 fo la q hmu13 hinv13
      obtain ⟨hI13, hF13, hb13_fo, hb13_la, hb13_q⟩ := hinv13
      refine g_iload (M := mX2_houseToWatch) (pc := 13) dX2_houseToWatch_13 rfl (k := ?_)
      refine g_aload_n (M := mX2_houseToWatch) (pc := 15) dX2_houseToWatch_15 rfl (k := ?_)
      refine g_getr (M := mX2_houseToWatch) (pc := 16) (by rfl) fX2_0 kX2_18 dX2_houseToWatch_16 (by rfl) (kk := ?_)
      refine g_get (M := mX2_houseToWatch) (pc := 19) (ji := 0) (by rfl) fX5_0 kX2_97 dX2_houseToWatch_19 (kk := fun hr19 => ?_)
      have hb19 := iv33_0 hI13 0 (by omega) (by omega)
      refine g_icmp_ge (M := mX2_houseToWatch) (pc := 22) (tgt := 56) (by omega) (by omega) dX2_houseToWatch_22 (k1 := fun h22 => ?_) (k2 := fun h22 => ?_)
      · skip
        refine g_iload_n (M := mX2_houseToWatch) (pc := 56) dX2_houseToWatch_56 rfl (k := ?_)
        refine g_iret (M := mX2_houseToWatch) (pc := 57) rfl dX2_houseToWatch_57 rfl ⟨_, _, rfl, rfl, ?_⟩
        refine ⟨?_, ?_, ?_⟩
        · omega
        · exact hI13
        · exact hF13
      · skip
        refine g_iload_n (M := mX2_houseToWatch) (pc := 25) dX2_houseToWatch_25 rfl (k := ?_)
        refine g_if_eq (M := mX2_houseToWatch) (pc := 26) (tgt := 56) (by omega) dX2_houseToWatch_26 (k1 := fun h26 => ?_) (k2 := fun h26 => ?_)
        · skip
          refine g_iload_n (M := mX2_houseToWatch) (pc := 56) dX2_houseToWatch_56 rfl (k := ?_)
          refine g_iret (M := mX2_houseToWatch) (pc := 57) rfl dX2_houseToWatch_57 rfl ⟨_, _, rfl, rfl, ?_⟩
          refine ⟨?_, ?_, ?_⟩
          · omega
          · exact hI13
          · exact hF13
        · skip
          refine g_aload_n (M := mX2_houseToWatch) (pc := 29) dX2_houseToWatch_29 rfl (k := ?_)
          refine g_iload (M := mX2_houseToWatch) (pc := 30) dX2_houseToWatch_30 rfl (k := ?_)
          refine g_iload_n (M := mX2_houseToWatch) (pc := 32) dX2_houseToWatch_32 rfl (k := ?_)
          refine g_cV2I (M := mX2_houseToWatch) (pc := 33) (c_X2_apartAt Γ t _ _ _ hI13 (by omega)) qX2_apartAt vX2_apartAt sX2_apartAt kX2_155 dX2_houseToWatch_33 (kk := ?_)
          rintro r33 τ33 ⟨hi33, hI33, hG33⟩
          have hF33 : Fr scX σ τ33 := by refine Fr.tr ?_ hG33; exact hF13
          refine g_istore_5 (M := mX2_houseToWatch) (pc := 36) dX2_houseToWatch_36 (k := ?_)
          refine g_iload (M := mX2_houseToWatch) (pc := 38) dX2_houseToWatch_38 rfl (k := ?_)
          refine g_iload_n (M := mX2_houseToWatch) (pc := 40) dX2_houseToWatch_40 rfl (k := ?_)
          refine g_icmp_ge (M := mX2_houseToWatch) (pc := 41) (tgt := 50) (by omega) (by omega) dX2_houseToWatch_41 (k1 := fun h41 => ?_) (k2 := fun h41 => ?_)
          · skip
            refine g_iinc_4 (M := mX2_houseToWatch) (pc := 50) dX2_houseToWatch_50 (k := ?_)
            refine g_goto (M := mX2_houseToWatch) (pc := 53) (tgt := 13) dX2_houseToWatch_53 (k := ?_)
            refine g_less (leL_s (leL_s (leL_s (leL_s (leL_s (leL_n leL_0)))))) ?_
            refine ih13 _ _ _ _ ?_ ?_
            · omega
            · skip
              refine ⟨?_, ?_, ?_, ?_, ?_⟩
              · exact hI33
              · exact hF33
              · omega
              · omega
              · omega
          · skip
            refine g_iload (M := mX2_houseToWatch) (pc := 44) dX2_houseToWatch_44 rfl (k := ?_)
            refine g_istore_3 (M := mX2_houseToWatch) (pc := 46) dX2_houseToWatch_46 (k := ?_)
            refine g_iload (M := mX2_houseToWatch) (pc := 47) dX2_houseToWatch_47 rfl (k := ?_)
            refine g_istore_2 (M := mX2_houseToWatch) (pc := 49) dX2_houseToWatch_49 (k := ?_)
            refine g_iinc_4 (M := mX2_houseToWatch) (pc := 50) dX2_houseToWatch_50 (k := ?_)
            refine g_goto (M := mX2_houseToWatch) (pc := 53) (tgt := 13) dX2_houseToWatch_53 (k := ?_)
            refine g_less (leL_s (leL_s (leL_s (leL_s (leL_s (leL_n leL_0)))))) ?_
            refine ih13 _ _ _ _ ?_ ?_
            · omega
            · skip
              refine ⟨?_, ?_, ?_, ?_, ?_⟩
              · exact hI33
              · exact hF33
              · omega
              · omega
              · omega
  refine loop13 _ _ _ _ _ (Nat.lt_succ_self _) ?_
  refine ⟨?_, ?_, ?_, ?_, ?_⟩
  · exact hI1
  · exact hF1
  · omega
  · omega
  · omega
set_option maxHeartbeats 4000000 in
set_option maxRecDepth 20000 in
theorem c_X2_leastStart (Γ : KT) (t : Nat) (σ : Nat → Int → Int) (f : Int) (h : Int) (hI : InvX σ) (hf : 0 ≤ f ∧ f < 4) (hh : 0 ≤ h ∧ h < 6) : Ct Γ mX2_leastStart 6 (0, 0) [vR Γ 62, vI f, vI h] (113, ρT t, σ) (pI 113 (ρT t) (fun r σ' => (-5 ≤ r ∧ r ≤ 98) ∧ (InvX σ') ∧ (Fr scX σ σ'))) := by
  refine Ct.of rfl (Nat.le_of_ble_eq_true rfl) ?_
  show G Γ mX2_leastStart 6 (0, 0) _ (0, 0) 0 [some (vR Γ 62), some (vI f), some (vI h), none] [] (113, ρT t, σ)
  refine g_aload_n (M := mX2_leastStart) (pc := 0) dX2_leastStart_0 rfl (k := ?_)
  refine g_getr (M := mX2_leastStart) (pc := 1) (by rfl) fX2_2 kX2_31 dX2_leastStart_1 (by rfl) (kk := ?_)
  refine g_iload_n (M := mX2_leastStart) (pc := 4) dX2_leastStart_4 rfl (k := ?_)
  refine g_iload_n (M := mX2_leastStart) (pc := 5) dX2_leastStart_5 rfl (k := ?_)
  refine g_aload_n (M := mX2_leastStart) (pc := 6) dX2_leastStart_6 rfl (k := ?_)
  refine g_getr (M := mX2_leastStart) (pc := 7) (by rfl) fX2_0 kX2_18 dX2_leastStart_7 (by rfl) (kk := ?_)
  refine g_getr (M := mX2_leastStart) (pc := 10) (by rfl) fX5_3 kX2_63 dX2_leastStart_10 (by rfl) (kk := ?_)
  refine g_iload_n (M := mX2_leastStart) (pc := 13) dX2_leastStart_13 rfl (k := ?_)
  refine g_iald (M := mX2_leastStart) (pc := 14) (by rfl) (by omega) (by omega) dX2_leastStart_14 (kk := fun hr14 => ?_)
  have hb14 := iv36_0 hI h (by omega) (by omega)
  refine g_cV3V (M := mX2_leastStart) (pc := 15) (c_X1_measure Γ t _ _ _ _ hI (by omega) (by omega) (by omega)) qX1_measure vX1_measure sX1_measure kX2_35 dX2_leastStart_15 (kk := ?_)
  rintro τ15 ⟨hI15, hG15⟩
  have hF15 : Fr scX σ τ15 := by refine Fr.tr ?_ (Fr.mono hG15 sb_scM_scX); exact (Fr.rf)
  refine g_iconst (M := mX2_leastStart) (pc := 18) dX2_leastStart_18 (k := ?_)
  refine g_istore_3 (M := mX2_leastStart) (pc := 19) dX2_leastStart_19 (k := ?_)
  have loop20 : ∀ (N : Nat) (τ20 : Nat → Int → Int) (q : Int), ((100 - q).toNat) < N → ((InvX τ20) ∧ (Fr scX σ τ20) ∧ (0 ≤ q ∧ q ≤ 99)) → G Γ mX2_leastStart 6 (0, 0) (pI 113 (ρT t) (fun r σ' => (-5 ≤ r ∧ r ≤ 98) ∧ (InvX σ') ∧ (Fr scX σ σ'))) (0, 0) 20 [some (vR Γ 62), some (vI f), some (vI h), some (vI q)] [] (113, ρT t, τ20) := by
    intro N
    induction N with
    | zero => intro τ20 q hmu20 hinv20; exact absurd hmu20 (Nat.not_lt_zero _)
    | succ N ih20 =>
      intro τ20 q hmu20 hinv20
      obtain ⟨hI20, hF20, hb20_q⟩ := hinv20
      refine g_iload_n (M := mX2_leastStart) (pc := 20) dX2_leastStart_20 rfl (k := ?_)
      refine g_bipush (M := mX2_leastStart) (pc := 21) dX2_leastStart_21 (k := ?_)
      refine g_icmp_gt (M := mX2_leastStart) (pc := 23) (tgt := 54) (by omega) (by omega) dX2_leastStart_23 (k1 := fun h23 => ?_) (k2 := fun h23 => ?_)
      · skip
        refine g_bipush (M := mX2_leastStart) (pc := 54) dX2_leastStart_54 (k := ?_)
        refine g_iret (M := mX2_leastStart) (pc := 56) rfl dX2_leastStart_56 rfl ⟨_, _, rfl, rfl, ?_⟩
        refine ⟨?_, ?_, ?_⟩
        · omega
        · exact hI20
        · exact hF20
      · skip
        refine g_aload_n (M := mX2_leastStart) (pc := 26) dX2_leastStart_26 rfl (k := ?_)
        refine g_getr (M := mX2_leastStart) (pc := 27) (by rfl) fX2_2 kX2_31 dX2_leastStart_27 (by rfl) (kk := ?_)
        refine g_iload_n (M := mX2_leastStart) (pc := 30) dX2_leastStart_30 rfl (k := ?_)
        refine g_iload_n (M := mX2_leastStart) (pc := 31) dX2_leastStart_31 rfl (k := ?_)
        refine g_cV2V (M := mX2_leastStart) (pc := 32) (c_X1_begin Γ t _ _ _ hI20 (by omega) (by omega)) qX1_begin vX1_begin sX1_begin kX2_39 dX2_leastStart_32 (kk := ?_)
        rintro τ32 ⟨hm32, hI32, hG32⟩
        have hF32 : Fr scX σ τ32 := by refine Fr.tr ?_ (Fr.mono hG32 sb_scN_scX); exact hF20
        refine g_aload_n (M := mX2_leastStart) (pc := 35) dX2_leastStart_35 rfl (k := ?_)
        refine g_getr (M := mX2_leastStart) (pc := 36) (by rfl) fX2_2 kX2_31 dX2_leastStart_36 (by rfl) (kk := ?_)
        refine g_iload_n (M := mX2_leastStart) (pc := 39) dX2_leastStart_39 rfl (k := ?_)
        refine g_cV1I (M := mX2_leastStart) (pc := 40) (c_X1_reach Γ t _ _ hI32 (by omega) (by omega)) qX1_reach vX1_reach sX1_reach kX2_43 dX2_leastStart_40 (kk := ?_)
        rintro r40 τ40 ⟨hi40, hm40, hI40, hG40⟩
        have hF40 : Fr scX σ τ40 := by refine Fr.tr ?_ (Fr.mono hG40 sb_scN_scX); exact hF32
        refine g_if_eq (M := mX2_leastStart) (pc := 43) (tgt := 48) (by omega) dX2_leastStart_43 (k1 := fun h43 => ?_) (k2 := fun h43 => ?_)
        · skip
          refine g_iinc_3 (M := mX2_leastStart) (pc := 48) dX2_leastStart_48 (k := ?_)
          refine g_goto (M := mX2_leastStart) (pc := 51) (tgt := 20) dX2_leastStart_51 (k := ?_)
          refine ih20 _ _ ?_ ?_
          · omega
          · skip
            refine ⟨?_, ?_, ?_⟩
            · exact hI40
            · exact hF40
            · omega
        · skip
          refine g_iload_n (M := mX2_leastStart) (pc := 46) dX2_leastStart_46 rfl (k := ?_)
          refine g_iret (M := mX2_leastStart) (pc := 47) rfl dX2_leastStart_47 rfl ⟨_, _, rfl, rfl, ?_⟩
          refine ⟨?_, ?_, ?_⟩
          · omega
          · exact hI40
          · exact hF40
  refine loop20 _ _ _ (Nat.lt_succ_self _) ?_
  refine ⟨?_, ?_, ?_⟩
  · exact hI15
  · exact hF15
  · omega
set_option maxHeartbeats 4000000 in
set_option maxRecDepth 20000 in
theorem c_X2_goodStarts (Γ : KT) (t : Nat) (σ : Nat → Int → Int) (f : Int) (h : Int) (hI : InvX σ) (hf : 0 ≤ f ∧ f < 4) (hh : 0 ≤ h ∧ h < 6) : Ct Γ mX2_goodStarts 6 (0, 0) [vR Γ 62, vI f, vI h] (113, ρT t, σ) (pI 113 (ρT t) (fun r σ' => (0 ≤ r ∧ r ≤ 60) ∧ (InvX σ') ∧ (Fr scX σ σ'))) := by
  refine Ct.of rfl (Nat.le_of_ble_eq_true rfl) ?_
  show G Γ mX2_goodStarts 6 (0, 0) _ (0, 0) 0 [some (vR Γ 62), some (vI f), some (vI h), none, none] [] (113, ρT t, σ)
  refine g_iconst (M := mX2_goodStarts) (pc := 0) dX2_goodStarts_0 (k := ?_)
  refine g_istore_3 (M := mX2_goodStarts) (pc := 1) dX2_goodStarts_1 (k := ?_)
  refine g_aload_n (M := mX2_goodStarts) (pc := 2) dX2_goodStarts_2 rfl (k := ?_)
  refine g_getr (M := mX2_goodStarts) (pc := 3) (by rfl) fX2_2 kX2_31 dX2_goodStarts_3 (by rfl) (kk := ?_)
  refine g_iload_n (M := mX2_goodStarts) (pc := 6) dX2_goodStarts_6 rfl (k := ?_)
  refine g_iload_n (M := mX2_goodStarts) (pc := 7) dX2_goodStarts_7 rfl (k := ?_)
  refine g_aload_n (M := mX2_goodStarts) (pc := 8) dX2_goodStarts_8 rfl (k := ?_)
  refine g_getr (M := mX2_goodStarts) (pc := 9) (by rfl) fX2_0 kX2_18 dX2_goodStarts_9 (by rfl) (kk := ?_)
  refine g_getr (M := mX2_goodStarts) (pc := 12) (by rfl) fX5_3 kX2_63 dX2_goodStarts_12 (by rfl) (kk := ?_)
  refine g_iload_n (M := mX2_goodStarts) (pc := 15) dX2_goodStarts_15 rfl (k := ?_)
  refine g_iald (M := mX2_goodStarts) (pc := 16) (by rfl) (by omega) (by omega) dX2_goodStarts_16 (kk := fun hr16 => ?_)
  have hb16 := iv36_0 hI h (by omega) (by omega)
  refine g_cV3V (M := mX2_goodStarts) (pc := 17) (c_X1_measure Γ t _ _ _ _ hI (by omega) (by omega) (by omega)) qX1_measure vX1_measure sX1_measure kX2_35 dX2_goodStarts_17 (kk := ?_)
  rintro τ17 ⟨hI17, hG17⟩
  have hF17 : Fr scX σ τ17 := by refine Fr.tr ?_ (Fr.mono hG17 sb_scM_scX); exact (Fr.rf)
  refine g_iconst (M := mX2_goodStarts) (pc := 20) dX2_goodStarts_20 (k := ?_)
  refine g_istore_4 (M := mX2_goodStarts) (pc := 21) dX2_goodStarts_21 (k := ?_)
  have loop23 : ∀ (N : Nat) (τ23 : Nat → Int → Int) (n : Int) (q : Int), ((61 - q).toNat) < N → ((InvX τ23) ∧ (Fr scX σ τ23) ∧ (0 ≤ n ∧ n ≤ q) ∧ (0 ≤ q ∧ q ≤ 60)) → G Γ mX2_goodStarts 6 (0, 0) (pI 113 (ρT t) (fun r σ' => (0 ≤ r ∧ r ≤ 60) ∧ (InvX σ') ∧ (Fr scX σ σ'))) (0, 0) 23 [some (vR Γ 62), some (vI f), some (vI h), some (vI n), some (vI q)] [] (113, ρT t, τ23) := by
    intro N
    induction N with
    | zero => intro τ23 n q hmu23 hinv23; exact absurd hmu23 (Nat.not_lt_zero _)
    | succ N ih23 =>
      intro τ23 n q hmu23 hinv23
      obtain ⟨hI23, hF23, hb23_n, hb23_q⟩ := hinv23
      refine g_iload (M := mX2_goodStarts) (pc := 23) dX2_goodStarts_23 rfl (k := ?_)
      refine g_bipush (M := mX2_goodStarts) (pc := 25) dX2_goodStarts_25 (k := ?_)
      refine g_icmp_ge (M := mX2_goodStarts) (pc := 27) (tgt := 60) (by omega) (by omega) dX2_goodStarts_27 (k1 := fun h27 => ?_) (k2 := fun h27 => ?_)
      · skip
        refine g_iload_n (M := mX2_goodStarts) (pc := 60) dX2_goodStarts_60 rfl (k := ?_)
        refine g_iret (M := mX2_goodStarts) (pc := 61) rfl dX2_goodStarts_61 rfl ⟨_, _, rfl, rfl, ?_⟩
        refine ⟨?_, ?_, ?_⟩
        · omega
        · exact hI23
        · exact hF23
      · skip
        refine g_aload_n (M := mX2_goodStarts) (pc := 30) dX2_goodStarts_30 rfl (k := ?_)
        refine g_getr (M := mX2_goodStarts) (pc := 31) (by rfl) fX2_2 kX2_31 dX2_goodStarts_31 (by rfl) (kk := ?_)
        refine g_iload_n (M := mX2_goodStarts) (pc := 34) dX2_goodStarts_34 rfl (k := ?_)
        refine g_iload (M := mX2_goodStarts) (pc := 35) dX2_goodStarts_35 rfl (k := ?_)
        refine g_cV2V (M := mX2_goodStarts) (pc := 37) (c_X1_begin Γ t _ _ _ hI23 (by omega) (by omega)) qX1_begin vX1_begin sX1_begin kX2_39 dX2_goodStarts_37 (kk := ?_)
        rintro τ37 ⟨hm37, hI37, hG37⟩
        have hF37 : Fr scX σ τ37 := by refine Fr.tr ?_ (Fr.mono hG37 sb_scN_scX); exact hF23
        refine g_aload_n (M := mX2_goodStarts) (pc := 40) dX2_goodStarts_40 rfl (k := ?_)
        refine g_getr (M := mX2_goodStarts) (pc := 41) (by rfl) fX2_2 kX2_31 dX2_goodStarts_41 (by rfl) (kk := ?_)
        refine g_iload_n (M := mX2_goodStarts) (pc := 44) dX2_goodStarts_44 rfl (k := ?_)
        refine g_cV1I (M := mX2_goodStarts) (pc := 45) (c_X1_reach Γ t _ _ hI37 (by omega) (by omega)) qX1_reach vX1_reach sX1_reach kX2_43 dX2_goodStarts_45 (kk := ?_)
        rintro r45 τ45 ⟨hi45, hm45, hI45, hG45⟩
        have hF45 : Fr scX σ τ45 := by refine Fr.tr ?_ (Fr.mono hG45 sb_scN_scX); exact hF37
        refine g_if_eq (M := mX2_goodStarts) (pc := 48) (tgt := 54) (by omega) dX2_goodStarts_48 (k1 := fun h48 => ?_) (k2 := fun h48 => ?_)
        · skip
          refine g_iinc_4 (M := mX2_goodStarts) (pc := 54) dX2_goodStarts_54 (k := ?_)
          refine g_goto (M := mX2_goodStarts) (pc := 57) (tgt := 23) dX2_goodStarts_57 (k := ?_)
          refine ih23 _ _ _ ?_ ?_
          · omega
          · skip
            refine ⟨?_, ?_, ?_, ?_⟩
            · exact hI45
            · exact hF45
            · omega
            · omega
        · skip
          refine g_iinc_3 (M := mX2_goodStarts) (pc := 51) dX2_goodStarts_51 (k := ?_)
          refine g_iinc_4 (M := mX2_goodStarts) (pc := 54) dX2_goodStarts_54 (k := ?_)
          refine g_goto (M := mX2_goodStarts) (pc := 57) (tgt := 23) dX2_goodStarts_57 (k := ?_)
          refine ih23 _ _ _ ?_ ?_
          · omega
          · skip
            refine ⟨?_, ?_, ?_, ?_⟩
            · exact hI45
            · exact hF45
            · omega
            · omega
  refine loop23 _ _ _ _ (Nat.lt_succ_self _) ?_
  refine ⟨?_, ?_, ?_, ?_⟩
  · exact hI17
  · exact hF17
  · omega
  · omega
set_option maxHeartbeats 4000000 in
set_option maxRecDepth 20000 in
theorem c_X2_minutesOfAll (Γ : KT) (t : Nat) (σ : Nat → Int → Int) (h : Int) (hI : InvX σ) (hh : 0 ≤ h ∧ h < 6) : Ct Γ mX2_minutesOfAll 7 (0, 0) [vR Γ 62, vI h] (113, ρT t, σ) (pI 113 (ρT t) (fun r σ' => (-8000000 ≤ r ∧ r ≤ 8000000) ∧ (InvX σ') ∧ (Fr scX σ σ'))) := by
  refine Ct.of rfl (Nat.le_of_ble_eq_true rfl) ?_
  show G Γ mX2_minutesOfAll 7 (0, 0) _ (0, 0) 0 [some (vR Γ 62), some (vI h), none, none] [] (113, ρT t, σ)
  refine g_iconst (M := mX2_minutesOfAll) (pc := 0) dX2_minutesOfAll_0 (k := ?_)
  refine g_istore_2 (M := mX2_minutesOfAll) (pc := 1) dX2_minutesOfAll_1 (k := ?_)
  refine g_iconst (M := mX2_minutesOfAll) (pc := 2) dX2_minutesOfAll_2 (k := ?_)
  refine g_istore_3 (M := mX2_minutesOfAll) (pc := 3) dX2_minutesOfAll_3 (k := ?_)
  have loop4 : ∀ (N : Nat) (τ4 : Nat → Int → Int) (n : Int) (q : Int), ((5 - q).toNat) < N → ((InvX τ4) ∧ (Fr scX σ τ4) ∧ (-(1050200 * q) ≤ n ∧ n ≤ 1050200 * q) ∧ (0 ≤ q ∧ q ≤ 4)) → G Γ mX2_minutesOfAll 7 (0, 0) (pI 113 (ρT t) (fun r σ' => (-8000000 ≤ r ∧ r ≤ 8000000) ∧ (InvX σ') ∧ (Fr scX σ σ'))) (0, 0) 4 [some (vR Γ 62), some (vI h), some (vI n), some (vI q)] [] (113, ρT t, τ4) := by
    intro N
    induction N with
    | zero => intro τ4 n q hmu4 hinv4; exact absurd hmu4 (Nat.not_lt_zero _)
    | succ N ih4 =>
      intro τ4 n q hmu4 hinv4
      obtain ⟨hI4, hF4, hb4_n, hb4_q⟩ := hinv4
      refine g_iload_n (M := mX2_minutesOfAll) (pc := 4) dX2_minutesOfAll_4 rfl (k := ?_)
      refine g_aload_n (M := mX2_minutesOfAll) (pc := 5) dX2_minutesOfAll_5 rfl (k := ?_)
      refine g_getr (M := mX2_minutesOfAll) (pc := 6) (by rfl) fX2_0 kX2_18 dX2_minutesOfAll_6 (by rfl) (kk := ?_)
      refine g_get (M := mX2_minutesOfAll) (pc := 9) (ji := 6) (by rfl) fX5_6 kX2_109 dX2_minutesOfAll_9 (kk := fun hr9 => ?_)
      have hb9 := iv33_6 hI4 6 (by omega) (by omega)
      refine g_icmp_ge (M := mX2_minutesOfAll) (pc := 12) (tgt := 47) (by omega) (by omega) dX2_minutesOfAll_12 (k1 := fun h12 => ?_) (k2 := fun h12 => ?_)
      · skip
        refine g_iload_n (M := mX2_minutesOfAll) (pc := 47) dX2_minutesOfAll_47 rfl (k := ?_)
        refine g_iret (M := mX2_minutesOfAll) (pc := 48) rfl dX2_minutesOfAll_48 rfl ⟨_, _, rfl, rfl, ?_⟩
        refine ⟨?_, ?_, ?_⟩
        · omega
        · exact hI4
        · exact hF4
      · skip
        refine g_aload_n (M := mX2_minutesOfAll) (pc := 15) dX2_minutesOfAll_15 rfl (k := ?_)
        refine g_iload_n (M := mX2_minutesOfAll) (pc := 16) dX2_minutesOfAll_16 rfl (k := ?_)
        refine g_iload_n (M := mX2_minutesOfAll) (pc := 17) dX2_minutesOfAll_17 rfl (k := ?_)
        refine g_aload_n (M := mX2_minutesOfAll) (pc := 18) dX2_minutesOfAll_18 rfl (k := ?_)
        refine g_getr (M := mX2_minutesOfAll) (pc := 19) (by rfl) fX2_0 kX2_18 dX2_minutesOfAll_19 (by rfl) (kk := ?_)
        refine g_getr (M := mX2_minutesOfAll) (pc := 22) (by rfl) fX5_3 kX2_63 dX2_minutesOfAll_22 (by rfl) (kk := ?_)
        refine g_iload_n (M := mX2_minutesOfAll) (pc := 25) dX2_minutesOfAll_25 rfl (k := ?_)
        refine g_iald (M := mX2_minutesOfAll) (pc := 26) (by rfl) (by omega) (by omega) dX2_minutesOfAll_26 (kk := fun hr26 => ?_)
        have hb26 := iv36_0 hI4 h (by omega) (by omega)
        refine g_cV3I (M := mX2_minutesOfAll) (pc := 27) (c_X2_comesIn Γ t _ _ _ _ hI4 (by omega) (by omega) (by omega)) qX2_comesIn vX2_comesIn sX2_comesIn kX2_93 dX2_minutesOfAll_27 (kk := ?_)
        rintro r27 τ27 ⟨hi27, hm27, hI27, hG27⟩
        have hF27 : Fr scX σ τ27 := by refine Fr.tr ?_ hG27; exact hF4
        refine g_popI (M := mX2_minutesOfAll) (pc := 30) dX2_minutesOfAll_30 (k := ?_)
        refine g_iload_n (M := mX2_minutesOfAll) (pc := 31) dX2_minutesOfAll_31 rfl (k := ?_)
        refine g_aload_n (M := mX2_minutesOfAll) (pc := 32) dX2_minutesOfAll_32 rfl (k := ?_)
        refine g_getr (M := mX2_minutesOfAll) (pc := 33) (by rfl) fX2_2 kX2_31 dX2_minutesOfAll_33 (by rfl) (kk := ?_)
        refine g_get (M := mX2_minutesOfAll) (pc := 36) (ji := 7) (by rfl) fX1_7 kX2_83 dX2_minutesOfAll_36 (kk := fun hr36 => ?_)
        refine g_iadd (M := mX2_minutesOfAll) (pc := 39) dX2_minutesOfAll_39 (k := ?_)
        refine g_istore_2 (M := mX2_minutesOfAll) (pc := 40) dX2_minutesOfAll_40 (k := ?_)
        refine g_iinc_3 (M := mX2_minutesOfAll) (pc := 41) dX2_minutesOfAll_41 (k := ?_)
        refine g_goto (M := mX2_minutesOfAll) (pc := 44) (tgt := 4) dX2_minutesOfAll_44 (k := ?_)
        refine ih4 _ _ _ ?_ ?_
        · omega
        · skip
          refine ⟨?_, ?_, ?_, ?_⟩
          · exact hI27
          · exact hF27
          · omega
          · omega
  refine loop4 _ _ _ _ (Nat.lt_succ_self _) ?_
  refine ⟨?_, ?_, ?_, ?_⟩
  · exact hI
  · exact (Fr.rf)
  · omega
  · omega
set_option maxHeartbeats 4000000 in
set_option maxRecDepth 20000 in
theorem c_X2_firstKeptOut (Γ : KT) (t : Nat) (σ : Nat → Int → Int)  (hI : InvX σ) : Ct Γ mX2_firstKeptOut 7 (0, 0) [vR Γ 62] (113, ρT t, σ) (pI 113 (ρT t) (fun r σ' => (-5 ≤ r ∧ r ≤ 3) ∧ (InvX σ') ∧ (Fr scX σ σ'))) := by
  refine Ct.of rfl (Nat.le_of_ble_eq_true rfl) ?_
  show G Γ mX2_firstKeptOut 7 (0, 0) _ (0, 0) 0 [some (vR Γ 62), none, none, none] [] (113, ρT t, σ)
  refine g_iconst (M := mX2_firstKeptOut) (pc := 0) dX2_firstKeptOut_0 (k := ?_)
  refine g_istore_1 (M := mX2_firstKeptOut) (pc := 1) dX2_firstKeptOut_1 (k := ?_)
  have loop2 : ∀ (N : Nat) (τ2 : Nat → Int → Int) (q : Int), ((13 - q).toNat) < N → ((InvX τ2) ∧ (Fr scX σ τ2) ∧ (0 ≤ q ∧ q ≤ 12)) → G Γ mX2_firstKeptOut 7 (0, 0) (pI 113 (ρT t) (fun r σ' => (-5 ≤ r ∧ r ≤ 3) ∧ (InvX σ') ∧ (Fr scX σ σ'))) (0, 0) 2 [some (vR Γ 62), some (vI q), none, none] [] (113, ρT t, τ2) := by
    intro N
    induction N with
    | zero => intro τ2 q hmu2 hinv2; exact absurd hmu2 (Nat.not_lt_zero _)
    | succ N ih2 =>
      intro τ2 q hmu2 hinv2
      obtain ⟨hI2, hF2, hb2_q⟩ := hinv2
      refine g_iload_n (M := mX2_firstKeptOut) (pc := 2) dX2_firstKeptOut_2 rfl (k := ?_)
      refine g_aload_n (M := mX2_firstKeptOut) (pc := 3) dX2_firstKeptOut_3 rfl (k := ?_)
      refine g_getr (M := mX2_firstKeptOut) (pc := 4) (by rfl) fX2_0 kX2_18 dX2_firstKeptOut_4 (by rfl) (kk := ?_)
      refine g_getr (M := mX2_firstKeptOut) (pc := 7) (by rfl) fX5_12 kX2_161 dX2_firstKeptOut_7 (by rfl) (kk := ?_)
      refine g_get (M := mX2_firstKeptOut) (pc := 10) (ji := 2) (by rfl) fX4_2 kX2_53 dX2_firstKeptOut_10 (kk := fun hr10 => ?_)
      have hb10 := iv48_2 hI2 2 (by omega) (by omega)
      refine g_icmp_ge (M := mX2_firstKeptOut) (pc := 13) (tgt := 68) (by omega) (by omega) dX2_firstKeptOut_13 (k1 := fun h13 => ?_) (k2 := fun h13 => ?_)
      · skip
        refine g_bipush (M := mX2_firstKeptOut) (pc := 68) dX2_firstKeptOut_68 (k := ?_)
        refine g_iret (M := mX2_firstKeptOut) (pc := 70) rfl dX2_firstKeptOut_70 rfl ⟨_, _, rfl, rfl, ?_⟩
        refine ⟨?_, ?_, ?_⟩
        · omega
        · exact hI2
        · exact hF2
      · skip
        refine g_aload_n (M := mX2_firstKeptOut) (pc := 16) dX2_firstKeptOut_16 rfl (k := ?_)
        refine g_getr (M := mX2_firstKeptOut) (pc := 17) (by rfl) fX2_0 kX2_18 dX2_firstKeptOut_17 (by rfl) (kk := ?_)
        refine g_getr (M := mX2_firstKeptOut) (pc := 20) (by rfl) fX5_12 kX2_161 dX2_firstKeptOut_20 (by rfl) (kk := ?_)
        refine g_getr (M := mX2_firstKeptOut) (pc := 23) (by rfl) fX4_0 kX2_59 dX2_firstKeptOut_23 (by rfl) (kk := ?_)
        refine g_iload_n (M := mX2_firstKeptOut) (pc := 26) dX2_firstKeptOut_26 rfl (k := ?_)
        refine g_iald (M := mX2_firstKeptOut) (pc := 27) (by rfl) (by omega) (by omega) dX2_firstKeptOut_27 (kk := fun hr27 => ?_)
        have hb27 := iv49_0 hI2 q (by omega) (by omega)
        refine g_istore_2 (M := mX2_firstKeptOut) (pc := 28) dX2_firstKeptOut_28 (k := ?_)
        refine g_aload_n (M := mX2_firstKeptOut) (pc := 29) dX2_firstKeptOut_29 rfl (k := ?_)
        refine g_getr (M := mX2_firstKeptOut) (pc := 30) (by rfl) fX2_0 kX2_18 dX2_firstKeptOut_30 (by rfl) (kk := ?_)
        refine g_getr (M := mX2_firstKeptOut) (pc := 33) (by rfl) fX5_12 kX2_161 dX2_firstKeptOut_33 (by rfl) (kk := ?_)
        refine g_getr (M := mX2_firstKeptOut) (pc := 36) (by rfl) fX4_1 kX2_144 dX2_firstKeptOut_36 (by rfl) (kk := ?_)
        refine g_iload_n (M := mX2_firstKeptOut) (pc := 39) dX2_firstKeptOut_39 rfl (k := ?_)
        refine g_iald (M := mX2_firstKeptOut) (pc := 40) (by rfl) (by omega) (by omega) dX2_firstKeptOut_40 (kk := fun hr40 => ?_)
        have hb40 := iv50_0 hI2 q (by omega) (by omega)
        refine g_istore_3 (M := mX2_firstKeptOut) (pc := 41) dX2_firstKeptOut_41 (k := ?_)
        refine g_aload_n (M := mX2_firstKeptOut) (pc := 42) dX2_firstKeptOut_42 rfl (k := ?_)
        refine g_iload_n (M := mX2_firstKeptOut) (pc := 43) dX2_firstKeptOut_43 rfl (k := ?_)
        refine g_iload_n (M := mX2_firstKeptOut) (pc := 44) dX2_firstKeptOut_44 rfl (k := ?_)
        refine g_aload_n (M := mX2_firstKeptOut) (pc := 45) dX2_firstKeptOut_45 rfl (k := ?_)
        refine g_getr (M := mX2_firstKeptOut) (pc := 46) (by rfl) fX2_0 kX2_18 dX2_firstKeptOut_46 (by rfl) (kk := ?_)
        refine g_getr (M := mX2_firstKeptOut) (pc := 49) (by rfl) fX5_3 kX2_63 dX2_firstKeptOut_49 (by rfl) (kk := ?_)
        refine g_iload_n (M := mX2_firstKeptOut) (pc := 52) dX2_firstKeptOut_52 rfl (k := ?_)
        refine g_iald (M := mX2_firstKeptOut) (pc := 53) (by rfl) (by omega) (by omega) dX2_firstKeptOut_53 (kk := fun hr53 => ?_)
        have hb53 := iv36_0 hI2 (τ2 50 q) (by omega) (by omega)
        refine g_cV3I (M := mX2_firstKeptOut) (pc := 54) (c_X2_comesIn Γ t _ _ _ _ hI2 (by omega) (by omega) (by omega)) qX2_comesIn vX2_comesIn sX2_comesIn kX2_93 dX2_firstKeptOut_54 (kk := ?_)
        rintro r54 τ54 ⟨hi54, hm54, hI54, hG54⟩
        have hF54 : Fr scX σ τ54 := by refine Fr.tr ?_ hG54; exact hF2
        refine g_if_ne (M := mX2_firstKeptOut) (pc := 57) (tgt := 62) (by omega) dX2_firstKeptOut_57 (k1 := fun h57 => ?_) (k2 := fun h57 => ?_)
        · skip
          refine g_iinc_1 (M := mX2_firstKeptOut) (pc := 62) dX2_firstKeptOut_62 (k := ?_)
          refine g_goto (M := mX2_firstKeptOut) (pc := 65) (tgt := 2) dX2_firstKeptOut_65 (k := ?_)
          refine g_less (leL_s (leL_s (leL_n (leL_n leL_0)))) ?_
          refine ih2 _ _ ?_ ?_
          · omega
          · skip
            refine ⟨?_, ?_, ?_⟩
            · exact hI54
            · exact hF54
            · omega
        · skip
          refine g_iload_n (M := mX2_firstKeptOut) (pc := 60) dX2_firstKeptOut_60 rfl (k := ?_)
          refine g_iret (M := mX2_firstKeptOut) (pc := 61) rfl dX2_firstKeptOut_61 rfl ⟨_, _, rfl, rfl, ?_⟩
          refine ⟨?_, ?_, ?_⟩
          · omega
          · exact hI54
          · exact hF54
  refine loop2 _ _ _ (Nat.lt_succ_self _) ?_
  refine ⟨?_, ?_, ?_⟩
  · exact hI
  · exact (Fr.rf)
  · omega
