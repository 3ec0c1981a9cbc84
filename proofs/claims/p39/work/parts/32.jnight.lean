set_option maxHeartbeats 4000000 in
set_option maxRecDepth 20000 in
theorem c_X11_beginNight (Γ : KT) (t : Nat) (σ : Nat → Int → Int) (f : Int) (m : Int) (hI : InvJ σ) (hf : 0 ≤ f ∧ f < 4) (hm : 0 ≤ m ∧ m ≤ 2000000) : Ct Γ mX11_beginNight 1 (0, 0) [vR Γ 69, vI f, vI m] (113, ρT t, σ) (pV 113 (ρT t) (fun σ' => (σ' 69 28 = f) ∧ (σ' 69 29 = m) ∧ (InvJ σ') ∧ (Fr jcN σ σ'))) := by
  refine Ct.of rfl (Nat.le_of_ble_eq_true rfl) ?_
  show G Γ mX11_beginNight 1 (0, 0) _ (0, 0) 0 [some (vR Γ 69), some (vI f), some (vI m)] [] (113, ρT t, σ)
  refine g_aload_n (M := mX11_beginNight) (pc := 0) dX11_beginNight_0 rfl (k := ?_)
  refine g_iload_n (M := mX11_beginNight) (pc := 1) dX11_beginNight_1 rfl (k := ?_)
  refine g_put (M := mX11_beginNight) (pc := 2) (ji := 28) (by rfl) fX11_28 kX11_96 dX11_beginNight_2 (by omega) (kk := ?_)
  refine g_aload_n (M := mX11_beginNight) (pc := 5) dX11_beginNight_5 rfl (k := ?_)
  refine g_iload_n (M := mX11_beginNight) (pc := 6) dX11_beginNight_6 rfl (k := ?_)
  refine g_put (M := mX11_beginNight) (pc := 7) (ji := 29) (by rfl) fX11_29 kX11_99 dX11_beginNight_7 (by omega) (kk := ?_)
  refine g_aload_n (M := mX11_beginNight) (pc := 10) dX11_beginNight_10 rfl (k := ?_)
  refine g_aload_n (M := mX11_beginNight) (pc := 11) dX11_beginNight_11 rfl (k := ?_)
  refine g_getr (M := mX11_beginNight) (pc := 12) (by rfl) fX11_7 kX11_32 dX11_beginNight_12 (by rfl) (kk := ?_)
  refine g_iload_n (M := mX11_beginNight) (pc := 15) dX11_beginNight_15 rfl (k := ?_)
  refine g_iald (M := mX11_beginNight) (pc := 16) (by rfl) (by omega) (by omega) dX11_beginNight_16 (kk := fun hr16 => ?_)
  simp only [up_same, up_cell, up_slot, ne_eq, not_false_eq_true, Nat.reduceEqDiff, Int.reduceEq, reduceCtorEq, Nat.reduceAdd, Int.reduceAdd, Int.reduceSub] at hr16 ⊢
  have hb16 := jv75_0 hI f (by omega) (by omega)
  refine g_put (M := mX11_beginNight) (pc := 17) (ji := 30) (by rfl) fX11_30 kX11_102 dX11_beginNight_17 (by omega) (kk := ?_)
  refine g_aload_n (M := mX11_beginNight) (pc := 20) dX11_beginNight_20 rfl (k := ?_)
  refine g_aload_n (M := mX11_beginNight) (pc := 21) dX11_beginNight_21 rfl (k := ?_)
  refine g_getr (M := mX11_beginNight) (pc := 22) (by rfl) fX11_8 kX11_35 dX11_beginNight_22 (by rfl) (kk := ?_)
  refine g_iload_n (M := mX11_beginNight) (pc := 25) dX11_beginNight_25 rfl (k := ?_)
  refine g_iald (M := mX11_beginNight) (pc := 26) (by rfl) (by omega) (by omega) dX11_beginNight_26 (kk := fun hr26 => ?_)
  simp only [up_same, up_cell, up_slot, ne_eq, not_false_eq_true, Nat.reduceEqDiff, Int.reduceEq, reduceCtorEq, Nat.reduceAdd, Int.reduceAdd, Int.reduceSub] at hr26 ⊢
  have hb26 := jv76_0 hI f (by omega) (by omega)
  refine g_put (M := mX11_beginNight) (pc := 27) (ji := 31) (by rfl) fX11_31 kX11_105 dX11_beginNight_27 (by omega) (kk := ?_)
  refine g_aload_n (M := mX11_beginNight) (pc := 30) dX11_beginNight_30 rfl (k := ?_)
  refine g_iconst (M := mX11_beginNight) (pc := 31) dX11_beginNight_31 (k := ?_)
  refine g_put (M := mX11_beginNight) (pc := 32) (ji := 32) (by rfl) fX11_32 kX11_108 dX11_beginNight_32 (by omega) (kk := ?_)
  refine g_aload_n (M := mX11_beginNight) (pc := 35) dX11_beginNight_35 rfl (k := ?_)
  refine g_iconst (M := mX11_beginNight) (pc := 36) dX11_beginNight_36 (k := ?_)
  refine g_put (M := mX11_beginNight) (pc := 37) (ji := 33) (by rfl) fX11_33 kX11_111 dX11_beginNight_37 (by omega) (kk := ?_)
  refine g_vret (M := mX11_beginNight) (pc := 40) rfl dX11_beginNight_40 rfl ⟨_, rfl, rfl, ?_⟩
  refine ⟨?_, ?_, ?_, ?_⟩
  · simp only [up_same, up_cell, up_slot, ne_eq, not_false_eq_true, Nat.reduceEqDiff, Int.reduceEq, reduceCtorEq, Nat.reduceAdd, Int.reduceAdd, Int.reduceSub]
  · simp only [up_same, up_cell, up_slot, ne_eq, not_false_eq_true, Nat.reduceEqDiff, Int.reduceEq, reduceCtorEq, Nat.reduceAdd, Int.reduceAdd, Int.reduceSub]
  · refine jv_free ?_ (by rfl); refine jv_free ?_ (by rfl); refine jvu69_31 ?_ (by omega) (by omega); refine jvu69_30 ?_ (by omega) (by omega); refine jvu69_29 ?_ (by omega) (by omega); refine jvu69_28 ?_ (by omega) (by omega); exact hI
  · refine Fr.up ?_ (by first | rfl | (unfold jcN; simp; try omega)); refine Fr.up ?_ (by first | rfl | (unfold jcN; simp; try omega)); refine Fr.up ?_ (by first | rfl | (unfold jcN; simp; try omega)); refine Fr.up ?_ (by first | rfl | (unfold jcN; simp; try omega)); refine Fr.up ?_ (by first | rfl | (unfold jcN; simp; try omega)); refine Fr.up ?_ (by first | rfl | (unfold jcN; simp; try omega)); exact (Fr.rf)
set_option maxHeartbeats 4000000 in
set_option maxRecDepth 20000 in
theorem c_X11_isProudly (Γ : KT) (t : Nat) (σ : Nat → Int → Int) (h : Int) (hI : InvJ σ) (hh : 0 ≤ h ∧ h < 6) : Ct Γ mX11_isProudly 2 (0, 0) [vR Γ 69, vI h] (113, ρT t, σ) (pI 113 (ρT t) (fun r σ' => (0 ≤ r ∧ r ≤ 1) ∧ σ' = σ)) := by
  refine Ct.of rfl (Nat.le_of_ble_eq_true rfl) ?_
  show G Γ mX11_isProudly 2 (0, 0) _ (0, 0) 0 [some (vR Γ 69), some (vI h)] [] (113, ρT t, σ)
  refine g_aload_n (M := mX11_isProudly) (pc := 0) dX11_isProudly_0 rfl (k := ?_)
  refine g_aload_n (M := mX11_isProudly) (pc := 1) dX11_isProudly_1 rfl (k := ?_)
  refine g_get (M := mX11_isProudly) (pc := 2) (ji := 33) (by rfl) fX11_33 kX11_111 dX11_isProudly_2 (kk := fun hr2 => ?_)
  refine g_iconst (M := mX11_isProudly) (pc := 5) dX11_isProudly_5 (k := ?_)
  refine g_iload_n (M := mX11_isProudly) (pc := 6) dX11_isProudly_6 rfl (k := ?_)
  refine g_ishl (M := mX11_isProudly) (pc := 7) dX11_isProudly_7 (k := ?_)
  have hz7 := zshlR 1 h
  refine g_iconst (M := mX11_isProudly) (pc := 8) dX11_isProudly_8 (k := ?_)
  refine g_ixor (M := mX11_isProudly) (pc := 9) dX11_isProudly_9 (k := ?_)
  have hz9 := zxorR (zshl 1 h) (-1)
  refine g_iand (M := mX11_isProudly) (pc := 10) dX11_isProudly_10 (k := ?_)
  have hz10 := zandR (σ 69 33) (zxor (zshl 1 h) (-1))
  refine g_cV1I (M := mX11_isProudly) (pc := 11) (c_X11_ones Γ t _ _ (by omega)) qX11_ones vX11_ones sX11_ones kX11_311 dX11_isProudly_11 (kk := ?_)
  rintro r11 _ e; rw [e]; clear e
  refine g_wrap (k := fun c11 hz11 hw11 => ?_)
  refine g_aload_n (M := mX11_isProudly) (pc := 14) dX11_isProudly_14 rfl (k := ?_)
  refine g_getr (M := mX11_isProudly) (pc := 15) (by rfl) fX11_3 kX11_20 dX11_isProudly_15 (by rfl) (kk := ?_)
  refine g_iload_n (M := mX11_isProudly) (pc := 18) dX11_isProudly_18 rfl (k := ?_)
  refine g_iald (M := mX11_isProudly) (pc := 19) (by rfl) (by omega) (by omega) dX11_isProudly_19 (kk := fun hr19 => ?_)
  have hb19 := jv71_0 hI h (by omega) (by omega)
  refine g_iconst (M := mX11_isProudly) (pc := 20) dX11_isProudly_20 (k := ?_)
  refine g_irem (M := mX11_isProudly) (pc := 21) (by omega) (by omega) (by omega) dX11_isProudly_21 (k := ?_)
  have hz21 := tmodB (a := σ 71 h) (b := 3) (by omega)
  refine g_icmp_lt (M := mX11_isProudly) (pc := 22) (tgt := 29) (by omega) (by omega) dX11_isProudly_22 (k1 := fun h22 => ?_) (k2 := fun h22 => ?_)
  · skip
    refine g_iconst (M := mX11_isProudly) (pc := 29) dX11_isProudly_29 (k := ?_)
    refine g_zret (M := mX11_isProudly) (pc := 30) (by first | omega | (unfold b2; split <;> omega)) rfl dX11_isProudly_30 rfl ⟨_, _, rfl, rfl, ?_⟩
    refine ⟨?_, rfl⟩
    · omega
  · skip
    refine g_iconst (M := mX11_isProudly) (pc := 25) dX11_isProudly_25 (k := ?_)
    refine g_goto (M := mX11_isProudly) (pc := 26) (tgt := 30) dX11_isProudly_26 (k := ?_)
    refine g_zret (M := mX11_isProudly) (pc := 30) (by first | omega | (unfold b2; split <;> omega)) rfl dX11_isProudly_30 rfl ⟨_, _, rfl, rfl, ?_⟩
    refine ⟨?_, rfl⟩
    · omega
set_option maxHeartbeats 4000000 in
set_option maxRecDepth 20000 in
theorem c_X11_pays (Γ : KT) (t : Nat) (σ : Nat → Int → Int) (h : Int) (hI : InvJ σ) (hh : 0 ≤ h ∧ h < 6) : Ct Γ mX11_pays 1 (0, 0) [vR Γ 69, vI h] (113, ρT t, σ) (pI 113 (ρT t) (fun r σ' => (0 ≤ r ∧ r ≤ 1) ∧ (InvJ σ') ∧ (Fr jcP σ σ'))) := by
  refine Ct.of rfl (Nat.le_of_ble_eq_true rfl) ?_
  show G Γ mX11_pays 1 (0, 0) _ (0, 0) 0 [some (vR Γ 69), some (vI h)] [] (113, ρT t, σ)
  refine g_aload_n (M := mX11_pays) (pc := 0) dX11_pays_0 rfl (k := ?_)
  refine g_get (M := mX11_pays) (pc := 1) (ji := 31) (by rfl) fX11_31 kX11_105 dX11_pays_1 (kk := fun hr1 => ?_)
  have hb1 := jv69_31 hI 31 (by omega) (by omega)
  refine g_aload_n (M := mX11_pays) (pc := 4) dX11_pays_4 rfl (k := ?_)
  refine g_getr (M := mX11_pays) (pc := 5) (by rfl) fX11_3 kX11_20 dX11_pays_5 (by rfl) (kk := ?_)
  refine g_iload_n (M := mX11_pays) (pc := 8) dX11_pays_8 rfl (k := ?_)
  refine g_iald (M := mX11_pays) (pc := 9) (by rfl) (by omega) (by omega) dX11_pays_9 (kk := fun hr9 => ?_)
  have hb9 := jv71_0 hI h (by omega) (by omega)
  refine g_icmp_ge (M := mX11_pays) (pc := 10) (tgt := 15) (by omega) (by omega) dX11_pays_10 (k1 := fun h10 => ?_) (k2 := fun h10 => ?_)
  · skip
    refine g_aload_n (M := mX11_pays) (pc := 15) dX11_pays_15 rfl (k := ?_)
    refine g_dupR (M := mX11_pays) (pc := 16) dX11_pays_16 (k := ?_)
    refine g_get (M := mX11_pays) (pc := 17) (ji := 31) (by rfl) fX11_31 kX11_105 dX11_pays_17 (kk := fun hr17 => ?_)
    refine g_aload_n (M := mX11_pays) (pc := 20) dX11_pays_20 rfl (k := ?_)
    refine g_getr (M := mX11_pays) (pc := 21) (by rfl) fX11_3 kX11_20 dX11_pays_21 (by rfl) (kk := ?_)
    refine g_iload_n (M := mX11_pays) (pc := 24) dX11_pays_24 rfl (k := ?_)
    refine g_iald (M := mX11_pays) (pc := 25) (by rfl) (by omega) (by omega) dX11_pays_25 (kk := fun hr25 => ?_)
    refine g_isub (M := mX11_pays) (pc := 26) dX11_pays_26 (k := ?_)
    refine g_put (M := mX11_pays) (pc := 27) (ji := 31) (by rfl) fX11_31 kX11_105 dX11_pays_27 (by omega) (kk := ?_)
    refine g_iconst (M := mX11_pays) (pc := 30) dX11_pays_30 (k := ?_)
    refine g_zret (M := mX11_pays) (pc := 31) (by first | omega | (unfold b2; split <;> omega)) rfl dX11_pays_31 rfl ⟨_, _, rfl, rfl, ?_⟩
    refine ⟨?_, ?_, ?_⟩
    · omega
    · refine jvu69_31 ?_ (by omega) (by omega); exact hI
    · refine Fr.up ?_ (by first | rfl | (unfold jcP; simp; try omega)); exact (Fr.rf)
  · skip
    refine g_iconst (M := mX11_pays) (pc := 13) dX11_pays_13 (k := ?_)
    refine g_zret (M := mX11_pays) (pc := 14) (by first | omega | (unfold b2; split <;> omega)) rfl dX11_pays_14 rfl ⟨_, _, rfl, rfl, ?_⟩
    refine ⟨?_, ?_, ?_⟩
    · omega
    · exact hI
    · exact (Fr.rf)
set_option maxHeartbeats 4000000 in
set_option maxRecDepth 20000 in
theorem c_X11_letsIn (Γ : KT) (t : Nat) (σ : Nat → Int → Int) (h : Int) (hI : InvJ σ) (hh : 0 ≤ h ∧ h < 6) : Ct Γ mX11_letsIn 3 (0, 0) [vR Γ 69, vI h] (113, ρT t, σ) (pI 113 (ρT t) (fun r σ' => (0 ≤ r ∧ r ≤ 1) ∧ (InvJ σ') ∧ (Fr jcP σ σ'))) := by
  refine Ct.of rfl (Nat.le_of_ble_eq_true rfl) ?_
  show G Γ mX11_letsIn 3 (0, 0) _ (0, 0) 0 [some (vR Γ 69), some (vI h)] [] (113, ρT t, σ)
  refine g_aload_n (M := mX11_letsIn) (pc := 0) dX11_letsIn_0 rfl (k := ?_)
  refine g_aload_n (M := mX11_letsIn) (pc := 1) dX11_letsIn_1 rfl (k := ?_)
  refine g_getr (M := mX11_letsIn) (pc := 2) (by rfl) fX11_5 kX11_26 dX11_letsIn_2 (by rfl) (kk := ?_)
  refine g_iload_n (M := mX11_letsIn) (pc := 5) dX11_letsIn_5 rfl (k := ?_)
  refine g_iald (M := mX11_letsIn) (pc := 6) (by rfl) (by omega) (by omega) dX11_letsIn_6 (kk := fun hr6 => ?_)
  refine g_aload_n (M := mX11_letsIn) (pc := 7) dX11_letsIn_7 rfl (k := ?_)
  refine g_get (M := mX11_letsIn) (pc := 8) (ji := 28) (by rfl) fX11_28 kX11_96 dX11_letsIn_8 (kk := fun hr8 => ?_)
  have hb8 := jv69_28 hI 28 (by omega) (by omega)
  refine g_cV2I (M := mX11_letsIn) (pc := 11) (c_X11_has Γ t _ _ _) qX11_has vX11_has sX11_has kX11_314 dX11_letsIn_11 (kk := ?_)
  rintro _ _ ⟨e1, e⟩; rw [e1, e]; clear e1 e
  have hq11_0 := zbitR (σ 73 h) (σ 69 28)
  refine g_if_eqB (M := mX11_letsIn) (pc := 14) (tgt := 19) dX11_letsIn_14 (k1 := fun h14 => ?_) (k2 := fun h14 => ?_)
  · skip
    refine g_aload_n (M := mX11_letsIn) (pc := 19) dX11_letsIn_19 rfl (k := ?_)
    refine g_getr (M := mX11_letsIn) (pc := 20) (by rfl) fX11_2 kX11_16 dX11_letsIn_20 (by rfl) (kk := ?_)
    refine g_iload_n (M := mX11_letsIn) (pc := 23) dX11_letsIn_23 rfl (k := ?_)
    refine g_iald (M := mX11_letsIn) (pc := 24) (by rfl) (by omega) (by omega) dX11_letsIn_24 (kk := fun hr24 => ?_)
    have hb24 := jv70_0 hI h (by omega) (by omega)
    by_cases hsw25 : (σ 70 h) < 1 ∨ 6 < (σ 70 h)
    · skip
      refine g_tableOut (M := mX11_letsIn) (pc := 25) (tgt := 183) (by omega) dX11_letsIn_25 (h := hsw25) (k := ?_)
      refine g_iconst (M := mX11_letsIn) (pc := 183) dX11_letsIn_183 (k := ?_)
      refine g_zret (M := mX11_letsIn) (pc := 184) (by first | omega | (unfold b2; split <;> omega)) rfl dX11_letsIn_184 rfl ⟨_, _, rfl, rfl, ?_⟩
      refine ⟨?_, ?_, ?_⟩
      · omega
      · exact hI
      · exact (Fr.rf)
    · obtain hc25 | hc25 | hc25 | hc25 | hc25 | hc25 : (σ 70 h) = 1 ∨ (σ 70 h) = 2 ∨ (σ 70 h) = 3 ∨ (σ 70 h) = 4 ∨ (σ 70 h) = 5 ∨ (σ 70 h) = 6 := by omega
      · skip
        refine g_tableIn (M := mX11_letsIn) (pc := 25) (tgt := 64) (by omega) dX11_letsIn_25 (1) hc25 (k := ?_)
        refine g_aload_n (M := mX11_letsIn) (pc := 64) dX11_letsIn_64 rfl (k := ?_)
        refine g_get (M := mX11_letsIn) (pc := 65) (ji := 29) (by rfl) fX11_29 kX11_99 dX11_letsIn_65 (kk := fun hr65 => ?_)
        have hb65 := jv69_29 hI 29 (by omega) (by omega)
        refine g_iconst (M := mX11_letsIn) (pc := 68) dX11_letsIn_68 (k := ?_)
        refine g_aload_n (M := mX11_letsIn) (pc := 69) dX11_letsIn_69 rfl (k := ?_)
        refine g_getr (M := mX11_letsIn) (pc := 70) (by rfl) fX11_3 kX11_20 dX11_letsIn_70 (by rfl) (kk := ?_)
        refine g_iload_n (M := mX11_letsIn) (pc := 73) dX11_letsIn_73 rfl (k := ?_)
        refine g_iald (M := mX11_letsIn) (pc := 74) (by rfl) (by omega) (by omega) dX11_letsIn_74 (kk := fun hr74 => ?_)
        have hb74 := jv71_0 hI h (by omega) (by omega)
        refine g_imul (M := mX11_letsIn) (pc := 75) dX11_letsIn_75 (k := ?_)
        refine g_icmp_lt (M := mX11_letsIn) (pc := 76) (tgt := 83) (by omega) (by omega) dX11_letsIn_76 (k1 := fun h76 => ?_) (k2 := fun h76 => ?_)
        · skip
          refine g_iconst (M := mX11_letsIn) (pc := 83) dX11_letsIn_83 (k := ?_)
          refine g_zret (M := mX11_letsIn) (pc := 84) (by first | omega | (unfold b2; split <;> omega)) rfl dX11_letsIn_84 rfl ⟨_, _, rfl, rfl, ?_⟩
          refine ⟨?_, ?_, ?_⟩
          · omega
          · exact hI
          · exact (Fr.rf)
        · skip
          refine g_iconst (M := mX11_letsIn) (pc := 79) dX11_letsIn_79 (k := ?_)
          refine g_goto (M := mX11_letsIn) (pc := 80) (tgt := 84) dX11_letsIn_80 (k := ?_)
          refine g_zret (M := mX11_letsIn) (pc := 84) (by first | omega | (unfold b2; split <;> omega)) rfl dX11_letsIn_84 rfl ⟨_, _, rfl, rfl, ?_⟩
          refine ⟨?_, ?_, ?_⟩
          · omega
          · exact hI
          · exact (Fr.rf)
      · skip
        refine g_tableIn (M := mX11_letsIn) (pc := 25) (tgt := 85) (by omega) dX11_letsIn_25 (2) hc25 (k := ?_)
        refine g_aload_n (M := mX11_letsIn) (pc := 85) dX11_letsIn_85 rfl (k := ?_)
        refine g_iload_n (M := mX11_letsIn) (pc := 86) dX11_letsIn_86 rfl (k := ?_)
        refine g_cV1I (M := mX11_letsIn) (pc := 87) (c_X11_isProudly Γ t _ _ hI (by omega)) qX11_isProudly vX11_isProudly sX11_isProudly kX11_317 dX11_letsIn_87 (kk := ?_)
        rintro r87 _ ⟨hi87, e⟩; rw [e]; clear e
        refine g_zret (M := mX11_letsIn) (pc := 90) (by first | omega | (unfold b2; split <;> omega)) rfl dX11_letsIn_90 rfl ⟨_, _, rfl, rfl, ?_⟩
        refine ⟨?_, ?_, ?_⟩
        · omega
        · exact hI
        · exact (Fr.rf)
      · skip
        refine g_tableIn (M := mX11_letsIn) (pc := 25) (tgt := 91) (by omega) dX11_letsIn_25 (3) hc25 (k := ?_)
        refine g_aload_n (M := mX11_letsIn) (pc := 91) dX11_letsIn_91 rfl (k := ?_)
        refine g_iload_n (M := mX11_letsIn) (pc := 92) dX11_letsIn_92 rfl (k := ?_)
        refine g_cV1I (M := mX11_letsIn) (pc := 93) (c_X11_pays Γ t _ _ hI (by omega)) qX11_pays vX11_pays sX11_pays kX11_320 dX11_letsIn_93 (kk := ?_)
        rintro r93 τ93 ⟨hi93, hI93, hG93⟩
        have hF93 : Fr jcP σ τ93 := by refine Fr.tr ?_ hG93; exact (Fr.rf)
        refine g_zret (M := mX11_letsIn) (pc := 96) (by first | omega | (unfold b2; split <;> omega)) rfl dX11_letsIn_96 rfl ⟨_, _, rfl, rfl, ?_⟩
        refine ⟨?_, ?_, ?_⟩
        · omega
        · exact hI93
        · exact hF93
      · skip
        refine g_tableIn (M := mX11_letsIn) (pc := 25) (tgt := 97) (by omega) dX11_letsIn_25 (4) hc25 (k := ?_)
        refine g_aload_n (M := mX11_letsIn) (pc := 97) dX11_letsIn_97 rfl (k := ?_)
        refine g_getr (M := mX11_letsIn) (pc := 98) (by rfl) fX11_3 kX11_20 dX11_letsIn_98 (by rfl) (kk := ?_)
        refine g_iload_n (M := mX11_letsIn) (pc := 101) dX11_letsIn_101 rfl (k := ?_)
        refine g_iald (M := mX11_letsIn) (pc := 102) (by rfl) (by omega) (by omega) dX11_letsIn_102 (kk := fun hr102 => ?_)
        have hb102 := jv71_0 hI h (by omega) (by omega)
        refine g_bipush (M := mX11_letsIn) (pc := 103) dX11_letsIn_103 (k := ?_)
        refine g_icmp_gt (M := mX11_letsIn) (pc := 105) (tgt := 123) (by omega) (by omega) dX11_letsIn_105 (k1 := fun h105 => ?_) (k2 := fun h105 => ?_)
        · skip
          refine g_iconst (M := mX11_letsIn) (pc := 123) dX11_letsIn_123 (k := ?_)
          refine g_goto (M := mX11_letsIn) (pc := 124) (tgt := 128) dX11_letsIn_124 (k := ?_)
          refine g_zret (M := mX11_letsIn) (pc := 128) (by first | omega | (unfold b2; split <;> omega)) rfl dX11_letsIn_128 rfl ⟨_, _, rfl, rfl, ?_⟩
          refine ⟨?_, ?_, ?_⟩
          · omega
          · exact hI
          · exact (Fr.rf)
        · skip
          refine g_aload_n (M := mX11_letsIn) (pc := 108) dX11_letsIn_108 rfl (k := ?_)
          refine g_get (M := mX11_letsIn) (pc := 109) (ji := 29) (by rfl) fX11_29 kX11_99 dX11_letsIn_109 (kk := fun hr109 => ?_)
          have hb109 := jv69_29 hI 29 (by omega) (by omega)
          refine g_iconst (M := mX11_letsIn) (pc := 112) dX11_letsIn_112 (k := ?_)
          refine g_aload_n (M := mX11_letsIn) (pc := 113) dX11_letsIn_113 rfl (k := ?_)
          refine g_getr (M := mX11_letsIn) (pc := 114) (by rfl) fX11_3 kX11_20 dX11_letsIn_114 (by rfl) (kk := ?_)
          refine g_iload_n (M := mX11_letsIn) (pc := 117) dX11_letsIn_117 rfl (k := ?_)
          refine g_iald (M := mX11_letsIn) (pc := 118) (by rfl) (by omega) (by omega) dX11_letsIn_118 (kk := fun hr118 => ?_)
          refine g_imul (M := mX11_letsIn) (pc := 119) dX11_letsIn_119 (k := ?_)
          refine g_icmp_lt (M := mX11_letsIn) (pc := 120) (tgt := 127) (by omega) (by omega) dX11_letsIn_120 (k1 := fun h120 => ?_) (k2 := fun h120 => ?_)
          · skip
            refine g_iconst (M := mX11_letsIn) (pc := 127) dX11_letsIn_127 (k := ?_)
            refine g_zret (M := mX11_letsIn) (pc := 128) (by first | omega | (unfold b2; split <;> omega)) rfl dX11_letsIn_128 rfl ⟨_, _, rfl, rfl, ?_⟩
            refine ⟨?_, ?_, ?_⟩
            · omega
            · exact hI
            · exact (Fr.rf)
          · skip
            refine g_iconst (M := mX11_letsIn) (pc := 123) dX11_letsIn_123 (k := ?_)
            refine g_goto (M := mX11_letsIn) (pc := 124) (tgt := 128) dX11_letsIn_124 (k := ?_)
            refine g_zret (M := mX11_letsIn) (pc := 128) (by first | omega | (unfold b2; split <;> omega)) rfl dX11_letsIn_128 rfl ⟨_, _, rfl, rfl, ?_⟩
            refine ⟨?_, ?_, ?_⟩
            · omega
            · exact hI
            · exact (Fr.rf)
      · skip
        refine g_tableIn (M := mX11_letsIn) (pc := 25) (tgt := 129) (by omega) dX11_letsIn_25 (5) hc25 (k := ?_)
        refine g_aload_n (M := mX11_letsIn) (pc := 129) dX11_letsIn_129 rfl (k := ?_)
        refine g_get (M := mX11_letsIn) (pc := 130) (ji := 31) (by rfl) fX11_31 kX11_105 dX11_letsIn_130 (kk := fun hr130 => ?_)
        have hb130 := jv69_31 hI 31 (by omega) (by omega)
        refine g_if_le (M := mX11_letsIn) (pc := 133) (tgt := 148) (by omega) dX11_letsIn_133 (k1 := fun h133 => ?_) (k2 := fun h133 => ?_)
        · skip
          refine g_iconst (M := mX11_letsIn) (pc := 148) dX11_letsIn_148 (k := ?_)
          refine g_zret (M := mX11_letsIn) (pc := 149) (by first | omega | (unfold b2; split <;> omega)) rfl dX11_letsIn_149 rfl ⟨_, _, rfl, rfl, ?_⟩
          refine ⟨?_, ?_, ?_⟩
          · omega
          · exact hI
          · exact (Fr.rf)
        · skip
          refine g_aload_n (M := mX11_letsIn) (pc := 136) dX11_letsIn_136 rfl (k := ?_)
          refine g_iload_n (M := mX11_letsIn) (pc := 137) dX11_letsIn_137 rfl (k := ?_)
          refine g_cV1I (M := mX11_letsIn) (pc := 138) (c_X11_isProudly Γ t _ _ hI (by omega)) qX11_isProudly vX11_isProudly sX11_isProudly kX11_317 dX11_letsIn_138 (kk := ?_)
          rintro r138 _ ⟨hi138, e⟩; rw [e]; clear e
          refine g_if_eq (M := mX11_letsIn) (pc := 141) (tgt := 148) (by omega) dX11_letsIn_141 (k1 := fun h141 => ?_) (k2 := fun h141 => ?_)
          · skip
            refine g_iconst (M := mX11_letsIn) (pc := 148) dX11_letsIn_148 (k := ?_)
            refine g_zret (M := mX11_letsIn) (pc := 149) (by first | omega | (unfold b2; split <;> omega)) rfl dX11_letsIn_149 rfl ⟨_, _, rfl, rfl, ?_⟩
            refine ⟨?_, ?_, ?_⟩
            · omega
            · exact hI
            · exact (Fr.rf)
          · skip
            refine g_iconst (M := mX11_letsIn) (pc := 144) dX11_letsIn_144 (k := ?_)
            refine g_goto (M := mX11_letsIn) (pc := 145) (tgt := 149) dX11_letsIn_145 (k := ?_)
            refine g_zret (M := mX11_letsIn) (pc := 149) (by first | omega | (unfold b2; split <;> omega)) rfl dX11_letsIn_149 rfl ⟨_, _, rfl, rfl, ?_⟩
            refine ⟨?_, ?_, ?_⟩
            · omega
            · exact hI
            · exact (Fr.rf)
      · skip
        refine g_tableIn (M := mX11_letsIn) (pc := 25) (tgt := 150) (by omega) dX11_letsIn_25 (6) hc25 (k := ?_)
        refine g_aload_n (M := mX11_letsIn) (pc := 150) dX11_letsIn_150 rfl (k := ?_)
        refine g_getr (M := mX11_letsIn) (pc := 151) (by rfl) fX11_6 kX11_29 dX11_letsIn_151 (by rfl) (kk := ?_)
        refine g_iconst (M := mX11_letsIn) (pc := 154) dX11_letsIn_154 (k := ?_)
        refine g_iload_n (M := mX11_letsIn) (pc := 155) dX11_letsIn_155 rfl (k := ?_)
        refine g_imul (M := mX11_letsIn) (pc := 156) dX11_letsIn_156 (k := ?_)
        refine g_aload_n (M := mX11_letsIn) (pc := 157) dX11_letsIn_157 rfl (k := ?_)
        refine g_get (M := mX11_letsIn) (pc := 158) (ji := 29) (by rfl) fX11_29 kX11_99 dX11_letsIn_158 (kk := fun hr158 => ?_)
        have hb158 := jv69_29 hI 29 (by omega) (by omega)
        refine g_iconst (M := mX11_letsIn) (pc := 161) dX11_letsIn_161 (k := ?_)
        refine g_irem (M := mX11_letsIn) (pc := 162) (by omega) (by omega) (by omega) dX11_letsIn_162 (k := ?_)
        have hz162 := tmodB (a := σ 69 29) (b := 4) (by omega)
        refine g_iadd (M := mX11_letsIn) (pc := 163) dX11_letsIn_163 (k := ?_)
        refine g_iald (M := mX11_letsIn) (pc := 164) (by rfl) (by omega) (by omega) dX11_letsIn_164 (kk := fun hr164 => ?_)
        refine g_iconst (M := mX11_letsIn) (pc := 165) dX11_letsIn_165 (k := ?_)
        refine g_icmp_ne (M := mX11_letsIn) (pc := 166) (tgt := 181) (by omega) (by omega) dX11_letsIn_166 (k1 := fun h166 => ?_) (k2 := fun h166 => ?_)
        · skip
          refine g_iconst (M := mX11_letsIn) (pc := 181) dX11_letsIn_181 (k := ?_)
          refine g_zret (M := mX11_letsIn) (pc := 182) (by first | omega | (unfold b2; split <;> omega)) rfl dX11_letsIn_182 rfl ⟨_, _, rfl, rfl, ?_⟩
          refine ⟨?_, ?_, ?_⟩
          · omega
          · exact hI
          · exact (Fr.rf)
        · skip
          refine g_aload_n (M := mX11_letsIn) (pc := 169) dX11_letsIn_169 rfl (k := ?_)
          refine g_iload_n (M := mX11_letsIn) (pc := 170) dX11_letsIn_170 rfl (k := ?_)
          refine g_cV1I (M := mX11_letsIn) (pc := 171) (c_X11_pays Γ t _ _ hI (by omega)) qX11_pays vX11_pays sX11_pays kX11_320 dX11_letsIn_171 (kk := ?_)
          rintro r171 τ171 ⟨hi171, hI171, hG171⟩
          have hF171 : Fr jcP σ τ171 := by refine Fr.tr ?_ hG171; exact (Fr.rf)
          refine g_if_eq (M := mX11_letsIn) (pc := 174) (tgt := 181) (by omega) dX11_letsIn_174 (k1 := fun h174 => ?_) (k2 := fun h174 => ?_)
          · skip
            refine g_iconst (M := mX11_letsIn) (pc := 181) dX11_letsIn_181 (k := ?_)
            refine g_zret (M := mX11_letsIn) (pc := 182) (by first | omega | (unfold b2; split <;> omega)) rfl dX11_letsIn_182 rfl ⟨_, _, rfl, rfl, ?_⟩
            refine ⟨?_, ?_, ?_⟩
            · omega
            · exact hI171
            · exact hF171
          · skip
            refine g_iconst (M := mX11_letsIn) (pc := 177) dX11_letsIn_177 (k := ?_)
            refine g_goto (M := mX11_letsIn) (pc := 178) (tgt := 182) dX11_letsIn_178 (k := ?_)
            refine g_zret (M := mX11_letsIn) (pc := 182) (by first | omega | (unfold b2; split <;> omega)) rfl dX11_letsIn_182 rfl ⟨_, _, rfl, rfl, ?_⟩
            refine ⟨?_, ?_, ?_⟩
            · omega
            · exact hI171
            · exact hF171
  · skip
    refine g_iconst (M := mX11_letsIn) (pc := 17) dX11_letsIn_17 (k := ?_)
    refine g_zret (M := mX11_letsIn) (pc := 18) (by first | omega | (unfold b2; split <;> omega)) rfl dX11_letsIn_18 rfl ⟨_, _, rfl, rfl, ?_⟩
    refine ⟨?_, ?_, ?_⟩
    · omega
    · exact hI
    · exact (Fr.rf)
set_option maxHeartbeats 4000000 in
set_option maxRecDepth 20000 in
theorem c_X11_visits (Γ : KT) (t : Nat) (σ : Nat → Int → Int) (h : Int) (hI : InvJ σ) (hS : JS σ) (hh : 0 ≤ h ∧ h < 6) (hw : 0 ≤ σ 69 28 ∧ σ 69 28 < σ 69 1) (hm : σ 69 29 ≤ 1800000) : Ct Γ mX11_visits 5 (0, 0) [vR Γ 69, vI h] (113, ρT t, σ) (pI 113 (ρT t) (fun r σ' => (0 ≤ r ∧ r ≤ 1) ∧ (σ 69 29 ≤ σ' 69 29 ∧ σ' 69 29 ≤ σ 69 29 + 103000) ∧ (InvJ σ') ∧ (Fr jcV σ σ'))) := by
  refine Ct.of rfl (Nat.le_of_ble_eq_true rfl) ?_
  show G Γ mX11_visits 5 (0, 0) _ (0, 0) 0 [some (vR Γ 69), some (vI h), none, none] [] (113, ρT t, σ)
  refine g_aload_n (M := mX11_visits) (pc := 0) dX11_visits_0 rfl (k := ?_)
  refine g_aload_n (M := mX11_visits) (pc := 1) dX11_visits_1 rfl (k := ?_)
  refine g_get (M := mX11_visits) (pc := 2) (ji := 28) (by rfl) fX11_28 kX11_96 dX11_visits_2 (kk := fun hr2 => ?_)
  have hb2 := jv69_28 hI 28 (by omega) (by omega)
  refine g_iload_n (M := mX11_visits) (pc := 5) dX11_visits_5 rfl (k := ?_)
  refine g_aload_n (M := mX11_visits) (pc := 6) dX11_visits_6 rfl (k := ?_)
  refine g_getr (M := mX11_visits) (pc := 7) (by rfl) fX11_8 kX11_35 dX11_visits_7 (by rfl) (kk := ?_)
  refine g_aload_n (M := mX11_visits) (pc := 10) dX11_visits_10 rfl (k := ?_)
  refine g_get (M := mX11_visits) (pc := 11) (ji := 28) (by rfl) fX11_28 kX11_96 dX11_visits_11 (kk := fun hr11 => ?_)
  refine g_iald (M := mX11_visits) (pc := 14) (by rfl) (by omega) (by omega) dX11_visits_14 (kk := fun hr14 => ?_)
  have hb14 := jv76_0 hI (σ 69 28) (by omega) (by omega)
  refine g_cV3I (M := mX11_visits) (pc := 15) (c_X11_slowOf Γ t _ _ _ _ hI hS (by omega) (by omega) (by omega)) qX11_slowOf vX11_slowOf sX11_slowOf kX11_304 dX11_visits_15 (kk := ?_)
  rintro r15 τ15 ⟨hi15, hI15, hG15⟩
  have hk15_69_28 := hG15 69 28 rfl
  have hk15_69_1 := hG15 69 1 rfl
  have hk15_69_29 := hG15 69 29 rfl
  have hF15 : Fr jcV σ τ15 := by refine Fr.tr ?_ (Fr.mono hG15 sb_jcH_jcV); exact (Fr.rf)
  refine g_istore_2 (M := mX11_visits) (pc := 18) dX11_visits_18 (k := ?_)
  refine g_aload_n (M := mX11_visits) (pc := 19) dX11_visits_19 rfl (k := ?_)
  refine g_dupR (M := mX11_visits) (pc := 20) dX11_visits_20 (k := ?_)
  refine g_get (M := mX11_visits) (pc := 21) (ji := 29) (by rfl) fX11_29 kX11_99 dX11_visits_21 (kk := fun hr21 => ?_)
  have hb21 := jv69_29 hI15 29 (by omega) (by omega)
  refine g_aload_n (M := mX11_visits) (pc := 24) dX11_visits_24 rfl (k := ?_)
  refine g_aload_n (M := mX11_visits) (pc := 25) dX11_visits_25 rfl (k := ?_)
  refine g_get (M := mX11_visits) (pc := 26) (ji := 28) (by rfl) fX11_28 kX11_96 dX11_visits_26 (kk := fun hr26 => ?_)
  have hb26 := jv69_28 hI15 28 (by omega) (by omega)
  refine g_iload_n (M := mX11_visits) (pc := 29) dX11_visits_29 rfl (k := ?_)
  refine g_aload_n (M := mX11_visits) (pc := 30) dX11_visits_30 rfl (k := ?_)
  refine g_getr (M := mX11_visits) (pc := 31) (by rfl) fX11_8 kX11_35 dX11_visits_31 (by rfl) (kk := ?_)
  refine g_aload_n (M := mX11_visits) (pc := 34) dX11_visits_34 rfl (k := ?_)
  refine g_get (M := mX11_visits) (pc := 35) (ji := 28) (by rfl) fX11_28 kX11_96 dX11_visits_35 (kk := fun hr35 => ?_)
  refine g_iald (M := mX11_visits) (pc := 38) (by rfl) (by omega) (by omega) dX11_visits_38 (kk := fun hr38 => ?_)
  have hb38 := jv76_0 hI15 (τ15 69 28) (by omega) (by omega)
  refine g_cV3I (M := mX11_visits) (pc := 39) (c_X11_farOf Γ t _ _ _ _ hI15 (JS_fr hS (by exact Fr.mono hF15 sb_jcV_jNS)) (by omega) (by omega) (by omega)) qX11_farOf vX11_farOf sX11_farOf kX11_308 dX11_visits_39 (kk := ?_)
  rintro r39 τ39 ⟨hi39, hI39, hG39⟩
  have hk39_69_28 := hG39 69 28 rfl
  have hk39_69_1 := hG39 69 1 rfl
  have hk39_69_29 := hG39 69 29 rfl
  have hF39 : Fr jcV σ τ39 := by refine Fr.tr ?_ (Fr.mono hG39 sb_jcH_jcV); exact hF15
  refine g_aload_n (M := mX11_visits) (pc := 42) dX11_visits_42 rfl (k := ?_)
  refine g_iload_n (M := mX11_visits) (pc := 43) dX11_visits_43 rfl (k := ?_)
  refine g_aload_n (M := mX11_visits) (pc := 44) dX11_visits_44 rfl (k := ?_)
  refine g_get (M := mX11_visits) (pc := 45) (ji := 30) (by rfl) fX11_30 kX11_102 dX11_visits_45 (kk := fun hr45 => ?_)
  have hb45 := jv69_30 hI39 30 (by omega) (by omega)
  refine g_cV2I (M := mX11_visits) (pc := 48) (c_X11_apart Γ t _ _ _ (by omega) (by omega)) qX11_apart vX11_apart sX11_apart kX11_323 dX11_visits_48 (kk := ?_)
  rintro r48 _ ⟨hd48, e⟩; rw [e]; clear e
  refine g_imul (M := mX11_visits) (pc := 51) dX11_visits_51 (k := ?_)
  have hz51 := mulP (a := r39) (b := r48) (A := 990) (C := 5) (by omega) (by omega)
  refine g_iadd (M := mX11_visits) (pc := 52) dX11_visits_52 (k := ?_)
  refine g_put (M := mX11_visits) (pc := 53) (ji := 29) (by rfl) fX11_29 kX11_99 dX11_visits_53 (by omega) (kk := ?_)
  refine g_aload_n (M := mX11_visits) (pc := 56) dX11_visits_56 rfl (k := ?_)
  refine g_aload_n (M := mX11_visits) (pc := 57) dX11_visits_57 rfl (k := ?_)
  refine g_get (M := mX11_visits) (pc := 58) (ji := 32) (by rfl) fX11_32 kX11_108 dX11_visits_58 (kk := fun hr58 => ?_)
  simp only [up_same, up_cell, up_slot, ne_eq, not_false_eq_true, Nat.reduceEqDiff, Int.reduceEq, reduceCtorEq, Nat.reduceAdd, Int.reduceAdd, Int.reduceSub] at hr58 ⊢
  refine g_iload_n (M := mX11_visits) (pc := 61) dX11_visits_61 rfl (k := ?_)
  refine g_cV2I (M := mX11_visits) (pc := 62) (c_X11_has Γ t _ _ _) qX11_has vX11_has sX11_has kX11_314 dX11_visits_62 (kk := ?_)
  rintro _ _ ⟨e1, e⟩; rw [e1, e]; clear e1 e
  have hq62_0 := zbitR (τ39 69 32) h
  refine g_if_neB (M := mX11_visits) (pc := 65) (tgt := 98) dX11_visits_65 (k1 := fun h65 => ?_) (k2 := fun h65 => ?_)
  · skip
    refine g_aload_n (M := mX11_visits) (pc := 98) dX11_visits_98 rfl (k := ?_)
    refine g_iload_n (M := mX11_visits) (pc := 99) dX11_visits_99 rfl (k := ?_)
    refine g_put (M := mX11_visits) (pc := 100) (ji := 30) (by rfl) fX11_30 kX11_102 dX11_visits_100 (by omega) (kk := ?_)
    refine g_aload_n (M := mX11_visits) (pc := 103) dX11_visits_103 rfl (k := ?_)
    refine g_dupR (M := mX11_visits) (pc := 104) dX11_visits_104 (k := ?_)
    refine g_get (M := mX11_visits) (pc := 105) (ji := 32) (by rfl) fX11_32 kX11_108 dX11_visits_105 (kk := fun hr105 => ?_)
    simp only [up_same, up_cell, up_slot, ne_eq, not_false_eq_true, Nat.reduceEqDiff, Int.reduceEq, reduceCtorEq, Nat.reduceAdd, Int.reduceAdd, Int.reduceSub] at hr105 ⊢
    refine g_iconst (M := mX11_visits) (pc := 108) dX11_visits_108 (k := ?_)
    refine g_iload_n (M := mX11_visits) (pc := 109) dX11_visits_109 rfl (k := ?_)
    refine g_ishl (M := mX11_visits) (pc := 110) dX11_visits_110 (k := ?_)
    have hz110 := zshlR 1 h
    refine g_ior (M := mX11_visits) (pc := 111) dX11_visits_111 (k := ?_)
    have hz111 := zorR (τ39 69 32) (zshl 1 h)
    refine g_put (M := mX11_visits) (pc := 112) (ji := 32) (by rfl) fX11_32 kX11_108 dX11_visits_112 (by omega) (kk := ?_)
    refine g_aload_n (M := mX11_visits) (pc := 115) dX11_visits_115 rfl (k := ?_)
    refine g_get (M := mX11_visits) (pc := 116) (ji := 29) (by rfl) fX11_29 kX11_99 dX11_visits_116 (kk := fun hr116 => ?_)
    simp only [up_same, up_cell, up_slot, ne_eq, not_false_eq_true, Nat.reduceEqDiff, Int.reduceEq, reduceCtorEq, Nat.reduceAdd, Int.reduceAdd, Int.reduceSub] at hr116 ⊢
    refine g_aload_n (M := mX11_visits) (pc := 119) dX11_visits_119 rfl (k := ?_)
    refine g_cV0I (M := mX11_visits) (pc := 120) (c_X11_dawn Γ t _ (by refine jv_free ?_ (by rfl); refine jvu69_30 ?_ (by omega) (by omega); refine jvu69_29 ?_ (by omega) (by omega); exact hI39)) qX11_dawn vX11_dawn sX11_dawn kX11_330 dX11_visits_120 (kk := ?_)
    rintro r120 _ ⟨hd120, e⟩; rw [e]; clear e
    try simp only [up_same, up_cell, up_slot, ne_eq, not_false_eq_true, Nat.reduceEqDiff, Int.reduceEq, reduceCtorEq, Nat.reduceAdd, Int.reduceAdd, Int.reduceSub] at hd120
    refine g_icmp_ge (M := mX11_visits) (pc := 123) (tgt := 138) (by omega) (by omega) dX11_visits_123 (k1 := fun h123 => ?_) (k2 := fun h123 => ?_)
    · skip
      refine g_iconst (M := mX11_visits) (pc := 138) dX11_visits_138 (k := ?_)
      refine g_istore_3 (M := mX11_visits) (pc := 139) dX11_visits_139 (k := ?_)
      refine g_aload_n (M := mX11_visits) (pc := 140) dX11_visits_140 rfl (k := ?_)
      refine g_dupR (M := mX11_visits) (pc := 141) dX11_visits_141 (k := ?_)
      refine g_get (M := mX11_visits) (pc := 142) (ji := 33) (by rfl) fX11_33 kX11_111 dX11_visits_142 (kk := fun hr142 => ?_)
      simp only [up_same, up_cell, up_slot, ne_eq, not_false_eq_true, Nat.reduceEqDiff, Int.reduceEq, reduceCtorEq, Nat.reduceAdd, Int.reduceAdd, Int.reduceSub] at hr142 ⊢
      refine g_iload_n (M := mX11_visits) (pc := 145) dX11_visits_145 rfl (k := ?_)
      refine g_if_eq (M := mX11_visits) (pc := 146) (tgt := 155) (by omega) dX11_visits_146 (k1 := fun h146 => ?_) (k2 := fun h146 => ?_)
      · skip
        refine g_iconst (M := mX11_visits) (pc := 155) dX11_visits_155 (k := ?_)
        refine g_ior (M := mX11_visits) (pc := 156) dX11_visits_156 (k := ?_)
        have hz156 := zorR (τ39 69 33) 0
        refine g_put (M := mX11_visits) (pc := 157) (ji := 33) (by rfl) fX11_33 kX11_111 dX11_visits_157 (by omega) (kk := ?_)
        refine g_iload_n (M := mX11_visits) (pc := 160) dX11_visits_160 rfl (k := ?_)
        refine g_zret (M := mX11_visits) (pc := 161) (by first | omega | (unfold b2; split <;> omega)) rfl dX11_visits_161 rfl ⟨_, _, rfl, rfl, ?_⟩
        refine ⟨?_, ?_, ?_, ?_⟩
        · omega
        · (try simp only [up_same, up_cell, up_slot, ne_eq, not_false_eq_true, Nat.reduceEqDiff, Int.reduceEq, reduceCtorEq, Nat.reduceAdd, Int.reduceAdd, Int.reduceSub]); omega
        · refine jv_free ?_ (by rfl); refine jv_free ?_ (by rfl); refine jvu69_30 ?_ (by omega) (by omega); refine jvu69_29 ?_ (by omega) (by omega); exact hI39
        · refine Fr.up ?_ (by first | rfl | (unfold jcV; simp; try omega)); refine Fr.up ?_ (by first | rfl | (unfold jcV; simp; try omega)); refine Fr.up ?_ (by first | rfl | (unfold jcV; simp; try omega)); refine Fr.up ?_ (by first | rfl | (unfold jcV; simp; try omega)); exact hF39
      · omega
    · skip
      refine g_aload_n (M := mX11_visits) (pc := 126) dX11_visits_126 rfl (k := ?_)
      refine g_iload_n (M := mX11_visits) (pc := 127) dX11_visits_127 rfl (k := ?_)
      refine g_cV1I (M := mX11_visits) (pc := 128) (c_X11_letsIn Γ t _ _ (by refine jv_free ?_ (by rfl); refine jvu69_30 ?_ (by omega) (by omega); refine jvu69_29 ?_ (by omega) (by omega); exact hI39) (by first | omega | (simp only [up_same, up_cell, up_slot, ne_eq, not_false_eq_true, Nat.reduceEqDiff, Int.reduceEq, reduceCtorEq, Nat.reduceAdd, Int.reduceAdd, Int.reduceSub]; done) | (simp only [up_same, up_cell, up_slot, ne_eq, not_false_eq_true, Nat.reduceEqDiff, Int.reduceEq, reduceCtorEq, Nat.reduceAdd, Int.reduceAdd, Int.reduceSub]; omega))) qX11_letsIn vX11_letsIn sX11_letsIn kX11_333 dX11_visits_128 (kk := ?_)
      rintro r128 τ128 ⟨hi128, hI128, hG128⟩
      try simp only [up_same, up_cell, up_slot, ne_eq, not_false_eq_true, Nat.reduceEqDiff, Int.reduceEq, reduceCtorEq, Nat.reduceAdd, Int.reduceAdd, Int.reduceSub] at hi128
      have hk128_69_29 := hG128 69 29 rfl
      simp only [up_same, up_cell, up_slot, ne_eq, not_false_eq_true, Nat.reduceEqDiff, Int.reduceEq, reduceCtorEq, Nat.reduceAdd, Int.reduceAdd, Int.reduceSub] at hk128_69_29
      have hF128 : Fr jcV σ τ128 := by refine Fr.tr ?_ (Fr.mono hG128 sb_jcP_jcV); refine Fr.up ?_ (by first | rfl | (unfold jcV; simp; try omega)); refine Fr.up ?_ (by first | rfl | (unfold jcV; simp; try omega)); refine Fr.up ?_ (by first | rfl | (unfold jcV; simp; try omega)); exact hF39
      refine g_if_eq (M := mX11_visits) (pc := 131) (tgt := 138) (by omega) dX11_visits_131 (k1 := fun h131 => ?_) (k2 := fun h131 => ?_)
      · skip
        refine g_iconst (M := mX11_visits) (pc := 138) dX11_visits_138 (k := ?_)
        refine g_istore_3 (M := mX11_visits) (pc := 139) dX11_visits_139 (k := ?_)
        refine g_aload_n (M := mX11_visits) (pc := 140) dX11_visits_140 rfl (k := ?_)
        refine g_dupR (M := mX11_visits) (pc := 141) dX11_visits_141 (k := ?_)
        refine g_get (M := mX11_visits) (pc := 142) (ji := 33) (by rfl) fX11_33 kX11_111 dX11_visits_142 (kk := fun hr142 => ?_)
        refine g_iload_n (M := mX11_visits) (pc := 145) dX11_visits_145 rfl (k := ?_)
        refine g_if_eq (M := mX11_visits) (pc := 146) (tgt := 155) (by omega) dX11_visits_146 (k1 := fun h146 => ?_) (k2 := fun h146 => ?_)
        · skip
          refine g_iconst (M := mX11_visits) (pc := 155) dX11_visits_155 (k := ?_)
          refine g_ior (M := mX11_visits) (pc := 156) dX11_visits_156 (k := ?_)
          have hz156 := zorR (τ128 69 33) 0
          refine g_put (M := mX11_visits) (pc := 157) (ji := 33) (by rfl) fX11_33 kX11_111 dX11_visits_157 (by omega) (kk := ?_)
          refine g_iload_n (M := mX11_visits) (pc := 160) dX11_visits_160 rfl (k := ?_)
          refine g_zret (M := mX11_visits) (pc := 161) (by first | omega | (unfold b2; split <;> omega)) rfl dX11_visits_161 rfl ⟨_, _, rfl, rfl, ?_⟩
          refine ⟨?_, ?_, ?_, ?_⟩
          · omega
          · (try simp only [up_same, up_cell, up_slot, ne_eq, not_false_eq_true, Nat.reduceEqDiff, Int.reduceEq, reduceCtorEq, Nat.reduceAdd, Int.reduceAdd, Int.reduceSub]); omega
          · refine jv_free ?_ (by rfl); exact hI128
          · refine Fr.up ?_ (by first | rfl | (unfold jcV; simp; try omega)); exact hF128
        · omega
      · skip
        refine g_iconst (M := mX11_visits) (pc := 134) dX11_visits_134 (k := ?_)
        refine g_goto (M := mX11_visits) (pc := 135) (tgt := 139) dX11_visits_135 (k := ?_)
        refine g_istore_3 (M := mX11_visits) (pc := 139) dX11_visits_139 (k := ?_)
        refine g_aload_n (M := mX11_visits) (pc := 140) dX11_visits_140 rfl (k := ?_)
        refine g_dupR (M := mX11_visits) (pc := 141) dX11_visits_141 (k := ?_)
        refine g_get (M := mX11_visits) (pc := 142) (ji := 33) (by rfl) fX11_33 kX11_111 dX11_visits_142 (kk := fun hr142 => ?_)
        refine g_iload_n (M := mX11_visits) (pc := 145) dX11_visits_145 rfl (k := ?_)
        refine g_if_eq (M := mX11_visits) (pc := 146) (tgt := 155) (by omega) dX11_visits_146 (k1 := fun h146 => ?_) (k2 := fun h146 => ?_)
        · omega
        · skip
          refine g_iconst (M := mX11_visits) (pc := 149) dX11_visits_149 (k := ?_)
          refine g_iload_n (M := mX11_visits) (pc := 150) dX11_visits_150 rfl (k := ?_)
          refine g_ishl (M := mX11_visits) (pc := 151) dX11_visits_151 (k := ?_)
          have hz151 := zshlR 1 h
          refine g_goto (M := mX11_visits) (pc := 152) (tgt := 156) dX11_visits_152 (k := ?_)
          refine g_ior (M := mX11_visits) (pc := 156) dX11_visits_156 (k := ?_)
          have hz156 := zorR (τ128 69 33) (zshl 1 h)
          refine g_put (M := mX11_visits) (pc := 157) (ji := 33) (by rfl) fX11_33 kX11_111 dX11_visits_157 (by omega) (kk := ?_)
          refine g_iload_n (M := mX11_visits) (pc := 160) dX11_visits_160 rfl (k := ?_)
          refine g_zret (M := mX11_visits) (pc := 161) (by first | omega | (unfold b2; split <;> omega)) rfl dX11_visits_161 rfl ⟨_, _, rfl, rfl, ?_⟩
          refine ⟨?_, ?_, ?_, ?_⟩
          · omega
          · (try simp only [up_same, up_cell, up_slot, ne_eq, not_false_eq_true, Nat.reduceEqDiff, Int.reduceEq, reduceCtorEq, Nat.reduceAdd, Int.reduceAdd, Int.reduceSub]); omega
          · refine jv_free ?_ (by rfl); exact hI128
          · refine Fr.up ?_ (by first | rfl | (unfold jcV; simp; try omega)); exact hF128
  · skip
    refine g_aload_n (M := mX11_visits) (pc := 68) dX11_visits_68 rfl (k := ?_)
    refine g_dupR (M := mX11_visits) (pc := 69) dX11_visits_69 (k := ?_)
    refine g_get (M := mX11_visits) (pc := 70) (ji := 29) (by rfl) fX11_29 kX11_99 dX11_visits_70 (kk := fun hr70 => ?_)
    simp only [up_same, up_cell, up_slot, ne_eq, not_false_eq_true, Nat.reduceEqDiff, Int.reduceEq, reduceCtorEq, Nat.reduceAdd, Int.reduceAdd, Int.reduceSub] at hr70 ⊢
    refine g_aload_n (M := mX11_visits) (pc := 73) dX11_visits_73 rfl (k := ?_)
    refine g_iload_n (M := mX11_visits) (pc := 74) dX11_visits_74 rfl (k := ?_)
    refine g_aload_n (M := mX11_visits) (pc := 75) dX11_visits_75 rfl (k := ?_)
    refine g_getr (M := mX11_visits) (pc := 76) (by rfl) fX11_4 kX11_23 dX11_visits_76 (by rfl) (kk := ?_)
    refine g_iload_n (M := mX11_visits) (pc := 79) dX11_visits_79 rfl (k := ?_)
    refine g_iald (M := mX11_visits) (pc := 80) (by rfl) (by omega) (by omega) dX11_visits_80 (kk := fun hr80 => ?_)
    simp only [up_same, up_cell, up_slot, ne_eq, not_false_eq_true, Nat.reduceEqDiff, Int.reduceEq, reduceCtorEq, Nat.reduceAdd, Int.reduceAdd, Int.reduceSub] at hr80 ⊢
    have hb80 := jv72_0 hI39 h (by omega) (by omega)
    refine g_imul (M := mX11_visits) (pc := 81) dX11_visits_81 (k := ?_)
    have hz81 := mulP (a := r15) (b := (τ39 72 h)) (A := 990) (C := 99) (by omega) (by omega)
    refine g_aload_n (M := mX11_visits) (pc := 82) dX11_visits_82 rfl (k := ?_)
    refine g_getr (M := mX11_visits) (pc := 83) (by rfl) fX11_9 kX11_38 dX11_visits_83 (by rfl) (kk := ?_)
    refine g_aload_n (M := mX11_visits) (pc := 86) dX11_visits_86 rfl (k := ?_)
    refine g_get (M := mX11_visits) (pc := 87) (ji := 28) (by rfl) fX11_28 kX11_96 dX11_visits_87 (kk := fun hr87 => ?_)
    simp only [up_same, up_cell, up_slot, ne_eq, not_false_eq_true, Nat.reduceEqDiff, Int.reduceEq, reduceCtorEq, Nat.reduceAdd, Int.reduceAdd, Int.reduceSub] at hr87 ⊢
    have hb87 := jv69_28 hI39 28 (by omega) (by omega)
    refine g_iald (M := mX11_visits) (pc := 90) (by rfl) (by omega) (by omega) dX11_visits_90 (kk := fun hr90 => ?_)
    simp only [up_same, up_cell, up_slot, ne_eq, not_false_eq_true, Nat.reduceEqDiff, Int.reduceEq, reduceCtorEq, Nat.reduceAdd, Int.reduceAdd, Int.reduceSub] at hr90 ⊢
    have hb90 := jv77_0 hI39 (τ39 69 28) (by omega) (by omega)
    have hq91 := JS_q (JS_fr hS (Fr.mono hF39 sb_jcV_jNS)) (f := τ39 69 28) (by omega) (by omega)
    refine g_cV2I (M := mX11_visits) (pc := 91) (c_X11_upBy Γ t _ _ _ (by first | omega | (simp only [up_same, up_cell, up_slot, ne_eq, not_false_eq_true, Nat.reduceEqDiff, Int.reduceEq, reduceCtorEq, Nat.reduceAdd, Int.reduceAdd, Int.reduceSub]; done) | (simp only [up_same, up_cell, up_slot, ne_eq, not_false_eq_true, Nat.reduceEqDiff, Int.reduceEq, reduceCtorEq, Nat.reduceAdd, Int.reduceAdd, Int.reduceSub]; omega)) (by first | omega | (simp only [up_same, up_cell, up_slot, ne_eq, not_false_eq_true, Nat.reduceEqDiff, Int.reduceEq, reduceCtorEq, Nat.reduceAdd, Int.reduceAdd, Int.reduceSub]; done) | (simp only [up_same, up_cell, up_slot, ne_eq, not_false_eq_true, Nat.reduceEqDiff, Int.reduceEq, reduceCtorEq, Nat.reduceAdd, Int.reduceAdd, Int.reduceSub]; omega))) qX11_upBy vX11_upBy sX11_upBy kX11_327 dX11_visits_91 (kk := ?_)
    rintro r91 _ ⟨hd91, e⟩; rw [e]; clear e
    try simp only [up_same, up_cell, up_slot, ne_eq, not_false_eq_true, Nat.reduceEqDiff, Int.reduceEq, reduceCtorEq, Nat.reduceAdd, Int.reduceAdd, Int.reduceSub] at hd91
    refine g_iadd (M := mX11_visits) (pc := 94) dX11_visits_94 (k := ?_)
    refine g_put (M := mX11_visits) (pc := 95) (ji := 29) (by rfl) fX11_29 kX11_99 dX11_visits_95 (by omega) (kk := ?_)
    refine g_aload_n (M := mX11_visits) (pc := 98) dX11_visits_98 rfl (k := ?_)
    refine g_iload_n (M := mX11_visits) (pc := 99) dX11_visits_99 rfl (k := ?_)
    refine g_put (M := mX11_visits) (pc := 100) (ji := 30) (by rfl) fX11_30 kX11_102 dX11_visits_100 (by omega) (kk := ?_)
    refine g_aload_n (M := mX11_visits) (pc := 103) dX11_visits_103 rfl (k := ?_)
    refine g_dupR (M := mX11_visits) (pc := 104) dX11_visits_104 (k := ?_)
    refine g_get (M := mX11_visits) (pc := 105) (ji := 32) (by rfl) fX11_32 kX11_108 dX11_visits_105 (kk := fun hr105 => ?_)
    simp only [up_same, up_cell, up_slot, ne_eq, not_false_eq_true, Nat.reduceEqDiff, Int.reduceEq, reduceCtorEq, Nat.reduceAdd, Int.reduceAdd, Int.reduceSub] at hr105 ⊢
    refine g_iconst (M := mX11_visits) (pc := 108) dX11_visits_108 (k := ?_)
    refine g_iload_n (M := mX11_visits) (pc := 109) dX11_visits_109 rfl (k := ?_)
    refine g_ishl (M := mX11_visits) (pc := 110) dX11_visits_110 (k := ?_)
    have hz110 := zshlR 1 h
    refine g_ior (M := mX11_visits) (pc := 111) dX11_visits_111 (k := ?_)
    have hz111 := zorR (τ39 69 32) (zshl 1 h)
    refine g_put (M := mX11_visits) (pc := 112) (ji := 32) (by rfl) fX11_32 kX11_108 dX11_visits_112 (by omega) (kk := ?_)
    refine g_aload_n (M := mX11_visits) (pc := 115) dX11_visits_115 rfl (k := ?_)
    refine g_get (M := mX11_visits) (pc := 116) (ji := 29) (by rfl) fX11_29 kX11_99 dX11_visits_116 (kk := fun hr116 => ?_)
    simp only [up_same, up_cell, up_slot, ne_eq, not_false_eq_true, Nat.reduceEqDiff, Int.reduceEq, reduceCtorEq, Nat.reduceAdd, Int.reduceAdd, Int.reduceSub] at hr116 ⊢
    refine g_aload_n (M := mX11_visits) (pc := 119) dX11_visits_119 rfl (k := ?_)
    refine g_cV0I (M := mX11_visits) (pc := 120) (c_X11_dawn Γ t _ (by refine jv_free ?_ (by rfl); refine jvu69_30 ?_ (by omega) (by omega); refine jvu69_29 ?_ (by omega) (by omega); refine jvu69_29 ?_ (by omega) (by omega); exact hI39)) qX11_dawn vX11_dawn sX11_dawn kX11_330 dX11_visits_120 (kk := ?_)
    rintro r120 _ ⟨hd120, e⟩; rw [e]; clear e
    try simp only [up_same, up_cell, up_slot, ne_eq, not_false_eq_true, Nat.reduceEqDiff, Int.reduceEq, reduceCtorEq, Nat.reduceAdd, Int.reduceAdd, Int.reduceSub] at hd120
    refine g_icmp_ge (M := mX11_visits) (pc := 123) (tgt := 138) (by omega) (by omega) dX11_visits_123 (k1 := fun h123 => ?_) (k2 := fun h123 => ?_)
    · skip
      refine g_iconst (M := mX11_visits) (pc := 138) dX11_visits_138 (k := ?_)
      refine g_istore_3 (M := mX11_visits) (pc := 139) dX11_visits_139 (k := ?_)
      refine g_aload_n (M := mX11_visits) (pc := 140) dX11_visits_140 rfl (k := ?_)
      refine g_dupR (M := mX11_visits) (pc := 141) dX11_visits_141 (k := ?_)
      refine g_get (M := mX11_visits) (pc := 142) (ji := 33) (by rfl) fX11_33 kX11_111 dX11_visits_142 (kk := fun hr142 => ?_)
      simp only [up_same, up_cell, up_slot, ne_eq, not_false_eq_true, Nat.reduceEqDiff, Int.reduceEq, reduceCtorEq, Nat.reduceAdd, Int.reduceAdd, Int.reduceSub] at hr142 ⊢
      refine g_iload_n (M := mX11_visits) (pc := 145) dX11_visits_145 rfl (k := ?_)
      refine g_if_eq (M := mX11_visits) (pc := 146) (tgt := 155) (by omega) dX11_visits_146 (k1 := fun h146 => ?_) (k2 := fun h146 => ?_)
      · skip
        refine g_iconst (M := mX11_visits) (pc := 155) dX11_visits_155 (k := ?_)
        refine g_ior (M := mX11_visits) (pc := 156) dX11_visits_156 (k := ?_)
        have hz156 := zorR (τ39 69 33) 0
        refine g_put (M := mX11_visits) (pc := 157) (ji := 33) (by rfl) fX11_33 kX11_111 dX11_visits_157 (by omega) (kk := ?_)
        refine g_iload_n (M := mX11_visits) (pc := 160) dX11_visits_160 rfl (k := ?_)
        refine g_zret (M := mX11_visits) (pc := 161) (by first | omega | (unfold b2; split <;> omega)) rfl dX11_visits_161 rfl ⟨_, _, rfl, rfl, ?_⟩
        refine ⟨?_, ?_, ?_, ?_⟩
        · omega
        · (try simp only [up_same, up_cell, up_slot, ne_eq, not_false_eq_true, Nat.reduceEqDiff, Int.reduceEq, reduceCtorEq, Nat.reduceAdd, Int.reduceAdd, Int.reduceSub]); omega
        · refine jv_free ?_ (by rfl); refine jv_free ?_ (by rfl); refine jvu69_30 ?_ (by omega) (by omega); refine jvu69_29 ?_ (by omega) (by omega); refine jvu69_29 ?_ (by omega) (by omega); exact hI39
        · refine Fr.up ?_ (by first | rfl | (unfold jcV; simp; try omega)); refine Fr.up ?_ (by first | rfl | (unfold jcV; simp; try omega)); refine Fr.up ?_ (by first | rfl | (unfold jcV; simp; try omega)); refine Fr.up ?_ (by first | rfl | (unfold jcV; simp; try omega)); refine Fr.up ?_ (by first | rfl | (unfold jcV; simp; try omega)); exact hF39
      · omega
    · skip
      refine g_aload_n (M := mX11_visits) (pc := 126) dX11_visits_126 rfl (k := ?_)
      refine g_iload_n (M := mX11_visits) (pc := 127) dX11_visits_127 rfl (k := ?_)
      refine g_cV1I (M := mX11_visits) (pc := 128) (c_X11_letsIn Γ t _ _ (by refine jv_free ?_ (by rfl); refine jvu69_30 ?_ (by omega) (by omega); refine jvu69_29 ?_ (by omega) (by omega); refine jvu69_29 ?_ (by omega) (by omega); exact hI39) (by first | omega | (simp only [up_same, up_cell, up_slot, ne_eq, not_false_eq_true, Nat.reduceEqDiff, Int.reduceEq, reduceCtorEq, Nat.reduceAdd, Int.reduceAdd, Int.reduceSub]; done) | (simp only [up_same, up_cell, up_slot, ne_eq, not_false_eq_true, Nat.reduceEqDiff, Int.reduceEq, reduceCtorEq, Nat.reduceAdd, Int.reduceAdd, Int.reduceSub]; omega))) qX11_letsIn vX11_letsIn sX11_letsIn kX11_333 dX11_visits_128 (kk := ?_)
      rintro r128 τ128 ⟨hi128, hI128, hG128⟩
      try simp only [up_same, up_cell, up_slot, ne_eq, not_false_eq_true, Nat.reduceEqDiff, Int.reduceEq, reduceCtorEq, Nat.reduceAdd, Int.reduceAdd, Int.reduceSub] at hi128
      have hk128_69_29 := hG128 69 29 rfl
      simp only [up_same, up_cell, up_slot, ne_eq, not_false_eq_true, Nat.reduceEqDiff, Int.reduceEq, reduceCtorEq, Nat.reduceAdd, Int.reduceAdd, Int.reduceSub] at hk128_69_29
      have hF128 : Fr jcV σ τ128 := by refine Fr.tr ?_ (Fr.mono hG128 sb_jcP_jcV); refine Fr.up ?_ (by first | rfl | (unfold jcV; simp; try omega)); refine Fr.up ?_ (by first | rfl | (unfold jcV; simp; try omega)); refine Fr.up ?_ (by first | rfl | (unfold jcV; simp; try omega)); refine Fr.up ?_ (by first | rfl | (unfold jcV; simp; try omega)); exact hF39
      refine g_if_eq (M := mX11_visits) (pc := 131) (tgt := 138) (by omega) dX11_visits_131 (k1 := fun h131 => ?_) (k2 := fun h131 => ?_)
      · skip
        refine g_iconst (M := mX11_visits) (pc := 138) dX11_visits_138 (k := ?_)
        refine g_istore_3 (M := mX11_visits) (pc := 139) dX11_visits_139 (k := ?_)
        refine g_aload_n (M := mX11_visits) (pc := 140) dX11_visits_140 rfl (k := ?_)
        refine g_dupR (M := mX11_visits) (pc := 141) dX11_visits_141 (k := ?_)
        refine g_get (M := mX11_visits) (pc := 142) (ji := 33) (by rfl) fX11_33 kX11_111 dX11_visits_142 (kk := fun hr142 => ?_)
        refine g_iload_n (M := mX11_visits) (pc := 145) dX11_visits_145 rfl (k := ?_)
        refine g_if_eq (M := mX11_visits) (pc := 146) (tgt := 155) (by omega) dX11_visits_146 (k1 := fun h146 => ?_) (k2 := fun h146 => ?_)
        · skip
          refine g_iconst (M := mX11_visits) (pc := 155) dX11_visits_155 (k := ?_)
          refine g_ior (M := mX11_visits) (pc := 156) dX11_visits_156 (k := ?_)
          have hz156 := zorR (τ128 69 33) 0
          refine g_put (M := mX11_visits) (pc := 157) (ji := 33) (by rfl) fX11_33 kX11_111 dX11_visits_157 (by omega) (kk := ?_)
          refine g_iload_n (M := mX11_visits) (pc := 160) dX11_visits_160 rfl (k := ?_)
          refine g_zret (M := mX11_visits) (pc := 161) (by first | omega | (unfold b2; split <;> omega)) rfl dX11_visits_161 rfl ⟨_, _, rfl, rfl, ?_⟩
          refine ⟨?_, ?_, ?_, ?_⟩
          · omega
          · (try simp only [up_same, up_cell, up_slot, ne_eq, not_false_eq_true, Nat.reduceEqDiff, Int.reduceEq, reduceCtorEq, Nat.reduceAdd, Int.reduceAdd, Int.reduceSub]); omega
          · refine jv_free ?_ (by rfl); exact hI128
          · refine Fr.up ?_ (by first | rfl | (unfold jcV; simp; try omega)); exact hF128
        · omega
      · skip
        refine g_iconst (M := mX11_visits) (pc := 134) dX11_visits_134 (k := ?_)
        refine g_goto (M := mX11_visits) (pc := 135) (tgt := 139) dX11_visits_135 (k := ?_)
        refine g_istore_3 (M := mX11_visits) (pc := 139) dX11_visits_139 (k := ?_)
        refine g_aload_n (M := mX11_visits) (pc := 140) dX11_visits_140 rfl (k := ?_)
        refine g_dupR (M := mX11_visits) (pc := 141) dX11_visits_141 (k := ?_)
        refine g_get (M := mX11_visits) (pc := 142) (ji := 33) (by rfl) fX11_33 kX11_111 dX11_visits_142 (kk := fun hr142 => ?_)
        refine g_iload_n (M := mX11_visits) (pc := 145) dX11_visits_145 rfl (k := ?_)
        refine g_if_eq (M := mX11_visits) (pc := 146) (tgt := 155) (by omega) dX11_visits_146 (k1 := fun h146 => ?_) (k2 := fun h146 => ?_)
        · omega
        · skip
          refine g_iconst (M := mX11_visits) (pc := 149) dX11_visits_149 (k := ?_)
          refine g_iload_n (M := mX11_visits) (pc := 150) dX11_visits_150 rfl (k := ?_)
          refine g_ishl (M := mX11_visits) (pc := 151) dX11_visits_151 (k := ?_)
          have hz151 := zshlR 1 h
          refine g_goto (M := mX11_visits) (pc := 152) (tgt := 156) dX11_visits_152 (k := ?_)
          refine g_ior (M := mX11_visits) (pc := 156) dX11_visits_156 (k := ?_)
          have hz156 := zorR (τ128 69 33) (zshl 1 h)
          refine g_put (M := mX11_visits) (pc := 157) (ji := 33) (by rfl) fX11_33 kX11_111 dX11_visits_157 (by omega) (kk := ?_)
          refine g_iload_n (M := mX11_visits) (pc := 160) dX11_visits_160 rfl (k := ?_)
          refine g_zret (M := mX11_visits) (pc := 161) (by first | omega | (unfold b2; split <;> omega)) rfl dX11_visits_161 rfl ⟨_, _, rfl, rfl, ?_⟩
          refine ⟨?_, ?_, ?_, ?_⟩
          · omega
          · (try simp only [up_same, up_cell, up_slot, ne_eq, not_false_eq_true, Nat.reduceEqDiff, Int.reduceEq, reduceCtorEq, Nat.reduceAdd, Int.reduceAdd, Int.reduceSub]); omega
          · refine jv_free ?_ (by rfl); exact hI128
          · refine Fr.up ?_ (by first | rfl | (unfold jcV; simp; try omega)); exact hF128
set_option maxHeartbeats 4000000 in
set_option maxRecDepth 20000 in
theorem c_X11_comesIn (Γ : KT) (t : Nat) (σ : Nat → Int → Int) (f : Int) (h : Int) (m : Int) (hI : InvJ σ) (hS : JS σ) (hf : 0 ≤ f ∧ f < σ 69 1) (hh : 0 ≤ h ∧ h < 6) (hm : 0 ≤ m ∧ m ≤ 100) : Ct Γ mX11_comesIn 6 (0, 0) [vR Γ 69, vI f, vI h, vI m] (113, ρT t, σ) (pI 113 (ρT t) (fun r σ' => (0 ≤ r ∧ r ≤ 1) ∧ (0 ≤ σ' 69 29 ∧ σ' 69 29 ≤ 103100) ∧ (InvJ σ') ∧ (Fr jcC σ σ'))) := by
  refine Ct.of rfl (Nat.le_of_ble_eq_true rfl) ?_
  show G Γ mX11_comesIn 6 (0, 0) _ (0, 0) 0 [some (vR Γ 69), some (vI f), some (vI h), some (vI m)] [] (113, ρT t, σ)
  have hfo := jv69_1 hI 1 (by omega) (by omega)
  refine g_aload_n (M := mX11_comesIn) (pc := 0) dX11_comesIn_0 rfl (k := ?_)
  refine g_iload_n (M := mX11_comesIn) (pc := 1) dX11_comesIn_1 rfl (k := ?_)
  refine g_iload_n (M := mX11_comesIn) (pc := 2) dX11_comesIn_2 rfl (k := ?_)
  refine g_cV2V (M := mX11_comesIn) (pc := 3) (c_X11_beginNight Γ t _ _ _ hI (by omega) (by omega)) qX11_beginNight vX11_beginNight sX11_beginNight kX11_336 dX11_comesIn_3 (kk := ?_)
  rintro τ3 ⟨hw3, hm3, hI3, hG3⟩
  have hk3_69_1 := hG3 69 1 rfl
  have hF3 : Fr jcC σ τ3 := by refine Fr.tr ?_ (Fr.mono hG3 sb_jcN_jcC); exact (Fr.rf)
  refine g_aload_n (M := mX11_comesIn) (pc := 6) dX11_comesIn_6 rfl (k := ?_)
  refine g_iload_n (M := mX11_comesIn) (pc := 7) dX11_comesIn_7 rfl (k := ?_)
  refine g_cV1I (M := mX11_comesIn) (pc := 8) (c_X11_visits Γ t _ _ hI3 (JS_fr hS (by exact Fr.mono hF3 sb_jcC_jNS)) (by omega) (by omega) (by omega)) qX11_visits vX11_visits sX11_visits kX11_340 dX11_comesIn_8 (kk := ?_)
  rintro r8 τ8 ⟨hi8, hm8, hI8, hG8⟩
  have hF8 : Fr jcC σ τ8 := by refine Fr.tr ?_ (Fr.mono hG8 sb_jcV_jcC); exact hF3
  refine g_zret (M := mX11_comesIn) (pc := 11) (by first | omega | (unfold b2; split <;> omega)) rfl dX11_comesIn_11 rfl ⟨_, _, rfl, rfl, ?_⟩
  refine ⟨?_, ?_, ?_, ?_⟩
  · omega
  · omega
  · exact hI8
  · exact hF8
set_option maxHeartbeats 4000000 in
set_option maxRecDepth 20000 in
theorem c_X11_isLetIn (Γ : KT) (t : Nat) (σ : Nat → Int → Int) (f : Int) (h : Int) (m : Int) (hI : InvJ σ) (hf : 0 ≤ f ∧ f < 4) (hh : 0 ≤ h ∧ h < 6) (hm : 0 ≤ m ∧ m ≤ 2000000) : Ct Γ mX11_isLetIn 4 (0, 0) [vR Γ 69, vI f, vI h, vI m] (113, ρT t, σ) (pI 113 (ρT t) (fun r σ' => (0 ≤ r ∧ r ≤ 1) ∧ (InvJ σ') ∧ (Fr jcC σ σ'))) := by
  refine Ct.of rfl (Nat.le_of_ble_eq_true rfl) ?_
  show G Γ mX11_isLetIn 4 (0, 0) _ (0, 0) 0 [some (vR Γ 69), some (vI f), some (vI h), some (vI m)] [] (113, ρT t, σ)
  refine g_aload_n (M := mX11_isLetIn) (pc := 0) dX11_isLetIn_0 rfl (k := ?_)
  refine g_iload_n (M := mX11_isLetIn) (pc := 1) dX11_isLetIn_1 rfl (k := ?_)
  refine g_iload_n (M := mX11_isLetIn) (pc := 2) dX11_isLetIn_2 rfl (k := ?_)
  refine g_cV2V (M := mX11_isLetIn) (pc := 3) (c_X11_beginNight Γ t _ _ _ hI (by omega) (by omega)) qX11_beginNight vX11_beginNight sX11_beginNight kX11_336 dX11_isLetIn_3 (kk := ?_)
  rintro τ3 ⟨hw3, hm3, hI3, hG3⟩
  have hF3 : Fr jcC σ τ3 := by refine Fr.tr ?_ (Fr.mono hG3 sb_jcN_jcC); exact (Fr.rf)
  refine g_iload_n (M := mX11_isLetIn) (pc := 6) dX11_isLetIn_6 rfl (k := ?_)
  refine g_aload_n (M := mX11_isLetIn) (pc := 7) dX11_isLetIn_7 rfl (k := ?_)
  refine g_cV0I (M := mX11_isLetIn) (pc := 8) (c_X11_dawn Γ t _ hI3) qX11_dawn vX11_dawn sX11_dawn kX11_330 dX11_isLetIn_8 (kk := ?_)
  rintro r8 _ ⟨hd8, e⟩; rw [e]; clear e
  refine g_icmp_ge (M := mX11_isLetIn) (pc := 11) (tgt := 26) (by omega) (by omega) dX11_isLetIn_11 (k1 := fun h11 => ?_) (k2 := fun h11 => ?_)
  · skip
    refine g_iconst (M := mX11_isLetIn) (pc := 26) dX11_isLetIn_26 (k := ?_)
    refine g_zret (M := mX11_isLetIn) (pc := 27) (by first | omega | (unfold b2; split <;> omega)) rfl dX11_isLetIn_27 rfl ⟨_, _, rfl, rfl, ?_⟩
    refine ⟨?_, ?_, ?_⟩
    · omega
    · exact hI3
    · exact hF3
  · skip
    refine g_aload_n (M := mX11_isLetIn) (pc := 14) dX11_isLetIn_14 rfl (k := ?_)
    refine g_iload_n (M := mX11_isLetIn) (pc := 15) dX11_isLetIn_15 rfl (k := ?_)
    refine g_cV1I (M := mX11_isLetIn) (pc := 16) (c_X11_letsIn Γ t _ _ hI3 (by omega)) qX11_letsIn vX11_letsIn sX11_letsIn kX11_333 dX11_isLetIn_16 (kk := ?_)
    rintro r16 τ16 ⟨hi16, hI16, hG16⟩
    have hF16 : Fr jcC σ τ16 := by refine Fr.tr ?_ (Fr.mono hG16 sb_jcP_jcC); exact hF3
    refine g_if_eq (M := mX11_isLetIn) (pc := 19) (tgt := 26) (by omega) dX11_isLetIn_19 (k1 := fun h19 => ?_) (k2 := fun h19 => ?_)
    · skip
      refine g_iconst (M := mX11_isLetIn) (pc := 26) dX11_isLetIn_26 (k := ?_)
      refine g_zret (M := mX11_isLetIn) (pc := 27) (by first | omega | (unfold b2; split <;> omega)) rfl dX11_isLetIn_27 rfl ⟨_, _, rfl, rfl, ?_⟩
      refine ⟨?_, ?_, ?_⟩
      · omega
      · exact hI16
      · exact hF16
    · skip
      refine g_iconst (M := mX11_isLetIn) (pc := 22) dX11_isLetIn_22 (k := ?_)
      refine g_goto (M := mX11_isLetIn) (pc := 23) (tgt := 27) dX11_isLetIn_23 (k := ?_)
      refine g_zret (M := mX11_isLetIn) (pc := 27) (by first | omega | (unfold b2; split <;> omega)) rfl dX11_isLetIn_27 rfl ⟨_, _, rfl, rfl, ?_⟩
      refine ⟨?_, ?_, ?_⟩
      · omega
      · exact hI16
      · exact hF16
set_option maxHeartbeats 4000000 in
set_option maxRecDepth 20000 in
theorem c_X11_walksTo (Γ : KT) (t : Nat) (σ : Nat → Int → Int) (f : Int) (h : Int) (hI : InvJ σ) (hS : JS σ) (hf : 0 ≤ f ∧ f < σ 69 1) (hh : 0 ≤ h ∧ h < 6) : Ct Γ mX11_walksTo 5 (0, 0) [vR Γ 69, vI f, vI h] (113, ρT t, σ) (pI 113 (ρT t) (fun r σ' => (0 ≤ r ∧ r ≤ 4950) ∧ (InvJ σ') ∧ (Fr jcH σ σ'))) := by
  refine Ct.of rfl (Nat.le_of_ble_eq_true rfl) ?_
  show G Γ mX11_walksTo 5 (0, 0) _ (0, 0) 0 [some (vR Γ 69), some (vI f), some (vI h)] [] (113, ρT t, σ)
  have hfo := jv69_1 hI 1 (by omega) (by omega)
  refine g_aload_n (M := mX11_walksTo) (pc := 0) dX11_walksTo_0 rfl (k := ?_)
  refine g_iload_n (M := mX11_walksTo) (pc := 1) dX11_walksTo_1 rfl (k := ?_)
  refine g_iload_n (M := mX11_walksTo) (pc := 2) dX11_walksTo_2 rfl (k := ?_)
  refine g_aload_n (M := mX11_walksTo) (pc := 3) dX11_walksTo_3 rfl (k := ?_)
  refine g_getr (M := mX11_walksTo) (pc := 4) (by rfl) fX11_8 kX11_35 dX11_walksTo_4 (by rfl) (kk := ?_)
  refine g_iload_n (M := mX11_walksTo) (pc := 7) dX11_walksTo_7 rfl (k := ?_)
  refine g_iald (M := mX11_walksTo) (pc := 8) (by rfl) (by omega) (by omega) dX11_walksTo_8 (kk := fun hr8 => ?_)
  have hb8 := jv76_0 hI f (by omega) (by omega)
  refine g_cV3I (M := mX11_walksTo) (pc := 9) (c_X11_farOf Γ t _ _ _ _ hI hS (by omega) (by omega) (by omega)) qX11_farOf vX11_farOf sX11_farOf kX11_308 dX11_walksTo_9 (kk := ?_)
  rintro r9 τ9 ⟨hi9, hI9, hG9⟩
  have hF9 : Fr jcH σ τ9 := by refine Fr.tr ?_ hG9; exact (Fr.rf)
  refine g_aload_n (M := mX11_walksTo) (pc := 12) dX11_walksTo_12 rfl (k := ?_)
  refine g_iload_n (M := mX11_walksTo) (pc := 13) dX11_walksTo_13 rfl (k := ?_)
  refine g_aload_n (M := mX11_walksTo) (pc := 14) dX11_walksTo_14 rfl (k := ?_)
  refine g_getr (M := mX11_walksTo) (pc := 15) (by rfl) fX11_7 kX11_32 dX11_walksTo_15 (by rfl) (kk := ?_)
  refine g_iload_n (M := mX11_walksTo) (pc := 18) dX11_walksTo_18 rfl (k := ?_)
  refine g_iald (M := mX11_walksTo) (pc := 19) (by rfl) (by omega) (by omega) dX11_walksTo_19 (kk := fun hr19 => ?_)
  have hb19 := jv75_0 hI9 f (by omega) (by omega)
  refine g_cV2I (M := mX11_walksTo) (pc := 20) (c_X11_apart Γ t _ _ _ (by omega) (by omega)) qX11_apart vX11_apart sX11_apart kX11_323 dX11_walksTo_20 (kk := ?_)
  rintro r20 _ ⟨hd20, e⟩; rw [e]; clear e
  refine g_imul (M := mX11_walksTo) (pc := 23) dX11_walksTo_23 (k := ?_)
  have hz23 := mulP (a := r9) (b := r20) (A := 990) (C := 5) (by omega) (by omega)
  refine g_iret (M := mX11_walksTo) (pc := 24) rfl dX11_walksTo_24 rfl ⟨_, _, rfl, rfl, ?_⟩
  refine ⟨?_, ?_, ?_⟩
  · omega
  · exact hI9
  · exact hF9
