set_option maxHeartbeats 4000000 in
set_option maxRecDepth 20000 in
theorem c_X9_dawnOf (Γ : KT) (t : Nat) (σ : Nat → Int → Int) (w : Int) (hI : InvX σ) (hw : R32 w) : Ct Γ mX9_dawnOf 2 (0, 0) [vR Γ 51, vI w] (113, ρT t, σ) (pI 113 (ρT t) (fun r σ' => (R32 r) ∧ σ' = σ)) := by
  refine Ct.of rfl (Nat.le_of_ble_eq_true rfl) ?_
  show G Γ mX9_dawnOf 2 (0, 0) _ (0, 0) 0 [some (vR Γ 51), some (vI w)] [] (113, ρT t, σ)
  refine g_iload_n (M := mX9_dawnOf) (pc := 0) dX9_dawnOf_0 rfl (k := ?_)
  refine g_aload_n (M := mX9_dawnOf) (pc := 1) dX9_dawnOf_1 rfl (k := ?_)
  refine g_get (M := mX9_dawnOf) (pc := 2) (ji := 3) (by rfl) fX9_3 kX9_28 dX9_dawnOf_2 (kk := fun hr2 => ?_)
  have hb2 := iv51_3 hI 3 (by omega) (by omega)
  refine g_iconst (M := mX9_dawnOf) (pc := 5) dX9_dawnOf_5 (k := ?_)
  refine g_isub (M := mX9_dawnOf) (pc := 6) dX9_dawnOf_6 (k := ?_)
  refine g_cS2I (M := mX9_dawnOf) (pc := 7) (c_X10_isUpTo Γ t _ _ _ (by omega) (by omega)) qX10_isUpTo vX10_isUpTo kX9_32 dX9_dawnOf_7 (kk := ?_)
  rintro _ _ ⟨e1, e⟩; rw [e1, e]; clear e1 e
  refine g_if_eqB (M := mX9_dawnOf) (pc := 10) (tgt := 22) dX9_dawnOf_10 (k1 := fun h10 => ?_) (k2 := fun h10 => ?_)
  · skip
    refine g_bipush (M := mX9_dawnOf) (pc := 22) dX9_dawnOf_22 (k := ?_)
    refine g_iret (M := mX9_dawnOf) (pc := 24) rfl dX9_dawnOf_24 rfl ⟨_, _, rfl, rfl, ?_⟩
    refine ⟨?_, rfl⟩
    · omega
  · skip
    refine g_aload_n (M := mX9_dawnOf) (pc := 13) dX9_dawnOf_13 rfl (k := ?_)
    refine g_getr (M := mX9_dawnOf) (pc := 14) (by rfl) fX9_2 kX9_20 dX9_dawnOf_14 (by rfl) (kk := ?_)
    refine g_iload_n (M := mX9_dawnOf) (pc := 17) dX9_dawnOf_17 rfl (k := ?_)
    refine g_iald (M := mX9_dawnOf) (pc := 18) (by rfl) (by omega) (by omega) dX9_dawnOf_18 (kk := fun hr18 => ?_)
    refine g_goto (M := mX9_dawnOf) (pc := 19) (tgt := 24) dX9_dawnOf_19 (k := ?_)
    refine g_iret (M := mX9_dawnOf) (pc := 24) rfl dX9_dawnOf_24 rfl ⟨_, _, rfl, rfl, ?_⟩
    refine ⟨?_, rfl⟩
    · omega
set_option maxHeartbeats 4000000 in
set_option maxRecDepth 20000 in
theorem c_X9_add (Γ : KT) (t : Nat) (σ : Nat → Int → Int) (l : Int) (d : Int) (hI : InvX σ) (hl : 0 ≤ l ∧ l ≤ 100) (hd : R32 d) : Ct Γ mX9_add 1 (0, 0) [vR Γ 51, vI l, vI d] (113, ρT t, σ) (pI 113 (ρT t) (fun r σ' => (R32 r) ∧ (InvX σ') ∧ (Fr scTa σ σ'))) := by
  refine Ct.of rfl (Nat.le_of_ble_eq_true rfl) ?_
  show G Γ mX9_add 1 (0, 0) _ (0, 0) 0 [some (vR Γ 51), some (vI l), some (vI d), none] [] (113, ρT t, σ)
  refine g_aload_n (M := mX9_add) (pc := 0) dX9_add_0 rfl (k := ?_)
  refine g_get (M := mX9_add) (pc := 1) (ji := 3) (by rfl) fX9_3 kX9_28 dX9_add_1 (kk := fun hr1 => ?_)
  have hb1 := iv51_3 hI 3 (by omega) (by omega)
  refine g_bipush (M := mX9_add) (pc := 4) dX9_add_4 (k := ?_)
  refine g_icmp_lt (M := mX9_add) (pc := 6) (tgt := 12) (by omega) (by omega) dX9_add_6 (k1 := fun h6 => ?_) (k2 := fun h6 => ?_)
  · skip
    refine g_aload_n (M := mX9_add) (pc := 12) dX9_add_12 rfl (k := ?_)
    refine g_get (M := mX9_add) (pc := 13) (ji := 3) (by rfl) fX9_3 kX9_28 dX9_add_13 (kk := fun hr13 => ?_)
    refine g_istore_3 (M := mX9_add) (pc := 16) dX9_add_16 (k := ?_)
    refine g_aload_n (M := mX9_add) (pc := 17) dX9_add_17 rfl (k := ?_)
    refine g_getr (M := mX9_add) (pc := 18) (by rfl) fX9_1 kX9_16 dX9_add_18 (by rfl) (kk := ?_)
    refine g_iload_n (M := mX9_add) (pc := 21) dX9_add_21 rfl (k := ?_)
    refine g_iload_n (M := mX9_add) (pc := 22) dX9_add_22 rfl (k := ?_)
    refine g_iast (M := mX9_add) (pc := 23) (by rfl) (by omega) (by omega) (by omega) dX9_add_23 (kk := ?_)
    refine g_aload_n (M := mX9_add) (pc := 24) dX9_add_24 rfl (k := ?_)
    refine g_getr (M := mX9_add) (pc := 25) (by rfl) fX9_2 kX9_20 dX9_add_25 (by rfl) (kk := ?_)
    refine g_iload_n (M := mX9_add) (pc := 28) dX9_add_28 rfl (k := ?_)
    refine g_iload_n (M := mX9_add) (pc := 29) dX9_add_29 rfl (k := ?_)
    refine g_iast (M := mX9_add) (pc := 30) (by rfl) (by omega) (by omega) (by omega) dX9_add_30 (kk := ?_)
    refine g_aload_n (M := mX9_add) (pc := 31) dX9_add_31 rfl (k := ?_)
    refine g_dupR (M := mX9_add) (pc := 32) dX9_add_32 (k := ?_)
    refine g_get (M := mX9_add) (pc := 33) (ji := 3) (by rfl) fX9_3 kX9_28 dX9_add_33 (kk := fun hr33 => ?_)
    simp only [up_same, up_cell, up_slot, ne_eq, not_false_eq_true, Nat.reduceEqDiff, Int.reduceEq, reduceCtorEq, Nat.reduceAdd, Int.reduceAdd, Int.reduceSub] at hr33 ⊢
    refine g_iconst (M := mX9_add) (pc := 36) dX9_add_36 (k := ?_)
    refine g_iadd (M := mX9_add) (pc := 37) dX9_add_37 (k := ?_)
    refine g_put (M := mX9_add) (pc := 38) (ji := 3) (by rfl) fX9_3 kX9_28 dX9_add_38 (by omega) (kk := ?_)
    refine g_iload_n (M := mX9_add) (pc := 41) dX9_add_41 rfl (k := ?_)
    refine g_iret (M := mX9_add) (pc := 42) rfl dX9_add_42 rfl ⟨_, _, rfl, rfl, ?_⟩
    refine ⟨?_, ?_, ?_⟩
    · omega
    · refine ivu51_3 ?_ (by omega) (by omega); refine iv_cell ?_ (by rfl); refine ivu59 ?_ (by omega) (by omega); exact hI
    · refine Fr.up ?_ (by first | rfl | (unfold scTa; simp; try omega)); refine Fr.up ?_ (by first | rfl | (unfold scTa; simp; try omega)); refine Fr.up ?_ (by first | rfl | (unfold scTa; simp; try omega)); exact (Fr.rf)
  · skip
    refine g_bipush (M := mX9_add) (pc := 9) dX9_add_9 (k := ?_)
    refine g_iret (M := mX9_add) (pc := 11) rfl dX9_add_11 rfl ⟨_, _, rfl, rfl, ?_⟩
    refine ⟨?_, ?_, ?_⟩
    · omega
    · exact hI
    · exact (Fr.rf)
set_option maxHeartbeats 4000000 in
set_option maxRecDepth 20000 in
theorem c_X9_holds (Γ : KT) (t : Nat) (σ : Nat → Int → Int) (w : Int) (n : Int) (hw : R32 w) (hn : R32 n) : Ct Γ mX9_holds 1 (0, 0) [vR Γ 51, vI w, vI n] (113, ρT t, σ) (pI 113 (ρT t) (fun r σ' => (0 ≤ r ∧ r ≤ 1) ∧ σ' = σ)) := by
  refine Ct.of rfl (Nat.le_of_ble_eq_true rfl) ?_
  show G Γ mX9_holds 1 (0, 0) _ (0, 0) 0 [some (vR Γ 51), some (vI w), some (vI n), none, none] [] (113, ρT t, σ)
  refine g_iload_n (M := mX9_holds) (pc := 0) dX9_holds_0 rfl (k := ?_)
  refine g_iconst (M := mX9_holds) (pc := 1) dX9_holds_1 (k := ?_)
  refine g_idiv (M := mX9_holds) (pc := 2) (by omega) (by omega) (by omega) dX9_holds_2 (k := ?_)
  have hz2 := tdivB (a := w) (b := 3) (by omega)
  refine g_istore_3 (M := mX9_holds) (pc := 3) dX9_holds_3 (k := ?_)
  refine g_iload_n (M := mX9_holds) (pc := 4) dX9_holds_4 rfl (k := ?_)
  refine g_if_lt (M := mX9_holds) (pc := 5) (tgt := 26) (by omega) dX9_holds_5 (k1 := fun h5 => ?_) (k2 := fun h5 => ?_)
  · skip
    refine g_iconst (M := mX9_holds) (pc := 26) dX9_holds_26 (k := ?_)
    refine g_istore_4 (M := mX9_holds) (pc := 27) dX9_holds_27 (k := ?_)
    refine g_iload_n (M := mX9_holds) (pc := 29) dX9_holds_29 rfl (k := ?_)
    refine g_iconst (M := mX9_holds) (pc := 30) dX9_holds_30 (k := ?_)
    refine g_irem (M := mX9_holds) (pc := 31) (by omega) (by omega) (by omega) dX9_holds_31 (k := ?_)
    have hz31 := tmodB (a := w) (b := 3) (by omega)
    by_cases hc32_0 : (Int.tmod w 3) = 0
    · refine g_lookup (M := mX9_holds) (pc := 32) (tgt := 60) (off := 28) (by omega) dX9_holds_32 rfl (by rw [hc32_0]; rfl) (k := ?_)
      refine g_iload (M := mX9_holds) (pc := 60) dX9_holds_60 rfl (k := ?_)
      refine g_iload_n (M := mX9_holds) (pc := 62) dX9_holds_62 rfl (k := ?_)
      refine g_icmp_ge (M := mX9_holds) (pc := 63) (tgt := 70) (by omega) (by omega) dX9_holds_63 (k1 := fun h63 => ?_) (k2 := fun h63 => ?_)
      · skip
        refine g_iconst (M := mX9_holds) (pc := 70) dX9_holds_70 (k := ?_)
        refine g_zret (M := mX9_holds) (pc := 71) (by first | omega | (unfold b2; split <;> omega)) rfl dX9_holds_71 rfl ⟨_, _, rfl, rfl, ?_⟩
        refine ⟨?_, rfl⟩
        · omega
      · skip
        refine g_iconst (M := mX9_holds) (pc := 66) dX9_holds_66 (k := ?_)
        refine g_goto (M := mX9_holds) (pc := 67) (tgt := 71) dX9_holds_67 (k := ?_)
        refine g_zret (M := mX9_holds) (pc := 71) (by first | omega | (unfold b2; split <;> omega)) rfl dX9_holds_71 rfl ⟨_, _, rfl, rfl, ?_⟩
        refine ⟨?_, rfl⟩
        · omega
    by_cases hc32_1 : (Int.tmod w 3) = 1
    · refine g_lookup (M := mX9_holds) (pc := 32) (tgt := 72) (off := 40) (by omega) dX9_holds_32 rfl (by rw [hc32_1]; rfl) (k := ?_)
      refine g_iload (M := mX9_holds) (pc := 72) dX9_holds_72 rfl (k := ?_)
      refine g_iload_n (M := mX9_holds) (pc := 74) dX9_holds_74 rfl (k := ?_)
      refine g_icmp_ne (M := mX9_holds) (pc := 75) (tgt := 82) (by omega) (by omega) dX9_holds_75 (k1 := fun h75 => ?_) (k2 := fun h75 => ?_)
      · skip
        refine g_iconst (M := mX9_holds) (pc := 82) dX9_holds_82 (k := ?_)
        refine g_zret (M := mX9_holds) (pc := 83) (by first | omega | (unfold b2; split <;> omega)) rfl dX9_holds_83 rfl ⟨_, _, rfl, rfl, ?_⟩
        refine ⟨?_, rfl⟩
        · omega
      · skip
        refine g_iconst (M := mX9_holds) (pc := 78) dX9_holds_78 (k := ?_)
        refine g_goto (M := mX9_holds) (pc := 79) (tgt := 83) dX9_holds_79 (k := ?_)
        refine g_zret (M := mX9_holds) (pc := 83) (by first | omega | (unfold b2; split <;> omega)) rfl dX9_holds_83 rfl ⟨_, _, rfl, rfl, ?_⟩
        refine ⟨?_, rfl⟩
        · omega
    refine g_lookup (M := mX9_holds) (pc := 32) (tgt := 84) (off := 52) (by omega) dX9_holds_32 rfl (by simp [Op.lookupswitch.offset, Ne.symm hc32_0, hc32_0, Ne.symm hc32_1, hc32_1]) (k := ?_)
    refine g_iload (M := mX9_holds) (pc := 84) dX9_holds_84 rfl (k := ?_)
    refine g_iload_n (M := mX9_holds) (pc := 86) dX9_holds_86 rfl (k := ?_)
    refine g_icmp_le (M := mX9_holds) (pc := 87) (tgt := 94) (by omega) (by omega) dX9_holds_87 (k1 := fun h87 => ?_) (k2 := fun h87 => ?_)
    · skip
      refine g_iconst (M := mX9_holds) (pc := 94) dX9_holds_94 (k := ?_)
      refine g_zret (M := mX9_holds) (pc := 95) (by first | omega | (unfold b2; split <;> omega)) rfl dX9_holds_95 rfl ⟨_, _, rfl, rfl, ?_⟩
      refine ⟨?_, rfl⟩
      · omega
    · skip
      refine g_iconst (M := mX9_holds) (pc := 90) dX9_holds_90 (k := ?_)
      refine g_goto (M := mX9_holds) (pc := 91) (tgt := 95) dX9_holds_91 (k := ?_)
      refine g_zret (M := mX9_holds) (pc := 95) (by first | omega | (unfold b2; split <;> omega)) rfl dX9_holds_95 rfl ⟨_, _, rfl, rfl, ?_⟩
      refine ⟨?_, rfl⟩
      · omega
  · skip
    refine g_iload_n (M := mX9_holds) (pc := 8) dX9_holds_8 rfl (k := ?_)
    refine g_aload_n (M := mX9_holds) (pc := 9) dX9_holds_9 rfl (k := ?_)
    refine g_getr (M := mX9_holds) (pc := 10) (by rfl) fX9_4 kX9_25 dX9_holds_10 (by rfl) (kk := ?_)
    refine g_alen (M := mX9_holds) (pc := 13) (by rfl) (by decide) dX9_holds_13 (kk := ?_)
    refine g_icmp_ge (M := mX9_holds) (pc := 14) (tgt := 26) (by omega) (by omega) dX9_holds_14 (k1 := fun h14 => ?_) (k2 := fun h14 => ?_)
    · skip
      refine g_iconst (M := mX9_holds) (pc := 26) dX9_holds_26 (k := ?_)
      refine g_istore_4 (M := mX9_holds) (pc := 27) dX9_holds_27 (k := ?_)
      refine g_iload_n (M := mX9_holds) (pc := 29) dX9_holds_29 rfl (k := ?_)
      refine g_iconst (M := mX9_holds) (pc := 30) dX9_holds_30 (k := ?_)
      refine g_irem (M := mX9_holds) (pc := 31) (by omega) (by omega) (by omega) dX9_holds_31 (k := ?_)
      have hz31 := tmodB (a := w) (b := 3) (by omega)
      by_cases hc32_0 : (Int.tmod w 3) = 0
      · refine g_lookup (M := mX9_holds) (pc := 32) (tgt := 60) (off := 28) (by omega) dX9_holds_32 rfl (by rw [hc32_0]; rfl) (k := ?_)
        refine g_iload (M := mX9_holds) (pc := 60) dX9_holds_60 rfl (k := ?_)
        refine g_iload_n (M := mX9_holds) (pc := 62) dX9_holds_62 rfl (k := ?_)
        refine g_icmp_ge (M := mX9_holds) (pc := 63) (tgt := 70) (by omega) (by omega) dX9_holds_63 (k1 := fun h63 => ?_) (k2 := fun h63 => ?_)
        · skip
          refine g_iconst (M := mX9_holds) (pc := 70) dX9_holds_70 (k := ?_)
          refine g_zret (M := mX9_holds) (pc := 71) (by first | omega | (unfold b2; split <;> omega)) rfl dX9_holds_71 rfl ⟨_, _, rfl, rfl, ?_⟩
          refine ⟨?_, rfl⟩
          · omega
        · skip
          refine g_iconst (M := mX9_holds) (pc := 66) dX9_holds_66 (k := ?_)
          refine g_goto (M := mX9_holds) (pc := 67) (tgt := 71) dX9_holds_67 (k := ?_)
          refine g_zret (M := mX9_holds) (pc := 71) (by first | omega | (unfold b2; split <;> omega)) rfl dX9_holds_71 rfl ⟨_, _, rfl, rfl, ?_⟩
          refine ⟨?_, rfl⟩
          · omega
      by_cases hc32_1 : (Int.tmod w 3) = 1
      · refine g_lookup (M := mX9_holds) (pc := 32) (tgt := 72) (off := 40) (by omega) dX9_holds_32 rfl (by rw [hc32_1]; rfl) (k := ?_)
        refine g_iload (M := mX9_holds) (pc := 72) dX9_holds_72 rfl (k := ?_)
        refine g_iload_n (M := mX9_holds) (pc := 74) dX9_holds_74 rfl (k := ?_)
        refine g_icmp_ne (M := mX9_holds) (pc := 75) (tgt := 82) (by omega) (by omega) dX9_holds_75 (k1 := fun h75 => ?_) (k2 := fun h75 => ?_)
        · skip
          refine g_iconst (M := mX9_holds) (pc := 82) dX9_holds_82 (k := ?_)
          refine g_zret (M := mX9_holds) (pc := 83) (by first | omega | (unfold b2; split <;> omega)) rfl dX9_holds_83 rfl ⟨_, _, rfl, rfl, ?_⟩
          refine ⟨?_, rfl⟩
          · omega
        · skip
          refine g_iconst (M := mX9_holds) (pc := 78) dX9_holds_78 (k := ?_)
          refine g_goto (M := mX9_holds) (pc := 79) (tgt := 83) dX9_holds_79 (k := ?_)
          refine g_zret (M := mX9_holds) (pc := 83) (by first | omega | (unfold b2; split <;> omega)) rfl dX9_holds_83 rfl ⟨_, _, rfl, rfl, ?_⟩
          refine ⟨?_, rfl⟩
          · omega
      refine g_lookup (M := mX9_holds) (pc := 32) (tgt := 84) (off := 52) (by omega) dX9_holds_32 rfl (by simp [Op.lookupswitch.offset, Ne.symm hc32_0, hc32_0, Ne.symm hc32_1, hc32_1]) (k := ?_)
      refine g_iload (M := mX9_holds) (pc := 84) dX9_holds_84 rfl (k := ?_)
      refine g_iload_n (M := mX9_holds) (pc := 86) dX9_holds_86 rfl (k := ?_)
      refine g_icmp_le (M := mX9_holds) (pc := 87) (tgt := 94) (by omega) (by omega) dX9_holds_87 (k1 := fun h87 => ?_) (k2 := fun h87 => ?_)
      · skip
        refine g_iconst (M := mX9_holds) (pc := 94) dX9_holds_94 (k := ?_)
        refine g_zret (M := mX9_holds) (pc := 95) (by first | omega | (unfold b2; split <;> omega)) rfl dX9_holds_95 rfl ⟨_, _, rfl, rfl, ?_⟩
        refine ⟨?_, rfl⟩
        · omega
      · skip
        refine g_iconst (M := mX9_holds) (pc := 90) dX9_holds_90 (k := ?_)
        refine g_goto (M := mX9_holds) (pc := 91) (tgt := 95) dX9_holds_91 (k := ?_)
        refine g_zret (M := mX9_holds) (pc := 95) (by first | omega | (unfold b2; split <;> omega)) rfl dX9_holds_95 rfl ⟨_, _, rfl, rfl, ?_⟩
        refine ⟨?_, rfl⟩
        · omega
    · skip
      refine g_aload_n (M := mX9_holds) (pc := 17) dX9_holds_17 rfl (k := ?_)
      refine g_getr (M := mX9_holds) (pc := 18) (by rfl) fX9_4 kX9_25 dX9_holds_18 (by rfl) (kk := ?_)
      refine g_iload_n (M := mX9_holds) (pc := 21) dX9_holds_21 rfl (k := ?_)
      refine g_iald (M := mX9_holds) (pc := 22) (by rfl) (by omega) (by omega) dX9_holds_22 (kk := fun hr22 => ?_)
      refine g_goto (M := mX9_holds) (pc := 23) (tgt := 27) dX9_holds_23 (k := ?_)
      refine g_istore_4 (M := mX9_holds) (pc := 27) dX9_holds_27 (k := ?_)
      refine g_iload_n (M := mX9_holds) (pc := 29) dX9_holds_29 rfl (k := ?_)
      refine g_iconst (M := mX9_holds) (pc := 30) dX9_holds_30 (k := ?_)
      refine g_irem (M := mX9_holds) (pc := 31) (by omega) (by omega) (by omega) dX9_holds_31 (k := ?_)
      have hz31 := tmodB (a := w) (b := 3) (by omega)
      by_cases hc32_0 : (Int.tmod w 3) = 0
      · refine g_lookup (M := mX9_holds) (pc := 32) (tgt := 60) (off := 28) (by omega) dX9_holds_32 rfl (by rw [hc32_0]; rfl) (k := ?_)
        refine g_iload (M := mX9_holds) (pc := 60) dX9_holds_60 rfl (k := ?_)
        refine g_iload_n (M := mX9_holds) (pc := 62) dX9_holds_62 rfl (k := ?_)
        refine g_icmp_ge (M := mX9_holds) (pc := 63) (tgt := 70) (by omega) (by omega) dX9_holds_63 (k1 := fun h63 => ?_) (k2 := fun h63 => ?_)
        · skip
          refine g_iconst (M := mX9_holds) (pc := 70) dX9_holds_70 (k := ?_)
          refine g_zret (M := mX9_holds) (pc := 71) (by first | omega | (unfold b2; split <;> omega)) rfl dX9_holds_71 rfl ⟨_, _, rfl, rfl, ?_⟩
          refine ⟨?_, rfl⟩
          · omega
        · skip
          refine g_iconst (M := mX9_holds) (pc := 66) dX9_holds_66 (k := ?_)
          refine g_goto (M := mX9_holds) (pc := 67) (tgt := 71) dX9_holds_67 (k := ?_)
          refine g_zret (M := mX9_holds) (pc := 71) (by first | omega | (unfold b2; split <;> omega)) rfl dX9_holds_71 rfl ⟨_, _, rfl, rfl, ?_⟩
          refine ⟨?_, rfl⟩
          · omega
      by_cases hc32_1 : (Int.tmod w 3) = 1
      · refine g_lookup (M := mX9_holds) (pc := 32) (tgt := 72) (off := 40) (by omega) dX9_holds_32 rfl (by rw [hc32_1]; rfl) (k := ?_)
        refine g_iload (M := mX9_holds) (pc := 72) dX9_holds_72 rfl (k := ?_)
        refine g_iload_n (M := mX9_holds) (pc := 74) dX9_holds_74 rfl (k := ?_)
        refine g_icmp_ne (M := mX9_holds) (pc := 75) (tgt := 82) (by omega) (by omega) dX9_holds_75 (k1 := fun h75 => ?_) (k2 := fun h75 => ?_)
        · skip
          refine g_iconst (M := mX9_holds) (pc := 82) dX9_holds_82 (k := ?_)
          refine g_zret (M := mX9_holds) (pc := 83) (by first | omega | (unfold b2; split <;> omega)) rfl dX9_holds_83 rfl ⟨_, _, rfl, rfl, ?_⟩
          refine ⟨?_, rfl⟩
          · omega
        · skip
          refine g_iconst (M := mX9_holds) (pc := 78) dX9_holds_78 (k := ?_)
          refine g_goto (M := mX9_holds) (pc := 79) (tgt := 83) dX9_holds_79 (k := ?_)
          refine g_zret (M := mX9_holds) (pc := 83) (by first | omega | (unfold b2; split <;> omega)) rfl dX9_holds_83 rfl ⟨_, _, rfl, rfl, ?_⟩
          refine ⟨?_, rfl⟩
          · omega
      refine g_lookup (M := mX9_holds) (pc := 32) (tgt := 84) (off := 52) (by omega) dX9_holds_32 rfl (by simp [Op.lookupswitch.offset, Ne.symm hc32_0, hc32_0, Ne.symm hc32_1, hc32_1]) (k := ?_)
      refine g_iload (M := mX9_holds) (pc := 84) dX9_holds_84 rfl (k := ?_)
      refine g_iload_n (M := mX9_holds) (pc := 86) dX9_holds_86 rfl (k := ?_)
      refine g_icmp_le (M := mX9_holds) (pc := 87) (tgt := 94) (by omega) (by omega) dX9_holds_87 (k1 := fun h87 => ?_) (k2 := fun h87 => ?_)
      · skip
        refine g_iconst (M := mX9_holds) (pc := 94) dX9_holds_94 (k := ?_)
        refine g_zret (M := mX9_holds) (pc := 95) (by first | omega | (unfold b2; split <;> omega)) rfl dX9_holds_95 rfl ⟨_, _, rfl, rfl, ?_⟩
        refine ⟨?_, rfl⟩
        · omega
      · skip
        refine g_iconst (M := mX9_holds) (pc := 90) dX9_holds_90 (k := ?_)
        refine g_goto (M := mX9_holds) (pc := 91) (tgt := 95) dX9_holds_91 (k := ?_)
        refine g_zret (M := mX9_holds) (pc := 95) (by first | omega | (unfold b2; split <;> omega)) rfl dX9_holds_95 rfl ⟨_, _, rfl, rfl, ?_⟩
        refine ⟨?_, rfl⟩
        · omega
set_option maxHeartbeats 4000000 in
set_option maxRecDepth 20000 in
theorem c_X9_weigh (Γ : KT) (t : Nat) (σ : Nat → Int → Int) (f : Int) (h : Int) (g : Int) (hI : InvX σ) (hf : 0 ≤ f ∧ f < 4) (hh : 0 ≤ h ∧ h < 6) (hg : 0 ≤ g ∧ g ≤ 99) : Ct Γ mX9_weigh 3 (0, 0) [vR Γ 51, vR Γ 33, vI f, vI h, vI g] (113, ρT t, σ) (pV 113 (ρT t) (fun σ' => (InvX σ') ∧ (Fr scT σ σ'))) := by
  refine Ct.of rfl (Nat.le_of_ble_eq_true rfl) ?_
  show G Γ mX9_weigh 3 (0, 0) _ (0, 0) 0 [some (vR Γ 51), some (vR Γ 33), some (vI f), some (vI h), some (vI g), none, none, none, none, none, none, none, none] [] (113, ρT t, σ)
  refine g_aload_n (M := mX9_weigh) (pc := 0) dX9_weigh_0 rfl (k := ?_)
  refine g_getr (M := mX9_weigh) (pc := 1) (by rfl) fX9_4 kX9_25 dX9_weigh_1 (by rfl) (kk := ?_)
  refine g_iconst (M := mX9_weigh) (pc := 4) dX9_weigh_4 (k := ?_)
  refine g_iload_n (M := mX9_weigh) (pc := 5) dX9_weigh_5 rfl (k := ?_)
  refine g_iast (M := mX9_weigh) (pc := 6) (by rfl) (by omega) (by omega) (by omega) dX9_weigh_6 (kk := ?_)
  refine g_aload_n (M := mX9_weigh) (pc := 7) dX9_weigh_7 rfl (k := ?_)
  refine g_getr (M := mX9_weigh) (pc := 8) (by rfl) fX9_4 kX9_25 dX9_weigh_8 (by rfl) (kk := ?_)
  refine g_iconst (M := mX9_weigh) (pc := 11) dX9_weigh_11 (k := ?_)
  refine g_iload_n (M := mX9_weigh) (pc := 12) dX9_weigh_12 rfl (k := ?_)
  refine g_iast (M := mX9_weigh) (pc := 13) (by rfl) (by omega) (by omega) (by omega) dX9_weigh_13 (kk := ?_)
  refine g_aload_n (M := mX9_weigh) (pc := 14) dX9_weigh_14 rfl (k := ?_)
  refine g_getr (M := mX9_weigh) (pc := 15) (by rfl) fX9_4 kX9_25 dX9_weigh_15 (by rfl) (kk := ?_)
  refine g_iconst (M := mX9_weigh) (pc := 18) dX9_weigh_18 (k := ?_)
  refine g_aload_n (M := mX9_weigh) (pc := 19) dX9_weigh_19 rfl (k := ?_)
  refine g_getr (M := mX9_weigh) (pc := 20) (by rfl) fX5_1 kX9_38 dX9_weigh_20 (by rfl) (kk := ?_)
  refine g_iload_n (M := mX9_weigh) (pc := 23) dX9_weigh_23 rfl (k := ?_)
  refine g_iald (M := mX9_weigh) (pc := 24) (by rfl) (by omega) (by omega) dX9_weigh_24 (kk := fun hr24 => ?_)
  simp only [up_same, up_cell, up_slot, ne_eq, not_false_eq_true, Nat.reduceEqDiff, Int.reduceEq, reduceCtorEq, Nat.reduceAdd, Int.reduceAdd, Int.reduceSub] at hr24 ⊢
  have hb24 := iv34_0 hI h (by omega) (by omega)
  refine g_iast (M := mX9_weigh) (pc := 25) (by rfl) (by omega) (by omega) (by omega) dX9_weigh_25 (kk := ?_)
  refine g_aload_n (M := mX9_weigh) (pc := 26) dX9_weigh_26 rfl (k := ?_)
  refine g_getr (M := mX9_weigh) (pc := 27) (by rfl) fX9_4 kX9_25 dX9_weigh_27 (by rfl) (kk := ?_)
  refine g_iconst (M := mX9_weigh) (pc := 30) dX9_weigh_30 (k := ?_)
  refine g_aload_n (M := mX9_weigh) (pc := 31) dX9_weigh_31 rfl (k := ?_)
  refine g_getr (M := mX9_weigh) (pc := 32) (by rfl) fX5_2 kX9_43 dX9_weigh_32 (by rfl) (kk := ?_)
  refine g_iload_n (M := mX9_weigh) (pc := 35) dX9_weigh_35 rfl (k := ?_)
  refine g_iald (M := mX9_weigh) (pc := 36) (by rfl) (by omega) (by omega) dX9_weigh_36 (kk := fun hr36 => ?_)
  simp only [up_same, up_cell, up_slot, ne_eq, not_false_eq_true, Nat.reduceEqDiff, Int.reduceEq, reduceCtorEq, Nat.reduceAdd, Int.reduceAdd, Int.reduceSub] at hr36 ⊢
  have hb36 := iv35_0 hI h (by omega) (by omega)
  refine g_iast (M := mX9_weigh) (pc := 37) (by rfl) (by omega) (by omega) (by omega) dX9_weigh_37 (kk := ?_)
  refine g_aload_n (M := mX9_weigh) (pc := 38) dX9_weigh_38 rfl (k := ?_)
  refine g_getr (M := mX9_weigh) (pc := 39) (by rfl) fX9_4 kX9_25 dX9_weigh_39 (by rfl) (kk := ?_)
  refine g_iconst (M := mX9_weigh) (pc := 42) dX9_weigh_42 (k := ?_)
  refine g_iload (M := mX9_weigh) (pc := 43) dX9_weigh_43 rfl (k := ?_)
  refine g_bipush (M := mX9_weigh) (pc := 45) dX9_weigh_45 (k := ?_)
  refine g_idiv (M := mX9_weigh) (pc := 47) (by omega) (by omega) (by omega) dX9_weigh_47 (k := ?_)
  have hz47 := tdivB (a := g) (b := 10) (by omega)
  refine g_iast (M := mX9_weigh) (pc := 48) (by rfl) (by omega) (by omega) (by omega) dX9_weigh_48 (kk := ?_)
  refine g_aload_n (M := mX9_weigh) (pc := 49) dX9_weigh_49 rfl (k := ?_)
  refine g_getr (M := mX9_weigh) (pc := 50) (by rfl) fX9_4 kX9_25 dX9_weigh_50 (by rfl) (kk := ?_)
  refine g_iconst (M := mX9_weigh) (pc := 53) dX9_weigh_53 (k := ?_)
  refine g_aload_n (M := mX9_weigh) (pc := 54) dX9_weigh_54 rfl (k := ?_)
  refine g_getr (M := mX9_weigh) (pc := 55) (by rfl) fX5_8 kX9_46 dX9_weigh_55 (by rfl) (kk := ?_)
  refine g_iload_n (M := mX9_weigh) (pc := 58) dX9_weigh_58 rfl (k := ?_)
  refine g_iald (M := mX9_weigh) (pc := 59) (by rfl) (by omega) (by omega) dX9_weigh_59 (kk := fun hr59 => ?_)
  simp only [up_same, up_cell, up_slot, ne_eq, not_false_eq_true, Nat.reduceEqDiff, Int.reduceEq, reduceCtorEq, Nat.reduceAdd, Int.reduceAdd, Int.reduceSub] at hr59 ⊢
  have hb59 := iv40_0 hI f (by omega) (by omega)
  refine g_iast (M := mX9_weigh) (pc := 60) (by rfl) (by omega) (by omega) (by omega) dX9_weigh_60 (kk := ?_)
  refine g_aload_n (M := mX9_weigh) (pc := 61) dX9_weigh_61 rfl (k := ?_)
  refine g_get (M := mX9_weigh) (pc := 62) (ji := 13) (by rfl) fX5_13 kX9_49 dX9_weigh_62 (kk := fun hr62 => ?_)
  simp only [up_same, up_cell, up_slot, ne_eq, not_false_eq_true, Nat.reduceEqDiff, Int.reduceEq, reduceCtorEq, Nat.reduceAdd, Int.reduceAdd, Int.reduceSub] at hr62 ⊢
  refine g_istore_5 (M := mX9_weigh) (pc := 65) dX9_weigh_65 (k := ?_)
  refine g_iload (M := mX9_weigh) (pc := 67) dX9_weigh_67 rfl (k := ?_)
  refine g_aload_n (M := mX9_weigh) (pc := 69) dX9_weigh_69 rfl (k := ?_)
  refine g_get (M := mX9_weigh) (pc := 70) (ji := 3) (by rfl) fX9_3 kX9_28 dX9_weigh_70 (kk := fun hr70 => ?_)
  simp only [up_same, up_cell, up_slot, ne_eq, not_false_eq_true, Nat.reduceEqDiff, Int.reduceEq, reduceCtorEq, Nat.reduceAdd, Int.reduceAdd, Int.reduceSub] at hr70 ⊢
  have hb70 := iv51_3 hI 3 (by omega) (by omega)
  refine g_iconst (M := mX9_weigh) (pc := 73) dX9_weigh_73 (k := ?_)
  refine g_isub (M := mX9_weigh) (pc := 74) dX9_weigh_74 (k := ?_)
  refine g_cS2I (M := mX9_weigh) (pc := 75) (c_X10_isUpTo Γ t _ _ _ (by first | omega | (simp only [up_same, up_cell, up_slot, ne_eq, not_false_eq_true, Nat.reduceEqDiff, Int.reduceEq, reduceCtorEq, Nat.reduceAdd, Int.reduceAdd, Int.reduceSub]; done) | (simp only [up_same, up_cell, up_slot, ne_eq, not_false_eq_true, Nat.reduceEqDiff, Int.reduceEq, reduceCtorEq, Nat.reduceAdd, Int.reduceAdd, Int.reduceSub]; omega)) (by first | omega | (simp only [up_same, up_cell, up_slot, ne_eq, not_false_eq_true, Nat.reduceEqDiff, Int.reduceEq, reduceCtorEq, Nat.reduceAdd, Int.reduceAdd, Int.reduceSub]; done) | (simp only [up_same, up_cell, up_slot, ne_eq, not_false_eq_true, Nat.reduceEqDiff, Int.reduceEq, reduceCtorEq, Nat.reduceAdd, Int.reduceAdd, Int.reduceSub]; omega))) qX10_isUpTo vX10_isUpTo kX9_32 dX9_weigh_75 (kk := ?_)
  rintro _ _ ⟨e1, e⟩; rw [e1, e]; clear e1 e
  refine g_if_eqB (M := mX9_weigh) (pc := 78) (tgt := 91) dX9_weigh_78 (k1 := fun h78 => ?_) (k2 := fun h78 => ?_)
  · skip
    refine g_iconst (M := mX9_weigh) (pc := 91) dX9_weigh_91 (k := ?_)
    refine g_istore_6 (M := mX9_weigh) (pc := 92) dX9_weigh_92 (k := ?_)
    refine g_iconst (M := mX9_weigh) (pc := 94) dX9_weigh_94 (k := ?_)
    refine g_istore_7 (M := mX9_weigh) (pc := 95) dX9_weigh_95 (k := ?_)
    refine g_iconst (M := mX9_weigh) (pc := 97) dX9_weigh_97 (k := ?_)
    refine g_istore_8 (M := mX9_weigh) (pc := 98) dX9_weigh_98 (k := ?_)
    refine g_iconst (M := mX9_weigh) (pc := 100) dX9_weigh_100 (k := ?_)
    refine g_istore_9 (M := mX9_weigh) (pc := 101) dX9_weigh_101 (k := ?_)
    refine g_aload_n (M := mX9_weigh) (pc := 103) dX9_weigh_103 rfl (k := ?_)
    refine g_iconst (M := mX9_weigh) (pc := 104) dX9_weigh_104 (k := ?_)
    refine g_put (M := mX9_weigh) (pc := 105) (ji := 5) (by rfl) fX9_5 kX9_52 dX9_weigh_105 (by omega) (kk := ?_)
    refine g_aload_n (M := mX9_weigh) (pc := 108) dX9_weigh_108 rfl (k := ?_)
    refine g_iconst (M := mX9_weigh) (pc := 109) dX9_weigh_109 (k := ?_)
    refine g_put (M := mX9_weigh) (pc := 110) (ji := 6) (by rfl) fX9_6 kX9_55 dX9_weigh_110 (by omega) (kk := ?_)
    refine g_iconst (M := mX9_weigh) (pc := 113) dX9_weigh_113 (k := ?_)
    refine g_istore_10 (M := mX9_weigh) (pc := 114) dX9_weigh_114 (k := ?_)
    have loop116 : ∀ (N : Nat) (τ116 : Nat → Int → Int) (cn : Int) (wk : Int) (kn : Int) (q : Int), ((101 - q).toNat) < N → ((InvX τ116) ∧ (Fr scT σ τ116) ∧ (0 ≤ cn ∧ cn ≤ 1) ∧ (0 ≤ wk ∧ wk ≤ 1) ∧ (-2147483648 ≤ kn ∧ kn ≤ 2147483647) ∧ (0 ≤ q ∧ q ≤ 100) ∧ (-(99 * q) ≤ τ116 51 5 ∧ τ116 51 5 ≤ 99 * q) ∧ (-(99 * q) ≤ τ116 51 6 ∧ τ116 51 6 ≤ 99 * q)) → G Γ mX9_weigh 3 (0, 0) (pV 113 (ρT t) (fun σ' => (InvX σ') ∧ (Fr scT σ σ'))) (0, 0) 116 [some (vR Γ 51), some (vR Γ 33), some (vI f), some (vI h), some (vI g), some (vI (σ 33 13)), some (vI 0), some (vI cn), some (vI wk), some (vI kn), some (vI q), none, none] [] (113, ρT t, τ116) := by
      intro N
      induction N with
      | zero => intro τ116 cn wk kn q hmu116 hinv116; exact absurd hmu116 (Nat.not_lt_zero _)
      | succ N ih116 =>
        intro τ116 cn wk kn q hmu116 hinv116
        obtain ⟨hI116, hF116, hb116_cn, hb116_wk, hb116_kn, hb116_q, hx116_0, hx116_1⟩ := hinv116
        refine g_iload (M := mX9_weigh) (pc := 116) dX9_weigh_116 rfl (k := ?_)
        refine g_iload (M := mX9_weigh) (pc := 118) dX9_weigh_118 rfl (k := ?_)
        refine g_icmp_ge (M := mX9_weigh) (pc := 120) (tgt := 311) (by omega) (by omega) dX9_weigh_120 (k1 := fun h120 => ?_) (k2 := fun h120 => ?_)
        · skip
          refine g_aload_n (M := mX9_weigh) (pc := 311) dX9_weigh_311 rfl (k := ?_)
          refine g_iload (M := mX9_weigh) (pc := 312) dX9_weigh_312 rfl (k := ?_)
          refine g_if_eq (M := mX9_weigh) (pc := 314) (tgt := 324) (by omega) dX9_weigh_314 (k1 := fun h314 => ?_) (k2 := fun h314 => ?_)
          · skip
            refine g_iconst (M := mX9_weigh) (pc := 324) dX9_weigh_324 (k := ?_)
            refine g_put (M := mX9_weigh) (pc := 325) (ji := 5) (by rfl) fX9_5 kX9_52 dX9_weigh_325 (by omega) (kk := ?_)
            refine g_aload_n (M := mX9_weigh) (pc := 328) dX9_weigh_328 rfl (k := ?_)
            refine g_iload (M := mX9_weigh) (pc := 329) dX9_weigh_329 rfl (k := ?_)
            refine g_if_eq (M := mX9_weigh) (pc := 331) (tgt := 341) (by omega) dX9_weigh_331 (k1 := fun h331 => ?_) (k2 := fun h331 => ?_)
            · skip
              refine g_iconst (M := mX9_weigh) (pc := 341) dX9_weigh_341 (k := ?_)
              refine g_put (M := mX9_weigh) (pc := 342) (ji := 6) (by rfl) fX9_6 kX9_55 dX9_weigh_342 (by omega) (kk := ?_)
              refine g_vret (M := mX9_weigh) (pc := 345) rfl dX9_weigh_345 rfl ⟨_, rfl, rfl, ?_⟩
              refine ⟨?_, ?_⟩
              · refine ivu51_6 ?_ (by omega) (by omega); refine ivu51_5 ?_ (by omega) (by omega); exact hI116
              · refine Fr.up ?_ (by first | rfl | (unfold scT; simp; try omega)); refine Fr.up ?_ (by first | rfl | (unfold scT; simp; try omega)); exact hF116
            · skip
              refine g_aload_n (M := mX9_weigh) (pc := 334) dX9_weigh_334 rfl (k := ?_)
              refine g_get (M := mX9_weigh) (pc := 335) (ji := 6) (by rfl) fX9_6 kX9_55 dX9_weigh_335 (kk := fun hr335 => ?_)
              simp only [up_same, up_cell, up_slot, ne_eq, not_false_eq_true, Nat.reduceEqDiff, Int.reduceEq, reduceCtorEq, Nat.reduceAdd, Int.reduceAdd, Int.reduceSub] at hr335 ⊢
              have hb335 := iv51_6 hI116 6 (by omega) (by omega)
              refine g_goto (M := mX9_weigh) (pc := 338) (tgt := 342) dX9_weigh_338 (k := ?_)
              refine g_put (M := mX9_weigh) (pc := 342) (ji := 6) (by rfl) fX9_6 kX9_55 dX9_weigh_342 (by omega) (kk := ?_)
              refine g_vret (M := mX9_weigh) (pc := 345) rfl dX9_weigh_345 rfl ⟨_, rfl, rfl, ?_⟩
              refine ⟨?_, ?_⟩
              · refine ivu51_6 ?_ (by omega) (by omega); refine ivu51_5 ?_ (by omega) (by omega); exact hI116
              · refine Fr.up ?_ (by first | rfl | (unfold scT; simp; try omega)); refine Fr.up ?_ (by first | rfl | (unfold scT; simp; try omega)); exact hF116
          · skip
            refine g_aload_n (M := mX9_weigh) (pc := 317) dX9_weigh_317 rfl (k := ?_)
            refine g_get (M := mX9_weigh) (pc := 318) (ji := 5) (by rfl) fX9_5 kX9_52 dX9_weigh_318 (kk := fun hr318 => ?_)
            have hb318 := iv51_5 hI116 5 (by omega) (by omega)
            refine g_goto (M := mX9_weigh) (pc := 321) (tgt := 325) dX9_weigh_321 (k := ?_)
            refine g_put (M := mX9_weigh) (pc := 325) (ji := 5) (by rfl) fX9_5 kX9_52 dX9_weigh_325 (by omega) (kk := ?_)
            refine g_aload_n (M := mX9_weigh) (pc := 328) dX9_weigh_328 rfl (k := ?_)
            refine g_iload (M := mX9_weigh) (pc := 329) dX9_weigh_329 rfl (k := ?_)
            refine g_if_eq (M := mX9_weigh) (pc := 331) (tgt := 341) (by omega) dX9_weigh_331 (k1 := fun h331 => ?_) (k2 := fun h331 => ?_)
            · skip
              refine g_iconst (M := mX9_weigh) (pc := 341) dX9_weigh_341 (k := ?_)
              refine g_put (M := mX9_weigh) (pc := 342) (ji := 6) (by rfl) fX9_6 kX9_55 dX9_weigh_342 (by omega) (kk := ?_)
              refine g_vret (M := mX9_weigh) (pc := 345) rfl dX9_weigh_345 rfl ⟨_, rfl, rfl, ?_⟩
              refine ⟨?_, ?_⟩
              · refine ivu51_6 ?_ (by omega) (by omega); refine ivu51_5 ?_ (by omega) (by omega); exact hI116
              · refine Fr.up ?_ (by first | rfl | (unfold scT; simp; try omega)); refine Fr.up ?_ (by first | rfl | (unfold scT; simp; try omega)); exact hF116
            · skip
              refine g_aload_n (M := mX9_weigh) (pc := 334) dX9_weigh_334 rfl (k := ?_)
              refine g_get (M := mX9_weigh) (pc := 335) (ji := 6) (by rfl) fX9_6 kX9_55 dX9_weigh_335 (kk := fun hr335 => ?_)
              simp only [up_same, up_cell, up_slot, ne_eq, not_false_eq_true, Nat.reduceEqDiff, Int.reduceEq, reduceCtorEq, Nat.reduceAdd, Int.reduceAdd, Int.reduceSub] at hr335 ⊢
              have hb335 := iv51_6 hI116 6 (by omega) (by omega)
              refine g_goto (M := mX9_weigh) (pc := 338) (tgt := 342) dX9_weigh_338 (k := ?_)
              refine g_put (M := mX9_weigh) (pc := 342) (ji := 6) (by rfl) fX9_6 kX9_55 dX9_weigh_342 (by omega) (kk := ?_)
              refine g_vret (M := mX9_weigh) (pc := 345) rfl dX9_weigh_345 rfl ⟨_, rfl, rfl, ?_⟩
              refine ⟨?_, ?_⟩
              · refine ivu51_6 ?_ (by omega) (by omega); refine ivu51_5 ?_ (by omega) (by omega); exact hI116
              · refine Fr.up ?_ (by first | rfl | (unfold scT; simp; try omega)); refine Fr.up ?_ (by first | rfl | (unfold scT; simp; try omega)); exact hF116
        · skip
          refine g_aload_n (M := mX9_weigh) (pc := 123) dX9_weigh_123 rfl (k := ?_)
          refine g_getr (M := mX9_weigh) (pc := 124) (by rfl) fX9_0 kX9_11 dX9_weigh_124 (by rfl) (kk := ?_)
          refine g_iload (M := mX9_weigh) (pc := 127) dX9_weigh_127 rfl (k := ?_)
          refine g_aald (M := mX9_weigh) (pc := 129) (by rfl) (by decide) (by omega) (by omega) (toks_ref (by omega) (by omega)) dX9_weigh_129 (kk := ?_)
          refine g_iload (M := mX9_weigh) (pc := 130) dX9_weigh_130 rfl (k := ?_)
          refine g_iald (M := mX9_weigh) (pc := 132) (shp_tok (by omega) (by omega)) (by omega) (by omega) dX9_weigh_132 (hk := by omega) (kk := fun hr132 => ?_)
          refine g_bipush (M := mX9_weigh) (pc := 133) dX9_weigh_133 (k := ?_)
          refine g_idiv (M := mX9_weigh) (pc := 135) (by omega) (by omega) (by omega) dX9_weigh_135 (k := ?_)
          have hz135 := tdivB (a := τ116 (53 + Int.toNat (σ 33 13)) q) (b := 100) (by omega)
          refine g_istore_11 (M := mX9_weigh) (pc := 136) dX9_weigh_136 (k := ?_)
          refine g_aload_n (M := mX9_weigh) (pc := 138) dX9_weigh_138 rfl (k := ?_)
          refine g_getr (M := mX9_weigh) (pc := 139) (by rfl) fX9_0 kX9_11 dX9_weigh_139 (by rfl) (kk := ?_)
          refine g_iload (M := mX9_weigh) (pc := 142) dX9_weigh_142 rfl (k := ?_)
          refine g_aald (M := mX9_weigh) (pc := 144) (by rfl) (by decide) (by omega) (by omega) (toks_ref (by omega) (by omega)) dX9_weigh_144 (kk := ?_)
          refine g_iload (M := mX9_weigh) (pc := 145) dX9_weigh_145 rfl (k := ?_)
          refine g_iald (M := mX9_weigh) (pc := 147) (shp_tok (by omega) (by omega)) (by omega) (by omega) dX9_weigh_147 (hk := by omega) (kk := fun hr147 => ?_)
          refine g_bipush (M := mX9_weigh) (pc := 148) dX9_weigh_148 (k := ?_)
          refine g_irem (M := mX9_weigh) (pc := 150) (by omega) (by omega) (by omega) dX9_weigh_150 (k := ?_)
          have hz150 := tmodB (a := τ116 (53 + Int.toNat (σ 33 13)) q) (b := 100) (by omega)
          refine g_istore_12 (M := mX9_weigh) (pc := 151) dX9_weigh_151 (k := ?_)
          refine g_iload (M := mX9_weigh) (pc := 153) dX9_weigh_153 rfl (k := ?_)
          by_cases hsw155 : (Int.tdiv (τ116 (53 + Int.toNat (σ 33 13)) q) 100) < 18 ∨ 22 < (Int.tdiv (τ116 (53 + Int.toNat (σ 33 13)) q) 100)
          · skip
            refine g_tableOut (M := mX9_weigh) (pc := 155) (tgt := 282) (by omega) dX9_weigh_155 (h := hsw155) (k := ?_)
            refine g_iload (M := mX9_weigh) (pc := 282) dX9_weigh_282 rfl (k := ?_)
            refine g_iconst (M := mX9_weigh) (pc := 284) dX9_weigh_284 (k := ?_)
            refine g_ishl (M := mX9_weigh) (pc := 285) dX9_weigh_285 (k := ?_)
            have hz285 := zshlR kn 1
            refine g_aload_n (M := mX9_weigh) (pc := 286) dX9_weigh_286 rfl (k := ?_)
            refine g_iload (M := mX9_weigh) (pc := 287) dX9_weigh_287 rfl (k := ?_)
            refine g_iload (M := mX9_weigh) (pc := 289) dX9_weigh_289 rfl (k := ?_)
            refine g_cV2I (M := mX9_weigh) (pc := 291) (c_X9_holds Γ t _ _ _ (by omega) (by omega)) qX9_holds vX9_holds sX9_holds kX9_58 dX9_weigh_291 (kk := ?_)
            rintro r291 _ ⟨hi291, e⟩; rw [e]; clear e
            refine g_if_eq (M := mX9_weigh) (pc := 294) (tgt := 301) (by omega) dX9_weigh_294 (k1 := fun h294 => ?_) (k2 := fun h294 => ?_)
            · skip
              refine g_iconst (M := mX9_weigh) (pc := 301) dX9_weigh_301 (k := ?_)
              refine g_ior (M := mX9_weigh) (pc := 302) dX9_weigh_302 (k := ?_)
              have hz302 := zorR (zshl kn 1) 0
              refine g_istore_9 (M := mX9_weigh) (pc := 303) dX9_weigh_303 (k := ?_)
              refine g_iinc_10 (M := mX9_weigh) (pc := 305) dX9_weigh_305 (k := ?_)
              refine g_goto (M := mX9_weigh) (pc := 308) (tgt := 116) dX9_weigh_308 (k := ?_)
              refine g_less (leL_s (leL_s (leL_s (leL_s (leL_s (leL_s (leL_s (leL_s (leL_s (leL_s (leL_s (leL_n (leL_n leL_0))))))))))))) ?_
              refine ih116 _ _ _ _ _ ?_ ?_
              · omega
              · skip
                refine ⟨?_, ?_, ?_, ?_, ?_, ?_, ?_, ?_⟩
                · exact hI116
                · exact hF116
                · omega
                · omega
                · omega
                · omega
                · (try simp only [up_same, up_cell, up_slot, ne_eq, not_false_eq_true, Nat.reduceEqDiff, Int.reduceEq, reduceCtorEq, Nat.reduceAdd, Int.reduceAdd, Int.reduceSub]); omega
                · (try simp only [up_same, up_cell, up_slot, ne_eq, not_false_eq_true, Nat.reduceEqDiff, Int.reduceEq, reduceCtorEq, Nat.reduceAdd, Int.reduceAdd, Int.reduceSub]); omega
            · skip
              refine g_iconst (M := mX9_weigh) (pc := 297) dX9_weigh_297 (k := ?_)
              refine g_goto (M := mX9_weigh) (pc := 298) (tgt := 302) dX9_weigh_298 (k := ?_)
              refine g_ior (M := mX9_weigh) (pc := 302) dX9_weigh_302 (k := ?_)
              have hz302 := zorR (zshl kn 1) 1
              refine g_istore_9 (M := mX9_weigh) (pc := 303) dX9_weigh_303 (k := ?_)
              refine g_iinc_10 (M := mX9_weigh) (pc := 305) dX9_weigh_305 (k := ?_)
              refine g_goto (M := mX9_weigh) (pc := 308) (tgt := 116) dX9_weigh_308 (k := ?_)
              refine g_less (leL_s (leL_s (leL_s (leL_s (leL_s (leL_s (leL_s (leL_s (leL_s (leL_s (leL_s (leL_n (leL_n leL_0))))))))))))) ?_
              refine ih116 _ _ _ _ _ ?_ ?_
              · omega
              · skip
                refine ⟨?_, ?_, ?_, ?_, ?_, ?_, ?_, ?_⟩
                · exact hI116
                · exact hF116
                · omega
                · omega
                · omega
                · omega
                · (try simp only [up_same, up_cell, up_slot, ne_eq, not_false_eq_true, Nat.reduceEqDiff, Int.reduceEq, reduceCtorEq, Nat.reduceAdd, Int.reduceAdd, Int.reduceSub]); omega
                · (try simp only [up_same, up_cell, up_slot, ne_eq, not_false_eq_true, Nat.reduceEqDiff, Int.reduceEq, reduceCtorEq, Nat.reduceAdd, Int.reduceAdd, Int.reduceSub]); omega
          · obtain hc155 | hc155 | hc155 | hc155 | hc155 : (Int.tdiv (τ116 (53 + Int.toNat (σ 33 13)) q) 100) = 18 ∨ (Int.tdiv (τ116 (53 + Int.toNat (σ 33 13)) q) 100) = 19 ∨ (Int.tdiv (τ116 (53 + Int.toNat (σ 33 13)) q) 100) = 20 ∨ (Int.tdiv (τ116 (53 + Int.toNat (σ 33 13)) q) 100) = 21 ∨ (Int.tdiv (τ116 (53 + Int.toNat (σ 33 13)) q) 100) = 22 := by omega
            · skip
              refine g_tableIn (M := mX9_weigh) (pc := 155) (tgt := 188) (by omega) dX9_weigh_155 (18) hc155 (k := ?_)
              refine g_iload (M := mX9_weigh) (pc := 188) dX9_weigh_188 rfl (k := ?_)
              refine g_iconst (M := mX9_weigh) (pc := 190) dX9_weigh_190 (k := ?_)
              refine g_ixor (M := mX9_weigh) (pc := 191) dX9_weigh_191 (k := ?_)
              have hz191 := zxorR kn 1
              refine g_istore_9 (M := mX9_weigh) (pc := 192) dX9_weigh_192 (k := ?_)
              refine g_goto (M := mX9_weigh) (pc := 194) (tgt := 305) dX9_weigh_194 (k := ?_)
              refine g_iinc_10 (M := mX9_weigh) (pc := 305) dX9_weigh_305 (k := ?_)
              refine g_goto (M := mX9_weigh) (pc := 308) (tgt := 116) dX9_weigh_308 (k := ?_)
              refine g_less (leL_s (leL_s (leL_s (leL_s (leL_s (leL_s (leL_s (leL_s (leL_s (leL_s (leL_s (leL_n (leL_n leL_0))))))))))))) ?_
              refine ih116 _ _ _ _ _ ?_ ?_
              · omega
              · skip
                refine ⟨?_, ?_, ?_, ?_, ?_, ?_, ?_, ?_⟩
                · exact hI116
                · exact hF116
                · omega
                · omega
                · omega
                · omega
                · (try simp only [up_same, up_cell, up_slot, ne_eq, not_false_eq_true, Nat.reduceEqDiff, Int.reduceEq, reduceCtorEq, Nat.reduceAdd, Int.reduceAdd, Int.reduceSub]); omega
                · (try simp only [up_same, up_cell, up_slot, ne_eq, not_false_eq_true, Nat.reduceEqDiff, Int.reduceEq, reduceCtorEq, Nat.reduceAdd, Int.reduceAdd, Int.reduceSub]); omega
            · skip
              refine g_tableIn (M := mX9_weigh) (pc := 155) (tgt := 197) (by omega) dX9_weigh_155 (19) hc155 (k := ?_)
              refine g_iload (M := mX9_weigh) (pc := 197) dX9_weigh_197 rfl (k := ?_)
              refine g_iconst (M := mX9_weigh) (pc := 199) dX9_weigh_199 (k := ?_)
              refine g_ishr (M := mX9_weigh) (pc := 200) dX9_weigh_200 (k := ?_)
              have hz200 := zshrR kn 1
              refine g_iload (M := mX9_weigh) (pc := 201) dX9_weigh_201 rfl (k := ?_)
              refine g_bipush (M := mX9_weigh) (pc := 203) dX9_weigh_203 (k := ?_)
              refine g_ior (M := mX9_weigh) (pc := 205) dX9_weigh_205 (k := ?_)
              have hz205 := zorR kn (-2)
              refine g_iand (M := mX9_weigh) (pc := 206) dX9_weigh_206 (k := ?_)
              have hz206 := zandR (zshr kn 1) (zor kn (-2))
              refine g_istore_9 (M := mX9_weigh) (pc := 207) dX9_weigh_207 (k := ?_)
              refine g_goto (M := mX9_weigh) (pc := 209) (tgt := 305) dX9_weigh_209 (k := ?_)
              refine g_iinc_10 (M := mX9_weigh) (pc := 305) dX9_weigh_305 (k := ?_)
              refine g_goto (M := mX9_weigh) (pc := 308) (tgt := 116) dX9_weigh_308 (k := ?_)
              refine g_less (leL_s (leL_s (leL_s (leL_s (leL_s (leL_s (leL_s (leL_s (leL_s (leL_s (leL_s (leL_n (leL_n leL_0))))))))))))) ?_
              refine ih116 _ _ _ _ _ ?_ ?_
              · omega
              · skip
                refine ⟨?_, ?_, ?_, ?_, ?_, ?_, ?_, ?_⟩
                · exact hI116
                · exact hF116
                · omega
                · omega
                · omega
                · omega
                · (try simp only [up_same, up_cell, up_slot, ne_eq, not_false_eq_true, Nat.reduceEqDiff, Int.reduceEq, reduceCtorEq, Nat.reduceAdd, Int.reduceAdd, Int.reduceSub]); omega
                · (try simp only [up_same, up_cell, up_slot, ne_eq, not_false_eq_true, Nat.reduceEqDiff, Int.reduceEq, reduceCtorEq, Nat.reduceAdd, Int.reduceAdd, Int.reduceSub]); omega
            · skip
              refine g_tableIn (M := mX9_weigh) (pc := 155) (tgt := 212) (by omega) dX9_weigh_155 (20) hc155 (k := ?_)
              refine g_iload (M := mX9_weigh) (pc := 212) dX9_weigh_212 rfl (k := ?_)
              refine g_iconst (M := mX9_weigh) (pc := 214) dX9_weigh_214 (k := ?_)
              refine g_ishr (M := mX9_weigh) (pc := 215) dX9_weigh_215 (k := ?_)
              have hz215 := zshrR kn 1
              refine g_iload (M := mX9_weigh) (pc := 216) dX9_weigh_216 rfl (k := ?_)
              refine g_iconst (M := mX9_weigh) (pc := 218) dX9_weigh_218 (k := ?_)
              refine g_iand (M := mX9_weigh) (pc := 219) dX9_weigh_219 (k := ?_)
              have hz219 := zandR kn 1
              have hy219 := zand1 kn
              refine g_ior (M := mX9_weigh) (pc := 220) dX9_weigh_220 (k := ?_)
              have hz220 := zorR (zshr kn 1) (zand kn 1)
              refine g_istore_9 (M := mX9_weigh) (pc := 221) dX9_weigh_221 (k := ?_)
              refine g_goto (M := mX9_weigh) (pc := 223) (tgt := 305) dX9_weigh_223 (k := ?_)
              refine g_iinc_10 (M := mX9_weigh) (pc := 305) dX9_weigh_305 (k := ?_)
              refine g_goto (M := mX9_weigh) (pc := 308) (tgt := 116) dX9_weigh_308 (k := ?_)
              refine g_less (leL_s (leL_s (leL_s (leL_s (leL_s (leL_s (leL_s (leL_s (leL_s (leL_s (leL_s (leL_n (leL_n leL_0))))))))))))) ?_
              refine ih116 _ _ _ _ _ ?_ ?_
              · omega
              · skip
                refine ⟨?_, ?_, ?_, ?_, ?_, ?_, ?_, ?_⟩
                · exact hI116
                · exact hF116
                · omega
                · omega
                · omega
                · omega
                · (try simp only [up_same, up_cell, up_slot, ne_eq, not_false_eq_true, Nat.reduceEqDiff, Int.reduceEq, reduceCtorEq, Nat.reduceAdd, Int.reduceAdd, Int.reduceSub]); omega
                · (try simp only [up_same, up_cell, up_slot, ne_eq, not_false_eq_true, Nat.reduceEqDiff, Int.reduceEq, reduceCtorEq, Nat.reduceAdd, Int.reduceAdd, Int.reduceSub]); omega
            · skip
              refine g_tableIn (M := mX9_weigh) (pc := 155) (tgt := 226) (by omega) dX9_weigh_155 (21) hc155 (k := ?_)
              refine g_iconst (M := mX9_weigh) (pc := 226) dX9_weigh_226 (k := ?_)
              refine g_istore_7 (M := mX9_weigh) (pc := 227) dX9_weigh_227 (k := ?_)
              refine g_aload_n (M := mX9_weigh) (pc := 229) dX9_weigh_229 rfl (k := ?_)
              refine g_dupR (M := mX9_weigh) (pc := 230) dX9_weigh_230 (k := ?_)
              refine g_get (M := mX9_weigh) (pc := 231) (ji := 5) (by rfl) fX9_5 kX9_52 dX9_weigh_231 (kk := fun hr231 => ?_)
              have hb231 := iv51_5 hI116 5 (by omega) (by omega)
              refine g_iload (M := mX9_weigh) (pc := 234) dX9_weigh_234 rfl (k := ?_)
              refine g_iconst (M := mX9_weigh) (pc := 236) dX9_weigh_236 (k := ?_)
              refine g_iand (M := mX9_weigh) (pc := 237) dX9_weigh_237 (k := ?_)
              have hz237 := zandR kn 1
              have hy237 := zand1 kn
              refine g_iload (M := mX9_weigh) (pc := 238) dX9_weigh_238 rfl (k := ?_)
              refine g_imul (M := mX9_weigh) (pc := 240) dX9_weigh_240 (k := ?_)
              have hz240 := mul01 (n := (Int.tmod (τ116 (53 + Int.toNat (σ 33 13)) q) 100)) (by omega : (zand kn 1) = 0 ∨ (zand kn 1) = 1)
              refine g_iadd (M := mX9_weigh) (pc := 241) dX9_weigh_241 (k := ?_)
              refine g_put (M := mX9_weigh) (pc := 242) (ji := 5) (by rfl) fX9_5 kX9_52 dX9_weigh_242 (by omega) (kk := ?_)
              refine g_iload (M := mX9_weigh) (pc := 245) dX9_weigh_245 rfl (k := ?_)
              refine g_iconst (M := mX9_weigh) (pc := 247) dX9_weigh_247 (k := ?_)
              refine g_ishr (M := mX9_weigh) (pc := 248) dX9_weigh_248 (k := ?_)
              have hz248 := zshrR kn 1
              refine g_istore_9 (M := mX9_weigh) (pc := 249) dX9_weigh_249 (k := ?_)
              refine g_goto (M := mX9_weigh) (pc := 251) (tgt := 305) dX9_weigh_251 (k := ?_)
              refine g_iinc_10 (M := mX9_weigh) (pc := 305) dX9_weigh_305 (k := ?_)
              refine g_goto (M := mX9_weigh) (pc := 308) (tgt := 116) dX9_weigh_308 (k := ?_)
              refine g_less (leL_s (leL_s (leL_s (leL_s (leL_s (leL_s (leL_s (leL_s (leL_s (leL_s (leL_s (leL_n (leL_n leL_0))))))))))))) ?_
              refine ih116 _ _ _ _ _ ?_ ?_
              · omega
              · skip
                refine ⟨?_, ?_, ?_, ?_, ?_, ?_, ?_, ?_⟩
                · refine ivu51_5 ?_ (by omega) (by omega); exact hI116
                · refine Fr.up ?_ (by first | rfl | (unfold scT; simp; try omega)); exact hF116
                · omega
                · omega
                · omega
                · omega
                · (try simp only [up_same, up_cell, up_slot, ne_eq, not_false_eq_true, Nat.reduceEqDiff, Int.reduceEq, reduceCtorEq, Nat.reduceAdd, Int.reduceAdd, Int.reduceSub]); omega
                · (try simp only [up_same, up_cell, up_slot, ne_eq, not_false_eq_true, Nat.reduceEqDiff, Int.reduceEq, reduceCtorEq, Nat.reduceAdd, Int.reduceAdd, Int.reduceSub]); omega
            · skip
              refine g_tableIn (M := mX9_weigh) (pc := 155) (tgt := 254) (by omega) dX9_weigh_155 (22) hc155 (k := ?_)
              refine g_iconst (M := mX9_weigh) (pc := 254) dX9_weigh_254 (k := ?_)
              refine g_istore_8 (M := mX9_weigh) (pc := 255) dX9_weigh_255 (k := ?_)
              refine g_aload_n (M := mX9_weigh) (pc := 257) dX9_weigh_257 rfl (k := ?_)
              refine g_dupR (M := mX9_weigh) (pc := 258) dX9_weigh_258 (k := ?_)
              refine g_get (M := mX9_weigh) (pc := 259) (ji := 6) (by rfl) fX9_6 kX9_55 dX9_weigh_259 (kk := fun hr259 => ?_)
              have hb259 := iv51_6 hI116 6 (by omega) (by omega)
              refine g_iload (M := mX9_weigh) (pc := 262) dX9_weigh_262 rfl (k := ?_)
              refine g_iconst (M := mX9_weigh) (pc := 264) dX9_weigh_264 (k := ?_)
              refine g_iand (M := mX9_weigh) (pc := 265) dX9_weigh_265 (k := ?_)
              have hz265 := zandR kn 1
              have hy265 := zand1 kn
              refine g_iload (M := mX9_weigh) (pc := 266) dX9_weigh_266 rfl (k := ?_)
              refine g_imul (M := mX9_weigh) (pc := 268) dX9_weigh_268 (k := ?_)
              have hz268 := mul01 (n := (Int.tmod (τ116 (53 + Int.toNat (σ 33 13)) q) 100)) (by omega : (zand kn 1) = 0 ∨ (zand kn 1) = 1)
              refine g_iadd (M := mX9_weigh) (pc := 269) dX9_weigh_269 (k := ?_)
              refine g_put (M := mX9_weigh) (pc := 270) (ji := 6) (by rfl) fX9_6 kX9_55 dX9_weigh_270 (by omega) (kk := ?_)
              refine g_iload (M := mX9_weigh) (pc := 273) dX9_weigh_273 rfl (k := ?_)
              refine g_iconst (M := mX9_weigh) (pc := 275) dX9_weigh_275 (k := ?_)
              refine g_ishr (M := mX9_weigh) (pc := 276) dX9_weigh_276 (k := ?_)
              have hz276 := zshrR kn 1
              refine g_istore_9 (M := mX9_weigh) (pc := 277) dX9_weigh_277 (k := ?_)
              refine g_goto (M := mX9_weigh) (pc := 279) (tgt := 305) dX9_weigh_279 (k := ?_)
              refine g_iinc_10 (M := mX9_weigh) (pc := 305) dX9_weigh_305 (k := ?_)
              refine g_goto (M := mX9_weigh) (pc := 308) (tgt := 116) dX9_weigh_308 (k := ?_)
              refine g_less (leL_s (leL_s (leL_s (leL_s (leL_s (leL_s (leL_s (leL_s (leL_s (leL_s (leL_s (leL_n (leL_n leL_0))))))))))))) ?_
              refine ih116 _ _ _ _ _ ?_ ?_
              · omega
              · skip
                refine ⟨?_, ?_, ?_, ?_, ?_, ?_, ?_, ?_⟩
                · refine ivu51_6 ?_ (by omega) (by omega); exact hI116
                · refine Fr.up ?_ (by first | rfl | (unfold scT; simp; try omega)); exact hF116
                · omega
                · omega
                · omega
                · omega
                · (try simp only [up_same, up_cell, up_slot, ne_eq, not_false_eq_true, Nat.reduceEqDiff, Int.reduceEq, reduceCtorEq, Nat.reduceAdd, Int.reduceAdd, Int.reduceSub]); omega
                · (try simp only [up_same, up_cell, up_slot, ne_eq, not_false_eq_true, Nat.reduceEqDiff, Int.reduceEq, reduceCtorEq, Nat.reduceAdd, Int.reduceAdd, Int.reduceSub]); omega
    refine loop116 _ _ _ _ _ _ (Nat.lt_succ_self _) ?_
    refine ⟨?_, ?_, ?_, ?_, ?_, ?_, ?_, ?_⟩
    · refine ivu51_6 ?_ (by omega) (by omega); refine ivu51_5 ?_ (by omega) (by omega); refine iv_cell ?_ (by rfl); refine iv_cell ?_ (by rfl); refine iv_cell ?_ (by rfl); refine iv_cell ?_ (by rfl); refine iv_cell ?_ (by rfl); refine iv_cell ?_ (by rfl); exact hI
    · refine Fr.up ?_ (by first | rfl | (unfold scT; simp; try omega)); refine Fr.up ?_ (by first | rfl | (unfold scT; simp; try omega)); refine Fr.up ?_ (by first | rfl | (unfold scT; simp; try omega)); refine Fr.up ?_ (by first | rfl | (unfold scT; simp; try omega)); refine Fr.up ?_ (by first | rfl | (unfold scT; simp; try omega)); refine Fr.up ?_ (by first | rfl | (unfold scT; simp; try omega)); refine Fr.up ?_ (by first | rfl | (unfold scT; simp; try omega)); refine Fr.up ?_ (by first | rfl | (unfold scT; simp; try omega)); exact (Fr.rf)
    · omega
    · omega
    · omega
    · omega
    · (try simp only [up_same, up_cell, up_slot, ne_eq, not_false_eq_true, Nat.reduceEqDiff, Int.reduceEq, reduceCtorEq, Nat.reduceAdd, Int.reduceAdd, Int.reduceSub]); omega
    · (try simp only [up_same, up_cell, up_slot, ne_eq, not_false_eq_true, Nat.reduceEqDiff, Int.reduceEq, reduceCtorEq, Nat.reduceAdd, Int.reduceAdd, Int.reduceSub]); omega
  · skip
    refine g_aload_n (M := mX9_weigh) (pc := 81) dX9_weigh_81 rfl (k := ?_)
    refine g_getr (M := mX9_weigh) (pc := 82) (by rfl) fX9_1 kX9_16 dX9_weigh_82 (by rfl) (kk := ?_)
    refine g_iload (M := mX9_weigh) (pc := 85) dX9_weigh_85 rfl (k := ?_)
    refine g_iald (M := mX9_weigh) (pc := 87) (by rfl) (by omega) (by omega) dX9_weigh_87 (kk := fun hr87 => ?_)
    simp only [up_same, up_cell, up_slot, ne_eq, not_false_eq_true, Nat.reduceEqDiff, Int.reduceEq, reduceCtorEq, Nat.reduceAdd, Int.reduceAdd, Int.reduceSub] at hr87 ⊢
    have hb87 := iv59_0 hI (σ 33 13) (by omega) (by omega)
    refine g_goto (M := mX9_weigh) (pc := 88) (tgt := 92) dX9_weigh_88 (k := ?_)
    refine g_istore_6 (M := mX9_weigh) (pc := 92) dX9_weigh_92 (k := ?_)
    refine g_iconst (M := mX9_weigh) (pc := 94) dX9_weigh_94 (k := ?_)
    refine g_istore_7 (M := mX9_weigh) (pc := 95) dX9_weigh_95 (k := ?_)
    refine g_iconst (M := mX9_weigh) (pc := 97) dX9_weigh_97 (k := ?_)
    refine g_istore_8 (M := mX9_weigh) (pc := 98) dX9_weigh_98 (k := ?_)
    refine g_iconst (M := mX9_weigh) (pc := 100) dX9_weigh_100 (k := ?_)
    refine g_istore_9 (M := mX9_weigh) (pc := 101) dX9_weigh_101 (k := ?_)
    refine g_aload_n (M := mX9_weigh) (pc := 103) dX9_weigh_103 rfl (k := ?_)
    refine g_iconst (M := mX9_weigh) (pc := 104) dX9_weigh_104 (k := ?_)
    refine g_put (M := mX9_weigh) (pc := 105) (ji := 5) (by rfl) fX9_5 kX9_52 dX9_weigh_105 (by omega) (kk := ?_)
    refine g_aload_n (M := mX9_weigh) (pc := 108) dX9_weigh_108 rfl (k := ?_)
    refine g_iconst (M := mX9_weigh) (pc := 109) dX9_weigh_109 (k := ?_)
    refine g_put (M := mX9_weigh) (pc := 110) (ji := 6) (by rfl) fX9_6 kX9_55 dX9_weigh_110 (by omega) (kk := ?_)
    refine g_iconst (M := mX9_weigh) (pc := 113) dX9_weigh_113 (k := ?_)
    refine g_istore_10 (M := mX9_weigh) (pc := 114) dX9_weigh_114 (k := ?_)
    have loop116 : ∀ (N : Nat) (τ116 : Nat → Int → Int) (cn : Int) (wk : Int) (kn : Int) (q : Int), ((101 - q).toNat) < N → ((InvX τ116) ∧ (Fr scT σ τ116) ∧ (0 ≤ cn ∧ cn ≤ 1) ∧ (0 ≤ wk ∧ wk ≤ 1) ∧ (-2147483648 ≤ kn ∧ kn ≤ 2147483647) ∧ (0 ≤ q ∧ q ≤ 100) ∧ (-(99 * q) ≤ τ116 51 5 ∧ τ116 51 5 ≤ 99 * q) ∧ (-(99 * q) ≤ τ116 51 6 ∧ τ116 51 6 ≤ 99 * q)) → G Γ mX9_weigh 3 (0, 0) (pV 113 (ρT t) (fun σ' => (InvX σ') ∧ (Fr scT σ σ'))) (0, 0) 116 [some (vR Γ 51), some (vR Γ 33), some (vI f), some (vI h), some (vI g), some (vI (σ 33 13)), some (vI (σ 59 (σ 33 13))), some (vI cn), some (vI wk), some (vI kn), some (vI q), none, none] [] (113, ρT t, τ116) := by
      intro N
      induction N with
      | zero => intro τ116 cn wk kn q hmu116 hinv116; exact absurd hmu116 (Nat.not_lt_zero _)
      | succ N ih116 =>
        intro τ116 cn wk kn q hmu116 hinv116
        obtain ⟨hI116, hF116, hb116_cn, hb116_wk, hb116_kn, hb116_q, hx116_0, hx116_1⟩ := hinv116
        refine g_iload (M := mX9_weigh) (pc := 116) dX9_weigh_116 rfl (k := ?_)
        refine g_iload (M := mX9_weigh) (pc := 118) dX9_weigh_118 rfl (k := ?_)
        refine g_icmp_ge (M := mX9_weigh) (pc := 120) (tgt := 311) (by omega) (by omega) dX9_weigh_120 (k1 := fun h120 => ?_) (k2 := fun h120 => ?_)
        · skip
          refine g_aload_n (M := mX9_weigh) (pc := 311) dX9_weigh_311 rfl (k := ?_)
          refine g_iload (M := mX9_weigh) (pc := 312) dX9_weigh_312 rfl (k := ?_)
          refine g_if_eq (M := mX9_weigh) (pc := 314) (tgt := 324) (by omega) dX9_weigh_314 (k1 := fun h314 => ?_) (k2 := fun h314 => ?_)
          · skip
            refine g_iconst (M := mX9_weigh) (pc := 324) dX9_weigh_324 (k := ?_)
            refine g_put (M := mX9_weigh) (pc := 325) (ji := 5) (by rfl) fX9_5 kX9_52 dX9_weigh_325 (by omega) (kk := ?_)
            refine g_aload_n (M := mX9_weigh) (pc := 328) dX9_weigh_328 rfl (k := ?_)
            refine g_iload (M := mX9_weigh) (pc := 329) dX9_weigh_329 rfl (k := ?_)
            refine g_if_eq (M := mX9_weigh) (pc := 331) (tgt := 341) (by omega) dX9_weigh_331 (k1 := fun h331 => ?_) (k2 := fun h331 => ?_)
            · skip
              refine g_iconst (M := mX9_weigh) (pc := 341) dX9_weigh_341 (k := ?_)
              refine g_put (M := mX9_weigh) (pc := 342) (ji := 6) (by rfl) fX9_6 kX9_55 dX9_weigh_342 (by omega) (kk := ?_)
              refine g_vret (M := mX9_weigh) (pc := 345) rfl dX9_weigh_345 rfl ⟨_, rfl, rfl, ?_⟩
              refine ⟨?_, ?_⟩
              · refine ivu51_6 ?_ (by omega) (by omega); refine ivu51_5 ?_ (by omega) (by omega); exact hI116
              · refine Fr.up ?_ (by first | rfl | (unfold scT; simp; try omega)); refine Fr.up ?_ (by first | rfl | (unfold scT; simp; try omega)); exact hF116
            · skip
              refine g_aload_n (M := mX9_weigh) (pc := 334) dX9_weigh_334 rfl (k := ?_)
              refine g_get (M := mX9_weigh) (pc := 335) (ji := 6) (by rfl) fX9_6 kX9_55 dX9_weigh_335 (kk := fun hr335 => ?_)
              simp only [up_same, up_cell, up_slot, ne_eq, not_false_eq_true, Nat.reduceEqDiff, Int.reduceEq, reduceCtorEq, Nat.reduceAdd, Int.reduceAdd, Int.reduceSub] at hr335 ⊢
              have hb335 := iv51_6 hI116 6 (by omega) (by omega)
              refine g_goto (M := mX9_weigh) (pc := 338) (tgt := 342) dX9_weigh_338 (k := ?_)
              refine g_put (M := mX9_weigh) (pc := 342) (ji := 6) (by rfl) fX9_6 kX9_55 dX9_weigh_342 (by omega) (kk := ?_)
              refine g_vret (M := mX9_weigh) (pc := 345) rfl dX9_weigh_345 rfl ⟨_, rfl, rfl, ?_⟩
              refine ⟨?_, ?_⟩
              · refine ivu51_6 ?_ (by omega) (by omega); refine ivu51_5 ?_ (by omega) (by omega); exact hI116
              · refine Fr.up ?_ (by first | rfl | (unfold scT; simp; try omega)); refine Fr.up ?_ (by first | rfl | (unfold scT; simp; try omega)); exact hF116
          · skip
            refine g_aload_n (M := mX9_weigh) (pc := 317) dX9_weigh_317 rfl (k := ?_)
            refine g_get (M := mX9_weigh) (pc := 318) (ji := 5) (by rfl) fX9_5 kX9_52 dX9_weigh_318 (kk := fun hr318 => ?_)
            have hb318 := iv51_5 hI116 5 (by omega) (by omega)
            refine g_goto (M := mX9_weigh) (pc := 321) (tgt := 325) dX9_weigh_321 (k := ?_)
            refine g_put (M := mX9_weigh) (pc := 325) (ji := 5) (by rfl) fX9_5 kX9_52 dX9_weigh_325 (by omega) (kk := ?_)
            refine g_aload_n (M := mX9_weigh) (pc := 328) dX9_weigh_328 rfl (k := ?_)
            refine g_iload (M := mX9_weigh) (pc := 329) dX9_weigh_329 rfl (k := ?_)
            refine g_if_eq (M := mX9_weigh) (pc := 331) (tgt := 341) (by omega) dX9_weigh_331 (k1 := fun h331 => ?_) (k2 := fun h331 => ?_)
            · skip
              refine g_iconst (M := mX9_weigh) (pc := 341) dX9_weigh_341 (k := ?_)
              refine g_put (M := mX9_weigh) (pc := 342) (ji := 6) (by rfl) fX9_6 kX9_55 dX9_weigh_342 (by omega) (kk := ?_)
              refine g_vret (M := mX9_weigh) (pc := 345) rfl dX9_weigh_345 rfl ⟨_, rfl, rfl, ?_⟩
              refine ⟨?_, ?_⟩
              · refine ivu51_6 ?_ (by omega) (by omega); refine ivu51_5 ?_ (by omega) (by omega); exact hI116
              · refine Fr.up ?_ (by first | rfl | (unfold scT; simp; try omega)); refine Fr.up ?_ (by first | rfl | (unfold scT; simp; try omega)); exact hF116
            · skip
              refine g_aload_n (M := mX9_weigh) (pc := 334) dX9_weigh_334 rfl (k := ?_)
              refine g_get (M := mX9_weigh) (pc := 335) (ji := 6) (by rfl) fX9_6 kX9_55 dX9_weigh_335 (kk := fun hr335 => ?_)
              simp only [up_same, up_cell, up_slot, ne_eq, not_false_eq_true, Nat.reduceEqDiff, Int.reduceEq, reduceCtorEq, Nat.reduceAdd, Int.reduceAdd, Int.reduceSub] at hr335 ⊢
              have hb335 := iv51_6 hI116 6 (by omega) (by omega)
              refine g_goto (M := mX9_weigh) (pc := 338) (tgt := 342) dX9_weigh_338 (k := ?_)
              refine g_put (M := mX9_weigh) (pc := 342) (ji := 6) (by rfl) fX9_6 kX9_55 dX9_weigh_342 (by omega) (kk := ?_)
              refine g_vret (M := mX9_weigh) (pc := 345) rfl dX9_weigh_345 rfl ⟨_, rfl, rfl, ?_⟩
              refine ⟨?_, ?_⟩
              · refine ivu51_6 ?_ (by omega) (by omega); refine ivu51_5 ?_ (by omega) (by omega); exact hI116
              · refine Fr.up ?_ (by first | rfl | (unfold scT; simp; try omega)); refine Fr.up ?_ (by first | rfl | (unfold scT; simp; try omega)); exact hF116
        · skip
          refine g_aload_n (M := mX9_weigh) (pc := 123) dX9_weigh_123 rfl (k := ?_)
          refine g_getr (M := mX9_weigh) (pc := 124) (by rfl) fX9_0 kX9_11 dX9_weigh_124 (by rfl) (kk := ?_)
          refine g_iload (M := mX9_weigh) (pc := 127) dX9_weigh_127 rfl (k := ?_)
          refine g_aald (M := mX9_weigh) (pc := 129) (by rfl) (by decide) (by omega) (by omega) (toks_ref (by omega) (by omega)) dX9_weigh_129 (kk := ?_)
          refine g_iload (M := mX9_weigh) (pc := 130) dX9_weigh_130 rfl (k := ?_)
          refine g_iald (M := mX9_weigh) (pc := 132) (shp_tok (by omega) (by omega)) (by omega) (by omega) dX9_weigh_132 (hk := by omega) (kk := fun hr132 => ?_)
          refine g_bipush (M := mX9_weigh) (pc := 133) dX9_weigh_133 (k := ?_)
          refine g_idiv (M := mX9_weigh) (pc := 135) (by omega) (by omega) (by omega) dX9_weigh_135 (k := ?_)
          have hz135 := tdivB (a := τ116 (53 + Int.toNat (σ 33 13)) q) (b := 100) (by omega)
          refine g_istore_11 (M := mX9_weigh) (pc := 136) dX9_weigh_136 (k := ?_)
          refine g_aload_n (M := mX9_weigh) (pc := 138) dX9_weigh_138 rfl (k := ?_)
          refine g_getr (M := mX9_weigh) (pc := 139) (by rfl) fX9_0 kX9_11 dX9_weigh_139 (by rfl) (kk := ?_)
          refine g_iload (M := mX9_weigh) (pc := 142) dX9_weigh_142 rfl (k := ?_)
          refine g_aald (M := mX9_weigh) (pc := 144) (by rfl) (by decide) (by omega) (by omega) (toks_ref (by omega) (by omega)) dX9_weigh_144 (kk := ?_)
          refine g_iload (M := mX9_weigh) (pc := 145) dX9_weigh_145 rfl (k := ?_)
          refine g_iald (M := mX9_weigh) (pc := 147) (shp_tok (by omega) (by omega)) (by omega) (by omega) dX9_weigh_147 (hk := by omega) (kk := fun hr147 => ?_)
          refine g_bipush (M := mX9_weigh) (pc := 148) dX9_weigh_148 (k := ?_)
          refine g_irem (M := mX9_weigh) (pc := 150) (by omega) (by omega) (by omega) dX9_weigh_150 (k := ?_)
          have hz150 := tmodB (a := τ116 (53 + Int.toNat (σ 33 13)) q) (b := 100) (by omega)
          refine g_istore_12 (M := mX9_weigh) (pc := 151) dX9_weigh_151 (k := ?_)
          refine g_iload (M := mX9_weigh) (pc := 153) dX9_weigh_153 rfl (k := ?_)
          by_cases hsw155 : (Int.tdiv (τ116 (53 + Int.toNat (σ 33 13)) q) 100) < 18 ∨ 22 < (Int.tdiv (τ116 (53 + Int.toNat (σ 33 13)) q) 100)
          · skip
            refine g_tableOut (M := mX9_weigh) (pc := 155) (tgt := 282) (by omega) dX9_weigh_155 (h := hsw155) (k := ?_)
            refine g_iload (M := mX9_weigh) (pc := 282) dX9_weigh_282 rfl (k := ?_)
            refine g_iconst (M := mX9_weigh) (pc := 284) dX9_weigh_284 (k := ?_)
            refine g_ishl (M := mX9_weigh) (pc := 285) dX9_weigh_285 (k := ?_)
            have hz285 := zshlR kn 1
            refine g_aload_n (M := mX9_weigh) (pc := 286) dX9_weigh_286 rfl (k := ?_)
            refine g_iload (M := mX9_weigh) (pc := 287) dX9_weigh_287 rfl (k := ?_)
            refine g_iload (M := mX9_weigh) (pc := 289) dX9_weigh_289 rfl (k := ?_)
            refine g_cV2I (M := mX9_weigh) (pc := 291) (c_X9_holds Γ t _ _ _ (by omega) (by omega)) qX9_holds vX9_holds sX9_holds kX9_58 dX9_weigh_291 (kk := ?_)
            rintro r291 _ ⟨hi291, e⟩; rw [e]; clear e
            refine g_if_eq (M := mX9_weigh) (pc := 294) (tgt := 301) (by omega) dX9_weigh_294 (k1 := fun h294 => ?_) (k2 := fun h294 => ?_)
            · skip
              refine g_iconst (M := mX9_weigh) (pc := 301) dX9_weigh_301 (k := ?_)
              refine g_ior (M := mX9_weigh) (pc := 302) dX9_weigh_302 (k := ?_)
              have hz302 := zorR (zshl kn 1) 0
              refine g_istore_9 (M := mX9_weigh) (pc := 303) dX9_weigh_303 (k := ?_)
              refine g_iinc_10 (M := mX9_weigh) (pc := 305) dX9_weigh_305 (k := ?_)
              refine g_goto (M := mX9_weigh) (pc := 308) (tgt := 116) dX9_weigh_308 (k := ?_)
              refine g_less (leL_s (leL_s (leL_s (leL_s (leL_s (leL_s (leL_s (leL_s (leL_s (leL_s (leL_s (leL_n (leL_n leL_0))))))))))))) ?_
              refine ih116 _ _ _ _ _ ?_ ?_
              · omega
              · skip
                refine ⟨?_, ?_, ?_, ?_, ?_, ?_, ?_, ?_⟩
                · exact hI116
                · exact hF116
                · omega
                · omega
                · omega
                · omega
                · (try simp only [up_same, up_cell, up_slot, ne_eq, not_false_eq_true, Nat.reduceEqDiff, Int.reduceEq, reduceCtorEq, Nat.reduceAdd, Int.reduceAdd, Int.reduceSub]); omega
                · (try simp only [up_same, up_cell, up_slot, ne_eq, not_false_eq_true, Nat.reduceEqDiff, Int.reduceEq, reduceCtorEq, Nat.reduceAdd, Int.reduceAdd, Int.reduceSub]); omega
            · skip
              refine g_iconst (M := mX9_weigh) (pc := 297) dX9_weigh_297 (k := ?_)
              refine g_goto (M := mX9_weigh) (pc := 298) (tgt := 302) dX9_weigh_298 (k := ?_)
              refine g_ior (M := mX9_weigh) (pc := 302) dX9_weigh_302 (k := ?_)
              have hz302 := zorR (zshl kn 1) 1
              refine g_istore_9 (M := mX9_weigh) (pc := 303) dX9_weigh_303 (k := ?_)
              refine g_iinc_10 (M := mX9_weigh) (pc := 305) dX9_weigh_305 (k := ?_)
              refine g_goto (M := mX9_weigh) (pc := 308) (tgt := 116) dX9_weigh_308 (k := ?_)
              refine g_less (leL_s (leL_s (leL_s (leL_s (leL_s (leL_s (leL_s (leL_s (leL_s (leL_s (leL_s (leL_n (leL_n leL_0))))))))))))) ?_
              refine ih116 _ _ _ _ _ ?_ ?_
              · omega
              · skip
                refine ⟨?_, ?_, ?_, ?_, ?_, ?_, ?_, ?_⟩
                · exact hI116
                · exact hF116
                · omega
                · omega
                · omega
                · omega
                · (try simp only [up_same, up_cell, up_slot, ne_eq, not_false_eq_true, Nat.reduceEqDiff, Int.reduceEq, reduceCtorEq, Nat.reduceAdd, Int.reduceAdd, Int.reduceSub]); omega
                · (try simp only [up_same, up_cell, up_slot, ne_eq, not_false_eq_true, Nat.reduceEqDiff, Int.reduceEq, reduceCtorEq, Nat.reduceAdd, Int.reduceAdd, Int.reduceSub]); omega
          · obtain hc155 | hc155 | hc155 | hc155 | hc155 : (Int.tdiv (τ116 (53 + Int.toNat (σ 33 13)) q) 100) = 18 ∨ (Int.tdiv (τ116 (53 + Int.toNat (σ 33 13)) q) 100) = 19 ∨ (Int.tdiv (τ116 (53 + Int.toNat (σ 33 13)) q) 100) = 20 ∨ (Int.tdiv (τ116 (53 + Int.toNat (σ 33 13)) q) 100) = 21 ∨ (Int.tdiv (τ116 (53 + Int.toNat (σ 33 13)) q) 100) = 22 := by omega
            · skip
              refine g_tableIn (M := mX9_weigh) (pc := 155) (tgt := 188) (by omega) dX9_weigh_155 (18) hc155 (k := ?_)
              refine g_iload (M := mX9_weigh) (pc := 188) dX9_weigh_188 rfl (k := ?_)
              refine g_iconst (M := mX9_weigh) (pc := 190) dX9_weigh_190 (k := ?_)
              refine g_ixor (M := mX9_weigh) (pc := 191) dX9_weigh_191 (k := ?_)
              have hz191 := zxorR kn 1
              refine g_istore_9 (M := mX9_weigh) (pc := 192) dX9_weigh_192 (k := ?_)
              refine g_goto (M := mX9_weigh) (pc := 194) (tgt := 305) dX9_weigh_194 (k := ?_)
              refine g_iinc_10 (M := mX9_weigh) (pc := 305) dX9_weigh_305 (k := ?_)
              refine g_goto (M := mX9_weigh) (pc := 308) (tgt := 116) dX9_weigh_308 (k := ?_)
              refine g_less (leL_s (leL_s (leL_s (leL_s (leL_s (leL_s (leL_s (leL_s (leL_s (leL_s (leL_s (leL_n (leL_n leL_0))))))))))))) ?_
              refine ih116 _ _ _ _ _ ?_ ?_
              · omega
              · skip
                refine ⟨?_, ?_, ?_, ?_, ?_, ?_, ?_, ?_⟩
                · exact hI116
                · exact hF116
                · omega
                · omega
                · omega
                · omega
                · (try simp only [up_same, up_cell, up_slot, ne_eq, not_false_eq_true, Nat.reduceEqDiff, Int.reduceEq, reduceCtorEq, Nat.reduceAdd, Int.reduceAdd, Int.reduceSub]); omega
                · (try simp only [up_same, up_cell, up_slot, ne_eq, not_false_eq_true, Nat.reduceEqDiff, Int.reduceEq, reduceCtorEq, Nat.reduceAdd, Int.reduceAdd, Int.reduceSub]); omega
            · skip
              refine g_tableIn (M := mX9_weigh) (pc := 155) (tgt := 197) (by omega) dX9_weigh_155 (19) hc155 (k := ?_)
              refine g_iload (M := mX9_weigh) (pc := 197) dX9_weigh_197 rfl (k := ?_)
              refine g_iconst (M := mX9_weigh) (pc := 199) dX9_weigh_199 (k := ?_)
              refine g_ishr (M := mX9_weigh) (pc := 200) dX9_weigh_200 (k := ?_)
              have hz200 := zshrR kn 1
              refine g_iload (M := mX9_weigh) (pc := 201) dX9_weigh_201 rfl (k := ?_)
              refine g_bipush (M := mX9_weigh) (pc := 203) dX9_weigh_203 (k := ?_)
              refine g_ior (M := mX9_weigh) (pc := 205) dX9_weigh_205 (k := ?_)
              have hz205 := zorR kn (-2)
              refine g_iand (M := mX9_weigh) (pc := 206) dX9_weigh_206 (k := ?_)
              have hz206 := zandR (zshr kn 1) (zor kn (-2))
              refine g_istore_9 (M := mX9_weigh) (pc := 207) dX9_weigh_207 (k := ?_)
              refine g_goto (M := mX9_weigh) (pc := 209) (tgt := 305) dX9_weigh_209 (k := ?_)
              refine g_iinc_10 (M := mX9_weigh) (pc := 305) dX9_weigh_305 (k := ?_)
              refine g_goto (M := mX9_weigh) (pc := 308) (tgt := 116) dX9_weigh_308 (k := ?_)
              refine g_less (leL_s (leL_s (leL_s (leL_s (leL_s (leL_s (leL_s (leL_s (leL_s (leL_s (leL_s (leL_n (leL_n leL_0))))))))))))) ?_
              refine ih116 _ _ _ _ _ ?_ ?_
              · omega
              · skip
                refine ⟨?_, ?_, ?_, ?_, ?_, ?_, ?_, ?_⟩
                · exact hI116
                · exact hF116
                · omega
                · omega
                · omega
                · omega
                · (try simp only [up_same, up_cell, up_slot, ne_eq, not_false_eq_true, Nat.reduceEqDiff, Int.reduceEq, reduceCtorEq, Nat.reduceAdd, Int.reduceAdd, Int.reduceSub]); omega
                · (try simp only [up_same, up_cell, up_slot, ne_eq, not_false_eq_true, Nat.reduceEqDiff, Int.reduceEq, reduceCtorEq, Nat.reduceAdd, Int.reduceAdd, Int.reduceSub]); omega
            · skip
              refine g_tableIn (M := mX9_weigh) (pc := 155) (tgt := 212) (by omega) dX9_weigh_155 (20) hc155 (k := ?_)
              refine g_iload (M := mX9_weigh) (pc := 212) dX9_weigh_212 rfl (k := ?_)
              refine g_iconst (M := mX9_weigh) (pc := 214) dX9_weigh_214 (k := ?_)
              refine g_ishr (M := mX9_weigh) (pc := 215) dX9_weigh_215 (k := ?_)
              have hz215 := zshrR kn 1
              refine g_iload (M := mX9_weigh) (pc := 216) dX9_weigh_216 rfl (k := ?_)
              refine g_iconst (M := mX9_weigh) (pc := 218) dX9_weigh_218 (k := ?_)
              refine g_iand (M := mX9_weigh) (pc := 219) dX9_weigh_219 (k := ?_)
              have hz219 := zandR kn 1
              have hy219 := zand1 kn
              refine g_ior (M := mX9_weigh) (pc := 220) dX9_weigh_220 (k := ?_)
              have hz220 := zorR (zshr kn 1) (zand kn 1)
              refine g_istore_9 (M := mX9_weigh) (pc := 221) dX9_weigh_221 (k := ?_)
              refine g_goto (M := mX9_weigh) (pc := 223) (tgt := 305) dX9_weigh_223 (k := ?_)
              refine g_iinc_10 (M := mX9_weigh) (pc := 305) dX9_weigh_305 (k := ?_)
              refine g_goto (M := mX9_weigh) (pc := 308) (tgt := 116) dX9_weigh_308 (k := ?_)
              refine g_less (leL_s (leL_s (leL_s (leL_s (leL_s (leL_s (leL_s (leL_s (leL_s (leL_s (leL_s (leL_n (leL_n leL_0))))))))))))) ?_
              refine ih116 _ _ _ _ _ ?_ ?_
              · omega
              · skip
                refine ⟨?_, ?_, ?_, ?_, ?_, ?_, ?_, ?_⟩
                · exact hI116
                · exact hF116
                · omega
                · omega
                · omega
                · omega
                · (try simp only [up_same, up_cell, up_slot, ne_eq, not_false_eq_true, Nat.reduceEqDiff, Int.reduceEq, reduceCtorEq, Nat.reduceAdd, Int.reduceAdd, Int.reduceSub]); omega
                · (try simp only [up_same, up_cell, up_slot, ne_eq, not_false_eq_true, Nat.reduceEqDiff, Int.reduceEq, reduceCtorEq, Nat.reduceAdd, Int.reduceAdd, Int.reduceSub]); omega
            · skip
              refine g_tableIn (M := mX9_weigh) (pc := 155) (tgt := 226) (by omega) dX9_weigh_155 (21) hc155 (k := ?_)
              refine g_iconst (M := mX9_weigh) (pc := 226) dX9_weigh_226 (k := ?_)
              refine g_istore_7 (M := mX9_weigh) (pc := 227) dX9_weigh_227 (k := ?_)
              refine g_aload_n (M := mX9_weigh) (pc := 229) dX9_weigh_229 rfl (k := ?_)
              refine g_dupR (M := mX9_weigh) (pc := 230) dX9_weigh_230 (k := ?_)
              refine g_get (M := mX9_weigh) (pc := 231) (ji := 5) (by rfl) fX9_5 kX9_52 dX9_weigh_231 (kk := fun hr231 => ?_)
              have hb231 := iv51_5 hI116 5 (by omega) (by omega)
              refine g_iload (M := mX9_weigh) (pc := 234) dX9_weigh_234 rfl (k := ?_)
              refine g_iconst (M := mX9_weigh) (pc := 236) dX9_weigh_236 (k := ?_)
              refine g_iand (M := mX9_weigh) (pc := 237) dX9_weigh_237 (k := ?_)
              have hz237 := zandR kn 1
              have hy237 := zand1 kn
              refine g_iload (M := mX9_weigh) (pc := 238) dX9_weigh_238 rfl (k := ?_)
              refine g_imul (M := mX9_weigh) (pc := 240) dX9_weigh_240 (k := ?_)
              have hz240 := mul01 (n := (Int.tmod (τ116 (53 + Int.toNat (σ 33 13)) q) 100)) (by omega : (zand kn 1) = 0 ∨ (zand kn 1) = 1)
              refine g_iadd (M := mX9_weigh) (pc := 241) dX9_weigh_241 (k := ?_)
              refine g_put (M := mX9_weigh) (pc := 242) (ji := 5) (by rfl) fX9_5 kX9_52 dX9_weigh_242 (by omega) (kk := ?_)
              refine g_iload (M := mX9_weigh) (pc := 245) dX9_weigh_245 rfl (k := ?_)
              refine g_iconst (M := mX9_weigh) (pc := 247) dX9_weigh_247 (k := ?_)
              refine g_ishr (M := mX9_weigh) (pc := 248) dX9_weigh_248 (k := ?_)
              have hz248 := zshrR kn 1
              refine g_istore_9 (M := mX9_weigh) (pc := 249) dX9_weigh_249 (k := ?_)
              refine g_goto (M := mX9_weigh) (pc := 251) (tgt := 305) dX9_weigh_251 (k := ?_)
              refine g_iinc_10 (M := mX9_weigh) (pc := 305) dX9_weigh_305 (k := ?_)
              refine g_goto (M := mX9_weigh) (pc := 308) (tgt := 116) dX9_weigh_308 (k := ?_)
              refine g_less (leL_s (leL_s (leL_s (leL_s (leL_s (leL_s (leL_s (leL_s (leL_s (leL_s (leL_s (leL_n (leL_n leL_0))))))))))))) ?_
              refine ih116 _ _ _ _ _ ?_ ?_
              · omega
              · skip
                refine ⟨?_, ?_, ?_, ?_, ?_, ?_, ?_, ?_⟩
                · refine ivu51_5 ?_ (by omega) (by omega); exact hI116
                · refine Fr.up ?_ (by first | rfl | (unfold scT; simp; try omega)); exact hF116
                · omega
                · omega
                · omega
                · omega
                · (try simp only [up_same, up_cell, up_slot, ne_eq, not_false_eq_true, Nat.reduceEqDiff, Int.reduceEq, reduceCtorEq, Nat.reduceAdd, Int.reduceAdd, Int.reduceSub]); omega
                · (try simp only [up_same, up_cell, up_slot, ne_eq, not_false_eq_true, Nat.reduceEqDiff, Int.reduceEq, reduceCtorEq, Nat.reduceAdd, Int.reduceAdd, Int.reduceSub]); omega
            · skip
              refine g_tableIn (M := mX9_weigh) (pc := 155) (tgt := 254) (by omega) dX9_weigh_155 (22) hc155 (k := ?_)
              refine g_iconst (M := mX9_weigh) (pc := 254) dX9_weigh_254 (k := ?_)
              refine g_istore_8 (M := mX9_weigh) (pc := 255) dX9_weigh_255 (k := ?_)
              refine g_aload_n (M := mX9_weigh) (pc := 257) dX9_weigh_257 rfl (k := ?_)
              refine g_dupR (M := mX9_weigh) (pc := 258) dX9_weigh_258 (k := ?_)
              refine g_get (M := mX9_weigh) (pc := 259) (ji := 6) (by rfl) fX9_6 kX9_55 dX9_weigh_259 (kk := fun hr259 => ?_)
              have hb259 := iv51_6 hI116 6 (by omega) (by omega)
              refine g_iload (M := mX9_weigh) (pc := 262) dX9_weigh_262 rfl (k := ?_)
              refine g_iconst (M := mX9_weigh) (pc := 264) dX9_weigh_264 (k := ?_)
              refine g_iand (M := mX9_weigh) (pc := 265) dX9_weigh_265 (k := ?_)
              have hz265 := zandR kn 1
              have hy265 := zand1 kn
              refine g_iload (M := mX9_weigh) (pc := 266) dX9_weigh_266 rfl (k := ?_)
              refine g_imul (M := mX9_weigh) (pc := 268) dX9_weigh_268 (k := ?_)
              have hz268 := mul01 (n := (Int.tmod (τ116 (53 + Int.toNat (σ 33 13)) q) 100)) (by omega : (zand kn 1) = 0 ∨ (zand kn 1) = 1)
              refine g_iadd (M := mX9_weigh) (pc := 269) dX9_weigh_269 (k := ?_)
              refine g_put (M := mX9_weigh) (pc := 270) (ji := 6) (by rfl) fX9_6 kX9_55 dX9_weigh_270 (by omega) (kk := ?_)
              refine g_iload (M := mX9_weigh) (pc := 273) dX9_weigh_273 rfl (k := ?_)
              refine g_iconst (M := mX9_weigh) (pc := 275) dX9_weigh_275 (k := ?_)
              refine g_ishr (M := mX9_weigh) (pc := 276) dX9_weigh_276 (k := ?_)
              have hz276 := zshrR kn 1
              refine g_istore_9 (M := mX9_weigh) (pc := 277) dX9_weigh_277 (k := ?_)
              refine g_goto (M := mX9_weigh) (pc := 279) (tgt := 305) dX9_weigh_279 (k := ?_)
              refine g_iinc_10 (M := mX9_weigh) (pc := 305) dX9_weigh_305 (k := ?_)
              refine g_goto (M := mX9_weigh) (pc := 308) (tgt := 116) dX9_weigh_308 (k := ?_)
              refine g_less (leL_s (leL_s (leL_s (leL_s (leL_s (leL_s (leL_s (leL_s (leL_s (leL_s (leL_s (leL_n (leL_n leL_0))))))))))))) ?_
              refine ih116 _ _ _ _ _ ?_ ?_
              · omega
              · skip
                refine ⟨?_, ?_, ?_, ?_, ?_, ?_, ?_, ?_⟩
                · refine ivu51_6 ?_ (by omega) (by omega); exact hI116
                · refine Fr.up ?_ (by first | rfl | (unfold scT; simp; try omega)); exact hF116
                · omega
                · omega
                · omega
                · omega
                · (try simp only [up_same, up_cell, up_slot, ne_eq, not_false_eq_true, Nat.reduceEqDiff, Int.reduceEq, reduceCtorEq, Nat.reduceAdd, Int.reduceAdd, Int.reduceSub]); omega
                · (try simp only [up_same, up_cell, up_slot, ne_eq, not_false_eq_true, Nat.reduceEqDiff, Int.reduceEq, reduceCtorEq, Nat.reduceAdd, Int.reduceAdd, Int.reduceSub]); omega
    refine loop116 _ _ _ _ _ _ (Nat.lt_succ_self _) ?_
    refine ⟨?_, ?_, ?_, ?_, ?_, ?_, ?_, ?_⟩
    · refine ivu51_6 ?_ (by omega) (by omega); refine ivu51_5 ?_ (by omega) (by omega); refine iv_cell ?_ (by rfl); refine iv_cell ?_ (by rfl); refine iv_cell ?_ (by rfl); refine iv_cell ?_ (by rfl); refine iv_cell ?_ (by rfl); refine iv_cell ?_ (by rfl); exact hI
    · refine Fr.up ?_ (by first | rfl | (unfold scT; simp; try omega)); refine Fr.up ?_ (by first | rfl | (unfold scT; simp; try omega)); refine Fr.up ?_ (by first | rfl | (unfold scT; simp; try omega)); refine Fr.up ?_ (by first | rfl | (unfold scT; simp; try omega)); refine Fr.up ?_ (by first | rfl | (unfold scT; simp; try omega)); refine Fr.up ?_ (by first | rfl | (unfold scT; simp; try omega)); refine Fr.up ?_ (by first | rfl | (unfold scT; simp; try omega)); refine Fr.up ?_ (by first | rfl | (unfold scT; simp; try omega)); exact (Fr.rf)
    · omega
    · omega
    · omega
    · omega
    · (try simp only [up_same, up_cell, up_slot, ne_eq, not_false_eq_true, Nat.reduceEqDiff, Int.reduceEq, reduceCtorEq, Nat.reduceAdd, Int.reduceAdd, Int.reduceSub]); omega
    · (try simp only [up_same, up_cell, up_slot, ne_eq, not_false_eq_true, Nat.reduceEqDiff, Int.reduceEq, reduceCtorEq, Nat.reduceAdd, Int.reduceAdd, Int.reduceSub]); omega
