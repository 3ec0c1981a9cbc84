set_option maxHeartbeats 4000000 in
set_option maxRecDepth 20000 in
theorem c_X11_house (Γ : KT) (t : Nat) (σ : Nat → Int → Int) (k : Int) (n : Int) (g : Int) (hI : InvJ σ) (hk : R32 k) (hn : R32 n) (hg : R32 g) : Ct Γ mX11_house 2 (0, 0) [vR Γ 69, vI k, vI n, vI g] (113, ρT t, σ) (pI 113 (ρT t) (fun r σ' => (houseJ σ k n g r σ') ∧ (InvJ σ') ∧ (Fr jcMm σ σ'))) := by
  refine Ct.of rfl (Nat.le_of_ble_eq_true rfl) ?_
  show G Γ mX11_house 2 (0, 0) _ (0, 0) 0 [some (vR Γ 69), some (vI k), some (vI n), some (vI g)] [] (113, ρT t, σ)
  refine g_aload_n (M := mX11_house) (pc := 0) dX11_house_0 rfl (k := ?_)
  refine g_iload_n (M := mX11_house) (pc := 1) dX11_house_1 rfl (k := ?_)
  refine g_iconst (M := mX11_house) (pc := 2) dX11_house_2 (k := ?_)
  refine g_bipush (M := mX11_house) (pc := 3) dX11_house_3 (k := ?_)
  refine g_cV3I (M := mX11_house) (pc := 5) (c_X11_in Γ t _ _ _ _ (by omega) (by omega) (by omega)) qX11_in vX11_in sX11_in kX11_224 dX11_house_5 (kk := ?_)
  rintro _ _ ⟨e1, e⟩; rw [e1, e]; clear e1 e
  refine g_if_neB (M := mX11_house) (pc := 8) (tgt := 13) dX11_house_8 (k1 := fun h8 => ?_) (k2 := fun h8 => ?_)
  · skip
    refine g_aload_n (M := mX11_house) (pc := 13) dX11_house_13 rfl (k := ?_)
    refine g_iload_n (M := mX11_house) (pc := 14) dX11_house_14 rfl (k := ?_)
    refine g_iconst (M := mX11_house) (pc := 15) dX11_house_15 (k := ?_)
    refine g_bipush (M := mX11_house) (pc := 16) dX11_house_16 (k := ?_)
    refine g_cV3I (M := mX11_house) (pc := 18) (c_X11_in Γ t _ _ _ _ (by omega) (by omega) (by omega)) qX11_in vX11_in sX11_in kX11_224 dX11_house_18 (kk := ?_)
    rintro _ _ ⟨e1, e⟩; rw [e1, e]; clear e1 e
    refine g_if_eqB (M := mX11_house) (pc := 21) (tgt := 35) dX11_house_21 (k1 := fun h21 => ?_) (k2 := fun h21 => ?_)
    · skip
      refine g_bipush (M := mX11_house) (pc := 35) dX11_house_35 (k := ?_)
      refine g_iret (M := mX11_house) (pc := 37) rfl dX11_house_37 rfl ⟨_, _, rfl, rfl, ?_⟩
      refine ⟨?_, ?_, ?_⟩
      · unfold houseJ; first | exact Or.inl ⟨by first | omega | (refine ⟨by omega, by omega, ?_⟩; assumption), by first | rfl | omega, by first | rfl | (rw [show n = 1 by omega]; done) | (rw [show n = 0 by omega]; done) | (rw [show z = 1 by omega]; done) | (rw [show z = 0 by omega]; done) | (unfold zwith; first | rw [if_pos (by omega)] | rw [if_neg (by omega)])⟩ | exact Or.inr (Or.inl ⟨by first | omega | (refine ⟨by omega, by omega, ?_⟩; assumption), by first | rfl | omega, by first | rfl | (rw [show n = 1 by omega]; done) | (rw [show n = 0 by omega]; done) | (rw [show z = 1 by omega]; done) | (rw [show z = 0 by omega]; done) | (unfold zwith; first | rw [if_pos (by omega)] | rw [if_neg (by omega)])⟩) | exact Or.inr (Or.inr (Or.inl ⟨by first | omega | (refine ⟨by omega, by omega, ?_⟩; assumption), by first | rfl | omega, by first | rfl | (rw [show n = 1 by omega]; done) | (rw [show n = 0 by omega]; done) | (rw [show z = 1 by omega]; done) | (rw [show z = 0 by omega]; done) | (unfold zwith; first | rw [if_pos (by omega)] | rw [if_neg (by omega)])⟩)) | exact Or.inr (Or.inr (Or.inr (⟨by first | omega | (refine ⟨by omega, by omega, ?_⟩; assumption), by first | rfl | omega, by first | rfl | (rw [show n = 1 by omega]; done) | (rw [show n = 0 by omega]; done) | (rw [show z = 1 by omega]; done) | (rw [show z = 0 by omega]; done) | (unfold zwith; first | rw [if_pos (by omega)] | rw [if_neg (by omega)])⟩)))
      · exact hI
      · exact (Fr.rf)
    · skip
      refine g_aload_n (M := mX11_house) (pc := 24) dX11_house_24 rfl (k := ?_)
      refine g_iload_n (M := mX11_house) (pc := 25) dX11_house_25 rfl (k := ?_)
      refine g_iconst (M := mX11_house) (pc := 26) dX11_house_26 (k := ?_)
      refine g_bipush (M := mX11_house) (pc := 27) dX11_house_27 (k := ?_)
      refine g_cV3I (M := mX11_house) (pc := 29) (c_X11_in Γ t _ _ _ _ (by omega) (by omega) (by omega)) qX11_in vX11_in sX11_in kX11_224 dX11_house_29 (kk := ?_)
      rintro _ _ ⟨e1, e⟩; rw [e1, e]; clear e1 e
      refine g_if_neB (M := mX11_house) (pc := 32) (tgt := 38) dX11_house_32 (k1 := fun h32 => ?_) (k2 := fun h32 => ?_)
      · skip
        refine g_aload_n (M := mX11_house) (pc := 38) dX11_house_38 rfl (k := ?_)
        refine g_get (M := mX11_house) (pc := 39) (ji := 0) (by rfl) fX11_0 kX11_7 dX11_house_39 (kk := fun hr39 => ?_)
        have hb39 := jv69_0 hI 0 (by omega) (by omega)
        refine g_bipush (M := mX11_house) (pc := 42) dX11_house_42 (k := ?_)
        refine g_icmp_ne (M := mX11_house) (pc := 44) (tgt := 50) (by omega) (by omega) dX11_house_44 (k1 := fun h44 => ?_) (k2 := fun h44 => ?_)
        · skip
          refine g_aload_n (M := mX11_house) (pc := 50) dX11_house_50 rfl (k := ?_)
          refine g_aload_n (M := mX11_house) (pc := 51) dX11_house_51 rfl (k := ?_)
          refine g_get (M := mX11_house) (pc := 52) (ji := 0) (by rfl) fX11_0 kX11_7 dX11_house_52 (kk := fun hr52 => ?_)
          refine g_iload_n (M := mX11_house) (pc := 55) dX11_house_55 rfl (k := ?_)
          refine g_iload_n (M := mX11_house) (pc := 56) dX11_house_56 rfl (k := ?_)
          refine g_cV3V (M := mX11_house) (pc := 57) (c_X11_becomes Γ t _ _ _ _ (by omega) (by omega) (by omega)) qX11_becomes vX11_becomes sX11_becomes kX11_228 dX11_house_57 (kk := ?_)
          rintro _ e; rw [e]; clear e
          refine g_aload_n (M := mX11_house) (pc := 60) dX11_house_60 rfl (k := ?_)
          refine g_getr (M := mX11_house) (pc := 61) (by rfl) fX11_4 kX11_23 dX11_house_61 (by rfl) (kk := ?_)
          refine g_aload_n (M := mX11_house) (pc := 64) dX11_house_64 rfl (k := ?_)
          refine g_get (M := mX11_house) (pc := 65) (ji := 0) (by rfl) fX11_0 kX11_7 dX11_house_65 (kk := fun hr65 => ?_)
          simp only [up_same, up_cell, up_slot, ne_eq, not_false_eq_true, Nat.reduceEqDiff, Int.reduceEq, reduceCtorEq, Nat.reduceAdd, Int.reduceAdd, Int.reduceSub] at hr65 ⊢
          refine g_iload_n (M := mX11_house) (pc := 68) dX11_house_68 rfl (k := ?_)
          refine g_iast (M := mX11_house) (pc := 69) (by rfl) (by omega) (by omega) (by omega) dX11_house_69 (kk := ?_)
          refine g_aload_n (M := mX11_house) (pc := 70) dX11_house_70 rfl (k := ?_)
          refine g_getr (M := mX11_house) (pc := 71) (by rfl) fX11_5 kX11_26 dX11_house_71 (by rfl) (kk := ?_)
          refine g_aload_n (M := mX11_house) (pc := 74) dX11_house_74 rfl (k := ?_)
          refine g_get (M := mX11_house) (pc := 75) (ji := 0) (by rfl) fX11_0 kX11_7 dX11_house_75 (kk := fun hr75 => ?_)
          simp only [up_same, up_cell, up_slot, ne_eq, not_false_eq_true, Nat.reduceEqDiff, Int.reduceEq, reduceCtorEq, Nat.reduceAdd, Int.reduceAdd, Int.reduceSub] at hr75 ⊢
          refine g_iconst (M := mX11_house) (pc := 78) dX11_house_78 (k := ?_)
          refine g_iast (M := mX11_house) (pc := 79) (by rfl) (by omega) (by omega) (by omega) dX11_house_79 (kk := ?_)
          refine g_aload_n (M := mX11_house) (pc := 80) dX11_house_80 rfl (k := ?_)
          refine g_dupR (M := mX11_house) (pc := 81) dX11_house_81 (k := ?_)
          refine g_get (M := mX11_house) (pc := 82) (ji := 0) (by rfl) fX11_0 kX11_7 dX11_house_82 (kk := fun hr82 => ?_)
          simp only [up_same, up_cell, up_slot, ne_eq, not_false_eq_true, Nat.reduceEqDiff, Int.reduceEq, reduceCtorEq, Nat.reduceAdd, Int.reduceAdd, Int.reduceSub] at hr82 ⊢
          refine g_iconst (M := mX11_house) (pc := 85) dX11_house_85 (k := ?_)
          refine g_iadd (M := mX11_house) (pc := 86) dX11_house_86 (k := ?_)
          refine g_put (M := mX11_house) (pc := 87) (ji := 0) (by rfl) fX11_0 kX11_7 dX11_house_87 (by omega) (kk := ?_)
          refine g_aload_n (M := mX11_house) (pc := 90) dX11_house_90 rfl (k := ?_)
          refine g_get (M := mX11_house) (pc := 91) (ji := 0) (by rfl) fX11_0 kX11_7 dX11_house_91 (kk := fun hr91 => ?_)
          simp only [up_same, up_cell, up_slot, ne_eq, not_false_eq_true, Nat.reduceEqDiff, Int.reduceEq, reduceCtorEq, Nat.reduceAdd, Int.reduceAdd, Int.reduceSub] at hr91 ⊢
          refine g_iconst (M := mX11_house) (pc := 94) dX11_house_94 (k := ?_)
          refine g_isub (M := mX11_house) (pc := 95) dX11_house_95 (k := ?_)
          refine g_iret (M := mX11_house) (pc := 96) rfl dX11_house_96 rfl ⟨_, _, rfl, rfl, ?_⟩
          refine ⟨?_, ?_, ?_⟩
          · unfold houseJ; first | exact Or.inl ⟨by first | omega | (refine ⟨by omega, by omega, ?_⟩; assumption), by first | rfl | omega, by first | rfl | (rw [show n = 1 by omega]; done) | (rw [show n = 0 by omega]; done) | (rw [show z = 1 by omega]; done) | (rw [show z = 0 by omega]; done) | (unfold zwith; first | rw [if_pos (by omega)] | rw [if_neg (by omega)])⟩ | exact Or.inr (Or.inl ⟨by first | omega | (refine ⟨by omega, by omega, ?_⟩; assumption), by first | rfl | omega, by first | rfl | (rw [show n = 1 by omega]; done) | (rw [show n = 0 by omega]; done) | (rw [show z = 1 by omega]; done) | (rw [show z = 0 by omega]; done) | (unfold zwith; first | rw [if_pos (by omega)] | rw [if_neg (by omega)])⟩) | exact Or.inr (Or.inr (Or.inl ⟨by first | omega | (refine ⟨by omega, by omega, ?_⟩; assumption), by first | rfl | omega, by first | rfl | (rw [show n = 1 by omega]; done) | (rw [show n = 0 by omega]; done) | (rw [show z = 1 by omega]; done) | (rw [show z = 0 by omega]; done) | (unfold zwith; first | rw [if_pos (by omega)] | rw [if_neg (by omega)])⟩)) | exact Or.inr (Or.inr (Or.inr (⟨by first | omega | (refine ⟨by omega, by omega, ?_⟩; assumption), by first | rfl | omega, by first | rfl | (rw [show n = 1 by omega]; done) | (rw [show n = 0 by omega]; done) | (rw [show z = 1 by omega]; done) | (rw [show z = 0 by omega]; done) | (unfold zwith; first | rw [if_pos (by omega)] | rw [if_neg (by omega)])⟩)))
          · refine jvu69_0 ?_ (by omega) (by omega); refine jv_cell ?_ (by rfl); refine jvu72 ?_ (by omega) (by omega); refine jv_cell ?_ (by rfl); refine jv_cell ?_ (by rfl); refine jv_cell ?_ (by rfl); refine jv_cell ?_ (by rfl); refine jvu71 ?_ (by omega) (by omega); refine jvu70 ?_ (by omega) (by omega); exact hI
          · refine Fr.up ?_ (by first | rfl | (unfold jcMm; simp; try omega)); refine Fr.up ?_ (by first | rfl | (unfold jcMm; simp; try omega)); refine Fr.up ?_ (by first | rfl | (unfold jcMm; simp; try omega)); refine Fr.up ?_ (by first | rfl | (unfold jcMm; simp; try omega)); refine Fr.up ?_ (by first | rfl | (unfold jcMm; simp; try omega)); refine Fr.up ?_ (by first | rfl | (unfold jcMm; simp; try omega)); refine Fr.up ?_ (by first | rfl | (unfold jcMm; simp; try omega)); refine Fr.up ?_ (by first | rfl | (unfold jcMm; simp; try omega)); refine Fr.up ?_ (by first | rfl | (unfold jcMm; simp; try omega)); exact (Fr.rf)
        · skip
          refine g_bipush (M := mX11_house) (pc := 47) dX11_house_47 (k := ?_)
          refine g_iret (M := mX11_house) (pc := 49) rfl dX11_house_49 rfl ⟨_, _, rfl, rfl, ?_⟩
          refine ⟨?_, ?_, ?_⟩
          · unfold houseJ; first | exact Or.inl ⟨by first | omega | (refine ⟨by omega, by omega, ?_⟩; assumption), by first | rfl | omega, by first | rfl | (rw [show n = 1 by omega]; done) | (rw [show n = 0 by omega]; done) | (rw [show z = 1 by omega]; done) | (rw [show z = 0 by omega]; done) | (unfold zwith; first | rw [if_pos (by omega)] | rw [if_neg (by omega)])⟩ | exact Or.inr (Or.inl ⟨by first | omega | (refine ⟨by omega, by omega, ?_⟩; assumption), by first | rfl | omega, by first | rfl | (rw [show n = 1 by omega]; done) | (rw [show n = 0 by omega]; done) | (rw [show z = 1 by omega]; done) | (rw [show z = 0 by omega]; done) | (unfold zwith; first | rw [if_pos (by omega)] | rw [if_neg (by omega)])⟩) | exact Or.inr (Or.inr (Or.inl ⟨by first | omega | (refine ⟨by omega, by omega, ?_⟩; assumption), by first | rfl | omega, by first | rfl | (rw [show n = 1 by omega]; done) | (rw [show n = 0 by omega]; done) | (rw [show z = 1 by omega]; done) | (rw [show z = 0 by omega]; done) | (unfold zwith; first | rw [if_pos (by omega)] | rw [if_neg (by omega)])⟩)) | exact Or.inr (Or.inr (Or.inr (⟨by first | omega | (refine ⟨by omega, by omega, ?_⟩; assumption), by first | rfl | omega, by first | rfl | (rw [show n = 1 by omega]; done) | (rw [show n = 0 by omega]; done) | (rw [show z = 1 by omega]; done) | (rw [show z = 0 by omega]; done) | (unfold zwith; first | rw [if_pos (by omega)] | rw [if_neg (by omega)])⟩)))
          · exact hI
          · exact (Fr.rf)
      · skip
        refine g_bipush (M := mX11_house) (pc := 35) dX11_house_35 (k := ?_)
        refine g_iret (M := mX11_house) (pc := 37) rfl dX11_house_37 rfl ⟨_, _, rfl, rfl, ?_⟩
        refine ⟨?_, ?_, ?_⟩
        · unfold houseJ; first | exact Or.inl ⟨by first | omega | (refine ⟨by omega, by omega, ?_⟩; assumption), by first | rfl | omega, by first | rfl | (rw [show n = 1 by omega]; done) | (rw [show n = 0 by omega]; done) | (rw [show z = 1 by omega]; done) | (rw [show z = 0 by omega]; done) | (unfold zwith; first | rw [if_pos (by omega)] | rw [if_neg (by omega)])⟩ | exact Or.inr (Or.inl ⟨by first | omega | (refine ⟨by omega, by omega, ?_⟩; assumption), by first | rfl | omega, by first | rfl | (rw [show n = 1 by omega]; done) | (rw [show n = 0 by omega]; done) | (rw [show z = 1 by omega]; done) | (rw [show z = 0 by omega]; done) | (unfold zwith; first | rw [if_pos (by omega)] | rw [if_neg (by omega)])⟩) | exact Or.inr (Or.inr (Or.inl ⟨by first | omega | (refine ⟨by omega, by omega, ?_⟩; assumption), by first | rfl | omega, by first | rfl | (rw [show n = 1 by omega]; done) | (rw [show n = 0 by omega]; done) | (rw [show z = 1 by omega]; done) | (rw [show z = 0 by omega]; done) | (unfold zwith; first | rw [if_pos (by omega)] | rw [if_neg (by omega)])⟩)) | exact Or.inr (Or.inr (Or.inr (⟨by first | omega | (refine ⟨by omega, by omega, ?_⟩; assumption), by first | rfl | omega, by first | rfl | (rw [show n = 1 by omega]; done) | (rw [show n = 0 by omega]; done) | (rw [show z = 1 by omega]; done) | (rw [show z = 0 by omega]; done) | (unfold zwith; first | rw [if_pos (by omega)] | rw [if_neg (by omega)])⟩)))
        · exact hI
        · exact (Fr.rf)
  · skip
    refine g_iconst (M := mX11_house) (pc := 11) dX11_house_11 (k := ?_)
    refine g_iret (M := mX11_house) (pc := 12) rfl dX11_house_12 rfl ⟨_, _, rfl, rfl, ?_⟩
    refine ⟨?_, ?_, ?_⟩
    · unfold houseJ; first | exact Or.inl ⟨by first | omega | (refine ⟨by omega, by omega, ?_⟩; assumption), by first | rfl | omega, by first | rfl | (rw [show n = 1 by omega]; done) | (rw [show n = 0 by omega]; done) | (rw [show z = 1 by omega]; done) | (rw [show z = 0 by omega]; done) | (unfold zwith; first | rw [if_pos (by omega)] | rw [if_neg (by omega)])⟩ | exact Or.inr (Or.inl ⟨by first | omega | (refine ⟨by omega, by omega, ?_⟩; assumption), by first | rfl | omega, by first | rfl | (rw [show n = 1 by omega]; done) | (rw [show n = 0 by omega]; done) | (rw [show z = 1 by omega]; done) | (rw [show z = 0 by omega]; done) | (unfold zwith; first | rw [if_pos (by omega)] | rw [if_neg (by omega)])⟩) | exact Or.inr (Or.inr (Or.inl ⟨by first | omega | (refine ⟨by omega, by omega, ?_⟩; assumption), by first | rfl | omega, by first | rfl | (rw [show n = 1 by omega]; done) | (rw [show n = 0 by omega]; done) | (rw [show z = 1 by omega]; done) | (rw [show z = 0 by omega]; done) | (unfold zwith; first | rw [if_pos (by omega)] | rw [if_neg (by omega)])⟩)) | exact Or.inr (Or.inr (Or.inr (⟨by first | omega | (refine ⟨by omega, by omega, ?_⟩; assumption), by first | rfl | omega, by first | rfl | (rw [show n = 1 by omega]; done) | (rw [show n = 0 by omega]; done) | (rw [show z = 1 by omega]; done) | (rw [show z = 0 by omega]; done) | (unfold zwith; first | rw [if_pos (by omega)] | rw [if_neg (by omega)])⟩)))
    · exact hI
    · exact (Fr.rf)
set_option maxHeartbeats 4000000 in
set_option maxRecDepth 20000 in
theorem c_X11_folk (Γ : KT) (t : Nat) (σ : Nat → Int → Int) (s : Int) (k : Int) (q : Int) (hI : InvJ σ) (hS : JS σ) (hs : R32 s) (hk : R32 k) (hq : R32 q) : Ct Γ mX11_folk 3 (0, 0) [vR Γ 69, vI s, vI k, vI q] (113, ρT t, σ) (pI 113 (ρT t) (fun r σ' => (JS σ') ∧ (folkJ σ s k q r σ') ∧ (InvJ σ') ∧ (Fr jcMf σ σ'))) := by
  refine Ct.of rfl (Nat.le_of_ble_eq_true rfl) ?_
  show G Γ mX11_folk 3 (0, 0) _ (0, 0) 0 [some (vR Γ 69), some (vI s), some (vI k), some (vI q)] [] (113, ρT t, σ)
  refine g_aload_n (M := mX11_folk) (pc := 0) dX11_folk_0 rfl (k := ?_)
  refine g_iload_n (M := mX11_folk) (pc := 1) dX11_folk_1 rfl (k := ?_)
  refine g_cV1I (M := mX11_folk) (pc := 2) (c_X11_isHouse Γ t _ _ hI (by omega)) qX11_isHouse vX11_isHouse sX11_isHouse kX11_232 dX11_folk_2 (kk := ?_)
  rintro _ _ ⟨e1, e⟩; rw [e1, e]; clear e1 e
  have hb2_69 := jv69_0 hI 0 (by omega) (by omega)
  refine g_if_neB (M := mX11_folk) (pc := 5) (tgt := 10) dX11_folk_5 (k1 := fun h5 => ?_) (k2 := fun h5 => ?_)
  · skip
    refine g_aload_n (M := mX11_folk) (pc := 10) dX11_folk_10 rfl (k := ?_)
    refine g_iload_n (M := mX11_folk) (pc := 11) dX11_folk_11 rfl (k := ?_)
    refine g_iconst (M := mX11_folk) (pc := 12) dX11_folk_12 (k := ?_)
    refine g_bipush (M := mX11_folk) (pc := 13) dX11_folk_13 (k := ?_)
    refine g_cV3I (M := mX11_folk) (pc := 15) (c_X11_in Γ t _ _ _ _ (by omega) (by omega) (by omega)) qX11_in vX11_in sX11_in kX11_224 dX11_folk_15 (kk := ?_)
    rintro _ _ ⟨e1, e⟩; rw [e1, e]; clear e1 e
    refine g_if_eqB (M := mX11_folk) (pc := 18) (tgt := 32) dX11_folk_18 (k1 := fun h18 => ?_) (k2 := fun h18 => ?_)
    · skip
      refine g_bipush (M := mX11_folk) (pc := 32) dX11_folk_32 (k := ?_)
      refine g_iret (M := mX11_folk) (pc := 34) rfl dX11_folk_34 rfl ⟨_, _, rfl, rfl, ?_⟩
      refine ⟨?_, ?_, ?_, ?_⟩
      · first | exact hS | exact JS_folk hS (by omega) (by omega)
      · unfold folkJ; first | exact Or.inl ⟨by first | omega | (refine ⟨by omega, by omega, ?_⟩; assumption), by first | rfl | omega, by first | rfl | (rw [show n = 1 by omega]; done) | (rw [show n = 0 by omega]; done) | (rw [show z = 1 by omega]; done) | (rw [show z = 0 by omega]; done) | (unfold zwith; first | rw [if_pos (by omega)] | rw [if_neg (by omega)])⟩ | exact Or.inr (Or.inl ⟨by first | omega | (refine ⟨by omega, by omega, ?_⟩; assumption), by first | rfl | omega, by first | rfl | (rw [show n = 1 by omega]; done) | (rw [show n = 0 by omega]; done) | (rw [show z = 1 by omega]; done) | (rw [show z = 0 by omega]; done) | (unfold zwith; first | rw [if_pos (by omega)] | rw [if_neg (by omega)])⟩) | exact Or.inr (Or.inr (Or.inl ⟨by first | omega | (refine ⟨by omega, by omega, ?_⟩; assumption), by first | rfl | omega, by first | rfl | (rw [show n = 1 by omega]; done) | (rw [show n = 0 by omega]; done) | (rw [show z = 1 by omega]; done) | (rw [show z = 0 by omega]; done) | (unfold zwith; first | rw [if_pos (by omega)] | rw [if_neg (by omega)])⟩)) | exact Or.inr (Or.inr (Or.inr (⟨by first | omega | (refine ⟨by omega, by omega, ?_⟩; assumption), by first | rfl | omega, by first | rfl | (rw [show n = 1 by omega]; done) | (rw [show n = 0 by omega]; done) | (rw [show z = 1 by omega]; done) | (rw [show z = 0 by omega]; done) | (unfold zwith; first | rw [if_pos (by omega)] | rw [if_neg (by omega)])⟩)))
      · exact hI
      · exact (Fr.rf)
    · skip
      refine g_aload_n (M := mX11_folk) (pc := 21) dX11_folk_21 rfl (k := ?_)
      refine g_iload_n (M := mX11_folk) (pc := 22) dX11_folk_22 rfl (k := ?_)
      refine g_iconst (M := mX11_folk) (pc := 23) dX11_folk_23 (k := ?_)
      refine g_bipush (M := mX11_folk) (pc := 24) dX11_folk_24 (k := ?_)
      refine g_cV3I (M := mX11_folk) (pc := 26) (c_X11_in Γ t _ _ _ _ (by omega) (by omega) (by omega)) qX11_in vX11_in sX11_in kX11_224 dX11_folk_26 (kk := ?_)
      rintro _ _ ⟨e1, e⟩; rw [e1, e]; clear e1 e
      refine g_if_neB (M := mX11_folk) (pc := 29) (tgt := 35) dX11_folk_29 (k1 := fun h29 => ?_) (k2 := fun h29 => ?_)
      · skip
        refine g_aload_n (M := mX11_folk) (pc := 35) dX11_folk_35 rfl (k := ?_)
        refine g_get (M := mX11_folk) (pc := 36) (ji := 1) (by rfl) fX11_1 kX11_13 dX11_folk_36 (kk := fun hr36 => ?_)
        have hb36 := jv69_1 hI 1 (by omega) (by omega)
        refine g_iconst (M := mX11_folk) (pc := 39) dX11_folk_39 (k := ?_)
        refine g_icmp_ne (M := mX11_folk) (pc := 40) (tgt := 46) (by omega) (by omega) dX11_folk_40 (k1 := fun h40 => ?_) (k2 := fun h40 => ?_)
        · skip
          refine g_aload_n (M := mX11_folk) (pc := 46) dX11_folk_46 rfl (k := ?_)
          refine g_getr (M := mX11_folk) (pc := 47) (by rfl) fX11_7 kX11_32 dX11_folk_47 (by rfl) (kk := ?_)
          refine g_aload_n (M := mX11_folk) (pc := 50) dX11_folk_50 rfl (k := ?_)
          refine g_get (M := mX11_folk) (pc := 51) (ji := 1) (by rfl) fX11_1 kX11_13 dX11_folk_51 (kk := fun hr51 => ?_)
          refine g_iload_n (M := mX11_folk) (pc := 54) dX11_folk_54 rfl (k := ?_)
          refine g_iast (M := mX11_folk) (pc := 55) (by rfl) (by omega) (by omega) (by omega) dX11_folk_55 (kk := ?_)
          refine g_aload_n (M := mX11_folk) (pc := 56) dX11_folk_56 rfl (k := ?_)
          refine g_getr (M := mX11_folk) (pc := 57) (by rfl) fX11_8 kX11_35 dX11_folk_57 (by rfl) (kk := ?_)
          refine g_aload_n (M := mX11_folk) (pc := 60) dX11_folk_60 rfl (k := ?_)
          refine g_get (M := mX11_folk) (pc := 61) (ji := 1) (by rfl) fX11_1 kX11_13 dX11_folk_61 (kk := fun hr61 => ?_)
          simp only [up_same, up_cell, up_slot, ne_eq, not_false_eq_true, Nat.reduceEqDiff, Int.reduceEq, reduceCtorEq, Nat.reduceAdd, Int.reduceAdd, Int.reduceSub] at hr61 ⊢
          refine g_iload_n (M := mX11_folk) (pc := 64) dX11_folk_64 rfl (k := ?_)
          refine g_iast (M := mX11_folk) (pc := 65) (by rfl) (by omega) (by omega) (by omega) dX11_folk_65 (kk := ?_)
          refine g_aload_n (M := mX11_folk) (pc := 66) dX11_folk_66 rfl (k := ?_)
          refine g_getr (M := mX11_folk) (pc := 67) (by rfl) fX11_9 kX11_38 dX11_folk_67 (by rfl) (kk := ?_)
          refine g_aload_n (M := mX11_folk) (pc := 70) dX11_folk_70 rfl (k := ?_)
          refine g_get (M := mX11_folk) (pc := 71) (ji := 1) (by rfl) fX11_1 kX11_13 dX11_folk_71 (kk := fun hr71 => ?_)
          simp only [up_same, up_cell, up_slot, ne_eq, not_false_eq_true, Nat.reduceEqDiff, Int.reduceEq, reduceCtorEq, Nat.reduceAdd, Int.reduceAdd, Int.reduceSub] at hr71 ⊢
          refine g_iload_n (M := mX11_folk) (pc := 74) dX11_folk_74 rfl (k := ?_)
          refine g_iast (M := mX11_folk) (pc := 75) (by rfl) (by omega) (by omega) (by omega) dX11_folk_75 (kk := ?_)
          refine g_aload_n (M := mX11_folk) (pc := 76) dX11_folk_76 rfl (k := ?_)
          refine g_dupR (M := mX11_folk) (pc := 77) dX11_folk_77 (k := ?_)
          refine g_get (M := mX11_folk) (pc := 78) (ji := 1) (by rfl) fX11_1 kX11_13 dX11_folk_78 (kk := fun hr78 => ?_)
          simp only [up_same, up_cell, up_slot, ne_eq, not_false_eq_true, Nat.reduceEqDiff, Int.reduceEq, reduceCtorEq, Nat.reduceAdd, Int.reduceAdd, Int.reduceSub] at hr78 ⊢
          refine g_iconst (M := mX11_folk) (pc := 81) dX11_folk_81 (k := ?_)
          refine g_iadd (M := mX11_folk) (pc := 82) dX11_folk_82 (k := ?_)
          refine g_put (M := mX11_folk) (pc := 83) (ji := 1) (by rfl) fX11_1 kX11_13 dX11_folk_83 (by omega) (kk := ?_)
          refine g_aload_n (M := mX11_folk) (pc := 86) dX11_folk_86 rfl (k := ?_)
          refine g_get (M := mX11_folk) (pc := 87) (ji := 1) (by rfl) fX11_1 kX11_13 dX11_folk_87 (kk := fun hr87 => ?_)
          simp only [up_same, up_cell, up_slot, ne_eq, not_false_eq_true, Nat.reduceEqDiff, Int.reduceEq, reduceCtorEq, Nat.reduceAdd, Int.reduceAdd, Int.reduceSub] at hr87 ⊢
          refine g_iconst (M := mX11_folk) (pc := 90) dX11_folk_90 (k := ?_)
          refine g_isub (M := mX11_folk) (pc := 91) dX11_folk_91 (k := ?_)
          refine g_iret (M := mX11_folk) (pc := 92) rfl dX11_folk_92 rfl ⟨_, _, rfl, rfl, ?_⟩
          refine ⟨?_, ?_, ?_, ?_⟩
          · first | exact hS | exact JS_folk hS (by omega) (by omega)
          · unfold folkJ; first | exact Or.inl ⟨by first | omega | (refine ⟨by omega, by omega, ?_⟩; assumption), by first | rfl | omega, by first | rfl | (rw [show n = 1 by omega]; done) | (rw [show n = 0 by omega]; done) | (rw [show z = 1 by omega]; done) | (rw [show z = 0 by omega]; done) | (unfold zwith; first | rw [if_pos (by omega)] | rw [if_neg (by omega)])⟩ | exact Or.inr (Or.inl ⟨by first | omega | (refine ⟨by omega, by omega, ?_⟩; assumption), by first | rfl | omega, by first | rfl | (rw [show n = 1 by omega]; done) | (rw [show n = 0 by omega]; done) | (rw [show z = 1 by omega]; done) | (rw [show z = 0 by omega]; done) | (unfold zwith; first | rw [if_pos (by omega)] | rw [if_neg (by omega)])⟩) | exact Or.inr (Or.inr (Or.inl ⟨by first | omega | (refine ⟨by omega, by omega, ?_⟩; assumption), by first | rfl | omega, by first | rfl | (rw [show n = 1 by omega]; done) | (rw [show n = 0 by omega]; done) | (rw [show z = 1 by omega]; done) | (rw [show z = 0 by omega]; done) | (unfold zwith; first | rw [if_pos (by omega)] | rw [if_neg (by omega)])⟩)) | exact Or.inr (Or.inr (Or.inr (⟨by first | omega | (refine ⟨by omega, by omega, ?_⟩; assumption), by first | rfl | omega, by first | rfl | (rw [show n = 1 by omega]; done) | (rw [show n = 0 by omega]; done) | (rw [show z = 1 by omega]; done) | (rw [show z = 0 by omega]; done) | (unfold zwith; first | rw [if_pos (by omega)] | rw [if_neg (by omega)])⟩)))
          · refine jvu69_1 ?_ (by omega) (by omega); refine jvu77 ?_ (by omega) (by omega); refine jvu76 ?_ (by omega) (by omega); refine jvu75 ?_ (by omega) (by omega); exact hI
          · refine Fr.up ?_ (by first | rfl | (unfold jcMf; simp; try omega)); refine Fr.up ?_ (by first | rfl | (unfold jcMf; simp; try omega)); refine Fr.up ?_ (by first | rfl | (unfold jcMf; simp; try omega)); refine Fr.up ?_ (by first | rfl | (unfold jcMf; simp; try omega)); exact (Fr.rf)
        · skip
          refine g_bipush (M := mX11_folk) (pc := 43) dX11_folk_43 (k := ?_)
          refine g_iret (M := mX11_folk) (pc := 45) rfl dX11_folk_45 rfl ⟨_, _, rfl, rfl, ?_⟩
          refine ⟨?_, ?_, ?_, ?_⟩
          · first | exact hS | exact JS_folk hS (by omega) (by omega)
          · unfold folkJ; first | exact Or.inl ⟨by first | omega | (refine ⟨by omega, by omega, ?_⟩; assumption), by first | rfl | omega, by first | rfl | (rw [show n = 1 by omega]; done) | (rw [show n = 0 by omega]; done) | (rw [show z = 1 by omega]; done) | (rw [show z = 0 by omega]; done) | (unfold zwith; first | rw [if_pos (by omega)] | rw [if_neg (by omega)])⟩ | exact Or.inr (Or.inl ⟨by first | omega | (refine ⟨by omega, by omega, ?_⟩; assumption), by first | rfl | omega, by first | rfl | (rw [show n = 1 by omega]; done) | (rw [show n = 0 by omega]; done) | (rw [show z = 1 by omega]; done) | (rw [show z = 0 by omega]; done) | (unfold zwith; first | rw [if_pos (by omega)] | rw [if_neg (by omega)])⟩) | exact Or.inr (Or.inr (Or.inl ⟨by first | omega | (refine ⟨by omega, by omega, ?_⟩; assumption), by first | rfl | omega, by first | rfl | (rw [show n = 1 by omega]; done) | (rw [show n = 0 by omega]; done) | (rw [show z = 1 by omega]; done) | (rw [show z = 0 by omega]; done) | (unfold zwith; first | rw [if_pos (by omega)] | rw [if_neg (by omega)])⟩)) | exact Or.inr (Or.inr (Or.inr (⟨by first | omega | (refine ⟨by omega, by omega, ?_⟩; assumption), by first | rfl | omega, by first | rfl | (rw [show n = 1 by omega]; done) | (rw [show n = 0 by omega]; done) | (rw [show z = 1 by omega]; done) | (rw [show z = 0 by omega]; done) | (unfold zwith; first | rw [if_pos (by omega)] | rw [if_neg (by omega)])⟩)))
          · exact hI
          · exact (Fr.rf)
      · skip
        refine g_bipush (M := mX11_folk) (pc := 32) dX11_folk_32 (k := ?_)
        refine g_iret (M := mX11_folk) (pc := 34) rfl dX11_folk_34 rfl ⟨_, _, rfl, rfl, ?_⟩
        refine ⟨?_, ?_, ?_, ?_⟩
        · first | exact hS | exact JS_folk hS (by omega) (by omega)
        · unfold folkJ; first | exact Or.inl ⟨by first | omega | (refine ⟨by omega, by omega, ?_⟩; assumption), by first | rfl | omega, by first | rfl | (rw [show n = 1 by omega]; done) | (rw [show n = 0 by omega]; done) | (rw [show z = 1 by omega]; done) | (rw [show z = 0 by omega]; done) | (unfold zwith; first | rw [if_pos (by omega)] | rw [if_neg (by omega)])⟩ | exact Or.inr (Or.inl ⟨by first | omega | (refine ⟨by omega, by omega, ?_⟩; assumption), by first | rfl | omega, by first | rfl | (rw [show n = 1 by omega]; done) | (rw [show n = 0 by omega]; done) | (rw [show z = 1 by omega]; done) | (rw [show z = 0 by omega]; done) | (unfold zwith; first | rw [if_pos (by omega)] | rw [if_neg (by omega)])⟩) | exact Or.inr (Or.inr (Or.inl ⟨by first | omega | (refine ⟨by omega, by omega, ?_⟩; assumption), by first | rfl | omega, by first | rfl | (rw [show n = 1 by omega]; done) | (rw [show n = 0 by omega]; done) | (rw [show z = 1 by omega]; done) | (rw [show z = 0 by omega]; done) | (unfold zwith; first | rw [if_pos (by omega)] | rw [if_neg (by omega)])⟩)) | exact Or.inr (Or.inr (Or.inr (⟨by first | omega | (refine ⟨by omega, by omega, ?_⟩; assumption), by first | rfl | omega, by first | rfl | (rw [show n = 1 by omega]; done) | (rw [show n = 0 by omega]; done) | (rw [show z = 1 by omega]; done) | (rw [show z = 0 by omega]; done) | (unfold zwith; first | rw [if_pos (by omega)] | rw [if_neg (by omega)])⟩)))
        · exact hI
        · exact (Fr.rf)
  · skip
    refine g_iconst (M := mX11_folk) (pc := 8) dX11_folk_8 (k := ?_)
    refine g_iret (M := mX11_folk) (pc := 9) rfl dX11_folk_9 rfl ⟨_, _, rfl, rfl, ?_⟩
    refine ⟨?_, ?_, ?_, ?_⟩
    · first | exact hS | exact JS_folk hS (by omega) (by omega)
    · unfold folkJ; first | exact Or.inl ⟨by first | omega | (refine ⟨by omega, by omega, ?_⟩; assumption), by first | rfl | omega, by first | rfl | (rw [show n = 1 by omega]; done) | (rw [show n = 0 by omega]; done) | (rw [show z = 1 by omega]; done) | (rw [show z = 0 by omega]; done) | (unfold zwith; first | rw [if_pos (by omega)] | rw [if_neg (by omega)])⟩ | exact Or.inr (Or.inl ⟨by first | omega | (refine ⟨by omega, by omega, ?_⟩; assumption), by first | rfl | omega, by first | rfl | (rw [show n = 1 by omega]; done) | (rw [show n = 0 by omega]; done) | (rw [show z = 1 by omega]; done) | (rw [show z = 0 by omega]; done) | (unfold zwith; first | rw [if_pos (by omega)] | rw [if_neg (by omega)])⟩) | exact Or.inr (Or.inr (Or.inl ⟨by first | omega | (refine ⟨by omega, by omega, ?_⟩; assumption), by first | rfl | omega, by first | rfl | (rw [show n = 1 by omega]; done) | (rw [show n = 0 by omega]; done) | (rw [show z = 1 by omega]; done) | (rw [show z = 0 by omega]; done) | (unfold zwith; first | rw [if_pos (by omega)] | rw [if_neg (by omega)])⟩)) | exact Or.inr (Or.inr (Or.inr (⟨by first | omega | (refine ⟨by omega, by omega, ?_⟩; assumption), by first | rfl | omega, by first | rfl | (rw [show n = 1 by omega]; done) | (rw [show n = 0 by omega]; done) | (rw [show z = 1 by omega]; done) | (rw [show z = 0 by omega]; done) | (unfold zwith; first | rw [if_pos (by omega)] | rw [if_neg (by omega)])⟩)))
    · exact hI
    · exact (Fr.rf)
set_option maxHeartbeats 4000000 in
set_option maxRecDepth 20000 in
theorem c_X11_who (Γ : KT) (t : Nat) (σ : Nat → Int → Int) (f : Int) (w : Int) (hI : InvJ σ) (hf : R32 f) (hw : R32 w) : Ct Γ mX11_who 3 (0, 0) [vR Γ 69, vI f, vI w] (113, ρT t, σ) (pI 113 (ρT t) (fun r σ' => (whoJ σ f w r σ) ∧ σ' = σ)) := by
  refine Ct.of rfl (Nat.le_of_ble_eq_true rfl) ?_
  show G Γ mX11_who 3 (0, 0) _ (0, 0) 0 [some (vR Γ 69), some (vI f), some (vI w)] [] (113, ρT t, σ)
  refine g_aload_n (M := mX11_who) (pc := 0) dX11_who_0 rfl (k := ?_)
  refine g_iload_n (M := mX11_who) (pc := 1) dX11_who_1 rfl (k := ?_)
  refine g_cV1I (M := mX11_who) (pc := 2) (c_X11_isFolk Γ t _ _ hI (by omega)) qX11_isFolk vX11_isFolk sX11_isFolk kX11_236 dX11_who_2 (kk := ?_)
  rintro _ _ ⟨e1, e⟩; rw [e1, e]; clear e1 e
  have hb2_69 := jv69_1 hI 1 (by omega) (by omega)
  refine g_if_neB (M := mX11_who) (pc := 5) (tgt := 10) dX11_who_5 (k1 := fun h5 => ?_) (k2 := fun h5 => ?_)
  · skip
    refine g_iload_n (M := mX11_who) (pc := 10) dX11_who_10 rfl (k := ?_)
    refine g_if_ne (M := mX11_who) (pc := 11) (tgt := 23) (by omega) dX11_who_11 (k1 := fun h11 => ?_) (k2 := fun h11 => ?_)
    · skip
      refine g_iload_n (M := mX11_who) (pc := 23) dX11_who_23 rfl (k := ?_)
      refine g_iconst (M := mX11_who) (pc := 24) dX11_who_24 (k := ?_)
      refine g_icmp_ne (M := mX11_who) (pc := 25) (tgt := 37) (by omega) (by omega) dX11_who_25 (k1 := fun h25 => ?_) (k2 := fun h25 => ?_)
      · skip
        refine g_iload_n (M := mX11_who) (pc := 37) dX11_who_37 rfl (k := ?_)
        refine g_iconst (M := mX11_who) (pc := 38) dX11_who_38 (k := ?_)
        refine g_icmp_ne (M := mX11_who) (pc := 39) (tgt := 51) (by omega) (by omega) dX11_who_39 (k1 := fun h39 => ?_) (k2 := fun h39 => ?_)
        · skip
          refine g_iconst (M := mX11_who) (pc := 51) dX11_who_51 (k := ?_)
          refine g_iret (M := mX11_who) (pc := 52) rfl dX11_who_52 rfl ⟨_, _, rfl, rfl, ?_⟩
          refine ⟨?_, rfl⟩
          · unfold whoJ; first | exact Or.inl ⟨by first | omega | (refine ⟨by omega, by omega, ?_⟩; assumption), by first | rfl | omega, by first | rfl | (rw [show n = 1 by omega]; done) | (rw [show n = 0 by omega]; done) | (rw [show z = 1 by omega]; done) | (rw [show z = 0 by omega]; done) | (unfold zwith; first | rw [if_pos (by omega)] | rw [if_neg (by omega)])⟩ | exact Or.inr (Or.inl ⟨by first | omega | (refine ⟨by omega, by omega, ?_⟩; assumption), by first | rfl | omega, by first | rfl | (rw [show n = 1 by omega]; done) | (rw [show n = 0 by omega]; done) | (rw [show z = 1 by omega]; done) | (rw [show z = 0 by omega]; done) | (unfold zwith; first | rw [if_pos (by omega)] | rw [if_neg (by omega)])⟩) | exact Or.inr (Or.inr (Or.inl ⟨by first | omega | (refine ⟨by omega, by omega, ?_⟩; assumption), by first | rfl | omega, by first | rfl | (rw [show n = 1 by omega]; done) | (rw [show n = 0 by omega]; done) | (rw [show z = 1 by omega]; done) | (rw [show z = 0 by omega]; done) | (unfold zwith; first | rw [if_pos (by omega)] | rw [if_neg (by omega)])⟩)) | exact Or.inr (Or.inr (Or.inr (Or.inl ⟨by first | omega | (refine ⟨by omega, by omega, ?_⟩; assumption), by first | rfl | omega, by first | rfl | (rw [show n = 1 by omega]; done) | (rw [show n = 0 by omega]; done) | (rw [show z = 1 by omega]; done) | (rw [show z = 0 by omega]; done) | (unfold zwith; first | rw [if_pos (by omega)] | rw [if_neg (by omega)])⟩))) | exact Or.inr (Or.inr (Or.inr (Or.inr (⟨by first | omega | (refine ⟨by omega, by omega, ?_⟩; assumption), by first | rfl | omega, by first | rfl | (rw [show n = 1 by omega]; done) | (rw [show n = 0 by omega]; done) | (rw [show z = 1 by omega]; done) | (rw [show z = 0 by omega]; done) | (unfold zwith; first | rw [if_pos (by omega)] | rw [if_neg (by omega)])⟩))))
        · skip
          refine g_aload_n (M := mX11_who) (pc := 42) dX11_who_42 rfl (k := ?_)
          refine g_getr (M := mX11_who) (pc := 43) (by rfl) fX11_9 kX11_38 dX11_who_43 (by rfl) (kk := ?_)
          refine g_iload_n (M := mX11_who) (pc := 46) dX11_who_46 rfl (k := ?_)
          refine g_iald (M := mX11_who) (pc := 47) (by rfl) (by omega) (by omega) dX11_who_47 (kk := fun hr47 => ?_)
          have hb47 := jv77_0 hI f (by omega) (by omega)
          refine g_goto (M := mX11_who) (pc := 48) (tgt := 52) dX11_who_48 (k := ?_)
          refine g_iret (M := mX11_who) (pc := 52) rfl dX11_who_52 rfl ⟨_, _, rfl, rfl, ?_⟩
          refine ⟨?_, rfl⟩
          · unfold whoJ; first | exact Or.inl ⟨by first | omega | (refine ⟨by omega, by omega, ?_⟩; assumption), by first | rfl | omega, by first | rfl | (rw [show n = 1 by omega]; done) | (rw [show n = 0 by omega]; done) | (rw [show z = 1 by omega]; done) | (rw [show z = 0 by omega]; done) | (unfold zwith; first | rw [if_pos (by omega)] | rw [if_neg (by omega)])⟩ | exact Or.inr (Or.inl ⟨by first | omega | (refine ⟨by omega, by omega, ?_⟩; assumption), by first | rfl | omega, by first | rfl | (rw [show n = 1 by omega]; done) | (rw [show n = 0 by omega]; done) | (rw [show z = 1 by omega]; done) | (rw [show z = 0 by omega]; done) | (unfold zwith; first | rw [if_pos (by omega)] | rw [if_neg (by omega)])⟩) | exact Or.inr (Or.inr (Or.inl ⟨by first | omega | (refine ⟨by omega, by omega, ?_⟩; assumption), by first | rfl | omega, by first | rfl | (rw [show n = 1 by omega]; done) | (rw [show n = 0 by omega]; done) | (rw [show z = 1 by omega]; done) | (rw [show z = 0 by omega]; done) | (unfold zwith; first | rw [if_pos (by omega)] | rw [if_neg (by omega)])⟩)) | exact Or.inr (Or.inr (Or.inr (Or.inl ⟨by first | omega | (refine ⟨by omega, by omega, ?_⟩; assumption), by first | rfl | omega, by first | rfl | (rw [show n = 1 by omega]; done) | (rw [show n = 0 by omega]; done) | (rw [show z = 1 by omega]; done) | (rw [show z = 0 by omega]; done) | (unfold zwith; first | rw [if_pos (by omega)] | rw [if_neg (by omega)])⟩))) | exact Or.inr (Or.inr (Or.inr (Or.inr (⟨by first | omega | (refine ⟨by omega, by omega, ?_⟩; assumption), by first | rfl | omega, by first | rfl | (rw [show n = 1 by omega]; done) | (rw [show n = 0 by omega]; done) | (rw [show z = 1 by omega]; done) | (rw [show z = 0 by omega]; done) | (unfold zwith; first | rw [if_pos (by omega)] | rw [if_neg (by omega)])⟩))))
      · skip
        refine g_aload_n (M := mX11_who) (pc := 28) dX11_who_28 rfl (k := ?_)
        refine g_getr (M := mX11_who) (pc := 29) (by rfl) fX11_8 kX11_35 dX11_who_29 (by rfl) (kk := ?_)
        refine g_iload_n (M := mX11_who) (pc := 32) dX11_who_32 rfl (k := ?_)
        refine g_iald (M := mX11_who) (pc := 33) (by rfl) (by omega) (by omega) dX11_who_33 (kk := fun hr33 => ?_)
        have hb33 := jv76_0 hI f (by omega) (by omega)
        refine g_goto (M := mX11_who) (pc := 34) (tgt := 52) dX11_who_34 (k := ?_)
        refine g_iret (M := mX11_who) (pc := 52) rfl dX11_who_52 rfl ⟨_, _, rfl, rfl, ?_⟩
        refine ⟨?_, rfl⟩
        · unfold whoJ; first | exact Or.inl ⟨by first | omega | (refine ⟨by omega, by omega, ?_⟩; assumption), by first | rfl | omega, by first | rfl | (rw [show n = 1 by omega]; done) | (rw [show n = 0 by omega]; done) | (rw [show z = 1 by omega]; done) | (rw [show z = 0 by omega]; done) | (unfold zwith; first | rw [if_pos (by omega)] | rw [if_neg (by omega)])⟩ | exact Or.inr (Or.inl ⟨by first | omega | (refine ⟨by omega, by omega, ?_⟩; assumption), by first | rfl | omega, by first | rfl | (rw [show n = 1 by omega]; done) | (rw [show n = 0 by omega]; done) | (rw [show z = 1 by omega]; done) | (rw [show z = 0 by omega]; done) | (unfold zwith; first | rw [if_pos (by omega)] | rw [if_neg (by omega)])⟩) | exact Or.inr (Or.inr (Or.inl ⟨by first | omega | (refine ⟨by omega, by omega, ?_⟩; assumption), by first | rfl | omega, by first | rfl | (rw [show n = 1 by omega]; done) | (rw [show n = 0 by omega]; done) | (rw [show z = 1 by omega]; done) | (rw [show z = 0 by omega]; done) | (unfold zwith; first | rw [if_pos (by omega)] | rw [if_neg (by omega)])⟩)) | exact Or.inr (Or.inr (Or.inr (Or.inl ⟨by first | omega | (refine ⟨by omega, by omega, ?_⟩; assumption), by first | rfl | omega, by first | rfl | (rw [show n = 1 by omega]; done) | (rw [show n = 0 by omega]; done) | (rw [show z = 1 by omega]; done) | (rw [show z = 0 by omega]; done) | (unfold zwith; first | rw [if_pos (by omega)] | rw [if_neg (by omega)])⟩))) | exact Or.inr (Or.inr (Or.inr (Or.inr (⟨by first | omega | (refine ⟨by omega, by omega, ?_⟩; assumption), by first | rfl | omega, by first | rfl | (rw [show n = 1 by omega]; done) | (rw [show n = 0 by omega]; done) | (rw [show z = 1 by omega]; done) | (rw [show z = 0 by omega]; done) | (unfold zwith; first | rw [if_pos (by omega)] | rw [if_neg (by omega)])⟩))))
    · skip
      refine g_aload_n (M := mX11_who) (pc := 14) dX11_who_14 rfl (k := ?_)
      refine g_getr (M := mX11_who) (pc := 15) (by rfl) fX11_7 kX11_32 dX11_who_15 (by rfl) (kk := ?_)
      refine g_iload_n (M := mX11_who) (pc := 18) dX11_who_18 rfl (k := ?_)
      refine g_iald (M := mX11_who) (pc := 19) (by rfl) (by omega) (by omega) dX11_who_19 (kk := fun hr19 => ?_)
      have hb19 := jv75_0 hI f (by omega) (by omega)
      refine g_goto (M := mX11_who) (pc := 20) (tgt := 52) dX11_who_20 (k := ?_)
      refine g_iret (M := mX11_who) (pc := 52) rfl dX11_who_52 rfl ⟨_, _, rfl, rfl, ?_⟩
      refine ⟨?_, rfl⟩
      · unfold whoJ; first | exact Or.inl ⟨by first | omega | (refine ⟨by omega, by omega, ?_⟩; assumption), by first | rfl | omega, by first | rfl | (rw [show n = 1 by omega]; done) | (rw [show n = 0 by omega]; done) | (rw [show z = 1 by omega]; done) | (rw [show z = 0 by omega]; done) | (unfold zwith; first | rw [if_pos (by omega)] | rw [if_neg (by omega)])⟩ | exact Or.inr (Or.inl ⟨by first | omega | (refine ⟨by omega, by omega, ?_⟩; assumption), by first | rfl | omega, by first | rfl | (rw [show n = 1 by omega]; done) | (rw [show n = 0 by omega]; done) | (rw [show z = 1 by omega]; done) | (rw [show z = 0 by omega]; done) | (unfold zwith; first | rw [if_pos (by omega)] | rw [if_neg (by omega)])⟩) | exact Or.inr (Or.inr (Or.inl ⟨by first | omega | (refine ⟨by omega, by omega, ?_⟩; assumption), by first | rfl | omega, by first | rfl | (rw [show n = 1 by omega]; done) | (rw [show n = 0 by omega]; done) | (rw [show z = 1 by omega]; done) | (rw [show z = 0 by omega]; done) | (unfold zwith; first | rw [if_pos (by omega)] | rw [if_neg (by omega)])⟩)) | exact Or.inr (Or.inr (Or.inr (Or.inl ⟨by first | omega | (refine ⟨by omega, by omega, ?_⟩; assumption), by first | rfl | omega, by first | rfl | (rw [show n = 1 by omega]; done) | (rw [show n = 0 by omega]; done) | (rw [show z = 1 by omega]; done) | (rw [show z = 0 by omega]; done) | (unfold zwith; first | rw [if_pos (by omega)] | rw [if_neg (by omega)])⟩))) | exact Or.inr (Or.inr (Or.inr (Or.inr (⟨by first | omega | (refine ⟨by omega, by omega, ?_⟩; assumption), by first | rfl | omega, by first | rfl | (rw [show n = 1 by omega]; done) | (rw [show n = 0 by omega]; done) | (rw [show z = 1 by omega]; done) | (rw [show z = 0 by omega]; done) | (unfold zwith; first | rw [if_pos (by omega)] | rw [if_neg (by omega)])⟩))))
  · skip
    refine g_iconst (M := mX11_who) (pc := 8) dX11_who_8 (k := ?_)
    refine g_iret (M := mX11_who) (pc := 9) rfl dX11_who_9 rfl ⟨_, _, rfl, rfl, ?_⟩
    refine ⟨?_, rfl⟩
    · unfold whoJ; first | exact Or.inl ⟨by first | omega | (refine ⟨by omega, by omega, ?_⟩; assumption), by first | rfl | omega, by first | rfl | (rw [show n = 1 by omega]; done) | (rw [show n = 0 by omega]; done) | (rw [show z = 1 by omega]; done) | (rw [show z = 0 by omega]; done) | (unfold zwith; first | rw [if_pos (by omega)] | rw [if_neg (by omega)])⟩ | exact Or.inr (Or.inl ⟨by first | omega | (refine ⟨by omega, by omega, ?_⟩; assumption), by first | rfl | omega, by first | rfl | (rw [show n = 1 by omega]; done) | (rw [show n = 0 by omega]; done) | (rw [show z = 1 by omega]; done) | (rw [show z = 0 by omega]; done) | (unfold zwith; first | rw [if_pos (by omega)] | rw [if_neg (by omega)])⟩) | exact Or.inr (Or.inr (Or.inl ⟨by first | omega | (refine ⟨by omega, by omega, ?_⟩; assumption), by first | rfl | omega, by first | rfl | (rw [show n = 1 by omega]; done) | (rw [show n = 0 by omega]; done) | (rw [show z = 1 by omega]; done) | (rw [show z = 0 by omega]; done) | (unfold zwith; first | rw [if_pos (by omega)] | rw [if_neg (by omega)])⟩)) | exact Or.inr (Or.inr (Or.inr (Or.inl ⟨by first | omega | (refine ⟨by omega, by omega, ?_⟩; assumption), by first | rfl | omega, by first | rfl | (rw [show n = 1 by omega]; done) | (rw [show n = 0 by omega]; done) | (rw [show z = 1 by omega]; done) | (rw [show z = 0 by omega]; done) | (unfold zwith; first | rw [if_pos (by omega)] | rw [if_neg (by omega)])⟩))) | exact Or.inr (Or.inr (Or.inr (Or.inr (⟨by first | omega | (refine ⟨by omega, by omega, ?_⟩; assumption), by first | rfl | omega, by first | rfl | (rw [show n = 1 by omega]; done) | (rw [show n = 0 by omega]; done) | (rw [show z = 1 by omega]; done) | (rw [show z = 0 by omega]; done) | (unfold zwith; first | rw [if_pos (by omega)] | rw [if_neg (by omega)])⟩))))
set_option maxHeartbeats 4000000 in
set_option maxRecDepth 20000 in
theorem c_X11_strew (Γ : KT) (t : Nat) (σ : Nat → Int → Int) (h : Int) (n : Int) (hI : InvJ σ) (hh : R32 h) (hn : R32 n) : Ct Γ mX11_strew 3 (0, 0) [vR Γ 69, vI h, vI n] (113, ρT t, σ) (pI 113 (ρT t) (fun r σ' => (strewJ σ h n r σ') ∧ (InvJ σ') ∧ (Fr jcMm σ σ'))) := by
  refine Ct.of rfl (Nat.le_of_ble_eq_true rfl) ?_
  show G Γ mX11_strew 3 (0, 0) _ (0, 0) 0 [some (vR Γ 69), some (vI h), some (vI n), none] [] (113, ρT t, σ)
  refine g_aload_n (M := mX11_strew) (pc := 0) dX11_strew_0 rfl (k := ?_)
  refine g_iload_n (M := mX11_strew) (pc := 1) dX11_strew_1 rfl (k := ?_)
  refine g_cV1I (M := mX11_strew) (pc := 2) (c_X11_isHouse Γ t _ _ hI (by omega)) qX11_isHouse vX11_isHouse sX11_isHouse kX11_232 dX11_strew_2 (kk := ?_)
  rintro _ _ ⟨e1, e⟩; rw [e1, e]; clear e1 e
  have hb2_69 := jv69_0 hI 0 (by omega) (by omega)
  refine g_if_neB (M := mX11_strew) (pc := 5) (tgt := 10) dX11_strew_5 (k1 := fun h5 => ?_) (k2 := fun h5 => ?_)
  · skip
    refine g_aload_n (M := mX11_strew) (pc := 10) dX11_strew_10 rfl (k := ?_)
    refine g_iload_n (M := mX11_strew) (pc := 11) dX11_strew_11 rfl (k := ?_)
    refine g_iconst (M := mX11_strew) (pc := 12) dX11_strew_12 (k := ?_)
    refine g_bipush (M := mX11_strew) (pc := 13) dX11_strew_13 (k := ?_)
    refine g_cV3I (M := mX11_strew) (pc := 15) (c_X11_in Γ t _ _ _ _ (by omega) (by omega) (by omega)) qX11_in vX11_in sX11_in kX11_224 dX11_strew_15 (kk := ?_)
    rintro _ _ ⟨e1, e⟩; rw [e1, e]; clear e1 e
    refine g_if_neB (M := mX11_strew) (pc := 18) (tgt := 24) dX11_strew_18 (k1 := fun h18 => ?_) (k2 := fun h18 => ?_)
    · skip
      refine g_aload_n (M := mX11_strew) (pc := 24) dX11_strew_24 rfl (k := ?_)
      refine g_getr (M := mX11_strew) (pc := 25) (by rfl) fX11_4 kX11_23 dX11_strew_25 (by rfl) (kk := ?_)
      refine g_iload_n (M := mX11_strew) (pc := 28) dX11_strew_28 rfl (k := ?_)
      refine g_iald (M := mX11_strew) (pc := 29) (by rfl) (by omega) (by omega) dX11_strew_29 (kk := fun hr29 => ?_)
      have hb29 := jv72_0 hI h (by omega) (by omega)
      refine g_istore_3 (M := mX11_strew) (pc := 30) dX11_strew_30 (k := ?_)
      refine g_aload_n (M := mX11_strew) (pc := 31) dX11_strew_31 rfl (k := ?_)
      refine g_getr (M := mX11_strew) (pc := 32) (by rfl) fX11_4 kX11_23 dX11_strew_32 (by rfl) (kk := ?_)
      refine g_iload_n (M := mX11_strew) (pc := 35) dX11_strew_35 rfl (k := ?_)
      refine g_iload_n (M := mX11_strew) (pc := 36) dX11_strew_36 rfl (k := ?_)
      refine g_iast (M := mX11_strew) (pc := 37) (by rfl) (by omega) (by omega) (by omega) dX11_strew_37 (kk := ?_)
      refine g_iload_n (M := mX11_strew) (pc := 38) dX11_strew_38 rfl (k := ?_)
      refine g_iret (M := mX11_strew) (pc := 39) rfl dX11_strew_39 rfl ⟨_, _, rfl, rfl, ?_⟩
      refine ⟨?_, ?_, ?_⟩
      · unfold strewJ; first | exact Or.inl ⟨by first | omega | (refine ⟨by omega, by omega, ?_⟩; assumption), by first | rfl | omega, by first | rfl | (rw [show n = 1 by omega]; done) | (rw [show n = 0 by omega]; done) | (rw [show z = 1 by omega]; done) | (rw [show z = 0 by omega]; done) | (unfold zwith; first | rw [if_pos (by omega)] | rw [if_neg (by omega)])⟩ | exact Or.inr (Or.inl ⟨by first | omega | (refine ⟨by omega, by omega, ?_⟩; assumption), by first | rfl | omega, by first | rfl | (rw [show n = 1 by omega]; done) | (rw [show n = 0 by omega]; done) | (rw [show z = 1 by omega]; done) | (rw [show z = 0 by omega]; done) | (unfold zwith; first | rw [if_pos (by omega)] | rw [if_neg (by omega)])⟩) | exact Or.inr (Or.inr (⟨by first | omega | (refine ⟨by omega, by omega, ?_⟩; assumption), by first | rfl | omega, by first | rfl | (rw [show n = 1 by omega]; done) | (rw [show n = 0 by omega]; done) | (rw [show z = 1 by omega]; done) | (rw [show z = 0 by omega]; done) | (unfold zwith; first | rw [if_pos (by omega)] | rw [if_neg (by omega)])⟩))
      · refine jvu72 ?_ (by omega) (by omega); exact hI
      · refine Fr.up ?_ (by first | rfl | (unfold jcMm; simp; try omega)); exact (Fr.rf)
    · skip
      refine g_bipush (M := mX11_strew) (pc := 21) dX11_strew_21 (k := ?_)
      refine g_iret (M := mX11_strew) (pc := 23) rfl dX11_strew_23 rfl ⟨_, _, rfl, rfl, ?_⟩
      refine ⟨?_, ?_, ?_⟩
      · unfold strewJ; first | exact Or.inl ⟨by first | omega | (refine ⟨by omega, by omega, ?_⟩; assumption), by first | rfl | omega, by first | rfl | (rw [show n = 1 by omega]; done) | (rw [show n = 0 by omega]; done) | (rw [show z = 1 by omega]; done) | (rw [show z = 0 by omega]; done) | (unfold zwith; first | rw [if_pos (by omega)] | rw [if_neg (by omega)])⟩ | exact Or.inr (Or.inl ⟨by first | omega | (refine ⟨by omega, by omega, ?_⟩; assumption), by first | rfl | omega, by first | rfl | (rw [show n = 1 by omega]; done) | (rw [show n = 0 by omega]; done) | (rw [show z = 1 by omega]; done) | (rw [show z = 0 by omega]; done) | (unfold zwith; first | rw [if_pos (by omega)] | rw [if_neg (by omega)])⟩) | exact Or.inr (Or.inr (⟨by first | omega | (refine ⟨by omega, by omega, ?_⟩; assumption), by first | rfl | omega, by first | rfl | (rw [show n = 1 by omega]; done) | (rw [show n = 0 by omega]; done) | (rw [show z = 1 by omega]; done) | (rw [show z = 0 by omega]; done) | (unfold zwith; first | rw [if_pos (by omega)] | rw [if_neg (by omega)])⟩))
      · exact hI
      · exact (Fr.rf)
  · skip
    refine g_iconst (M := mX11_strew) (pc := 8) dX11_strew_8 (k := ?_)
    refine g_iret (M := mX11_strew) (pc := 9) rfl dX11_strew_9 rfl ⟨_, _, rfl, rfl, ?_⟩
    refine ⟨?_, ?_, ?_⟩
    · unfold strewJ; first | exact Or.inl ⟨by first | omega | (refine ⟨by omega, by omega, ?_⟩; assumption), by first | rfl | omega, by first | rfl | (rw [show n = 1 by omega]; done) | (rw [show n = 0 by omega]; done) | (rw [show z = 1 by omega]; done) | (rw [show z = 0 by omega]; done) | (unfold zwith; first | rw [if_pos (by omega)] | rw [if_neg (by omega)])⟩ | exact Or.inr (Or.inl ⟨by first | omega | (refine ⟨by omega, by omega, ?_⟩; assumption), by first | rfl | omega, by first | rfl | (rw [show n = 1 by omega]; done) | (rw [show n = 0 by omega]; done) | (rw [show z = 1 by omega]; done) | (rw [show z = 0 by omega]; done) | (unfold zwith; first | rw [if_pos (by omega)] | rw [if_neg (by omega)])⟩) | exact Or.inr (Or.inr (⟨by first | omega | (refine ⟨by omega, by omega, ?_⟩; assumption), by first | rfl | omega, by first | rfl | (rw [show n = 1 by omega]; done) | (rw [show n = 0 by omega]; done) | (rw [show z = 1 by omega]; done) | (rw [show z = 0 by omega]; done) | (unfold zwith; first | rw [if_pos (by omega)] | rw [if_neg (by omega)])⟩))
    · exact hI
    · exact (Fr.rf)
set_option maxHeartbeats 4000000 in
set_option maxRecDepth 20000 in
theorem c_X11_ask (Γ : KT) (t : Nat) (σ : Nat → Int → Int) (h : Int) (f : Int) (z : Int) (hI : InvJ σ) (hh : R32 h) (hf : R32 f) (hz : R32 z) : Ct Γ mX11_ask 3 (0, 0) [vR Γ 69, vI h, vI f, vI z] (113, ρT t, σ) (pI 113 (ρT t) (fun r σ' => (askJ σ h f z r σ') ∧ (InvJ σ') ∧ (Fr jcMm σ σ'))) := by
  refine Ct.of rfl (Nat.le_of_ble_eq_true rfl) ?_
  show G Γ mX11_ask 3 (0, 0) _ (0, 0) 0 [some (vR Γ 69), some (vI h), some (vI f), some (vI z), none] [] (113, ρT t, σ)
  refine g_aload_n (M := mX11_ask) (pc := 0) dX11_ask_0 rfl (k := ?_)
  refine g_iload_n (M := mX11_ask) (pc := 1) dX11_ask_1 rfl (k := ?_)
  refine g_cV1I (M := mX11_ask) (pc := 2) (c_X11_isHouse Γ t _ _ hI (by omega)) qX11_isHouse vX11_isHouse sX11_isHouse kX11_232 dX11_ask_2 (kk := ?_)
  rintro _ _ ⟨e1, e⟩; rw [e1, e]; clear e1 e
  have hb2_69 := jv69_0 hI 0 (by omega) (by omega)
  refine g_if_eqB (M := mX11_ask) (pc := 5) (tgt := 16) dX11_ask_5 (k1 := fun h5 => ?_) (k2 := fun h5 => ?_)
  · skip
    refine g_iconst (M := mX11_ask) (pc := 16) dX11_ask_16 (k := ?_)
    refine g_iret (M := mX11_ask) (pc := 17) rfl dX11_ask_17 rfl ⟨_, _, rfl, rfl, ?_⟩
    refine ⟨?_, ?_, ?_⟩
    · unfold askJ; first | exact Or.inl ⟨by first | omega | (refine ⟨by omega, by omega, ?_⟩; assumption), by first | rfl | omega, by first | rfl | (rw [show n = 1 by omega]; done) | (rw [show n = 0 by omega]; done) | (rw [show z = 1 by omega]; done) | (rw [show z = 0 by omega]; done) | (unfold zwith; first | rw [if_pos (by omega)] | rw [if_neg (by omega)])⟩ | exact Or.inr (⟨by first | omega | (refine ⟨by omega, by omega, ?_⟩; assumption), by first | rfl | omega, by first | rfl | (rw [show n = 1 by omega]; done) | (rw [show n = 0 by omega]; done) | (rw [show z = 1 by omega]; done) | (rw [show z = 0 by omega]; done) | (unfold zwith; first | rw [if_pos (by omega)] | rw [if_neg (by omega)])⟩)
    · exact hI
    · exact (Fr.rf)
  · skip
    refine g_aload_n (M := mX11_ask) (pc := 8) dX11_ask_8 rfl (k := ?_)
    refine g_iload_n (M := mX11_ask) (pc := 9) dX11_ask_9 rfl (k := ?_)
    refine g_cV1I (M := mX11_ask) (pc := 10) (c_X11_isFolk Γ t _ _ hI (by omega)) qX11_isFolk vX11_isFolk sX11_isFolk kX11_236 dX11_ask_10 (kk := ?_)
    rintro _ _ ⟨e1, e⟩; rw [e1, e]; clear e1 e
    have hb10_69 := jv69_1 hI 1 (by omega) (by omega)
    refine g_if_neB (M := mX11_ask) (pc := 13) (tgt := 18) dX11_ask_13 (k1 := fun h13 => ?_) (k2 := fun h13 => ?_)
    · skip
      refine g_aload_n (M := mX11_ask) (pc := 18) dX11_ask_18 rfl (k := ?_)
      refine g_getr (M := mX11_ask) (pc := 19) (by rfl) fX11_5 kX11_26 dX11_ask_19 (by rfl) (kk := ?_)
      refine g_iload_n (M := mX11_ask) (pc := 22) dX11_ask_22 rfl (k := ?_)
      refine g_iald (M := mX11_ask) (pc := 23) (by rfl) (by omega) (by omega) dX11_ask_23 (kk := fun hr23 => ?_)
      refine g_iload_n (M := mX11_ask) (pc := 24) dX11_ask_24 rfl (k := ?_)
      refine g_ishr (M := mX11_ask) (pc := 25) dX11_ask_25 (k := ?_)
      have hz25 := zshrR (σ 73 h) f
      refine g_iconst (M := mX11_ask) (pc := 26) dX11_ask_26 (k := ?_)
      refine g_iand (M := mX11_ask) (pc := 27) dX11_ask_27 (k := ?_)
      have hz27 := zandR (zshr (σ 73 h) f) 1
      have hy27 := zand1 (zshr (σ 73 h) f)
      refine g_istore_4 (M := mX11_ask) (pc := 28) dX11_ask_28 (k := ?_)
      refine g_aload_n (M := mX11_ask) (pc := 30) dX11_ask_30 rfl (k := ?_)
      refine g_getr (M := mX11_ask) (pc := 31) (by rfl) fX11_5 kX11_26 dX11_ask_31 (by rfl) (kk := ?_)
      refine g_iload_n (M := mX11_ask) (pc := 34) dX11_ask_34 rfl (k := ?_)
      refine g_iload_n (M := mX11_ask) (pc := 35) dX11_ask_35 rfl (k := ?_)
      refine g_if_eq (M := mX11_ask) (pc := 36) (tgt := 52) (by omega) dX11_ask_36 (k1 := fun h36 => ?_) (k2 := fun h36 => ?_)
      · skip
        refine g_aload_n (M := mX11_ask) (pc := 52) dX11_ask_52 rfl (k := ?_)
        refine g_getr (M := mX11_ask) (pc := 53) (by rfl) fX11_5 kX11_26 dX11_ask_53 (by rfl) (kk := ?_)
        refine g_iload_n (M := mX11_ask) (pc := 56) dX11_ask_56 rfl (k := ?_)
        refine g_iald (M := mX11_ask) (pc := 57) (by rfl) (by omega) (by omega) dX11_ask_57 (kk := fun hr57 => ?_)
        refine g_iconst (M := mX11_ask) (pc := 58) dX11_ask_58 (k := ?_)
        refine g_iload_n (M := mX11_ask) (pc := 59) dX11_ask_59 rfl (k := ?_)
        refine g_ishl (M := mX11_ask) (pc := 60) dX11_ask_60 (k := ?_)
        have hz60 := zshlR 1 f
        refine g_iconst (M := mX11_ask) (pc := 61) dX11_ask_61 (k := ?_)
        refine g_ixor (M := mX11_ask) (pc := 62) dX11_ask_62 (k := ?_)
        have hz62 := zxorR (zshl 1 f) (-1)
        refine g_iand (M := mX11_ask) (pc := 63) dX11_ask_63 (k := ?_)
        have hz63 := zandR (σ 73 h) (zxor (zshl 1 f) (-1))
        refine g_iast (M := mX11_ask) (pc := 64) (by rfl) (by omega) (by omega) (by omega) dX11_ask_64 (kk := ?_)
        refine g_iload (M := mX11_ask) (pc := 65) dX11_ask_65 rfl (k := ?_)
        refine g_iret (M := mX11_ask) (pc := 67) rfl dX11_ask_67 rfl ⟨_, _, rfl, rfl, ?_⟩
        refine ⟨?_, ?_, ?_⟩
        · unfold askJ; first | exact Or.inl ⟨by first | omega | (refine ⟨by omega, by omega, ?_⟩; assumption), by first | rfl | omega, by first | rfl | (rw [show n = 1 by omega]; done) | (rw [show n = 0 by omega]; done) | (rw [show z = 1 by omega]; done) | (rw [show z = 0 by omega]; done) | (unfold zwith; first | rw [if_pos (by omega)] | rw [if_neg (by omega)])⟩ | exact Or.inr (⟨by first | omega | (refine ⟨by omega, by omega, ?_⟩; assumption), by first | rfl | omega, by first | rfl | (rw [show n = 1 by omega]; done) | (rw [show n = 0 by omega]; done) | (rw [show z = 1 by omega]; done) | (rw [show z = 0 by omega]; done) | (unfold zwith; first | rw [if_pos (by omega)] | rw [if_neg (by omega)])⟩)
        · refine jv_cell ?_ (by rfl); exact hI
        · refine Fr.up ?_ (by first | rfl | (unfold jcMm; simp; try omega)); exact (Fr.rf)
      · skip
        refine g_aload_n (M := mX11_ask) (pc := 39) dX11_ask_39 rfl (k := ?_)
        refine g_getr (M := mX11_ask) (pc := 40) (by rfl) fX11_5 kX11_26 dX11_ask_40 (by rfl) (kk := ?_)
        refine g_iload_n (M := mX11_ask) (pc := 43) dX11_ask_43 rfl (k := ?_)
        refine g_iald (M := mX11_ask) (pc := 44) (by rfl) (by omega) (by omega) dX11_ask_44 (kk := fun hr44 => ?_)
        refine g_iconst (M := mX11_ask) (pc := 45) dX11_ask_45 (k := ?_)
        refine g_iload_n (M := mX11_ask) (pc := 46) dX11_ask_46 rfl (k := ?_)
        refine g_ishl (M := mX11_ask) (pc := 47) dX11_ask_47 (k := ?_)
        have hz47 := zshlR 1 f
        refine g_ior (M := mX11_ask) (pc := 48) dX11_ask_48 (k := ?_)
        have hz48 := zorR (σ 73 h) (zshl 1 f)
        refine g_goto (M := mX11_ask) (pc := 49) (tgt := 64) dX11_ask_49 (k := ?_)
        refine g_iast (M := mX11_ask) (pc := 64) (by rfl) (by omega) (by omega) (by omega) dX11_ask_64 (kk := ?_)
        refine g_iload (M := mX11_ask) (pc := 65) dX11_ask_65 rfl (k := ?_)
        refine g_iret (M := mX11_ask) (pc := 67) rfl dX11_ask_67 rfl ⟨_, _, rfl, rfl, ?_⟩
        refine ⟨?_, ?_, ?_⟩
        · unfold askJ; first | exact Or.inl ⟨by first | omega | (refine ⟨by omega, by omega, ?_⟩; assumption), by first | rfl | omega, by first | rfl | (rw [show n = 1 by omega]; done) | (rw [show n = 0 by omega]; done) | (rw [show z = 1 by omega]; done) | (rw [show z = 0 by omega]; done) | (unfold zwith; first | rw [if_pos (by omega)] | rw [if_neg (by omega)])⟩ | exact Or.inr (⟨by first | omega | (refine ⟨by omega, by omega, ?_⟩; assumption), by first | rfl | omega, by first | rfl | (rw [show n = 1 by omega]; done) | (rw [show n = 0 by omega]; done) | (rw [show z = 1 by omega]; done) | (rw [show z = 0 by omega]; done) | (unfold zwith; first | rw [if_pos (by omega)] | rw [if_neg (by omega)])⟩)
        · refine jv_cell ?_ (by rfl); exact hI
        · refine Fr.up ?_ (by first | rfl | (unfold jcMm; simp; try omega)); exact (Fr.rf)
    · skip
      refine g_iconst (M := mX11_ask) (pc := 16) dX11_ask_16 (k := ?_)
      refine g_iret (M := mX11_ask) (pc := 17) rfl dX11_ask_17 rfl ⟨_, _, rfl, rfl, ?_⟩
      refine ⟨?_, ?_, ?_⟩
      · unfold askJ; first | exact Or.inl ⟨by first | omega | (refine ⟨by omega, by omega, ?_⟩; assumption), by first | rfl | omega, by first | rfl | (rw [show n = 1 by omega]; done) | (rw [show n = 0 by omega]; done) | (rw [show z = 1 by omega]; done) | (rw [show z = 0 by omega]; done) | (unfold zwith; first | rw [if_pos (by omega)] | rw [if_neg (by omega)])⟩ | exact Or.inr (⟨by first | omega | (refine ⟨by omega, by omega, ?_⟩; assumption), by first | rfl | omega, by first | rfl | (rw [show n = 1 by omega]; done) | (rw [show n = 0 by omega]; done) | (rw [show z = 1 by omega]; done) | (rw [show z = 0 by omega]; done) | (unfold zwith; first | rw [if_pos (by omega)] | rw [if_neg (by omega)])⟩)
      · exact hI
      · exact (Fr.rf)
set_option maxHeartbeats 4000000 in
set_option maxRecDepth 20000 in
theorem c_X11_sack (Γ : KT) (t : Nat) (σ : Nat → Int → Int) (f : Int) (h : Int) (hI : InvJ σ) (hf : R32 f) (hh : R32 h) : Ct Γ mX11_sack 3 (0, 0) [vR Γ 69, vI f, vI h] (113, ρT t, σ) (pI 113 (ρT t) (fun r σ' => (sackJ σ f h r σ') ∧ (InvJ σ') ∧ (Fr jcMm σ σ'))) := by
  refine Ct.of rfl (Nat.le_of_ble_eq_true rfl) ?_
  show G Γ mX11_sack 3 (0, 0) _ (0, 0) 0 [some (vR Γ 69), some (vI f), some (vI h), none] [] (113, ρT t, σ)
  refine g_aload_n (M := mX11_sack) (pc := 0) dX11_sack_0 rfl (k := ?_)
  refine g_iload_n (M := mX11_sack) (pc := 1) dX11_sack_1 rfl (k := ?_)
  refine g_cV1I (M := mX11_sack) (pc := 2) (c_X11_isFolk Γ t _ _ hI (by omega)) qX11_isFolk vX11_isFolk sX11_isFolk kX11_236 dX11_sack_2 (kk := ?_)
  rintro _ _ ⟨e1, e⟩; rw [e1, e]; clear e1 e
  have hb2_69 := jv69_1 hI 1 (by omega) (by omega)
  refine g_if_eqB (M := mX11_sack) (pc := 5) (tgt := 16) dX11_sack_5 (k1 := fun h5 => ?_) (k2 := fun h5 => ?_)
  · skip
    refine g_iconst (M := mX11_sack) (pc := 16) dX11_sack_16 (k := ?_)
    refine g_iret (M := mX11_sack) (pc := 17) rfl dX11_sack_17 rfl ⟨_, _, rfl, rfl, ?_⟩
    refine ⟨?_, ?_, ?_⟩
    · unfold sackJ; first | exact Or.inl ⟨by first | omega | (refine ⟨by omega, by omega, ?_⟩; assumption), by first | rfl | omega, by first | rfl | (rw [show n = 1 by omega]; done) | (rw [show n = 0 by omega]; done) | (rw [show z = 1 by omega]; done) | (rw [show z = 0 by omega]; done) | (unfold zwith; first | rw [if_pos (by omega)] | rw [if_neg (by omega)])⟩ | exact Or.inr (⟨by first | omega | (refine ⟨by omega, by omega, ?_⟩; assumption), by first | rfl | omega, by first | rfl | (rw [show n = 1 by omega]; done) | (rw [show n = 0 by omega]; done) | (rw [show z = 1 by omega]; done) | (rw [show z = 0 by omega]; done) | (unfold zwith; first | rw [if_pos (by omega)] | rw [if_neg (by omega)])⟩)
    · exact hI
    · exact (Fr.rf)
  · skip
    refine g_aload_n (M := mX11_sack) (pc := 8) dX11_sack_8 rfl (k := ?_)
    refine g_iload_n (M := mX11_sack) (pc := 9) dX11_sack_9 rfl (k := ?_)
    refine g_cV1I (M := mX11_sack) (pc := 10) (c_X11_isHouse Γ t _ _ hI (by omega)) qX11_isHouse vX11_isHouse sX11_isHouse kX11_232 dX11_sack_10 (kk := ?_)
    rintro _ _ ⟨e1, e⟩; rw [e1, e]; clear e1 e
    have hb10_69 := jv69_0 hI 0 (by omega) (by omega)
    refine g_if_neB (M := mX11_sack) (pc := 13) (tgt := 18) dX11_sack_13 (k1 := fun h13 => ?_) (k2 := fun h13 => ?_)
    · skip
      refine g_aload_n (M := mX11_sack) (pc := 18) dX11_sack_18 rfl (k := ?_)
      refine g_getr (M := mX11_sack) (pc := 19) (by rfl) fX11_7 kX11_32 dX11_sack_19 (by rfl) (kk := ?_)
      refine g_iload_n (M := mX11_sack) (pc := 22) dX11_sack_22 rfl (k := ?_)
      refine g_iald (M := mX11_sack) (pc := 23) (by rfl) (by omega) (by omega) dX11_sack_23 (kk := fun hr23 => ?_)
      have hb23 := jv75_0 hI f (by omega) (by omega)
      refine g_istore_3 (M := mX11_sack) (pc := 24) dX11_sack_24 (k := ?_)
      refine g_aload_n (M := mX11_sack) (pc := 25) dX11_sack_25 rfl (k := ?_)
      refine g_getr (M := mX11_sack) (pc := 26) (by rfl) fX11_7 kX11_32 dX11_sack_26 (by rfl) (kk := ?_)
      refine g_iload_n (M := mX11_sack) (pc := 29) dX11_sack_29 rfl (k := ?_)
      refine g_iload_n (M := mX11_sack) (pc := 30) dX11_sack_30 rfl (k := ?_)
      refine g_iast (M := mX11_sack) (pc := 31) (by rfl) (by omega) (by omega) (by omega) dX11_sack_31 (kk := ?_)
      refine g_iload_n (M := mX11_sack) (pc := 32) dX11_sack_32 rfl (k := ?_)
      refine g_iret (M := mX11_sack) (pc := 33) rfl dX11_sack_33 rfl ⟨_, _, rfl, rfl, ?_⟩
      refine ⟨?_, ?_, ?_⟩
      · unfold sackJ; first | exact Or.inl ⟨by first | omega | (refine ⟨by omega, by omega, ?_⟩; assumption), by first | rfl | omega, by first | rfl | (rw [show n = 1 by omega]; done) | (rw [show n = 0 by omega]; done) | (rw [show z = 1 by omega]; done) | (rw [show z = 0 by omega]; done) | (unfold zwith; first | rw [if_pos (by omega)] | rw [if_neg (by omega)])⟩ | exact Or.inr (⟨by first | omega | (refine ⟨by omega, by omega, ?_⟩; assumption), by first | rfl | omega, by first | rfl | (rw [show n = 1 by omega]; done) | (rw [show n = 0 by omega]; done) | (rw [show z = 1 by omega]; done) | (rw [show z = 0 by omega]; done) | (unfold zwith; first | rw [if_pos (by omega)] | rw [if_neg (by omega)])⟩)
      · refine jvu75 ?_ (by omega) (by omega); exact hI
      · refine Fr.up ?_ (by first | rfl | (unfold jcMm; simp; try omega)); exact (Fr.rf)
    · skip
      refine g_iconst (M := mX11_sack) (pc := 16) dX11_sack_16 (k := ?_)
      refine g_iret (M := mX11_sack) (pc := 17) rfl dX11_sack_17 rfl ⟨_, _, rfl, rfl, ?_⟩
      refine ⟨?_, ?_, ?_⟩
      · unfold sackJ; first | exact Or.inl ⟨by first | omega | (refine ⟨by omega, by omega, ?_⟩; assumption), by first | rfl | omega, by first | rfl | (rw [show n = 1 by omega]; done) | (rw [show n = 0 by omega]; done) | (rw [show z = 1 by omega]; done) | (rw [show z = 0 by omega]; done) | (unfold zwith; first | rw [if_pos (by omega)] | rw [if_neg (by omega)])⟩ | exact Or.inr (⟨by first | omega | (refine ⟨by omega, by omega, ?_⟩; assumption), by first | rfl | omega, by first | rfl | (rw [show n = 1 by omega]; done) | (rw [show n = 0 by omega]; done) | (rw [show z = 1 by omega]; done) | (rw [show z = 0 by omega]; done) | (unfold zwith; first | rw [if_pos (by omega)] | rw [if_neg (by omega)])⟩)
      · exact hI
      · exact (Fr.rf)
set_option maxHeartbeats 4000000 in
set_option maxRecDepth 20000 in
theorem c_X11_sell (Γ : KT) (t : Nat) (σ : Nat → Int → Int) (h : Int) (k : Int) (n : Int) (hI : InvJ σ) (hh : R32 h) (hk : R32 k) (hn : R32 n) : Ct Γ mX11_sell 3 (0, 0) [vR Γ 69, vI h, vI k, vI n] (113, ρT t, σ) (pI 113 (ρT t) (fun r σ' => (sellJ σ h k n r σ') ∧ (InvJ σ') ∧ (Fr jcMm σ σ'))) := by
  refine Ct.of rfl (Nat.le_of_ble_eq_true rfl) ?_
  show G Γ mX11_sell 3 (0, 0) _ (0, 0) 0 [some (vR Γ 69), some (vI h), some (vI k), some (vI n), none] [] (113, ρT t, σ)
  refine g_aload_n (M := mX11_sell) (pc := 0) dX11_sell_0 rfl (k := ?_)
  refine g_iload_n (M := mX11_sell) (pc := 1) dX11_sell_1 rfl (k := ?_)
  refine g_cV1I (M := mX11_sell) (pc := 2) (c_X11_isHouse Γ t _ _ hI (by omega)) qX11_isHouse vX11_isHouse sX11_isHouse kX11_232 dX11_sell_2 (kk := ?_)
  rintro _ _ ⟨e1, e⟩; rw [e1, e]; clear e1 e
  have hb2_69 := jv69_0 hI 0 (by omega) (by omega)
  refine g_if_eqB (M := mX11_sell) (pc := 5) (tgt := 19) dX11_sell_5 (k1 := fun h5 => ?_) (k2 := fun h5 => ?_)
  · skip
    refine g_iconst (M := mX11_sell) (pc := 19) dX11_sell_19 (k := ?_)
    refine g_iret (M := mX11_sell) (pc := 20) rfl dX11_sell_20 rfl ⟨_, _, rfl, rfl, ?_⟩
    refine ⟨?_, ?_, ?_⟩
    · unfold sellJ; first | exact Or.inl ⟨by first | omega | (refine ⟨by omega, by omega, ?_⟩; assumption), by first | rfl | omega, by first | rfl | (rw [show n = 1 by omega]; done) | (rw [show n = 0 by omega]; done) | (rw [show z = 1 by omega]; done) | (rw [show z = 0 by omega]; done) | (unfold zwith; first | rw [if_pos (by omega)] | rw [if_neg (by omega)])⟩ | exact Or.inr (Or.inl ⟨by first | omega | (refine ⟨by omega, by omega, ?_⟩; assumption), by first | rfl | omega, by first | rfl | (rw [show n = 1 by omega]; done) | (rw [show n = 0 by omega]; done) | (rw [show z = 1 by omega]; done) | (rw [show z = 0 by omega]; done) | (unfold zwith; first | rw [if_pos (by omega)] | rw [if_neg (by omega)])⟩) | exact Or.inr (Or.inr (⟨by first | omega | (refine ⟨by omega, by omega, ?_⟩; assumption), by first | rfl | omega, by first | rfl | (rw [show n = 1 by omega]; done) | (rw [show n = 0 by omega]; done) | (rw [show z = 1 by omega]; done) | (rw [show z = 0 by omega]; done) | (unfold zwith; first | rw [if_pos (by omega)] | rw [if_neg (by omega)])⟩))
    · exact hI
    · exact (Fr.rf)
  · skip
    refine g_aload_n (M := mX11_sell) (pc := 8) dX11_sell_8 rfl (k := ?_)
    refine g_iload_n (M := mX11_sell) (pc := 9) dX11_sell_9 rfl (k := ?_)
    refine g_iconst (M := mX11_sell) (pc := 10) dX11_sell_10 (k := ?_)
    refine g_bipush (M := mX11_sell) (pc := 11) dX11_sell_11 (k := ?_)
    refine g_cV3I (M := mX11_sell) (pc := 13) (c_X11_in Γ t _ _ _ _ (by omega) (by omega) (by omega)) qX11_in vX11_in sX11_in kX11_224 dX11_sell_13 (kk := ?_)
    rintro _ _ ⟨e1, e⟩; rw [e1, e]; clear e1 e
    refine g_if_neB (M := mX11_sell) (pc := 16) (tgt := 21) dX11_sell_16 (k1 := fun h16 => ?_) (k2 := fun h16 => ?_)
    · skip
      refine g_aload_n (M := mX11_sell) (pc := 21) dX11_sell_21 rfl (k := ?_)
      refine g_iload_n (M := mX11_sell) (pc := 22) dX11_sell_22 rfl (k := ?_)
      refine g_iconst (M := mX11_sell) (pc := 23) dX11_sell_23 (k := ?_)
      refine g_bipush (M := mX11_sell) (pc := 24) dX11_sell_24 (k := ?_)
      refine g_cV3I (M := mX11_sell) (pc := 26) (c_X11_in Γ t _ _ _ _ (by omega) (by omega) (by omega)) qX11_in vX11_in sX11_in kX11_224 dX11_sell_26 (kk := ?_)
      rintro _ _ ⟨e1, e⟩; rw [e1, e]; clear e1 e
      refine g_if_neB (M := mX11_sell) (pc := 29) (tgt := 35) dX11_sell_29 (k1 := fun h29 => ?_) (k2 := fun h29 => ?_)
      · skip
        refine g_aload_n (M := mX11_sell) (pc := 35) dX11_sell_35 rfl (k := ?_)
        refine g_getr (M := mX11_sell) (pc := 36) (by rfl) fX11_2 kX11_16 dX11_sell_36 (by rfl) (kk := ?_)
        refine g_iload_n (M := mX11_sell) (pc := 39) dX11_sell_39 rfl (k := ?_)
        refine g_iald (M := mX11_sell) (pc := 40) (by rfl) (by omega) (by omega) dX11_sell_40 (kk := fun hr40 => ?_)
        have hb40 := jv70_0 hI h (by omega) (by omega)
        refine g_istore_4 (M := mX11_sell) (pc := 41) dX11_sell_41 (k := ?_)
        refine g_aload_n (M := mX11_sell) (pc := 43) dX11_sell_43 rfl (k := ?_)
        refine g_iload_n (M := mX11_sell) (pc := 44) dX11_sell_44 rfl (k := ?_)
        refine g_iload_n (M := mX11_sell) (pc := 45) dX11_sell_45 rfl (k := ?_)
        refine g_iload_n (M := mX11_sell) (pc := 46) dX11_sell_46 rfl (k := ?_)
        refine g_cV3V (M := mX11_sell) (pc := 47) (c_X11_becomes Γ t _ _ _ _ (by omega) (by omega) (by omega)) qX11_becomes vX11_becomes sX11_becomes kX11_228 dX11_sell_47 (kk := ?_)
        rintro _ e; rw [e]; clear e
        refine g_iload (M := mX11_sell) (pc := 50) dX11_sell_50 rfl (k := ?_)
        refine g_iret (M := mX11_sell) (pc := 52) rfl dX11_sell_52 rfl ⟨_, _, rfl, rfl, ?_⟩
        refine ⟨?_, ?_, ?_⟩
        · unfold sellJ; first | exact Or.inl ⟨by first | omega | (refine ⟨by omega, by omega, ?_⟩; assumption), by first | rfl | omega, by first | rfl | (rw [show n = 1 by omega]; done) | (rw [show n = 0 by omega]; done) | (rw [show z = 1 by omega]; done) | (rw [show z = 0 by omega]; done) | (unfold zwith; first | rw [if_pos (by omega)] | rw [if_neg (by omega)])⟩ | exact Or.inr (Or.inl ⟨by first | omega | (refine ⟨by omega, by omega, ?_⟩; assumption), by first | rfl | omega, by first | rfl | (rw [show n = 1 by omega]; done) | (rw [show n = 0 by omega]; done) | (rw [show z = 1 by omega]; done) | (rw [show z = 0 by omega]; done) | (unfold zwith; first | rw [if_pos (by omega)] | rw [if_neg (by omega)])⟩) | exact Or.inr (Or.inr (⟨by first | omega | (refine ⟨by omega, by omega, ?_⟩; assumption), by first | rfl | omega, by first | rfl | (rw [show n = 1 by omega]; done) | (rw [show n = 0 by omega]; done) | (rw [show z = 1 by omega]; done) | (rw [show z = 0 by omega]; done) | (unfold zwith; first | rw [if_pos (by omega)] | rw [if_neg (by omega)])⟩))
        · refine jv_cell ?_ (by rfl); refine jv_cell ?_ (by rfl); refine jv_cell ?_ (by rfl); refine jv_cell ?_ (by rfl); refine jvu71 ?_ (by omega) (by omega); refine jvu70 ?_ (by omega) (by omega); exact hI
        · refine Fr.up ?_ (by first | rfl | (unfold jcMm; simp; try omega)); refine Fr.up ?_ (by first | rfl | (unfold jcMm; simp; try omega)); refine Fr.up ?_ (by first | rfl | (unfold jcMm; simp; try omega)); refine Fr.up ?_ (by first | rfl | (unfold jcMm; simp; try omega)); refine Fr.up ?_ (by first | rfl | (unfold jcMm; simp; try omega)); refine Fr.up ?_ (by first | rfl | (unfold jcMm; simp; try omega)); exact (Fr.rf)
      · skip
        refine g_bipush (M := mX11_sell) (pc := 32) dX11_sell_32 (k := ?_)
        refine g_iret (M := mX11_sell) (pc := 34) rfl dX11_sell_34 rfl ⟨_, _, rfl, rfl, ?_⟩
        refine ⟨?_, ?_, ?_⟩
        · unfold sellJ; first | exact Or.inl ⟨by first | omega | (refine ⟨by omega, by omega, ?_⟩; assumption), by first | rfl | omega, by first | rfl | (rw [show n = 1 by omega]; done) | (rw [show n = 0 by omega]; done) | (rw [show z = 1 by omega]; done) | (rw [show z = 0 by omega]; done) | (unfold zwith; first | rw [if_pos (by omega)] | rw [if_neg (by omega)])⟩ | exact Or.inr (Or.inl ⟨by first | omega | (refine ⟨by omega, by omega, ?_⟩; assumption), by first | rfl | omega, by first | rfl | (rw [show n = 1 by omega]; done) | (rw [show n = 0 by omega]; done) | (rw [show z = 1 by omega]; done) | (rw [show z = 0 by omega]; done) | (unfold zwith; first | rw [if_pos (by omega)] | rw [if_neg (by omega)])⟩) | exact Or.inr (Or.inr (⟨by first | omega | (refine ⟨by omega, by omega, ?_⟩; assumption), by first | rfl | omega, by first | rfl | (rw [show n = 1 by omega]; done) | (rw [show n = 0 by omega]; done) | (rw [show z = 1 by omega]; done) | (rw [show z = 0 by omega]; done) | (unfold zwith; first | rw [if_pos (by omega)] | rw [if_neg (by omega)])⟩))
        · exact hI
        · exact (Fr.rf)
    · skip
      refine g_iconst (M := mX11_sell) (pc := 19) dX11_sell_19 (k := ?_)
      refine g_iret (M := mX11_sell) (pc := 20) rfl dX11_sell_20 rfl ⟨_, _, rfl, rfl, ?_⟩
      refine ⟨?_, ?_, ?_⟩
      · unfold sellJ; first | exact Or.inl ⟨by first | omega | (refine ⟨by omega, by omega, ?_⟩; assumption), by first | rfl | omega, by first | rfl | (rw [show n = 1 by omega]; done) | (rw [show n = 0 by omega]; done) | (rw [show z = 1 by omega]; done) | (rw [show z = 0 by omega]; done) | (unfold zwith; first | rw [if_pos (by omega)] | rw [if_neg (by omega)])⟩ | exact Or.inr (Or.inl ⟨by first | omega | (refine ⟨by omega, by omega, ?_⟩; assumption), by first | rfl | omega, by first | rfl | (rw [show n = 1 by omega]; done) | (rw [show n = 0 by omega]; done) | (rw [show z = 1 by omega]; done) | (rw [show z = 0 by omega]; done) | (unfold zwith; first | rw [if_pos (by omega)] | rw [if_neg (by omega)])⟩) | exact Or.inr (Or.inr (⟨by first | omega | (refine ⟨by omega, by omega, ?_⟩; assumption), by first | rfl | omega, by first | rfl | (rw [show n = 1 by omega]; done) | (rw [show n = 0 by omega]; done) | (rw [show z = 1 by omega]; done) | (rw [show z = 0 by omega]; done) | (unfold zwith; first | rw [if_pos (by omega)] | rw [if_neg (by omega)])⟩))
      · exact hI
      · exact (Fr.rf)
set_option maxHeartbeats 4000000 in
set_option maxRecDepth 20000 in
theorem c_X11_row (Γ : KT) (t : Nat) (σ : Nat → Int → Int) (h : Int) (q : Int) (n : Int) (hI : InvJ σ) (hh : R32 h) (hq : R32 q) (hn : R32 n) : Ct Γ mX11_row 3 (0, 0) [vR Γ 69, vI h, vI q, vI n] (113, ρT t, σ) (pI 113 (ρT t) (fun r σ' => (rowJ σ h q n r σ') ∧ (InvJ σ') ∧ (Fr jcMm σ σ'))) := by
  refine Ct.of rfl (Nat.le_of_ble_eq_true rfl) ?_
  show G Γ mX11_row 3 (0, 0) _ (0, 0) 0 [some (vR Γ 69), some (vI h), some (vI q), some (vI n), none] [] (113, ρT t, σ)
  refine g_aload_n (M := mX11_row) (pc := 0) dX11_row_0 rfl (k := ?_)
  refine g_iload_n (M := mX11_row) (pc := 1) dX11_row_1 rfl (k := ?_)
  refine g_cV1I (M := mX11_row) (pc := 2) (c_X11_isHouse Γ t _ _ hI (by omega)) qX11_isHouse vX11_isHouse sX11_isHouse kX11_232 dX11_row_2 (kk := ?_)
  rintro _ _ ⟨e1, e⟩; rw [e1, e]; clear e1 e
  have hb2_69 := jv69_0 hI 0 (by omega) (by omega)
  refine g_if_eqB (M := mX11_row) (pc := 5) (tgt := 18) dX11_row_5 (k1 := fun h5 => ?_) (k2 := fun h5 => ?_)
  · skip
    refine g_iconst (M := mX11_row) (pc := 18) dX11_row_18 (k := ?_)
    refine g_iret (M := mX11_row) (pc := 19) rfl dX11_row_19 rfl ⟨_, _, rfl, rfl, ?_⟩
    refine ⟨?_, ?_, ?_⟩
    · unfold rowJ; first | exact Or.inl ⟨by first | omega | (refine ⟨by omega, by omega, ?_⟩; assumption), by first | rfl | omega, by first | rfl | (rw [show n = 1 by omega]; done) | (rw [show n = 0 by omega]; done) | (rw [show z = 1 by omega]; done) | (rw [show z = 0 by omega]; done) | (unfold zwith; first | rw [if_pos (by omega)] | rw [if_neg (by omega)])⟩ | exact Or.inr (Or.inl ⟨by first | omega | (refine ⟨by omega, by omega, ?_⟩; assumption), by first | rfl | omega, by first | rfl | (rw [show n = 1 by omega]; done) | (rw [show n = 0 by omega]; done) | (rw [show z = 1 by omega]; done) | (rw [show z = 0 by omega]; done) | (unfold zwith; first | rw [if_pos (by omega)] | rw [if_neg (by omega)])⟩) | exact Or.inr (Or.inr (Or.inl ⟨by first | omega | (refine ⟨by omega, by omega, ?_⟩; assumption), by first | rfl | omega, by first | rfl | (rw [show n = 1 by omega]; done) | (rw [show n = 0 by omega]; done) | (rw [show z = 1 by omega]; done) | (rw [show z = 0 by omega]; done) | (unfold zwith; first | rw [if_pos (by omega)] | rw [if_neg (by omega)])⟩)) | exact Or.inr (Or.inr (Or.inr (⟨by first | omega | (refine ⟨by omega, by omega, ?_⟩; assumption), by first | rfl | omega, by first | rfl | (rw [show n = 1 by omega]; done) | (rw [show n = 0 by omega]; done) | (rw [show z = 1 by omega]; done) | (rw [show z = 0 by omega]; done) | (unfold zwith; first | rw [if_pos (by omega)] | rw [if_neg (by omega)])⟩)))
    · exact hI
    · exact (Fr.rf)
  · skip
    refine g_aload_n (M := mX11_row) (pc := 8) dX11_row_8 rfl (k := ?_)
    refine g_iload_n (M := mX11_row) (pc := 9) dX11_row_9 rfl (k := ?_)
    refine g_iconst (M := mX11_row) (pc := 10) dX11_row_10 (k := ?_)
    refine g_iconst (M := mX11_row) (pc := 11) dX11_row_11 (k := ?_)
    refine g_cV3I (M := mX11_row) (pc := 12) (c_X11_in Γ t _ _ _ _ (by omega) (by omega) (by omega)) qX11_in vX11_in sX11_in kX11_224 dX11_row_12 (kk := ?_)
    rintro _ _ ⟨e1, e⟩; rw [e1, e]; clear e1 e
    refine g_if_neB (M := mX11_row) (pc := 15) (tgt := 20) dX11_row_15 (k1 := fun h15 => ?_) (k2 := fun h15 => ?_)
    · skip
      refine g_aload_n (M := mX11_row) (pc := 20) dX11_row_20 rfl (k := ?_)
      refine g_iload_n (M := mX11_row) (pc := 21) dX11_row_21 rfl (k := ?_)
      refine g_iconst (M := mX11_row) (pc := 22) dX11_row_22 (k := ?_)
      refine g_iconst (M := mX11_row) (pc := 23) dX11_row_23 (k := ?_)
      refine g_cV3I (M := mX11_row) (pc := 24) (c_X11_in Γ t _ _ _ _ (by omega) (by omega) (by omega)) qX11_in vX11_in sX11_in kX11_224 dX11_row_24 (kk := ?_)
      rintro _ _ ⟨e1, e⟩; rw [e1, e]; clear e1 e
      refine g_if_neB (M := mX11_row) (pc := 27) (tgt := 33) dX11_row_27 (k1 := fun h27 => ?_) (k2 := fun h27 => ?_)
      · skip
        refine g_aload_n (M := mX11_row) (pc := 33) dX11_row_33 rfl (k := ?_)
        refine g_getr (M := mX11_row) (pc := 34) (by rfl) fX11_2 kX11_16 dX11_row_34 (by rfl) (kk := ?_)
        refine g_iload_n (M := mX11_row) (pc := 37) dX11_row_37 rfl (k := ?_)
        refine g_iald (M := mX11_row) (pc := 38) (by rfl) (by omega) (by omega) dX11_row_38 (kk := fun hr38 => ?_)
        have hb38 := jv70_0 hI h (by omega) (by omega)
        refine g_bipush (M := mX11_row) (pc := 39) dX11_row_39 (k := ?_)
        refine g_icmp_eq (M := mX11_row) (pc := 41) (tgt := 47) (by omega) (by omega) dX11_row_41 (k1 := fun h41 => ?_) (k2 := fun h41 => ?_)
        · skip
          refine g_aload_n (M := mX11_row) (pc := 47) dX11_row_47 rfl (k := ?_)
          refine g_getr (M := mX11_row) (pc := 48) (by rfl) fX11_6 kX11_29 dX11_row_48 (by rfl) (kk := ?_)
          refine g_iconst (M := mX11_row) (pc := 51) dX11_row_51 (k := ?_)
          refine g_iload_n (M := mX11_row) (pc := 52) dX11_row_52 rfl (k := ?_)
          refine g_imul (M := mX11_row) (pc := 53) dX11_row_53 (k := ?_)
          refine g_iload_n (M := mX11_row) (pc := 54) dX11_row_54 rfl (k := ?_)
          refine g_iadd (M := mX11_row) (pc := 55) dX11_row_55 (k := ?_)
          refine g_iald (M := mX11_row) (pc := 56) (by rfl) (by omega) (by omega) dX11_row_56 (kk := fun hr56 => ?_)
          refine g_istore_4 (M := mX11_row) (pc := 57) dX11_row_57 (k := ?_)
          refine g_aload_n (M := mX11_row) (pc := 59) dX11_row_59 rfl (k := ?_)
          refine g_getr (M := mX11_row) (pc := 60) (by rfl) fX11_6 kX11_29 dX11_row_60 (by rfl) (kk := ?_)
          refine g_iconst (M := mX11_row) (pc := 63) dX11_row_63 (k := ?_)
          refine g_iload_n (M := mX11_row) (pc := 64) dX11_row_64 rfl (k := ?_)
          refine g_imul (M := mX11_row) (pc := 65) dX11_row_65 (k := ?_)
          refine g_iload_n (M := mX11_row) (pc := 66) dX11_row_66 rfl (k := ?_)
          refine g_iadd (M := mX11_row) (pc := 67) dX11_row_67 (k := ?_)
          refine g_iload_n (M := mX11_row) (pc := 68) dX11_row_68 rfl (k := ?_)
          refine g_iast (M := mX11_row) (pc := 69) (by rfl) (by omega) (by omega) (by omega) dX11_row_69 (kk := ?_)
          refine g_iload (M := mX11_row) (pc := 70) dX11_row_70 rfl (k := ?_)
          refine g_iret (M := mX11_row) (pc := 72) rfl dX11_row_72 rfl ⟨_, _, rfl, rfl, ?_⟩
          refine ⟨?_, ?_, ?_⟩
          · unfold rowJ; first | exact Or.inl ⟨by first | omega | (refine ⟨by omega, by omega, ?_⟩; assumption), by first | rfl | omega, by first | rfl | (rw [show n = 1 by omega]; done) | (rw [show n = 0 by omega]; done) | (rw [show z = 1 by omega]; done) | (rw [show z = 0 by omega]; done) | (unfold zwith; first | rw [if_pos (by omega)] | rw [if_neg (by omega)])⟩ | exact Or.inr (Or.inl ⟨by first | omega | (refine ⟨by omega, by omega, ?_⟩; assumption), by first | rfl | omega, by first | rfl | (rw [show n = 1 by omega]; done) | (rw [show n = 0 by omega]; done) | (rw [show z = 1 by omega]; done) | (rw [show z = 0 by omega]; done) | (unfold zwith; first | rw [if_pos (by omega)] | rw [if_neg (by omega)])⟩) | exact Or.inr (Or.inr (Or.inl ⟨by first | omega | (refine ⟨by omega, by omega, ?_⟩; assumption), by first | rfl | omega, by first | rfl | (rw [show n = 1 by omega]; done) | (rw [show n = 0 by omega]; done) | (rw [show z = 1 by omega]; done) | (rw [show z = 0 by omega]; done) | (unfold zwith; first | rw [if_pos (by omega)] | rw [if_neg (by omega)])⟩)) | exact Or.inr (Or.inr (Or.inr (⟨by first | omega | (refine ⟨by omega, by omega, ?_⟩; assumption), by first | rfl | omega, by first | rfl | (rw [show n = 1 by omega]; done) | (rw [show n = 0 by omega]; done) | (rw [show z = 1 by omega]; done) | (rw [show z = 0 by omega]; done) | (unfold zwith; first | rw [if_pos (by omega)] | rw [if_neg (by omega)])⟩)))
          · refine jv_cell ?_ (by rfl); exact hI
          · refine Fr.up ?_ (by first | rfl | (unfold jcMm; simp; try omega)); exact (Fr.rf)
        · skip
          refine g_bipush (M := mX11_row) (pc := 44) dX11_row_44 (k := ?_)
          refine g_iret (M := mX11_row) (pc := 46) rfl dX11_row_46 rfl ⟨_, _, rfl, rfl, ?_⟩
          refine ⟨?_, ?_, ?_⟩
          · unfold rowJ; first | exact Or.inl ⟨by first | omega | (refine ⟨by omega, by omega, ?_⟩; assumption), by first | rfl | omega, by first | rfl | (rw [show n = 1 by omega]; done) | (rw [show n = 0 by omega]; done) | (rw [show z = 1 by omega]; done) | (rw [show z = 0 by omega]; done) | (unfold zwith; first | rw [if_pos (by omega)] | rw [if_neg (by omega)])⟩ | exact Or.inr (Or.inl ⟨by first | omega | (refine ⟨by omega, by omega, ?_⟩; assumption), by first | rfl | omega, by first | rfl | (rw [show n = 1 by omega]; done) | (rw [show n = 0 by omega]; done) | (rw [show z = 1 by omega]; done) | (rw [show z = 0 by omega]; done) | (unfold zwith; first | rw [if_pos (by omega)] | rw [if_neg (by omega)])⟩) | exact Or.inr (Or.inr (Or.inl ⟨by first | omega | (refine ⟨by omega, by omega, ?_⟩; assumption), by first | rfl | omega, by first | rfl | (rw [show n = 1 by omega]; done) | (rw [show n = 0 by omega]; done) | (rw [show z = 1 by omega]; done) | (rw [show z = 0 by omega]; done) | (unfold zwith; first | rw [if_pos (by omega)] | rw [if_neg (by omega)])⟩)) | exact Or.inr (Or.inr (Or.inr (⟨by first | omega | (refine ⟨by omega, by omega, ?_⟩; assumption), by first | rfl | omega, by first | rfl | (rw [show n = 1 by omega]; done) | (rw [show n = 0 by omega]; done) | (rw [show z = 1 by omega]; done) | (rw [show z = 0 by omega]; done) | (unfold zwith; first | rw [if_pos (by omega)] | rw [if_neg (by omega)])⟩)))
          · exact hI
          · exact (Fr.rf)
      · skip
        refine g_bipush (M := mX11_row) (pc := 30) dX11_row_30 (k := ?_)
        refine g_iret (M := mX11_row) (pc := 32) rfl dX11_row_32 rfl ⟨_, _, rfl, rfl, ?_⟩
        refine ⟨?_, ?_, ?_⟩
        · unfold rowJ; first | exact Or.inl ⟨by first | omega | (refine ⟨by omega, by omega, ?_⟩; assumption), by first | rfl | omega, by first | rfl | (rw [show n = 1 by omega]; done) | (rw [show n = 0 by omega]; done) | (rw [show z = 1 by omega]; done) | (rw [show z = 0 by omega]; done) | (unfold zwith; first | rw [if_pos (by omega)] | rw [if_neg (by omega)])⟩ | exact Or.inr (Or.inl ⟨by first | omega | (refine ⟨by omega, by omega, ?_⟩; assumption), by first | rfl | omega, by first | rfl | (rw [show n = 1 by omega]; done) | (rw [show n = 0 by omega]; done) | (rw [show z = 1 by omega]; done) | (rw [show z = 0 by omega]; done) | (unfold zwith; first | rw [if_pos (by omega)] | rw [if_neg (by omega)])⟩) | exact Or.inr (Or.inr (Or.inl ⟨by first | omega | (refine ⟨by omega, by omega, ?_⟩; assumption), by first | rfl | omega, by first | rfl | (rw [show n = 1 by omega]; done) | (rw [show n = 0 by omega]; done) | (rw [show z = 1 by omega]; done) | (rw [show z = 0 by omega]; done) | (unfold zwith; first | rw [if_pos (by omega)] | rw [if_neg (by omega)])⟩)) | exact Or.inr (Or.inr (Or.inr (⟨by first | omega | (refine ⟨by omega, by omega, ?_⟩; assumption), by first | rfl | omega, by first | rfl | (rw [show n = 1 by omega]; done) | (rw [show n = 0 by omega]; done) | (rw [show z = 1 by omega]; done) | (rw [show z = 0 by omega]; done) | (unfold zwith; first | rw [if_pos (by omega)] | rw [if_neg (by omega)])⟩)))
        · exact hI
        · exact (Fr.rf)
    · skip
      refine g_iconst (M := mX11_row) (pc := 18) dX11_row_18 (k := ?_)
      refine g_iret (M := mX11_row) (pc := 19) rfl dX11_row_19 rfl ⟨_, _, rfl, rfl, ?_⟩
      refine ⟨?_, ?_, ?_⟩
      · unfold rowJ; first | exact Or.inl ⟨by first | omega | (refine ⟨by omega, by omega, ?_⟩; assumption), by first | rfl | omega, by first | rfl | (rw [show n = 1 by omega]; done) | (rw [show n = 0 by omega]; done) | (rw [show z = 1 by omega]; done) | (rw [show z = 0 by omega]; done) | (unfold zwith; first | rw [if_pos (by omega)] | rw [if_neg (by omega)])⟩ | exact Or.inr (Or.inl ⟨by first | omega | (refine ⟨by omega, by omega, ?_⟩; assumption), by first | rfl | omega, by first | rfl | (rw [show n = 1 by omega]; done) | (rw [show n = 0 by omega]; done) | (rw [show z = 1 by omega]; done) | (rw [show z = 0 by omega]; done) | (unfold zwith; first | rw [if_pos (by omega)] | rw [if_neg (by omega)])⟩) | exact Or.inr (Or.inr (Or.inl ⟨by first | omega | (refine ⟨by omega, by omega, ?_⟩; assumption), by first | rfl | omega, by first | rfl | (rw [show n = 1 by omega]; done) | (rw [show n = 0 by omega]; done) | (rw [show z = 1 by omega]; done) | (rw [show z = 0 by omega]; done) | (unfold zwith; first | rw [if_pos (by omega)] | rw [if_neg (by omega)])⟩)) | exact Or.inr (Or.inr (Or.inr (⟨by first | omega | (refine ⟨by omega, by omega, ?_⟩; assumption), by first | rfl | omega, by first | rfl | (rw [show n = 1 by omega]; done) | (rw [show n = 0 by omega]; done) | (rw [show z = 1 by omega]; done) | (rw [show z = 0 by omega]; done) | (unfold zwith; first | rw [if_pos (by omega)] | rw [if_neg (by omega)])⟩)))
      · exact hI
      · exact (Fr.rf)
set_option maxHeartbeats 4000000 in
set_option maxRecDepth 20000 in
theorem c_X11_feed (Γ : KT) (t : Nat) (σ : Nat → Int → Int) (s : Int) (hI : InvJ σ) (hs : R32 s) : Ct Γ mX11_feed 2 (0, 0) [vR Γ 69, vI s] (113, ρT t, σ) (pI 113 (ρT t) (fun r σ' => (InvJ σ') ∧ (Fr jcFd σ σ'))) := by
  refine Ct.of rfl (Nat.le_of_ble_eq_true rfl) ?_
  show G Γ mX11_feed 2 (0, 0) _ (0, 0) 0 [some (vR Γ 69), some (vI s)] [] (113, ρT t, σ)
  refine g_aload_n (M := mX11_feed) (pc := 0) dX11_feed_0 rfl (k := ?_)
  refine g_iload_n (M := mX11_feed) (pc := 1) dX11_feed_1 rfl (k := ?_)
  refine g_iconst (M := mX11_feed) (pc := 2) dX11_feed_2 (k := ?_)
  refine g_bipush (M := mX11_feed) (pc := 3) dX11_feed_3 (k := ?_)
  refine g_cV3I (M := mX11_feed) (pc := 5) (c_X11_in Γ t _ _ _ _ (by omega) (by omega) (by omega)) qX11_in vX11_in sX11_in kX11_224 dX11_feed_5 (kk := ?_)
  rintro _ _ ⟨e1, e⟩; rw [e1, e]; clear e1 e
  refine g_if_neB (M := mX11_feed) (pc := 8) (tgt := 14) dX11_feed_8 (k1 := fun h8 => ?_) (k2 := fun h8 => ?_)
  · skip
    refine g_aload_n (M := mX11_feed) (pc := 14) dX11_feed_14 rfl (k := ?_)
    refine g_get (M := mX11_feed) (pc := 15) (ji := 12) (by rfl) fX11_12 kX11_47 dX11_feed_15 (kk := fun hr15 => ?_)
    have hb15 := jv69_12 hI 12 (by omega) (by omega)
    refine g_bipush (M := mX11_feed) (pc := 18) dX11_feed_18 (k := ?_)
    refine g_icmp_ne (M := mX11_feed) (pc := 20) (tgt := 26) (by omega) (by omega) dX11_feed_20 (k1 := fun h20 => ?_) (k2 := fun h20 => ?_)
    · skip
      refine g_aload_n (M := mX11_feed) (pc := 26) dX11_feed_26 rfl (k := ?_)
      refine g_getr (M := mX11_feed) (pc := 27) (by rfl) fX11_15 kX11_56 dX11_feed_27 (by rfl) (kk := ?_)
      refine g_aload_n (M := mX11_feed) (pc := 30) dX11_feed_30 rfl (k := ?_)
      refine g_get (M := mX11_feed) (pc := 31) (ji := 12) (by rfl) fX11_12 kX11_47 dX11_feed_31 (kk := fun hr31 => ?_)
      refine g_iload_n (M := mX11_feed) (pc := 34) dX11_feed_34 rfl (k := ?_)
      refine g_iast (M := mX11_feed) (pc := 35) (by rfl) (by omega) (by omega) (by omega) dX11_feed_35 (kk := ?_)
      refine g_aload_n (M := mX11_feed) (pc := 36) dX11_feed_36 rfl (k := ?_)
      refine g_dupR (M := mX11_feed) (pc := 37) dX11_feed_37 (k := ?_)
      refine g_get (M := mX11_feed) (pc := 38) (ji := 12) (by rfl) fX11_12 kX11_47 dX11_feed_38 (kk := fun hr38 => ?_)
      simp only [up_same, up_cell, up_slot, ne_eq, not_false_eq_true, Nat.reduceEqDiff, Int.reduceEq, reduceCtorEq, Nat.reduceAdd, Int.reduceAdd, Int.reduceSub] at hr38 ⊢
      refine g_iconst (M := mX11_feed) (pc := 41) dX11_feed_41 (k := ?_)
      refine g_iadd (M := mX11_feed) (pc := 42) dX11_feed_42 (k := ?_)
      refine g_put (M := mX11_feed) (pc := 43) (ji := 12) (by rfl) fX11_12 kX11_47 dX11_feed_43 (by omega) (kk := ?_)
      refine g_aload_n (M := mX11_feed) (pc := 46) dX11_feed_46 rfl (k := ?_)
      refine g_get (M := mX11_feed) (pc := 47) (ji := 12) (by rfl) fX11_12 kX11_47 dX11_feed_47 (kk := fun hr47 => ?_)
      simp only [up_same, up_cell, up_slot, ne_eq, not_false_eq_true, Nat.reduceEqDiff, Int.reduceEq, reduceCtorEq, Nat.reduceAdd, Int.reduceAdd, Int.reduceSub] at hr47 ⊢
      refine g_iret (M := mX11_feed) (pc := 50) rfl dX11_feed_50 rfl ⟨_, _, rfl, rfl, ?_⟩
      refine ⟨?_, ?_⟩
      · refine jvu69_12 ?_ (by omega) (by omega); refine jv_cell ?_ (by rfl); exact hI
      · refine Fr.up ?_ (by first | rfl | (unfold jcFd; simp; try omega)); refine Fr.up ?_ (by first | rfl | (unfold jcFd; simp; try omega)); exact (Fr.rf)
    · skip
      refine g_bipush (M := mX11_feed) (pc := 23) dX11_feed_23 (k := ?_)
      refine g_iret (M := mX11_feed) (pc := 25) rfl dX11_feed_25 rfl ⟨_, _, rfl, rfl, ?_⟩
      refine ⟨?_, ?_⟩
      · exact hI
      · exact (Fr.rf)
  · skip
    refine g_bipush (M := mX11_feed) (pc := 11) dX11_feed_11 (k := ?_)
    refine g_iret (M := mX11_feed) (pc := 13) rfl dX11_feed_13 rfl ⟨_, _, rfl, rfl, ?_⟩
    refine ⟨?_, ?_⟩
    · exact hI
    · exact (Fr.rf)
set_option maxHeartbeats 4000000 in
set_option maxRecDepth 20000 in
theorem c_X11_way (Γ : KT) (t : Nat) (σ : Nat → Int → Int) (h : Int) (hI : InvJ σ) (hh : R32 h) : Ct Γ mX11_way 3 (0, 0) [vR Γ 69, vI h] (113, ρT t, σ) (pI 113 (ρT t) (fun r σ' => (wayJ σ h r σ') ∧ (InvJ σ') ∧ (Fr jcMm σ σ'))) := by
  refine Ct.of rfl (Nat.le_of_ble_eq_true rfl) ?_
  show G Γ mX11_way 3 (0, 0) _ (0, 0) 0 [some (vR Γ 69), some (vI h)] [] (113, ρT t, σ)
  refine g_iload_n (M := mX11_way) (pc := 0) dX11_way_0 rfl (k := ?_)
  refine g_iconst (M := mX11_way) (pc := 1) dX11_way_1 (k := ?_)
  refine g_icmp_ne (M := mX11_way) (pc := 2) (tgt := 12) (by omega) (by omega) dX11_way_2 (k1 := fun h2 => ?_) (k2 := fun h2 => ?_)
  · skip
    refine g_aload_n (M := mX11_way) (pc := 12) dX11_way_12 rfl (k := ?_)
    refine g_iload_n (M := mX11_way) (pc := 13) dX11_way_13 rfl (k := ?_)
    refine g_cV1I (M := mX11_way) (pc := 14) (c_X11_isHouse Γ t _ _ hI (by omega)) qX11_isHouse vX11_isHouse sX11_isHouse kX11_232 dX11_way_14 (kk := ?_)
    rintro _ _ ⟨e1, e⟩; rw [e1, e]; clear e1 e
    have hb14_69 := jv69_0 hI 0 (by omega) (by omega)
    refine g_if_neB (M := mX11_way) (pc := 17) (tgt := 22) dX11_way_17 (k1 := fun h17 => ?_) (k2 := fun h17 => ?_)
    · skip
      refine g_aload_n (M := mX11_way) (pc := 22) dX11_way_22 rfl (k := ?_)
      refine g_get (M := mX11_way) (pc := 23) (ji := 34) (by rfl) fX11_34 kX11_114 dX11_way_23 (kk := fun hr23 => ?_)
      have hb23 := jv69_34 hI 34 (by omega) (by omega)
      refine g_bipush (M := mX11_way) (pc := 26) dX11_way_26 (k := ?_)
      refine g_icmp_ne (M := mX11_way) (pc := 28) (tgt := 34) (by omega) (by omega) dX11_way_28 (k1 := fun h28 => ?_) (k2 := fun h28 => ?_)
      · skip
        refine g_aload_n (M := mX11_way) (pc := 34) dX11_way_34 rfl (k := ?_)
        refine g_getr (M := mX11_way) (pc := 35) (by rfl) fX11_35 kX11_117 dX11_way_35 (by rfl) (kk := ?_)
        refine g_aload_n (M := mX11_way) (pc := 38) dX11_way_38 rfl (k := ?_)
        refine g_get (M := mX11_way) (pc := 39) (ji := 34) (by rfl) fX11_34 kX11_114 dX11_way_39 (kk := fun hr39 => ?_)
        refine g_iload_n (M := mX11_way) (pc := 42) dX11_way_42 rfl (k := ?_)
        refine g_iast (M := mX11_way) (pc := 43) (by rfl) (by omega) (by omega) (by omega) dX11_way_43 (kk := ?_)
        refine g_aload_n (M := mX11_way) (pc := 44) dX11_way_44 rfl (k := ?_)
        refine g_dupR (M := mX11_way) (pc := 45) dX11_way_45 (k := ?_)
        refine g_get (M := mX11_way) (pc := 46) (ji := 34) (by rfl) fX11_34 kX11_114 dX11_way_46 (kk := fun hr46 => ?_)
        simp only [up_same, up_cell, up_slot, ne_eq, not_false_eq_true, Nat.reduceEqDiff, Int.reduceEq, reduceCtorEq, Nat.reduceAdd, Int.reduceAdd, Int.reduceSub] at hr46 ⊢
        refine g_iconst (M := mX11_way) (pc := 49) dX11_way_49 (k := ?_)
        refine g_iadd (M := mX11_way) (pc := 50) dX11_way_50 (k := ?_)
        refine g_put (M := mX11_way) (pc := 51) (ji := 34) (by rfl) fX11_34 kX11_114 dX11_way_51 (by omega) (kk := ?_)
        refine g_aload_n (M := mX11_way) (pc := 54) dX11_way_54 rfl (k := ?_)
        refine g_get (M := mX11_way) (pc := 55) (ji := 34) (by rfl) fX11_34 kX11_114 dX11_way_55 (kk := fun hr55 => ?_)
        simp only [up_same, up_cell, up_slot, ne_eq, not_false_eq_true, Nat.reduceEqDiff, Int.reduceEq, reduceCtorEq, Nat.reduceAdd, Int.reduceAdd, Int.reduceSub] at hr55 ⊢
        refine g_iret (M := mX11_way) (pc := 58) rfl dX11_way_58 rfl ⟨_, _, rfl, rfl, ?_⟩
        refine ⟨?_, ?_, ?_⟩
        · unfold wayJ; first | exact Or.inl ⟨by first | omega | (refine ⟨by omega, by omega, ?_⟩; assumption), by first | rfl | omega, by first | rfl | (rw [show n = 1 by omega]; done) | (rw [show n = 0 by omega]; done) | (rw [show z = 1 by omega]; done) | (rw [show z = 0 by omega]; done) | (unfold zwith; first | rw [if_pos (by omega)] | rw [if_neg (by omega)])⟩ | exact Or.inr (Or.inl ⟨by first | omega | (refine ⟨by omega, by omega, ?_⟩; assumption), by first | rfl | omega, by first | rfl | (rw [show n = 1 by omega]; done) | (rw [show n = 0 by omega]; done) | (rw [show z = 1 by omega]; done) | (rw [show z = 0 by omega]; done) | (unfold zwith; first | rw [if_pos (by omega)] | rw [if_neg (by omega)])⟩) | exact Or.inr (Or.inr (Or.inl ⟨by first | omega | (refine ⟨by omega, by omega, ?_⟩; assumption), by first | rfl | omega, by first | rfl | (rw [show n = 1 by omega]; done) | (rw [show n = 0 by omega]; done) | (rw [show z = 1 by omega]; done) | (rw [show z = 0 by omega]; done) | (unfold zwith; first | rw [if_pos (by omega)] | rw [if_neg (by omega)])⟩)) | exact Or.inr (Or.inr (Or.inr (⟨by first | omega | (refine ⟨by omega, by omega, ?_⟩; assumption), by first | rfl | omega, by first | rfl | (rw [show n = 1 by omega]; done) | (rw [show n = 0 by omega]; done) | (rw [show z = 1 by omega]; done) | (rw [show z = 0 by omega]; done) | (unfold zwith; first | rw [if_pos (by omega)] | rw [if_neg (by omega)])⟩)))
        · refine jvu69_34 ?_ (by omega) (by omega); refine jvu88 ?_ (by omega) (by omega); exact hI
        · refine Fr.up ?_ (by first | rfl | (unfold jcMm; simp; try omega)); refine Fr.up ?_ (by first | rfl | (unfold jcMm; simp; try omega)); exact (Fr.rf)
      · skip
        refine g_bipush (M := mX11_way) (pc := 31) dX11_way_31 (k := ?_)
        refine g_iret (M := mX11_way) (pc := 33) rfl dX11_way_33 rfl ⟨_, _, rfl, rfl, ?_⟩
        refine ⟨?_, ?_, ?_⟩
        · unfold wayJ; first | exact Or.inl ⟨by first | omega | (refine ⟨by omega, by omega, ?_⟩; assumption), by first | rfl | omega, by first | rfl | (rw [show n = 1 by omega]; done) | (rw [show n = 0 by omega]; done) | (rw [show z = 1 by omega]; done) | (rw [show z = 0 by omega]; done) | (unfold zwith; first | rw [if_pos (by omega)] | rw [if_neg (by omega)])⟩ | exact Or.inr (Or.inl ⟨by first | omega | (refine ⟨by omega, by omega, ?_⟩; assumption), by first | rfl | omega, by first | rfl | (rw [show n = 1 by omega]; done) | (rw [show n = 0 by omega]; done) | (rw [show z = 1 by omega]; done) | (rw [show z = 0 by omega]; done) | (unfold zwith; first | rw [if_pos (by omega)] | rw [if_neg (by omega)])⟩) | exact Or.inr (Or.inr (Or.inl ⟨by first | omega | (refine ⟨by omega, by omega, ?_⟩; assumption), by first | rfl | omega, by first | rfl | (rw [show n = 1 by omega]; done) | (rw [show n = 0 by omega]; done) | (rw [show z = 1 by omega]; done) | (rw [show z = 0 by omega]; done) | (unfold zwith; first | rw [if_pos (by omega)] | rw [if_neg (by omega)])⟩)) | exact Or.inr (Or.inr (Or.inr (⟨by first | omega | (refine ⟨by omega, by omega, ?_⟩; assumption), by first | rfl | omega, by first | rfl | (rw [show n = 1 by omega]; done) | (rw [show n = 0 by omega]; done) | (rw [show z = 1 by omega]; done) | (rw [show z = 0 by omega]; done) | (unfold zwith; first | rw [if_pos (by omega)] | rw [if_neg (by omega)])⟩)))
        · exact hI
        · exact (Fr.rf)
    · skip
      refine g_iconst (M := mX11_way) (pc := 20) dX11_way_20 (k := ?_)
      refine g_iret (M := mX11_way) (pc := 21) rfl dX11_way_21 rfl ⟨_, _, rfl, rfl, ?_⟩
      refine ⟨?_, ?_, ?_⟩
      · unfold wayJ; first | exact Or.inl ⟨by first | omega | (refine ⟨by omega, by omega, ?_⟩; assumption), by first | rfl | omega, by first | rfl | (rw [show n = 1 by omega]; done) | (rw [show n = 0 by omega]; done) | (rw [show z = 1 by omega]; done) | (rw [show z = 0 by omega]; done) | (unfold zwith; first | rw [if_pos (by omega)] | rw [if_neg (by omega)])⟩ | exact Or.inr (Or.inl ⟨by first | omega | (refine ⟨by omega, by omega, ?_⟩; assumption), by first | rfl | omega, by first | rfl | (rw [show n = 1 by omega]; done) | (rw [show n = 0 by omega]; done) | (rw [show z = 1 by omega]; done) | (rw [show z = 0 by omega]; done) | (unfold zwith; first | rw [if_pos (by omega)] | rw [if_neg (by omega)])⟩) | exact Or.inr (Or.inr (Or.inl ⟨by first | omega | (refine ⟨by omega, by omega, ?_⟩; assumption), by first | rfl | omega, by first | rfl | (rw [show n = 1 by omega]; done) | (rw [show n = 0 by omega]; done) | (rw [show z = 1 by omega]; done) | (rw [show z = 0 by omega]; done) | (unfold zwith; first | rw [if_pos (by omega)] | rw [if_neg (by omega)])⟩)) | exact Or.inr (Or.inr (Or.inr (⟨by first | omega | (refine ⟨by omega, by omega, ?_⟩; assumption), by first | rfl | omega, by first | rfl | (rw [show n = 1 by omega]; done) | (rw [show n = 0 by omega]; done) | (rw [show z = 1 by omega]; done) | (rw [show z = 0 by omega]; done) | (unfold zwith; first | rw [if_pos (by omega)] | rw [if_neg (by omega)])⟩)))
      · exact hI
      · exact (Fr.rf)
  · skip
    refine g_aload_n (M := mX11_way) (pc := 5) dX11_way_5 rfl (k := ?_)
    refine g_iconst (M := mX11_way) (pc := 6) dX11_way_6 (k := ?_)
    refine g_put (M := mX11_way) (pc := 7) (ji := 34) (by rfl) fX11_34 kX11_114 dX11_way_7 (by omega) (kk := ?_)
    refine g_iconst (M := mX11_way) (pc := 10) dX11_way_10 (k := ?_)
    refine g_iret (M := mX11_way) (pc := 11) rfl dX11_way_11 rfl ⟨_, _, rfl, rfl, ?_⟩
    refine ⟨?_, ?_, ?_⟩
    · unfold wayJ; first | exact Or.inl ⟨by first | omega | (refine ⟨by omega, by omega, ?_⟩; assumption), by first | rfl | omega, by first | rfl | (rw [show n = 1 by omega]; done) | (rw [show n = 0 by omega]; done) | (rw [show z = 1 by omega]; done) | (rw [show z = 0 by omega]; done) | (unfold zwith; first | rw [if_pos (by omega)] | rw [if_neg (by omega)])⟩ | exact Or.inr (Or.inl ⟨by first | omega | (refine ⟨by omega, by omega, ?_⟩; assumption), by first | rfl | omega, by first | rfl | (rw [show n = 1 by omega]; done) | (rw [show n = 0 by omega]; done) | (rw [show z = 1 by omega]; done) | (rw [show z = 0 by omega]; done) | (unfold zwith; first | rw [if_pos (by omega)] | rw [if_neg (by omega)])⟩) | exact Or.inr (Or.inr (Or.inl ⟨by first | omega | (refine ⟨by omega, by omega, ?_⟩; assumption), by first | rfl | omega, by first | rfl | (rw [show n = 1 by omega]; done) | (rw [show n = 0 by omega]; done) | (rw [show z = 1 by omega]; done) | (rw [show z = 0 by omega]; done) | (unfold zwith; first | rw [if_pos (by omega)] | rw [if_neg (by omega)])⟩)) | exact Or.inr (Or.inr (Or.inr (⟨by first | omega | (refine ⟨by omega, by omega, ?_⟩; assumption), by first | rfl | omega, by first | rfl | (rw [show n = 1 by omega]; done) | (rw [show n = 0 by omega]; done) | (rw [show z = 1 by omega]; done) | (rw [show z = 0 by omega]; done) | (unfold zwith; first | rw [if_pos (by omega)] | rw [if_neg (by omega)])⟩)))
    · refine jvu69_34 ?_ (by omega) (by omega); exact hI
    · refine Fr.up ?_ (by first | rfl | (unfold jcMm; simp; try omega)); exact (Fr.rf)
set_option maxHeartbeats 4000000 in
set_option maxRecDepth 20000 in
theorem c_X11_watch (Γ : KT) (t : Nat) (σ : Nat → Int → Int) (h : Int) (z : Int) (hI : InvJ σ) (hh : R32 h) (hz : R32 z) (hz : 0 ≤ z ∧ z ≤ 1) : Ct Γ mX11_watch 3 (0, 0) [vR Γ 69, vI h, vI z] (113, ρT t, σ) (pI 113 (ρT t) (fun r σ' => (watchJ σ h z r σ') ∧ (InvJ σ') ∧ (Fr jcMm σ σ'))) := by
  refine Ct.of rfl (Nat.le_of_ble_eq_true rfl) ?_
  show G Γ mX11_watch 3 (0, 0) _ (0, 0) 0 [some (vR Γ 69), some (vI h), some (vI z)] [] (113, ρT t, σ)
  refine g_iload_n (M := mX11_watch) (pc := 0) dX11_watch_0 rfl (k := ?_)
  refine g_iconst (M := mX11_watch) (pc := 1) dX11_watch_1 (k := ?_)
  refine g_icmp_ne (M := mX11_watch) (pc := 2) (tgt := 12) (by omega) (by omega) dX11_watch_2 (k1 := fun h2 => ?_) (k2 := fun h2 => ?_)
  · skip
    refine g_aload_n (M := mX11_watch) (pc := 12) dX11_watch_12 rfl (k := ?_)
    refine g_iload_n (M := mX11_watch) (pc := 13) dX11_watch_13 rfl (k := ?_)
    refine g_cV1I (M := mX11_watch) (pc := 14) (c_X11_isHouse Γ t _ _ hI (by omega)) qX11_isHouse vX11_isHouse sX11_isHouse kX11_232 dX11_watch_14 (kk := ?_)
    rintro _ _ ⟨e1, e⟩; rw [e1, e]; clear e1 e
    have hb14_69 := jv69_0 hI 0 (by omega) (by omega)
    refine g_if_neB (M := mX11_watch) (pc := 17) (tgt := 22) dX11_watch_17 (k1 := fun h17 => ?_) (k2 := fun h17 => ?_)
    · skip
      refine g_aload_n (M := mX11_watch) (pc := 22) dX11_watch_22 rfl (k := ?_)
      refine g_get (M := mX11_watch) (pc := 23) (ji := 38) (by rfl) fX11_38 kX11_126 dX11_watch_23 (kk := fun hr23 => ?_)
      have hb23 := jv69_38 hI 38 (by omega) (by omega)
      refine g_bipush (M := mX11_watch) (pc := 26) dX11_watch_26 (k := ?_)
      refine g_icmp_ne (M := mX11_watch) (pc := 28) (tgt := 34) (by omega) (by omega) dX11_watch_28 (k1 := fun h28 => ?_) (k2 := fun h28 => ?_)
      · skip
        refine g_aload_n (M := mX11_watch) (pc := 34) dX11_watch_34 rfl (k := ?_)
        refine g_getr (M := mX11_watch) (pc := 35) (by rfl) fX11_39 kX11_129 dX11_watch_35 (by rfl) (kk := ?_)
        refine g_aload_n (M := mX11_watch) (pc := 38) dX11_watch_38 rfl (k := ?_)
        refine g_get (M := mX11_watch) (pc := 39) (ji := 38) (by rfl) fX11_38 kX11_126 dX11_watch_39 (kk := fun hr39 => ?_)
        refine g_iload_n (M := mX11_watch) (pc := 42) dX11_watch_42 rfl (k := ?_)
        refine g_iast (M := mX11_watch) (pc := 43) (by rfl) (by omega) (by omega) (by omega) dX11_watch_43 (kk := ?_)
        refine g_aload_n (M := mX11_watch) (pc := 44) dX11_watch_44 rfl (k := ?_)
        refine g_getr (M := mX11_watch) (pc := 45) (by rfl) fX11_40 kX11_132 dX11_watch_45 (by rfl) (kk := ?_)
        refine g_aload_n (M := mX11_watch) (pc := 48) dX11_watch_48 rfl (k := ?_)
        refine g_get (M := mX11_watch) (pc := 49) (ji := 38) (by rfl) fX11_38 kX11_126 dX11_watch_49 (kk := fun hr49 => ?_)
        simp only [up_same, up_cell, up_slot, ne_eq, not_false_eq_true, Nat.reduceEqDiff, Int.reduceEq, reduceCtorEq, Nat.reduceAdd, Int.reduceAdd, Int.reduceSub] at hr49 ⊢
        refine g_iload_n (M := mX11_watch) (pc := 52) dX11_watch_52 rfl (k := ?_)
        refine g_zast (M := mX11_watch) (pc := 53) (by rfl) (by omega) (by omega) (by omega) dX11_watch_53 (kk := ?_)
        refine g_aload_n (M := mX11_watch) (pc := 54) dX11_watch_54 rfl (k := ?_)
        refine g_dupR (M := mX11_watch) (pc := 55) dX11_watch_55 (k := ?_)
        refine g_get (M := mX11_watch) (pc := 56) (ji := 38) (by rfl) fX11_38 kX11_126 dX11_watch_56 (kk := fun hr56 => ?_)
        simp only [up_same, up_cell, up_slot, ne_eq, not_false_eq_true, Nat.reduceEqDiff, Int.reduceEq, reduceCtorEq, Nat.reduceAdd, Int.reduceAdd, Int.reduceSub] at hr56 ⊢
        refine g_iconst (M := mX11_watch) (pc := 59) dX11_watch_59 (k := ?_)
        refine g_iadd (M := mX11_watch) (pc := 60) dX11_watch_60 (k := ?_)
        refine g_put (M := mX11_watch) (pc := 61) (ji := 38) (by rfl) fX11_38 kX11_126 dX11_watch_61 (by omega) (kk := ?_)
        refine g_aload_n (M := mX11_watch) (pc := 64) dX11_watch_64 rfl (k := ?_)
        refine g_get (M := mX11_watch) (pc := 65) (ji := 38) (by rfl) fX11_38 kX11_126 dX11_watch_65 (kk := fun hr65 => ?_)
        simp only [up_same, up_cell, up_slot, ne_eq, not_false_eq_true, Nat.reduceEqDiff, Int.reduceEq, reduceCtorEq, Nat.reduceAdd, Int.reduceAdd, Int.reduceSub] at hr65 ⊢
        refine g_iret (M := mX11_watch) (pc := 68) rfl dX11_watch_68 rfl ⟨_, _, rfl, rfl, ?_⟩
        refine ⟨?_, ?_, ?_⟩
        · unfold watchJ; first | exact Or.inl ⟨by first | omega | (refine ⟨by omega, by omega, ?_⟩; assumption), by first | rfl | omega, by first | rfl | (rw [show n = 1 by omega]; done) | (rw [show n = 0 by omega]; done) | (rw [show z = 1 by omega]; done) | (rw [show z = 0 by omega]; done) | (unfold zwith; first | rw [if_pos (by omega)] | rw [if_neg (by omega)])⟩ | exact Or.inr (Or.inl ⟨by first | omega | (refine ⟨by omega, by omega, ?_⟩; assumption), by first | rfl | omega, by first | rfl | (rw [show n = 1 by omega]; done) | (rw [show n = 0 by omega]; done) | (rw [show z = 1 by omega]; done) | (rw [show z = 0 by omega]; done) | (unfold zwith; first | rw [if_pos (by omega)] | rw [if_neg (by omega)])⟩) | exact Or.inr (Or.inr (Or.inl ⟨by first | omega | (refine ⟨by omega, by omega, ?_⟩; assumption), by first | rfl | omega, by first | rfl | (rw [show n = 1 by omega]; done) | (rw [show n = 0 by omega]; done) | (rw [show z = 1 by omega]; done) | (rw [show z = 0 by omega]; done) | (unfold zwith; first | rw [if_pos (by omega)] | rw [if_neg (by omega)])⟩)) | exact Or.inr (Or.inr (Or.inr (⟨by first | omega | (refine ⟨by omega, by omega, ?_⟩; assumption), by first | rfl | omega, by first | rfl | (rw [show n = 1 by omega]; done) | (rw [show n = 0 by omega]; done) | (rw [show z = 1 by omega]; done) | (rw [show z = 0 by omega]; done) | (unfold zwith; first | rw [if_pos (by omega)] | rw [if_neg (by omega)])⟩)))
        · refine jvu69_38 ?_ (by omega) (by omega); refine jvu92 ?_ (by omega) (by omega); refine jvu91 ?_ (by omega) (by omega); exact hI
        · refine Fr.up ?_ (by first | rfl | (unfold jcMm; simp; try omega)); refine Fr.up ?_ (by first | rfl | (unfold jcMm; simp; try omega)); refine Fr.up ?_ (by first | rfl | (unfold jcMm; simp; try omega)); exact (Fr.rf)
      · skip
        refine g_bipush (M := mX11_watch) (pc := 31) dX11_watch_31 (k := ?_)
        refine g_iret (M := mX11_watch) (pc := 33) rfl dX11_watch_33 rfl ⟨_, _, rfl, rfl, ?_⟩
        refine ⟨?_, ?_, ?_⟩
        · unfold watchJ; first | exact Or.inl ⟨by first | omega | (refine ⟨by omega, by omega, ?_⟩; assumption), by first | rfl | omega, by first | rfl | (rw [show n = 1 by omega]; done) | (rw [show n = 0 by omega]; done) | (rw [show z = 1 by omega]; done) | (rw [show z = 0 by omega]; done) | (unfold zwith; first | rw [if_pos (by omega)] | rw [if_neg (by omega)])⟩ | exact Or.inr (Or.inl ⟨by first | omega | (refine ⟨by omega, by omega, ?_⟩; assumption), by first | rfl | omega, by first | rfl | (rw [show n = 1 by omega]; done) | (rw [show n = 0 by omega]; done) | (rw [show z = 1 by omega]; done) | (rw [show z = 0 by omega]; done) | (unfold zwith; first | rw [if_pos (by omega)] | rw [if_neg (by omega)])⟩) | exact Or.inr (Or.inr (Or.inl ⟨by first | omega | (refine ⟨by omega, by omega, ?_⟩; assumption), by first | rfl | omega, by first | rfl | (rw [show n = 1 by omega]; done) | (rw [show n = 0 by omega]; done) | (rw [show z = 1 by omega]; done) | (rw [show z = 0 by omega]; done) | (unfold zwith; first | rw [if_pos (by omega)] | rw [if_neg (by omega)])⟩)) | exact Or.inr (Or.inr (Or.inr (⟨by first | omega | (refine ⟨by omega, by omega, ?_⟩; assumption), by first | rfl | omega, by first | rfl | (rw [show n = 1 by omega]; done) | (rw [show n = 0 by omega]; done) | (rw [show z = 1 by omega]; done) | (rw [show z = 0 by omega]; done) | (unfold zwith; first | rw [if_pos (by omega)] | rw [if_neg (by omega)])⟩)))
        · exact hI
        · exact (Fr.rf)
    · skip
      refine g_iconst (M := mX11_watch) (pc := 20) dX11_watch_20 (k := ?_)
      refine g_iret (M := mX11_watch) (pc := 21) rfl dX11_watch_21 rfl ⟨_, _, rfl, rfl, ?_⟩
      refine ⟨?_, ?_, ?_⟩
      · unfold watchJ; first | exact Or.inl ⟨by first | omega | (refine ⟨by omega, by omega, ?_⟩; assumption), by first | rfl | omega, by first | rfl | (rw [show n = 1 by omega]; done) | (rw [show n = 0 by omega]; done) | (rw [show z = 1 by omega]; done) | (rw [show z = 0 by omega]; done) | (unfold zwith; first | rw [if_pos (by omega)] | rw [if_neg (by omega)])⟩ | exact Or.inr (Or.inl ⟨by first | omega | (refine ⟨by omega, by omega, ?_⟩; assumption), by first | rfl | omega, by first | rfl | (rw [show n = 1 by omega]; done) | (rw [show n = 0 by omega]; done) | (rw [show z = 1 by omega]; done) | (rw [show z = 0 by omega]; done) | (unfold zwith; first | rw [if_pos (by omega)] | rw [if_neg (by omega)])⟩) | exact Or.inr (Or.inr (Or.inl ⟨by first | omega | (refine ⟨by omega, by omega, ?_⟩; assumption), by first | rfl | omega, by first | rfl | (rw [show n = 1 by omega]; done) | (rw [show n = 0 by omega]; done) | (rw [show z = 1 by omega]; done) | (rw [show z = 0 by omega]; done) | (unfold zwith; first | rw [if_pos (by omega)] | rw [if_neg (by omega)])⟩)) | exact Or.inr (Or.inr (Or.inr (⟨by first | omega | (refine ⟨by omega, by omega, ?_⟩; assumption), by first | rfl | omega, by first | rfl | (rw [show n = 1 by omega]; done) | (rw [show n = 0 by omega]; done) | (rw [show z = 1 by omega]; done) | (rw [show z = 0 by omega]; done) | (unfold zwith; first | rw [if_pos (by omega)] | rw [if_neg (by omega)])⟩)))
      · exact hI
      · exact (Fr.rf)
  · skip
    refine g_aload_n (M := mX11_watch) (pc := 5) dX11_watch_5 rfl (k := ?_)
    refine g_iconst (M := mX11_watch) (pc := 6) dX11_watch_6 (k := ?_)
    refine g_put (M := mX11_watch) (pc := 7) (ji := 38) (by rfl) fX11_38 kX11_126 dX11_watch_7 (by omega) (kk := ?_)
    refine g_iconst (M := mX11_watch) (pc := 10) dX11_watch_10 (k := ?_)
    refine g_iret (M := mX11_watch) (pc := 11) rfl dX11_watch_11 rfl ⟨_, _, rfl, rfl, ?_⟩
    refine ⟨?_, ?_, ?_⟩
    · unfold watchJ; first | exact Or.inl ⟨by first | omega | (refine ⟨by omega, by omega, ?_⟩; assumption), by first | rfl | omega, by first | rfl | (rw [show n = 1 by omega]; done) | (rw [show n = 0 by omega]; done) | (rw [show z = 1 by omega]; done) | (rw [show z = 0 by omega]; done) | (unfold zwith; first | rw [if_pos (by omega)] | rw [if_neg (by omega)])⟩ | exact Or.inr (Or.inl ⟨by first | omega | (refine ⟨by omega, by omega, ?_⟩; assumption), by first | rfl | omega, by first | rfl | (rw [show n = 1 by omega]; done) | (rw [show n = 0 by omega]; done) | (rw [show z = 1 by omega]; done) | (rw [show z = 0 by omega]; done) | (unfold zwith; first | rw [if_pos (by omega)] | rw [if_neg (by omega)])⟩) | exact Or.inr (Or.inr (Or.inl ⟨by first | omega | (refine ⟨by omega, by omega, ?_⟩; assumption), by first | rfl | omega, by first | rfl | (rw [show n = 1 by omega]; done) | (rw [show n = 0 by omega]; done) | (rw [show z = 1 by omega]; done) | (rw [show z = 0 by omega]; done) | (unfold zwith; first | rw [if_pos (by omega)] | rw [if_neg (by omega)])⟩)) | exact Or.inr (Or.inr (Or.inr (⟨by first | omega | (refine ⟨by omega, by omega, ?_⟩; assumption), by first | rfl | omega, by first | rfl | (rw [show n = 1 by omega]; done) | (rw [show n = 0 by omega]; done) | (rw [show z = 1 by omega]; done) | (rw [show z = 0 by omega]; done) | (unfold zwith; first | rw [if_pos (by omega)] | rw [if_neg (by omega)])⟩)))
    · refine jvu69_38 ?_ (by omega) (by omega); exact hI
    · refine Fr.up ?_ (by first | rfl | (unfold jcMm; simp; try omega)); exact (Fr.rf)
set_option maxHeartbeats 4000000 in
set_option maxRecDepth 20000 in
theorem c_X11_book (Γ : KT) (t : Nat) (σ : Nat → Int → Int) (f : Int) (h : Int) (hI : InvJ σ) (hS : JS σ) (hf : R32 f) (hh : R32 h) : Ct Γ mX11_book 3 (0, 0) [vR Γ 69, vI f, vI h] (113, ρT t, σ) (pI 113 (ρT t) (fun r σ' => (JS σ') ∧ (bookJ σ f h r σ') ∧ (InvJ σ') ∧ (Fr jcMk σ σ'))) := by
  refine Ct.of rfl (Nat.le_of_ble_eq_true rfl) ?_
  show G Γ mX11_book 3 (0, 0) _ (0, 0) 0 [some (vR Γ 69), some (vI f), some (vI h)] [] (113, ρT t, σ)
  refine g_iload_n (M := mX11_book) (pc := 0) dX11_book_0 rfl (k := ?_)
  refine g_iconst (M := mX11_book) (pc := 1) dX11_book_1 (k := ?_)
  refine g_icmp_ne (M := mX11_book) (pc := 2) (tgt := 12) (by omega) (by omega) dX11_book_2 (k1 := fun h2 => ?_) (k2 := fun h2 => ?_)
  · skip
    refine g_aload_n (M := mX11_book) (pc := 12) dX11_book_12 rfl (k := ?_)
    refine g_iload_n (M := mX11_book) (pc := 13) dX11_book_13 rfl (k := ?_)
    refine g_cV1I (M := mX11_book) (pc := 14) (c_X11_isFolk Γ t _ _ hI (by omega)) qX11_isFolk vX11_isFolk sX11_isFolk kX11_236 dX11_book_14 (kk := ?_)
    rintro _ _ ⟨e1, e⟩; rw [e1, e]; clear e1 e
    have hb14_69 := jv69_1 hI 1 (by omega) (by omega)
    refine g_if_eqB (M := mX11_book) (pc := 17) (tgt := 28) dX11_book_17 (k1 := fun h17 => ?_) (k2 := fun h17 => ?_)
    · skip
      refine g_iconst (M := mX11_book) (pc := 28) dX11_book_28 (k := ?_)
      refine g_iret (M := mX11_book) (pc := 29) rfl dX11_book_29 rfl ⟨_, _, rfl, rfl, ?_⟩
      refine ⟨?_, ?_, ?_, ?_⟩
      · first | exact hS | exact JS_book0 hS | exact JS_book hS (by omega) (by omega)
      · unfold bookJ; first | exact Or.inl ⟨by first | omega | (refine ⟨by omega, by omega, ?_⟩; assumption), by first | rfl | omega, by first | rfl | (rw [show n = 1 by omega]; done) | (rw [show n = 0 by omega]; done) | (rw [show z = 1 by omega]; done) | (rw [show z = 0 by omega]; done) | (unfold zwith; first | rw [if_pos (by omega)] | rw [if_neg (by omega)])⟩ | exact Or.inr (Or.inl ⟨by first | omega | (refine ⟨by omega, by omega, ?_⟩; assumption), by first | rfl | omega, by first | rfl | (rw [show n = 1 by omega]; done) | (rw [show n = 0 by omega]; done) | (rw [show z = 1 by omega]; done) | (rw [show z = 0 by omega]; done) | (unfold zwith; first | rw [if_pos (by omega)] | rw [if_neg (by omega)])⟩) | exact Or.inr (Or.inr (Or.inl ⟨by first | omega | (refine ⟨by omega, by omega, ?_⟩; assumption), by first | rfl | omega, by first | rfl | (rw [show n = 1 by omega]; done) | (rw [show n = 0 by omega]; done) | (rw [show z = 1 by omega]; done) | (rw [show z = 0 by omega]; done) | (unfold zwith; first | rw [if_pos (by omega)] | rw [if_neg (by omega)])⟩)) | exact Or.inr (Or.inr (Or.inr (⟨by first | omega | (refine ⟨by omega, by omega, ?_⟩; assumption), by first | rfl | omega, by first | rfl | (rw [show n = 1 by omega]; done) | (rw [show n = 0 by omega]; done) | (rw [show z = 1 by omega]; done) | (rw [show z = 0 by omega]; done) | (unfold zwith; first | rw [if_pos (by omega)] | rw [if_neg (by omega)])⟩)))
      · exact hI
      · exact (Fr.rf)
    · skip
      refine g_aload_n (M := mX11_book) (pc := 20) dX11_book_20 rfl (k := ?_)
      refine g_iload_n (M := mX11_book) (pc := 21) dX11_book_21 rfl (k := ?_)
      refine g_cV1I (M := mX11_book) (pc := 22) (c_X11_isHouse Γ t _ _ hI (by omega)) qX11_isHouse vX11_isHouse sX11_isHouse kX11_232 dX11_book_22 (kk := ?_)
      rintro _ _ ⟨e1, e⟩; rw [e1, e]; clear e1 e
      have hb22_69 := jv69_0 hI 0 (by omega) (by omega)
      refine g_if_neB (M := mX11_book) (pc := 25) (tgt := 30) dX11_book_25 (k1 := fun h25 => ?_) (k2 := fun h25 => ?_)
      · skip
        refine g_aload_n (M := mX11_book) (pc := 30) dX11_book_30 rfl (k := ?_)
        refine g_get (M := mX11_book) (pc := 31) (ji := 41) (by rfl) fX11_41 kX11_135 dX11_book_31 (kk := fun hr31 => ?_)
        have hb31 := jv69_41 hI 41 (by omega) (by omega)
        refine g_bipush (M := mX11_book) (pc := 34) dX11_book_34 (k := ?_)
        refine g_icmp_ne (M := mX11_book) (pc := 36) (tgt := 42) (by omega) (by omega) dX11_book_36 (k1 := fun h36 => ?_) (k2 := fun h36 => ?_)
        · skip
          refine g_aload_n (M := mX11_book) (pc := 42) dX11_book_42 rfl (k := ?_)
          refine g_getr (M := mX11_book) (pc := 43) (by rfl) fX11_42 kX11_138 dX11_book_43 (by rfl) (kk := ?_)
          refine g_aload_n (M := mX11_book) (pc := 46) dX11_book_46 rfl (k := ?_)
          refine g_get (M := mX11_book) (pc := 47) (ji := 41) (by rfl) fX11_41 kX11_135 dX11_book_47 (kk := fun hr47 => ?_)
          refine g_iload_n (M := mX11_book) (pc := 50) dX11_book_50 rfl (k := ?_)
          refine g_iast (M := mX11_book) (pc := 51) (by rfl) (by omega) (by omega) (by omega) dX11_book_51 (kk := ?_)
          refine g_aload_n (M := mX11_book) (pc := 52) dX11_book_52 rfl (k := ?_)
          refine g_getr (M := mX11_book) (pc := 53) (by rfl) fX11_43 kX11_141 dX11_book_53 (by rfl) (kk := ?_)
          refine g_aload_n (M := mX11_book) (pc := 56) dX11_book_56 rfl (k := ?_)
          refine g_get (M := mX11_book) (pc := 57) (ji := 41) (by rfl) fX11_41 kX11_135 dX11_book_57 (kk := fun hr57 => ?_)
          simp only [up_same, up_cell, up_slot, ne_eq, not_false_eq_true, Nat.reduceEqDiff, Int.reduceEq, reduceCtorEq, Nat.reduceAdd, Int.reduceAdd, Int.reduceSub] at hr57 ⊢
          refine g_iload_n (M := mX11_book) (pc := 60) dX11_book_60 rfl (k := ?_)
          refine g_iast (M := mX11_book) (pc := 61) (by rfl) (by omega) (by omega) (by omega) dX11_book_61 (kk := ?_)
          refine g_aload_n (M := mX11_book) (pc := 62) dX11_book_62 rfl (k := ?_)
          refine g_dupR (M := mX11_book) (pc := 63) dX11_book_63 (k := ?_)
          refine g_get (M := mX11_book) (pc := 64) (ji := 41) (by rfl) fX11_41 kX11_135 dX11_book_64 (kk := fun hr64 => ?_)
          simp only [up_same, up_cell, up_slot, ne_eq, not_false_eq_true, Nat.reduceEqDiff, Int.reduceEq, reduceCtorEq, Nat.reduceAdd, Int.reduceAdd, Int.reduceSub] at hr64 ⊢
          refine g_iconst (M := mX11_book) (pc := 67) dX11_book_67 (k := ?_)
          refine g_iadd (M := mX11_book) (pc := 68) dX11_book_68 (k := ?_)
          refine g_put (M := mX11_book) (pc := 69) (ji := 41) (by rfl) fX11_41 kX11_135 dX11_book_69 (by omega) (kk := ?_)
          refine g_aload_n (M := mX11_book) (pc := 72) dX11_book_72 rfl (k := ?_)
          refine g_get (M := mX11_book) (pc := 73) (ji := 41) (by rfl) fX11_41 kX11_135 dX11_book_73 (kk := fun hr73 => ?_)
          simp only [up_same, up_cell, up_slot, ne_eq, not_false_eq_true, Nat.reduceEqDiff, Int.reduceEq, reduceCtorEq, Nat.reduceAdd, Int.reduceAdd, Int.reduceSub] at hr73 ⊢
          refine g_iret (M := mX11_book) (pc := 76) rfl dX11_book_76 rfl ⟨_, _, rfl, rfl, ?_⟩
          refine ⟨?_, ?_, ?_, ?_⟩
          · first | exact hS | exact JS_book0 hS | exact JS_book hS (by omega) (by omega)
          · unfold bookJ; first | exact Or.inl ⟨by first | omega | (refine ⟨by omega, by omega, ?_⟩; assumption), by first | rfl | omega, by first | rfl | (rw [show n = 1 by omega]; done) | (rw [show n = 0 by omega]; done) | (rw [show z = 1 by omega]; done) | (rw [show z = 0 by omega]; done) | (unfold zwith; first | rw [if_pos (by omega)] | rw [if_neg (by omega)])⟩ | exact Or.inr (Or.inl ⟨by first | omega | (refine ⟨by omega, by omega, ?_⟩; assumption), by first | rfl | omega, by first | rfl | (rw [show n = 1 by omega]; done) | (rw [show n = 0 by omega]; done) | (rw [show z = 1 by omega]; done) | (rw [show z = 0 by omega]; done) | (unfold zwith; first | rw [if_pos (by omega)] | rw [if_neg (by omega)])⟩) | exact Or.inr (Or.inr (Or.inl ⟨by first | omega | (refine ⟨by omega, by omega, ?_⟩; assumption), by first | rfl | omega, by first | rfl | (rw [show n = 1 by omega]; done) | (rw [show n = 0 by omega]; done) | (rw [show z = 1 by omega]; done) | (rw [show z = 0 by omega]; done) | (unfold zwith; first | rw [if_pos (by omega)] | rw [if_neg (by omega)])⟩)) | exact Or.inr (Or.inr (Or.inr (⟨by first | omega | (refine ⟨by omega, by omega, ?_⟩; assumption), by first | rfl | omega, by first | rfl | (rw [show n = 1 by omega]; done) | (rw [show n = 0 by omega]; done) | (rw [show z = 1 by omega]; done) | (rw [show z = 0 by omega]; done) | (unfold zwith; first | rw [if_pos (by omega)] | rw [if_neg (by omega)])⟩)))
          · refine jvu69_41 ?_ (by omega) (by omega); refine jvu94 ?_ (by omega) (by omega); refine jvu93 ?_ (by omega) (by omega); exact hI
          · refine Fr.up ?_ (by first | rfl | (unfold jcMk; simp; try omega)); refine Fr.up ?_ (by first | rfl | (unfold jcMk; simp; try omega)); refine Fr.up ?_ (by first | rfl | (unfold jcMk; simp; try omega)); exact (Fr.rf)
        · skip
          refine g_bipush (M := mX11_book) (pc := 39) dX11_book_39 (k := ?_)
          refine g_iret (M := mX11_book) (pc := 41) rfl dX11_book_41 rfl ⟨_, _, rfl, rfl, ?_⟩
          refine ⟨?_, ?_, ?_, ?_⟩
          · first | exact hS | exact JS_book0 hS | exact JS_book hS (by omega) (by omega)
          · unfold bookJ; first | exact Or.inl ⟨by first | omega | (refine ⟨by omega, by omega, ?_⟩; assumption), by first | rfl | omega, by first | rfl | (rw [show n = 1 by omega]; done) | (rw [show n = 0 by omega]; done) | (rw [show z = 1 by omega]; done) | (rw [show z = 0 by omega]; done) | (unfold zwith; first | rw [if_pos (by omega)] | rw [if_neg (by omega)])⟩ | exact Or.inr (Or.inl ⟨by first | omega | (refine ⟨by omega, by omega, ?_⟩; assumption), by first | rfl | omega, by first | rfl | (rw [show n = 1 by omega]; done) | (rw [show n = 0 by omega]; done) | (rw [show z = 1 by omega]; done) | (rw [show z = 0 by omega]; done) | (unfold zwith; first | rw [if_pos (by omega)] | rw [if_neg (by omega)])⟩) | exact Or.inr (Or.inr (Or.inl ⟨by first | omega | (refine ⟨by omega, by omega, ?_⟩; assumption), by first | rfl | omega, by first | rfl | (rw [show n = 1 by omega]; done) | (rw [show n = 0 by omega]; done) | (rw [show z = 1 by omega]; done) | (rw [show z = 0 by omega]; done) | (unfold zwith; first | rw [if_pos (by omega)] | rw [if_neg (by omega)])⟩)) | exact Or.inr (Or.inr (Or.inr (⟨by first | omega | (refine ⟨by omega, by omega, ?_⟩; assumption), by first | rfl | omega, by first | rfl | (rw [show n = 1 by omega]; done) | (rw [show n = 0 by omega]; done) | (rw [show z = 1 by omega]; done) | (rw [show z = 0 by omega]; done) | (unfold zwith; first | rw [if_pos (by omega)] | rw [if_neg (by omega)])⟩)))
          · exact hI
          · exact (Fr.rf)
      · skip
        refine g_iconst (M := mX11_book) (pc := 28) dX11_book_28 (k := ?_)
        refine g_iret (M := mX11_book) (pc := 29) rfl dX11_book_29 rfl ⟨_, _, rfl, rfl, ?_⟩
        refine ⟨?_, ?_, ?_, ?_⟩
        · first | exact hS | exact JS_book0 hS | exact JS_book hS (by omega) (by omega)
        · unfold bookJ; first | exact Or.inl ⟨by first | omega | (refine ⟨by omega, by omega, ?_⟩; assumption), by first | rfl | omega, by first | rfl | (rw [show n = 1 by omega]; done) | (rw [show n = 0 by omega]; done) | (rw [show z = 1 by omega]; done) | (rw [show z = 0 by omega]; done) | (unfold zwith; first | rw [if_pos (by omega)] | rw [if_neg (by omega)])⟩ | exact Or.inr (Or.inl ⟨by first | omega | (refine ⟨by omega, by omega, ?_⟩; assumption), by first | rfl | omega, by first | rfl | (rw [show n = 1 by omega]; done) | (rw [show n = 0 by omega]; done) | (rw [show z = 1 by omega]; done) | (rw [show z = 0 by omega]; done) | (unfold zwith; first | rw [if_pos (by omega)] | rw [if_neg (by omega)])⟩) | exact Or.inr (Or.inr (Or.inl ⟨by first | omega | (refine ⟨by omega, by omega, ?_⟩; assumption), by first | rfl | omega, by first | rfl | (rw [show n = 1 by omega]; done) | (rw [show n = 0 by omega]; done) | (rw [show z = 1 by omega]; done) | (rw [show z = 0 by omega]; done) | (unfold zwith; first | rw [if_pos (by omega)] | rw [if_neg (by omega)])⟩)) | exact Or.inr (Or.inr (Or.inr (⟨by first | omega | (refine ⟨by omega, by omega, ?_⟩; assumption), by first | rfl | omega, by first | rfl | (rw [show n = 1 by omega]; done) | (rw [show n = 0 by omega]; done) | (rw [show z = 1 by omega]; done) | (rw [show z = 0 by omega]; done) | (unfold zwith; first | rw [if_pos (by omega)] | rw [if_neg (by omega)])⟩)))
        · exact hI
        · exact (Fr.rf)
  · skip
    refine g_aload_n (M := mX11_book) (pc := 5) dX11_book_5 rfl (k := ?_)
    refine g_iconst (M := mX11_book) (pc := 6) dX11_book_6 (k := ?_)
    refine g_put (M := mX11_book) (pc := 7) (ji := 41) (by rfl) fX11_41 kX11_135 dX11_book_7 (by omega) (kk := ?_)
    refine g_iconst (M := mX11_book) (pc := 10) dX11_book_10 (k := ?_)
    refine g_iret (M := mX11_book) (pc := 11) rfl dX11_book_11 rfl ⟨_, _, rfl, rfl, ?_⟩
    refine ⟨?_, ?_, ?_, ?_⟩
    · first | exact hS | exact JS_book0 hS | exact JS_book hS (by omega) (by omega)
    · unfold bookJ; first | exact Or.inl ⟨by first | omega | (refine ⟨by omega, by omega, ?_⟩; assumption), by first | rfl | omega, by first | rfl | (rw [show n = 1 by omega]; done) | (rw [show n = 0 by omega]; done) | (rw [show z = 1 by omega]; done) | (rw [show z = 0 by omega]; done) | (unfold zwith; first | rw [if_pos (by omega)] | rw [if_neg (by omega)])⟩ | exact Or.inr (Or.inl ⟨by first | omega | (refine ⟨by omega, by omega, ?_⟩; assumption), by first | rfl | omega, by first | rfl | (rw [show n = 1 by omega]; done) | (rw [show n = 0 by omega]; done) | (rw [show z = 1 by omega]; done) | (rw [show z = 0 by omega]; done) | (unfold zwith; first | rw [if_pos (by omega)] | rw [if_neg (by omega)])⟩) | exact Or.inr (Or.inr (Or.inl ⟨by first | omega | (refine ⟨by omega, by omega, ?_⟩; assumption), by first | rfl | omega, by first | rfl | (rw [show n = 1 by omega]; done) | (rw [show n = 0 by omega]; done) | (rw [show z = 1 by omega]; done) | (rw [show z = 0 by omega]; done) | (unfold zwith; first | rw [if_pos (by omega)] | rw [if_neg (by omega)])⟩)) | exact Or.inr (Or.inr (Or.inr (⟨by first | omega | (refine ⟨by omega, by omega, ?_⟩; assumption), by first | rfl | omega, by first | rfl | (rw [show n = 1 by omega]; done) | (rw [show n = 0 by omega]; done) | (rw [show z = 1 by omega]; done) | (rw [show z = 0 by omega]; done) | (unfold zwith; first | rw [if_pos (by omega)] | rw [if_neg (by omega)])⟩)))
    · refine jvu69_41 ?_ (by omega) (by omega); exact hI
    · refine Fr.up ?_ (by first | rfl | (unfold jcMk; simp; try omega)); exact (Fr.rf)
set_option maxHeartbeats 4000000 in
set_option maxRecDepth 20000 in
theorem c_X11_image (Γ : KT) (t : Nat) (σ : Nat → Int → Int)  (hI : InvJ σ) : Ct Γ mX11_image 1 (0, 0) [vR Γ 69] (113, ρT t, σ) (pI 113 (ρT t) (fun r σ' => (r = σ 69 0) ∧ (σ' 69 44 = 1) ∧ (imgCp σ σ') ∧ (InvJ σ') ∧ (Fr jcI σ σ'))) := by
  refine Ct.of rfl (Nat.le_of_ble_eq_true rfl) ?_
  show G Γ mX11_image 1 (0, 0) _ (0, 0) 0 [some (vR Γ 69), none] [] (113, ρT t, σ)
  refine g_aload_n (M := mX11_image) (pc := 0) dX11_image_0 rfl (k := ?_)
  refine g_iconst (M := mX11_image) (pc := 1) dX11_image_1 (k := ?_)
  refine g_putz (M := mX11_image) (pc := 2) (ji := 44) (by rfl) fX11_44 kX11_144 dX11_image_2 (by omega) (kk := ?_)
  refine g_aload_n (M := mX11_image) (pc := 5) dX11_image_5 rfl (k := ?_)
  refine g_aload_n (M := mX11_image) (pc := 6) dX11_image_6 rfl (k := ?_)
  refine g_get (M := mX11_image) (pc := 7) (ji := 11) (by rfl) fX11_11 kX11_44 dX11_image_7 (kk := fun hr7 => ?_)
  simp only [up_same, up_cell, up_slot, ne_eq, not_false_eq_true, Nat.reduceEqDiff, Int.reduceEq, reduceCtorEq, Nat.reduceAdd, Int.reduceAdd, Int.reduceSub] at hr7 ⊢
  have hb7 := jv69_11 hI 11 (by omega) (by omega)
  refine g_put (M := mX11_image) (pc := 10) (ji := 45) (by rfl) fX11_45 kX11_148 dX11_image_10 (by omega) (kk := ?_)
  refine g_aload_n (M := mX11_image) (pc := 13) dX11_image_13 rfl (k := ?_)
  refine g_aload_n (M := mX11_image) (pc := 14) dX11_image_14 rfl (k := ?_)
  refine g_get (M := mX11_image) (pc := 15) (ji := 0) (by rfl) fX11_0 kX11_7 dX11_image_15 (kk := fun hr15 => ?_)
  simp only [up_same, up_cell, up_slot, ne_eq, not_false_eq_true, Nat.reduceEqDiff, Int.reduceEq, reduceCtorEq, Nat.reduceAdd, Int.reduceAdd, Int.reduceSub] at hr15 ⊢
  have hb15 := jv69_0 hI 0 (by omega) (by omega)
  refine g_put (M := mX11_image) (pc := 18) (ji := 46) (by rfl) fX11_46 kX11_151 dX11_image_18 (by omega) (kk := ?_)
  refine g_aload_n (M := mX11_image) (pc := 21) dX11_image_21 rfl (k := ?_)
  refine g_aload_n (M := mX11_image) (pc := 22) dX11_image_22 rfl (k := ?_)
  refine g_get (M := mX11_image) (pc := 23) (ji := 1) (by rfl) fX11_1 kX11_13 dX11_image_23 (kk := fun hr23 => ?_)
  simp only [up_same, up_cell, up_slot, ne_eq, not_false_eq_true, Nat.reduceEqDiff, Int.reduceEq, reduceCtorEq, Nat.reduceAdd, Int.reduceAdd, Int.reduceSub] at hr23 ⊢
  have hb23 := jv69_1 hI 1 (by omega) (by omega)
  refine g_put (M := mX11_image) (pc := 26) (ji := 47) (by rfl) fX11_47 kX11_154 dX11_image_26 (by omega) (kk := ?_)
  refine g_aload_n (M := mX11_image) (pc := 29) dX11_image_29 rfl (k := ?_)
  refine g_aload_n (M := mX11_image) (pc := 30) dX11_image_30 rfl (k := ?_)
  refine g_get (M := mX11_image) (pc := 31) (ji := 34) (by rfl) fX11_34 kX11_114 dX11_image_31 (kk := fun hr31 => ?_)
  simp only [up_same, up_cell, up_slot, ne_eq, not_false_eq_true, Nat.reduceEqDiff, Int.reduceEq, reduceCtorEq, Nat.reduceAdd, Int.reduceAdd, Int.reduceSub] at hr31 ⊢
  have hb31 := jv69_34 hI 34 (by omega) (by omega)
  refine g_put (M := mX11_image) (pc := 34) (ji := 48) (by rfl) fX11_48 kX11_157 dX11_image_34 (by omega) (kk := ?_)
  refine g_aload_n (M := mX11_image) (pc := 37) dX11_image_37 rfl (k := ?_)
  refine g_aload_n (M := mX11_image) (pc := 38) dX11_image_38 rfl (k := ?_)
  refine g_get (M := mX11_image) (pc := 39) (ji := 38) (by rfl) fX11_38 kX11_126 dX11_image_39 (kk := fun hr39 => ?_)
  simp only [up_same, up_cell, up_slot, ne_eq, not_false_eq_true, Nat.reduceEqDiff, Int.reduceEq, reduceCtorEq, Nat.reduceAdd, Int.reduceAdd, Int.reduceSub] at hr39 ⊢
  have hb39 := jv69_38 hI 38 (by omega) (by omega)
  refine g_put (M := mX11_image) (pc := 42) (ji := 49) (by rfl) fX11_49 kX11_160 dX11_image_42 (by omega) (kk := ?_)
  refine g_aload_n (M := mX11_image) (pc := 45) dX11_image_45 rfl (k := ?_)
  refine g_aload_n (M := mX11_image) (pc := 46) dX11_image_46 rfl (k := ?_)
  refine g_get (M := mX11_image) (pc := 47) (ji := 41) (by rfl) fX11_41 kX11_135 dX11_image_47 (kk := fun hr47 => ?_)
  simp only [up_same, up_cell, up_slot, ne_eq, not_false_eq_true, Nat.reduceEqDiff, Int.reduceEq, reduceCtorEq, Nat.reduceAdd, Int.reduceAdd, Int.reduceSub] at hr47 ⊢
  have hb47 := jv69_41 hI 41 (by omega) (by omega)
  refine g_put (M := mX11_image) (pc := 50) (ji := 50) (by rfl) fX11_50 kX11_163 dX11_image_50 (by omega) (kk := ?_)
  refine g_iconst (M := mX11_image) (pc := 53) dX11_image_53 (k := ?_)
  refine g_istore_1 (M := mX11_image) (pc := 54) dX11_image_54 (k := ?_)
  have loop55 : ∀ (N : Nat) (τ55 : Nat → Int → Int) (q : Int), ((7 - q).toNat) < N → ((InvJ τ55) ∧ (Fr jcI σ τ55) ∧ (0 ≤ q ∧ q ≤ 6) ∧ (τ55 69 45 = σ 69 11) ∧ (τ55 69 46 = σ 69 0) ∧ (τ55 69 47 = σ 69 1) ∧ (τ55 69 48 = σ 69 34) ∧ (τ55 69 49 = σ 69 38) ∧ (τ55 69 50 = σ 69 41) ∧ (τ55 69 44 = 1) ∧ (∀ j, 0 ≤ j → j < q → τ55 95 j = σ 70 j) ∧ (∀ j, 0 ≤ j → j < q → τ55 96 j = σ 71 j) ∧ (∀ j, 0 ≤ j → j < q → τ55 97 j = σ 72 j) ∧ (∀ j, 0 ≤ j → j < q → τ55 98 j = σ 73 j)) → G Γ mX11_image 1 (0, 0) (pI 113 (ρT t) (fun r σ' => (r = σ 69 0) ∧ (σ' 69 44 = 1) ∧ (imgCp σ σ') ∧ (InvJ σ') ∧ (Fr jcI σ σ'))) (0, 0) 55 [some (vR Γ 69), some (vI q)] [] (113, ρT t, τ55) := by
    intro N
    induction N with
    | zero => intro τ55 q hmu55 hinv55; exact absurd hmu55 (Nat.not_lt_zero _)
    | succ N ih55 =>
      intro τ55 q hmu55 hinv55
      obtain ⟨hI55, hF55, hb55_q, hx55_0, hx55_1, hx55_2, hx55_3, hx55_4, hx55_5, hx55_6, hx55_7, hx55_8, hx55_9, hx55_10⟩ := hinv55
      refine g_iload_n (M := mX11_image) (pc := 55) dX11_image_55 rfl (k := ?_)
      refine g_bipush (M := mX11_image) (pc := 56) dX11_image_56 (k := ?_)
      refine g_icmp_ge (M := mX11_image) (pc := 58) (tgt := 115) (by omega) (by omega) dX11_image_58 (k1 := fun h58 => ?_) (k2 := fun h58 => ?_)
      · skip
        refine g_iconst (M := mX11_image) (pc := 115) dX11_image_115 (k := ?_)
        refine g_istore_1 (M := mX11_image) (pc := 116) dX11_image_116 (k := ?_)
        have loop117 : ∀ (N : Nat) (τ117 : Nat → Int → Int) (q : Int), ((25 - q).toNat) < N → ((InvJ τ117) ∧ (Fr jcI σ τ117) ∧ (0 ≤ q ∧ q ≤ 24) ∧ (τ117 69 45 = σ 69 11) ∧ (τ117 69 46 = σ 69 0) ∧ (τ117 69 47 = σ 69 1) ∧ (τ117 69 48 = σ 69 34) ∧ (τ117 69 49 = σ 69 38) ∧ (τ117 69 50 = σ 69 41) ∧ (τ117 69 44 = 1) ∧ (∀ j, 0 ≤ j → j < 6 → τ117 95 j = σ 70 j) ∧ (∀ j, 0 ≤ j → j < 6 → τ117 96 j = σ 71 j) ∧ (∀ j, 0 ≤ j → j < 6 → τ117 97 j = σ 72 j) ∧ (∀ j, 0 ≤ j → j < 6 → τ117 98 j = σ 73 j) ∧ (∀ j, 0 ≤ j → j < q → τ117 99 j = σ 74 j)) → G Γ mX11_image 1 (0, 0) (pI 113 (ρT t) (fun r σ' => (r = σ 69 0) ∧ (σ' 69 44 = 1) ∧ (imgCp σ σ') ∧ (InvJ σ') ∧ (Fr jcI σ σ'))) (0, 0) 117 [some (vR Γ 69), some (vI q)] [] (113, ρT t, τ117) := by
          intro N
          induction N with
          | zero => intro τ117 q hmu117 hinv117; exact absurd hmu117 (Nat.not_lt_zero _)
          | succ N ih117 =>
            intro τ117 q hmu117 hinv117
            obtain ⟨hI117, hF117, hb117_q, hx117_0, hx117_1, hx117_2, hx117_3, hx117_4, hx117_5, hx117_6, hx117_7, hx117_8, hx117_9, hx117_10, hx117_11⟩ := hinv117
            refine g_iload_n (M := mX11_image) (pc := 117) dX11_image_117 rfl (k := ?_)
            refine g_bipush (M := mX11_image) (pc := 118) dX11_image_118 (k := ?_)
            refine g_icmp_ge (M := mX11_image) (pc := 120) (tgt := 141) (by omega) (by omega) dX11_image_120 (k1 := fun h120 => ?_) (k2 := fun h120 => ?_)
            · skip
              refine g_iconst (M := mX11_image) (pc := 141) dX11_image_141 (k := ?_)
              refine g_istore_1 (M := mX11_image) (pc := 142) dX11_image_142 (k := ?_)
              have loop143 : ∀ (N : Nat) (τ143 : Nat → Int → Int) (q : Int), ((5 - q).toNat) < N → ((InvJ τ143) ∧ (Fr jcI σ τ143) ∧ (0 ≤ q ∧ q ≤ 4) ∧ (τ143 69 45 = σ 69 11) ∧ (τ143 69 46 = σ 69 0) ∧ (τ143 69 47 = σ 69 1) ∧ (τ143 69 48 = σ 69 34) ∧ (τ143 69 49 = σ 69 38) ∧ (τ143 69 50 = σ 69 41) ∧ (τ143 69 44 = 1) ∧ (∀ j, 0 ≤ j → j < 6 → τ143 95 j = σ 70 j) ∧ (∀ j, 0 ≤ j → j < 6 → τ143 96 j = σ 71 j) ∧ (∀ j, 0 ≤ j → j < 6 → τ143 97 j = σ 72 j) ∧ (∀ j, 0 ≤ j → j < 6 → τ143 98 j = σ 73 j) ∧ (∀ j, 0 ≤ j → j < 24 → τ143 99 j = σ 74 j) ∧ (∀ j, 0 ≤ j → j < q → τ143 100 j = σ 75 j) ∧ (∀ j, 0 ≤ j → j < q → τ143 101 j = σ 76 j) ∧ (∀ j, 0 ≤ j → j < q → τ143 102 j = σ 77 j)) → G Γ mX11_image 1 (0, 0) (pI 113 (ρT t) (fun r σ' => (r = σ 69 0) ∧ (σ' 69 44 = 1) ∧ (imgCp σ σ') ∧ (InvJ σ') ∧ (Fr jcI σ σ'))) (0, 0) 143 [some (vR Γ 69), some (vI q)] [] (113, ρT t, τ143) := by
                intro N
                induction N with
                | zero => intro τ143 q hmu143 hinv143; exact absurd hmu143 (Nat.not_lt_zero _)
                | succ N ih143 =>
                  intro τ143 q hmu143 hinv143
                  obtain ⟨hI143, hF143, hb143_q, hx143_0, hx143_1, hx143_2, hx143_3, hx143_4, hx143_5, hx143_6, hx143_7, hx143_8, hx143_9, hx143_10, hx143_11, hx143_12, hx143_13, hx143_14⟩ := hinv143
                  refine g_iload_n (M := mX11_image) (pc := 143) dX11_image_143 rfl (k := ?_)
                  refine g_iconst (M := mX11_image) (pc := 144) dX11_image_144 (k := ?_)
                  refine g_icmp_ge (M := mX11_image) (pc := 145) (tgt := 190) (by omega) (by omega) dX11_image_145 (k1 := fun h145 => ?_) (k2 := fun h145 => ?_)
                  · skip
                    refine g_iconst (M := mX11_image) (pc := 190) dX11_image_190 (k := ?_)
                    refine g_istore_1 (M := mX11_image) (pc := 191) dX11_image_191 (k := ?_)
                    have loop192 : ∀ (N : Nat) (τ192 : Nat → Int → Int) (q : Int), ((9 - q).toNat) < N → ((InvJ τ192) ∧ (Fr jcI σ τ192) ∧ (0 ≤ q ∧ q ≤ 8) ∧ (τ192 69 45 = σ 69 11) ∧ (τ192 69 46 = σ 69 0) ∧ (τ192 69 47 = σ 69 1) ∧ (τ192 69 48 = σ 69 34) ∧ (τ192 69 49 = σ 69 38) ∧ (τ192 69 50 = σ 69 41) ∧ (τ192 69 44 = 1) ∧ (∀ j, 0 ≤ j → j < 6 → τ192 95 j = σ 70 j) ∧ (∀ j, 0 ≤ j → j < 6 → τ192 96 j = σ 71 j) ∧ (∀ j, 0 ≤ j → j < 6 → τ192 97 j = σ 72 j) ∧ (∀ j, 0 ≤ j → j < 6 → τ192 98 j = σ 73 j) ∧ (∀ j, 0 ≤ j → j < 24 → τ192 99 j = σ 74 j) ∧ (∀ j, 0 ≤ j → j < 4 → τ192 100 j = σ 75 j) ∧ (∀ j, 0 ≤ j → j < 4 → τ192 101 j = σ 76 j) ∧ (∀ j, 0 ≤ j → j < 4 → τ192 102 j = σ 77 j) ∧ (∀ j, 0 ≤ j → j < q → τ192 103 j = σ 88 j) ∧ (∀ j, 0 ≤ j → j < q → τ192 104 j = σ 91 j) ∧ (∀ j, 0 ≤ j → j < q → τ192 107 j = σ 92 j)) → G Γ mX11_image 1 (0, 0) (pI 113 (ρT t) (fun r σ' => (r = σ 69 0) ∧ (σ' 69 44 = 1) ∧ (imgCp σ σ') ∧ (InvJ σ') ∧ (Fr jcI σ σ'))) (0, 0) 192 [some (vR Γ 69), some (vI q)] [] (113, ρT t, τ192) := by
                      intro N
                      induction N with
                      | zero => intro τ192 q hmu192 hinv192; exact absurd hmu192 (Nat.not_lt_zero _)
                      | succ N ih192 =>
                        intro τ192 q hmu192 hinv192
                        obtain ⟨hI192, hF192, hb192_q, hx192_0, hx192_1, hx192_2, hx192_3, hx192_4, hx192_5, hx192_6, hx192_7, hx192_8, hx192_9, hx192_10, hx192_11, hx192_12, hx192_13, hx192_14, hx192_15, hx192_16, hx192_17⟩ := hinv192
                        refine g_iload_n (M := mX11_image) (pc := 192) dX11_image_192 rfl (k := ?_)
                        refine g_bipush (M := mX11_image) (pc := 193) dX11_image_193 (k := ?_)
                        refine g_icmp_ge (M := mX11_image) (pc := 195) (tgt := 240) (by omega) (by omega) dX11_image_195 (k1 := fun h195 => ?_) (k2 := fun h195 => ?_)
                        · skip
                          refine g_iconst (M := mX11_image) (pc := 240) dX11_image_240 (k := ?_)
                          refine g_istore_1 (M := mX11_image) (pc := 241) dX11_image_241 (k := ?_)
                          have loop242 : ∀ (N : Nat) (τ242 : Nat → Int → Int) (q : Int), ((13 - q).toNat) < N → ((InvJ τ242) ∧ (Fr jcI σ τ242) ∧ (0 ≤ q ∧ q ≤ 12) ∧ (τ242 69 45 = σ 69 11) ∧ (τ242 69 46 = σ 69 0) ∧ (τ242 69 47 = σ 69 1) ∧ (τ242 69 48 = σ 69 34) ∧ (τ242 69 49 = σ 69 38) ∧ (τ242 69 50 = σ 69 41) ∧ (τ242 69 44 = 1) ∧ (∀ j, 0 ≤ j → j < 6 → τ242 95 j = σ 70 j) ∧ (∀ j, 0 ≤ j → j < 6 → τ242 96 j = σ 71 j) ∧ (∀ j, 0 ≤ j → j < 6 → τ242 97 j = σ 72 j) ∧ (∀ j, 0 ≤ j → j < 6 → τ242 98 j = σ 73 j) ∧ (∀ j, 0 ≤ j → j < 24 → τ242 99 j = σ 74 j) ∧ (∀ j, 0 ≤ j → j < 4 → τ242 100 j = σ 75 j) ∧ (∀ j, 0 ≤ j → j < 4 → τ242 101 j = σ 76 j) ∧ (∀ j, 0 ≤ j → j < 4 → τ242 102 j = σ 77 j) ∧ (∀ j, 0 ≤ j → j < 8 → τ242 103 j = σ 88 j) ∧ (∀ j, 0 ≤ j → j < 8 → τ242 104 j = σ 91 j) ∧ (∀ j, 0 ≤ j → j < 8 → τ242 107 j = σ 92 j) ∧ (∀ j, 0 ≤ j → j < q → τ242 105 j = σ 93 j) ∧ (∀ j, 0 ≤ j → j < q → τ242 106 j = σ 94 j)) → G Γ mX11_image 1 (0, 0) (pI 113 (ρT t) (fun r σ' => (r = σ 69 0) ∧ (σ' 69 44 = 1) ∧ (imgCp σ σ') ∧ (InvJ σ') ∧ (Fr jcI σ σ'))) (0, 0) 242 [some (vR Γ 69), some (vI q)] [] (113, ρT t, τ242) := by
                            intro N
                            induction N with
                            | zero => intro τ242 q hmu242 hinv242; exact absurd hmu242 (Nat.not_lt_zero _)
                            | succ N ih242 =>
                              intro τ242 q hmu242 hinv242
                              obtain ⟨hI242, hF242, hb242_q, hx242_0, hx242_1, hx242_2, hx242_3, hx242_4, hx242_5, hx242_6, hx242_7, hx242_8, hx242_9, hx242_10, hx242_11, hx242_12, hx242_13, hx242_14, hx242_15, hx242_16, hx242_17, hx242_18, hx242_19⟩ := hinv242
                              refine g_iload_n (M := mX11_image) (pc := 242) dX11_image_242 rfl (k := ?_)
                              refine g_bipush (M := mX11_image) (pc := 243) dX11_image_243 (k := ?_)
                              refine g_icmp_ge (M := mX11_image) (pc := 245) (tgt := 278) (by omega) (by omega) dX11_image_245 (k1 := fun h245 => ?_) (k2 := fun h245 => ?_)
                              · skip
                                refine g_aload_n (M := mX11_image) (pc := 278) dX11_image_278 rfl (k := ?_)
                                refine g_get (M := mX11_image) (pc := 279) (ji := 0) (by rfl) fX11_0 kX11_7 dX11_image_279 (kk := fun hr279 => ?_)
                                have hb279 := jv69_0 hI242 0 (by omega) (by omega)
                                refine g_iret (M := mX11_image) (pc := 282) rfl dX11_image_282 rfl ⟨_, _, rfl, rfl, ?_⟩
                                refine ⟨?_, ?_, ?_, ?_, ?_⟩
                                · exact hF242 69 0 rfl
                                · exact hx242_6
                                · exact ⟨hx242_0, hx242_1, hx242_2, hx242_3, hx242_4, hx242_5, fun j h0 h1 => hx242_7 j h0 (by omega), fun j h0 h1 => hx242_8 j h0 (by omega), fun j h0 h1 => hx242_9 j h0 (by omega), fun j h0 h1 => hx242_10 j h0 (by omega), fun j h0 h1 => hx242_11 j h0 (by omega), fun j h0 h1 => hx242_12 j h0 (by omega), fun j h0 h1 => hx242_13 j h0 (by omega), fun j h0 h1 => hx242_14 j h0 (by omega), fun j h0 h1 => hx242_15 j h0 (by omega), fun j h0 h1 => hx242_16 j h0 (by omega), fun j h0 h1 => hx242_17 j h0 (by omega), fun j h0 h1 => hx242_18 j h0 (by omega), fun j h0 h1 => hx242_19 j h0 (by omega)⟩
                                · exact hI242
                                · exact hF242
                              · skip
                                refine g_aload_n (M := mX11_image) (pc := 248) dX11_image_248 rfl (k := ?_)
                                refine g_getr (M := mX11_image) (pc := 249) (by rfl) fX11_61 kX11_196 dX11_image_249 (by rfl) (kk := ?_)
                                refine g_iload_n (M := mX11_image) (pc := 252) dX11_image_252 rfl (k := ?_)
                                refine g_aload_n (M := mX11_image) (pc := 253) dX11_image_253 rfl (k := ?_)
                                refine g_getr (M := mX11_image) (pc := 254) (by rfl) fX11_42 kX11_138 dX11_image_254 (by rfl) (kk := ?_)
                                refine g_iload_n (M := mX11_image) (pc := 257) dX11_image_257 rfl (k := ?_)
                                refine g_iald (M := mX11_image) (pc := 258) (by rfl) (by omega) (by omega) dX11_image_258 (kk := fun hr258 => ?_)
                                have hb258 := jv93_0 hI242 q (by omega) (by omega)
                                refine g_iast (M := mX11_image) (pc := 259) (by rfl) (by omega) (by omega) (by omega) dX11_image_259 (kk := ?_)
                                refine g_aload_n (M := mX11_image) (pc := 260) dX11_image_260 rfl (k := ?_)
                                refine g_getr (M := mX11_image) (pc := 261) (by rfl) fX11_62 kX11_199 dX11_image_261 (by rfl) (kk := ?_)
                                refine g_iload_n (M := mX11_image) (pc := 264) dX11_image_264 rfl (k := ?_)
                                refine g_aload_n (M := mX11_image) (pc := 265) dX11_image_265 rfl (k := ?_)
                                refine g_getr (M := mX11_image) (pc := 266) (by rfl) fX11_43 kX11_141 dX11_image_266 (by rfl) (kk := ?_)
                                refine g_iload_n (M := mX11_image) (pc := 269) dX11_image_269 rfl (k := ?_)
                                refine g_iald (M := mX11_image) (pc := 270) (by rfl) (by omega) (by omega) dX11_image_270 (kk := fun hr270 => ?_)
                                simp only [up_same, up_cell, up_slot, ne_eq, not_false_eq_true, Nat.reduceEqDiff, Int.reduceEq, reduceCtorEq, Nat.reduceAdd, Int.reduceAdd, Int.reduceSub] at hr270 ⊢
                                have hb270 := jv94_0 hI242 q (by omega) (by omega)
                                refine g_iast (M := mX11_image) (pc := 271) (by rfl) (by omega) (by omega) (by omega) dX11_image_271 (kk := ?_)
                                refine g_iinc_1 (M := mX11_image) (pc := 272) dX11_image_272 (k := ?_)
                                refine g_goto (M := mX11_image) (pc := 275) (tgt := 242) dX11_image_275 (k := ?_)
                                refine ih242 _ _ ?_ ?_
                                · omega
                                · skip
                                  refine ⟨?_, ?_, ?_, ?_, ?_, ?_, ?_, ?_, ?_, ?_, ?_, ?_, ?_, ?_, ?_, ?_, ?_, ?_, ?_, ?_, ?_, ?_, ?_⟩
                                  · refine jvu106 ?_ (by omega) (by omega); refine jvu105 ?_ (by omega) (by omega); exact hI242
                                  · refine Fr.up ?_ (by first | rfl | (unfold jcI; simp; try omega)); refine Fr.up ?_ (by first | rfl | (unfold jcI; simp; try omega)); exact hF242
                                  · omega
                                  · first | exact hx242_0 | exact hx192_0 | (simp only [up_same, up_cell, up_slot, ne_eq, not_false_eq_true, Nat.reduceEqDiff, Int.reduceEq, reduceCtorEq, Nat.reduceAdd, Int.reduceAdd, Int.reduceSub]; done) | (simp only [up_same, up_cell, up_slot, ne_eq, not_false_eq_true, Nat.reduceEqDiff, Int.reduceEq, reduceCtorEq, Nat.reduceAdd, Int.reduceAdd, Int.reduceSub]; exact hx242_0)
                                  · first | exact hx242_1 | exact hx192_1 | (simp only [up_same, up_cell, up_slot, ne_eq, not_false_eq_true, Nat.reduceEqDiff, Int.reduceEq, reduceCtorEq, Nat.reduceAdd, Int.reduceAdd, Int.reduceSub]; done) | (simp only [up_same, up_cell, up_slot, ne_eq, not_false_eq_true, Nat.reduceEqDiff, Int.reduceEq, reduceCtorEq, Nat.reduceAdd, Int.reduceAdd, Int.reduceSub]; exact hx242_1)
                                  · first | exact hx242_2 | exact hx192_2 | (simp only [up_same, up_cell, up_slot, ne_eq, not_false_eq_true, Nat.reduceEqDiff, Int.reduceEq, reduceCtorEq, Nat.reduceAdd, Int.reduceAdd, Int.reduceSub]; done) | (simp only [up_same, up_cell, up_slot, ne_eq, not_false_eq_true, Nat.reduceEqDiff, Int.reduceEq, reduceCtorEq, Nat.reduceAdd, Int.reduceAdd, Int.reduceSub]; exact hx242_2)
                                  · first | exact hx242_3 | exact hx192_3 | (simp only [up_same, up_cell, up_slot, ne_eq, not_false_eq_true, Nat.reduceEqDiff, Int.reduceEq, reduceCtorEq, Nat.reduceAdd, Int.reduceAdd, Int.reduceSub]; done) | (simp only [up_same, up_cell, up_slot, ne_eq, not_false_eq_true, Nat.reduceEqDiff, Int.reduceEq, reduceCtorEq, Nat.reduceAdd, Int.reduceAdd, Int.reduceSub]; exact hx242_3)
                                  · first | exact hx242_4 | exact hx192_4 | (simp only [up_same, up_cell, up_slot, ne_eq, not_false_eq_true, Nat.reduceEqDiff, Int.reduceEq, reduceCtorEq, Nat.reduceAdd, Int.reduceAdd, Int.reduceSub]; done) | (simp only [up_same, up_cell, up_slot, ne_eq, not_false_eq_true, Nat.reduceEqDiff, Int.reduceEq, reduceCtorEq, Nat.reduceAdd, Int.reduceAdd, Int.reduceSub]; exact hx242_4)
                                  · first | exact hx242_5 | exact hx192_5 | (simp only [up_same, up_cell, up_slot, ne_eq, not_false_eq_true, Nat.reduceEqDiff, Int.reduceEq, reduceCtorEq, Nat.reduceAdd, Int.reduceAdd, Int.reduceSub]; done) | (simp only [up_same, up_cell, up_slot, ne_eq, not_false_eq_true, Nat.reduceEqDiff, Int.reduceEq, reduceCtorEq, Nat.reduceAdd, Int.reduceAdd, Int.reduceSub]; exact hx242_5)
                                  · first | exact hx242_6 | exact hx192_6 | (simp only [up_same, up_cell, up_slot, ne_eq, not_false_eq_true, Nat.reduceEqDiff, Int.reduceEq, reduceCtorEq, Nat.reduceAdd, Int.reduceAdd, Int.reduceSub]; done) | (simp only [up_same, up_cell, up_slot, ne_eq, not_false_eq_true, Nat.reduceEqDiff, Int.reduceEq, reduceCtorEq, Nat.reduceAdd, Int.reduceAdd, Int.reduceSub]; exact hx242_6)
                                  · intro j h0 h1; first | exact hx242_7 j h0 h1 | exact hx192_7 j h0 (by omega) | (simp only [up_same, up_cell, up_slot, ne_eq, not_false_eq_true, Nat.reduceEqDiff, Int.reduceEq, reduceCtorEq, Nat.reduceAdd, Int.reduceAdd, Int.reduceSub]; exact hx242_7 j h0 h1)
                                  · intro j h0 h1; first | exact hx242_8 j h0 h1 | exact hx192_8 j h0 (by omega) | (simp only [up_same, up_cell, up_slot, ne_eq, not_false_eq_true, Nat.reduceEqDiff, Int.reduceEq, reduceCtorEq, Nat.reduceAdd, Int.reduceAdd, Int.reduceSub]; exact hx242_8 j h0 h1)
                                  · intro j h0 h1; first | exact hx242_9 j h0 h1 | exact hx192_9 j h0 (by omega) | (simp only [up_same, up_cell, up_slot, ne_eq, not_false_eq_true, Nat.reduceEqDiff, Int.reduceEq, reduceCtorEq, Nat.reduceAdd, Int.reduceAdd, Int.reduceSub]; exact hx242_9 j h0 h1)
                                  · intro j h0 h1; first | exact hx242_10 j h0 h1 | exact hx192_10 j h0 (by omega) | (simp only [up_same, up_cell, up_slot, ne_eq, not_false_eq_true, Nat.reduceEqDiff, Int.reduceEq, reduceCtorEq, Nat.reduceAdd, Int.reduceAdd, Int.reduceSub]; exact hx242_10 j h0 h1)
                                  · intro j h0 h1; first | exact hx242_11 j h0 h1 | exact hx192_11 j h0 (by omega) | (simp only [up_same, up_cell, up_slot, ne_eq, not_false_eq_true, Nat.reduceEqDiff, Int.reduceEq, reduceCtorEq, Nat.reduceAdd, Int.reduceAdd, Int.reduceSub]; exact hx242_11 j h0 h1)
                                  · intro j h0 h1; first | exact hx242_12 j h0 h1 | exact hx192_12 j h0 (by omega) | (simp only [up_same, up_cell, up_slot, ne_eq, not_false_eq_true, Nat.reduceEqDiff, Int.reduceEq, reduceCtorEq, Nat.reduceAdd, Int.reduceAdd, Int.reduceSub]; exact hx242_12 j h0 h1)
                                  · intro j h0 h1; first | exact hx242_13 j h0 h1 | exact hx192_13 j h0 (by omega) | (simp only [up_same, up_cell, up_slot, ne_eq, not_false_eq_true, Nat.reduceEqDiff, Int.reduceEq, reduceCtorEq, Nat.reduceAdd, Int.reduceAdd, Int.reduceSub]; exact hx242_13 j h0 h1)
                                  · intro j h0 h1; first | exact hx242_14 j h0 h1 | exact hx192_14 j h0 (by omega) | (simp only [up_same, up_cell, up_slot, ne_eq, not_false_eq_true, Nat.reduceEqDiff, Int.reduceEq, reduceCtorEq, Nat.reduceAdd, Int.reduceAdd, Int.reduceSub]; exact hx242_14 j h0 h1)
                                  · intro j h0 h1; first | exact hx242_15 j h0 h1 | exact hx192_15 j h0 (by omega) | (simp only [up_same, up_cell, up_slot, ne_eq, not_false_eq_true, Nat.reduceEqDiff, Int.reduceEq, reduceCtorEq, Nat.reduceAdd, Int.reduceAdd, Int.reduceSub]; exact hx242_15 j h0 h1)
                                  · intro j h0 h1; first | exact hx242_16 j h0 h1 | exact hx192_16 j h0 (by omega) | (simp only [up_same, up_cell, up_slot, ne_eq, not_false_eq_true, Nat.reduceEqDiff, Int.reduceEq, reduceCtorEq, Nat.reduceAdd, Int.reduceAdd, Int.reduceSub]; exact hx242_16 j h0 h1)
                                  · intro j h0 h1; first | exact hx242_17 j h0 h1 | exact hx192_17 j h0 (by omega) | (simp only [up_same, up_cell, up_slot, ne_eq, not_false_eq_true, Nat.reduceEqDiff, Int.reduceEq, reduceCtorEq, Nat.reduceAdd, Int.reduceAdd, Int.reduceSub]; exact hx242_17 j h0 h1)
                                  · intro j h0 h1; first | (exfalso; omega) | (by_cases e : j = q; (rw [e]; simp only [up_same, up_cell, up_slot, ne_eq, not_false_eq_true, Nat.reduceEqDiff, Int.reduceEq, reduceCtorEq, Nat.reduceAdd, Int.reduceAdd, Int.reduceSub]; exact hF242 93 q rfl); simp only [up_same, up_cell, up_slot, ne_eq, not_false_eq_true, Nat.reduceEqDiff, Int.reduceEq, reduceCtorEq, Nat.reduceAdd, Int.reduceAdd, Int.reduceSub, e]; exact hx242_18 j h0 (by omega))
                                  · intro j h0 h1; first | (exfalso; omega) | (by_cases e : j = q; (rw [e]; simp only [up_same, up_cell, up_slot, ne_eq, not_false_eq_true, Nat.reduceEqDiff, Int.reduceEq, reduceCtorEq, Nat.reduceAdd, Int.reduceAdd, Int.reduceSub]; exact hF242 94 q rfl); simp only [up_same, up_cell, up_slot, ne_eq, not_false_eq_true, Nat.reduceEqDiff, Int.reduceEq, reduceCtorEq, Nat.reduceAdd, Int.reduceAdd, Int.reduceSub, e]; exact hx242_19 j h0 (by omega))
                          refine loop242 _ _ _ (Nat.lt_succ_self _) ?_
                          refine ⟨?_, ?_, ?_, ?_, ?_, ?_, ?_, ?_, ?_, ?_, ?_, ?_, ?_, ?_, ?_, ?_, ?_, ?_, ?_, ?_, ?_, ?_, ?_⟩
                          · exact hI192
                          · exact hF192
                          · omega
                          · first | exact hx242_0 | exact hx192_0 | (simp only [up_same, up_cell, up_slot, ne_eq, not_false_eq_true, Nat.reduceEqDiff, Int.reduceEq, reduceCtorEq, Nat.reduceAdd, Int.reduceAdd, Int.reduceSub]; done) | (simp only [up_same, up_cell, up_slot, ne_eq, not_false_eq_true, Nat.reduceEqDiff, Int.reduceEq, reduceCtorEq, Nat.reduceAdd, Int.reduceAdd, Int.reduceSub]; exact hx242_0)
                          · first | exact hx242_1 | exact hx192_1 | (simp only [up_same, up_cell, up_slot, ne_eq, not_false_eq_true, Nat.reduceEqDiff, Int.reduceEq, reduceCtorEq, Nat.reduceAdd, Int.reduceAdd, Int.reduceSub]; done) | (simp only [up_same, up_cell, up_slot, ne_eq, not_false_eq_true, Nat.reduceEqDiff, Int.reduceEq, reduceCtorEq, Nat.reduceAdd, Int.reduceAdd, Int.reduceSub]; exact hx242_1)
                          · first | exact hx242_2 | exact hx192_2 | (simp only [up_same, up_cell, up_slot, ne_eq, not_false_eq_true, Nat.reduceEqDiff, Int.reduceEq, reduceCtorEq, Nat.reduceAdd, Int.reduceAdd, Int.reduceSub]; done) | (simp only [up_same, up_cell, up_slot, ne_eq, not_false_eq_true, Nat.reduceEqDiff, Int.reduceEq, reduceCtorEq, Nat.reduceAdd, Int.reduceAdd, Int.reduceSub]; exact hx242_2)
                          · first | exact hx242_3 | exact hx192_3 | (simp only [up_same, up_cell, up_slot, ne_eq, not_false_eq_true, Nat.reduceEqDiff, Int.reduceEq, reduceCtorEq, Nat.reduceAdd, Int.reduceAdd, Int.reduceSub]; done) | (simp only [up_same, up_cell, up_slot, ne_eq, not_false_eq_true, Nat.reduceEqDiff, Int.reduceEq, reduceCtorEq, Nat.reduceAdd, Int.reduceAdd, Int.reduceSub]; exact hx242_3)
                          · first | exact hx242_4 | exact hx192_4 | (simp only [up_same, up_cell, up_slot, ne_eq, not_false_eq_true, Nat.reduceEqDiff, Int.reduceEq, reduceCtorEq, Nat.reduceAdd, Int.reduceAdd, Int.reduceSub]; done) | (simp only [up_same, up_cell, up_slot, ne_eq, not_false_eq_true, Nat.reduceEqDiff, Int.reduceEq, reduceCtorEq, Nat.reduceAdd, Int.reduceAdd, Int.reduceSub]; exact hx242_4)
                          · first | exact hx242_5 | exact hx192_5 | (simp only [up_same, up_cell, up_slot, ne_eq, not_false_eq_true, Nat.reduceEqDiff, Int.reduceEq, reduceCtorEq, Nat.reduceAdd, Int.reduceAdd, Int.reduceSub]; done) | (simp only [up_same, up_cell, up_slot, ne_eq, not_false_eq_true, Nat.reduceEqDiff, Int.reduceEq, reduceCtorEq, Nat.reduceAdd, Int.reduceAdd, Int.reduceSub]; exact hx242_5)
                          · first | exact hx242_6 | exact hx192_6 | (simp only [up_same, up_cell, up_slot, ne_eq, not_false_eq_true, Nat.reduceEqDiff, Int.reduceEq, reduceCtorEq, Nat.reduceAdd, Int.reduceAdd, Int.reduceSub]; done) | (simp only [up_same, up_cell, up_slot, ne_eq, not_false_eq_true, Nat.reduceEqDiff, Int.reduceEq, reduceCtorEq, Nat.reduceAdd, Int.reduceAdd, Int.reduceSub]; exact hx242_6)
                          · intro j h0 h1; first | exact hx242_7 j h0 h1 | exact hx192_7 j h0 (by omega) | (simp only [up_same, up_cell, up_slot, ne_eq, not_false_eq_true, Nat.reduceEqDiff, Int.reduceEq, reduceCtorEq, Nat.reduceAdd, Int.reduceAdd, Int.reduceSub]; exact hx242_7 j h0 h1)
                          · intro j h0 h1; first | exact hx242_8 j h0 h1 | exact hx192_8 j h0 (by omega) | (simp only [up_same, up_cell, up_slot, ne_eq, not_false_eq_true, Nat.reduceEqDiff, Int.reduceEq, reduceCtorEq, Nat.reduceAdd, Int.reduceAdd, Int.reduceSub]; exact hx242_8 j h0 h1)
                          · intro j h0 h1; first | exact hx242_9 j h0 h1 | exact hx192_9 j h0 (by omega) | (simp only [up_same, up_cell, up_slot, ne_eq, not_false_eq_true, Nat.reduceEqDiff, Int.reduceEq, reduceCtorEq, Nat.reduceAdd, Int.reduceAdd, Int.reduceSub]; exact hx242_9 j h0 h1)
                          · intro j h0 h1; first | exact hx242_10 j h0 h1 | exact hx192_10 j h0 (by omega) | (simp only [up_same, up_cell, up_slot, ne_eq, not_false_eq_true, Nat.reduceEqDiff, Int.reduceEq, reduceCtorEq, Nat.reduceAdd, Int.reduceAdd, Int.reduceSub]; exact hx242_10 j h0 h1)
                          · intro j h0 h1; first | exact hx242_11 j h0 h1 | exact hx192_11 j h0 (by omega) | (simp only [up_same, up_cell, up_slot, ne_eq, not_false_eq_true, Nat.reduceEqDiff, Int.reduceEq, reduceCtorEq, Nat.reduceAdd, Int.reduceAdd, Int.reduceSub]; exact hx242_11 j h0 h1)
                          · intro j h0 h1; first | exact hx242_12 j h0 h1 | exact hx192_12 j h0 (by omega) | (simp only [up_same, up_cell, up_slot, ne_eq, not_false_eq_true, Nat.reduceEqDiff, Int.reduceEq, reduceCtorEq, Nat.reduceAdd, Int.reduceAdd, Int.reduceSub]; exact hx242_12 j h0 h1)
                          · intro j h0 h1; first | exact hx242_13 j h0 h1 | exact hx192_13 j h0 (by omega) | (simp only [up_same, up_cell, up_slot, ne_eq, not_false_eq_true, Nat.reduceEqDiff, Int.reduceEq, reduceCtorEq, Nat.reduceAdd, Int.reduceAdd, Int.reduceSub]; exact hx242_13 j h0 h1)
                          · intro j h0 h1; first | exact hx242_14 j h0 h1 | exact hx192_14 j h0 (by omega) | (simp only [up_same, up_cell, up_slot, ne_eq, not_false_eq_true, Nat.reduceEqDiff, Int.reduceEq, reduceCtorEq, Nat.reduceAdd, Int.reduceAdd, Int.reduceSub]; exact hx242_14 j h0 h1)
                          · intro j h0 h1; first | exact hx242_15 j h0 h1 | exact hx192_15 j h0 (by omega) | (simp only [up_same, up_cell, up_slot, ne_eq, not_false_eq_true, Nat.reduceEqDiff, Int.reduceEq, reduceCtorEq, Nat.reduceAdd, Int.reduceAdd, Int.reduceSub]; exact hx242_15 j h0 h1)
                          · intro j h0 h1; first | exact hx242_16 j h0 h1 | exact hx192_16 j h0 (by omega) | (simp only [up_same, up_cell, up_slot, ne_eq, not_false_eq_true, Nat.reduceEqDiff, Int.reduceEq, reduceCtorEq, Nat.reduceAdd, Int.reduceAdd, Int.reduceSub]; exact hx242_16 j h0 h1)
                          · intro j h0 h1; first | exact hx242_17 j h0 h1 | exact hx192_17 j h0 (by omega) | (simp only [up_same, up_cell, up_slot, ne_eq, not_false_eq_true, Nat.reduceEqDiff, Int.reduceEq, reduceCtorEq, Nat.reduceAdd, Int.reduceAdd, Int.reduceSub]; exact hx242_17 j h0 h1)
                          · intro j h0 h1; first | (exfalso; omega) | (by_cases e : j = q; (rw [e]; simp only [up_same, up_cell, up_slot, ne_eq, not_false_eq_true, Nat.reduceEqDiff, Int.reduceEq, reduceCtorEq, Nat.reduceAdd, Int.reduceAdd, Int.reduceSub]; exact hF242 93 q rfl); simp only [up_same, up_cell, up_slot, ne_eq, not_false_eq_true, Nat.reduceEqDiff, Int.reduceEq, reduceCtorEq, Nat.reduceAdd, Int.reduceAdd, Int.reduceSub, e]; exact hx242_18 j h0 (by omega))
                          · intro j h0 h1; first | (exfalso; omega) | (by_cases e : j = q; (rw [e]; simp only [up_same, up_cell, up_slot, ne_eq, not_false_eq_true, Nat.reduceEqDiff, Int.reduceEq, reduceCtorEq, Nat.reduceAdd, Int.reduceAdd, Int.reduceSub]; exact hF242 94 q rfl); simp only [up_same, up_cell, up_slot, ne_eq, not_false_eq_true, Nat.reduceEqDiff, Int.reduceEq, reduceCtorEq, Nat.reduceAdd, Int.reduceAdd, Int.reduceSub, e]; exact hx242_19 j h0 (by omega))
                        · skip
                          refine g_aload_n (M := mX11_image) (pc := 198) dX11_image_198 rfl (k := ?_)
                          refine g_getr (M := mX11_image) (pc := 199) (by rfl) fX11_59 kX11_190 dX11_image_199 (by rfl) (kk := ?_)
                          refine g_iload_n (M := mX11_image) (pc := 202) dX11_image_202 rfl (k := ?_)
                          refine g_aload_n (M := mX11_image) (pc := 203) dX11_image_203 rfl (k := ?_)
                          refine g_getr (M := mX11_image) (pc := 204) (by rfl) fX11_35 kX11_117 dX11_image_204 (by rfl) (kk := ?_)
                          refine g_iload_n (M := mX11_image) (pc := 207) dX11_image_207 rfl (k := ?_)
                          refine g_iald (M := mX11_image) (pc := 208) (by rfl) (by omega) (by omega) dX11_image_208 (kk := fun hr208 => ?_)
                          have hb208 := jv88_0 hI192 q (by omega) (by omega)
                          refine g_iast (M := mX11_image) (pc := 209) (by rfl) (by omega) (by omega) (by omega) dX11_image_209 (kk := ?_)
                          refine g_aload_n (M := mX11_image) (pc := 210) dX11_image_210 rfl (k := ?_)
                          refine g_getr (M := mX11_image) (pc := 211) (by rfl) fX11_60 kX11_193 dX11_image_211 (by rfl) (kk := ?_)
                          refine g_iload_n (M := mX11_image) (pc := 214) dX11_image_214 rfl (k := ?_)
                          refine g_aload_n (M := mX11_image) (pc := 215) dX11_image_215 rfl (k := ?_)
                          refine g_getr (M := mX11_image) (pc := 216) (by rfl) fX11_39 kX11_129 dX11_image_216 (by rfl) (kk := ?_)
                          refine g_iload_n (M := mX11_image) (pc := 219) dX11_image_219 rfl (k := ?_)
                          refine g_iald (M := mX11_image) (pc := 220) (by rfl) (by omega) (by omega) dX11_image_220 (kk := fun hr220 => ?_)
                          simp only [up_same, up_cell, up_slot, ne_eq, not_false_eq_true, Nat.reduceEqDiff, Int.reduceEq, reduceCtorEq, Nat.reduceAdd, Int.reduceAdd, Int.reduceSub] at hr220 ⊢
                          have hb220 := jv91_0 hI192 q (by omega) (by omega)
                          refine g_iast (M := mX11_image) (pc := 221) (by rfl) (by omega) (by omega) (by omega) dX11_image_221 (kk := ?_)
                          refine g_aload_n (M := mX11_image) (pc := 222) dX11_image_222 rfl (k := ?_)
                          refine g_getr (M := mX11_image) (pc := 223) (by rfl) fX11_63 kX11_202 dX11_image_223 (by rfl) (kk := ?_)
                          refine g_iload_n (M := mX11_image) (pc := 226) dX11_image_226 rfl (k := ?_)
                          refine g_aload_n (M := mX11_image) (pc := 227) dX11_image_227 rfl (k := ?_)
                          refine g_getr (M := mX11_image) (pc := 228) (by rfl) fX11_40 kX11_132 dX11_image_228 (by rfl) (kk := ?_)
                          refine g_iload_n (M := mX11_image) (pc := 231) dX11_image_231 rfl (k := ?_)
                          refine g_zald (M := mX11_image) (pc := 232) (by rfl) (by omega) (by omega) dX11_image_232 (kk := fun hr232 => ?_)
                          simp only [up_same, up_cell, up_slot, ne_eq, not_false_eq_true, Nat.reduceEqDiff, Int.reduceEq, reduceCtorEq, Nat.reduceAdd, Int.reduceAdd, Int.reduceSub] at hr232 ⊢
                          have hb232 := jv92_0 hI192 q (by omega) (by omega)
                          refine g_zast (M := mX11_image) (pc := 233) (by rfl) (by omega) (by omega) (by omega) dX11_image_233 (kk := ?_)
                          refine g_iinc_1 (M := mX11_image) (pc := 234) dX11_image_234 (k := ?_)
                          refine g_goto (M := mX11_image) (pc := 237) (tgt := 192) dX11_image_237 (k := ?_)
                          refine ih192 _ _ ?_ ?_
                          · omega
                          · skip
                            refine ⟨?_, ?_, ?_, ?_, ?_, ?_, ?_, ?_, ?_, ?_, ?_, ?_, ?_, ?_, ?_, ?_, ?_, ?_, ?_, ?_, ?_⟩
                            · refine jvu107 ?_ (by omega) (by omega); refine jvu104 ?_ (by omega) (by omega); refine jvu103 ?_ (by omega) (by omega); exact hI192
                            · refine Fr.up ?_ (by first | rfl | (unfold jcI; simp; try omega)); refine Fr.up ?_ (by first | rfl | (unfold jcI; simp; try omega)); refine Fr.up ?_ (by first | rfl | (unfold jcI; simp; try omega)); exact hF192
                            · omega
                            · first | exact hx192_0 | exact hx143_0 | (simp only [up_same, up_cell, up_slot, ne_eq, not_false_eq_true, Nat.reduceEqDiff, Int.reduceEq, reduceCtorEq, Nat.reduceAdd, Int.reduceAdd, Int.reduceSub]; done) | (simp only [up_same, up_cell, up_slot, ne_eq, not_false_eq_true, Nat.reduceEqDiff, Int.reduceEq, reduceCtorEq, Nat.reduceAdd, Int.reduceAdd, Int.reduceSub]; exact hx192_0)
                            · first | exact hx192_1 | exact hx143_1 | (simp only [up_same, up_cell, up_slot, ne_eq, not_false_eq_true, Nat.reduceEqDiff, Int.reduceEq, reduceCtorEq, Nat.reduceAdd, Int.reduceAdd, Int.reduceSub]; done) | (simp only [up_same, up_cell, up_slot, ne_eq, not_false_eq_true, Nat.reduceEqDiff, Int.reduceEq, reduceCtorEq, Nat.reduceAdd, Int.reduceAdd, Int.reduceSub]; exact hx192_1)
                            · first | exact hx192_2 | exact hx143_2 | (simp only [up_same, up_cell, up_slot, ne_eq, not_false_eq_true, Nat.reduceEqDiff, Int.reduceEq, reduceCtorEq, Nat.reduceAdd, Int.reduceAdd, Int.reduceSub]; done) | (simp only [up_same, up_cell, up_slot, ne_eq, not_false_eq_true, Nat.reduceEqDiff, Int.reduceEq, reduceCtorEq, Nat.reduceAdd, Int.reduceAdd, Int.reduceSub]; exact hx192_2)
                            · first | exact hx192_3 | exact hx143_3 | (simp only [up_same, up_cell, up_slot, ne_eq, not_false_eq_true, Nat.reduceEqDiff, Int.reduceEq, reduceCtorEq, Nat.reduceAdd, Int.reduceAdd, Int.reduceSub]; done) | (simp only [up_same, up_cell, up_slot, ne_eq, not_false_eq_true, Nat.reduceEqDiff, Int.reduceEq, reduceCtorEq, Nat.reduceAdd, Int.reduceAdd, Int.reduceSub]; exact hx192_3)
                            · first | exact hx192_4 | exact hx143_4 | (simp only [up_same, up_cell, up_slot, ne_eq, not_false_eq_true, Nat.reduceEqDiff, Int.reduceEq, reduceCtorEq, Nat.reduceAdd, Int.reduceAdd, Int.reduceSub]; done) | (simp only [up_same, up_cell, up_slot, ne_eq, not_false_eq_true, Nat.reduceEqDiff, Int.reduceEq, reduceCtorEq, Nat.reduceAdd, Int.reduceAdd, Int.reduceSub]; exact hx192_4)
                            · first | exact hx192_5 | exact hx143_5 | (simp only [up_same, up_cell, up_slot, ne_eq, not_false_eq_true, Nat.reduceEqDiff, Int.reduceEq, reduceCtorEq, Nat.reduceAdd, Int.reduceAdd, Int.reduceSub]; done) | (simp only [up_same, up_cell, up_slot, ne_eq, not_false_eq_true, Nat.reduceEqDiff, Int.reduceEq, reduceCtorEq, Nat.reduceAdd, Int.reduceAdd, Int.reduceSub]; exact hx192_5)
                            · first | exact hx192_6 | exact hx143_6 | (simp only [up_same, up_cell, up_slot, ne_eq, not_false_eq_true, Nat.reduceEqDiff, Int.reduceEq, reduceCtorEq, Nat.reduceAdd, Int.reduceAdd, Int.reduceSub]; done) | (simp only [up_same, up_cell, up_slot, ne_eq, not_false_eq_true, Nat.reduceEqDiff, Int.reduceEq, reduceCtorEq, Nat.reduceAdd, Int.reduceAdd, Int.reduceSub]; exact hx192_6)
                            · intro j h0 h1; first | exact hx192_7 j h0 h1 | exact hx143_7 j h0 (by omega) | (simp only [up_same, up_cell, up_slot, ne_eq, not_false_eq_true, Nat.reduceEqDiff, Int.reduceEq, reduceCtorEq, Nat.reduceAdd, Int.reduceAdd, Int.reduceSub]; exact hx192_7 j h0 h1)
                            · intro j h0 h1; first | exact hx192_8 j h0 h1 | exact hx143_8 j h0 (by omega) | (simp only [up_same, up_cell, up_slot, ne_eq, not_false_eq_true, Nat.reduceEqDiff, Int.reduceEq, reduceCtorEq, Nat.reduceAdd, Int.reduceAdd, Int.reduceSub]; exact hx192_8 j h0 h1)
                            · intro j h0 h1; first | exact hx192_9 j h0 h1 | exact hx143_9 j h0 (by omega) | (simp only [up_same, up_cell, up_slot, ne_eq, not_false_eq_true, Nat.reduceEqDiff, Int.reduceEq, reduceCtorEq, Nat.reduceAdd, Int.reduceAdd, Int.reduceSub]; exact hx192_9 j h0 h1)
                            · intro j h0 h1; first | exact hx192_10 j h0 h1 | exact hx143_10 j h0 (by omega) | (simp only [up_same, up_cell, up_slot, ne_eq, not_false_eq_true, Nat.reduceEqDiff, Int.reduceEq, reduceCtorEq, Nat.reduceAdd, Int.reduceAdd, Int.reduceSub]; exact hx192_10 j h0 h1)
                            · intro j h0 h1; first | exact hx192_11 j h0 h1 | exact hx143_11 j h0 (by omega) | (simp only [up_same, up_cell, up_slot, ne_eq, not_false_eq_true, Nat.reduceEqDiff, Int.reduceEq, reduceCtorEq, Nat.reduceAdd, Int.reduceAdd, Int.reduceSub]; exact hx192_11 j h0 h1)
                            · intro j h0 h1; first | exact hx192_12 j h0 h1 | exact hx143_12 j h0 (by omega) | (simp only [up_same, up_cell, up_slot, ne_eq, not_false_eq_true, Nat.reduceEqDiff, Int.reduceEq, reduceCtorEq, Nat.reduceAdd, Int.reduceAdd, Int.reduceSub]; exact hx192_12 j h0 h1)
                            · intro j h0 h1; first | exact hx192_13 j h0 h1 | exact hx143_13 j h0 (by omega) | (simp only [up_same, up_cell, up_slot, ne_eq, not_false_eq_true, Nat.reduceEqDiff, Int.reduceEq, reduceCtorEq, Nat.reduceAdd, Int.reduceAdd, Int.reduceSub]; exact hx192_13 j h0 h1)
                            · intro j h0 h1; first | exact hx192_14 j h0 h1 | exact hx143_14 j h0 (by omega) | (simp only [up_same, up_cell, up_slot, ne_eq, not_false_eq_true, Nat.reduceEqDiff, Int.reduceEq, reduceCtorEq, Nat.reduceAdd, Int.reduceAdd, Int.reduceSub]; exact hx192_14 j h0 h1)
                            · intro j h0 h1; first | (exfalso; omega) | (by_cases e : j = q; (rw [e]; simp only [up_same, up_cell, up_slot, ne_eq, not_false_eq_true, Nat.reduceEqDiff, Int.reduceEq, reduceCtorEq, Nat.reduceAdd, Int.reduceAdd, Int.reduceSub]; exact hF192 88 q rfl); simp only [up_same, up_cell, up_slot, ne_eq, not_false_eq_true, Nat.reduceEqDiff, Int.reduceEq, reduceCtorEq, Nat.reduceAdd, Int.reduceAdd, Int.reduceSub, e]; exact hx192_15 j h0 (by omega))
                            · intro j h0 h1; first | (exfalso; omega) | (by_cases e : j = q; (rw [e]; simp only [up_same, up_cell, up_slot, ne_eq, not_false_eq_true, Nat.reduceEqDiff, Int.reduceEq, reduceCtorEq, Nat.reduceAdd, Int.reduceAdd, Int.reduceSub]; exact hF192 91 q rfl); simp only [up_same, up_cell, up_slot, ne_eq, not_false_eq_true, Nat.reduceEqDiff, Int.reduceEq, reduceCtorEq, Nat.reduceAdd, Int.reduceAdd, Int.reduceSub, e]; exact hx192_16 j h0 (by omega))
                            · intro j h0 h1; first | (exfalso; omega) | (by_cases e : j = q; (rw [e]; simp only [up_same, up_cell, up_slot, ne_eq, not_false_eq_true, Nat.reduceEqDiff, Int.reduceEq, reduceCtorEq, Nat.reduceAdd, Int.reduceAdd, Int.reduceSub]; exact hF192 92 q rfl); simp only [up_same, up_cell, up_slot, ne_eq, not_false_eq_true, Nat.reduceEqDiff, Int.reduceEq, reduceCtorEq, Nat.reduceAdd, Int.reduceAdd, Int.reduceSub, e]; exact hx192_17 j h0 (by omega))
                    refine loop192 _ _ _ (Nat.lt_succ_self _) ?_
                    refine ⟨?_, ?_, ?_, ?_, ?_, ?_, ?_, ?_, ?_, ?_, ?_, ?_, ?_, ?_, ?_, ?_, ?_, ?_, ?_, ?_, ?_⟩
                    · exact hI143
                    · exact hF143
                    · omega
                    · first | exact hx192_0 | exact hx143_0 | (simp only [up_same, up_cell, up_slot, ne_eq, not_false_eq_true, Nat.reduceEqDiff, Int.reduceEq, reduceCtorEq, Nat.reduceAdd, Int.reduceAdd, Int.reduceSub]; done) | (simp only [up_same, up_cell, up_slot, ne_eq, not_false_eq_true, Nat.reduceEqDiff, Int.reduceEq, reduceCtorEq, Nat.reduceAdd, Int.reduceAdd, Int.reduceSub]; exact hx192_0)
                    · first | exact hx192_1 | exact hx143_1 | (simp only [up_same, up_cell, up_slot, ne_eq, not_false_eq_true, Nat.reduceEqDiff, Int.reduceEq, reduceCtorEq, Nat.reduceAdd, Int.reduceAdd, Int.reduceSub]; done) | (simp only [up_same, up_cell, up_slot, ne_eq, not_false_eq_true, Nat.reduceEqDiff, Int.reduceEq, reduceCtorEq, Nat.reduceAdd, Int.reduceAdd, Int.reduceSub]; exact hx192_1)
                    · first | exact hx192_2 | exact hx143_2 | (simp only [up_same, up_cell, up_slot, ne_eq, not_false_eq_true, Nat.reduceEqDiff, Int.reduceEq, reduceCtorEq, Nat.reduceAdd, Int.reduceAdd, Int.reduceSub]; done) | (simp only [up_same, up_cell, up_slot, ne_eq, not_false_eq_true, Nat.reduceEqDiff, Int.reduceEq, reduceCtorEq, Nat.reduceAdd, Int.reduceAdd, Int.reduceSub]; exact hx192_2)
                    · first | exact hx192_3 | exact hx143_3 | (simp only [up_same, up_cell, up_slot, ne_eq, not_false_eq_true, Nat.reduceEqDiff, Int.reduceEq, reduceCtorEq, Nat.reduceAdd, Int.reduceAdd, Int.reduceSub]; done) | (simp only [up_same, up_cell, up_slot, ne_eq, not_false_eq_true, Nat.reduceEqDiff, Int.reduceEq, reduceCtorEq, Nat.reduceAdd, Int.reduceAdd, Int.reduceSub]; exact hx192_3)
                    · first | exact hx192_4 | exact hx143_4 | (simp only [up_same, up_cell, up_slot, ne_eq, not_false_eq_true, Nat.reduceEqDiff, Int.reduceEq, reduceCtorEq, Nat.reduceAdd, Int.reduceAdd, Int.reduceSub]; done) | (simp only [up_same, up_cell, up_slot, ne_eq, not_false_eq_true, Nat.reduceEqDiff, Int.reduceEq, reduceCtorEq, Nat.reduceAdd, Int.reduceAdd, Int.reduceSub]; exact hx192_4)
                    · first | exact hx192_5 | exact hx143_5 | (simp only [up_same, up_cell, up_slot, ne_eq, not_false_eq_true, Nat.reduceEqDiff, Int.reduceEq, reduceCtorEq, Nat.reduceAdd, Int.reduceAdd, Int.reduceSub]; done) | (simp only [up_same, up_cell, up_slot, ne_eq, not_false_eq_true, Nat.reduceEqDiff, Int.reduceEq, reduceCtorEq, Nat.reduceAdd, Int.reduceAdd, Int.reduceSub]; exact hx192_5)
                    · first | exact hx192_6 | exact hx143_6 | (simp only [up_same, up_cell, up_slot, ne_eq, not_false_eq_true, Nat.reduceEqDiff, Int.reduceEq, reduceCtorEq, Nat.reduceAdd, Int.reduceAdd, Int.reduceSub]; done) | (simp only [up_same, up_cell, up_slot, ne_eq, not_false_eq_true, Nat.reduceEqDiff, Int.reduceEq, reduceCtorEq, Nat.reduceAdd, Int.reduceAdd, Int.reduceSub]; exact hx192_6)
                    · intro j h0 h1; first | exact hx192_7 j h0 h1 | exact hx143_7 j h0 (by omega) | (simp only [up_same, up_cell, up_slot, ne_eq, not_false_eq_true, Nat.reduceEqDiff, Int.reduceEq, reduceCtorEq, Nat.reduceAdd, Int.reduceAdd, Int.reduceSub]; exact hx192_7 j h0 h1)
                    · intro j h0 h1; first | exact hx192_8 j h0 h1 | exact hx143_8 j h0 (by omega) | (simp only [up_same, up_cell, up_slot, ne_eq, not_false_eq_true, Nat.reduceEqDiff, Int.reduceEq, reduceCtorEq, Nat.reduceAdd, Int.reduceAdd, Int.reduceSub]; exact hx192_8 j h0 h1)
                    · intro j h0 h1; first | exact hx192_9 j h0 h1 | exact hx143_9 j h0 (by omega) | (simp only [up_same, up_cell, up_slot, ne_eq, not_false_eq_true, Nat.reduceEqDiff, Int.reduceEq, reduceCtorEq, Nat.reduceAdd, Int.reduceAdd, Int.reduceSub]; exact hx192_9 j h0 h1)
                    · intro j h0 h1; first | exact hx192_10 j h0 h1 | exact hx143_10 j h0 (by omega) | (simp only [up_same, up_cell, up_slot, ne_eq, not_false_eq_true, Nat.reduceEqDiff, Int.reduceEq, reduceCtorEq, Nat.reduceAdd, Int.reduceAdd, Int.reduceSub]; exact hx192_10 j h0 h1)
                    · intro j h0 h1; first | exact hx192_11 j h0 h1 | exact hx143_11 j h0 (by omega) | (simp only [up_same, up_cell, up_slot, ne_eq, not_false_eq_true, Nat.reduceEqDiff, Int.reduceEq, reduceCtorEq, Nat.reduceAdd, Int.reduceAdd, Int.reduceSub]; exact hx192_11 j h0 h1)
                    · intro j h0 h1; first | exact hx192_12 j h0 h1 | exact hx143_12 j h0 (by omega) | (simp only [up_same, up_cell, up_slot, ne_eq, not_false_eq_true, Nat.reduceEqDiff, Int.reduceEq, reduceCtorEq, Nat.reduceAdd, Int.reduceAdd, Int.reduceSub]; exact hx192_12 j h0 h1)
                    · intro j h0 h1; first | exact hx192_13 j h0 h1 | exact hx143_13 j h0 (by omega) | (simp only [up_same, up_cell, up_slot, ne_eq, not_false_eq_true, Nat.reduceEqDiff, Int.reduceEq, reduceCtorEq, Nat.reduceAdd, Int.reduceAdd, Int.reduceSub]; exact hx192_13 j h0 h1)
                    · intro j h0 h1; first | exact hx192_14 j h0 h1 | exact hx143_14 j h0 (by omega) | (simp only [up_same, up_cell, up_slot, ne_eq, not_false_eq_true, Nat.reduceEqDiff, Int.reduceEq, reduceCtorEq, Nat.reduceAdd, Int.reduceAdd, Int.reduceSub]; exact hx192_14 j h0 h1)
                    · intro j h0 h1; first | (exfalso; omega) | (by_cases e : j = q; (rw [e]; simp only [up_same, up_cell, up_slot, ne_eq, not_false_eq_true, Nat.reduceEqDiff, Int.reduceEq, reduceCtorEq, Nat.reduceAdd, Int.reduceAdd, Int.reduceSub]; exact hF192 88 q rfl); simp only [up_same, up_cell, up_slot, ne_eq, not_false_eq_true, Nat.reduceEqDiff, Int.reduceEq, reduceCtorEq, Nat.reduceAdd, Int.reduceAdd, Int.reduceSub, e]; exact hx192_15 j h0 (by omega))
                    · intro j h0 h1; first | (exfalso; omega) | (by_cases e : j = q; (rw [e]; simp only [up_same, up_cell, up_slot, ne_eq, not_false_eq_true, Nat.reduceEqDiff, Int.reduceEq, reduceCtorEq, Nat.reduceAdd, Int.reduceAdd, Int.reduceSub]; exact hF192 91 q rfl); simp only [up_same, up_cell, up_slot, ne_eq, not_false_eq_true, Nat.reduceEqDiff, Int.reduceEq, reduceCtorEq, Nat.reduceAdd, Int.reduceAdd, Int.reduceSub, e]; exact hx192_16 j h0 (by omega))
                    · intro j h0 h1; first | (exfalso; omega) | (by_cases e : j = q; (rw [e]; simp only [up_same, up_cell, up_slot, ne_eq, not_false_eq_true, Nat.reduceEqDiff, Int.reduceEq, reduceCtorEq, Nat.reduceAdd, Int.reduceAdd, Int.reduceSub]; exact hF192 92 q rfl); simp only [up_same, up_cell, up_slot, ne_eq, not_false_eq_true, Nat.reduceEqDiff, Int.reduceEq, reduceCtorEq, Nat.reduceAdd, Int.reduceAdd, Int.reduceSub, e]; exact hx192_17 j h0 (by omega))
                  · skip
                    refine g_aload_n (M := mX11_image) (pc := 148) dX11_image_148 rfl (k := ?_)
                    refine g_getr (M := mX11_image) (pc := 149) (by rfl) fX11_56 kX11_181 dX11_image_149 (by rfl) (kk := ?_)
                    refine g_iload_n (M := mX11_image) (pc := 152) dX11_image_152 rfl (k := ?_)
                    refine g_aload_n (M := mX11_image) (pc := 153) dX11_image_153 rfl (k := ?_)
                    refine g_getr (M := mX11_image) (pc := 154) (by rfl) fX11_7 kX11_32 dX11_image_154 (by rfl) (kk := ?_)
                    refine g_iload_n (M := mX11_image) (pc := 157) dX11_image_157 rfl (k := ?_)
                    refine g_iald (M := mX11_image) (pc := 158) (by rfl) (by omega) (by omega) dX11_image_158 (kk := fun hr158 => ?_)
                    have hb158 := jv75_0 hI143 q (by omega) (by omega)
                    refine g_iast (M := mX11_image) (pc := 159) (by rfl) (by omega) (by omega) (by omega) dX11_image_159 (kk := ?_)
                    refine g_aload_n (M := mX11_image) (pc := 160) dX11_image_160 rfl (k := ?_)
                    refine g_getr (M := mX11_image) (pc := 161) (by rfl) fX11_57 kX11_184 dX11_image_161 (by rfl) (kk := ?_)
                    refine g_iload_n (M := mX11_image) (pc := 164) dX11_image_164 rfl (k := ?_)
                    refine g_aload_n (M := mX11_image) (pc := 165) dX11_image_165 rfl (k := ?_)
                    refine g_getr (M := mX11_image) (pc := 166) (by rfl) fX11_8 kX11_35 dX11_image_166 (by rfl) (kk := ?_)
                    refine g_iload_n (M := mX11_image) (pc := 169) dX11_image_169 rfl (k := ?_)
                    refine g_iald (M := mX11_image) (pc := 170) (by rfl) (by omega) (by omega) dX11_image_170 (kk := fun hr170 => ?_)
                    simp only [up_same, up_cell, up_slot, ne_eq, not_false_eq_true, Nat.reduceEqDiff, Int.reduceEq, reduceCtorEq, Nat.reduceAdd, Int.reduceAdd, Int.reduceSub] at hr170 ⊢
                    have hb170 := jv76_0 hI143 q (by omega) (by omega)
                    refine g_iast (M := mX11_image) (pc := 171) (by rfl) (by omega) (by omega) (by omega) dX11_image_171 (kk := ?_)
                    refine g_aload_n (M := mX11_image) (pc := 172) dX11_image_172 rfl (k := ?_)
                    refine g_getr (M := mX11_image) (pc := 173) (by rfl) fX11_58 kX11_187 dX11_image_173 (by rfl) (kk := ?_)
                    refine g_iload_n (M := mX11_image) (pc := 176) dX11_image_176 rfl (k := ?_)
                    refine g_aload_n (M := mX11_image) (pc := 177) dX11_image_177 rfl (k := ?_)
                    refine g_getr (M := mX11_image) (pc := 178) (by rfl) fX11_9 kX11_38 dX11_image_178 (by rfl) (kk := ?_)
                    refine g_iload_n (M := mX11_image) (pc := 181) dX11_image_181 rfl (k := ?_)
                    refine g_iald (M := mX11_image) (pc := 182) (by rfl) (by omega) (by omega) dX11_image_182 (kk := fun hr182 => ?_)
                    simp only [up_same, up_cell, up_slot, ne_eq, not_false_eq_true, Nat.reduceEqDiff, Int.reduceEq, reduceCtorEq, Nat.reduceAdd, Int.reduceAdd, Int.reduceSub] at hr182 ⊢
                    have hb182 := jv77_0 hI143 q (by omega) (by omega)
                    refine g_iast (M := mX11_image) (pc := 183) (by rfl) (by omega) (by omega) (by omega) dX11_image_183 (kk := ?_)
                    refine g_iinc_1 (M := mX11_image) (pc := 184) dX11_image_184 (k := ?_)
                    refine g_goto (M := mX11_image) (pc := 187) (tgt := 143) dX11_image_187 (k := ?_)
                    refine ih143 _ _ ?_ ?_
                    · omega
                    · skip
                      refine ⟨?_, ?_, ?_, ?_, ?_, ?_, ?_, ?_, ?_, ?_, ?_, ?_, ?_, ?_, ?_, ?_, ?_, ?_⟩
                      · refine jvu102 ?_ (by omega) (by omega); refine jvu101 ?_ (by omega) (by omega); refine jvu100 ?_ (by omega) (by omega); exact hI143
                      · refine Fr.up ?_ (by first | rfl | (unfold jcI; simp; try omega)); refine Fr.up ?_ (by first | rfl | (unfold jcI; simp; try omega)); refine Fr.up ?_ (by first | rfl | (unfold jcI; simp; try omega)); exact hF143
                      · omega
                      · first | exact hx143_0 | exact hx117_0 | (simp only [up_same, up_cell, up_slot, ne_eq, not_false_eq_true, Nat.reduceEqDiff, Int.reduceEq, reduceCtorEq, Nat.reduceAdd, Int.reduceAdd, Int.reduceSub]; done) | (simp only [up_same, up_cell, up_slot, ne_eq, not_false_eq_true, Nat.reduceEqDiff, Int.reduceEq, reduceCtorEq, Nat.reduceAdd, Int.reduceAdd, Int.reduceSub]; exact hx143_0)
                      · first | exact hx143_1 | exact hx117_1 | (simp only [up_same, up_cell, up_slot, ne_eq, not_false_eq_true, Nat.reduceEqDiff, Int.reduceEq, reduceCtorEq, Nat.reduceAdd, Int.reduceAdd, Int.reduceSub]; done) | (simp only [up_same, up_cell, up_slot, ne_eq, not_false_eq_true, Nat.reduceEqDiff, Int.reduceEq, reduceCtorEq, Nat.reduceAdd, Int.reduceAdd, Int.reduceSub]; exact hx143_1)
                      · first | exact hx143_2 | exact hx117_2 | (simp only [up_same, up_cell, up_slot, ne_eq, not_false_eq_true, Nat.reduceEqDiff, Int.reduceEq, reduceCtorEq, Nat.reduceAdd, Int.reduceAdd, Int.reduceSub]; done) | (simp only [up_same, up_cell, up_slot, ne_eq, not_false_eq_true, Nat.reduceEqDiff, Int.reduceEq, reduceCtorEq, Nat.reduceAdd, Int.reduceAdd, Int.reduceSub]; exact hx143_2)
                      · first | exact hx143_3 | exact hx117_3 | (simp only [up_same, up_cell, up_slot, ne_eq, not_false_eq_true, Nat.reduceEqDiff, Int.reduceEq, reduceCtorEq, Nat.reduceAdd, Int.reduceAdd, Int.reduceSub]; done) | (simp only [up_same, up_cell, up_slot, ne_eq, not_false_eq_true, Nat.reduceEqDiff, Int.reduceEq, reduceCtorEq, Nat.reduceAdd, Int.reduceAdd, Int.reduceSub]; exact hx143_3)
                      · first | exact hx143_4 | exact hx117_4 | (simp only [up_same, up_cell, up_slot, ne_eq, not_false_eq_true, Nat.reduceEqDiff, Int.reduceEq, reduceCtorEq, Nat.reduceAdd, Int.reduceAdd, Int.reduceSub]; done) | (simp only [up_same, up_cell, up_slot, ne_eq, not_false_eq_true, Nat.reduceEqDiff, Int.reduceEq, reduceCtorEq, Nat.reduceAdd, Int.reduceAdd, Int.reduceSub]; exact hx143_4)
                      · first | exact hx143_5 | exact hx117_5 | (simp only [up_same, up_cell, up_slot, ne_eq, not_false_eq_true, Nat.reduceEqDiff, Int.reduceEq, reduceCtorEq, Nat.reduceAdd, Int.reduceAdd, Int.reduceSub]; done) | (simp only [up_same, up_cell, up_slot, ne_eq, not_false_eq_true, Nat.reduceEqDiff, Int.reduceEq, reduceCtorEq, Nat.reduceAdd, Int.reduceAdd, Int.reduceSub]; exact hx143_5)
                      · first | exact hx143_6 | exact hx117_6 | (simp only [up_same, up_cell, up_slot, ne_eq, not_false_eq_true, Nat.reduceEqDiff, Int.reduceEq, reduceCtorEq, Nat.reduceAdd, Int.reduceAdd, Int.reduceSub]; done) | (simp only [up_same, up_cell, up_slot, ne_eq, not_false_eq_true, Nat.reduceEqDiff, Int.reduceEq, reduceCtorEq, Nat.reduceAdd, Int.reduceAdd, Int.reduceSub]; exact hx143_6)
                      · intro j h0 h1; first | exact hx143_7 j h0 h1 | exact hx117_7 j h0 (by omega) | (simp only [up_same, up_cell, up_slot, ne_eq, not_false_eq_true, Nat.reduceEqDiff, Int.reduceEq, reduceCtorEq, Nat.reduceAdd, Int.reduceAdd, Int.reduceSub]; exact hx143_7 j h0 h1)
                      · intro j h0 h1; first | exact hx143_8 j h0 h1 | exact hx117_8 j h0 (by omega) | (simp only [up_same, up_cell, up_slot, ne_eq, not_false_eq_true, Nat.reduceEqDiff, Int.reduceEq, reduceCtorEq, Nat.reduceAdd, Int.reduceAdd, Int.reduceSub]; exact hx143_8 j h0 h1)
                      · intro j h0 h1; first | exact hx143_9 j h0 h1 | exact hx117_9 j h0 (by omega) | (simp only [up_same, up_cell, up_slot, ne_eq, not_false_eq_true, Nat.reduceEqDiff, Int.reduceEq, reduceCtorEq, Nat.reduceAdd, Int.reduceAdd, Int.reduceSub]; exact hx143_9 j h0 h1)
                      · intro j h0 h1; first | exact hx143_10 j h0 h1 | exact hx117_10 j h0 (by omega) | (simp only [up_same, up_cell, up_slot, ne_eq, not_false_eq_true, Nat.reduceEqDiff, Int.reduceEq, reduceCtorEq, Nat.reduceAdd, Int.reduceAdd, Int.reduceSub]; exact hx143_10 j h0 h1)
                      · intro j h0 h1; first | exact hx143_11 j h0 h1 | exact hx117_11 j h0 (by omega) | (simp only [up_same, up_cell, up_slot, ne_eq, not_false_eq_true, Nat.reduceEqDiff, Int.reduceEq, reduceCtorEq, Nat.reduceAdd, Int.reduceAdd, Int.reduceSub]; exact hx143_11 j h0 h1)
                      · intro j h0 h1; first | (exfalso; omega) | (by_cases e : j = q; (rw [e]; simp only [up_same, up_cell, up_slot, ne_eq, not_false_eq_true, Nat.reduceEqDiff, Int.reduceEq, reduceCtorEq, Nat.reduceAdd, Int.reduceAdd, Int.reduceSub]; exact hF143 75 q rfl); simp only [up_same, up_cell, up_slot, ne_eq, not_false_eq_true, Nat.reduceEqDiff, Int.reduceEq, reduceCtorEq, Nat.reduceAdd, Int.reduceAdd, Int.reduceSub, e]; exact hx143_12 j h0 (by omega))
                      · intro j h0 h1; first | (exfalso; omega) | (by_cases e : j = q; (rw [e]; simp only [up_same, up_cell, up_slot, ne_eq, not_false_eq_true, Nat.reduceEqDiff, Int.reduceEq, reduceCtorEq, Nat.reduceAdd, Int.reduceAdd, Int.reduceSub]; exact hF143 76 q rfl); simp only [up_same, up_cell, up_slot, ne_eq, not_false_eq_true, Nat.reduceEqDiff, Int.reduceEq, reduceCtorEq, Nat.reduceAdd, Int.reduceAdd, Int.reduceSub, e]; exact hx143_13 j h0 (by omega))
                      · intro j h0 h1; first | (exfalso; omega) | (by_cases e : j = q; (rw [e]; simp only [up_same, up_cell, up_slot, ne_eq, not_false_eq_true, Nat.reduceEqDiff, Int.reduceEq, reduceCtorEq, Nat.reduceAdd, Int.reduceAdd, Int.reduceSub]; exact hF143 77 q rfl); simp only [up_same, up_cell, up_slot, ne_eq, not_false_eq_true, Nat.reduceEqDiff, Int.reduceEq, reduceCtorEq, Nat.reduceAdd, Int.reduceAdd, Int.reduceSub, e]; exact hx143_14 j h0 (by omega))
              refine loop143 _ _ _ (Nat.lt_succ_self _) ?_
              refine ⟨?_, ?_, ?_, ?_, ?_, ?_, ?_, ?_, ?_, ?_, ?_, ?_, ?_, ?_, ?_, ?_, ?_, ?_⟩
              · exact hI117
              · exact hF117
              · omega
              · first | exact hx143_0 | exact hx117_0 | (simp only [up_same, up_cell, up_slot, ne_eq, not_false_eq_true, Nat.reduceEqDiff, Int.reduceEq, reduceCtorEq, Nat.reduceAdd, Int.reduceAdd, Int.reduceSub]; done) | (simp only [up_same, up_cell, up_slot, ne_eq, not_false_eq_true, Nat.reduceEqDiff, Int.reduceEq, reduceCtorEq, Nat.reduceAdd, Int.reduceAdd, Int.reduceSub]; exact hx143_0)
              · first | exact hx143_1 | exact hx117_1 | (simp only [up_same, up_cell, up_slot, ne_eq, not_false_eq_true, Nat.reduceEqDiff, Int.reduceEq, reduceCtorEq, Nat.reduceAdd, Int.reduceAdd, Int.reduceSub]; done) | (simp only [up_same, up_cell, up_slot, ne_eq, not_false_eq_true, Nat.reduceEqDiff, Int.reduceEq, reduceCtorEq, Nat.reduceAdd, Int.reduceAdd, Int.reduceSub]; exact hx143_1)
              · first | exact hx143_2 | exact hx117_2 | (simp only [up_same, up_cell, up_slot, ne_eq, not_false_eq_true, Nat.reduceEqDiff, Int.reduceEq, reduceCtorEq, Nat.reduceAdd, Int.reduceAdd, Int.reduceSub]; done) | (simp only [up_same, up_cell, up_slot, ne_eq, not_false_eq_true, Nat.reduceEqDiff, Int.reduceEq, reduceCtorEq, Nat.reduceAdd, Int.reduceAdd, Int.reduceSub]; exact hx143_2)
              · first | exact hx143_3 | exact hx117_3 | (simp only [up_same, up_cell, up_slot, ne_eq, not_false_eq_true, Nat.reduceEqDiff, Int.reduceEq, reduceCtorEq, Nat.reduceAdd, Int.reduceAdd, Int.reduceSub]; done) | (simp only [up_same, up_cell, up_slot, ne_eq, not_false_eq_true, Nat.reduceEqDiff, Int.reduceEq, reduceCtorEq, Nat.reduceAdd, Int.reduceAdd, Int.reduceSub]; exact hx143_3)
              · first | exact hx143_4 | exact hx117_4 | (simp only [up_same, up_cell, up_slot, ne_eq, not_false_eq_true, Nat.reduceEqDiff, Int.reduceEq, reduceCtorEq, Nat.reduceAdd, Int.reduceAdd, Int.reduceSub]; done) | (simp only [up_same, up_cell, up_slot, ne_eq, not_false_eq_true, Nat.reduceEqDiff, Int.reduceEq, reduceCtorEq, Nat.reduceAdd, Int.reduceAdd, Int.reduceSub]; exact hx143_4)
              · first | exact hx143_5 | exact hx117_5 | (simp only [up_same, up_cell, up_slot, ne_eq, not_false_eq_true, Nat.reduceEqDiff, Int.reduceEq, reduceCtorEq, Nat.reduceAdd, Int.reduceAdd, Int.reduceSub]; done) | (simp only [up_same, up_cell, up_slot, ne_eq, not_false_eq_true, Nat.reduceEqDiff, Int.reduceEq, reduceCtorEq, Nat.reduceAdd, Int.reduceAdd, Int.reduceSub]; exact hx143_5)
              · first | exact hx143_6 | exact hx117_6 | (simp only [up_same, up_cell, up_slot, ne_eq, not_false_eq_true, Nat.reduceEqDiff, Int.reduceEq, reduceCtorEq, Nat.reduceAdd, Int.reduceAdd, Int.reduceSub]; done) | (simp only [up_same, up_cell, up_slot, ne_eq, not_false_eq_true, Nat.reduceEqDiff, Int.reduceEq, reduceCtorEq, Nat.reduceAdd, Int.reduceAdd, Int.reduceSub]; exact hx143_6)
              · intro j h0 h1; first | exact hx143_7 j h0 h1 | exact hx117_7 j h0 (by omega) | (simp only [up_same, up_cell, up_slot, ne_eq, not_false_eq_true, Nat.reduceEqDiff, Int.reduceEq, reduceCtorEq, Nat.reduceAdd, Int.reduceAdd, Int.reduceSub]; exact hx143_7 j h0 h1)
              · intro j h0 h1; first | exact hx143_8 j h0 h1 | exact hx117_8 j h0 (by omega) | (simp only [up_same, up_cell, up_slot, ne_eq, not_false_eq_true, Nat.reduceEqDiff, Int.reduceEq, reduceCtorEq, Nat.reduceAdd, Int.reduceAdd, Int.reduceSub]; exact hx143_8 j h0 h1)
              · intro j h0 h1; first | exact hx143_9 j h0 h1 | exact hx117_9 j h0 (by omega) | (simp only [up_same, up_cell, up_slot, ne_eq, not_false_eq_true, Nat.reduceEqDiff, Int.reduceEq, reduceCtorEq, Nat.reduceAdd, Int.reduceAdd, Int.reduceSub]; exact hx143_9 j h0 h1)
              · intro j h0 h1; first | exact hx143_10 j h0 h1 | exact hx117_10 j h0 (by omega) | (simp only [up_same, up_cell, up_slot, ne_eq, not_false_eq_true, Nat.reduceEqDiff, Int.reduceEq, reduceCtorEq, Nat.reduceAdd, Int.reduceAdd, Int.reduceSub]; exact hx143_10 j h0 h1)
              · intro j h0 h1; first | exact hx143_11 j h0 h1 | exact hx117_11 j h0 (by omega) | (simp only [up_same, up_cell, up_slot, ne_eq, not_false_eq_true, Nat.reduceEqDiff, Int.reduceEq, reduceCtorEq, Nat.reduceAdd, Int.reduceAdd, Int.reduceSub]; exact hx143_11 j h0 h1)
              · intro j h0 h1; first | (exfalso; omega) | (by_cases e : j = q; (rw [e]; simp only [up_same, up_cell, up_slot, ne_eq, not_false_eq_true, Nat.reduceEqDiff, Int.reduceEq, reduceCtorEq, Nat.reduceAdd, Int.reduceAdd, Int.reduceSub]; exact hF143 75 q rfl); simp only [up_same, up_cell, up_slot, ne_eq, not_false_eq_true, Nat.reduceEqDiff, Int.reduceEq, reduceCtorEq, Nat.reduceAdd, Int.reduceAdd, Int.reduceSub, e]; exact hx143_12 j h0 (by omega))
              · intro j h0 h1; first | (exfalso; omega) | (by_cases e : j = q; (rw [e]; simp only [up_same, up_cell, up_slot, ne_eq, not_false_eq_true, Nat.reduceEqDiff, Int.reduceEq, reduceCtorEq, Nat.reduceAdd, Int.reduceAdd, Int.reduceSub]; exact hF143 76 q rfl); simp only [up_same, up_cell, up_slot, ne_eq, not_false_eq_true, Nat.reduceEqDiff, Int.reduceEq, reduceCtorEq, Nat.reduceAdd, Int.reduceAdd, Int.reduceSub, e]; exact hx143_13 j h0 (by omega))
              · intro j h0 h1; first | (exfalso; omega) | (by_cases e : j = q; (rw [e]; simp only [up_same, up_cell, up_slot, ne_eq, not_false_eq_true, Nat.reduceEqDiff, Int.reduceEq, reduceCtorEq, Nat.reduceAdd, Int.reduceAdd, Int.reduceSub]; exact hF143 77 q rfl); simp only [up_same, up_cell, up_slot, ne_eq, not_false_eq_true, Nat.reduceEqDiff, Int.reduceEq, reduceCtorEq, Nat.reduceAdd, Int.reduceAdd, Int.reduceSub, e]; exact hx143_14 j h0 (by omega))
            · skip
              refine g_aload_n (M := mX11_image) (pc := 123) dX11_image_123 rfl (k := ?_)
              refine g_getr (M := mX11_image) (pc := 124) (by rfl) fX11_55 kX11_178 dX11_image_124 (by rfl) (kk := ?_)
              refine g_iload_n (M := mX11_image) (pc := 127) dX11_image_127 rfl (k := ?_)
              refine g_aload_n (M := mX11_image) (pc := 128) dX11_image_128 rfl (k := ?_)
              refine g_getr (M := mX11_image) (pc := 129) (by rfl) fX11_6 kX11_29 dX11_image_129 (by rfl) (kk := ?_)
              refine g_iload_n (M := mX11_image) (pc := 132) dX11_image_132 rfl (k := ?_)
              refine g_iald (M := mX11_image) (pc := 133) (by rfl) (by omega) (by omega) dX11_image_133 (kk := fun hr133 => ?_)
              refine g_iast (M := mX11_image) (pc := 134) (by rfl) (by omega) (by omega) (by omega) dX11_image_134 (kk := ?_)
              refine g_iinc_1 (M := mX11_image) (pc := 135) dX11_image_135 (k := ?_)
              refine g_goto (M := mX11_image) (pc := 138) (tgt := 117) dX11_image_138 (k := ?_)
              refine ih117 _ _ ?_ ?_
              · omega
              · skip
                refine ⟨?_, ?_, ?_, ?_, ?_, ?_, ?_, ?_, ?_, ?_, ?_, ?_, ?_, ?_, ?_⟩
                · refine jv_cell ?_ (by rfl); exact hI117
                · refine Fr.up ?_ (by first | rfl | (unfold jcI; simp; try omega)); exact hF117
                · omega
                · first | exact hx117_0 | exact hx55_0 | (simp only [up_same, up_cell, up_slot, ne_eq, not_false_eq_true, Nat.reduceEqDiff, Int.reduceEq, reduceCtorEq, Nat.reduceAdd, Int.reduceAdd, Int.reduceSub]; done) | (simp only [up_same, up_cell, up_slot, ne_eq, not_false_eq_true, Nat.reduceEqDiff, Int.reduceEq, reduceCtorEq, Nat.reduceAdd, Int.reduceAdd, Int.reduceSub]; exact hx117_0)
                · first | exact hx117_1 | exact hx55_1 | (simp only [up_same, up_cell, up_slot, ne_eq, not_false_eq_true, Nat.reduceEqDiff, Int.reduceEq, reduceCtorEq, Nat.reduceAdd, Int.reduceAdd, Int.reduceSub]; done) | (simp only [up_same, up_cell, up_slot, ne_eq, not_false_eq_true, Nat.reduceEqDiff, Int.reduceEq, reduceCtorEq, Nat.reduceAdd, Int.reduceAdd, Int.reduceSub]; exact hx117_1)
                · first | exact hx117_2 | exact hx55_2 | (simp only [up_same, up_cell, up_slot, ne_eq, not_false_eq_true, Nat.reduceEqDiff, Int.reduceEq, reduceCtorEq, Nat.reduceAdd, Int.reduceAdd, Int.reduceSub]; done) | (simp only [up_same, up_cell, up_slot, ne_eq, not_false_eq_true, Nat.reduceEqDiff, Int.reduceEq, reduceCtorEq, Nat.reduceAdd, Int.reduceAdd, Int.reduceSub]; exact hx117_2)
                · first | exact hx117_3 | exact hx55_3 | (simp only [up_same, up_cell, up_slot, ne_eq, not_false_eq_true, Nat.reduceEqDiff, Int.reduceEq, reduceCtorEq, Nat.reduceAdd, Int.reduceAdd, Int.reduceSub]; done) | (simp only [up_same, up_cell, up_slot, ne_eq, not_false_eq_true, Nat.reduceEqDiff, Int.reduceEq, reduceCtorEq, Nat.reduceAdd, Int.reduceAdd, Int.reduceSub]; exact hx117_3)
                · first | exact hx117_4 | exact hx55_4 | (simp only [up_same, up_cell, up_slot, ne_eq, not_false_eq_true, Nat.reduceEqDiff, Int.reduceEq, reduceCtorEq, Nat.reduceAdd, Int.reduceAdd, Int.reduceSub]; done) | (simp only [up_same, up_cell, up_slot, ne_eq, not_false_eq_true, Nat.reduceEqDiff, Int.reduceEq, reduceCtorEq, Nat.reduceAdd, Int.reduceAdd, Int.reduceSub]; exact hx117_4)
                · first | exact hx117_5 | exact hx55_5 | (simp only [up_same, up_cell, up_slot, ne_eq, not_false_eq_true, Nat.reduceEqDiff, Int.reduceEq, reduceCtorEq, Nat.reduceAdd, Int.reduceAdd, Int.reduceSub]; done) | (simp only [up_same, up_cell, up_slot, ne_eq, not_false_eq_true, Nat.reduceEqDiff, Int.reduceEq, reduceCtorEq, Nat.reduceAdd, Int.reduceAdd, Int.reduceSub]; exact hx117_5)
                · first | exact hx117_6 | exact hx55_6 | (simp only [up_same, up_cell, up_slot, ne_eq, not_false_eq_true, Nat.reduceEqDiff, Int.reduceEq, reduceCtorEq, Nat.reduceAdd, Int.reduceAdd, Int.reduceSub]; done) | (simp only [up_same, up_cell, up_slot, ne_eq, not_false_eq_true, Nat.reduceEqDiff, Int.reduceEq, reduceCtorEq, Nat.reduceAdd, Int.reduceAdd, Int.reduceSub]; exact hx117_6)
                · intro j h0 h1; first | exact hx117_7 j h0 h1 | exact hx55_7 j h0 (by omega) | (simp only [up_same, up_cell, up_slot, ne_eq, not_false_eq_true, Nat.reduceEqDiff, Int.reduceEq, reduceCtorEq, Nat.reduceAdd, Int.reduceAdd, Int.reduceSub]; exact hx117_7 j h0 h1)
                · intro j h0 h1; first | exact hx117_8 j h0 h1 | exact hx55_8 j h0 (by omega) | (simp only [up_same, up_cell, up_slot, ne_eq, not_false_eq_true, Nat.reduceEqDiff, Int.reduceEq, reduceCtorEq, Nat.reduceAdd, Int.reduceAdd, Int.reduceSub]; exact hx117_8 j h0 h1)
                · intro j h0 h1; first | exact hx117_9 j h0 h1 | exact hx55_9 j h0 (by omega) | (simp only [up_same, up_cell, up_slot, ne_eq, not_false_eq_true, Nat.reduceEqDiff, Int.reduceEq, reduceCtorEq, Nat.reduceAdd, Int.reduceAdd, Int.reduceSub]; exact hx117_9 j h0 h1)
                · intro j h0 h1; first | exact hx117_10 j h0 h1 | exact hx55_10 j h0 (by omega) | (simp only [up_same, up_cell, up_slot, ne_eq, not_false_eq_true, Nat.reduceEqDiff, Int.reduceEq, reduceCtorEq, Nat.reduceAdd, Int.reduceAdd, Int.reduceSub]; exact hx117_10 j h0 h1)
                · intro j h0 h1; first | (exfalso; omega) | (by_cases e : j = q; (rw [e]; simp only [up_same, up_cell, up_slot, ne_eq, not_false_eq_true, Nat.reduceEqDiff, Int.reduceEq, reduceCtorEq, Nat.reduceAdd, Int.reduceAdd, Int.reduceSub]; exact hF117 74 q rfl); simp only [up_same, up_cell, up_slot, ne_eq, not_false_eq_true, Nat.reduceEqDiff, Int.reduceEq, reduceCtorEq, Nat.reduceAdd, Int.reduceAdd, Int.reduceSub, e]; exact hx117_11 j h0 (by omega))
        refine loop117 _ _ _ (Nat.lt_succ_self _) ?_
        refine ⟨?_, ?_, ?_, ?_, ?_, ?_, ?_, ?_, ?_, ?_, ?_, ?_, ?_, ?_, ?_⟩
        · exact hI55
        · exact hF55
        · omega
        · first | exact hx117_0 | exact hx55_0 | (simp only [up_same, up_cell, up_slot, ne_eq, not_false_eq_true, Nat.reduceEqDiff, Int.reduceEq, reduceCtorEq, Nat.reduceAdd, Int.reduceAdd, Int.reduceSub]; done) | (simp only [up_same, up_cell, up_slot, ne_eq, not_false_eq_true, Nat.reduceEqDiff, Int.reduceEq, reduceCtorEq, Nat.reduceAdd, Int.reduceAdd, Int.reduceSub]; exact hx117_0)
        · first | exact hx117_1 | exact hx55_1 | (simp only [up_same, up_cell, up_slot, ne_eq, not_false_eq_true, Nat.reduceEqDiff, Int.reduceEq, reduceCtorEq, Nat.reduceAdd, Int.reduceAdd, Int.reduceSub]; done) | (simp only [up_same, up_cell, up_slot, ne_eq, not_false_eq_true, Nat.reduceEqDiff, Int.reduceEq, reduceCtorEq, Nat.reduceAdd, Int.reduceAdd, Int.reduceSub]; exact hx117_1)
        · first | exact hx117_2 | exact hx55_2 | (simp only [up_same, up_cell, up_slot, ne_eq, not_false_eq_true, Nat.reduceEqDiff, Int.reduceEq, reduceCtorEq, Nat.reduceAdd, Int.reduceAdd, Int.reduceSub]; done) | (simp only [up_same, up_cell, up_slot, ne_eq, not_false_eq_true, Nat.reduceEqDiff, Int.reduceEq, reduceCtorEq, Nat.reduceAdd, Int.reduceAdd, Int.reduceSub]; exact hx117_2)
        · first | exact hx117_3 | exact hx55_3 | (simp only [up_same, up_cell, up_slot, ne_eq, not_false_eq_true, Nat.reduceEqDiff, Int.reduceEq, reduceCtorEq, Nat.reduceAdd, Int.reduceAdd, Int.reduceSub]; done) | (simp only [up_same, up_cell, up_slot, ne_eq, not_false_eq_true, Nat.reduceEqDiff, Int.reduceEq, reduceCtorEq, Nat.reduceAdd, Int.reduceAdd, Int.reduceSub]; exact hx117_3)
        · first | exact hx117_4 | exact hx55_4 | (simp only [up_same, up_cell, up_slot, ne_eq, not_false_eq_true, Nat.reduceEqDiff, Int.reduceEq, reduceCtorEq, Nat.reduceAdd, Int.reduceAdd, Int.reduceSub]; done) | (simp only [up_same, up_cell, up_slot, ne_eq, not_false_eq_true, Nat.reduceEqDiff, Int.reduceEq, reduceCtorEq, Nat.reduceAdd, Int.reduceAdd, Int.reduceSub]; exact hx117_4)
        · first | exact hx117_5 | exact hx55_5 | (simp only [up_same, up_cell, up_slot, ne_eq, not_false_eq_true, Nat.reduceEqDiff, Int.reduceEq, reduceCtorEq, Nat.reduceAdd, Int.reduceAdd, Int.reduceSub]; done) | (simp only [up_same, up_cell, up_slot, ne_eq, not_false_eq_true, Nat.reduceEqDiff, Int.reduceEq, reduceCtorEq, Nat.reduceAdd, Int.reduceAdd, Int.reduceSub]; exact hx117_5)
        · first | exact hx117_6 | exact hx55_6 | (simp only [up_same, up_cell, up_slot, ne_eq, not_false_eq_true, Nat.reduceEqDiff, Int.reduceEq, reduceCtorEq, Nat.reduceAdd, Int.reduceAdd, Int.reduceSub]; done) | (simp only [up_same, up_cell, up_slot, ne_eq, not_false_eq_true, Nat.reduceEqDiff, Int.reduceEq, reduceCtorEq, Nat.reduceAdd, Int.reduceAdd, Int.reduceSub]; exact hx117_6)
        · intro j h0 h1; first | exact hx117_7 j h0 h1 | exact hx55_7 j h0 (by omega) | (simp only [up_same, up_cell, up_slot, ne_eq, not_false_eq_true, Nat.reduceEqDiff, Int.reduceEq, reduceCtorEq, Nat.reduceAdd, Int.reduceAdd, Int.reduceSub]; exact hx117_7 j h0 h1)
        · intro j h0 h1; first | exact hx117_8 j h0 h1 | exact hx55_8 j h0 (by omega) | (simp only [up_same, up_cell, up_slot, ne_eq, not_false_eq_true, Nat.reduceEqDiff, Int.reduceEq, reduceCtorEq, Nat.reduceAdd, Int.reduceAdd, Int.reduceSub]; exact hx117_8 j h0 h1)
        · intro j h0 h1; first | exact hx117_9 j h0 h1 | exact hx55_9 j h0 (by omega) | (simp only [up_same, up_cell, up_slot, ne_eq, not_false_eq_true, Nat.reduceEqDiff, Int.reduceEq, reduceCtorEq, Nat.reduceAdd, Int.reduceAdd, Int.reduceSub]; exact hx117_9 j h0 h1)
        · intro j h0 h1; first | exact hx117_10 j h0 h1 | exact hx55_10 j h0 (by omega) | (simp only [up_same, up_cell, up_slot, ne_eq, not_false_eq_true, Nat.reduceEqDiff, Int.reduceEq, reduceCtorEq, Nat.reduceAdd, Int.reduceAdd, Int.reduceSub]; exact hx117_10 j h0 h1)
        · intro j h0 h1; first | (exfalso; omega) | (by_cases e : j = q; (rw [e]; simp only [up_same, up_cell, up_slot, ne_eq, not_false_eq_true, Nat.reduceEqDiff, Int.reduceEq, reduceCtorEq, Nat.reduceAdd, Int.reduceAdd, Int.reduceSub]; exact hF117 74 q rfl); simp only [up_same, up_cell, up_slot, ne_eq, not_false_eq_true, Nat.reduceEqDiff, Int.reduceEq, reduceCtorEq, Nat.reduceAdd, Int.reduceAdd, Int.reduceSub, e]; exact hx117_11 j h0 (by omega))
      · skip
        refine g_aload_n (M := mX11_image) (pc := 61) dX11_image_61 rfl (k := ?_)
        refine g_getr (M := mX11_image) (pc := 62) (by rfl) fX11_51 kX11_166 dX11_image_62 (by rfl) (kk := ?_)
        refine g_iload_n (M := mX11_image) (pc := 65) dX11_image_65 rfl (k := ?_)
        refine g_aload_n (M := mX11_image) (pc := 66) dX11_image_66 rfl (k := ?_)
        refine g_getr (M := mX11_image) (pc := 67) (by rfl) fX11_2 kX11_16 dX11_image_67 (by rfl) (kk := ?_)
        refine g_iload_n (M := mX11_image) (pc := 70) dX11_image_70 rfl (k := ?_)
        refine g_iald (M := mX11_image) (pc := 71) (by rfl) (by omega) (by omega) dX11_image_71 (kk := fun hr71 => ?_)
        have hb71 := jv70_0 hI55 q (by omega) (by omega)
        refine g_iast (M := mX11_image) (pc := 72) (by rfl) (by omega) (by omega) (by omega) dX11_image_72 (kk := ?_)
        refine g_aload_n (M := mX11_image) (pc := 73) dX11_image_73 rfl (k := ?_)
        refine g_getr (M := mX11_image) (pc := 74) (by rfl) fX11_52 kX11_169 dX11_image_74 (by rfl) (kk := ?_)
        refine g_iload_n (M := mX11_image) (pc := 77) dX11_image_77 rfl (k := ?_)
        refine g_aload_n (M := mX11_image) (pc := 78) dX11_image_78 rfl (k := ?_)
        refine g_getr (M := mX11_image) (pc := 79) (by rfl) fX11_3 kX11_20 dX11_image_79 (by rfl) (kk := ?_)
        refine g_iload_n (M := mX11_image) (pc := 82) dX11_image_82 rfl (k := ?_)
        refine g_iald (M := mX11_image) (pc := 83) (by rfl) (by omega) (by omega) dX11_image_83 (kk := fun hr83 => ?_)
        simp only [up_same, up_cell, up_slot, ne_eq, not_false_eq_true, Nat.reduceEqDiff, Int.reduceEq, reduceCtorEq, Nat.reduceAdd, Int.reduceAdd, Int.reduceSub] at hr83 ⊢
        have hb83 := jv71_0 hI55 q (by omega) (by omega)
        refine g_iast (M := mX11_image) (pc := 84) (by rfl) (by omega) (by omega) (by omega) dX11_image_84 (kk := ?_)
        refine g_aload_n (M := mX11_image) (pc := 85) dX11_image_85 rfl (k := ?_)
        refine g_getr (M := mX11_image) (pc := 86) (by rfl) fX11_53 kX11_172 dX11_image_86 (by rfl) (kk := ?_)
        refine g_iload_n (M := mX11_image) (pc := 89) dX11_image_89 rfl (k := ?_)
        refine g_aload_n (M := mX11_image) (pc := 90) dX11_image_90 rfl (k := ?_)
        refine g_getr (M := mX11_image) (pc := 91) (by rfl) fX11_4 kX11_23 dX11_image_91 (by rfl) (kk := ?_)
        refine g_iload_n (M := mX11_image) (pc := 94) dX11_image_94 rfl (k := ?_)
        refine g_iald (M := mX11_image) (pc := 95) (by rfl) (by omega) (by omega) dX11_image_95 (kk := fun hr95 => ?_)
        simp only [up_same, up_cell, up_slot, ne_eq, not_false_eq_true, Nat.reduceEqDiff, Int.reduceEq, reduceCtorEq, Nat.reduceAdd, Int.reduceAdd, Int.reduceSub] at hr95 ⊢
        have hb95 := jv72_0 hI55 q (by omega) (by omega)
        refine g_iast (M := mX11_image) (pc := 96) (by rfl) (by omega) (by omega) (by omega) dX11_image_96 (kk := ?_)
        refine g_aload_n (M := mX11_image) (pc := 97) dX11_image_97 rfl (k := ?_)
        refine g_getr (M := mX11_image) (pc := 98) (by rfl) fX11_54 kX11_175 dX11_image_98 (by rfl) (kk := ?_)
        refine g_iload_n (M := mX11_image) (pc := 101) dX11_image_101 rfl (k := ?_)
        refine g_aload_n (M := mX11_image) (pc := 102) dX11_image_102 rfl (k := ?_)
        refine g_getr (M := mX11_image) (pc := 103) (by rfl) fX11_5 kX11_26 dX11_image_103 (by rfl) (kk := ?_)
        refine g_iload_n (M := mX11_image) (pc := 106) dX11_image_106 rfl (k := ?_)
        refine g_iald (M := mX11_image) (pc := 107) (by rfl) (by omega) (by omega) dX11_image_107 (kk := fun hr107 => ?_)
        simp only [up_same, up_cell, up_slot, ne_eq, not_false_eq_true, Nat.reduceEqDiff, Int.reduceEq, reduceCtorEq, Nat.reduceAdd, Int.reduceAdd, Int.reduceSub] at hr107 ⊢
        refine g_iast (M := mX11_image) (pc := 108) (by rfl) (by omega) (by omega) (by omega) dX11_image_108 (kk := ?_)
        refine g_iinc_1 (M := mX11_image) (pc := 109) dX11_image_109 (k := ?_)
        refine g_goto (M := mX11_image) (pc := 112) (tgt := 55) dX11_image_112 (k := ?_)
        refine ih55 _ _ ?_ ?_
        · omega
        · skip
          refine ⟨?_, ?_, ?_, ?_, ?_, ?_, ?_, ?_, ?_, ?_, ?_, ?_, ?_, ?_⟩
          · refine jv_cell ?_ (by rfl); refine jvu97 ?_ (by omega) (by omega); refine jvu96 ?_ (by omega) (by omega); refine jvu95 ?_ (by omega) (by omega); exact hI55
          · refine Fr.up ?_ (by first | rfl | (unfold jcI; simp; try omega)); refine Fr.up ?_ (by first | rfl | (unfold jcI; simp; try omega)); refine Fr.up ?_ (by first | rfl | (unfold jcI; simp; try omega)); refine Fr.up ?_ (by first | rfl | (unfold jcI; simp; try omega)); exact hF55
          · omega
          · first | exact hx55_0 | (simp only [up_same, up_cell, up_slot, ne_eq, not_false_eq_true, Nat.reduceEqDiff, Int.reduceEq, reduceCtorEq, Nat.reduceAdd, Int.reduceAdd, Int.reduceSub]; done) | (simp only [up_same, up_cell, up_slot, ne_eq, not_false_eq_true, Nat.reduceEqDiff, Int.reduceEq, reduceCtorEq, Nat.reduceAdd, Int.reduceAdd, Int.reduceSub]; exact hx55_0)
          · first | exact hx55_1 | (simp only [up_same, up_cell, up_slot, ne_eq, not_false_eq_true, Nat.reduceEqDiff, Int.reduceEq, reduceCtorEq, Nat.reduceAdd, Int.reduceAdd, Int.reduceSub]; done) | (simp only [up_same, up_cell, up_slot, ne_eq, not_false_eq_true, Nat.reduceEqDiff, Int.reduceEq, reduceCtorEq, Nat.reduceAdd, Int.reduceAdd, Int.reduceSub]; exact hx55_1)
          · first | exact hx55_2 | (simp only [up_same, up_cell, up_slot, ne_eq, not_false_eq_true, Nat.reduceEqDiff, Int.reduceEq, reduceCtorEq, Nat.reduceAdd, Int.reduceAdd, Int.reduceSub]; done) | (simp only [up_same, up_cell, up_slot, ne_eq, not_false_eq_true, Nat.reduceEqDiff, Int.reduceEq, reduceCtorEq, Nat.reduceAdd, Int.reduceAdd, Int.reduceSub]; exact hx55_2)
          · first | exact hx55_3 | (simp only [up_same, up_cell, up_slot, ne_eq, not_false_eq_true, Nat.reduceEqDiff, Int.reduceEq, reduceCtorEq, Nat.reduceAdd, Int.reduceAdd, Int.reduceSub]; done) | (simp only [up_same, up_cell, up_slot, ne_eq, not_false_eq_true, Nat.reduceEqDiff, Int.reduceEq, reduceCtorEq, Nat.reduceAdd, Int.reduceAdd, Int.reduceSub]; exact hx55_3)
          · first | exact hx55_4 | (simp only [up_same, up_cell, up_slot, ne_eq, not_false_eq_true, Nat.reduceEqDiff, Int.reduceEq, reduceCtorEq, Nat.reduceAdd, Int.reduceAdd, Int.reduceSub]; done) | (simp only [up_same, up_cell, up_slot, ne_eq, not_false_eq_true, Nat.reduceEqDiff, Int.reduceEq, reduceCtorEq, Nat.reduceAdd, Int.reduceAdd, Int.reduceSub]; exact hx55_4)
          · first | exact hx55_5 | (simp only [up_same, up_cell, up_slot, ne_eq, not_false_eq_true, Nat.reduceEqDiff, Int.reduceEq, reduceCtorEq, Nat.reduceAdd, Int.reduceAdd, Int.reduceSub]; done) | (simp only [up_same, up_cell, up_slot, ne_eq, not_false_eq_true, Nat.reduceEqDiff, Int.reduceEq, reduceCtorEq, Nat.reduceAdd, Int.reduceAdd, Int.reduceSub]; exact hx55_5)
          · first | exact hx55_6 | (simp only [up_same, up_cell, up_slot, ne_eq, not_false_eq_true, Nat.reduceEqDiff, Int.reduceEq, reduceCtorEq, Nat.reduceAdd, Int.reduceAdd, Int.reduceSub]; done) | (simp only [up_same, up_cell, up_slot, ne_eq, not_false_eq_true, Nat.reduceEqDiff, Int.reduceEq, reduceCtorEq, Nat.reduceAdd, Int.reduceAdd, Int.reduceSub]; exact hx55_6)
          · intro j h0 h1; first | (exfalso; omega) | (by_cases e : j = q; (rw [e]; simp only [up_same, up_cell, up_slot, ne_eq, not_false_eq_true, Nat.reduceEqDiff, Int.reduceEq, reduceCtorEq, Nat.reduceAdd, Int.reduceAdd, Int.reduceSub]; exact hF55 70 q rfl); simp only [up_same, up_cell, up_slot, ne_eq, not_false_eq_true, Nat.reduceEqDiff, Int.reduceEq, reduceCtorEq, Nat.reduceAdd, Int.reduceAdd, Int.reduceSub, e]; exact hx55_7 j h0 (by omega))
          · intro j h0 h1; first | (exfalso; omega) | (by_cases e : j = q; (rw [e]; simp only [up_same, up_cell, up_slot, ne_eq, not_false_eq_true, Nat.reduceEqDiff, Int.reduceEq, reduceCtorEq, Nat.reduceAdd, Int.reduceAdd, Int.reduceSub]; exact hF55 71 q rfl); simp only [up_same, up_cell, up_slot, ne_eq, not_false_eq_true, Nat.reduceEqDiff, Int.reduceEq, reduceCtorEq, Nat.reduceAdd, Int.reduceAdd, Int.reduceSub, e]; exact hx55_8 j h0 (by omega))
          · intro j h0 h1; first | (exfalso; omega) | (by_cases e : j = q; (rw [e]; simp only [up_same, up_cell, up_slot, ne_eq, not_false_eq_true, Nat.reduceEqDiff, Int.reduceEq, reduceCtorEq, Nat.reduceAdd, Int.reduceAdd, Int.reduceSub]; exact hF55 72 q rfl); simp only [up_same, up_cell, up_slot, ne_eq, not_false_eq_true, Nat.reduceEqDiff, Int.reduceEq, reduceCtorEq, Nat.reduceAdd, Int.reduceAdd, Int.reduceSub, e]; exact hx55_9 j h0 (by omega))
          · intro j h0 h1; first | (exfalso; omega) | (by_cases e : j = q; (rw [e]; simp only [up_same, up_cell, up_slot, ne_eq, not_false_eq_true, Nat.reduceEqDiff, Int.reduceEq, reduceCtorEq, Nat.reduceAdd, Int.reduceAdd, Int.reduceSub]; exact hF55 73 q rfl); simp only [up_same, up_cell, up_slot, ne_eq, not_false_eq_true, Nat.reduceEqDiff, Int.reduceEq, reduceCtorEq, Nat.reduceAdd, Int.reduceAdd, Int.reduceSub, e]; exact hx55_10 j h0 (by omega))
  refine loop55 _ _ _ (Nat.lt_succ_self _) ?_
  refine ⟨?_, ?_, ?_, ?_, ?_, ?_, ?_, ?_, ?_, ?_, ?_, ?_, ?_, ?_⟩
  · refine jvu69_50 ?_ (by omega) (by omega); refine jvu69_49 ?_ (by omega) (by omega); refine jvu69_48 ?_ (by omega) (by omega); refine jvu69_47 ?_ (by omega) (by omega); refine jvu69_46 ?_ (by omega) (by omega); refine jvu69_45 ?_ (by omega) (by omega); refine jv_free ?_ (by rfl); exact hI
  · refine Fr.up ?_ (by first | rfl | (unfold jcI; simp; try omega)); refine Fr.up ?_ (by first | rfl | (unfold jcI; simp; try omega)); refine Fr.up ?_ (by first | rfl | (unfold jcI; simp; try omega)); refine Fr.up ?_ (by first | rfl | (unfold jcI; simp; try omega)); refine Fr.up ?_ (by first | rfl | (unfold jcI; simp; try omega)); refine Fr.up ?_ (by first | rfl | (unfold jcI; simp; try omega)); refine Fr.up ?_ (by first | rfl | (unfold jcI; simp; try omega)); exact (Fr.rf)
  · omega
  · first | exact hx55_0 | (simp only [up_same, up_cell, up_slot, ne_eq, not_false_eq_true, Nat.reduceEqDiff, Int.reduceEq, reduceCtorEq, Nat.reduceAdd, Int.reduceAdd, Int.reduceSub]; done) | (simp only [up_same, up_cell, up_slot, ne_eq, not_false_eq_true, Nat.reduceEqDiff, Int.reduceEq, reduceCtorEq, Nat.reduceAdd, Int.reduceAdd, Int.reduceSub]; exact hx55_0)
  · first | exact hx55_1 | (simp only [up_same, up_cell, up_slot, ne_eq, not_false_eq_true, Nat.reduceEqDiff, Int.reduceEq, reduceCtorEq, Nat.reduceAdd, Int.reduceAdd, Int.reduceSub]; done) | (simp only [up_same, up_cell, up_slot, ne_eq, not_false_eq_true, Nat.reduceEqDiff, Int.reduceEq, reduceCtorEq, Nat.reduceAdd, Int.reduceAdd, Int.reduceSub]; exact hx55_1)
  · first | exact hx55_2 | (simp only [up_same, up_cell, up_slot, ne_eq, not_false_eq_true, Nat.reduceEqDiff, Int.reduceEq, reduceCtorEq, Nat.reduceAdd, Int.reduceAdd, Int.reduceSub]; done) | (simp only [up_same, up_cell, up_slot, ne_eq, not_false_eq_true, Nat.reduceEqDiff, Int.reduceEq, reduceCtorEq, Nat.reduceAdd, Int.reduceAdd, Int.reduceSub]; exact hx55_2)
  · first | exact hx55_3 | (simp only [up_same, up_cell, up_slot, ne_eq, not_false_eq_true, Nat.reduceEqDiff, Int.reduceEq, reduceCtorEq, Nat.reduceAdd, Int.reduceAdd, Int.reduceSub]; done) | (simp only [up_same, up_cell, up_slot, ne_eq, not_false_eq_true, Nat.reduceEqDiff, Int.reduceEq, reduceCtorEq, Nat.reduceAdd, Int.reduceAdd, Int.reduceSub]; exact hx55_3)
  · first | exact hx55_4 | (simp only [up_same, up_cell, up_slot, ne_eq, not_false_eq_true, Nat.reduceEqDiff, Int.reduceEq, reduceCtorEq, Nat.reduceAdd, Int.reduceAdd, Int.reduceSub]; done) | (simp only [up_same, up_cell, up_slot, ne_eq, not_false_eq_true, Nat.reduceEqDiff, Int.reduceEq, reduceCtorEq, Nat.reduceAdd, Int.reduceAdd, Int.reduceSub]; exact hx55_4)
  · first | exact hx55_5 | (simp only [up_same, up_cell, up_slot, ne_eq, not_false_eq_true, Nat.reduceEqDiff, Int.reduceEq, reduceCtorEq, Nat.reduceAdd, Int.reduceAdd, Int.reduceSub]; done) | (simp only [up_same, up_cell, up_slot, ne_eq, not_false_eq_true, Nat.reduceEqDiff, Int.reduceEq, reduceCtorEq, Nat.reduceAdd, Int.reduceAdd, Int.reduceSub]; exact hx55_5)
  · first | exact hx55_6 | (simp only [up_same, up_cell, up_slot, ne_eq, not_false_eq_true, Nat.reduceEqDiff, Int.reduceEq, reduceCtorEq, Nat.reduceAdd, Int.reduceAdd, Int.reduceSub]; done) | (simp only [up_same, up_cell, up_slot, ne_eq, not_false_eq_true, Nat.reduceEqDiff, Int.reduceEq, reduceCtorEq, Nat.reduceAdd, Int.reduceAdd, Int.reduceSub]; exact hx55_6)
  · intro j h0 h1; first | (exfalso; omega) | (by_cases e : j = q; (rw [e]; simp only [up_same, up_cell, up_slot, ne_eq, not_false_eq_true, Nat.reduceEqDiff, Int.reduceEq, reduceCtorEq, Nat.reduceAdd, Int.reduceAdd, Int.reduceSub]; exact hF55 70 q rfl); simp only [up_same, up_cell, up_slot, ne_eq, not_false_eq_true, Nat.reduceEqDiff, Int.reduceEq, reduceCtorEq, Nat.reduceAdd, Int.reduceAdd, Int.reduceSub, e]; exact hx55_7 j h0 (by omega))
  · intro j h0 h1; first | (exfalso; omega) | (by_cases e : j = q; (rw [e]; simp only [up_same, up_cell, up_slot, ne_eq, not_false_eq_true, Nat.reduceEqDiff, Int.reduceEq, reduceCtorEq, Nat.reduceAdd, Int.reduceAdd, Int.reduceSub]; exact hF55 71 q rfl); simp only [up_same, up_cell, up_slot, ne_eq, not_false_eq_true, Nat.reduceEqDiff, Int.reduceEq, reduceCtorEq, Nat.reduceAdd, Int.reduceAdd, Int.reduceSub, e]; exact hx55_8 j h0 (by omega))
  · intro j h0 h1; first | (exfalso; omega) | (by_cases e : j = q; (rw [e]; simp only [up_same, up_cell, up_slot, ne_eq, not_false_eq_true, Nat.reduceEqDiff, Int.reduceEq, reduceCtorEq, Nat.reduceAdd, Int.reduceAdd, Int.reduceSub]; exact hF55 72 q rfl); simp only [up_same, up_cell, up_slot, ne_eq, not_false_eq_true, Nat.reduceEqDiff, Int.reduceEq, reduceCtorEq, Nat.reduceAdd, Int.reduceAdd, Int.reduceSub, e]; exact hx55_9 j h0 (by omega))
  · intro j h0 h1; first | (exfalso; omega) | (by_cases e : j = q; (rw [e]; simp only [up_same, up_cell, up_slot, ne_eq, not_false_eq_true, Nat.reduceEqDiff, Int.reduceEq, reduceCtorEq, Nat.reduceAdd, Int.reduceAdd, Int.reduceSub]; exact hF55 73 q rfl); simp only [up_same, up_cell, up_slot, ne_eq, not_false_eq_true, Nat.reduceEqDiff, Int.reduceEq, reduceCtorEq, Nat.reduceAdd, Int.reduceAdd, Int.reduceSub, e]; exact hx55_10 j h0 (by omega))
set_option maxHeartbeats 4000000 in
set_option maxRecDepth 20000 in
theorem c_X11_undo (Γ : KT) (t : Nat) (σ : Nat → Int → Int)  (hI : InvJ σ) : Ct Γ mX11_undo 1 (0, 0) [vR Γ 69] (113, ρT t, σ) (pI 113 (ρT t) (fun r σ' => (((σ 69 44 = 0 ∧ r = -3 ∧ σ' = σ) ∨ (σ 69 44 ≠ 0 ∧ r = σ' 69 0 ∧ undoCp σ σ'))) ∧ (InvJ σ') ∧ (Fr jcU σ σ'))) := by
  refine Ct.of rfl (Nat.le_of_ble_eq_true rfl) ?_
  show G Γ mX11_undo 1 (0, 0) _ (0, 0) 0 [some (vR Γ 69), none] [] (113, ρT t, σ)
  refine g_aload_n (M := mX11_undo) (pc := 0) dX11_undo_0 rfl (k := ?_)
  refine g_getz (M := mX11_undo) (pc := 1) (ji := 44) (by rfl) fX11_44 kX11_144 dX11_undo_1 (kk := fun hr1 => ?_)
  refine g_if_ne (M := mX11_undo) (pc := 4) (tgt := 10) (by omega) dX11_undo_4 (k1 := fun h4 => ?_) (k2 := fun h4 => ?_)
  · skip
    refine g_aload_n (M := mX11_undo) (pc := 10) dX11_undo_10 rfl (k := ?_)
    refine g_aload_n (M := mX11_undo) (pc := 11) dX11_undo_11 rfl (k := ?_)
    refine g_get (M := mX11_undo) (pc := 12) (ji := 45) (by rfl) fX11_45 kX11_148 dX11_undo_12 (kk := fun hr12 => ?_)
    have hb12 := jv69_45 hI 45 (by omega) (by omega)
    refine g_put (M := mX11_undo) (pc := 15) (ji := 11) (by rfl) fX11_11 kX11_44 dX11_undo_15 (by omega) (kk := ?_)
    refine g_aload_n (M := mX11_undo) (pc := 18) dX11_undo_18 rfl (k := ?_)
    refine g_aload_n (M := mX11_undo) (pc := 19) dX11_undo_19 rfl (k := ?_)
    refine g_get (M := mX11_undo) (pc := 20) (ji := 46) (by rfl) fX11_46 kX11_151 dX11_undo_20 (kk := fun hr20 => ?_)
    simp only [up_same, up_cell, up_slot, ne_eq, not_false_eq_true, Nat.reduceEqDiff, Int.reduceEq, reduceCtorEq, Nat.reduceAdd, Int.reduceAdd, Int.reduceSub] at hr20 ⊢
    have hb20 := jv69_46 hI 46 (by omega) (by omega)
    refine g_put (M := mX11_undo) (pc := 23) (ji := 0) (by rfl) fX11_0 kX11_7 dX11_undo_23 (by omega) (kk := ?_)
    refine g_aload_n (M := mX11_undo) (pc := 26) dX11_undo_26 rfl (k := ?_)
    refine g_aload_n (M := mX11_undo) (pc := 27) dX11_undo_27 rfl (k := ?_)
    refine g_get (M := mX11_undo) (pc := 28) (ji := 47) (by rfl) fX11_47 kX11_154 dX11_undo_28 (kk := fun hr28 => ?_)
    simp only [up_same, up_cell, up_slot, ne_eq, not_false_eq_true, Nat.reduceEqDiff, Int.reduceEq, reduceCtorEq, Nat.reduceAdd, Int.reduceAdd, Int.reduceSub] at hr28 ⊢
    have hb28 := jv69_47 hI 47 (by omega) (by omega)
    refine g_put (M := mX11_undo) (pc := 31) (ji := 1) (by rfl) fX11_1 kX11_13 dX11_undo_31 (by omega) (kk := ?_)
    refine g_aload_n (M := mX11_undo) (pc := 34) dX11_undo_34 rfl (k := ?_)
    refine g_aload_n (M := mX11_undo) (pc := 35) dX11_undo_35 rfl (k := ?_)
    refine g_get (M := mX11_undo) (pc := 36) (ji := 48) (by rfl) fX11_48 kX11_157 dX11_undo_36 (kk := fun hr36 => ?_)
    simp only [up_same, up_cell, up_slot, ne_eq, not_false_eq_true, Nat.reduceEqDiff, Int.reduceEq, reduceCtorEq, Nat.reduceAdd, Int.reduceAdd, Int.reduceSub] at hr36 ⊢
    have hb36 := jv69_48 hI 48 (by omega) (by omega)
    refine g_put (M := mX11_undo) (pc := 39) (ji := 34) (by rfl) fX11_34 kX11_114 dX11_undo_39 (by omega) (kk := ?_)
    refine g_aload_n (M := mX11_undo) (pc := 42) dX11_undo_42 rfl (k := ?_)
    refine g_aload_n (M := mX11_undo) (pc := 43) dX11_undo_43 rfl (k := ?_)
    refine g_get (M := mX11_undo) (pc := 44) (ji := 49) (by rfl) fX11_49 kX11_160 dX11_undo_44 (kk := fun hr44 => ?_)
    simp only [up_same, up_cell, up_slot, ne_eq, not_false_eq_true, Nat.reduceEqDiff, Int.reduceEq, reduceCtorEq, Nat.reduceAdd, Int.reduceAdd, Int.reduceSub] at hr44 ⊢
    have hb44 := jv69_49 hI 49 (by omega) (by omega)
    refine g_put (M := mX11_undo) (pc := 47) (ji := 38) (by rfl) fX11_38 kX11_126 dX11_undo_47 (by omega) (kk := ?_)
    refine g_aload_n (M := mX11_undo) (pc := 50) dX11_undo_50 rfl (k := ?_)
    refine g_aload_n (M := mX11_undo) (pc := 51) dX11_undo_51 rfl (k := ?_)
    refine g_get (M := mX11_undo) (pc := 52) (ji := 50) (by rfl) fX11_50 kX11_163 dX11_undo_52 (kk := fun hr52 => ?_)
    simp only [up_same, up_cell, up_slot, ne_eq, not_false_eq_true, Nat.reduceEqDiff, Int.reduceEq, reduceCtorEq, Nat.reduceAdd, Int.reduceAdd, Int.reduceSub] at hr52 ⊢
    have hb52 := jv69_50 hI 50 (by omega) (by omega)
    refine g_put (M := mX11_undo) (pc := 55) (ji := 41) (by rfl) fX11_41 kX11_135 dX11_undo_55 (by omega) (kk := ?_)
    refine g_iconst (M := mX11_undo) (pc := 58) dX11_undo_58 (k := ?_)
    refine g_istore_1 (M := mX11_undo) (pc := 59) dX11_undo_59 (k := ?_)
    have loop60 : ∀ (N : Nat) (τ60 : Nat → Int → Int) (q : Int), ((7 - q).toNat) < N → ((InvJ τ60) ∧ (Fr jcU σ τ60) ∧ (0 ≤ q ∧ q ≤ 6) ∧ (τ60 69 11 = σ 69 45) ∧ (τ60 69 0 = σ 69 46) ∧ (τ60 69 1 = σ 69 47) ∧ (τ60 69 34 = σ 69 48) ∧ (τ60 69 38 = σ 69 49) ∧ (τ60 69 41 = σ 69 50) ∧ (∀ j, 0 ≤ j → j < q → τ60 70 j = σ 95 j) ∧ (∀ j, 0 ≤ j → j < q → τ60 71 j = σ 96 j) ∧ (∀ j, 0 ≤ j → j < q → τ60 72 j = σ 97 j) ∧ (∀ j, 0 ≤ j → j < q → τ60 73 j = σ 98 j)) → G Γ mX11_undo 1 (0, 0) (pI 113 (ρT t) (fun r σ' => (((σ 69 44 = 0 ∧ r = -3 ∧ σ' = σ) ∨ (σ 69 44 ≠ 0 ∧ r = σ' 69 0 ∧ undoCp σ σ'))) ∧ (InvJ σ') ∧ (Fr jcU σ σ'))) (0, 0) 60 [some (vR Γ 69), some (vI q)] [] (113, ρT t, τ60) := by
      intro N
      induction N with
      | zero => intro τ60 q hmu60 hinv60; exact absurd hmu60 (Nat.not_lt_zero _)
      | succ N ih60 =>
        intro τ60 q hmu60 hinv60
        obtain ⟨hI60, hF60, hb60_q, hx60_0, hx60_1, hx60_2, hx60_3, hx60_4, hx60_5, hx60_6, hx60_7, hx60_8, hx60_9⟩ := hinv60
        refine g_iload_n (M := mX11_undo) (pc := 60) dX11_undo_60 rfl (k := ?_)
        refine g_bipush (M := mX11_undo) (pc := 61) dX11_undo_61 (k := ?_)
        refine g_icmp_ge (M := mX11_undo) (pc := 63) (tgt := 120) (by omega) (by omega) dX11_undo_63 (k1 := fun h63 => ?_) (k2 := fun h63 => ?_)
        · skip
          refine g_iconst (M := mX11_undo) (pc := 120) dX11_undo_120 (k := ?_)
          refine g_istore_1 (M := mX11_undo) (pc := 121) dX11_undo_121 (k := ?_)
          have loop122 : ∀ (N : Nat) (τ122 : Nat → Int → Int) (q : Int), ((25 - q).toNat) < N → ((InvJ τ122) ∧ (Fr jcU σ τ122) ∧ (0 ≤ q ∧ q ≤ 24) ∧ (τ122 69 11 = σ 69 45) ∧ (τ122 69 0 = σ 69 46) ∧ (τ122 69 1 = σ 69 47) ∧ (τ122 69 34 = σ 69 48) ∧ (τ122 69 38 = σ 69 49) ∧ (τ122 69 41 = σ 69 50) ∧ (∀ j, 0 ≤ j → j < 6 → τ122 70 j = σ 95 j) ∧ (∀ j, 0 ≤ j → j < 6 → τ122 71 j = σ 96 j) ∧ (∀ j, 0 ≤ j → j < 6 → τ122 72 j = σ 97 j) ∧ (∀ j, 0 ≤ j → j < 6 → τ122 73 j = σ 98 j) ∧ (∀ j, 0 ≤ j → j < q → τ122 74 j = σ 99 j)) → G Γ mX11_undo 1 (0, 0) (pI 113 (ρT t) (fun r σ' => (((σ 69 44 = 0 ∧ r = -3 ∧ σ' = σ) ∨ (σ 69 44 ≠ 0 ∧ r = σ' 69 0 ∧ undoCp σ σ'))) ∧ (InvJ σ') ∧ (Fr jcU σ σ'))) (0, 0) 122 [some (vR Γ 69), some (vI q)] [] (113, ρT t, τ122) := by
            intro N
            induction N with
            | zero => intro τ122 q hmu122 hinv122; exact absurd hmu122 (Nat.not_lt_zero _)
            | succ N ih122 =>
              intro τ122 q hmu122 hinv122
              obtain ⟨hI122, hF122, hb122_q, hx122_0, hx122_1, hx122_2, hx122_3, hx122_4, hx122_5, hx122_6, hx122_7, hx122_8, hx122_9, hx122_10⟩ := hinv122
              refine g_iload_n (M := mX11_undo) (pc := 122) dX11_undo_122 rfl (k := ?_)
              refine g_bipush (M := mX11_undo) (pc := 123) dX11_undo_123 (k := ?_)
              refine g_icmp_ge (M := mX11_undo) (pc := 125) (tgt := 146) (by omega) (by omega) dX11_undo_125 (k1 := fun h125 => ?_) (k2 := fun h125 => ?_)
              · skip
                refine g_iconst (M := mX11_undo) (pc := 146) dX11_undo_146 (k := ?_)
                refine g_istore_1 (M := mX11_undo) (pc := 147) dX11_undo_147 (k := ?_)
                have loop148 : ∀ (N : Nat) (τ148 : Nat → Int → Int) (q : Int), ((5 - q).toNat) < N → ((InvJ τ148) ∧ (Fr jcU σ τ148) ∧ (0 ≤ q ∧ q ≤ 4) ∧ (τ148 69 11 = σ 69 45) ∧ (τ148 69 0 = σ 69 46) ∧ (τ148 69 1 = σ 69 47) ∧ (τ148 69 34 = σ 69 48) ∧ (τ148 69 38 = σ 69 49) ∧ (τ148 69 41 = σ 69 50) ∧ (∀ j, 0 ≤ j → j < 6 → τ148 70 j = σ 95 j) ∧ (∀ j, 0 ≤ j → j < 6 → τ148 71 j = σ 96 j) ∧ (∀ j, 0 ≤ j → j < 6 → τ148 72 j = σ 97 j) ∧ (∀ j, 0 ≤ j → j < 6 → τ148 73 j = σ 98 j) ∧ (∀ j, 0 ≤ j → j < 24 → τ148 74 j = σ 99 j) ∧ (∀ j, 0 ≤ j → j < q → τ148 75 j = σ 100 j) ∧ (∀ j, 0 ≤ j → j < q → τ148 76 j = σ 101 j) ∧ (∀ j, 0 ≤ j → j < q → τ148 77 j = σ 102 j)) → G Γ mX11_undo 1 (0, 0) (pI 113 (ρT t) (fun r σ' => (((σ 69 44 = 0 ∧ r = -3 ∧ σ' = σ) ∨ (σ 69 44 ≠ 0 ∧ r = σ' 69 0 ∧ undoCp σ σ'))) ∧ (InvJ σ') ∧ (Fr jcU σ σ'))) (0, 0) 148 [some (vR Γ 69), some (vI q)] [] (113, ρT t, τ148) := by
                  intro N
                  induction N with
                  | zero => intro τ148 q hmu148 hinv148; exact absurd hmu148 (Nat.not_lt_zero _)
                  | succ N ih148 =>
                    intro τ148 q hmu148 hinv148
                    obtain ⟨hI148, hF148, hb148_q, hx148_0, hx148_1, hx148_2, hx148_3, hx148_4, hx148_5, hx148_6, hx148_7, hx148_8, hx148_9, hx148_10, hx148_11, hx148_12, hx148_13⟩ := hinv148
                    refine g_iload_n (M := mX11_undo) (pc := 148) dX11_undo_148 rfl (k := ?_)
                    refine g_iconst (M := mX11_undo) (pc := 149) dX11_undo_149 (k := ?_)
                    refine g_icmp_ge (M := mX11_undo) (pc := 150) (tgt := 195) (by omega) (by omega) dX11_undo_150 (k1 := fun h150 => ?_) (k2 := fun h150 => ?_)
                    · skip
                      refine g_iconst (M := mX11_undo) (pc := 195) dX11_undo_195 (k := ?_)
                      refine g_istore_1 (M := mX11_undo) (pc := 196) dX11_undo_196 (k := ?_)
                      have loop197 : ∀ (N : Nat) (τ197 : Nat → Int → Int) (q : Int), ((9 - q).toNat) < N → ((InvJ τ197) ∧ (Fr jcU σ τ197) ∧ (0 ≤ q ∧ q ≤ 8) ∧ (τ197 69 11 = σ 69 45) ∧ (τ197 69 0 = σ 69 46) ∧ (τ197 69 1 = σ 69 47) ∧ (τ197 69 34 = σ 69 48) ∧ (τ197 69 38 = σ 69 49) ∧ (τ197 69 41 = σ 69 50) ∧ (∀ j, 0 ≤ j → j < 6 → τ197 70 j = σ 95 j) ∧ (∀ j, 0 ≤ j → j < 6 → τ197 71 j = σ 96 j) ∧ (∀ j, 0 ≤ j → j < 6 → τ197 72 j = σ 97 j) ∧ (∀ j, 0 ≤ j → j < 6 → τ197 73 j = σ 98 j) ∧ (∀ j, 0 ≤ j → j < 24 → τ197 74 j = σ 99 j) ∧ (∀ j, 0 ≤ j → j < 4 → τ197 75 j = σ 100 j) ∧ (∀ j, 0 ≤ j → j < 4 → τ197 76 j = σ 101 j) ∧ (∀ j, 0 ≤ j → j < 4 → τ197 77 j = σ 102 j) ∧ (∀ j, 0 ≤ j → j < q → τ197 88 j = σ 103 j) ∧ (∀ j, 0 ≤ j → j < q → τ197 91 j = σ 104 j) ∧ (∀ j, 0 ≤ j → j < q → τ197 92 j = σ 107 j)) → G Γ mX11_undo 1 (0, 0) (pI 113 (ρT t) (fun r σ' => (((σ 69 44 = 0 ∧ r = -3 ∧ σ' = σ) ∨ (σ 69 44 ≠ 0 ∧ r = σ' 69 0 ∧ undoCp σ σ'))) ∧ (InvJ σ') ∧ (Fr jcU σ σ'))) (0, 0) 197 [some (vR Γ 69), some (vI q)] [] (113, ρT t, τ197) := by
                        intro N
                        induction N with
                        | zero => intro τ197 q hmu197 hinv197; exact absurd hmu197 (Nat.not_lt_zero _)
                        | succ N ih197 =>
                          intro τ197 q hmu197 hinv197
                          obtain ⟨hI197, hF197, hb197_q, hx197_0, hx197_1, hx197_2, hx197_3, hx197_4, hx197_5, hx197_6, hx197_7, hx197_8, hx197_9, hx197_10, hx197_11, hx197_12, hx197_13, hx197_14, hx197_15, hx197_16⟩ := hinv197
                          refine g_iload_n (M := mX11_undo) (pc := 197) dX11_undo_197 rfl (k := ?_)
                          refine g_bipush (M := mX11_undo) (pc := 198) dX11_undo_198 (k := ?_)
                          refine g_icmp_ge (M := mX11_undo) (pc := 200) (tgt := 245) (by omega) (by omega) dX11_undo_200 (k1 := fun h200 => ?_) (k2 := fun h200 => ?_)
                          · skip
                            refine g_iconst (M := mX11_undo) (pc := 245) dX11_undo_245 (k := ?_)
                            refine g_istore_1 (M := mX11_undo) (pc := 246) dX11_undo_246 (k := ?_)
                            have loop247 : ∀ (N : Nat) (τ247 : Nat → Int → Int) (q : Int), ((13 - q).toNat) < N → ((InvJ τ247) ∧ (Fr jcU σ τ247) ∧ (0 ≤ q ∧ q ≤ 12) ∧ (τ247 69 11 = σ 69 45) ∧ (τ247 69 0 = σ 69 46) ∧ (τ247 69 1 = σ 69 47) ∧ (τ247 69 34 = σ 69 48) ∧ (τ247 69 38 = σ 69 49) ∧ (τ247 69 41 = σ 69 50) ∧ (∀ j, 0 ≤ j → j < 6 → τ247 70 j = σ 95 j) ∧ (∀ j, 0 ≤ j → j < 6 → τ247 71 j = σ 96 j) ∧ (∀ j, 0 ≤ j → j < 6 → τ247 72 j = σ 97 j) ∧ (∀ j, 0 ≤ j → j < 6 → τ247 73 j = σ 98 j) ∧ (∀ j, 0 ≤ j → j < 24 → τ247 74 j = σ 99 j) ∧ (∀ j, 0 ≤ j → j < 4 → τ247 75 j = σ 100 j) ∧ (∀ j, 0 ≤ j → j < 4 → τ247 76 j = σ 101 j) ∧ (∀ j, 0 ≤ j → j < 4 → τ247 77 j = σ 102 j) ∧ (∀ j, 0 ≤ j → j < 8 → τ247 88 j = σ 103 j) ∧ (∀ j, 0 ≤ j → j < 8 → τ247 91 j = σ 104 j) ∧ (∀ j, 0 ≤ j → j < 8 → τ247 92 j = σ 107 j) ∧ (∀ j, 0 ≤ j → j < q → τ247 93 j = σ 105 j) ∧ (∀ j, 0 ≤ j → j < q → τ247 94 j = σ 106 j)) → G Γ mX11_undo 1 (0, 0) (pI 113 (ρT t) (fun r σ' => (((σ 69 44 = 0 ∧ r = -3 ∧ σ' = σ) ∨ (σ 69 44 ≠ 0 ∧ r = σ' 69 0 ∧ undoCp σ σ'))) ∧ (InvJ σ') ∧ (Fr jcU σ σ'))) (0, 0) 247 [some (vR Γ 69), some (vI q)] [] (113, ρT t, τ247) := by
                              intro N
                              induction N with
                              | zero => intro τ247 q hmu247 hinv247; exact absurd hmu247 (Nat.not_lt_zero _)
                              | succ N ih247 =>
                                intro τ247 q hmu247 hinv247
                                obtain ⟨hI247, hF247, hb247_q, hx247_0, hx247_1, hx247_2, hx247_3, hx247_4, hx247_5, hx247_6, hx247_7, hx247_8, hx247_9, hx247_10, hx247_11, hx247_12, hx247_13, hx247_14, hx247_15, hx247_16, hx247_17, hx247_18⟩ := hinv247
                                refine g_iload_n (M := mX11_undo) (pc := 247) dX11_undo_247 rfl (k := ?_)
                                refine g_bipush (M := mX11_undo) (pc := 248) dX11_undo_248 (k := ?_)
                                refine g_icmp_ge (M := mX11_undo) (pc := 250) (tgt := 283) (by omega) (by omega) dX11_undo_250 (k1 := fun h250 => ?_) (k2 := fun h250 => ?_)
                                · skip
                                  refine g_aload_n (M := mX11_undo) (pc := 283) dX11_undo_283 rfl (k := ?_)
                                  refine g_get (M := mX11_undo) (pc := 284) (ji := 0) (by rfl) fX11_0 kX11_7 dX11_undo_284 (kk := fun hr284 => ?_)
                                  have hb284 := jv69_0 hI247 0 (by omega) (by omega)
                                  refine g_iret (M := mX11_undo) (pc := 287) rfl dX11_undo_287 rfl ⟨_, _, rfl, rfl, ?_⟩
                                  refine ⟨?_, ?_, ?_⟩
                                  · first | exact Or.inl ⟨by omega, by first | rfl | omega, rfl⟩ | exact Or.inr ⟨by omega, rfl, ⟨hx247_0, hx247_1, hx247_2, hx247_3, hx247_4, hx247_5, fun j h0 h1 => hx247_6 j h0 (by omega), fun j h0 h1 => hx247_7 j h0 (by omega), fun j h0 h1 => hx247_8 j h0 (by omega), fun j h0 h1 => hx247_9 j h0 (by omega), fun j h0 h1 => hx247_10 j h0 (by omega), fun j h0 h1 => hx247_11 j h0 (by omega), fun j h0 h1 => hx247_12 j h0 (by omega), fun j h0 h1 => hx247_13 j h0 (by omega), fun j h0 h1 => hx247_14 j h0 (by omega), fun j h0 h1 => hx247_15 j h0 (by omega), fun j h0 h1 => hx247_16 j h0 (by omega), fun j h0 h1 => hx247_17 j h0 (by omega), fun j h0 h1 => hx247_18 j h0 (by omega)⟩⟩
                                  · exact hI247
                                  · exact hF247
                                · skip
                                  refine g_aload_n (M := mX11_undo) (pc := 253) dX11_undo_253 rfl (k := ?_)
                                  refine g_getr (M := mX11_undo) (pc := 254) (by rfl) fX11_42 kX11_138 dX11_undo_254 (by rfl) (kk := ?_)
                                  refine g_iload_n (M := mX11_undo) (pc := 257) dX11_undo_257 rfl (k := ?_)
                                  refine g_aload_n (M := mX11_undo) (pc := 258) dX11_undo_258 rfl (k := ?_)
                                  refine g_getr (M := mX11_undo) (pc := 259) (by rfl) fX11_61 kX11_196 dX11_undo_259 (by rfl) (kk := ?_)
                                  refine g_iload_n (M := mX11_undo) (pc := 262) dX11_undo_262 rfl (k := ?_)
                                  refine g_iald (M := mX11_undo) (pc := 263) (by rfl) (by omega) (by omega) dX11_undo_263 (kk := fun hr263 => ?_)
                                  have hb263 := jv105_0 hI247 q (by omega) (by omega)
                                  refine g_iast (M := mX11_undo) (pc := 264) (by rfl) (by omega) (by omega) (by omega) dX11_undo_264 (kk := ?_)
                                  refine g_aload_n (M := mX11_undo) (pc := 265) dX11_undo_265 rfl (k := ?_)
                                  refine g_getr (M := mX11_undo) (pc := 266) (by rfl) fX11_43 kX11_141 dX11_undo_266 (by rfl) (kk := ?_)
                                  refine g_iload_n (M := mX11_undo) (pc := 269) dX11_undo_269 rfl (k := ?_)
                                  refine g_aload_n (M := mX11_undo) (pc := 270) dX11_undo_270 rfl (k := ?_)
                                  refine g_getr (M := mX11_undo) (pc := 271) (by rfl) fX11_62 kX11_199 dX11_undo_271 (by rfl) (kk := ?_)
                                  refine g_iload_n (M := mX11_undo) (pc := 274) dX11_undo_274 rfl (k := ?_)
                                  refine g_iald (M := mX11_undo) (pc := 275) (by rfl) (by omega) (by omega) dX11_undo_275 (kk := fun hr275 => ?_)
                                  simp only [up_same, up_cell, up_slot, ne_eq, not_false_eq_true, Nat.reduceEqDiff, Int.reduceEq, reduceCtorEq, Nat.reduceAdd, Int.reduceAdd, Int.reduceSub] at hr275 ⊢
                                  have hb275 := jv106_0 hI247 q (by omega) (by omega)
                                  refine g_iast (M := mX11_undo) (pc := 276) (by rfl) (by omega) (by omega) (by omega) dX11_undo_276 (kk := ?_)
                                  refine g_iinc_1 (M := mX11_undo) (pc := 277) dX11_undo_277 (k := ?_)
                                  refine g_goto (M := mX11_undo) (pc := 280) (tgt := 247) dX11_undo_280 (k := ?_)
                                  refine ih247 _ _ ?_ ?_
                                  · omega
                                  · skip
                                    refine ⟨?_, ?_, ?_, ?_, ?_, ?_, ?_, ?_, ?_, ?_, ?_, ?_, ?_, ?_, ?_, ?_, ?_, ?_, ?_, ?_, ?_, ?_⟩
                                    · refine jvu94 ?_ (by omega) (by omega); refine jvu93 ?_ (by omega) (by omega); exact hI247
                                    · refine Fr.up ?_ (by first | rfl | (unfold jcU; simp; try omega)); refine Fr.up ?_ (by first | rfl | (unfold jcU; simp; try omega)); exact hF247
                                    · omega
                                    · first | exact hx247_0 | exact hx197_0 | (simp only [up_same, up_cell, up_slot, ne_eq, not_false_eq_true, Nat.reduceEqDiff, Int.reduceEq, reduceCtorEq, Nat.reduceAdd, Int.reduceAdd, Int.reduceSub]; done) | (simp only [up_same, up_cell, up_slot, ne_eq, not_false_eq_true, Nat.reduceEqDiff, Int.reduceEq, reduceCtorEq, Nat.reduceAdd, Int.reduceAdd, Int.reduceSub]; exact hx247_0)
                                    · first | exact hx247_1 | exact hx197_1 | (simp only [up_same, up_cell, up_slot, ne_eq, not_false_eq_true, Nat.reduceEqDiff, Int.reduceEq, reduceCtorEq, Nat.reduceAdd, Int.reduceAdd, Int.reduceSub]; done) | (simp only [up_same, up_cell, up_slot, ne_eq, not_false_eq_true, Nat.reduceEqDiff, Int.reduceEq, reduceCtorEq, Nat.reduceAdd, Int.reduceAdd, Int.reduceSub]; exact hx247_1)
                                    · first | exact hx247_2 | exact hx197_2 | (simp only [up_same, up_cell, up_slot, ne_eq, not_false_eq_true, Nat.reduceEqDiff, Int.reduceEq, reduceCtorEq, Nat.reduceAdd, Int.reduceAdd, Int.reduceSub]; done) | (simp only [up_same, up_cell, up_slot, ne_eq, not_false_eq_true, Nat.reduceEqDiff, Int.reduceEq, reduceCtorEq, Nat.reduceAdd, Int.reduceAdd, Int.reduceSub]; exact hx247_2)
                                    · first | exact hx247_3 | exact hx197_3 | (simp only [up_same, up_cell, up_slot, ne_eq, not_false_eq_true, Nat.reduceEqDiff, Int.reduceEq, reduceCtorEq, Nat.reduceAdd, Int.reduceAdd, Int.reduceSub]; done) | (simp only [up_same, up_cell, up_slot, ne_eq, not_false_eq_true, Nat.reduceEqDiff, Int.reduceEq, reduceCtorEq, Nat.reduceAdd, Int.reduceAdd, Int.reduceSub]; exact hx247_3)
                                    · first | exact hx247_4 | exact hx197_4 | (simp only [up_same, up_cell, up_slot, ne_eq, not_false_eq_true, Nat.reduceEqDiff, Int.reduceEq, reduceCtorEq, Nat.reduceAdd, Int.reduceAdd, Int.reduceSub]; done) | (simp only [up_same, up_cell, up_slot, ne_eq, not_false_eq_true, Nat.reduceEqDiff, Int.reduceEq, reduceCtorEq, Nat.reduceAdd, Int.reduceAdd, Int.reduceSub]; exact hx247_4)
                                    · first | exact hx247_5 | exact hx197_5 | (simp only [up_same, up_cell, up_slot, ne_eq, not_false_eq_true, Nat.reduceEqDiff, Int.reduceEq, reduceCtorEq, Nat.reduceAdd, Int.reduceAdd, Int.reduceSub]; done) | (simp only [up_same, up_cell, up_slot, ne_eq, not_false_eq_true, Nat.reduceEqDiff, Int.reduceEq, reduceCtorEq, Nat.reduceAdd, Int.reduceAdd, Int.reduceSub]; exact hx247_5)
                                    · intro j h0 h1; first | exact hx247_6 j h0 h1 | exact hx197_6 j h0 (by omega) | (simp only [up_same, up_cell, up_slot, ne_eq, not_false_eq_true, Nat.reduceEqDiff, Int.reduceEq, reduceCtorEq, Nat.reduceAdd, Int.reduceAdd, Int.reduceSub]; exact hx247_6 j h0 h1)
                                    · intro j h0 h1; first | exact hx247_7 j h0 h1 | exact hx197_7 j h0 (by omega) | (simp only [up_same, up_cell, up_slot, ne_eq, not_false_eq_true, Nat.reduceEqDiff, Int.reduceEq, reduceCtorEq, Nat.reduceAdd, Int.reduceAdd, Int.reduceSub]; exact hx247_7 j h0 h1)
                                    · intro j h0 h1; first | exact hx247_8 j h0 h1 | exact hx197_8 j h0 (by omega) | (simp only [up_same, up_cell, up_slot, ne_eq, not_false_eq_true, Nat.reduceEqDiff, Int.reduceEq, reduceCtorEq, Nat.reduceAdd, Int.reduceAdd, Int.reduceSub]; exact hx247_8 j h0 h1)
                                    · intro j h0 h1; first | exact hx247_9 j h0 h1 | exact hx197_9 j h0 (by omega) | (simp only [up_same, up_cell, up_slot, ne_eq, not_false_eq_true, Nat.reduceEqDiff, Int.reduceEq, reduceCtorEq, Nat.reduceAdd, Int.reduceAdd, Int.reduceSub]; exact hx247_9 j h0 h1)
                                    · intro j h0 h1; first | exact hx247_10 j h0 h1 | exact hx197_10 j h0 (by omega) | (simp only [up_same, up_cell, up_slot, ne_eq, not_false_eq_true, Nat.reduceEqDiff, Int.reduceEq, reduceCtorEq, Nat.reduceAdd, Int.reduceAdd, Int.reduceSub]; exact hx247_10 j h0 h1)
                                    · intro j h0 h1; first | exact hx247_11 j h0 h1 | exact hx197_11 j h0 (by omega) | (simp only [up_same, up_cell, up_slot, ne_eq, not_false_eq_true, Nat.reduceEqDiff, Int.reduceEq, reduceCtorEq, Nat.reduceAdd, Int.reduceAdd, Int.reduceSub]; exact hx247_11 j h0 h1)
                                    · intro j h0 h1; first | exact hx247_12 j h0 h1 | exact hx197_12 j h0 (by omega) | (simp only [up_same, up_cell, up_slot, ne_eq, not_false_eq_true, Nat.reduceEqDiff, Int.reduceEq, reduceCtorEq, Nat.reduceAdd, Int.reduceAdd, Int.reduceSub]; exact hx247_12 j h0 h1)
                                    · intro j h0 h1; first | exact hx247_13 j h0 h1 | exact hx197_13 j h0 (by omega) | (simp only [up_same, up_cell, up_slot, ne_eq, not_false_eq_true, Nat.reduceEqDiff, Int.reduceEq, reduceCtorEq, Nat.reduceAdd, Int.reduceAdd, Int.reduceSub]; exact hx247_13 j h0 h1)
                                    · intro j h0 h1; first | exact hx247_14 j h0 h1 | exact hx197_14 j h0 (by omega) | (simp only [up_same, up_cell, up_slot, ne_eq, not_false_eq_true, Nat.reduceEqDiff, Int.reduceEq, reduceCtorEq, Nat.reduceAdd, Int.reduceAdd, Int.reduceSub]; exact hx247_14 j h0 h1)
                                    · intro j h0 h1; first | exact hx247_15 j h0 h1 | exact hx197_15 j h0 (by omega) | (simp only [up_same, up_cell, up_slot, ne_eq, not_false_eq_true, Nat.reduceEqDiff, Int.reduceEq, reduceCtorEq, Nat.reduceAdd, Int.reduceAdd, Int.reduceSub]; exact hx247_15 j h0 h1)
                                    · intro j h0 h1; first | exact hx247_16 j h0 h1 | exact hx197_16 j h0 (by omega) | (simp only [up_same, up_cell, up_slot, ne_eq, not_false_eq_true, Nat.reduceEqDiff, Int.reduceEq, reduceCtorEq, Nat.reduceAdd, Int.reduceAdd, Int.reduceSub]; exact hx247_16 j h0 h1)
                                    · intro j h0 h1; first | (exfalso; omega) | (by_cases e : j = q; (rw [e]; simp only [up_same, up_cell, up_slot, ne_eq, not_false_eq_true, Nat.reduceEqDiff, Int.reduceEq, reduceCtorEq, Nat.reduceAdd, Int.reduceAdd, Int.reduceSub]; exact hF247 105 q rfl); simp only [up_same, up_cell, up_slot, ne_eq, not_false_eq_true, Nat.reduceEqDiff, Int.reduceEq, reduceCtorEq, Nat.reduceAdd, Int.reduceAdd, Int.reduceSub, e]; exact hx247_17 j h0 (by omega))
                                    · intro j h0 h1; first | (exfalso; omega) | (by_cases e : j = q; (rw [e]; simp only [up_same, up_cell, up_slot, ne_eq, not_false_eq_true, Nat.reduceEqDiff, Int.reduceEq, reduceCtorEq, Nat.reduceAdd, Int.reduceAdd, Int.reduceSub]; exact hF247 106 q rfl); simp only [up_same, up_cell, up_slot, ne_eq, not_false_eq_true, Nat.reduceEqDiff, Int.reduceEq, reduceCtorEq, Nat.reduceAdd, Int.reduceAdd, Int.reduceSub, e]; exact hx247_18 j h0 (by omega))
                            refine loop247 _ _ _ (Nat.lt_succ_self _) ?_
                            refine ⟨?_, ?_, ?_, ?_, ?_, ?_, ?_, ?_, ?_, ?_, ?_, ?_, ?_, ?_, ?_, ?_, ?_, ?_, ?_, ?_, ?_, ?_⟩
                            · exact hI197
                            · exact hF197
                            · omega
                            · first | exact hx247_0 | exact hx197_0 | (simp only [up_same, up_cell, up_slot, ne_eq, not_false_eq_true, Nat.reduceEqDiff, Int.reduceEq, reduceCtorEq, Nat.reduceAdd, Int.reduceAdd, Int.reduceSub]; done) | (simp only [up_same, up_cell, up_slot, ne_eq, not_false_eq_true, Nat.reduceEqDiff, Int.reduceEq, reduceCtorEq, Nat.reduceAdd, Int.reduceAdd, Int.reduceSub]; exact hx247_0)
                            · first | exact hx247_1 | exact hx197_1 | (simp only [up_same, up_cell, up_slot, ne_eq, not_false_eq_true, Nat.reduceEqDiff, Int.reduceEq, reduceCtorEq, Nat.reduceAdd, Int.reduceAdd, Int.reduceSub]; done) | (simp only [up_same, up_cell, up_slot, ne_eq, not_false_eq_true, Nat.reduceEqDiff, Int.reduceEq, reduceCtorEq, Nat.reduceAdd, Int.reduceAdd, Int.reduceSub]; exact hx247_1)
                            · first | exact hx247_2 | exact hx197_2 | (simp only [up_same, up_cell, up_slot, ne_eq, not_false_eq_true, Nat.reduceEqDiff, Int.reduceEq, reduceCtorEq, Nat.reduceAdd, Int.reduceAdd, Int.reduceSub]; done) | (simp only [up_same, up_cell, up_slot, ne_eq, not_false_eq_true, Nat.reduceEqDiff, Int.reduceEq, reduceCtorEq, Nat.reduceAdd, Int.reduceAdd, Int.reduceSub]; exact hx247_2)
                            · first | exact hx247_3 | exact hx197_3 | (simp only [up_same, up_cell, up_slot, ne_eq, not_false_eq_true, Nat.reduceEqDiff, Int.reduceEq, reduceCtorEq, Nat.reduceAdd, Int.reduceAdd, Int.reduceSub]; done) | (simp only [up_same, up_cell, up_slot, ne_eq, not_false_eq_true, Nat.reduceEqDiff, Int.reduceEq, reduceCtorEq, Nat.reduceAdd, Int.reduceAdd, Int.reduceSub]; exact hx247_3)
                            · first | exact hx247_4 | exact hx197_4 | (simp only [up_same, up_cell, up_slot, ne_eq, not_false_eq_true, Nat.reduceEqDiff, Int.reduceEq, reduceCtorEq, Nat.reduceAdd, Int.reduceAdd, Int.reduceSub]; done) | (simp only [up_same, up_cell, up_slot, ne_eq, not_false_eq_true, Nat.reduceEqDiff, Int.reduceEq, reduceCtorEq, Nat.reduceAdd, Int.reduceAdd, Int.reduceSub]; exact hx247_4)
                            · first | exact hx247_5 | exact hx197_5 | (simp only [up_same, up_cell, up_slot, ne_eq, not_false_eq_true, Nat.reduceEqDiff, Int.reduceEq, reduceCtorEq, Nat.reduceAdd, Int.reduceAdd, Int.reduceSub]; done) | (simp only [up_same, up_cell, up_slot, ne_eq, not_false_eq_true, Nat.reduceEqDiff, Int.reduceEq, reduceCtorEq, Nat.reduceAdd, Int.reduceAdd, Int.reduceSub]; exact hx247_5)
                            · intro j h0 h1; first | exact hx247_6 j h0 h1 | exact hx197_6 j h0 (by omega) | (simp only [up_same, up_cell, up_slot, ne_eq, not_false_eq_true, Nat.reduceEqDiff, Int.reduceEq, reduceCtorEq, Nat.reduceAdd, Int.reduceAdd, Int.reduceSub]; exact hx247_6 j h0 h1)
                            · intro j h0 h1; first | exact hx247_7 j h0 h1 | exact hx197_7 j h0 (by omega) | (simp only [up_same, up_cell, up_slot, ne_eq, not_false_eq_true, Nat.reduceEqDiff, Int.reduceEq, reduceCtorEq, Nat.reduceAdd, Int.reduceAdd, Int.reduceSub]; exact hx247_7 j h0 h1)
                            · intro j h0 h1; first | exact hx247_8 j h0 h1 | exact hx197_8 j h0 (by omega) | (simp only [up_same, up_cell, up_slot, ne_eq, not_false_eq_true, Nat.reduceEqDiff, Int.reduceEq, reduceCtorEq, Nat.reduceAdd, Int.reduceAdd, Int.reduceSub]; exact hx247_8 j h0 h1)
                            · intro j h0 h1; first | exact hx247_9 j h0 h1 | exact hx197_9 j h0 (by omega) | (simp only [up_same, up_cell, up_slot, ne_eq, not_false_eq_true, Nat.reduceEqDiff, Int.reduceEq, reduceCtorEq, Nat.reduceAdd, Int.reduceAdd, Int.reduceSub]; exact hx247_9 j h0 h1)
                            · intro j h0 h1; first | exact hx247_10 j h0 h1 | exact hx197_10 j h0 (by omega) | (simp only [up_same, up_cell, up_slot, ne_eq, not_false_eq_true, Nat.reduceEqDiff, Int.reduceEq, reduceCtorEq, Nat.reduceAdd, Int.reduceAdd, Int.reduceSub]; exact hx247_10 j h0 h1)
                            · intro j h0 h1; first | exact hx247_11 j h0 h1 | exact hx197_11 j h0 (by omega) | (simp only [up_same, up_cell, up_slot, ne_eq, not_false_eq_true, Nat.reduceEqDiff, Int.reduceEq, reduceCtorEq, Nat.reduceAdd, Int.reduceAdd, Int.reduceSub]; exact hx247_11 j h0 h1)
                            · intro j h0 h1; first | exact hx247_12 j h0 h1 | exact hx197_12 j h0 (by omega) | (simp only [up_same, up_cell, up_slot, ne_eq, not_false_eq_true, Nat.reduceEqDiff, Int.reduceEq, reduceCtorEq, Nat.reduceAdd, Int.reduceAdd, Int.reduceSub]; exact hx247_12 j h0 h1)
                            · intro j h0 h1; first | exact hx247_13 j h0 h1 | exact hx197_13 j h0 (by omega) | (simp only [up_same, up_cell, up_slot, ne_eq, not_false_eq_true, Nat.reduceEqDiff, Int.reduceEq, reduceCtorEq, Nat.reduceAdd, Int.reduceAdd, Int.reduceSub]; exact hx247_13 j h0 h1)
                            · intro j h0 h1; first | exact hx247_14 j h0 h1 | exact hx197_14 j h0 (by omega) | (simp only [up_same, up_cell, up_slot, ne_eq, not_false_eq_true, Nat.reduceEqDiff, Int.reduceEq, reduceCtorEq, Nat.reduceAdd, Int.reduceAdd, Int.reduceSub]; exact hx247_14 j h0 h1)
                            · intro j h0 h1; first | exact hx247_15 j h0 h1 | exact hx197_15 j h0 (by omega) | (simp only [up_same, up_cell, up_slot, ne_eq, not_false_eq_true, Nat.reduceEqDiff, Int.reduceEq, reduceCtorEq, Nat.reduceAdd, Int.reduceAdd, Int.reduceSub]; exact hx247_15 j h0 h1)
                            · intro j h0 h1; first | exact hx247_16 j h0 h1 | exact hx197_16 j h0 (by omega) | (simp only [up_same, up_cell, up_slot, ne_eq, not_false_eq_true, Nat.reduceEqDiff, Int.reduceEq, reduceCtorEq, Nat.reduceAdd, Int.reduceAdd, Int.reduceSub]; exact hx247_16 j h0 h1)
                            · intro j h0 h1; first | (exfalso; omega) | (by_cases e : j = q; (rw [e]; simp only [up_same, up_cell, up_slot, ne_eq, not_false_eq_true, Nat.reduceEqDiff, Int.reduceEq, reduceCtorEq, Nat.reduceAdd, Int.reduceAdd, Int.reduceSub]; exact hF247 105 q rfl); simp only [up_same, up_cell, up_slot, ne_eq, not_false_eq_true, Nat.reduceEqDiff, Int.reduceEq, reduceCtorEq, Nat.reduceAdd, Int.reduceAdd, Int.reduceSub, e]; exact hx247_17 j h0 (by omega))
                            · intro j h0 h1; first | (exfalso; omega) | (by_cases e : j = q; (rw [e]; simp only [up_same, up_cell, up_slot, ne_eq, not_false_eq_true, Nat.reduceEqDiff, Int.reduceEq, reduceCtorEq, Nat.reduceAdd, Int.reduceAdd, Int.reduceSub]; exact hF247 106 q rfl); simp only [up_same, up_cell, up_slot, ne_eq, not_false_eq_true, Nat.reduceEqDiff, Int.reduceEq, reduceCtorEq, Nat.reduceAdd, Int.reduceAdd, Int.reduceSub, e]; exact hx247_18 j h0 (by omega))
                          · skip
                            refine g_aload_n (M := mX11_undo) (pc := 203) dX11_undo_203 rfl (k := ?_)
                            refine g_getr (M := mX11_undo) (pc := 204) (by rfl) fX11_35 kX11_117 dX11_undo_204 (by rfl) (kk := ?_)
                            refine g_iload_n (M := mX11_undo) (pc := 207) dX11_undo_207 rfl (k := ?_)
                            refine g_aload_n (M := mX11_undo) (pc := 208) dX11_undo_208 rfl (k := ?_)
                            refine g_getr (M := mX11_undo) (pc := 209) (by rfl) fX11_59 kX11_190 dX11_undo_209 (by rfl) (kk := ?_)
                            refine g_iload_n (M := mX11_undo) (pc := 212) dX11_undo_212 rfl (k := ?_)
                            refine g_iald (M := mX11_undo) (pc := 213) (by rfl) (by omega) (by omega) dX11_undo_213 (kk := fun hr213 => ?_)
                            have hb213 := jv103_0 hI197 q (by omega) (by omega)
                            refine g_iast (M := mX11_undo) (pc := 214) (by rfl) (by omega) (by omega) (by omega) dX11_undo_214 (kk := ?_)
                            refine g_aload_n (M := mX11_undo) (pc := 215) dX11_undo_215 rfl (k := ?_)
                            refine g_getr (M := mX11_undo) (pc := 216) (by rfl) fX11_39 kX11_129 dX11_undo_216 (by rfl) (kk := ?_)
                            refine g_iload_n (M := mX11_undo) (pc := 219) dX11_undo_219 rfl (k := ?_)
                            refine g_aload_n (M := mX11_undo) (pc := 220) dX11_undo_220 rfl (k := ?_)
                            refine g_getr (M := mX11_undo) (pc := 221) (by rfl) fX11_60 kX11_193 dX11_undo_221 (by rfl) (kk := ?_)
                            refine g_iload_n (M := mX11_undo) (pc := 224) dX11_undo_224 rfl (k := ?_)
                            refine g_iald (M := mX11_undo) (pc := 225) (by rfl) (by omega) (by omega) dX11_undo_225 (kk := fun hr225 => ?_)
                            simp only [up_same, up_cell, up_slot, ne_eq, not_false_eq_true, Nat.reduceEqDiff, Int.reduceEq, reduceCtorEq, Nat.reduceAdd, Int.reduceAdd, Int.reduceSub] at hr225 ⊢
                            have hb225 := jv104_0 hI197 q (by omega) (by omega)
                            refine g_iast (M := mX11_undo) (pc := 226) (by rfl) (by omega) (by omega) (by omega) dX11_undo_226 (kk := ?_)
                            refine g_aload_n (M := mX11_undo) (pc := 227) dX11_undo_227 rfl (k := ?_)
                            refine g_getr (M := mX11_undo) (pc := 228) (by rfl) fX11_40 kX11_132 dX11_undo_228 (by rfl) (kk := ?_)
                            refine g_iload_n (M := mX11_undo) (pc := 231) dX11_undo_231 rfl (k := ?_)
                            refine g_aload_n (M := mX11_undo) (pc := 232) dX11_undo_232 rfl (k := ?_)
                            refine g_getr (M := mX11_undo) (pc := 233) (by rfl) fX11_63 kX11_202 dX11_undo_233 (by rfl) (kk := ?_)
                            refine g_iload_n (M := mX11_undo) (pc := 236) dX11_undo_236 rfl (k := ?_)
                            refine g_zald (M := mX11_undo) (pc := 237) (by rfl) (by omega) (by omega) dX11_undo_237 (kk := fun hr237 => ?_)
                            simp only [up_same, up_cell, up_slot, ne_eq, not_false_eq_true, Nat.reduceEqDiff, Int.reduceEq, reduceCtorEq, Nat.reduceAdd, Int.reduceAdd, Int.reduceSub] at hr237 ⊢
                            have hb237 := jv107_0 hI197 q (by omega) (by omega)
                            refine g_zast (M := mX11_undo) (pc := 238) (by rfl) (by omega) (by omega) (by omega) dX11_undo_238 (kk := ?_)
                            refine g_iinc_1 (M := mX11_undo) (pc := 239) dX11_undo_239 (k := ?_)
                            refine g_goto (M := mX11_undo) (pc := 242) (tgt := 197) dX11_undo_242 (k := ?_)
                            refine ih197 _ _ ?_ ?_
                            · omega
                            · skip
                              refine ⟨?_, ?_, ?_, ?_, ?_, ?_, ?_, ?_, ?_, ?_, ?_, ?_, ?_, ?_, ?_, ?_, ?_, ?_, ?_, ?_⟩
                              · refine jvu92 ?_ (by omega) (by omega); refine jvu91 ?_ (by omega) (by omega); refine jvu88 ?_ (by omega) (by omega); exact hI197
                              · refine Fr.up ?_ (by first | rfl | (unfold jcU; simp; try omega)); refine Fr.up ?_ (by first | rfl | (unfold jcU; simp; try omega)); refine Fr.up ?_ (by first | rfl | (unfold jcU; simp; try omega)); exact hF197
                              · omega
                              · first | exact hx197_0 | exact hx148_0 | (simp only [up_same, up_cell, up_slot, ne_eq, not_false_eq_true, Nat.reduceEqDiff, Int.reduceEq, reduceCtorEq, Nat.reduceAdd, Int.reduceAdd, Int.reduceSub]; done) | (simp only [up_same, up_cell, up_slot, ne_eq, not_false_eq_true, Nat.reduceEqDiff, Int.reduceEq, reduceCtorEq, Nat.reduceAdd, Int.reduceAdd, Int.reduceSub]; exact hx197_0)
                              · first | exact hx197_1 | exact hx148_1 | (simp only [up_same, up_cell, up_slot, ne_eq, not_false_eq_true, Nat.reduceEqDiff, Int.reduceEq, reduceCtorEq, Nat.reduceAdd, Int.reduceAdd, Int.reduceSub]; done) | (simp only [up_same, up_cell, up_slot, ne_eq, not_false_eq_true, Nat.reduceEqDiff, Int.reduceEq, reduceCtorEq, Nat.reduceAdd, Int.reduceAdd, Int.reduceSub]; exact hx197_1)
                              · first | exact hx197_2 | exact hx148_2 | (simp only [up_same, up_cell, up_slot, ne_eq, not_false_eq_true, Nat.reduceEqDiff, Int.reduceEq, reduceCtorEq, Nat.reduceAdd, Int.reduceAdd, Int.reduceSub]; done) | (simp only [up_same, up_cell, up_slot, ne_eq, not_false_eq_true, Nat.reduceEqDiff, Int.reduceEq, reduceCtorEq, Nat.reduceAdd, Int.reduceAdd, Int.reduceSub]; exact hx197_2)
                              · first | exact hx197_3 | exact hx148_3 | (simp only [up_same, up_cell, up_slot, ne_eq, not_false_eq_true, Nat.reduceEqDiff, Int.reduceEq, reduceCtorEq, Nat.reduceAdd, Int.reduceAdd, Int.reduceSub]; done) | (simp only [up_same, up_cell, up_slot, ne_eq, not_false_eq_true, Nat.reduceEqDiff, Int.reduceEq, reduceCtorEq, Nat.reduceAdd, Int.reduceAdd, Int.reduceSub]; exact hx197_3)
                              · first | exact hx197_4 | exact hx148_4 | (simp only [up_same, up_cell, up_slot, ne_eq, not_false_eq_true, Nat.reduceEqDiff, Int.reduceEq, reduceCtorEq, Nat.reduceAdd, Int.reduceAdd, Int.reduceSub]; done) | (simp only [up_same, up_cell, up_slot, ne_eq, not_false_eq_true, Nat.reduceEqDiff, Int.reduceEq, reduceCtorEq, Nat.reduceAdd, Int.reduceAdd, Int.reduceSub]; exact hx197_4)
                              · first | exact hx197_5 | exact hx148_5 | (simp only [up_same, up_cell, up_slot, ne_eq, not_false_eq_true, Nat.reduceEqDiff, Int.reduceEq, reduceCtorEq, Nat.reduceAdd, Int.reduceAdd, Int.reduceSub]; done) | (simp only [up_same, up_cell, up_slot, ne_eq, not_false_eq_true, Nat.reduceEqDiff, Int.reduceEq, reduceCtorEq, Nat.reduceAdd, Int.reduceAdd, Int.reduceSub]; exact hx197_5)
                              · intro j h0 h1; first | exact hx197_6 j h0 h1 | exact hx148_6 j h0 (by omega) | (simp only [up_same, up_cell, up_slot, ne_eq, not_false_eq_true, Nat.reduceEqDiff, Int.reduceEq, reduceCtorEq, Nat.reduceAdd, Int.reduceAdd, Int.reduceSub]; exact hx197_6 j h0 h1)
                              · intro j h0 h1; first | exact hx197_7 j h0 h1 | exact hx148_7 j h0 (by omega) | (simp only [up_same, up_cell, up_slot, ne_eq, not_false_eq_true, Nat.reduceEqDiff, Int.reduceEq, reduceCtorEq, Nat.reduceAdd, Int.reduceAdd, Int.reduceSub]; exact hx197_7 j h0 h1)
                              · intro j h0 h1; first | exact hx197_8 j h0 h1 | exact hx148_8 j h0 (by omega) | (simp only [up_same, up_cell, up_slot, ne_eq, not_false_eq_true, Nat.reduceEqDiff, Int.reduceEq, reduceCtorEq, Nat.reduceAdd, Int.reduceAdd, Int.reduceSub]; exact hx197_8 j h0 h1)
                              · intro j h0 h1; first | exact hx197_9 j h0 h1 | exact hx148_9 j h0 (by omega) | (simp only [up_same, up_cell, up_slot, ne_eq, not_false_eq_true, Nat.reduceEqDiff, Int.reduceEq, reduceCtorEq, Nat.reduceAdd, Int.reduceAdd, Int.reduceSub]; exact hx197_9 j h0 h1)
                              · intro j h0 h1; first | exact hx197_10 j h0 h1 | exact hx148_10 j h0 (by omega) | (simp only [up_same, up_cell, up_slot, ne_eq, not_false_eq_true, Nat.reduceEqDiff, Int.reduceEq, reduceCtorEq, Nat.reduceAdd, Int.reduceAdd, Int.reduceSub]; exact hx197_10 j h0 h1)
                              · intro j h0 h1; first | exact hx197_11 j h0 h1 | exact hx148_11 j h0 (by omega) | (simp only [up_same, up_cell, up_slot, ne_eq, not_false_eq_true, Nat.reduceEqDiff, Int.reduceEq, reduceCtorEq, Nat.reduceAdd, Int.reduceAdd, Int.reduceSub]; exact hx197_11 j h0 h1)
                              · intro j h0 h1; first | exact hx197_12 j h0 h1 | exact hx148_12 j h0 (by omega) | (simp only [up_same, up_cell, up_slot, ne_eq, not_false_eq_true, Nat.reduceEqDiff, Int.reduceEq, reduceCtorEq, Nat.reduceAdd, Int.reduceAdd, Int.reduceSub]; exact hx197_12 j h0 h1)
                              · intro j h0 h1; first | exact hx197_13 j h0 h1 | exact hx148_13 j h0 (by omega) | (simp only [up_same, up_cell, up_slot, ne_eq, not_false_eq_true, Nat.reduceEqDiff, Int.reduceEq, reduceCtorEq, Nat.reduceAdd, Int.reduceAdd, Int.reduceSub]; exact hx197_13 j h0 h1)
                              · intro j h0 h1; first | (exfalso; omega) | (by_cases e : j = q; (rw [e]; simp only [up_same, up_cell, up_slot, ne_eq, not_false_eq_true, Nat.reduceEqDiff, Int.reduceEq, reduceCtorEq, Nat.reduceAdd, Int.reduceAdd, Int.reduceSub]; exact hF197 103 q rfl); simp only [up_same, up_cell, up_slot, ne_eq, not_false_eq_true, Nat.reduceEqDiff, Int.reduceEq, reduceCtorEq, Nat.reduceAdd, Int.reduceAdd, Int.reduceSub, e]; exact hx197_14 j h0 (by omega))
                              · intro j h0 h1; first | (exfalso; omega) | (by_cases e : j = q; (rw [e]; simp only [up_same, up_cell, up_slot, ne_eq, not_false_eq_true, Nat.reduceEqDiff, Int.reduceEq, reduceCtorEq, Nat.reduceAdd, Int.reduceAdd, Int.reduceSub]; exact hF197 104 q rfl); simp only [up_same, up_cell, up_slot, ne_eq, not_false_eq_true, Nat.reduceEqDiff, Int.reduceEq, reduceCtorEq, Nat.reduceAdd, Int.reduceAdd, Int.reduceSub, e]; exact hx197_15 j h0 (by omega))
                              · intro j h0 h1; first | (exfalso; omega) | (by_cases e : j = q; (rw [e]; simp only [up_same, up_cell, up_slot, ne_eq, not_false_eq_true, Nat.reduceEqDiff, Int.reduceEq, reduceCtorEq, Nat.reduceAdd, Int.reduceAdd, Int.reduceSub]; exact hF197 107 q rfl); simp only [up_same, up_cell, up_slot, ne_eq, not_false_eq_true, Nat.reduceEqDiff, Int.reduceEq, reduceCtorEq, Nat.reduceAdd, Int.reduceAdd, Int.reduceSub, e]; exact hx197_16 j h0 (by omega))
                      refine loop197 _ _ _ (Nat.lt_succ_self _) ?_
                      refine ⟨?_, ?_, ?_, ?_, ?_, ?_, ?_, ?_, ?_, ?_, ?_, ?_, ?_, ?_, ?_, ?_, ?_, ?_, ?_, ?_⟩
                      · exact hI148
                      · exact hF148
                      · omega
                      · first | exact hx197_0 | exact hx148_0 | (simp only [up_same, up_cell, up_slot, ne_eq, not_false_eq_true, Nat.reduceEqDiff, Int.reduceEq, reduceCtorEq, Nat.reduceAdd, Int.reduceAdd, Int.reduceSub]; done) | (simp only [up_same, up_cell, up_slot, ne_eq, not_false_eq_true, Nat.reduceEqDiff, Int.reduceEq, reduceCtorEq, Nat.reduceAdd, Int.reduceAdd, Int.reduceSub]; exact hx197_0)
                      · first | exact hx197_1 | exact hx148_1 | (simp only [up_same, up_cell, up_slot, ne_eq, not_false_eq_true, Nat.reduceEqDiff, Int.reduceEq, reduceCtorEq, Nat.reduceAdd, Int.reduceAdd, Int.reduceSub]; done) | (simp only [up_same, up_cell, up_slot, ne_eq, not_false_eq_true, Nat.reduceEqDiff, Int.reduceEq, reduceCtorEq, Nat.reduceAdd, Int.reduceAdd, Int.reduceSub]; exact hx197_1)
                      · first | exact hx197_2 | exact hx148_2 | (simp only [up_same, up_cell, up_slot, ne_eq, not_false_eq_true, Nat.reduceEqDiff, Int.reduceEq, reduceCtorEq, Nat.reduceAdd, Int.reduceAdd, Int.reduceSub]; done) | (simp only [up_same, up_cell, up_slot, ne_eq, not_false_eq_true, Nat.reduceEqDiff, Int.reduceEq, reduceCtorEq, Nat.reduceAdd, Int.reduceAdd, Int.reduceSub]; exact hx197_2)
                      · first | exact hx197_3 | exact hx148_3 | (simp only [up_same, up_cell, up_slot, ne_eq, not_false_eq_true, Nat.reduceEqDiff, Int.reduceEq, reduceCtorEq, Nat.reduceAdd, Int.reduceAdd, Int.reduceSub]; done) | (simp only [up_same, up_cell, up_slot, ne_eq, not_false_eq_true, Nat.reduceEqDiff, Int.reduceEq, reduceCtorEq, Nat.reduceAdd, Int.reduceAdd, Int.reduceSub]; exact hx197_3)
                      · first | exact hx197_4 | exact hx148_4 | (simp only [up_same, up_cell, up_slot, ne_eq, not_false_eq_true, Nat.reduceEqDiff, Int.reduceEq, reduceCtorEq, Nat.reduceAdd, Int.reduceAdd, Int.reduceSub]; done) | (simp only [up_same, up_cell, up_slot, ne_eq, not_false_eq_true, Nat.reduceEqDiff, Int.reduceEq, reduceCtorEq, Nat.reduceAdd, Int.reduceAdd, Int.reduceSub]; exact hx197_4)
                      · first | exact hx197_5 | exact hx148_5 | (simp only [up_same, up_cell, up_slot, ne_eq, not_false_eq_true, Nat.reduceEqDiff, Int.reduceEq, reduceCtorEq, Nat.reduceAdd, Int.reduceAdd, Int.reduceSub]; done) | (simp only [up_same, up_cell, up_slot, ne_eq, not_false_eq_true, Nat.reduceEqDiff, Int.reduceEq, reduceCtorEq, Nat.reduceAdd, Int.reduceAdd, Int.reduceSub]; exact hx197_5)
                      · intro j h0 h1; first | exact hx197_6 j h0 h1 | exact hx148_6 j h0 (by omega) | (simp only [up_same, up_cell, up_slot, ne_eq, not_false_eq_true, Nat.reduceEqDiff, Int.reduceEq, reduceCtorEq, Nat.reduceAdd, Int.reduceAdd, Int.reduceSub]; exact hx197_6 j h0 h1)
                      · intro j h0 h1; first | exact hx197_7 j h0 h1 | exact hx148_7 j h0 (by omega) | (simp only [up_same, up_cell, up_slot, ne_eq, not_false_eq_true, Nat.reduceEqDiff, Int.reduceEq, reduceCtorEq, Nat.reduceAdd, Int.reduceAdd, Int.reduceSub]; exact hx197_7 j h0 h1)
                      · intro j h0 h1; first | exact hx197_8 j h0 h1 | exact hx148_8 j h0 (by omega) | (simp only [up_same, up_cell, up_slot, ne_eq, not_false_eq_true, Nat.reduceEqDiff, Int.reduceEq, reduceCtorEq, Nat.reduceAdd, Int.reduceAdd, Int.reduceSub]; exact hx197_8 j h0 h1)
                      · intro j h0 h1; first | exact hx197_9 j h0 h1 | exact hx148_9 j h0 (by omega) | (simp only [up_same, up_cell, up_slot, ne_eq, not_false_eq_true, Nat.reduceEqDiff, Int.reduceEq, reduceCtorEq, Nat.reduceAdd, Int.reduceAdd, Int.reduceSub]; exact hx197_9 j h0 h1)
                      · intro j h0 h1; first | exact hx197_10 j h0 h1 | exact hx148_10 j h0 (by omega) | (simp only [up_same, up_cell, up_slot, ne_eq, not_false_eq_true, Nat.reduceEqDiff, Int.reduceEq, reduceCtorEq, Nat.reduceAdd, Int.reduceAdd, Int.reduceSub]; exact hx197_10 j h0 h1)
                      · intro j h0 h1; first | exact hx197_11 j h0 h1 | exact hx148_11 j h0 (by omega) | (simp only [up_same, up_cell, up_slot, ne_eq, not_false_eq_true, Nat.reduceEqDiff, Int.reduceEq, reduceCtorEq, Nat.reduceAdd, Int.reduceAdd, Int.reduceSub]; exact hx197_11 j h0 h1)
                      · intro j h0 h1; first | exact hx197_12 j h0 h1 | exact hx148_12 j h0 (by omega) | (simp only [up_same, up_cell, up_slot, ne_eq, not_false_eq_true, Nat.reduceEqDiff, Int.reduceEq, reduceCtorEq, Nat.reduceAdd, Int.reduceAdd, Int.reduceSub]; exact hx197_12 j h0 h1)
                      · intro j h0 h1; first | exact hx197_13 j h0 h1 | exact hx148_13 j h0 (by omega) | (simp only [up_same, up_cell, up_slot, ne_eq, not_false_eq_true, Nat.reduceEqDiff, Int.reduceEq, reduceCtorEq, Nat.reduceAdd, Int.reduceAdd, Int.reduceSub]; exact hx197_13 j h0 h1)
                      · intro j h0 h1; first | (exfalso; omega) | (by_cases e : j = q; (rw [e]; simp only [up_same, up_cell, up_slot, ne_eq, not_false_eq_true, Nat.reduceEqDiff, Int.reduceEq, reduceCtorEq, Nat.reduceAdd, Int.reduceAdd, Int.reduceSub]; exact hF197 103 q rfl); simp only [up_same, up_cell, up_slot, ne_eq, not_false_eq_true, Nat.reduceEqDiff, Int.reduceEq, reduceCtorEq, Nat.reduceAdd, Int.reduceAdd, Int.reduceSub, e]; exact hx197_14 j h0 (by omega))
                      · intro j h0 h1; first | (exfalso; omega) | (by_cases e : j = q; (rw [e]; simp only [up_same, up_cell, up_slot, ne_eq, not_false_eq_true, Nat.reduceEqDiff, Int.reduceEq, reduceCtorEq, Nat.reduceAdd, Int.reduceAdd, Int.reduceSub]; exact hF197 104 q rfl); simp only [up_same, up_cell, up_slot, ne_eq, not_false_eq_true, Nat.reduceEqDiff, Int.reduceEq, reduceCtorEq, Nat.reduceAdd, Int.reduceAdd, Int.reduceSub, e]; exact hx197_15 j h0 (by omega))
                      · intro j h0 h1; first | (exfalso; omega) | (by_cases e : j = q; (rw [e]; simp only [up_same, up_cell, up_slot, ne_eq, not_false_eq_true, Nat.reduceEqDiff, Int.reduceEq, reduceCtorEq, Nat.reduceAdd, Int.reduceAdd, Int.reduceSub]; exact hF197 107 q rfl); simp only [up_same, up_cell, up_slot, ne_eq, not_false_eq_true, Nat.reduceEqDiff, Int.reduceEq, reduceCtorEq, Nat.reduceAdd, Int.reduceAdd, Int.reduceSub, e]; exact hx197_16 j h0 (by omega))
                    · skip
                      refine g_aload_n (M := mX11_undo) (pc := 153) dX11_undo_153 rfl (k := ?_)
                      refine g_getr (M := mX11_undo) (pc := 154) (by rfl) fX11_7 kX11_32 dX11_undo_154 (by rfl) (kk := ?_)
                      refine g_iload_n (M := mX11_undo) (pc := 157) dX11_undo_157 rfl (k := ?_)
                      refine g_aload_n (M := mX11_undo) (pc := 158) dX11_undo_158 rfl (k := ?_)
                      refine g_getr (M := mX11_undo) (pc := 159) (by rfl) fX11_56 kX11_181 dX11_undo_159 (by rfl) (kk := ?_)
                      refine g_iload_n (M := mX11_undo) (pc := 162) dX11_undo_162 rfl (k := ?_)
                      refine g_iald (M := mX11_undo) (pc := 163) (by rfl) (by omega) (by omega) dX11_undo_163 (kk := fun hr163 => ?_)
                      have hb163 := jv100_0 hI148 q (by omega) (by omega)
                      refine g_iast (M := mX11_undo) (pc := 164) (by rfl) (by omega) (by omega) (by omega) dX11_undo_164 (kk := ?_)
                      refine g_aload_n (M := mX11_undo) (pc := 165) dX11_undo_165 rfl (k := ?_)
                      refine g_getr (M := mX11_undo) (pc := 166) (by rfl) fX11_8 kX11_35 dX11_undo_166 (by rfl) (kk := ?_)
                      refine g_iload_n (M := mX11_undo) (pc := 169) dX11_undo_169 rfl (k := ?_)
                      refine g_aload_n (M := mX11_undo) (pc := 170) dX11_undo_170 rfl (k := ?_)
                      refine g_getr (M := mX11_undo) (pc := 171) (by rfl) fX11_57 kX11_184 dX11_undo_171 (by rfl) (kk := ?_)
                      refine g_iload_n (M := mX11_undo) (pc := 174) dX11_undo_174 rfl (k := ?_)
                      refine g_iald (M := mX11_undo) (pc := 175) (by rfl) (by omega) (by omega) dX11_undo_175 (kk := fun hr175 => ?_)
                      simp only [up_same, up_cell, up_slot, ne_eq, not_false_eq_true, Nat.reduceEqDiff, Int.reduceEq, reduceCtorEq, Nat.reduceAdd, Int.reduceAdd, Int.reduceSub] at hr175 ⊢
                      have hb175 := jv101_0 hI148 q (by omega) (by omega)
                      refine g_iast (M := mX11_undo) (pc := 176) (by rfl) (by omega) (by omega) (by omega) dX11_undo_176 (kk := ?_)
                      refine g_aload_n (M := mX11_undo) (pc := 177) dX11_undo_177 rfl (k := ?_)
                      refine g_getr (M := mX11_undo) (pc := 178) (by rfl) fX11_9 kX11_38 dX11_undo_178 (by rfl) (kk := ?_)
                      refine g_iload_n (M := mX11_undo) (pc := 181) dX11_undo_181 rfl (k := ?_)
                      refine g_aload_n (M := mX11_undo) (pc := 182) dX11_undo_182 rfl (k := ?_)
                      refine g_getr (M := mX11_undo) (pc := 183) (by rfl) fX11_58 kX11_187 dX11_undo_183 (by rfl) (kk := ?_)
                      refine g_iload_n (M := mX11_undo) (pc := 186) dX11_undo_186 rfl (k := ?_)
                      refine g_iald (M := mX11_undo) (pc := 187) (by rfl) (by omega) (by omega) dX11_undo_187 (kk := fun hr187 => ?_)
                      simp only [up_same, up_cell, up_slot, ne_eq, not_false_eq_true, Nat.reduceEqDiff, Int.reduceEq, reduceCtorEq, Nat.reduceAdd, Int.reduceAdd, Int.reduceSub] at hr187 ⊢
                      have hb187 := jv102_0 hI148 q (by omega) (by omega)
                      refine g_iast (M := mX11_undo) (pc := 188) (by rfl) (by omega) (by omega) (by omega) dX11_undo_188 (kk := ?_)
                      refine g_iinc_1 (M := mX11_undo) (pc := 189) dX11_undo_189 (k := ?_)
                      refine g_goto (M := mX11_undo) (pc := 192) (tgt := 148) dX11_undo_192 (k := ?_)
                      refine ih148 _ _ ?_ ?_
                      · omega
                      · skip
                        refine ⟨?_, ?_, ?_, ?_, ?_, ?_, ?_, ?_, ?_, ?_, ?_, ?_, ?_, ?_, ?_, ?_, ?_⟩
                        · refine jvu77 ?_ (by omega) (by omega); refine jvu76 ?_ (by omega) (by omega); refine jvu75 ?_ (by omega) (by omega); exact hI148
                        · refine Fr.up ?_ (by first | rfl | (unfold jcU; simp; try omega)); refine Fr.up ?_ (by first | rfl | (unfold jcU; simp; try omega)); refine Fr.up ?_ (by first | rfl | (unfold jcU; simp; try omega)); exact hF148
                        · omega
                        · first | exact hx148_0 | exact hx122_0 | (simp only [up_same, up_cell, up_slot, ne_eq, not_false_eq_true, Nat.reduceEqDiff, Int.reduceEq, reduceCtorEq, Nat.reduceAdd, Int.reduceAdd, Int.reduceSub]; done) | (simp only [up_same, up_cell, up_slot, ne_eq, not_false_eq_true, Nat.reduceEqDiff, Int.reduceEq, reduceCtorEq, Nat.reduceAdd, Int.reduceAdd, Int.reduceSub]; exact hx148_0)
                        · first | exact hx148_1 | exact hx122_1 | (simp only [up_same, up_cell, up_slot, ne_eq, not_false_eq_true, Nat.reduceEqDiff, Int.reduceEq, reduceCtorEq, Nat.reduceAdd, Int.reduceAdd, Int.reduceSub]; done) | (simp only [up_same, up_cell, up_slot, ne_eq, not_false_eq_true, Nat.reduceEqDiff, Int.reduceEq, reduceCtorEq, Nat.reduceAdd, Int.reduceAdd, Int.reduceSub]; exact hx148_1)
                        · first | exact hx148_2 | exact hx122_2 | (simp only [up_same, up_cell, up_slot, ne_eq, not_false_eq_true, Nat.reduceEqDiff, Int.reduceEq, reduceCtorEq, Nat.reduceAdd, Int.reduceAdd, Int.reduceSub]; done) | (simp only [up_same, up_cell, up_slot, ne_eq, not_false_eq_true, Nat.reduceEqDiff, Int.reduceEq, reduceCtorEq, Nat.reduceAdd, Int.reduceAdd, Int.reduceSub]; exact hx148_2)
                        · first | exact hx148_3 | exact hx122_3 | (simp only [up_same, up_cell, up_slot, ne_eq, not_false_eq_true, Nat.reduceEqDiff, Int.reduceEq, reduceCtorEq, Nat.reduceAdd, Int.reduceAdd, Int.reduceSub]; done) | (simp only [up_same, up_cell, up_slot, ne_eq, not_false_eq_true, Nat.reduceEqDiff, Int.reduceEq, reduceCtorEq, Nat.reduceAdd, Int.reduceAdd, Int.reduceSub]; exact hx148_3)
                        · first | exact hx148_4 | exact hx122_4 | (simp only [up_same, up_cell, up_slot, ne_eq, not_false_eq_true, Nat.reduceEqDiff, Int.reduceEq, reduceCtorEq, Nat.reduceAdd, Int.reduceAdd, Int.reduceSub]; done) | (simp only [up_same, up_cell, up_slot, ne_eq, not_false_eq_true, Nat.reduceEqDiff, Int.reduceEq, reduceCtorEq, Nat.reduceAdd, Int.reduceAdd, Int.reduceSub]; exact hx148_4)
                        · first | exact hx148_5 | exact hx122_5 | (simp only [up_same, up_cell, up_slot, ne_eq, not_false_eq_true, Nat.reduceEqDiff, Int.reduceEq, reduceCtorEq, Nat.reduceAdd, Int.reduceAdd, Int.reduceSub]; done) | (simp only [up_same, up_cell, up_slot, ne_eq, not_false_eq_true, Nat.reduceEqDiff, Int.reduceEq, reduceCtorEq, Nat.reduceAdd, Int.reduceAdd, Int.reduceSub]; exact hx148_5)
                        · intro j h0 h1; first | exact hx148_6 j h0 h1 | exact hx122_6 j h0 (by omega) | (simp only [up_same, up_cell, up_slot, ne_eq, not_false_eq_true, Nat.reduceEqDiff, Int.reduceEq, reduceCtorEq, Nat.reduceAdd, Int.reduceAdd, Int.reduceSub]; exact hx148_6 j h0 h1)
                        · intro j h0 h1; first | exact hx148_7 j h0 h1 | exact hx122_7 j h0 (by omega) | (simp only [up_same, up_cell, up_slot, ne_eq, not_false_eq_true, Nat.reduceEqDiff, Int.reduceEq, reduceCtorEq, Nat.reduceAdd, Int.reduceAdd, Int.reduceSub]; exact hx148_7 j h0 h1)
                        · intro j h0 h1; first | exact hx148_8 j h0 h1 | exact hx122_8 j h0 (by omega) | (simp only [up_same, up_cell, up_slot, ne_eq, not_false_eq_true, Nat.reduceEqDiff, Int.reduceEq, reduceCtorEq, Nat.reduceAdd, Int.reduceAdd, Int.reduceSub]; exact hx148_8 j h0 h1)
                        · intro j h0 h1; first | exact hx148_9 j h0 h1 | exact hx122_9 j h0 (by omega) | (simp only [up_same, up_cell, up_slot, ne_eq, not_false_eq_true, Nat.reduceEqDiff, Int.reduceEq, reduceCtorEq, Nat.reduceAdd, Int.reduceAdd, Int.reduceSub]; exact hx148_9 j h0 h1)
                        · intro j h0 h1; first | exact hx148_10 j h0 h1 | exact hx122_10 j h0 (by omega) | (simp only [up_same, up_cell, up_slot, ne_eq, not_false_eq_true, Nat.reduceEqDiff, Int.reduceEq, reduceCtorEq, Nat.reduceAdd, Int.reduceAdd, Int.reduceSub]; exact hx148_10 j h0 h1)
                        · intro j h0 h1; first | (exfalso; omega) | (by_cases e : j = q; (rw [e]; simp only [up_same, up_cell, up_slot, ne_eq, not_false_eq_true, Nat.reduceEqDiff, Int.reduceEq, reduceCtorEq, Nat.reduceAdd, Int.reduceAdd, Int.reduceSub]; exact hF148 100 q rfl); simp only [up_same, up_cell, up_slot, ne_eq, not_false_eq_true, Nat.reduceEqDiff, Int.reduceEq, reduceCtorEq, Nat.reduceAdd, Int.reduceAdd, Int.reduceSub, e]; exact hx148_11 j h0 (by omega))
                        · intro j h0 h1; first | (exfalso; omega) | (by_cases e : j = q; (rw [e]; simp only [up_same, up_cell, up_slot, ne_eq, not_false_eq_true, Nat.reduceEqDiff, Int.reduceEq, reduceCtorEq, Nat.reduceAdd, Int.reduceAdd, Int.reduceSub]; exact hF148 101 q rfl); simp only [up_same, up_cell, up_slot, ne_eq, not_false_eq_true, Nat.reduceEqDiff, Int.reduceEq, reduceCtorEq, Nat.reduceAdd, Int.reduceAdd, Int.reduceSub, e]; exact hx148_12 j h0 (by omega))
                        · intro j h0 h1; first | (exfalso; omega) | (by_cases e : j = q; (rw [e]; simp only [up_same, up_cell, up_slot, ne_eq, not_false_eq_true, Nat.reduceEqDiff, Int.reduceEq, reduceCtorEq, Nat.reduceAdd, Int.reduceAdd, Int.reduceSub]; exact hF148 102 q rfl); simp only [up_same, up_cell, up_slot, ne_eq, not_false_eq_true, Nat.reduceEqDiff, Int.reduceEq, reduceCtorEq, Nat.reduceAdd, Int.reduceAdd, Int.reduceSub, e]; exact hx148_13 j h0 (by omega))
                refine loop148 _ _ _ (Nat.lt_succ_self _) ?_
                refine ⟨?_, ?_, ?_, ?_, ?_, ?_, ?_, ?_, ?_, ?_, ?_, ?_, ?_, ?_, ?_, ?_, ?_⟩
                · exact hI122
                · exact hF122
                · omega
                · first | exact hx148_0 | exact hx122_0 | (simp only [up_same, up_cell, up_slot, ne_eq, not_false_eq_true, Nat.reduceEqDiff, Int.reduceEq, reduceCtorEq, Nat.reduceAdd, Int.reduceAdd, Int.reduceSub]; done) | (simp only [up_same, up_cell, up_slot, ne_eq, not_false_eq_true, Nat.reduceEqDiff, Int.reduceEq, reduceCtorEq, Nat.reduceAdd, Int.reduceAdd, Int.reduceSub]; exact hx148_0)
                · first | exact hx148_1 | exact hx122_1 | (simp only [up_same, up_cell, up_slot, ne_eq, not_false_eq_true, Nat.reduceEqDiff, Int.reduceEq, reduceCtorEq, Nat.reduceAdd, Int.reduceAdd, Int.reduceSub]; done) | (simp only [up_same, up_cell, up_slot, ne_eq, not_false_eq_true, Nat.reduceEqDiff, Int.reduceEq, reduceCtorEq, Nat.reduceAdd, Int.reduceAdd, Int.reduceSub]; exact hx148_1)
                · first | exact hx148_2 | exact hx122_2 | (simp only [up_same, up_cell, up_slot, ne_eq, not_false_eq_true, Nat.reduceEqDiff, Int.reduceEq, reduceCtorEq, Nat.reduceAdd, Int.reduceAdd, Int.reduceSub]; done) | (simp only [up_same, up_cell, up_slot, ne_eq, not_false_eq_true, Nat.reduceEqDiff, Int.reduceEq, reduceCtorEq, Nat.reduceAdd, Int.reduceAdd, Int.reduceSub]; exact hx148_2)
                · first | exact hx148_3 | exact hx122_3 | (simp only [up_same, up_cell, up_slot, ne_eq, not_false_eq_true, Nat.reduceEqDiff, Int.reduceEq, reduceCtorEq, Nat.reduceAdd, Int.reduceAdd, Int.reduceSub]; done) | (simp only [up_same, up_cell, up_slot, ne_eq, not_false_eq_true, Nat.reduceEqDiff, Int.reduceEq, reduceCtorEq, Nat.reduceAdd, Int.reduceAdd, Int.reduceSub]; exact hx148_3)
                · first | exact hx148_4 | exact hx122_4 | (simp only [up_same, up_cell, up_slot, ne_eq, not_false_eq_true, Nat.reduceEqDiff, Int.reduceEq, reduceCtorEq, Nat.reduceAdd, Int.reduceAdd, Int.reduceSub]; done) | (simp only [up_same, up_cell, up_slot, ne_eq, not_false_eq_true, Nat.reduceEqDiff, Int.reduceEq, reduceCtorEq, Nat.reduceAdd, Int.reduceAdd, Int.reduceSub]; exact hx148_4)
                · first | exact hx148_5 | exact hx122_5 | (simp only [up_same, up_cell, up_slot, ne_eq, not_false_eq_true, Nat.reduceEqDiff, Int.reduceEq, reduceCtorEq, Nat.reduceAdd, Int.reduceAdd, Int.reduceSub]; done) | (simp only [up_same, up_cell, up_slot, ne_eq, not_false_eq_true, Nat.reduceEqDiff, Int.reduceEq, reduceCtorEq, Nat.reduceAdd, Int.reduceAdd, Int.reduceSub]; exact hx148_5)
                · intro j h0 h1; first | exact hx148_6 j h0 h1 | exact hx122_6 j h0 (by omega) | (simp only [up_same, up_cell, up_slot, ne_eq, not_false_eq_true, Nat.reduceEqDiff, Int.reduceEq, reduceCtorEq, Nat.reduceAdd, Int.reduceAdd, Int.reduceSub]; exact hx148_6 j h0 h1)
                · intro j h0 h1; first | exact hx148_7 j h0 h1 | exact hx122_7 j h0 (by omega) | (simp only [up_same, up_cell, up_slot, ne_eq, not_false_eq_true, Nat.reduceEqDiff, Int.reduceEq, reduceCtorEq, Nat.reduceAdd, Int.reduceAdd, Int.reduceSub]; exact hx148_7 j h0 h1)
                · intro j h0 h1; first | exact hx148_8 j h0 h1 | exact hx122_8 j h0 (by omega) | (simp only [up_same, up_cell, up_slot, ne_eq, not_false_eq_true, Nat.reduceEqDiff, Int.reduceEq, reduceCtorEq, Nat.reduceAdd, Int.reduceAdd, Int.reduceSub]; exact hx148_8 j h0 h1)
                · intro j h0 h1; first | exact hx148_9 j h0 h1 | exact hx122_9 j h0 (by omega) | (simp only [up_same, up_cell, up_slot, ne_eq, not_false_eq_true, Nat.reduceEqDiff, Int.reduceEq, reduceCtorEq, Nat.reduceAdd, Int.reduceAdd, Int.reduceSub]; exact hx148_9 j h0 h1)
                · intro j h0 h1; first | exact hx148_10 j h0 h1 | exact hx122_10 j h0 (by omega) | (simp only [up_same, up_cell, up_slot, ne_eq, not_false_eq_true, Nat.reduceEqDiff, Int.reduceEq, reduceCtorEq, Nat.reduceAdd, Int.reduceAdd, Int.reduceSub]; exact hx148_10 j h0 h1)
                · intro j h0 h1; first | (exfalso; omega) | (by_cases e : j = q; (rw [e]; simp only [up_same, up_cell, up_slot, ne_eq, not_false_eq_true, Nat.reduceEqDiff, Int.reduceEq, reduceCtorEq, Nat.reduceAdd, Int.reduceAdd, Int.reduceSub]; exact hF148 100 q rfl); simp only [up_same, up_cell, up_slot, ne_eq, not_false_eq_true, Nat.reduceEqDiff, Int.reduceEq, reduceCtorEq, Nat.reduceAdd, Int.reduceAdd, Int.reduceSub, e]; exact hx148_11 j h0 (by omega))
                · intro j h0 h1; first | (exfalso; omega) | (by_cases e : j = q; (rw [e]; simp only [up_same, up_cell, up_slot, ne_eq, not_false_eq_true, Nat.reduceEqDiff, Int.reduceEq, reduceCtorEq, Nat.reduceAdd, Int.reduceAdd, Int.reduceSub]; exact hF148 101 q rfl); simp only [up_same, up_cell, up_slot, ne_eq, not_false_eq_true, Nat.reduceEqDiff, Int.reduceEq, reduceCtorEq, Nat.reduceAdd, Int.reduceAdd, Int.reduceSub, e]; exact hx148_12 j h0 (by omega))
                · intro j h0 h1; first | (exfalso; omega) | (by_cases e : j = q; (rw [e]; simp only [up_same, up_cell, up_slot, ne_eq, not_false_eq_true, Nat.reduceEqDiff, Int.reduceEq, reduceCtorEq, Nat.reduceAdd, Int.reduceAdd, Int.reduceSub]; exact hF148 102 q rfl); simp only [up_same, up_cell, up_slot, ne_eq, not_false_eq_true, Nat.reduceEqDiff, Int.reduceEq, reduceCtorEq, Nat.reduceAdd, Int.reduceAdd, Int.reduceSub, e]; exact hx148_13 j h0 (by omega))
              · skip
                refine g_aload_n (M := mX11_undo) (pc := 128) dX11_undo_128 rfl (k := ?_)
                refine g_getr (M := mX11_undo) (pc := 129) (by rfl) fX11_6 kX11_29 dX11_undo_129 (by rfl) (kk := ?_)
                refine g_iload_n (M := mX11_undo) (pc := 132) dX11_undo_132 rfl (k := ?_)
                refine g_aload_n (M := mX11_undo) (pc := 133) dX11_undo_133 rfl (k := ?_)
                refine g_getr (M := mX11_undo) (pc := 134) (by rfl) fX11_55 kX11_178 dX11_undo_134 (by rfl) (kk := ?_)
                refine g_iload_n (M := mX11_undo) (pc := 137) dX11_undo_137 rfl (k := ?_)
                refine g_iald (M := mX11_undo) (pc := 138) (by rfl) (by omega) (by omega) dX11_undo_138 (kk := fun hr138 => ?_)
                refine g_iast (M := mX11_undo) (pc := 139) (by rfl) (by omega) (by omega) (by omega) dX11_undo_139 (kk := ?_)
                refine g_iinc_1 (M := mX11_undo) (pc := 140) dX11_undo_140 (k := ?_)
                refine g_goto (M := mX11_undo) (pc := 143) (tgt := 122) dX11_undo_143 (k := ?_)
                refine ih122 _ _ ?_ ?_
                · omega
                · skip
                  refine ⟨?_, ?_, ?_, ?_, ?_, ?_, ?_, ?_, ?_, ?_, ?_, ?_, ?_, ?_⟩
                  · refine jv_cell ?_ (by rfl); exact hI122
                  · refine Fr.up ?_ (by first | rfl | (unfold jcU; simp; try omega)); exact hF122
                  · omega
                  · first | exact hx122_0 | exact hx60_0 | (simp only [up_same, up_cell, up_slot, ne_eq, not_false_eq_true, Nat.reduceEqDiff, Int.reduceEq, reduceCtorEq, Nat.reduceAdd, Int.reduceAdd, Int.reduceSub]; done) | (simp only [up_same, up_cell, up_slot, ne_eq, not_false_eq_true, Nat.reduceEqDiff, Int.reduceEq, reduceCtorEq, Nat.reduceAdd, Int.reduceAdd, Int.reduceSub]; exact hx122_0)
                  · first | exact hx122_1 | exact hx60_1 | (simp only [up_same, up_cell, up_slot, ne_eq, not_false_eq_true, Nat.reduceEqDiff, Int.reduceEq, reduceCtorEq, Nat.reduceAdd, Int.reduceAdd, Int.reduceSub]; done) | (simp only [up_same, up_cell, up_slot, ne_eq, not_false_eq_true, Nat.reduceEqDiff, Int.reduceEq, reduceCtorEq, Nat.reduceAdd, Int.reduceAdd, Int.reduceSub]; exact hx122_1)
                  · first | exact hx122_2 | exact hx60_2 | (simp only [up_same, up_cell, up_slot, ne_eq, not_false_eq_true, Nat.reduceEqDiff, Int.reduceEq, reduceCtorEq, Nat.reduceAdd, Int.reduceAdd, Int.reduceSub]; done) | (simp only [up_same, up_cell, up_slot, ne_eq, not_false_eq_true, Nat.reduceEqDiff, Int.reduceEq, reduceCtorEq, Nat.reduceAdd, Int.reduceAdd, Int.reduceSub]; exact hx122_2)
                  · first | exact hx122_3 | exact hx60_3 | (simp only [up_same, up_cell, up_slot, ne_eq, not_false_eq_true, Nat.reduceEqDiff, Int.reduceEq, reduceCtorEq, Nat.reduceAdd, Int.reduceAdd, Int.reduceSub]; done) | (simp only [up_same, up_cell, up_slot, ne_eq, not_false_eq_true, Nat.reduceEqDiff, Int.reduceEq, reduceCtorEq, Nat.reduceAdd, Int.reduceAdd, Int.reduceSub]; exact hx122_3)
                  · first | exact hx122_4 | exact hx60_4 | (simp only [up_same, up_cell, up_slot, ne_eq, not_false_eq_true, Nat.reduceEqDiff, Int.reduceEq, reduceCtorEq, Nat.reduceAdd, Int.reduceAdd, Int.reduceSub]; done) | (simp only [up_same, up_cell, up_slot, ne_eq, not_false_eq_true, Nat.reduceEqDiff, Int.reduceEq, reduceCtorEq, Nat.reduceAdd, Int.reduceAdd, Int.reduceSub]; exact hx122_4)
                  · first | exact hx122_5 | exact hx60_5 | (simp only [up_same, up_cell, up_slot, ne_eq, not_false_eq_true, Nat.reduceEqDiff, Int.reduceEq, reduceCtorEq, Nat.reduceAdd, Int.reduceAdd, Int.reduceSub]; done) | (simp only [up_same, up_cell, up_slot, ne_eq, not_false_eq_true, Nat.reduceEqDiff, Int.reduceEq, reduceCtorEq, Nat.reduceAdd, Int.reduceAdd, Int.reduceSub]; exact hx122_5)
                  · intro j h0 h1; first | exact hx122_6 j h0 h1 | exact hx60_6 j h0 (by omega) | (simp only [up_same, up_cell, up_slot, ne_eq, not_false_eq_true, Nat.reduceEqDiff, Int.reduceEq, reduceCtorEq, Nat.reduceAdd, Int.reduceAdd, Int.reduceSub]; exact hx122_6 j h0 h1)
                  · intro j h0 h1; first | exact hx122_7 j h0 h1 | exact hx60_7 j h0 (by omega) | (simp only [up_same, up_cell, up_slot, ne_eq, not_false_eq_true, Nat.reduceEqDiff, Int.reduceEq, reduceCtorEq, Nat.reduceAdd, Int.reduceAdd, Int.reduceSub]; exact hx122_7 j h0 h1)
                  · intro j h0 h1; first | exact hx122_8 j h0 h1 | exact hx60_8 j h0 (by omega) | (simp only [up_same, up_cell, up_slot, ne_eq, not_false_eq_true, Nat.reduceEqDiff, Int.reduceEq, reduceCtorEq, Nat.reduceAdd, Int.reduceAdd, Int.reduceSub]; exact hx122_8 j h0 h1)
                  · intro j h0 h1; first | exact hx122_9 j h0 h1 | exact hx60_9 j h0 (by omega) | (simp only [up_same, up_cell, up_slot, ne_eq, not_false_eq_true, Nat.reduceEqDiff, Int.reduceEq, reduceCtorEq, Nat.reduceAdd, Int.reduceAdd, Int.reduceSub]; exact hx122_9 j h0 h1)
                  · intro j h0 h1; first | (exfalso; omega) | (by_cases e : j = q; (rw [e]; simp only [up_same, up_cell, up_slot, ne_eq, not_false_eq_true, Nat.reduceEqDiff, Int.reduceEq, reduceCtorEq, Nat.reduceAdd, Int.reduceAdd, Int.reduceSub]; exact hF122 99 q rfl); simp only [up_same, up_cell, up_slot, ne_eq, not_false_eq_true, Nat.reduceEqDiff, Int.reduceEq, reduceCtorEq, Nat.reduceAdd, Int.reduceAdd, Int.reduceSub, e]; exact hx122_10 j h0 (by omega))
          refine loop122 _ _ _ (Nat.lt_succ_self _) ?_
          refine ⟨?_, ?_, ?_, ?_, ?_, ?_, ?_, ?_, ?_, ?_, ?_, ?_, ?_, ?_⟩
          · exact hI60
          · exact hF60
          · omega
          · first | exact hx122_0 | exact hx60_0 | (simp only [up_same, up_cell, up_slot, ne_eq, not_false_eq_true, Nat.reduceEqDiff, Int.reduceEq, reduceCtorEq, Nat.reduceAdd, Int.reduceAdd, Int.reduceSub]; done) | (simp only [up_same, up_cell, up_slot, ne_eq, not_false_eq_true, Nat.reduceEqDiff, Int.reduceEq, reduceCtorEq, Nat.reduceAdd, Int.reduceAdd, Int.reduceSub]; exact hx122_0)
          · first | exact hx122_1 | exact hx60_1 | (simp only [up_same, up_cell, up_slot, ne_eq, not_false_eq_true, Nat.reduceEqDiff, Int.reduceEq, reduceCtorEq, Nat.reduceAdd, Int.reduceAdd, Int.reduceSub]; done) | (simp only [up_same, up_cell, up_slot, ne_eq, not_false_eq_true, Nat.reduceEqDiff, Int.reduceEq, reduceCtorEq, Nat.reduceAdd, Int.reduceAdd, Int.reduceSub]; exact hx122_1)
          · first | exact hx122_2 | exact hx60_2 | (simp only [up_same, up_cell, up_slot, ne_eq, not_false_eq_true, Nat.reduceEqDiff, Int.reduceEq, reduceCtorEq, Nat.reduceAdd, Int.reduceAdd, Int.reduceSub]; done) | (simp only [up_same, up_cell, up_slot, ne_eq, not_false_eq_true, Nat.reduceEqDiff, Int.reduceEq, reduceCtorEq, Nat.reduceAdd, Int.reduceAdd, Int.reduceSub]; exact hx122_2)
          · first | exact hx122_3 | exact hx60_3 | (simp only [up_same, up_cell, up_slot, ne_eq, not_false_eq_true, Nat.reduceEqDiff, Int.reduceEq, reduceCtorEq, Nat.reduceAdd, Int.reduceAdd, Int.reduceSub]; done) | (simp only [up_same, up_cell, up_slot, ne_eq, not_false_eq_true, Nat.reduceEqDiff, Int.reduceEq, reduceCtorEq, Nat.reduceAdd, Int.reduceAdd, Int.reduceSub]; exact hx122_3)
          · first | exact hx122_4 | exact hx60_4 | (simp only [up_same, up_cell, up_slot, ne_eq, not_false_eq_true, Nat.reduceEqDiff, Int.reduceEq, reduceCtorEq, Nat.reduceAdd, Int.reduceAdd, Int.reduceSub]; done) | (simp only [up_same, up_cell, up_slot, ne_eq, not_false_eq_true, Nat.reduceEqDiff, Int.reduceEq, reduceCtorEq, Nat.reduceAdd, Int.reduceAdd, Int.reduceSub]; exact hx122_4)
          · first | exact hx122_5 | exact hx60_5 | (simp only [up_same, up_cell, up_slot, ne_eq, not_false_eq_true, Nat.reduceEqDiff, Int.reduceEq, reduceCtorEq, Nat.reduceAdd, Int.reduceAdd, Int.reduceSub]; done) | (simp only [up_same, up_cell, up_slot, ne_eq, not_false_eq_true, Nat.reduceEqDiff, Int.reduceEq, reduceCtorEq, Nat.reduceAdd, Int.reduceAdd, Int.reduceSub]; exact hx122_5)
          · intro j h0 h1; first | exact hx122_6 j h0 h1 | exact hx60_6 j h0 (by omega) | (simp only [up_same, up_cell, up_slot, ne_eq, not_false_eq_true, Nat.reduceEqDiff, Int.reduceEq, reduceCtorEq, Nat.reduceAdd, Int.reduceAdd, Int.reduceSub]; exact hx122_6 j h0 h1)
          · intro j h0 h1; first | exact hx122_7 j h0 h1 | exact hx60_7 j h0 (by omega) | (simp only [up_same, up_cell, up_slot, ne_eq, not_false_eq_true, Nat.reduceEqDiff, Int.reduceEq, reduceCtorEq, Nat.reduceAdd, Int.reduceAdd, Int.reduceSub]; exact hx122_7 j h0 h1)
          · intro j h0 h1; first | exact hx122_8 j h0 h1 | exact hx60_8 j h0 (by omega) | (simp only [up_same, up_cell, up_slot, ne_eq, not_false_eq_true, Nat.reduceEqDiff, Int.reduceEq, reduceCtorEq, Nat.reduceAdd, Int.reduceAdd, Int.reduceSub]; exact hx122_8 j h0 h1)
          · intro j h0 h1; first | exact hx122_9 j h0 h1 | exact hx60_9 j h0 (by omega) | (simp only [up_same, up_cell, up_slot, ne_eq, not_false_eq_true, Nat.reduceEqDiff, Int.reduceEq, reduceCtorEq, Nat.reduceAdd, Int.reduceAdd, Int.reduceSub]; exact hx122_9 j h0 h1)
          · intro j h0 h1; first | (exfalso; omega) | (by_cases e : j = q; (rw [e]; simp only [up_same, up_cell, up_slot, ne_eq, not_false_eq_true, Nat.reduceEqDiff, Int.reduceEq, reduceCtorEq, Nat.reduceAdd, Int.reduceAdd, Int.reduceSub]; exact hF122 99 q rfl); simp only [up_same, up_cell, up_slot, ne_eq, not_false_eq_true, Nat.reduceEqDiff, Int.reduceEq, reduceCtorEq, Nat.reduceAdd, Int.reduceAdd, Int.reduceSub, e]; exact hx122_10 j h0 (by omega))
        · skip
          refine g_aload_n (M := mX11_undo) (pc := 66) dX11_undo_66 rfl (k := ?_)
          refine g_getr (M := mX11_undo) (pc := 67) (by rfl) fX11_2 kX11_16 dX11_undo_67 (by rfl) (kk := ?_)
          refine g_iload_n (M := mX11_undo) (pc := 70) dX11_undo_70 rfl (k := ?_)
          refine g_aload_n (M := mX11_undo) (pc := 71) dX11_undo_71 rfl (k := ?_)
          refine g_getr (M := mX11_undo) (pc := 72) (by rfl) fX11_51 kX11_166 dX11_undo_72 (by rfl) (kk := ?_)
          refine g_iload_n (M := mX11_undo) (pc := 75) dX11_undo_75 rfl (k := ?_)
          refine g_iald (M := mX11_undo) (pc := 76) (by rfl) (by omega) (by omega) dX11_undo_76 (kk := fun hr76 => ?_)
          have hb76 := jv95_0 hI60 q (by omega) (by omega)
          refine g_iast (M := mX11_undo) (pc := 77) (by rfl) (by omega) (by omega) (by omega) dX11_undo_77 (kk := ?_)
          refine g_aload_n (M := mX11_undo) (pc := 78) dX11_undo_78 rfl (k := ?_)
          refine g_getr (M := mX11_undo) (pc := 79) (by rfl) fX11_3 kX11_20 dX11_undo_79 (by rfl) (kk := ?_)
          refine g_iload_n (M := mX11_undo) (pc := 82) dX11_undo_82 rfl (k := ?_)
          refine g_aload_n (M := mX11_undo) (pc := 83) dX11_undo_83 rfl (k := ?_)
          refine g_getr (M := mX11_undo) (pc := 84) (by rfl) fX11_52 kX11_169 dX11_undo_84 (by rfl) (kk := ?_)
          refine g_iload_n (M := mX11_undo) (pc := 87) dX11_undo_87 rfl (k := ?_)
          refine g_iald (M := mX11_undo) (pc := 88) (by rfl) (by omega) (by omega) dX11_undo_88 (kk := fun hr88 => ?_)
          simp only [up_same, up_cell, up_slot, ne_eq, not_false_eq_true, Nat.reduceEqDiff, Int.reduceEq, reduceCtorEq, Nat.reduceAdd, Int.reduceAdd, Int.reduceSub] at hr88 ⊢
          have hb88 := jv96_0 hI60 q (by omega) (by omega)
          refine g_iast (M := mX11_undo) (pc := 89) (by rfl) (by omega) (by omega) (by omega) dX11_undo_89 (kk := ?_)
          refine g_aload_n (M := mX11_undo) (pc := 90) dX11_undo_90 rfl (k := ?_)
          refine g_getr (M := mX11_undo) (pc := 91) (by rfl) fX11_4 kX11_23 dX11_undo_91 (by rfl) (kk := ?_)
          refine g_iload_n (M := mX11_undo) (pc := 94) dX11_undo_94 rfl (k := ?_)
          refine g_aload_n (M := mX11_undo) (pc := 95) dX11_undo_95 rfl (k := ?_)
          refine g_getr (M := mX11_undo) (pc := 96) (by rfl) fX11_53 kX11_172 dX11_undo_96 (by rfl) (kk := ?_)
          refine g_iload_n (M := mX11_undo) (pc := 99) dX11_undo_99 rfl (k := ?_)
          refine g_iald (M := mX11_undo) (pc := 100) (by rfl) (by omega) (by omega) dX11_undo_100 (kk := fun hr100 => ?_)
          simp only [up_same, up_cell, up_slot, ne_eq, not_false_eq_true, Nat.reduceEqDiff, Int.reduceEq, reduceCtorEq, Nat.reduceAdd, Int.reduceAdd, Int.reduceSub] at hr100 ⊢
          have hb100 := jv97_0 hI60 q (by omega) (by omega)
          refine g_iast (M := mX11_undo) (pc := 101) (by rfl) (by omega) (by omega) (by omega) dX11_undo_101 (kk := ?_)
          refine g_aload_n (M := mX11_undo) (pc := 102) dX11_undo_102 rfl (k := ?_)
          refine g_getr (M := mX11_undo) (pc := 103) (by rfl) fX11_5 kX11_26 dX11_undo_103 (by rfl) (kk := ?_)
          refine g_iload_n (M := mX11_undo) (pc := 106) dX11_undo_106 rfl (k := ?_)
          refine g_aload_n (M := mX11_undo) (pc := 107) dX11_undo_107 rfl (k := ?_)
          refine g_getr (M := mX11_undo) (pc := 108) (by rfl) fX11_54 kX11_175 dX11_undo_108 (by rfl) (kk := ?_)
          refine g_iload_n (M := mX11_undo) (pc := 111) dX11_undo_111 rfl (k := ?_)
          refine g_iald (M := mX11_undo) (pc := 112) (by rfl) (by omega) (by omega) dX11_undo_112 (kk := fun hr112 => ?_)
          simp only [up_same, up_cell, up_slot, ne_eq, not_false_eq_true, Nat.reduceEqDiff, Int.reduceEq, reduceCtorEq, Nat.reduceAdd, Int.reduceAdd, Int.reduceSub] at hr112 ⊢
          refine g_iast (M := mX11_undo) (pc := 113) (by rfl) (by omega) (by omega) (by omega) dX11_undo_113 (kk := ?_)
          refine g_iinc_1 (M := mX11_undo) (pc := 114) dX11_undo_114 (k := ?_)
          refine g_goto (M := mX11_undo) (pc := 117) (tgt := 60) dX11_undo_117 (k := ?_)
          refine ih60 _ _ ?_ ?_
          · omega
          · skip
            refine ⟨?_, ?_, ?_, ?_, ?_, ?_, ?_, ?_, ?_, ?_, ?_, ?_, ?_⟩
            · refine jv_cell ?_ (by rfl); refine jvu72 ?_ (by omega) (by omega); refine jvu71 ?_ (by omega) (by omega); refine jvu70 ?_ (by omega) (by omega); exact hI60
            · refine Fr.up ?_ (by first | rfl | (unfold jcU; simp; try omega)); refine Fr.up ?_ (by first | rfl | (unfold jcU; simp; try omega)); refine Fr.up ?_ (by first | rfl | (unfold jcU; simp; try omega)); refine Fr.up ?_ (by first | rfl | (unfold jcU; simp; try omega)); exact hF60
            · omega
            · first | exact hx60_0 | (simp only [up_same, up_cell, up_slot, ne_eq, not_false_eq_true, Nat.reduceEqDiff, Int.reduceEq, reduceCtorEq, Nat.reduceAdd, Int.reduceAdd, Int.reduceSub]; done) | (simp only [up_same, up_cell, up_slot, ne_eq, not_false_eq_true, Nat.reduceEqDiff, Int.reduceEq, reduceCtorEq, Nat.reduceAdd, Int.reduceAdd, Int.reduceSub]; exact hx60_0)
            · first | exact hx60_1 | (simp only [up_same, up_cell, up_slot, ne_eq, not_false_eq_true, Nat.reduceEqDiff, Int.reduceEq, reduceCtorEq, Nat.reduceAdd, Int.reduceAdd, Int.reduceSub]; done) | (simp only [up_same, up_cell, up_slot, ne_eq, not_false_eq_true, Nat.reduceEqDiff, Int.reduceEq, reduceCtorEq, Nat.reduceAdd, Int.reduceAdd, Int.reduceSub]; exact hx60_1)
            · first | exact hx60_2 | (simp only [up_same, up_cell, up_slot, ne_eq, not_false_eq_true, Nat.reduceEqDiff, Int.reduceEq, reduceCtorEq, Nat.reduceAdd, Int.reduceAdd, Int.reduceSub]; done) | (simp only [up_same, up_cell, up_slot, ne_eq, not_false_eq_true, Nat.reduceEqDiff, Int.reduceEq, reduceCtorEq, Nat.reduceAdd, Int.reduceAdd, Int.reduceSub]; exact hx60_2)
            · first | exact hx60_3 | (simp only [up_same, up_cell, up_slot, ne_eq, not_false_eq_true, Nat.reduceEqDiff, Int.reduceEq, reduceCtorEq, Nat.reduceAdd, Int.reduceAdd, Int.reduceSub]; done) | (simp only [up_same, up_cell, up_slot, ne_eq, not_false_eq_true, Nat.reduceEqDiff, Int.reduceEq, reduceCtorEq, Nat.reduceAdd, Int.reduceAdd, Int.reduceSub]; exact hx60_3)
            · first | exact hx60_4 | (simp only [up_same, up_cell, up_slot, ne_eq, not_false_eq_true, Nat.reduceEqDiff, Int.reduceEq, reduceCtorEq, Nat.reduceAdd, Int.reduceAdd, Int.reduceSub]; done) | (simp only [up_same, up_cell, up_slot, ne_eq, not_false_eq_true, Nat.reduceEqDiff, Int.reduceEq, reduceCtorEq, Nat.reduceAdd, Int.reduceAdd, Int.reduceSub]; exact hx60_4)
            · first | exact hx60_5 | (simp only [up_same, up_cell, up_slot, ne_eq, not_false_eq_true, Nat.reduceEqDiff, Int.reduceEq, reduceCtorEq, Nat.reduceAdd, Int.reduceAdd, Int.reduceSub]; done) | (simp only [up_same, up_cell, up_slot, ne_eq, not_false_eq_true, Nat.reduceEqDiff, Int.reduceEq, reduceCtorEq, Nat.reduceAdd, Int.reduceAdd, Int.reduceSub]; exact hx60_5)
            · intro j h0 h1; first | (exfalso; omega) | (by_cases e : j = q; (rw [e]; simp only [up_same, up_cell, up_slot, ne_eq, not_false_eq_true, Nat.reduceEqDiff, Int.reduceEq, reduceCtorEq, Nat.reduceAdd, Int.reduceAdd, Int.reduceSub]; exact hF60 95 q rfl); simp only [up_same, up_cell, up_slot, ne_eq, not_false_eq_true, Nat.reduceEqDiff, Int.reduceEq, reduceCtorEq, Nat.reduceAdd, Int.reduceAdd, Int.reduceSub, e]; exact hx60_6 j h0 (by omega))
            · intro j h0 h1; first | (exfalso; omega) | (by_cases e : j = q; (rw [e]; simp only [up_same, up_cell, up_slot, ne_eq, not_false_eq_true, Nat.reduceEqDiff, Int.reduceEq, reduceCtorEq, Nat.reduceAdd, Int.reduceAdd, Int.reduceSub]; exact hF60 96 q rfl); simp only [up_same, up_cell, up_slot, ne_eq, not_false_eq_true, Nat.reduceEqDiff, Int.reduceEq, reduceCtorEq, Nat.reduceAdd, Int.reduceAdd, Int.reduceSub, e]; exact hx60_7 j h0 (by omega))
            · intro j h0 h1; first | (exfalso; omega) | (by_cases e : j = q; (rw [e]; simp only [up_same, up_cell, up_slot, ne_eq, not_false_eq_true, Nat.reduceEqDiff, Int.reduceEq, reduceCtorEq, Nat.reduceAdd, Int.reduceAdd, Int.reduceSub]; exact hF60 97 q rfl); simp only [up_same, up_cell, up_slot, ne_eq, not_false_eq_true, Nat.reduceEqDiff, Int.reduceEq, reduceCtorEq, Nat.reduceAdd, Int.reduceAdd, Int.reduceSub, e]; exact hx60_8 j h0 (by omega))
            · intro j h0 h1; first | (exfalso; omega) | (by_cases e : j = q; (rw [e]; simp only [up_same, up_cell, up_slot, ne_eq, not_false_eq_true, Nat.reduceEqDiff, Int.reduceEq, reduceCtorEq, Nat.reduceAdd, Int.reduceAdd, Int.reduceSub]; exact hF60 98 q rfl); simp only [up_same, up_cell, up_slot, ne_eq, not_false_eq_true, Nat.reduceEqDiff, Int.reduceEq, reduceCtorEq, Nat.reduceAdd, Int.reduceAdd, Int.reduceSub, e]; exact hx60_9 j h0 (by omega))
    refine loop60 _ _ _ (Nat.lt_succ_self _) ?_
    refine ⟨?_, ?_, ?_, ?_, ?_, ?_, ?_, ?_, ?_, ?_, ?_, ?_, ?_⟩
    · refine jvu69_41 ?_ (by omega) (by omega); refine jvu69_38 ?_ (by omega) (by omega); refine jvu69_34 ?_ (by omega) (by omega); refine jvu69_1 ?_ (by omega) (by omega); refine jvu69_0 ?_ (by omega) (by omega); refine jvu69_11 ?_ (by omega) (by omega); exact hI
    · refine Fr.up ?_ (by first | rfl | (unfold jcU; simp; try omega)); refine Fr.up ?_ (by first | rfl | (unfold jcU; simp; try omega)); refine Fr.up ?_ (by first | rfl | (unfold jcU; simp; try omega)); refine Fr.up ?_ (by first | rfl | (unfold jcU; simp; try omega)); refine Fr.up ?_ (by first | rfl | (unfold jcU; simp; try omega)); refine Fr.up ?_ (by first | rfl | (unfold jcU; simp; try omega)); exact (Fr.rf)
    · omega
    · first | exact hx60_0 | (simp only [up_same, up_cell, up_slot, ne_eq, not_false_eq_true, Nat.reduceEqDiff, Int.reduceEq, reduceCtorEq, Nat.reduceAdd, Int.reduceAdd, Int.reduceSub]; done) | (simp only [up_same, up_cell, up_slot, ne_eq, not_false_eq_true, Nat.reduceEqDiff, Int.reduceEq, reduceCtorEq, Nat.reduceAdd, Int.reduceAdd, Int.reduceSub]; exact hx60_0)
    · first | exact hx60_1 | (simp only [up_same, up_cell, up_slot, ne_eq, not_false_eq_true, Nat.reduceEqDiff, Int.reduceEq, reduceCtorEq, Nat.reduceAdd, Int.reduceAdd, Int.reduceSub]; done) | (simp only [up_same, up_cell, up_slot, ne_eq, not_false_eq_true, Nat.reduceEqDiff, Int.reduceEq, reduceCtorEq, Nat.reduceAdd, Int.reduceAdd, Int.reduceSub]; exact hx60_1)
    · first | exact hx60_2 | (simp only [up_same, up_cell, up_slot, ne_eq, not_false_eq_true, Nat.reduceEqDiff, Int.reduceEq, reduceCtorEq, Nat.reduceAdd, Int.reduceAdd, Int.reduceSub]; done) | (simp only [up_same, up_cell, up_slot, ne_eq, not_false_eq_true, Nat.reduceEqDiff, Int.reduceEq, reduceCtorEq, Nat.reduceAdd, Int.reduceAdd, Int.reduceSub]; exact hx60_2)
    · first | exact hx60_3 | (simp only [up_same, up_cell, up_slot, ne_eq, not_false_eq_true, Nat.reduceEqDiff, Int.reduceEq, reduceCtorEq, Nat.reduceAdd, Int.reduceAdd, Int.reduceSub]; done) | (simp only [up_same, up_cell, up_slot, ne_eq, not_false_eq_true, Nat.reduceEqDiff, Int.reduceEq, reduceCtorEq, Nat.reduceAdd, Int.reduceAdd, Int.reduceSub]; exact hx60_3)
    · first | exact hx60_4 | (simp only [up_same, up_cell, up_slot, ne_eq, not_false_eq_true, Nat.reduceEqDiff, Int.reduceEq, reduceCtorEq, Nat.reduceAdd, Int.reduceAdd, Int.reduceSub]; done) | (simp only [up_same, up_cell, up_slot, ne_eq, not_false_eq_true, Nat.reduceEqDiff, Int.reduceEq, reduceCtorEq, Nat.reduceAdd, Int.reduceAdd, Int.reduceSub]; exact hx60_4)
    · first | exact hx60_5 | (simp only [up_same, up_cell, up_slot, ne_eq, not_false_eq_true, Nat.reduceEqDiff, Int.reduceEq, reduceCtorEq, Nat.reduceAdd, Int.reduceAdd, Int.reduceSub]; done) | (simp only [up_same, up_cell, up_slot, ne_eq, not_false_eq_true, Nat.reduceEqDiff, Int.reduceEq, reduceCtorEq, Nat.reduceAdd, Int.reduceAdd, Int.reduceSub]; exact hx60_5)
    · intro j h0 h1; first | (exfalso; omega) | (by_cases e : j = q; (rw [e]; simp only [up_same, up_cell, up_slot, ne_eq, not_false_eq_true, Nat.reduceEqDiff, Int.reduceEq, reduceCtorEq, Nat.reduceAdd, Int.reduceAdd, Int.reduceSub]; exact hF60 95 q rfl); simp only [up_same, up_cell, up_slot, ne_eq, not_false_eq_true, Nat.reduceEqDiff, Int.reduceEq, reduceCtorEq, Nat.reduceAdd, Int.reduceAdd, Int.reduceSub, e]; exact hx60_6 j h0 (by omega))
    · intro j h0 h1; first | (exfalso; omega) | (by_cases e : j = q; (rw [e]; simp only [up_same, up_cell, up_slot, ne_eq, not_false_eq_true, Nat.reduceEqDiff, Int.reduceEq, reduceCtorEq, Nat.reduceAdd, Int.reduceAdd, Int.reduceSub]; exact hF60 96 q rfl); simp only [up_same, up_cell, up_slot, ne_eq, not_false_eq_true, Nat.reduceEqDiff, Int.reduceEq, reduceCtorEq, Nat.reduceAdd, Int.reduceAdd, Int.reduceSub, e]; exact hx60_7 j h0 (by omega))
    · intro j h0 h1; first | (exfalso; omega) | (by_cases e : j = q; (rw [e]; simp only [up_same, up_cell, up_slot, ne_eq, not_false_eq_true, Nat.reduceEqDiff, Int.reduceEq, reduceCtorEq, Nat.reduceAdd, Int.reduceAdd, Int.reduceSub]; exact hF60 97 q rfl); simp only [up_same, up_cell, up_slot, ne_eq, not_false_eq_true, Nat.reduceEqDiff, Int.reduceEq, reduceCtorEq, Nat.reduceAdd, Int.reduceAdd, Int.reduceSub, e]; exact hx60_8 j h0 (by omega))
    · intro j h0 h1; first | (exfalso; omega) | (by_cases e : j = q; (rw [e]; simp only [up_same, up_cell, up_slot, ne_eq, not_false_eq_true, Nat.reduceEqDiff, Int.reduceEq, reduceCtorEq, Nat.reduceAdd, Int.reduceAdd, Int.reduceSub]; exact hF60 98 q rfl); simp only [up_same, up_cell, up_slot, ne_eq, not_false_eq_true, Nat.reduceEqDiff, Int.reduceEq, reduceCtorEq, Nat.reduceAdd, Int.reduceAdd, Int.reduceSub, e]; exact hx60_9 j h0 (by omega))
  · skip
    refine g_bipush (M := mX11_undo) (pc := 7) dX11_undo_7 (k := ?_)
    refine g_iret (M := mX11_undo) (pc := 9) rfl dX11_undo_9 rfl ⟨_, _, rfl, rfl, ?_⟩
    refine ⟨?_, ?_, ?_⟩
    · first | exact Or.inl ⟨by omega, by first | rfl | omega, rfl⟩ | exact Or.inr ⟨by omega, rfl, ⟨hx247_0, hx247_1, hx247_2, hx247_3, hx247_4, hx247_5, fun j h0 h1 => hx247_6 j h0 (by omega), fun j h0 h1 => hx247_7 j h0 (by omega), fun j h0 h1 => hx247_8 j h0 (by omega), fun j h0 h1 => hx247_9 j h0 (by omega), fun j h0 h1 => hx247_10 j h0 (by omega), fun j h0 h1 => hx247_11 j h0 (by omega), fun j h0 h1 => hx247_12 j h0 (by omega), fun j h0 h1 => hx247_13 j h0 (by omega), fun j h0 h1 => hx247_14 j h0 (by omega), fun j h0 h1 => hx247_15 j h0 (by omega), fun j h0 h1 => hx247_16 j h0 (by omega), fun j h0 h1 => hx247_17 j h0 (by omega), fun j h0 h1 => hx247_18 j h0 (by omega)⟩⟩
    · exact hI
    · exact (Fr.rf)
set_option maxHeartbeats 4000000 in
set_option maxRecDepth 20000 in
theorem c_X11_body (Γ : KT) (t : Nat) (σ : Nat → Int → Int) (b : Int) (hI : InvJ σ) (hb : R32 b) (hr : σ 69 64 ≤ 900) : Ct Γ mX11_body 1 (0, 0) [vR Γ 69, vI b] (113, ρT t, σ) (pV 113 (ρT t) (fun σ' => (σ' 69 64 ≤ σ 69 64 + 1) ∧ ((σ' 69 64, σ' 108) = ntF (σ 69 64, σ 108) b) ∧ (InvJ σ') ∧ (Fr jcK σ σ'))) := by
  refine Ct.of rfl (Nat.le_of_ble_eq_true rfl) ?_
  show G Γ mX11_body 1 (0, 0) _ (0, 0) 0 [some (vR Γ 69), some (vI b)] [] (113, ρT t, σ)
  refine g_aload_n (M := mX11_body) (pc := 0) dX11_body_0 rfl (k := ?_)
  refine g_get (M := mX11_body) (pc := 1) (ji := 64) (by rfl) fX11_64 kX11_205 dX11_body_1 (kk := fun hr1 => ?_)
  have hb1 := jv69_64 hI 64 (by omega) (by omega)
  refine g_bipush (M := mX11_body) (pc := 4) dX11_body_4 (k := ?_)
  refine g_icmp_ge (M := mX11_body) (pc := 6) (tgt := 19) (by omega) (by omega) dX11_body_6 (k1 := fun h6 => ?_) (k2 := fun h6 => ?_)
  · skip
    refine g_aload_n (M := mX11_body) (pc := 19) dX11_body_19 rfl (k := ?_)
    refine g_dupR (M := mX11_body) (pc := 20) dX11_body_20 (k := ?_)
    refine g_get (M := mX11_body) (pc := 21) (ji := 64) (by rfl) fX11_64 kX11_205 dX11_body_21 (kk := fun hr21 => ?_)
    refine g_iconst (M := mX11_body) (pc := 24) dX11_body_24 (k := ?_)
    refine g_iadd (M := mX11_body) (pc := 25) dX11_body_25 (k := ?_)
    refine g_put (M := mX11_body) (pc := 26) (ji := 64) (by rfl) fX11_64 kX11_205 dX11_body_26 (by omega) (kk := ?_)
    refine g_vret (M := mX11_body) (pc := 29) rfl dX11_body_29 rfl ⟨_, rfl, rfl, ?_⟩
    refine ⟨?_, ?_, ?_, ?_⟩
    · (try simp only [up_same, up_cell, up_slot, ne_eq, not_false_eq_true, Nat.reduceEqDiff, Int.reduceEq, reduceCtorEq, Nat.reduceAdd, Int.reduceAdd, Int.reduceSub]); omega
    · unfold ntF; dsimp only; first | (rw [if_neg (by omega)]; rfl) | (rw [if_pos (by omega)]; refine Prod.ext rfl (funext fun j => ?_); simp [up])
    · refine jvu69_64 ?_ (by omega) (by omega); exact hI
    · refine Fr.up ?_ (by first | rfl | (unfold jcK; simp; try omega)); exact (Fr.rf)
  · skip
    refine g_aload_n (M := mX11_body) (pc := 9) dX11_body_9 rfl (k := ?_)
    refine g_getr (M := mX11_body) (pc := 10) (by rfl) fX11_65 kX11_208 dX11_body_10 (by rfl) (kk := ?_)
    refine g_aload_n (M := mX11_body) (pc := 13) dX11_body_13 rfl (k := ?_)
    refine g_get (M := mX11_body) (pc := 14) (ji := 64) (by rfl) fX11_64 kX11_205 dX11_body_14 (kk := fun hr14 => ?_)
    refine g_iload_n (M := mX11_body) (pc := 17) dX11_body_17 rfl (k := ?_)
    refine g_iast (M := mX11_body) (pc := 18) (by rfl) (by omega) (by omega) (by omega) dX11_body_18 (kk := ?_)
    refine g_aload_n (M := mX11_body) (pc := 19) dX11_body_19 rfl (k := ?_)
    refine g_dupR (M := mX11_body) (pc := 20) dX11_body_20 (k := ?_)
    refine g_get (M := mX11_body) (pc := 21) (ji := 64) (by rfl) fX11_64 kX11_205 dX11_body_21 (kk := fun hr21 => ?_)
    simp only [up_same, up_cell, up_slot, ne_eq, not_false_eq_true, Nat.reduceEqDiff, Int.reduceEq, reduceCtorEq, Nat.reduceAdd, Int.reduceAdd, Int.reduceSub] at hr21 ⊢
    refine g_iconst (M := mX11_body) (pc := 24) dX11_body_24 (k := ?_)
    refine g_iadd (M := mX11_body) (pc := 25) dX11_body_25 (k := ?_)
    refine g_put (M := mX11_body) (pc := 26) (ji := 64) (by rfl) fX11_64 kX11_205 dX11_body_26 (by omega) (kk := ?_)
    refine g_vret (M := mX11_body) (pc := 29) rfl dX11_body_29 rfl ⟨_, rfl, rfl, ?_⟩
    refine ⟨?_, ?_, ?_, ?_⟩
    · (try simp only [up_same, up_cell, up_slot, ne_eq, not_false_eq_true, Nat.reduceEqDiff, Int.reduceEq, reduceCtorEq, Nat.reduceAdd, Int.reduceAdd, Int.reduceSub]); omega
    · unfold ntF; dsimp only; first | (rw [if_neg (by omega)]; rfl) | (rw [if_pos (by omega)]; refine Prod.ext rfl (funext fun j => ?_); simp [up])
    · refine jvu69_64 ?_ (by omega) (by omega); refine jv_cell ?_ (by rfl); exact hI
    · refine Fr.up ?_ (by first | rfl | (unfold jcK; simp; try omega)); refine Fr.up ?_ (by first | rfl | (unfold jcK; simp; try omega)); exact (Fr.rf)
set_option maxHeartbeats 4000000 in
set_option maxRecDepth 20000 in
theorem c_X11_houseAsks (Γ : KT) (t : Nat) (σ : Nat → Int → Int) (i : Int) (x : Int) (hI : InvJ σ) (hr : σ 69 64 ≤ 890) : Ct Γ mX11_houseAsks 2 (0, 0) [vR Γ 69, vI i, vI x] (113, ρT t, σ) (pI 113 (ρT t) (fun r σ' => (σ' 69 64 ≤ σ 69 64 + 1) ∧ ((r, σ' 69 64, σ' 108) = hA i x (σ 69 64, σ 108)) ∧ (InvJ σ') ∧ (Fr jcK σ σ'))) := by
  refine Ct.of rfl (Nat.le_of_ble_eq_true rfl) ?_
  show G Γ mX11_houseAsks 2 (0, 0) _ (0, 0) 0 [some (vR Γ 69), some (vI i), some (vI x)] [] (113, ρT t, σ)
  refine g_aload_n (M := mX11_houseAsks) (pc := 0) dX11_houseAsks_0 rfl (k := ?_)
  refine g_bipush (M := mX11_houseAsks) (pc := 1) dX11_houseAsks_1 (k := ?_)
  refine g_cV1V (M := mX11_houseAsks) (pc := 3) (c_X11_body Γ t _ _ hI (by omega) (by omega)) qX11_body vX11_body sX11_body kX11_373 dX11_houseAsks_3 (kk := ?_)
  rintro τ3 ⟨hn3, hx3, hI3, hG3⟩
  have hF3 : Fr jcK σ τ3 := by refine Fr.tr ?_ hG3; exact (Fr.rf)
  refine g_iload_n (M := mX11_houseAsks) (pc := 6) dX11_houseAsks_6 rfl (k := ?_)
  refine g_iload_n (M := mX11_houseAsks) (pc := 7) dX11_houseAsks_7 rfl (k := ?_)
  refine g_iadd (M := mX11_houseAsks) (pc := 8) dX11_houseAsks_8 (k := ?_)
  refine g_iret (M := mX11_houseAsks) (pc := 9) rfl dX11_houseAsks_9 rfl ⟨_, _, rfl, rfl, ?_⟩
  refine ⟨?_, ?_, ?_, ?_⟩
  · (try simp only [up_same, up_cell, up_slot, ne_eq, not_false_eq_true, Nat.reduceEqDiff, Int.reduceEq, reduceCtorEq, Nat.reduceAdd, Int.reduceAdd, Int.reduceSub]); omega
  · unfold hA; rw [← hx3]
  · exact hI3
  · exact hF3
set_option maxHeartbeats 4000000 in
set_option maxRecDepth 20000 in
theorem c_X11_asksAct (Γ : KT) (t : Nat) (σ : Nat → Int → Int) (i : Int) (x : Int) (hI : InvJ σ) (hi : 0 ≤ i ∧ i < 6) (hr : σ 69 64 ≤ 880) : Ct Γ mX11_asksAct 3 (0, 0) [vR Γ 69, vI i, vI x] (113, ρT t, σ) (pI 113 (ρT t) (fun r σ' => (σ' 69 64 ≤ σ 69 64 + 2) ∧ ((r, σ' 69 64, σ' 108) = aA (σ 70 i) (σ 71 i) i x (σ 69 64, σ 108)) ∧ (InvJ σ') ∧ (Fr jcK σ σ'))) := by
  refine Ct.of rfl (Nat.le_of_ble_eq_true rfl) ?_
  show G Γ mX11_asksAct 3 (0, 0) _ (0, 0) 0 [some (vR Γ 69), some (vI i), some (vI x)] [] (113, ρT t, σ)
  refine g_aload_n (M := mX11_asksAct) (pc := 0) dX11_asksAct_0 rfl (k := ?_)
  refine g_getr (M := mX11_asksAct) (pc := 1) (by rfl) fX11_2 kX11_16 dX11_asksAct_1 (by rfl) (kk := ?_)
  refine g_iload_n (M := mX11_asksAct) (pc := 4) dX11_asksAct_4 rfl (k := ?_)
  refine g_iald (M := mX11_asksAct) (pc := 5) (by rfl) (by omega) (by omega) dX11_asksAct_5 (kk := fun hr5 => ?_)
  have hb5 := jv70_0 hI i (by omega) (by omega)
  by_cases hsw6 : (σ 70 i) < 2 ∨ 6 < (σ 70 i)
  · skip
    refine g_tableOut (M := mX11_asksAct) (pc := 6) (tgt := 89) (by omega) dX11_asksAct_6 (h := hsw6) (k := ?_)
    refine g_aload_n (M := mX11_asksAct) (pc := 89) dX11_asksAct_89 rfl (k := ?_)
    refine g_iload_n (M := mX11_asksAct) (pc := 90) dX11_asksAct_90 rfl (k := ?_)
    refine g_iload_n (M := mX11_asksAct) (pc := 91) dX11_asksAct_91 rfl (k := ?_)
    refine g_cV2I (M := mX11_asksAct) (pc := 92) (c_X11_houseAsks Γ t _ _ _ hI (by omega)) qX11_houseAsks vX11_houseAsks sX11_houseAsks kX11_376 dX11_asksAct_92 (kk := ?_)
    rintro r92 τ92 ⟨hn92, hx92, hI92, hG92⟩
    have hF92 : Fr jcK σ τ92 := by refine Fr.tr ?_ hG92; exact (Fr.rf)
    refine g_iret (M := mX11_asksAct) (pc := 95) rfl dX11_asksAct_95 rfl ⟨_, _, rfl, rfl, ?_⟩
    refine ⟨?_, ?_, ?_, ?_⟩
    · (try simp only [up_same, up_cell, up_slot, ne_eq, not_false_eq_true, Nat.reduceEqDiff, Int.reduceEq, reduceCtorEq, Nat.reduceAdd, Int.reduceAdd, Int.reduceSub]); omega
    · unfold aA; first | (rw [if_neg (by omega), if_neg (by omega), if_neg (by omega)]; exact hx92) | (rw [if_pos (by omega), ← hx43]; exact hx51) | (rw [if_neg (by omega), if_pos (by omega), ← hx58, ← hx64]) | (rw [if_neg (by omega), if_neg (by omega), if_pos (by omega), ← hx72, ← hx78, hF78 71 i rfl])
    · exact hI92
    · exact hF92
  · obtain hc6 | hc6 | hc6 | hc6 | hc6 : (σ 70 i) = 2 ∨ (σ 70 i) = 3 ∨ (σ 70 i) = 4 ∨ (σ 70 i) = 5 ∨ (σ 70 i) = 6 := by omega
    · skip
      refine g_tableIn (M := mX11_asksAct) (pc := 6) (tgt := 40) (by omega) dX11_asksAct_6 (2) hc6 (k := ?_)
      refine g_aload_n (M := mX11_asksAct) (pc := 40) dX11_asksAct_40 rfl (k := ?_)
      refine g_bipush (M := mX11_asksAct) (pc := 41) dX11_asksAct_41 (k := ?_)
      refine g_cV1V (M := mX11_asksAct) (pc := 43) (c_X11_body Γ t _ _ hI (by omega) (by omega)) qX11_body vX11_body sX11_body kX11_373 dX11_asksAct_43 (kk := ?_)
      rintro τ43 ⟨hn43, hx43, hI43, hG43⟩
      have hF43 : Fr jcK σ τ43 := by refine Fr.tr ?_ hG43; exact (Fr.rf)
      refine g_aload_n (M := mX11_asksAct) (pc := 46) dX11_asksAct_46 rfl (k := ?_)
      refine g_iload_n (M := mX11_asksAct) (pc := 47) dX11_asksAct_47 rfl (k := ?_)
      refine g_iload_n (M := mX11_asksAct) (pc := 48) dX11_asksAct_48 rfl (k := ?_)
      refine g_iconst (M := mX11_asksAct) (pc := 49) dX11_asksAct_49 (k := ?_)
      refine g_imul (M := mX11_asksAct) (pc := 50) dX11_asksAct_50 (k := ?_)
      refine g_cV2I (M := mX11_asksAct) (pc := 51) (c_X11_houseAsks Γ t _ _ _ hI43 (by omega)) qX11_houseAsks vX11_houseAsks sX11_houseAsks kX11_376 dX11_asksAct_51 (kk := ?_)
      rintro r51 τ51 ⟨hn51, hx51, hI51, hG51⟩
      have hF51 : Fr jcK σ τ51 := by refine Fr.tr ?_ hG51; exact hF43
      refine g_iret (M := mX11_asksAct) (pc := 54) rfl dX11_asksAct_54 rfl ⟨_, _, rfl, rfl, ?_⟩
      refine ⟨?_, ?_, ?_, ?_⟩
      · (try simp only [up_same, up_cell, up_slot, ne_eq, not_false_eq_true, Nat.reduceEqDiff, Int.reduceEq, reduceCtorEq, Nat.reduceAdd, Int.reduceAdd, Int.reduceSub]); omega
      · unfold aA; first | (rw [if_neg (by omega), if_neg (by omega), if_neg (by omega)]; exact hx92) | (rw [if_pos (by omega), ← hx43]; exact hx51) | (rw [if_neg (by omega), if_pos (by omega), ← hx58, ← hx64]) | (rw [if_neg (by omega), if_neg (by omega), if_pos (by omega), ← hx72, ← hx78, hF78 71 i rfl])
      · exact hI51
      · exact hF51
    · skip
      refine g_tableIn (M := mX11_asksAct) (pc := 6) (tgt := 89) (by omega) dX11_asksAct_6 (3) hc6 (k := ?_)
      refine g_aload_n (M := mX11_asksAct) (pc := 89) dX11_asksAct_89 rfl (k := ?_)
      refine g_iload_n (M := mX11_asksAct) (pc := 90) dX11_asksAct_90 rfl (k := ?_)
      refine g_iload_n (M := mX11_asksAct) (pc := 91) dX11_asksAct_91 rfl (k := ?_)
      refine g_cV2I (M := mX11_asksAct) (pc := 92) (c_X11_houseAsks Γ t _ _ _ hI (by omega)) qX11_houseAsks vX11_houseAsks sX11_houseAsks kX11_376 dX11_asksAct_92 (kk := ?_)
      rintro r92 τ92 ⟨hn92, hx92, hI92, hG92⟩
      have hF92 : Fr jcK σ τ92 := by refine Fr.tr ?_ hG92; exact (Fr.rf)
      refine g_iret (M := mX11_asksAct) (pc := 95) rfl dX11_asksAct_95 rfl ⟨_, _, rfl, rfl, ?_⟩
      refine ⟨?_, ?_, ?_, ?_⟩
      · (try simp only [up_same, up_cell, up_slot, ne_eq, not_false_eq_true, Nat.reduceEqDiff, Int.reduceEq, reduceCtorEq, Nat.reduceAdd, Int.reduceAdd, Int.reduceSub]); omega
      · unfold aA; first | (rw [if_neg (by omega), if_neg (by omega), if_neg (by omega)]; exact hx92) | (rw [if_pos (by omega), ← hx43]; exact hx51) | (rw [if_neg (by omega), if_pos (by omega), ← hx58, ← hx64]) | (rw [if_neg (by omega), if_neg (by omega), if_pos (by omega), ← hx72, ← hx78, hF78 71 i rfl])
      · exact hI92
      · exact hF92
    · skip
      refine g_tableIn (M := mX11_asksAct) (pc := 6) (tgt := 55) (by omega) dX11_asksAct_6 (4) hc6 (k := ?_)
      refine g_aload_n (M := mX11_asksAct) (pc := 55) dX11_asksAct_55 rfl (k := ?_)
      refine g_bipush (M := mX11_asksAct) (pc := 56) dX11_asksAct_56 (k := ?_)
      refine g_cV1V (M := mX11_asksAct) (pc := 58) (c_X11_body Γ t _ _ hI (by omega) (by omega)) qX11_body vX11_body sX11_body kX11_373 dX11_asksAct_58 (kk := ?_)
      rintro τ58 ⟨hn58, hx58, hI58, hG58⟩
      have hF58 : Fr jcK σ τ58 := by refine Fr.tr ?_ hG58; exact (Fr.rf)
      refine g_aload_n (M := mX11_asksAct) (pc := 61) dX11_asksAct_61 rfl (k := ?_)
      refine g_iload_n (M := mX11_asksAct) (pc := 62) dX11_asksAct_62 rfl (k := ?_)
      refine g_iload_n (M := mX11_asksAct) (pc := 63) dX11_asksAct_63 rfl (k := ?_)
      refine g_cV2I (M := mX11_asksAct) (pc := 64) (c_X11_houseAsks Γ t _ _ _ hI58 (by omega)) qX11_houseAsks vX11_houseAsks sX11_houseAsks kX11_376 dX11_asksAct_64 (kk := ?_)
      rintro r64 τ64 ⟨hn64, hx64, hI64, hG64⟩
      have hF64 : Fr jcK σ τ64 := by refine Fr.tr ?_ hG64; exact hF58
      refine g_ineg (M := mX11_asksAct) (pc := 67) dX11_asksAct_67 (k := ?_)
      refine g_iret (M := mX11_asksAct) (pc := 68) rfl dX11_asksAct_68 rfl ⟨_, _, rfl, rfl, ?_⟩
      refine ⟨?_, ?_, ?_, ?_⟩
      · (try simp only [up_same, up_cell, up_slot, ne_eq, not_false_eq_true, Nat.reduceEqDiff, Int.reduceEq, reduceCtorEq, Nat.reduceAdd, Int.reduceAdd, Int.reduceSub]); omega
      · unfold aA; first | (rw [if_neg (by omega), if_neg (by omega), if_neg (by omega)]; exact hx92) | (rw [if_pos (by omega), ← hx43]; exact hx51) | (rw [if_neg (by omega), if_pos (by omega), ← hx58, ← hx64]) | (rw [if_neg (by omega), if_neg (by omega), if_pos (by omega), ← hx72, ← hx78, hF78 71 i rfl])
      · exact hI64
      · exact hF64
    · skip
      refine g_tableIn (M := mX11_asksAct) (pc := 6) (tgt := 40) (by omega) dX11_asksAct_6 (5) hc6 (k := ?_)
      refine g_aload_n (M := mX11_asksAct) (pc := 40) dX11_asksAct_40 rfl (k := ?_)
      refine g_bipush (M := mX11_asksAct) (pc := 41) dX11_asksAct_41 (k := ?_)
      refine g_cV1V (M := mX11_asksAct) (pc := 43) (c_X11_body Γ t _ _ hI (by omega) (by omega)) qX11_body vX11_body sX11_body kX11_373 dX11_asksAct_43 (kk := ?_)
      rintro τ43 ⟨hn43, hx43, hI43, hG43⟩
      have hF43 : Fr jcK σ τ43 := by refine Fr.tr ?_ hG43; exact (Fr.rf)
      refine g_aload_n (M := mX11_asksAct) (pc := 46) dX11_asksAct_46 rfl (k := ?_)
      refine g_iload_n (M := mX11_asksAct) (pc := 47) dX11_asksAct_47 rfl (k := ?_)
      refine g_iload_n (M := mX11_asksAct) (pc := 48) dX11_asksAct_48 rfl (k := ?_)
      refine g_iconst (M := mX11_asksAct) (pc := 49) dX11_asksAct_49 (k := ?_)
      refine g_imul (M := mX11_asksAct) (pc := 50) dX11_asksAct_50 (k := ?_)
      refine g_cV2I (M := mX11_asksAct) (pc := 51) (c_X11_houseAsks Γ t _ _ _ hI43 (by omega)) qX11_houseAsks vX11_houseAsks sX11_houseAsks kX11_376 dX11_asksAct_51 (kk := ?_)
      rintro r51 τ51 ⟨hn51, hx51, hI51, hG51⟩
      have hF51 : Fr jcK σ τ51 := by refine Fr.tr ?_ hG51; exact hF43
      refine g_iret (M := mX11_asksAct) (pc := 54) rfl dX11_asksAct_54 rfl ⟨_, _, rfl, rfl, ?_⟩
      refine ⟨?_, ?_, ?_, ?_⟩
      · (try simp only [up_same, up_cell, up_slot, ne_eq, not_false_eq_true, Nat.reduceEqDiff, Int.reduceEq, reduceCtorEq, Nat.reduceAdd, Int.reduceAdd, Int.reduceSub]); omega
      · unfold aA; first | (rw [if_neg (by omega), if_neg (by omega), if_neg (by omega)]; exact hx92) | (rw [if_pos (by omega), ← hx43]; exact hx51) | (rw [if_neg (by omega), if_pos (by omega), ← hx58, ← hx64]) | (rw [if_neg (by omega), if_neg (by omega), if_pos (by omega), ← hx72, ← hx78, hF78 71 i rfl])
      · exact hI51
      · exact hF51
    · skip
      refine g_tableIn (M := mX11_asksAct) (pc := 6) (tgt := 69) (by omega) dX11_asksAct_6 (6) hc6 (k := ?_)
      refine g_aload_n (M := mX11_asksAct) (pc := 69) dX11_asksAct_69 rfl (k := ?_)
      refine g_bipush (M := mX11_asksAct) (pc := 70) dX11_asksAct_70 (k := ?_)
      refine g_cV1V (M := mX11_asksAct) (pc := 72) (c_X11_body Γ t _ _ hI (by omega) (by omega)) qX11_body vX11_body sX11_body kX11_373 dX11_asksAct_72 (kk := ?_)
      rintro τ72 ⟨hn72, hx72, hI72, hG72⟩
      have hF72 : Fr jcK σ τ72 := by refine Fr.tr ?_ hG72; exact (Fr.rf)
      refine g_aload_n (M := mX11_asksAct) (pc := 75) dX11_asksAct_75 rfl (k := ?_)
      refine g_iload_n (M := mX11_asksAct) (pc := 76) dX11_asksAct_76 rfl (k := ?_)
      refine g_iload_n (M := mX11_asksAct) (pc := 77) dX11_asksAct_77 rfl (k := ?_)
      refine g_cV2I (M := mX11_asksAct) (pc := 78) (c_X11_houseAsks Γ t _ _ _ hI72 (by omega)) qX11_houseAsks vX11_houseAsks sX11_houseAsks kX11_376 dX11_asksAct_78 (kk := ?_)
      rintro r78 τ78 ⟨hn78, hx78, hI78, hG78⟩
      have hF78 : Fr jcK σ τ78 := by refine Fr.tr ?_ hG78; exact hF72
      refine g_aload_n (M := mX11_asksAct) (pc := 81) dX11_asksAct_81 rfl (k := ?_)
      refine g_getr (M := mX11_asksAct) (pc := 82) (by rfl) fX11_3 kX11_20 dX11_asksAct_82 (by rfl) (kk := ?_)
      refine g_iload_n (M := mX11_asksAct) (pc := 85) dX11_asksAct_85 rfl (k := ?_)
      refine g_iald (M := mX11_asksAct) (pc := 86) (by rfl) (by omega) (by omega) dX11_asksAct_86 (kk := fun hr86 => ?_)
      have hb86 := jv71_0 hI78 i (by omega) (by omega)
      refine g_ixor (M := mX11_asksAct) (pc := 87) dX11_asksAct_87 (k := ?_)
      have hz87 := zxorR r78 (τ78 71 i)
      refine g_iret (M := mX11_asksAct) (pc := 88) rfl dX11_asksAct_88 rfl ⟨_, _, rfl, rfl, ?_⟩
      refine ⟨?_, ?_, ?_, ?_⟩
      · (try simp only [up_same, up_cell, up_slot, ne_eq, not_false_eq_true, Nat.reduceEqDiff, Int.reduceEq, reduceCtorEq, Nat.reduceAdd, Int.reduceAdd, Int.reduceSub]); omega
      · unfold aA; first | (rw [if_neg (by omega), if_neg (by omega), if_neg (by omega)]; exact hx92) | (rw [if_pos (by omega), ← hx43]; exact hx51) | (rw [if_neg (by omega), if_pos (by omega), ← hx58, ← hx64]) | (rw [if_neg (by omega), if_neg (by omega), if_pos (by omega), ← hx72, ← hx78, hF78 71 i rfl])
      · exact hI78
      · exact hF78
set_option maxHeartbeats 4000000 in
set_option maxRecDepth 20000 in
theorem c_X11_houseOpens (Γ : KT) (t : Nat) (σ : Nat → Int → Int) (i : Int) (x : Int) (hI : InvJ σ) (hi : 0 ≤ i ∧ i < 6) (hr : σ 69 64 ≤ 870) : Ct Γ mX11_houseOpens 4 (0, 0) [vR Γ 69, vI i, vI x] (113, ρT t, σ) (pI 113 (ρT t) (fun r σ' => (σ' 69 64 ≤ σ 69 64 + 3) ∧ ((r, σ' 69 64, σ' 108) = hO (σ 70 i) (σ 71 i) i x (σ 69 64, σ 108)) ∧ (InvJ σ') ∧ (Fr jcK σ σ'))) := by
  refine Ct.of rfl (Nat.le_of_ble_eq_true rfl) ?_
  show G Γ mX11_houseOpens 4 (0, 0) _ (0, 0) 0 [some (vR Γ 69), some (vI i), some (vI x)] [] (113, ρT t, σ)
  refine g_aload_n (M := mX11_houseOpens) (pc := 0) dX11_houseOpens_0 rfl (k := ?_)
  refine g_bipush (M := mX11_houseOpens) (pc := 1) dX11_houseOpens_1 (k := ?_)
  refine g_cV1V (M := mX11_houseOpens) (pc := 3) (c_X11_body Γ t _ _ hI (by omega) (by omega)) qX11_body vX11_body sX11_body kX11_373 dX11_houseOpens_3 (kk := ?_)
  rintro τ3 ⟨hn3, hx3, hI3, hG3⟩
  have hF3 : Fr jcK σ τ3 := by refine Fr.tr ?_ hG3; exact (Fr.rf)
  refine g_aload_n (M := mX11_houseOpens) (pc := 6) dX11_houseOpens_6 rfl (k := ?_)
  refine g_iload_n (M := mX11_houseOpens) (pc := 7) dX11_houseOpens_7 rfl (k := ?_)
  refine g_iload_n (M := mX11_houseOpens) (pc := 8) dX11_houseOpens_8 rfl (k := ?_)
  refine g_cV2I (M := mX11_houseOpens) (pc := 9) (c_X11_asksAct Γ t _ _ _ hI3 (by omega) (by omega)) qX11_asksAct vX11_asksAct sX11_asksAct kX11_379 dX11_houseOpens_9 (kk := ?_)
  rintro r9 τ9 ⟨hn9, hx9, hI9, hG9⟩
  have hF9 : Fr jcK σ τ9 := by refine Fr.tr ?_ hG9; exact hF3
  refine g_aload_n (M := mX11_houseOpens) (pc := 12) dX11_houseOpens_12 rfl (k := ?_)
  refine g_getr (M := mX11_houseOpens) (pc := 13) (by rfl) fX11_3 kX11_20 dX11_houseOpens_13 (by rfl) (kk := ?_)
  refine g_iload_n (M := mX11_houseOpens) (pc := 16) dX11_houseOpens_16 rfl (k := ?_)
  refine g_iald (M := mX11_houseOpens) (pc := 17) (by rfl) (by omega) (by omega) dX11_houseOpens_17 (kk := fun hr17 => ?_)
  have hb17 := jv71_0 hI9 i (by omega) (by omega)
  refine g_isub (M := mX11_houseOpens) (pc := 18) dX11_houseOpens_18 (k := ?_)
  refine g_iret (M := mX11_houseOpens) (pc := 19) rfl dX11_houseOpens_19 rfl ⟨_, _, rfl, rfl, ?_⟩
  refine ⟨?_, ?_, ?_, ?_⟩
  · (try simp only [up_same, up_cell, up_slot, ne_eq, not_false_eq_true, Nat.reduceEqDiff, Int.reduceEq, reduceCtorEq, Nat.reduceAdd, Int.reduceAdd, Int.reduceSub]); omega
  · rw [hF3 70 i rfl, hF3 71 i rfl] at hx9; unfold hO; rw [← hx3, ← hx9, hF9 71 i rfl]
  · exact hI9
  · exact hF9
set_option maxHeartbeats 4000000 in
set_option maxRecDepth 20000 in
theorem c_X11_lonelyOpens (Γ : KT) (t : Nat) (σ : Nat → Int → Int) (i : Int) (x : Int) (hI : InvJ σ) (hi : 0 ≤ i ∧ i < 6) (hr : σ 69 64 ≤ 860) : Ct Γ mX11_lonelyOpens 5 (0, 0) [vR Γ 69, vI i, vI x] (113, ρT t, σ) (pI 113 (ρT t) (fun r σ' => (σ' 69 64 ≤ σ 69 64 + 4) ∧ ((r, σ' 69 64, σ' 108) = lO (σ 70 i) (σ 71 i) i x (σ 69 64, σ 108)) ∧ (InvJ σ') ∧ (Fr jcK σ σ'))) := by
  refine Ct.of rfl (Nat.le_of_ble_eq_true rfl) ?_
  show G Γ mX11_lonelyOpens 5 (0, 0) _ (0, 0) 0 [some (vR Γ 69), some (vI i), some (vI x)] [] (113, ρT t, σ)
  refine g_aload_n (M := mX11_lonelyOpens) (pc := 0) dX11_lonelyOpens_0 rfl (k := ?_)
  refine g_bipush (M := mX11_lonelyOpens) (pc := 1) dX11_lonelyOpens_1 (k := ?_)
  refine g_cV1V (M := mX11_lonelyOpens) (pc := 3) (c_X11_body Γ t _ _ hI (by omega) (by omega)) qX11_body vX11_body sX11_body kX11_373 dX11_lonelyOpens_3 (kk := ?_)
  rintro τ3 ⟨hn3, hx3, hI3, hG3⟩
  have hF3 : Fr jcK σ τ3 := by refine Fr.tr ?_ hG3; exact (Fr.rf)
  refine g_aload_n (M := mX11_lonelyOpens) (pc := 6) dX11_lonelyOpens_6 rfl (k := ?_)
  refine g_iload_n (M := mX11_lonelyOpens) (pc := 7) dX11_lonelyOpens_7 rfl (k := ?_)
  refine g_iload_n (M := mX11_lonelyOpens) (pc := 8) dX11_lonelyOpens_8 rfl (k := ?_)
  refine g_cV2I (M := mX11_lonelyOpens) (pc := 9) (c_X11_houseOpens Γ t _ _ _ hI3 (by omega) (by omega)) qX11_houseOpens vX11_houseOpens sX11_houseOpens kX11_382 dX11_lonelyOpens_9 (kk := ?_)
  rintro r9 τ9 ⟨hn9, hx9, hI9, hG9⟩
  have hF9 : Fr jcK σ τ9 := by refine Fr.tr ?_ hG9; exact hF3
  refine g_bipush (M := mX11_lonelyOpens) (pc := 12) dX11_lonelyOpens_12 (k := ?_)
  refine g_ixor (M := mX11_lonelyOpens) (pc := 14) dX11_lonelyOpens_14 (k := ?_)
  have hz14 := zxorR r9 6
  refine g_iret (M := mX11_lonelyOpens) (pc := 15) rfl dX11_lonelyOpens_15 rfl ⟨_, _, rfl, rfl, ?_⟩
  refine ⟨?_, ?_, ?_, ?_⟩
  · (try simp only [up_same, up_cell, up_slot, ne_eq, not_false_eq_true, Nat.reduceEqDiff, Int.reduceEq, reduceCtorEq, Nat.reduceAdd, Int.reduceAdd, Int.reduceSub]); omega
  · rw [hF3 70 i rfl, hF3 71 i rfl] at hx9; unfold lO; rw [← hx3, ← hx9]
  · exact hI9
  · exact hF9
set_option maxHeartbeats 4000000 in
set_option maxRecDepth 20000 in
theorem c_X11_opensAct (Γ : KT) (t : Nat) (σ : Nat → Int → Int) (i : Int) (x : Int) (hI : InvJ σ) (hi : 0 ≤ i ∧ i < 6) (hr : σ 69 64 ≤ 850) : Ct Γ mX11_opensAct 6 (0, 0) [vR Γ 69, vI i, vI x] (113, ρT t, σ) (pI 113 (ρT t) (fun r σ' => (σ' 69 64 ≤ σ 69 64 + 5) ∧ ((r, σ' 69 64, σ' 108) = oA (σ 70 i) (σ 71 i) i x (σ 69 64, σ 108)) ∧ (InvJ σ') ∧ (Fr jcK σ σ'))) := by
  refine Ct.of rfl (Nat.le_of_ble_eq_true rfl) ?_
  show G Γ mX11_opensAct 6 (0, 0) _ (0, 0) 0 [some (vR Γ 69), some (vI i), some (vI x), none] [] (113, ρT t, σ)
  refine g_aload_n (M := mX11_opensAct) (pc := 0) dX11_opensAct_0 rfl (k := ?_)
  refine g_getr (M := mX11_opensAct) (pc := 1) (by rfl) fX11_2 kX11_16 dX11_opensAct_1 (by rfl) (kk := ?_)
  refine g_iload_n (M := mX11_opensAct) (pc := 4) dX11_opensAct_4 rfl (k := ?_)
  refine g_iald (M := mX11_opensAct) (pc := 5) (by rfl) (by omega) (by omega) dX11_opensAct_5 (kk := fun hr5 => ?_)
  have hb5 := jv70_0 hI i (by omega) (by omega)
  by_cases hc6_0 : (σ 70 i) = 1
  · refine g_lookup (M := mX11_opensAct) (pc := 6) (tgt := 40) (off := 34) (by omega) dX11_opensAct_6 rfl (by rw [hc6_0]; rfl) (k := ?_)
    refine g_aload_n (M := mX11_opensAct) (pc := 40) dX11_opensAct_40 rfl (k := ?_)
    refine g_iload_n (M := mX11_opensAct) (pc := 41) dX11_opensAct_41 rfl (k := ?_)
    refine g_iload_n (M := mX11_opensAct) (pc := 42) dX11_opensAct_42 rfl (k := ?_)
    refine g_cV2I (M := mX11_opensAct) (pc := 43) (c_X11_lonelyOpens Γ t _ _ _ hI (by omega) (by omega)) qX11_lonelyOpens vX11_lonelyOpens sX11_lonelyOpens kX11_385 dX11_opensAct_43 (kk := ?_)
    rintro r43 τ43 ⟨hn43, hx43, hI43, hG43⟩
    have hF43 : Fr jcK σ τ43 := by refine Fr.tr ?_ hG43; exact (Fr.rf)
    refine g_iret (M := mX11_opensAct) (pc := 46) rfl dX11_opensAct_46 rfl ⟨_, _, rfl, rfl, ?_⟩
    refine ⟨?_, ?_, ?_, ?_⟩
    · (try simp only [up_same, up_cell, up_slot, ne_eq, not_false_eq_true, Nat.reduceEqDiff, Int.reduceEq, reduceCtorEq, Nat.reduceAdd, Int.reduceAdd, Int.reduceSub]); omega
    · unfold oA; first | (rw [if_pos (by omega)]; exact hx43) | (rw [hF50 70 i rfl, hF50 71 i rfl] at hx58; rw [if_neg (by omega), if_pos (by omega), ← hx50]; exact hx58) | (rw [hF65 70 i rfl, hF65 71 i rfl] at hx71; rw [if_neg (by omega), if_neg (by omega), if_pos (by omega), ← hx65, ← hx71]; dsimp only; rw [← hx79]) | (rw [if_neg (by omega), if_neg (by omega), if_neg (by omega)]; exact hx87)
    · exact hI43
    · exact hF43
  by_cases hc6_1 : (σ 70 i) = 4
  · refine g_lookup (M := mX11_opensAct) (pc := 6) (tgt := 47) (off := 41) (by omega) dX11_opensAct_6 rfl (by rw [hc6_1]; rfl) (k := ?_)
    refine g_aload_n (M := mX11_opensAct) (pc := 47) dX11_opensAct_47 rfl (k := ?_)
    refine g_bipush (M := mX11_opensAct) (pc := 48) dX11_opensAct_48 (k := ?_)
    refine g_cV1V (M := mX11_opensAct) (pc := 50) (c_X11_body Γ t _ _ hI (by omega) (by omega)) qX11_body vX11_body sX11_body kX11_373 dX11_opensAct_50 (kk := ?_)
    rintro τ50 ⟨hn50, hx50, hI50, hG50⟩
    have hF50 : Fr jcK σ τ50 := by refine Fr.tr ?_ hG50; exact (Fr.rf)
    refine g_aload_n (M := mX11_opensAct) (pc := 53) dX11_opensAct_53 rfl (k := ?_)
    refine g_iload_n (M := mX11_opensAct) (pc := 54) dX11_opensAct_54 rfl (k := ?_)
    refine g_iload_n (M := mX11_opensAct) (pc := 55) dX11_opensAct_55 rfl (k := ?_)
    refine g_iconst (M := mX11_opensAct) (pc := 56) dX11_opensAct_56 (k := ?_)
    refine g_iadd (M := mX11_opensAct) (pc := 57) dX11_opensAct_57 (k := ?_)
    refine g_cV2I (M := mX11_opensAct) (pc := 58) (c_X11_lonelyOpens Γ t _ _ _ hI50 (by omega) (by omega)) qX11_lonelyOpens vX11_lonelyOpens sX11_lonelyOpens kX11_385 dX11_opensAct_58 (kk := ?_)
    rintro r58 τ58 ⟨hn58, hx58, hI58, hG58⟩
    have hF58 : Fr jcK σ τ58 := by refine Fr.tr ?_ hG58; exact hF50
    refine g_iret (M := mX11_opensAct) (pc := 61) rfl dX11_opensAct_61 rfl ⟨_, _, rfl, rfl, ?_⟩
    refine ⟨?_, ?_, ?_, ?_⟩
    · (try simp only [up_same, up_cell, up_slot, ne_eq, not_false_eq_true, Nat.reduceEqDiff, Int.reduceEq, reduceCtorEq, Nat.reduceAdd, Int.reduceAdd, Int.reduceSub]); omega
    · unfold oA; first | (rw [if_pos (by omega)]; exact hx43) | (rw [hF50 70 i rfl, hF50 71 i rfl] at hx58; rw [if_neg (by omega), if_pos (by omega), ← hx50]; exact hx58) | (rw [hF65 70 i rfl, hF65 71 i rfl] at hx71; rw [if_neg (by omega), if_neg (by omega), if_pos (by omega), ← hx65, ← hx71]; dsimp only; rw [← hx79]) | (rw [if_neg (by omega), if_neg (by omega), if_neg (by omega)]; exact hx87)
    · exact hI58
    · exact hF58
  by_cases hc6_2 : (σ 70 i) = 6
  · refine g_lookup (M := mX11_opensAct) (pc := 6) (tgt := 62) (off := 56) (by omega) dX11_opensAct_6 rfl (by rw [hc6_2]; rfl) (k := ?_)
    refine g_aload_n (M := mX11_opensAct) (pc := 62) dX11_opensAct_62 rfl (k := ?_)
    refine g_bipush (M := mX11_opensAct) (pc := 63) dX11_opensAct_63 (k := ?_)
    refine g_cV1V (M := mX11_opensAct) (pc := 65) (c_X11_body Γ t _ _ hI (by omega) (by omega)) qX11_body vX11_body sX11_body kX11_373 dX11_opensAct_65 (kk := ?_)
    rintro τ65 ⟨hn65, hx65, hI65, hG65⟩
    have hF65 : Fr jcK σ τ65 := by refine Fr.tr ?_ hG65; exact (Fr.rf)
    refine g_aload_n (M := mX11_opensAct) (pc := 68) dX11_opensAct_68 rfl (k := ?_)
    refine g_iload_n (M := mX11_opensAct) (pc := 69) dX11_opensAct_69 rfl (k := ?_)
    refine g_iload_n (M := mX11_opensAct) (pc := 70) dX11_opensAct_70 rfl (k := ?_)
    refine g_cV2I (M := mX11_opensAct) (pc := 71) (c_X11_houseOpens Γ t _ _ _ hI65 (by omega) (by omega)) qX11_houseOpens vX11_houseOpens sX11_houseOpens kX11_382 dX11_opensAct_71 (kk := ?_)
    rintro r71 τ71 ⟨hn71, hx71, hI71, hG71⟩
    have hF71 : Fr jcK σ τ71 := by refine Fr.tr ?_ hG71; exact hF65
    refine g_istore_3 (M := mX11_opensAct) (pc := 74) dX11_opensAct_74 (k := ?_)
    refine g_iload_n (M := mX11_opensAct) (pc := 75) dX11_opensAct_75 rfl (k := ?_)
    refine g_aload_n (M := mX11_opensAct) (pc := 76) dX11_opensAct_76 rfl (k := ?_)
    refine g_iload_n (M := mX11_opensAct) (pc := 77) dX11_opensAct_77 rfl (k := ?_)
    refine g_iconst (M := mX11_opensAct) (pc := 78) dX11_opensAct_78 (k := ?_)
    refine g_cV2I (M := mX11_opensAct) (pc := 79) (c_X11_houseAsks Γ t _ _ _ hI71 (by omega)) qX11_houseAsks vX11_houseAsks sX11_houseAsks kX11_376 dX11_opensAct_79 (kk := ?_)
    rintro r79 τ79 ⟨hn79, hx79, hI79, hG79⟩
    have hF79 : Fr jcK σ τ79 := by refine Fr.tr ?_ hG79; exact hF71
    refine g_iadd (M := mX11_opensAct) (pc := 82) dX11_opensAct_82 (k := ?_)
    refine g_iret (M := mX11_opensAct) (pc := 83) rfl dX11_opensAct_83 rfl ⟨_, _, rfl, rfl, ?_⟩
    refine ⟨?_, ?_, ?_, ?_⟩
    · (try simp only [up_same, up_cell, up_slot, ne_eq, not_false_eq_true, Nat.reduceEqDiff, Int.reduceEq, reduceCtorEq, Nat.reduceAdd, Int.reduceAdd, Int.reduceSub]); omega
    · unfold oA; first | (rw [if_pos (by omega)]; exact hx43) | (rw [hF50 70 i rfl, hF50 71 i rfl] at hx58; rw [if_neg (by omega), if_pos (by omega), ← hx50]; exact hx58) | (rw [hF65 70 i rfl, hF65 71 i rfl] at hx71; rw [if_neg (by omega), if_neg (by omega), if_pos (by omega), ← hx65, ← hx71]; dsimp only; rw [← hx79]) | (rw [if_neg (by omega), if_neg (by omega), if_neg (by omega)]; exact hx87)
    · exact hI79
    · exact hF79
  refine g_lookup (M := mX11_opensAct) (pc := 6) (tgt := 84) (off := 78) (by omega) dX11_opensAct_6 rfl (by simp [Op.lookupswitch.offset, Ne.symm hc6_0, hc6_0, Ne.symm hc6_1, hc6_1, Ne.symm hc6_2, hc6_2]) (k := ?_)
  refine g_aload_n (M := mX11_opensAct) (pc := 84) dX11_opensAct_84 rfl (k := ?_)
  refine g_iload_n (M := mX11_opensAct) (pc := 85) dX11_opensAct_85 rfl (k := ?_)
  refine g_iload_n (M := mX11_opensAct) (pc := 86) dX11_opensAct_86 rfl (k := ?_)
  refine g_cV2I (M := mX11_opensAct) (pc := 87) (c_X11_houseOpens Γ t _ _ _ hI (by omega) (by omega)) qX11_houseOpens vX11_houseOpens sX11_houseOpens kX11_382 dX11_opensAct_87 (kk := ?_)
  rintro r87 τ87 ⟨hn87, hx87, hI87, hG87⟩
  have hF87 : Fr jcK σ τ87 := by refine Fr.tr ?_ hG87; exact (Fr.rf)
  refine g_iret (M := mX11_opensAct) (pc := 90) rfl dX11_opensAct_90 rfl ⟨_, _, rfl, rfl, ?_⟩
  refine ⟨?_, ?_, ?_, ?_⟩
  · (try simp only [up_same, up_cell, up_slot, ne_eq, not_false_eq_true, Nat.reduceEqDiff, Int.reduceEq, reduceCtorEq, Nat.reduceAdd, Int.reduceAdd, Int.reduceSub]); omega
  · unfold oA; first | (rw [if_pos (by omega)]; exact hx43) | (rw [hF50 70 i rfl, hF50 71 i rfl] at hx58; rw [if_neg (by omega), if_pos (by omega), ← hx50]; exact hx58) | (rw [hF65 70 i rfl, hF65 71 i rfl] at hx71; rw [if_neg (by omega), if_neg (by omega), if_pos (by omega), ← hx65, ← hx71]; dsimp only; rw [← hx79]) | (rw [if_neg (by omega), if_neg (by omega), if_neg (by omega)]; exact hx87)
  · exact hI87
  · exact hF87
set_option maxHeartbeats 4000000 in
set_option maxRecDepth 20000 in
theorem c_X11_houseTells (Γ : KT) (t : Nat) (σ : Nat → Int → Int) (i : Int) (x : Int) (hI : InvJ σ) (hi : 0 ≤ i ∧ i < 6) (hr : σ 69 64 ≤ 840) : Ct Γ mX11_houseTells 7 (0, 0) [vR Γ 69, vI i, vI x] (113, ρT t, σ) (pI 113 (ρT t) (fun r σ' => (σ' 69 64 ≤ σ 69 64 + 6) ∧ ((r, σ' 69 64, σ' 108) = hT (σ 70 i) (σ 71 i) i x (σ 69 64, σ 108)) ∧ (InvJ σ') ∧ (Fr jcK σ σ'))) := by
  refine Ct.of rfl (Nat.le_of_ble_eq_true rfl) ?_
  show G Γ mX11_houseTells 7 (0, 0) _ (0, 0) 0 [some (vR Γ 69), some (vI i), some (vI x)] [] (113, ρT t, σ)
  refine g_aload_n (M := mX11_houseTells) (pc := 0) dX11_houseTells_0 rfl (k := ?_)
  refine g_bipush (M := mX11_houseTells) (pc := 1) dX11_houseTells_1 (k := ?_)
  refine g_cV1V (M := mX11_houseTells) (pc := 3) (c_X11_body Γ t _ _ hI (by omega) (by omega)) qX11_body vX11_body sX11_body kX11_373 dX11_houseTells_3 (kk := ?_)
  rintro τ3 ⟨hn3, hx3, hI3, hG3⟩
  have hF3 : Fr jcK σ τ3 := by refine Fr.tr ?_ hG3; exact (Fr.rf)
  refine g_aload_n (M := mX11_houseTells) (pc := 6) dX11_houseTells_6 rfl (k := ?_)
  refine g_iload_n (M := mX11_houseTells) (pc := 7) dX11_houseTells_7 rfl (k := ?_)
  refine g_iload_n (M := mX11_houseTells) (pc := 8) dX11_houseTells_8 rfl (k := ?_)
  refine g_cV2I (M := mX11_houseTells) (pc := 9) (c_X11_opensAct Γ t _ _ _ hI3 (by omega) (by omega)) qX11_opensAct vX11_opensAct sX11_opensAct kX11_388 dX11_houseTells_9 (kk := ?_)
  rintro r9 τ9 ⟨hn9, hx9, hI9, hG9⟩
  have hF9 : Fr jcK σ τ9 := by refine Fr.tr ?_ hG9; exact hF3
  refine g_iconst (M := mX11_houseTells) (pc := 12) dX11_houseTells_12 (k := ?_)
  refine g_imul (M := mX11_houseTells) (pc := 13) dX11_houseTells_13 (k := ?_)
  refine g_iret (M := mX11_houseTells) (pc := 14) rfl dX11_houseTells_14 rfl ⟨_, _, rfl, rfl, ?_⟩
  refine ⟨?_, ?_, ?_, ?_⟩
  · (try simp only [up_same, up_cell, up_slot, ne_eq, not_false_eq_true, Nat.reduceEqDiff, Int.reduceEq, reduceCtorEq, Nat.reduceAdd, Int.reduceAdd, Int.reduceSub]); omega
  · rw [hF3 70 i rfl, hF3 71 i rfl] at hx9; unfold hT; rw [← hx3, ← hx9]
  · exact hI9
  · exact hF9
set_option maxHeartbeats 4000000 in
set_option maxRecDepth 20000 in
theorem c_X11_tellsAct (Γ : KT) (t : Nat) (σ : Nat → Int → Int) (i : Int) (x : Int) (hI : InvJ σ) (hi : 0 ≤ i ∧ i < 6) (hr : σ 69 64 ≤ 830) : Ct Γ mX11_tellsAct 8 (0, 0) [vR Γ 69, vI i, vI x] (113, ρT t, σ) (pI 113 (ρT t) (fun r σ' => (σ' 69 64 ≤ σ 69 64 + 12) ∧ ((r, σ' 69 64, σ' 108) = tA (σ 70 i) (σ 71 i) i x (σ 69 64, σ 108)) ∧ (InvJ σ') ∧ (Fr jcK σ σ'))) := by
  refine Ct.of rfl (Nat.le_of_ble_eq_true rfl) ?_
  show G Γ mX11_tellsAct 8 (0, 0) _ (0, 0) 0 [some (vR Γ 69), some (vI i), some (vI x), none] [] (113, ρT t, σ)
  refine g_aload_n (M := mX11_tellsAct) (pc := 0) dX11_tellsAct_0 rfl (k := ?_)
  refine g_getr (M := mX11_tellsAct) (pc := 1) (by rfl) fX11_2 kX11_16 dX11_tellsAct_1 (by rfl) (kk := ?_)
  refine g_iload_n (M := mX11_tellsAct) (pc := 4) dX11_tellsAct_4 rfl (k := ?_)
  refine g_iald (M := mX11_tellsAct) (pc := 5) (by rfl) (by omega) (by omega) dX11_tellsAct_5 (kk := fun hr5 => ?_)
  have hb5 := jv70_0 hI i (by omega) (by omega)
  by_cases hsw6 : (σ 70 i) < 3 ∨ 6 < (σ 70 i)
  · skip
    refine g_tableOut (M := mX11_tellsAct) (pc := 6) (tgt := 73) (by omega) dX11_tellsAct_6 (h := hsw6) (k := ?_)
    refine g_aload_n (M := mX11_tellsAct) (pc := 73) dX11_tellsAct_73 rfl (k := ?_)
    refine g_iload_n (M := mX11_tellsAct) (pc := 74) dX11_tellsAct_74 rfl (k := ?_)
    refine g_iload_n (M := mX11_tellsAct) (pc := 75) dX11_tellsAct_75 rfl (k := ?_)
    refine g_cV2I (M := mX11_tellsAct) (pc := 76) (c_X11_houseTells Γ t _ _ _ hI (by omega) (by omega)) qX11_houseTells vX11_houseTells sX11_houseTells kX11_391 dX11_tellsAct_76 (kk := ?_)
    rintro r76 τ76 ⟨hn76, hx76, hI76, hG76⟩
    have hF76 : Fr jcK σ τ76 := by refine Fr.tr ?_ hG76; exact (Fr.rf)
    refine g_iret (M := mX11_tellsAct) (pc := 79) rfl dX11_tellsAct_79 rfl ⟨_, _, rfl, rfl, ?_⟩
    refine ⟨?_, ?_, ?_, ?_⟩
    · (try simp only [up_same, up_cell, up_slot, ne_eq, not_false_eq_true, Nat.reduceEqDiff, Int.reduceEq, reduceCtorEq, Nat.reduceAdd, Int.reduceAdd, Int.reduceSub]); omega
    · unfold tA; first | (rw [if_neg (by omega), if_neg (by omega)]; exact hx76) | (rw [hF39 70 i rfl, hF39 71 i rfl] at hx45; rw [hF45 70 i rfl, hF45 71 i rfl] at hx53; rw [if_pos (by omega), ← hx39, ← hx45]; dsimp only; rw [← hx53]) | (rw [hF61 70 i rfl, hF61 71 i rfl] at hx69; rw [if_neg (by omega), if_pos (by omega), ← hx61]; exact hx69)
    · exact hI76
    · exact hF76
  · obtain hc6 | hc6 | hc6 | hc6 : (σ 70 i) = 3 ∨ (σ 70 i) = 4 ∨ (σ 70 i) = 5 ∨ (σ 70 i) = 6 := by omega
    · skip
      refine g_tableIn (M := mX11_tellsAct) (pc := 6) (tgt := 36) (by omega) dX11_tellsAct_6 (3) hc6 (k := ?_)
      refine g_aload_n (M := mX11_tellsAct) (pc := 36) dX11_tellsAct_36 rfl (k := ?_)
      refine g_bipush (M := mX11_tellsAct) (pc := 37) dX11_tellsAct_37 (k := ?_)
      refine g_cV1V (M := mX11_tellsAct) (pc := 39) (c_X11_body Γ t _ _ hI (by omega) (by omega)) qX11_body vX11_body sX11_body kX11_373 dX11_tellsAct_39 (kk := ?_)
      rintro τ39 ⟨hn39, hx39, hI39, hG39⟩
      have hF39 : Fr jcK σ τ39 := by refine Fr.tr ?_ hG39; exact (Fr.rf)
      refine g_aload_n (M := mX11_tellsAct) (pc := 42) dX11_tellsAct_42 rfl (k := ?_)
      refine g_iload_n (M := mX11_tellsAct) (pc := 43) dX11_tellsAct_43 rfl (k := ?_)
      refine g_iload_n (M := mX11_tellsAct) (pc := 44) dX11_tellsAct_44 rfl (k := ?_)
      refine g_cV2I (M := mX11_tellsAct) (pc := 45) (c_X11_houseTells Γ t _ _ _ hI39 (by omega) (by omega)) qX11_houseTells vX11_houseTells sX11_houseTells kX11_391 dX11_tellsAct_45 (kk := ?_)
      rintro r45 τ45 ⟨hn45, hx45, hI45, hG45⟩
      have hF45 : Fr jcK σ τ45 := by refine Fr.tr ?_ hG45; exact hF39
      refine g_istore_3 (M := mX11_tellsAct) (pc := 48) dX11_tellsAct_48 (k := ?_)
      refine g_iload_n (M := mX11_tellsAct) (pc := 49) dX11_tellsAct_49 rfl (k := ?_)
      refine g_aload_n (M := mX11_tellsAct) (pc := 50) dX11_tellsAct_50 rfl (k := ?_)
      refine g_iload_n (M := mX11_tellsAct) (pc := 51) dX11_tellsAct_51 rfl (k := ?_)
      refine g_iconst (M := mX11_tellsAct) (pc := 52) dX11_tellsAct_52 (k := ?_)
      refine g_cV2I (M := mX11_tellsAct) (pc := 53) (c_X11_opensAct Γ t _ _ _ hI45 (by omega) (by omega)) qX11_opensAct vX11_opensAct sX11_opensAct kX11_388 dX11_tellsAct_53 (kk := ?_)
      rintro r53 τ53 ⟨hn53, hx53, hI53, hG53⟩
      have hF53 : Fr jcK σ τ53 := by refine Fr.tr ?_ hG53; exact hF45
      refine g_iadd (M := mX11_tellsAct) (pc := 56) dX11_tellsAct_56 (k := ?_)
      refine g_iret (M := mX11_tellsAct) (pc := 57) rfl dX11_tellsAct_57 rfl ⟨_, _, rfl, rfl, ?_⟩
      refine ⟨?_, ?_, ?_, ?_⟩
      · (try simp only [up_same, up_cell, up_slot, ne_eq, not_false_eq_true, Nat.reduceEqDiff, Int.reduceEq, reduceCtorEq, Nat.reduceAdd, Int.reduceAdd, Int.reduceSub]); omega
      · unfold tA; first | (rw [if_neg (by omega), if_neg (by omega)]; exact hx76) | (rw [hF39 70 i rfl, hF39 71 i rfl] at hx45; rw [hF45 70 i rfl, hF45 71 i rfl] at hx53; rw [if_pos (by omega), ← hx39, ← hx45]; dsimp only; rw [← hx53]) | (rw [hF61 70 i rfl, hF61 71 i rfl] at hx69; rw [if_neg (by omega), if_pos (by omega), ← hx61]; exact hx69)
      · exact hI53
      · exact hF53
    · skip
      refine g_tableIn (M := mX11_tellsAct) (pc := 6) (tgt := 73) (by omega) dX11_tellsAct_6 (4) hc6 (k := ?_)
      refine g_aload_n (M := mX11_tellsAct) (pc := 73) dX11_tellsAct_73 rfl (k := ?_)
      refine g_iload_n (M := mX11_tellsAct) (pc := 74) dX11_tellsAct_74 rfl (k := ?_)
      refine g_iload_n (M := mX11_tellsAct) (pc := 75) dX11_tellsAct_75 rfl (k := ?_)
      refine g_cV2I (M := mX11_tellsAct) (pc := 76) (c_X11_houseTells Γ t _ _ _ hI (by omega) (by omega)) qX11_houseTells vX11_houseTells sX11_houseTells kX11_391 dX11_tellsAct_76 (kk := ?_)
      rintro r76 τ76 ⟨hn76, hx76, hI76, hG76⟩
      have hF76 : Fr jcK σ τ76 := by refine Fr.tr ?_ hG76; exact (Fr.rf)
      refine g_iret (M := mX11_tellsAct) (pc := 79) rfl dX11_tellsAct_79 rfl ⟨_, _, rfl, rfl, ?_⟩
      refine ⟨?_, ?_, ?_, ?_⟩
      · (try simp only [up_same, up_cell, up_slot, ne_eq, not_false_eq_true, Nat.reduceEqDiff, Int.reduceEq, reduceCtorEq, Nat.reduceAdd, Int.reduceAdd, Int.reduceSub]); omega
      · unfold tA; first | (rw [if_neg (by omega), if_neg (by omega)]; exact hx76) | (rw [hF39 70 i rfl, hF39 71 i rfl] at hx45; rw [hF45 70 i rfl, hF45 71 i rfl] at hx53; rw [if_pos (by omega), ← hx39, ← hx45]; dsimp only; rw [← hx53]) | (rw [hF61 70 i rfl, hF61 71 i rfl] at hx69; rw [if_neg (by omega), if_pos (by omega), ← hx61]; exact hx69)
      · exact hI76
      · exact hF76
    · skip
      refine g_tableIn (M := mX11_tellsAct) (pc := 6) (tgt := 58) (by omega) dX11_tellsAct_6 (5) hc6 (k := ?_)
      refine g_aload_n (M := mX11_tellsAct) (pc := 58) dX11_tellsAct_58 rfl (k := ?_)
      refine g_bipush (M := mX11_tellsAct) (pc := 59) dX11_tellsAct_59 (k := ?_)
      refine g_cV1V (M := mX11_tellsAct) (pc := 61) (c_X11_body Γ t _ _ hI (by omega) (by omega)) qX11_body vX11_body sX11_body kX11_373 dX11_tellsAct_61 (kk := ?_)
      rintro τ61 ⟨hn61, hx61, hI61, hG61⟩
      have hF61 : Fr jcK σ τ61 := by refine Fr.tr ?_ hG61; exact (Fr.rf)
      refine g_aload_n (M := mX11_tellsAct) (pc := 64) dX11_tellsAct_64 rfl (k := ?_)
      refine g_iload_n (M := mX11_tellsAct) (pc := 65) dX11_tellsAct_65 rfl (k := ?_)
      refine g_iload_n (M := mX11_tellsAct) (pc := 66) dX11_tellsAct_66 rfl (k := ?_)
      refine g_iload_n (M := mX11_tellsAct) (pc := 67) dX11_tellsAct_67 rfl (k := ?_)
      refine g_isub (M := mX11_tellsAct) (pc := 68) dX11_tellsAct_68 (k := ?_)
      refine g_cV2I (M := mX11_tellsAct) (pc := 69) (c_X11_houseTells Γ t _ _ _ hI61 (by omega) (by omega)) qX11_houseTells vX11_houseTells sX11_houseTells kX11_391 dX11_tellsAct_69 (kk := ?_)
      rintro r69 τ69 ⟨hn69, hx69, hI69, hG69⟩
      have hF69 : Fr jcK σ τ69 := by refine Fr.tr ?_ hG69; exact hF61
      refine g_iret (M := mX11_tellsAct) (pc := 72) rfl dX11_tellsAct_72 rfl ⟨_, _, rfl, rfl, ?_⟩
      refine ⟨?_, ?_, ?_, ?_⟩
      · (try simp only [up_same, up_cell, up_slot, ne_eq, not_false_eq_true, Nat.reduceEqDiff, Int.reduceEq, reduceCtorEq, Nat.reduceAdd, Int.reduceAdd, Int.reduceSub]); omega
      · unfold tA; first | (rw [if_neg (by omega), if_neg (by omega)]; exact hx76) | (rw [hF39 70 i rfl, hF39 71 i rfl] at hx45; rw [hF45 70 i rfl, hF45 71 i rfl] at hx53; rw [if_pos (by omega), ← hx39, ← hx45]; dsimp only; rw [← hx53]) | (rw [hF61 70 i rfl, hF61 71 i rfl] at hx69; rw [if_neg (by omega), if_pos (by omega), ← hx61]; exact hx69)
      · exact hI69
      · exact hF69
    · skip
      refine g_tableIn (M := mX11_tellsAct) (pc := 6) (tgt := 36) (by omega) dX11_tellsAct_6 (6) hc6 (k := ?_)
      refine g_aload_n (M := mX11_tellsAct) (pc := 36) dX11_tellsAct_36 rfl (k := ?_)
      refine g_bipush (M := mX11_tellsAct) (pc := 37) dX11_tellsAct_37 (k := ?_)
      refine g_cV1V (M := mX11_tellsAct) (pc := 39) (c_X11_body Γ t _ _ hI (by omega) (by omega)) qX11_body vX11_body sX11_body kX11_373 dX11_tellsAct_39 (kk := ?_)
      rintro τ39 ⟨hn39, hx39, hI39, hG39⟩
      have hF39 : Fr jcK σ τ39 := by refine Fr.tr ?_ hG39; exact (Fr.rf)
      refine g_aload_n (M := mX11_tellsAct) (pc := 42) dX11_tellsAct_42 rfl (k := ?_)
      refine g_iload_n (M := mX11_tellsAct) (pc := 43) dX11_tellsAct_43 rfl (k := ?_)
      refine g_iload_n (M := mX11_tellsAct) (pc := 44) dX11_tellsAct_44 rfl (k := ?_)
      refine g_cV2I (M := mX11_tellsAct) (pc := 45) (c_X11_houseTells Γ t _ _ _ hI39 (by omega) (by omega)) qX11_houseTells vX11_houseTells sX11_houseTells kX11_391 dX11_tellsAct_45 (kk := ?_)
      rintro r45 τ45 ⟨hn45, hx45, hI45, hG45⟩
      have hF45 : Fr jcK σ τ45 := by refine Fr.tr ?_ hG45; exact hF39
      refine g_istore_3 (M := mX11_tellsAct) (pc := 48) dX11_tellsAct_48 (k := ?_)
      refine g_iload_n (M := mX11_tellsAct) (pc := 49) dX11_tellsAct_49 rfl (k := ?_)
      refine g_aload_n (M := mX11_tellsAct) (pc := 50) dX11_tellsAct_50 rfl (k := ?_)
      refine g_iload_n (M := mX11_tellsAct) (pc := 51) dX11_tellsAct_51 rfl (k := ?_)
      refine g_iconst (M := mX11_tellsAct) (pc := 52) dX11_tellsAct_52 (k := ?_)
      refine g_cV2I (M := mX11_tellsAct) (pc := 53) (c_X11_opensAct Γ t _ _ _ hI45 (by omega) (by omega)) qX11_opensAct vX11_opensAct sX11_opensAct kX11_388 dX11_tellsAct_53 (kk := ?_)
      rintro r53 τ53 ⟨hn53, hx53, hI53, hG53⟩
      have hF53 : Fr jcK σ τ53 := by refine Fr.tr ?_ hG53; exact hF45
      refine g_iadd (M := mX11_tellsAct) (pc := 56) dX11_tellsAct_56 (k := ?_)
      refine g_iret (M := mX11_tellsAct) (pc := 57) rfl dX11_tellsAct_57 rfl ⟨_, _, rfl, rfl, ?_⟩
      refine ⟨?_, ?_, ?_, ?_⟩
      · (try simp only [up_same, up_cell, up_slot, ne_eq, not_false_eq_true, Nat.reduceEqDiff, Int.reduceEq, reduceCtorEq, Nat.reduceAdd, Int.reduceAdd, Int.reduceSub]); omega
      · unfold tA; first | (rw [if_neg (by omega), if_neg (by omega)]; exact hx76) | (rw [hF39 70 i rfl, hF39 71 i rfl] at hx45; rw [hF45 70 i rfl, hF45 71 i rfl] at hx53; rw [if_pos (by omega), ← hx39, ← hx45]; dsimp only; rw [← hx53]) | (rw [hF61 70 i rfl, hF61 71 i rfl] at hx69; rw [if_neg (by omega), if_pos (by omega), ← hx61]; exact hx69)
      · exact hI53
      · exact hF53
set_option maxHeartbeats 4000000 in
set_option maxRecDepth 20000 in
theorem c_X11_act (Γ : KT) (t : Nat) (σ : Nat → Int → Int) (h : Int) (a : Int) (x : Int) (hI : InvJ σ) (hh : R32 h) (ha : R32 a) (hx : R32 x) : Ct Γ mX11_act 9 (0, 0) [vR Γ 69, vI h, vI a, vI x] (113, ρT t, σ) (pI 113 (ρT t) (fun r σ' => (R32 r) ∧ (actJ σ h a x r σ') ∧ (InvJ σ') ∧ (Fr jcK σ σ'))) := by
  refine Ct.of rfl (Nat.le_of_ble_eq_true rfl) ?_
  show G Γ mX11_act 9 (0, 0) _ (0, 0) 0 [some (vR Γ 69), some (vI h), some (vI a), some (vI x)] [] (113, ρT t, σ)
  refine g_aload_n (M := mX11_act) (pc := 0) dX11_act_0 rfl (k := ?_)
  refine g_iconst (M := mX11_act) (pc := 1) dX11_act_1 (k := ?_)
  refine g_put (M := mX11_act) (pc := 2) (ji := 64) (by rfl) fX11_64 kX11_205 dX11_act_2 (by omega) (kk := ?_)
  refine g_aload_n (M := mX11_act) (pc := 5) dX11_act_5 rfl (k := ?_)
  refine g_iload_n (M := mX11_act) (pc := 6) dX11_act_6 rfl (k := ?_)
  refine g_cV1I (M := mX11_act) (pc := 7) (c_X11_isHouse Γ t _ _ (by refine jvu69_64 ?_ (by omega) (by omega); exact hI) (by first | omega | (simp only [up_same, up_cell, up_slot, ne_eq, not_false_eq_true, Nat.reduceEqDiff, Int.reduceEq, reduceCtorEq, Nat.reduceAdd, Int.reduceAdd, Int.reduceSub]; done) | (simp only [up_same, up_cell, up_slot, ne_eq, not_false_eq_true, Nat.reduceEqDiff, Int.reduceEq, reduceCtorEq, Nat.reduceAdd, Int.reduceAdd, Int.reduceSub]; omega))) qX11_isHouse vX11_isHouse sX11_isHouse kX11_232 dX11_act_7 (kk := ?_)
  rintro _ _ ⟨e1, e⟩; rw [e1, e]; clear e1 e
  try simp only [up_same, up_cell, up_slot, ne_eq, not_false_eq_true, Nat.reduceEqDiff, Int.reduceEq, reduceCtorEq, Nat.reduceAdd, Int.reduceAdd, Int.reduceSub]
  have hb7_69 := jv69_0 hI 0 (by omega) (by omega)
  refine g_if_eqB (M := mX11_act) (pc := 10) (tgt := 23) dX11_act_10 (k1 := fun h10 => ?_) (k2 := fun h10 => ?_)
  · skip
    refine g_iconst (M := mX11_act) (pc := 23) dX11_act_23 (k := ?_)
    refine g_iret (M := mX11_act) (pc := 24) rfl dX11_act_24 rfl ⟨_, _, rfl, rfl, ?_⟩
    refine ⟨?_, ?_, ?_, ?_⟩
    · omega
    · unfold actJ; first | exact Or.inl ⟨by omega, rfl, rfl, rfl⟩ | exact Or.inr ⟨by omega, by unfold aJ; rw [if_pos (by omega)]; exact congrArg (fun p => w32 p.1) hx32, by unfold aJ; rw [if_pos (by omega)]; exact congrArg (fun p => p.2) hx32⟩ | exact Or.inr ⟨by omega, by unfold aJ; rw [if_neg (by omega), if_pos (by omega)]; exact congrArg (fun p => w32 p.1) hx46, by unfold aJ; rw [if_neg (by omega), if_pos (by omega)]; exact congrArg (fun p => p.2) hx46⟩ | exact Or.inr ⟨by omega, by unfold aJ; rw [if_neg (by omega), if_neg (by omega)]; exact congrArg (fun p => w32 p.1) hx55, by unfold aJ; rw [if_neg (by omega), if_neg (by omega)]; exact congrArg (fun p => p.2) hx55⟩
    · refine jvu69_64 ?_ (by omega) (by omega); exact hI
    · refine Fr.up ?_ (by first | rfl | (unfold jcK; simp; try omega)); exact (Fr.rf)
  · skip
    refine g_aload_n (M := mX11_act) (pc := 13) dX11_act_13 rfl (k := ?_)
    refine g_iload_n (M := mX11_act) (pc := 14) dX11_act_14 rfl (k := ?_)
    refine g_iconst (M := mX11_act) (pc := 15) dX11_act_15 (k := ?_)
    refine g_iconst (M := mX11_act) (pc := 16) dX11_act_16 (k := ?_)
    refine g_cV3I (M := mX11_act) (pc := 17) (c_X11_in Γ t _ _ _ _ (by first | omega | (simp only [up_same, up_cell, up_slot, ne_eq, not_false_eq_true, Nat.reduceEqDiff, Int.reduceEq, reduceCtorEq, Nat.reduceAdd, Int.reduceAdd, Int.reduceSub]; done) | (simp only [up_same, up_cell, up_slot, ne_eq, not_false_eq_true, Nat.reduceEqDiff, Int.reduceEq, reduceCtorEq, Nat.reduceAdd, Int.reduceAdd, Int.reduceSub]; omega)) (by first | omega | (simp only [up_same, up_cell, up_slot, ne_eq, not_false_eq_true, Nat.reduceEqDiff, Int.reduceEq, reduceCtorEq, Nat.reduceAdd, Int.reduceAdd, Int.reduceSub]; done) | (simp only [up_same, up_cell, up_slot, ne_eq, not_false_eq_true, Nat.reduceEqDiff, Int.reduceEq, reduceCtorEq, Nat.reduceAdd, Int.reduceAdd, Int.reduceSub]; omega)) (by first | omega | (simp only [up_same, up_cell, up_slot, ne_eq, not_false_eq_true, Nat.reduceEqDiff, Int.reduceEq, reduceCtorEq, Nat.reduceAdd, Int.reduceAdd, Int.reduceSub]; done) | (simp only [up_same, up_cell, up_slot, ne_eq, not_false_eq_true, Nat.reduceEqDiff, Int.reduceEq, reduceCtorEq, Nat.reduceAdd, Int.reduceAdd, Int.reduceSub]; omega))) qX11_in vX11_in sX11_in kX11_224 dX11_act_17 (kk := ?_)
    rintro _ _ ⟨e1, e⟩; rw [e1, e]; clear e1 e
    refine g_if_neB (M := mX11_act) (pc := 20) (tgt := 25) dX11_act_20 (k1 := fun h20 => ?_) (k2 := fun h20 => ?_)
    · skip
      refine g_iload_n (M := mX11_act) (pc := 25) dX11_act_25 rfl (k := ?_)
      refine g_if_ne (M := mX11_act) (pc := 26) (tgt := 38) (by omega) dX11_act_26 (k1 := fun h26 => ?_) (k2 := fun h26 => ?_)
      · skip
        refine g_iload_n (M := mX11_act) (pc := 38) dX11_act_38 rfl (k := ?_)
        refine g_iconst (M := mX11_act) (pc := 39) dX11_act_39 (k := ?_)
        refine g_icmp_ne (M := mX11_act) (pc := 40) (tgt := 52) (by omega) (by omega) dX11_act_40 (k1 := fun h40 => ?_) (k2 := fun h40 => ?_)
        · skip
          refine g_aload_n (M := mX11_act) (pc := 52) dX11_act_52 rfl (k := ?_)
          refine g_iload_n (M := mX11_act) (pc := 53) dX11_act_53 rfl (k := ?_)
          refine g_iload_n (M := mX11_act) (pc := 54) dX11_act_54 rfl (k := ?_)
          refine g_cV2I (M := mX11_act) (pc := 55) (c_X11_tellsAct Γ t _ _ _ (by refine jvu69_64 ?_ (by omega) (by omega); exact hI) (by first | omega | (simp only [up_same, up_cell, up_slot, ne_eq, not_false_eq_true, Nat.reduceEqDiff, Int.reduceEq, reduceCtorEq, Nat.reduceAdd, Int.reduceAdd, Int.reduceSub]; done) | (simp only [up_same, up_cell, up_slot, ne_eq, not_false_eq_true, Nat.reduceEqDiff, Int.reduceEq, reduceCtorEq, Nat.reduceAdd, Int.reduceAdd, Int.reduceSub]; omega)) (by first | omega | (simp only [up_same, up_cell, up_slot, ne_eq, not_false_eq_true, Nat.reduceEqDiff, Int.reduceEq, reduceCtorEq, Nat.reduceAdd, Int.reduceAdd, Int.reduceSub]; done) | (simp only [up_same, up_cell, up_slot, ne_eq, not_false_eq_true, Nat.reduceEqDiff, Int.reduceEq, reduceCtorEq, Nat.reduceAdd, Int.reduceAdd, Int.reduceSub]; omega))) qX11_tellsAct vX11_tellsAct sX11_tellsAct kX11_394 dX11_act_55 (kk := ?_)
          rintro r55 τ55 ⟨hn55, hx55, hI55, hG55⟩
          try simp only [up_same, up_cell, up_slot, ne_eq, not_false_eq_true, Nat.reduceEqDiff, Int.reduceEq, reduceCtorEq, Nat.reduceAdd, Int.reduceAdd, Int.reduceSub] at hn55 hx55
          have hF55 : Fr jcK σ τ55 := by refine Fr.tr ?_ hG55; refine Fr.up ?_ (by first | rfl | (unfold jcK; simp; try omega)); exact (Fr.rf)
          refine g_wrapE (k := ?_)
          have hz55 := w32R (r55)
          refine g_iret (M := mX11_act) (pc := 58) rfl dX11_act_58 rfl ⟨_, _, rfl, rfl, ?_⟩
          refine ⟨?_, ?_, ?_, ?_⟩
          · omega
          · unfold actJ; first | exact Or.inl ⟨by omega, rfl, rfl, rfl⟩ | exact Or.inr ⟨by omega, by unfold aJ; rw [if_pos (by omega)]; exact congrArg (fun p => w32 p.1) hx32, by unfold aJ; rw [if_pos (by omega)]; exact congrArg (fun p => p.2) hx32⟩ | exact Or.inr ⟨by omega, by unfold aJ; rw [if_neg (by omega), if_pos (by omega)]; exact congrArg (fun p => w32 p.1) hx46, by unfold aJ; rw [if_neg (by omega), if_pos (by omega)]; exact congrArg (fun p => p.2) hx46⟩ | exact Or.inr ⟨by omega, by unfold aJ; rw [if_neg (by omega), if_neg (by omega)]; exact congrArg (fun p => w32 p.1) hx55, by unfold aJ; rw [if_neg (by omega), if_neg (by omega)]; exact congrArg (fun p => p.2) hx55⟩
          · exact hI55
          · exact hF55
        · skip
          refine g_aload_n (M := mX11_act) (pc := 43) dX11_act_43 rfl (k := ?_)
          refine g_iload_n (M := mX11_act) (pc := 44) dX11_act_44 rfl (k := ?_)
          refine g_iload_n (M := mX11_act) (pc := 45) dX11_act_45 rfl (k := ?_)
          refine g_cV2I (M := mX11_act) (pc := 46) (c_X11_opensAct Γ t _ _ _ (by refine jvu69_64 ?_ (by omega) (by omega); exact hI) (by first | omega | (simp only [up_same, up_cell, up_slot, ne_eq, not_false_eq_true, Nat.reduceEqDiff, Int.reduceEq, reduceCtorEq, Nat.reduceAdd, Int.reduceAdd, Int.reduceSub]; done) | (simp only [up_same, up_cell, up_slot, ne_eq, not_false_eq_true, Nat.reduceEqDiff, Int.reduceEq, reduceCtorEq, Nat.reduceAdd, Int.reduceAdd, Int.reduceSub]; omega)) (by first | omega | (simp only [up_same, up_cell, up_slot, ne_eq, not_false_eq_true, Nat.reduceEqDiff, Int.reduceEq, reduceCtorEq, Nat.reduceAdd, Int.reduceAdd, Int.reduceSub]; done) | (simp only [up_same, up_cell, up_slot, ne_eq, not_false_eq_true, Nat.reduceEqDiff, Int.reduceEq, reduceCtorEq, Nat.reduceAdd, Int.reduceAdd, Int.reduceSub]; omega))) qX11_opensAct vX11_opensAct sX11_opensAct kX11_388 dX11_act_46 (kk := ?_)
          rintro r46 τ46 ⟨hn46, hx46, hI46, hG46⟩
          try simp only [up_same, up_cell, up_slot, ne_eq, not_false_eq_true, Nat.reduceEqDiff, Int.reduceEq, reduceCtorEq, Nat.reduceAdd, Int.reduceAdd, Int.reduceSub] at hn46 hx46
          have hF46 : Fr jcK σ τ46 := by refine Fr.tr ?_ hG46; refine Fr.up ?_ (by first | rfl | (unfold jcK; simp; try omega)); exact (Fr.rf)
          refine g_wrapE (k := ?_)
          have hz46 := w32R (r46)
          refine g_goto (M := mX11_act) (pc := 49) (tgt := 58) dX11_act_49 (k := ?_)
          refine g_iret (M := mX11_act) (pc := 58) rfl dX11_act_58 rfl ⟨_, _, rfl, rfl, ?_⟩
          refine ⟨?_, ?_, ?_, ?_⟩
          · omega
          · unfold actJ; first | exact Or.inl ⟨by omega, rfl, rfl, rfl⟩ | exact Or.inr ⟨by omega, by unfold aJ; rw [if_pos (by omega)]; exact congrArg (fun p => w32 p.1) hx32, by unfold aJ; rw [if_pos (by omega)]; exact congrArg (fun p => p.2) hx32⟩ | exact Or.inr ⟨by omega, by unfold aJ; rw [if_neg (by omega), if_pos (by omega)]; exact congrArg (fun p => w32 p.1) hx46, by unfold aJ; rw [if_neg (by omega), if_pos (by omega)]; exact congrArg (fun p => p.2) hx46⟩ | exact Or.inr ⟨by omega, by unfold aJ; rw [if_neg (by omega), if_neg (by omega)]; exact congrArg (fun p => w32 p.1) hx55, by unfold aJ; rw [if_neg (by omega), if_neg (by omega)]; exact congrArg (fun p => p.2) hx55⟩
          · exact hI46
          · exact hF46
      · skip
        refine g_aload_n (M := mX11_act) (pc := 29) dX11_act_29 rfl (k := ?_)
        refine g_iload_n (M := mX11_act) (pc := 30) dX11_act_30 rfl (k := ?_)
        refine g_iload_n (M := mX11_act) (pc := 31) dX11_act_31 rfl (k := ?_)
        refine g_cV2I (M := mX11_act) (pc := 32) (c_X11_asksAct Γ t _ _ _ (by refine jvu69_64 ?_ (by omega) (by omega); exact hI) (by first | omega | (simp only [up_same, up_cell, up_slot, ne_eq, not_false_eq_true, Nat.reduceEqDiff, Int.reduceEq, reduceCtorEq, Nat.reduceAdd, Int.reduceAdd, Int.reduceSub]; done) | (simp only [up_same, up_cell, up_slot, ne_eq, not_false_eq_true, Nat.reduceEqDiff, Int.reduceEq, reduceCtorEq, Nat.reduceAdd, Int.reduceAdd, Int.reduceSub]; omega)) (by first | omega | (simp only [up_same, up_cell, up_slot, ne_eq, not_false_eq_true, Nat.reduceEqDiff, Int.reduceEq, reduceCtorEq, Nat.reduceAdd, Int.reduceAdd, Int.reduceSub]; done) | (simp only [up_same, up_cell, up_slot, ne_eq, not_false_eq_true, Nat.reduceEqDiff, Int.reduceEq, reduceCtorEq, Nat.reduceAdd, Int.reduceAdd, Int.reduceSub]; omega))) qX11_asksAct vX11_asksAct sX11_asksAct kX11_379 dX11_act_32 (kk := ?_)
        rintro r32 τ32 ⟨hn32, hx32, hI32, hG32⟩
        try simp only [up_same, up_cell, up_slot, ne_eq, not_false_eq_true, Nat.reduceEqDiff, Int.reduceEq, reduceCtorEq, Nat.reduceAdd, Int.reduceAdd, Int.reduceSub] at hn32 hx32
        have hF32 : Fr jcK σ τ32 := by refine Fr.tr ?_ hG32; refine Fr.up ?_ (by first | rfl | (unfold jcK; simp; try omega)); exact (Fr.rf)
        refine g_wrapE (k := ?_)
        have hz32 := w32R (r32)
        refine g_goto (M := mX11_act) (pc := 35) (tgt := 58) dX11_act_35 (k := ?_)
        refine g_iret (M := mX11_act) (pc := 58) rfl dX11_act_58 rfl ⟨_, _, rfl, rfl, ?_⟩
        refine ⟨?_, ?_, ?_, ?_⟩
        · omega
        · unfold actJ; first | exact Or.inl ⟨by omega, rfl, rfl, rfl⟩ | exact Or.inr ⟨by omega, by unfold aJ; rw [if_pos (by omega)]; exact congrArg (fun p => w32 p.1) hx32, by unfold aJ; rw [if_pos (by omega)]; exact congrArg (fun p => p.2) hx32⟩ | exact Or.inr ⟨by omega, by unfold aJ; rw [if_neg (by omega), if_pos (by omega)]; exact congrArg (fun p => w32 p.1) hx46, by unfold aJ; rw [if_neg (by omega), if_pos (by omega)]; exact congrArg (fun p => p.2) hx46⟩ | exact Or.inr ⟨by omega, by unfold aJ; rw [if_neg (by omega), if_neg (by omega)]; exact congrArg (fun p => w32 p.1) hx55, by unfold aJ; rw [if_neg (by omega), if_neg (by omega)]; exact congrArg (fun p => p.2) hx55⟩
        · exact hI32
        · exact hF32
    · skip
      refine g_iconst (M := mX11_act) (pc := 23) dX11_act_23 (k := ?_)
      refine g_iret (M := mX11_act) (pc := 24) rfl dX11_act_24 rfl ⟨_, _, rfl, rfl, ?_⟩
      refine ⟨?_, ?_, ?_, ?_⟩
      · omega
      · unfold actJ; first | exact Or.inl ⟨by omega, rfl, rfl, rfl⟩ | exact Or.inr ⟨by omega, by unfold aJ; rw [if_pos (by omega)]; exact congrArg (fun p => w32 p.1) hx32, by unfold aJ; rw [if_pos (by omega)]; exact congrArg (fun p => p.2) hx32⟩ | exact Or.inr ⟨by omega, by unfold aJ; rw [if_neg (by omega), if_pos (by omega)]; exact congrArg (fun p => w32 p.1) hx46, by unfold aJ; rw [if_neg (by omega), if_pos (by omega)]; exact congrArg (fun p => p.2) hx46⟩ | exact Or.inr ⟨by omega, by unfold aJ; rw [if_neg (by omega), if_neg (by omega)]; exact congrArg (fun p => w32 p.1) hx55, by unfold aJ; rw [if_neg (by omega), if_neg (by omega)]; exact congrArg (fun p => p.2) hx55⟩
      · refine jvu69_64 ?_ (by omega) (by omega); exact hI
      · refine Fr.up ?_ (by first | rfl | (unfold jcK; simp; try omega)); exact (Fr.rf)
set_option maxHeartbeats 4000000 in
set_option maxRecDepth 20000 in
theorem c_X11_trace (Γ : KT) (t : Nat) (σ : Nat → Int → Int) (i : Int) (hI : InvJ σ) (hi : R32 i) : Ct Γ mX11_trace 2 (0, 0) [vR Γ 69, vI i] (113, ρT t, σ) (pI 113 (ρT t) (fun r σ' => ((0 ≤ i ∧ i < σ 69 64 ∧ i < 20 ∧ r = σ 108 i) ∨ (¬ (0 ≤ i ∧ i < σ 69 64 ∧ i < 20) ∧ r = -1)) ∧ σ' = σ)) := by
  refine Ct.of rfl (Nat.le_of_ble_eq_true rfl) ?_
  show G Γ mX11_trace 2 (0, 0) _ (0, 0) 0 [some (vR Γ 69), some (vI i)] [] (113, ρT t, σ)
  refine g_aload_n (M := mX11_trace) (pc := 0) dX11_trace_0 rfl (k := ?_)
  refine g_iload_n (M := mX11_trace) (pc := 1) dX11_trace_1 rfl (k := ?_)
  refine g_iconst (M := mX11_trace) (pc := 2) dX11_trace_2 (k := ?_)
  refine g_bipush (M := mX11_trace) (pc := 3) dX11_trace_3 (k := ?_)
  refine g_cV3I (M := mX11_trace) (pc := 5) (c_X11_in Γ t _ _ _ _ (by omega) (by omega) (by omega)) qX11_in vX11_in sX11_in kX11_224 dX11_trace_5 (kk := ?_)
  rintro _ _ ⟨e1, e⟩; rw [e1, e]; clear e1 e
  refine g_if_eqB (M := mX11_trace) (pc := 8) (tgt := 28) dX11_trace_8 (k1 := fun h8 => ?_) (k2 := fun h8 => ?_)
  · skip
    refine g_iconst (M := mX11_trace) (pc := 28) dX11_trace_28 (k := ?_)
    refine g_iret (M := mX11_trace) (pc := 29) rfl dX11_trace_29 rfl ⟨_, _, rfl, rfl, ?_⟩
    refine ⟨?_, rfl⟩
    · omega
  · skip
    refine g_iload_n (M := mX11_trace) (pc := 11) dX11_trace_11 rfl (k := ?_)
    refine g_aload_n (M := mX11_trace) (pc := 12) dX11_trace_12 rfl (k := ?_)
    refine g_get (M := mX11_trace) (pc := 13) (ji := 64) (by rfl) fX11_64 kX11_205 dX11_trace_13 (kk := fun hr13 => ?_)
    have hb13 := jv69_64 hI 64 (by omega) (by omega)
    refine g_icmp_ge (M := mX11_trace) (pc := 16) (tgt := 28) (by omega) (by omega) dX11_trace_16 (k1 := fun h16 => ?_) (k2 := fun h16 => ?_)
    · skip
      refine g_iconst (M := mX11_trace) (pc := 28) dX11_trace_28 (k := ?_)
      refine g_iret (M := mX11_trace) (pc := 29) rfl dX11_trace_29 rfl ⟨_, _, rfl, rfl, ?_⟩
      refine ⟨?_, rfl⟩
      · omega
    · skip
      refine g_aload_n (M := mX11_trace) (pc := 19) dX11_trace_19 rfl (k := ?_)
      refine g_getr (M := mX11_trace) (pc := 20) (by rfl) fX11_65 kX11_208 dX11_trace_20 (by rfl) (kk := ?_)
      refine g_iload_n (M := mX11_trace) (pc := 23) dX11_trace_23 rfl (k := ?_)
      refine g_iald (M := mX11_trace) (pc := 24) (by rfl) (by omega) (by omega) dX11_trace_24 (kk := fun hr24 => ?_)
      refine g_goto (M := mX11_trace) (pc := 25) (tgt := 29) dX11_trace_25 (k := ?_)
      refine g_iret (M := mX11_trace) (pc := 29) rfl dX11_trace_29 rfl ⟨_, _, rfl, rfl, ?_⟩
      refine ⟨?_, rfl⟩
      · omega
set_option maxHeartbeats 4000000 in
set_option maxRecDepth 20000 in
theorem c_X11_taken (Γ : KT) (t : Nat) (σ : Nat → Int → Int) (h : Int) (k : Int) (hI : InvJ σ) (hh : R32 h) (hk : R32 k) : Ct Γ mX11_taken 3 (0, 0) [vR Γ 69, vI h, vI k] (113, ρT t, σ) (pI 113 (ρT t) (fun r σ' => (takenJ σ h k r σ) ∧ σ' = σ)) := by
  refine Ct.of rfl (Nat.le_of_ble_eq_true rfl) ?_
  show G Γ mX11_taken 3 (0, 0) _ (0, 0) 0 [some (vR Γ 69), some (vI h), some (vI k), none] [] (113, ρT t, σ)
  refine g_aload_n (M := mX11_taken) (pc := 0) dX11_taken_0 rfl (k := ?_)
  refine g_iload_n (M := mX11_taken) (pc := 1) dX11_taken_1 rfl (k := ?_)
  refine g_iconst (M := mX11_taken) (pc := 2) dX11_taken_2 (k := ?_)
  refine g_bipush (M := mX11_taken) (pc := 3) dX11_taken_3 (k := ?_)
  refine g_cV3I (M := mX11_taken) (pc := 5) (c_X11_in Γ t _ _ _ _ (by omega) (by omega) (by omega)) qX11_in vX11_in sX11_in kX11_224 dX11_taken_5 (kk := ?_)
  rintro _ _ ⟨e1, e⟩; rw [e1, e]; clear e1 e
  refine g_if_neB (M := mX11_taken) (pc := 8) (tgt := 14) dX11_taken_8 (k1 := fun h8 => ?_) (k2 := fun h8 => ?_)
  · skip
    refine g_aload_n (M := mX11_taken) (pc := 14) dX11_taken_14 rfl (k := ?_)
    refine g_iload_n (M := mX11_taken) (pc := 15) dX11_taken_15 rfl (k := ?_)
    refine g_cV1I (M := mX11_taken) (pc := 16) (c_X11_isHouse Γ t _ _ hI (by omega)) qX11_isHouse vX11_isHouse sX11_isHouse kX11_232 dX11_taken_16 (kk := ?_)
    rintro _ _ ⟨e1, e⟩; rw [e1, e]; clear e1 e
    have hb16_69 := jv69_0 hI 0 (by omega) (by omega)
    refine g_if_neB (M := mX11_taken) (pc := 19) (tgt := 25) dX11_taken_19 (k1 := fun h19 => ?_) (k2 := fun h19 => ?_)
    · skip
      refine g_aload_n (M := mX11_taken) (pc := 25) dX11_taken_25 rfl (k := ?_)
      refine g_getr (M := mX11_taken) (pc := 26) (by rfl) fX11_2 kX11_16 dX11_taken_26 (by rfl) (kk := ?_)
      refine g_iload_n (M := mX11_taken) (pc := 29) dX11_taken_29 rfl (k := ?_)
      refine g_iald (M := mX11_taken) (pc := 30) (by rfl) (by omega) (by omega) dX11_taken_30 (kk := fun hr30 => ?_)
      have hb30 := jv70_0 hI h (by omega) (by omega)
      refine g_istore_3 (M := mX11_taken) (pc := 31) dX11_taken_31 (k := ?_)
      refine g_iload_n (M := mX11_taken) (pc := 32) dX11_taken_32 rfl (k := ?_)
      refine g_if_eq (M := mX11_taken) (pc := 33) (tgt := 72) (by omega) dX11_taken_33 (k1 := fun h33 => ?_) (k2 := fun h33 => ?_)
      · skip
        refine g_iload_n (M := mX11_taken) (pc := 72) dX11_taken_72 rfl (k := ?_)
        refine g_goto (M := mX11_taken) (pc := 73) (tgt := 78) dX11_taken_73 (k := ?_)
        refine g_iret (M := mX11_taken) (pc := 78) rfl dX11_taken_78 rfl ⟨_, _, rfl, rfl, ?_⟩
        refine ⟨?_, rfl⟩
        · unfold takenJ; first | exact Or.inl ⟨by first | omega | (refine ⟨by omega, by omega, ?_⟩; unfold undB; simp; omega), by first | rfl | omega, by first | rfl | (rw [show n = 1 by omega]; done) | (rw [show n = 0 by omega]; done) | (rw [show z = 1 by omega]; done) | (rw [show z = 0 by omega]; done) | (unfold zwith; first | rw [if_pos (by omega)] | rw [if_neg (by omega)])⟩ | exact Or.inr (Or.inl ⟨by first | omega | (refine ⟨by omega, by omega, ?_⟩; unfold undB; simp; omega), by first | rfl | omega, by first | rfl | (rw [show n = 1 by omega]; done) | (rw [show n = 0 by omega]; done) | (rw [show z = 1 by omega]; done) | (rw [show z = 0 by omega]; done) | (unfold zwith; first | rw [if_pos (by omega)] | rw [if_neg (by omega)])⟩) | exact Or.inr (Or.inr (Or.inl ⟨by first | omega | (refine ⟨by omega, by omega, ?_⟩; unfold undB; simp; omega), by first | rfl | omega, by first | rfl | (rw [show n = 1 by omega]; done) | (rw [show n = 0 by omega]; done) | (rw [show z = 1 by omega]; done) | (rw [show z = 0 by omega]; done) | (unfold zwith; first | rw [if_pos (by omega)] | rw [if_neg (by omega)])⟩)) | exact Or.inr (Or.inr (Or.inr (⟨by first | omega | (refine ⟨by omega, by omega, ?_⟩; unfold undB; simp; omega), by first | rfl | omega, by first | rfl | (rw [show n = 1 by omega]; done) | (rw [show n = 0 by omega]; done) | (rw [show z = 1 by omega]; done) | (rw [show z = 0 by omega]; done) | (unfold zwith; first | rw [if_pos (by omega)] | rw [if_neg (by omega)])⟩)))
      · skip
        refine g_iload_n (M := mX11_taken) (pc := 36) dX11_taken_36 rfl (k := ?_)
        refine g_iload_n (M := mX11_taken) (pc := 37) dX11_taken_37 rfl (k := ?_)
        refine g_icmp_eq (M := mX11_taken) (pc := 38) (tgt := 72) (by omega) (by omega) dX11_taken_38 (k1 := fun h38 => ?_) (k2 := fun h38 => ?_)
        · skip
          refine g_iload_n (M := mX11_taken) (pc := 72) dX11_taken_72 rfl (k := ?_)
          refine g_goto (M := mX11_taken) (pc := 73) (tgt := 78) dX11_taken_73 (k := ?_)
          refine g_iret (M := mX11_taken) (pc := 78) rfl dX11_taken_78 rfl ⟨_, _, rfl, rfl, ?_⟩
          refine ⟨?_, rfl⟩
          · unfold takenJ; first | exact Or.inl ⟨by first | omega | (refine ⟨by omega, by omega, ?_⟩; unfold undB; simp; omega), by first | rfl | omega, by first | rfl | (rw [show n = 1 by omega]; done) | (rw [show n = 0 by omega]; done) | (rw [show z = 1 by omega]; done) | (rw [show z = 0 by omega]; done) | (unfold zwith; first | rw [if_pos (by omega)] | rw [if_neg (by omega)])⟩ | exact Or.inr (Or.inl ⟨by first | omega | (refine ⟨by omega, by omega, ?_⟩; unfold undB; simp; omega), by first | rfl | omega, by first | rfl | (rw [show n = 1 by omega]; done) | (rw [show n = 0 by omega]; done) | (rw [show z = 1 by omega]; done) | (rw [show z = 0 by omega]; done) | (unfold zwith; first | rw [if_pos (by omega)] | rw [if_neg (by omega)])⟩) | exact Or.inr (Or.inr (Or.inl ⟨by first | omega | (refine ⟨by omega, by omega, ?_⟩; unfold undB; simp; omega), by first | rfl | omega, by first | rfl | (rw [show n = 1 by omega]; done) | (rw [show n = 0 by omega]; done) | (rw [show z = 1 by omega]; done) | (rw [show z = 0 by omega]; done) | (unfold zwith; first | rw [if_pos (by omega)] | rw [if_neg (by omega)])⟩)) | exact Or.inr (Or.inr (Or.inr (⟨by first | omega | (refine ⟨by omega, by omega, ?_⟩; unfold undB; simp; omega), by first | rfl | omega, by first | rfl | (rw [show n = 1 by omega]; done) | (rw [show n = 0 by omega]; done) | (rw [show z = 1 by omega]; done) | (rw [show z = 0 by omega]; done) | (unfold zwith; first | rw [if_pos (by omega)] | rw [if_neg (by omega)])⟩)))
        · skip
          refine g_iload_n (M := mX11_taken) (pc := 41) dX11_taken_41 rfl (k := ?_)
          refine g_iconst (M := mX11_taken) (pc := 42) dX11_taken_42 (k := ?_)
          refine g_icmp_ne (M := mX11_taken) (pc := 43) (tgt := 51) (by omega) (by omega) dX11_taken_43 (k1 := fun h43 => ?_) (k2 := fun h43 => ?_)
          · skip
            refine g_iload_n (M := mX11_taken) (pc := 51) dX11_taken_51 rfl (k := ?_)
            refine g_iconst (M := mX11_taken) (pc := 52) dX11_taken_52 (k := ?_)
            refine g_icmp_ne (M := mX11_taken) (pc := 53) (tgt := 61) (by omega) (by omega) dX11_taken_53 (k1 := fun h53 => ?_) (k2 := fun h53 => ?_)
            · skip
              refine g_iload_n (M := mX11_taken) (pc := 61) dX11_taken_61 rfl (k := ?_)
              refine g_iconst (M := mX11_taken) (pc := 62) dX11_taken_62 (k := ?_)
              refine g_icmp_ne (M := mX11_taken) (pc := 63) (tgt := 76) (by omega) (by omega) dX11_taken_63 (k1 := fun h63 => ?_) (k2 := fun h63 => ?_)
              · skip
                refine g_bipush (M := mX11_taken) (pc := 76) dX11_taken_76 (k := ?_)
                refine g_iret (M := mX11_taken) (pc := 78) rfl dX11_taken_78 rfl ⟨_, _, rfl, rfl, ?_⟩
                refine ⟨?_, rfl⟩
                · unfold takenJ; first | exact Or.inl ⟨by first | omega | (refine ⟨by omega, by omega, ?_⟩; unfold undB; simp; omega), by first | rfl | omega, by first | rfl | (rw [show n = 1 by omega]; done) | (rw [show n = 0 by omega]; done) | (rw [show z = 1 by omega]; done) | (rw [show z = 0 by omega]; done) | (unfold zwith; first | rw [if_pos (by omega)] | rw [if_neg (by omega)])⟩ | exact Or.inr (Or.inl ⟨by first | omega | (refine ⟨by omega, by omega, ?_⟩; unfold undB; simp; omega), by first | rfl | omega, by first | rfl | (rw [show n = 1 by omega]; done) | (rw [show n = 0 by omega]; done) | (rw [show z = 1 by omega]; done) | (rw [show z = 0 by omega]; done) | (unfold zwith; first | rw [if_pos (by omega)] | rw [if_neg (by omega)])⟩) | exact Or.inr (Or.inr (Or.inl ⟨by first | omega | (refine ⟨by omega, by omega, ?_⟩; unfold undB; simp; omega), by first | rfl | omega, by first | rfl | (rw [show n = 1 by omega]; done) | (rw [show n = 0 by omega]; done) | (rw [show z = 1 by omega]; done) | (rw [show z = 0 by omega]; done) | (unfold zwith; first | rw [if_pos (by omega)] | rw [if_neg (by omega)])⟩)) | exact Or.inr (Or.inr (Or.inr (⟨by first | omega | (refine ⟨by omega, by omega, ?_⟩; unfold undB; simp; omega), by first | rfl | omega, by first | rfl | (rw [show n = 1 by omega]; done) | (rw [show n = 0 by omega]; done) | (rw [show z = 1 by omega]; done) | (rw [show z = 0 by omega]; done) | (unfold zwith; first | rw [if_pos (by omega)] | rw [if_neg (by omega)])⟩)))
              · skip
                refine g_iload_n (M := mX11_taken) (pc := 66) dX11_taken_66 rfl (k := ?_)
                refine g_bipush (M := mX11_taken) (pc := 67) dX11_taken_67 (k := ?_)
                refine g_icmp_ne (M := mX11_taken) (pc := 69) (tgt := 76) (by omega) (by omega) dX11_taken_69 (k1 := fun h69 => ?_) (k2 := fun h69 => ?_)
                · skip
                  refine g_bipush (M := mX11_taken) (pc := 76) dX11_taken_76 (k := ?_)
                  refine g_iret (M := mX11_taken) (pc := 78) rfl dX11_taken_78 rfl ⟨_, _, rfl, rfl, ?_⟩
                  refine ⟨?_, rfl⟩
                  · unfold takenJ; first | exact Or.inl ⟨by first | omega | (refine ⟨by omega, by omega, ?_⟩; unfold undB; simp; omega), by first | rfl | omega, by first | rfl | (rw [show n = 1 by omega]; done) | (rw [show n = 0 by omega]; done) | (rw [show z = 1 by omega]; done) | (rw [show z = 0 by omega]; done) | (unfold zwith; first | rw [if_pos (by omega)] | rw [if_neg (by omega)])⟩ | exact Or.inr (Or.inl ⟨by first | omega | (refine ⟨by omega, by omega, ?_⟩; unfold undB; simp; omega), by first | rfl | omega, by first | rfl | (rw [show n = 1 by omega]; done) | (rw [show n = 0 by omega]; done) | (rw [show z = 1 by omega]; done) | (rw [show z = 0 by omega]; done) | (unfold zwith; first | rw [if_pos (by omega)] | rw [if_neg (by omega)])⟩) | exact Or.inr (Or.inr (Or.inl ⟨by first | omega | (refine ⟨by omega, by omega, ?_⟩; unfold undB; simp; omega), by first | rfl | omega, by first | rfl | (rw [show n = 1 by omega]; done) | (rw [show n = 0 by omega]; done) | (rw [show z = 1 by omega]; done) | (rw [show z = 0 by omega]; done) | (unfold zwith; first | rw [if_pos (by omega)] | rw [if_neg (by omega)])⟩)) | exact Or.inr (Or.inr (Or.inr (⟨by first | omega | (refine ⟨by omega, by omega, ?_⟩; unfold undB; simp; omega), by first | rfl | omega, by first | rfl | (rw [show n = 1 by omega]; done) | (rw [show n = 0 by omega]; done) | (rw [show z = 1 by omega]; done) | (rw [show z = 0 by omega]; done) | (unfold zwith; first | rw [if_pos (by omega)] | rw [if_neg (by omega)])⟩)))
                · skip
                  refine g_iload_n (M := mX11_taken) (pc := 72) dX11_taken_72 rfl (k := ?_)
                  refine g_goto (M := mX11_taken) (pc := 73) (tgt := 78) dX11_taken_73 (k := ?_)
                  refine g_iret (M := mX11_taken) (pc := 78) rfl dX11_taken_78 rfl ⟨_, _, rfl, rfl, ?_⟩
                  refine ⟨?_, rfl⟩
                  · unfold takenJ; first | exact Or.inl ⟨by first | omega | (refine ⟨by omega, by omega, ?_⟩; unfold undB; simp; omega), by first | rfl | omega, by first | rfl | (rw [show n = 1 by omega]; done) | (rw [show n = 0 by omega]; done) | (rw [show z = 1 by omega]; done) | (rw [show z = 0 by omega]; done) | (unfold zwith; first | rw [if_pos (by omega)] | rw [if_neg (by omega)])⟩ | exact Or.inr (Or.inl ⟨by first | omega | (refine ⟨by omega, by omega, ?_⟩; unfold undB; simp; omega), by first | rfl | omega, by first | rfl | (rw [show n = 1 by omega]; done) | (rw [show n = 0 by omega]; done) | (rw [show z = 1 by omega]; done) | (rw [show z = 0 by omega]; done) | (unfold zwith; first | rw [if_pos (by omega)] | rw [if_neg (by omega)])⟩) | exact Or.inr (Or.inr (Or.inl ⟨by first | omega | (refine ⟨by omega, by omega, ?_⟩; unfold undB; simp; omega), by first | rfl | omega, by first | rfl | (rw [show n = 1 by omega]; done) | (rw [show n = 0 by omega]; done) | (rw [show z = 1 by omega]; done) | (rw [show z = 0 by omega]; done) | (unfold zwith; first | rw [if_pos (by omega)] | rw [if_neg (by omega)])⟩)) | exact Or.inr (Or.inr (Or.inr (⟨by first | omega | (refine ⟨by omega, by omega, ?_⟩; unfold undB; simp; omega), by first | rfl | omega, by first | rfl | (rw [show n = 1 by omega]; done) | (rw [show n = 0 by omega]; done) | (rw [show z = 1 by omega]; done) | (rw [show z = 0 by omega]; done) | (unfold zwith; first | rw [if_pos (by omega)] | rw [if_neg (by omega)])⟩)))
            · skip
              refine g_iload_n (M := mX11_taken) (pc := 56) dX11_taken_56 rfl (k := ?_)
              refine g_iconst (M := mX11_taken) (pc := 57) dX11_taken_57 (k := ?_)
              refine g_icmp_eq (M := mX11_taken) (pc := 58) (tgt := 72) (by omega) (by omega) dX11_taken_58 (k1 := fun h58 => ?_) (k2 := fun h58 => ?_)
              · skip
                refine g_iload_n (M := mX11_taken) (pc := 72) dX11_taken_72 rfl (k := ?_)
                refine g_goto (M := mX11_taken) (pc := 73) (tgt := 78) dX11_taken_73 (k := ?_)
                refine g_iret (M := mX11_taken) (pc := 78) rfl dX11_taken_78 rfl ⟨_, _, rfl, rfl, ?_⟩
                refine ⟨?_, rfl⟩
                · unfold takenJ; first | exact Or.inl ⟨by first | omega | (refine ⟨by omega, by omega, ?_⟩; unfold undB; simp; omega), by first | rfl | omega, by first | rfl | (rw [show n = 1 by omega]; done) | (rw [show n = 0 by omega]; done) | (rw [show z = 1 by omega]; done) | (rw [show z = 0 by omega]; done) | (unfold zwith; first | rw [if_pos (by omega)] | rw [if_neg (by omega)])⟩ | exact Or.inr (Or.inl ⟨by first | omega | (refine ⟨by omega, by omega, ?_⟩; unfold undB; simp; omega), by first | rfl | omega, by first | rfl | (rw [show n = 1 by omega]; done) | (rw [show n = 0 by omega]; done) | (rw [show z = 1 by omega]; done) | (rw [show z = 0 by omega]; done) | (unfold zwith; first | rw [if_pos (by omega)] | rw [if_neg (by omega)])⟩) | exact Or.inr (Or.inr (Or.inl ⟨by first | omega | (refine ⟨by omega, by omega, ?_⟩; unfold undB; simp; omega), by first | rfl | omega, by first | rfl | (rw [show n = 1 by omega]; done) | (rw [show n = 0 by omega]; done) | (rw [show z = 1 by omega]; done) | (rw [show z = 0 by omega]; done) | (unfold zwith; first | rw [if_pos (by omega)] | rw [if_neg (by omega)])⟩)) | exact Or.inr (Or.inr (Or.inr (⟨by first | omega | (refine ⟨by omega, by omega, ?_⟩; unfold undB; simp; omega), by first | rfl | omega, by first | rfl | (rw [show n = 1 by omega]; done) | (rw [show n = 0 by omega]; done) | (rw [show z = 1 by omega]; done) | (rw [show z = 0 by omega]; done) | (unfold zwith; first | rw [if_pos (by omega)] | rw [if_neg (by omega)])⟩)))
              · skip
                refine g_iload_n (M := mX11_taken) (pc := 61) dX11_taken_61 rfl (k := ?_)
                refine g_iconst (M := mX11_taken) (pc := 62) dX11_taken_62 (k := ?_)
                refine g_icmp_ne (M := mX11_taken) (pc := 63) (tgt := 76) (by omega) (by omega) dX11_taken_63 (k1 := fun h63 => ?_) (k2 := fun h63 => ?_)
                · skip
                  refine g_bipush (M := mX11_taken) (pc := 76) dX11_taken_76 (k := ?_)
                  refine g_iret (M := mX11_taken) (pc := 78) rfl dX11_taken_78 rfl ⟨_, _, rfl, rfl, ?_⟩
                  refine ⟨?_, rfl⟩
                  · unfold takenJ; first | exact Or.inl ⟨by first | omega | (refine ⟨by omega, by omega, ?_⟩; unfold undB; simp; omega), by first | rfl | omega, by first | rfl | (rw [show n = 1 by omega]; done) | (rw [show n = 0 by omega]; done) | (rw [show z = 1 by omega]; done) | (rw [show z = 0 by omega]; done) | (unfold zwith; first | rw [if_pos (by omega)] | rw [if_neg (by omega)])⟩ | exact Or.inr (Or.inl ⟨by first | omega | (refine ⟨by omega, by omega, ?_⟩; unfold undB; simp; omega), by first | rfl | omega, by first | rfl | (rw [show n = 1 by omega]; done) | (rw [show n = 0 by omega]; done) | (rw [show z = 1 by omega]; done) | (rw [show z = 0 by omega]; done) | (unfold zwith; first | rw [if_pos (by omega)] | rw [if_neg (by omega)])⟩) | exact Or.inr (Or.inr (Or.inl ⟨by first | omega | (refine ⟨by omega, by omega, ?_⟩; unfold undB; simp; omega), by first | rfl | omega, by first | rfl | (rw [show n = 1 by omega]; done) | (rw [show n = 0 by omega]; done) | (rw [show z = 1 by omega]; done) | (rw [show z = 0 by omega]; done) | (unfold zwith; first | rw [if_pos (by omega)] | rw [if_neg (by omega)])⟩)) | exact Or.inr (Or.inr (Or.inr (⟨by first | omega | (refine ⟨by omega, by omega, ?_⟩; unfold undB; simp; omega), by first | rfl | omega, by first | rfl | (rw [show n = 1 by omega]; done) | (rw [show n = 0 by omega]; done) | (rw [show z = 1 by omega]; done) | (rw [show z = 0 by omega]; done) | (unfold zwith; first | rw [if_pos (by omega)] | rw [if_neg (by omega)])⟩)))
                · skip
                  refine g_iload_n (M := mX11_taken) (pc := 66) dX11_taken_66 rfl (k := ?_)
                  refine g_bipush (M := mX11_taken) (pc := 67) dX11_taken_67 (k := ?_)
                  refine g_icmp_ne (M := mX11_taken) (pc := 69) (tgt := 76) (by omega) (by omega) dX11_taken_69 (k1 := fun h69 => ?_) (k2 := fun h69 => ?_)
                  · skip
                    refine g_bipush (M := mX11_taken) (pc := 76) dX11_taken_76 (k := ?_)
                    refine g_iret (M := mX11_taken) (pc := 78) rfl dX11_taken_78 rfl ⟨_, _, rfl, rfl, ?_⟩
                    refine ⟨?_, rfl⟩
                    · unfold takenJ; first | exact Or.inl ⟨by first | omega | (refine ⟨by omega, by omega, ?_⟩; unfold undB; simp; omega), by first | rfl | omega, by first | rfl | (rw [show n = 1 by omega]; done) | (rw [show n = 0 by omega]; done) | (rw [show z = 1 by omega]; done) | (rw [show z = 0 by omega]; done) | (unfold zwith; first | rw [if_pos (by omega)] | rw [if_neg (by omega)])⟩ | exact Or.inr (Or.inl ⟨by first | omega | (refine ⟨by omega, by omega, ?_⟩; unfold undB; simp; omega), by first | rfl | omega, by first | rfl | (rw [show n = 1 by omega]; done) | (rw [show n = 0 by omega]; done) | (rw [show z = 1 by omega]; done) | (rw [show z = 0 by omega]; done) | (unfold zwith; first | rw [if_pos (by omega)] | rw [if_neg (by omega)])⟩) | exact Or.inr (Or.inr (Or.inl ⟨by first | omega | (refine ⟨by omega, by omega, ?_⟩; unfold undB; simp; omega), by first | rfl | omega, by first | rfl | (rw [show n = 1 by omega]; done) | (rw [show n = 0 by omega]; done) | (rw [show z = 1 by omega]; done) | (rw [show z = 0 by omega]; done) | (unfold zwith; first | rw [if_pos (by omega)] | rw [if_neg (by omega)])⟩)) | exact Or.inr (Or.inr (Or.inr (⟨by first | omega | (refine ⟨by omega, by omega, ?_⟩; unfold undB; simp; omega), by first | rfl | omega, by first | rfl | (rw [show n = 1 by omega]; done) | (rw [show n = 0 by omega]; done) | (rw [show z = 1 by omega]; done) | (rw [show z = 0 by omega]; done) | (unfold zwith; first | rw [if_pos (by omega)] | rw [if_neg (by omega)])⟩)))
                  · skip
                    refine g_iload_n (M := mX11_taken) (pc := 72) dX11_taken_72 rfl (k := ?_)
                    refine g_goto (M := mX11_taken) (pc := 73) (tgt := 78) dX11_taken_73 (k := ?_)
                    refine g_iret (M := mX11_taken) (pc := 78) rfl dX11_taken_78 rfl ⟨_, _, rfl, rfl, ?_⟩
                    refine ⟨?_, rfl⟩
                    · unfold takenJ; first | exact Or.inl ⟨by first | omega | (refine ⟨by omega, by omega, ?_⟩; unfold undB; simp; omega), by first | rfl | omega, by first | rfl | (rw [show n = 1 by omega]; done) | (rw [show n = 0 by omega]; done) | (rw [show z = 1 by omega]; done) | (rw [show z = 0 by omega]; done) | (unfold zwith; first | rw [if_pos (by omega)] | rw [if_neg (by omega)])⟩ | exact Or.inr (Or.inl ⟨by first | omega | (refine ⟨by omega, by omega, ?_⟩; unfold undB; simp; omega), by first | rfl | omega, by first | rfl | (rw [show n = 1 by omega]; done) | (rw [show n = 0 by omega]; done) | (rw [show z = 1 by omega]; done) | (rw [show z = 0 by omega]; done) | (unfold zwith; first | rw [if_pos (by omega)] | rw [if_neg (by omega)])⟩) | exact Or.inr (Or.inr (Or.inl ⟨by first | omega | (refine ⟨by omega, by omega, ?_⟩; unfold undB; simp; omega), by first | rfl | omega, by first | rfl | (rw [show n = 1 by omega]; done) | (rw [show n = 0 by omega]; done) | (rw [show z = 1 by omega]; done) | (rw [show z = 0 by omega]; done) | (unfold zwith; first | rw [if_pos (by omega)] | rw [if_neg (by omega)])⟩)) | exact Or.inr (Or.inr (Or.inr (⟨by first | omega | (refine ⟨by omega, by omega, ?_⟩; unfold undB; simp; omega), by first | rfl | omega, by first | rfl | (rw [show n = 1 by omega]; done) | (rw [show n = 0 by omega]; done) | (rw [show z = 1 by omega]; done) | (rw [show z = 0 by omega]; done) | (unfold zwith; first | rw [if_pos (by omega)] | rw [if_neg (by omega)])⟩)))
          · skip
            refine g_iload_n (M := mX11_taken) (pc := 46) dX11_taken_46 rfl (k := ?_)
            refine g_iconst (M := mX11_taken) (pc := 47) dX11_taken_47 (k := ?_)
            refine g_icmp_eq (M := mX11_taken) (pc := 48) (tgt := 72) (by omega) (by omega) dX11_taken_48 (k1 := fun h48 => ?_) (k2 := fun h48 => ?_)
            · skip
              refine g_iload_n (M := mX11_taken) (pc := 72) dX11_taken_72 rfl (k := ?_)
              refine g_goto (M := mX11_taken) (pc := 73) (tgt := 78) dX11_taken_73 (k := ?_)
              refine g_iret (M := mX11_taken) (pc := 78) rfl dX11_taken_78 rfl ⟨_, _, rfl, rfl, ?_⟩
              refine ⟨?_, rfl⟩
              · unfold takenJ; first | exact Or.inl ⟨by first | omega | (refine ⟨by omega, by omega, ?_⟩; unfold undB; simp; omega), by first | rfl | omega, by first | rfl | (rw [show n = 1 by omega]; done) | (rw [show n = 0 by omega]; done) | (rw [show z = 1 by omega]; done) | (rw [show z = 0 by omega]; done) | (unfold zwith; first | rw [if_pos (by omega)] | rw [if_neg (by omega)])⟩ | exact Or.inr (Or.inl ⟨by first | omega | (refine ⟨by omega, by omega, ?_⟩; unfold undB; simp; omega), by first | rfl | omega, by first | rfl | (rw [show n = 1 by omega]; done) | (rw [show n = 0 by omega]; done) | (rw [show z = 1 by omega]; done) | (rw [show z = 0 by omega]; done) | (unfold zwith; first | rw [if_pos (by omega)] | rw [if_neg (by omega)])⟩) | exact Or.inr (Or.inr (Or.inl ⟨by first | omega | (refine ⟨by omega, by omega, ?_⟩; unfold undB; simp; omega), by first | rfl | omega, by first | rfl | (rw [show n = 1 by omega]; done) | (rw [show n = 0 by omega]; done) | (rw [show z = 1 by omega]; done) | (rw [show z = 0 by omega]; done) | (unfold zwith; first | rw [if_pos (by omega)] | rw [if_neg (by omega)])⟩)) | exact Or.inr (Or.inr (Or.inr (⟨by first | omega | (refine ⟨by omega, by omega, ?_⟩; unfold undB; simp; omega), by first | rfl | omega, by first | rfl | (rw [show n = 1 by omega]; done) | (rw [show n = 0 by omega]; done) | (rw [show z = 1 by omega]; done) | (rw [show z = 0 by omega]; done) | (unfold zwith; first | rw [if_pos (by omega)] | rw [if_neg (by omega)])⟩)))
            · skip
              refine g_iload_n (M := mX11_taken) (pc := 51) dX11_taken_51 rfl (k := ?_)
              refine g_iconst (M := mX11_taken) (pc := 52) dX11_taken_52 (k := ?_)
              refine g_icmp_ne (M := mX11_taken) (pc := 53) (tgt := 61) (by omega) (by omega) dX11_taken_53 (k1 := fun h53 => ?_) (k2 := fun h53 => ?_)
              · skip
                refine g_iload_n (M := mX11_taken) (pc := 61) dX11_taken_61 rfl (k := ?_)
                refine g_iconst (M := mX11_taken) (pc := 62) dX11_taken_62 (k := ?_)
                refine g_icmp_ne (M := mX11_taken) (pc := 63) (tgt := 76) (by omega) (by omega) dX11_taken_63 (k1 := fun h63 => ?_) (k2 := fun h63 => ?_)
                · skip
                  refine g_bipush (M := mX11_taken) (pc := 76) dX11_taken_76 (k := ?_)
                  refine g_iret (M := mX11_taken) (pc := 78) rfl dX11_taken_78 rfl ⟨_, _, rfl, rfl, ?_⟩
                  refine ⟨?_, rfl⟩
                  · unfold takenJ; first | exact Or.inl ⟨by first | omega | (refine ⟨by omega, by omega, ?_⟩; unfold undB; simp; omega), by first | rfl | omega, by first | rfl | (rw [show n = 1 by omega]; done) | (rw [show n = 0 by omega]; done) | (rw [show z = 1 by omega]; done) | (rw [show z = 0 by omega]; done) | (unfold zwith; first | rw [if_pos (by omega)] | rw [if_neg (by omega)])⟩ | exact Or.inr (Or.inl ⟨by first | omega | (refine ⟨by omega, by omega, ?_⟩; unfold undB; simp; omega), by first | rfl | omega, by first | rfl | (rw [show n = 1 by omega]; done) | (rw [show n = 0 by omega]; done) | (rw [show z = 1 by omega]; done) | (rw [show z = 0 by omega]; done) | (unfold zwith; first | rw [if_pos (by omega)] | rw [if_neg (by omega)])⟩) | exact Or.inr (Or.inr (Or.inl ⟨by first | omega | (refine ⟨by omega, by omega, ?_⟩; unfold undB; simp; omega), by first | rfl | omega, by first | rfl | (rw [show n = 1 by omega]; done) | (rw [show n = 0 by omega]; done) | (rw [show z = 1 by omega]; done) | (rw [show z = 0 by omega]; done) | (unfold zwith; first | rw [if_pos (by omega)] | rw [if_neg (by omega)])⟩)) | exact Or.inr (Or.inr (Or.inr (⟨by first | omega | (refine ⟨by omega, by omega, ?_⟩; unfold undB; simp; omega), by first | rfl | omega, by first | rfl | (rw [show n = 1 by omega]; done) | (rw [show n = 0 by omega]; done) | (rw [show z = 1 by omega]; done) | (rw [show z = 0 by omega]; done) | (unfold zwith; first | rw [if_pos (by omega)] | rw [if_neg (by omega)])⟩)))
                · skip
                  refine g_iload_n (M := mX11_taken) (pc := 66) dX11_taken_66 rfl (k := ?_)
                  refine g_bipush (M := mX11_taken) (pc := 67) dX11_taken_67 (k := ?_)
                  refine g_icmp_ne (M := mX11_taken) (pc := 69) (tgt := 76) (by omega) (by omega) dX11_taken_69 (k1 := fun h69 => ?_) (k2 := fun h69 => ?_)
                  · skip
                    refine g_bipush (M := mX11_taken) (pc := 76) dX11_taken_76 (k := ?_)
                    refine g_iret (M := mX11_taken) (pc := 78) rfl dX11_taken_78 rfl ⟨_, _, rfl, rfl, ?_⟩
                    refine ⟨?_, rfl⟩
                    · unfold takenJ; first | exact Or.inl ⟨by first | omega | (refine ⟨by omega, by omega, ?_⟩; unfold undB; simp; omega), by first | rfl | omega, by first | rfl | (rw [show n = 1 by omega]; done) | (rw [show n = 0 by omega]; done) | (rw [show z = 1 by omega]; done) | (rw [show z = 0 by omega]; done) | (unfold zwith; first | rw [if_pos (by omega)] | rw [if_neg (by omega)])⟩ | exact Or.inr (Or.inl ⟨by first | omega | (refine ⟨by omega, by omega, ?_⟩; unfold undB; simp; omega), by first | rfl | omega, by first | rfl | (rw [show n = 1 by omega]; done) | (rw [show n = 0 by omega]; done) | (rw [show z = 1 by omega]; done) | (rw [show z = 0 by omega]; done) | (unfold zwith; first | rw [if_pos (by omega)] | rw [if_neg (by omega)])⟩) | exact Or.inr (Or.inr (Or.inl ⟨by first | omega | (refine ⟨by omega, by omega, ?_⟩; unfold undB; simp; omega), by first | rfl | omega, by first | rfl | (rw [show n = 1 by omega]; done) | (rw [show n = 0 by omega]; done) | (rw [show z = 1 by omega]; done) | (rw [show z = 0 by omega]; done) | (unfold zwith; first | rw [if_pos (by omega)] | rw [if_neg (by omega)])⟩)) | exact Or.inr (Or.inr (Or.inr (⟨by first | omega | (refine ⟨by omega, by omega, ?_⟩; unfold undB; simp; omega), by first | rfl | omega, by first | rfl | (rw [show n = 1 by omega]; done) | (rw [show n = 0 by omega]; done) | (rw [show z = 1 by omega]; done) | (rw [show z = 0 by omega]; done) | (unfold zwith; first | rw [if_pos (by omega)] | rw [if_neg (by omega)])⟩)))
                  · skip
                    refine g_iload_n (M := mX11_taken) (pc := 72) dX11_taken_72 rfl (k := ?_)
                    refine g_goto (M := mX11_taken) (pc := 73) (tgt := 78) dX11_taken_73 (k := ?_)
                    refine g_iret (M := mX11_taken) (pc := 78) rfl dX11_taken_78 rfl ⟨_, _, rfl, rfl, ?_⟩
                    refine ⟨?_, rfl⟩
                    · unfold takenJ; first | exact Or.inl ⟨by first | omega | (refine ⟨by omega, by omega, ?_⟩; unfold undB; simp; omega), by first | rfl | omega, by first | rfl | (rw [show n = 1 by omega]; done) | (rw [show n = 0 by omega]; done) | (rw [show z = 1 by omega]; done) | (rw [show z = 0 by omega]; done) | (unfold zwith; first | rw [if_pos (by omega)] | rw [if_neg (by omega)])⟩ | exact Or.inr (Or.inl ⟨by first | omega | (refine ⟨by omega, by omega, ?_⟩; unfold undB; simp; omega), by first | rfl | omega, by first | rfl | (rw [show n = 1 by omega]; done) | (rw [show n = 0 by omega]; done) | (rw [show z = 1 by omega]; done) | (rw [show z = 0 by omega]; done) | (unfold zwith; first | rw [if_pos (by omega)] | rw [if_neg (by omega)])⟩) | exact Or.inr (Or.inr (Or.inl ⟨by first | omega | (refine ⟨by omega, by omega, ?_⟩; unfold undB; simp; omega), by first | rfl | omega, by first | rfl | (rw [show n = 1 by omega]; done) | (rw [show n = 0 by omega]; done) | (rw [show z = 1 by omega]; done) | (rw [show z = 0 by omega]; done) | (unfold zwith; first | rw [if_pos (by omega)] | rw [if_neg (by omega)])⟩)) | exact Or.inr (Or.inr (Or.inr (⟨by first | omega | (refine ⟨by omega, by omega, ?_⟩; unfold undB; simp; omega), by first | rfl | omega, by first | rfl | (rw [show n = 1 by omega]; done) | (rw [show n = 0 by omega]; done) | (rw [show z = 1 by omega]; done) | (rw [show z = 0 by omega]; done) | (unfold zwith; first | rw [if_pos (by omega)] | rw [if_neg (by omega)])⟩)))
              · skip
                refine g_iload_n (M := mX11_taken) (pc := 56) dX11_taken_56 rfl (k := ?_)
                refine g_iconst (M := mX11_taken) (pc := 57) dX11_taken_57 (k := ?_)
                refine g_icmp_eq (M := mX11_taken) (pc := 58) (tgt := 72) (by omega) (by omega) dX11_taken_58 (k1 := fun h58 => ?_) (k2 := fun h58 => ?_)
                · skip
                  refine g_iload_n (M := mX11_taken) (pc := 72) dX11_taken_72 rfl (k := ?_)
                  refine g_goto (M := mX11_taken) (pc := 73) (tgt := 78) dX11_taken_73 (k := ?_)
                  refine g_iret (M := mX11_taken) (pc := 78) rfl dX11_taken_78 rfl ⟨_, _, rfl, rfl, ?_⟩
                  refine ⟨?_, rfl⟩
                  · unfold takenJ; first | exact Or.inl ⟨by first | omega | (refine ⟨by omega, by omega, ?_⟩; unfold undB; simp; omega), by first | rfl | omega, by first | rfl | (rw [show n = 1 by omega]; done) | (rw [show n = 0 by omega]; done) | (rw [show z = 1 by omega]; done) | (rw [show z = 0 by omega]; done) | (unfold zwith; first | rw [if_pos (by omega)] | rw [if_neg (by omega)])⟩ | exact Or.inr (Or.inl ⟨by first | omega | (refine ⟨by omega, by omega, ?_⟩; unfold undB; simp; omega), by first | rfl | omega, by first | rfl | (rw [show n = 1 by omega]; done) | (rw [show n = 0 by omega]; done) | (rw [show z = 1 by omega]; done) | (rw [show z = 0 by omega]; done) | (unfold zwith; first | rw [if_pos (by omega)] | rw [if_neg (by omega)])⟩) | exact Or.inr (Or.inr (Or.inl ⟨by first | omega | (refine ⟨by omega, by omega, ?_⟩; unfold undB; simp; omega), by first | rfl | omega, by first | rfl | (rw [show n = 1 by omega]; done) | (rw [show n = 0 by omega]; done) | (rw [show z = 1 by omega]; done) | (rw [show z = 0 by omega]; done) | (unfold zwith; first | rw [if_pos (by omega)] | rw [if_neg (by omega)])⟩)) | exact Or.inr (Or.inr (Or.inr (⟨by first | omega | (refine ⟨by omega, by omega, ?_⟩; unfold undB; simp; omega), by first | rfl | omega, by first | rfl | (rw [show n = 1 by omega]; done) | (rw [show n = 0 by omega]; done) | (rw [show z = 1 by omega]; done) | (rw [show z = 0 by omega]; done) | (unfold zwith; first | rw [if_pos (by omega)] | rw [if_neg (by omega)])⟩)))
                · skip
                  refine g_iload_n (M := mX11_taken) (pc := 61) dX11_taken_61 rfl (k := ?_)
                  refine g_iconst (M := mX11_taken) (pc := 62) dX11_taken_62 (k := ?_)
                  refine g_icmp_ne (M := mX11_taken) (pc := 63) (tgt := 76) (by omega) (by omega) dX11_taken_63 (k1 := fun h63 => ?_) (k2 := fun h63 => ?_)
                  · skip
                    refine g_bipush (M := mX11_taken) (pc := 76) dX11_taken_76 (k := ?_)
                    refine g_iret (M := mX11_taken) (pc := 78) rfl dX11_taken_78 rfl ⟨_, _, rfl, rfl, ?_⟩
                    refine ⟨?_, rfl⟩
                    · unfold takenJ; first | exact Or.inl ⟨by first | omega | (refine ⟨by omega, by omega, ?_⟩; unfold undB; simp; omega), by first | rfl | omega, by first | rfl | (rw [show n = 1 by omega]; done) | (rw [show n = 0 by omega]; done) | (rw [show z = 1 by omega]; done) | (rw [show z = 0 by omega]; done) | (unfold zwith; first | rw [if_pos (by omega)] | rw [if_neg (by omega)])⟩ | exact Or.inr (Or.inl ⟨by first | omega | (refine ⟨by omega, by omega, ?_⟩; unfold undB; simp; omega), by first | rfl | omega, by first | rfl | (rw [show n = 1 by omega]; done) | (rw [show n = 0 by omega]; done) | (rw [show z = 1 by omega]; done) | (rw [show z = 0 by omega]; done) | (unfold zwith; first | rw [if_pos (by omega)] | rw [if_neg (by omega)])⟩) | exact Or.inr (Or.inr (Or.inl ⟨by first | omega | (refine ⟨by omega, by omega, ?_⟩; unfold undB; simp; omega), by first | rfl | omega, by first | rfl | (rw [show n = 1 by omega]; done) | (rw [show n = 0 by omega]; done) | (rw [show z = 1 by omega]; done) | (rw [show z = 0 by omega]; done) | (unfold zwith; first | rw [if_pos (by omega)] | rw [if_neg (by omega)])⟩)) | exact Or.inr (Or.inr (Or.inr (⟨by first | omega | (refine ⟨by omega, by omega, ?_⟩; unfold undB; simp; omega), by first | rfl | omega, by first | rfl | (rw [show n = 1 by omega]; done) | (rw [show n = 0 by omega]; done) | (rw [show z = 1 by omega]; done) | (rw [show z = 0 by omega]; done) | (unfold zwith; first | rw [if_pos (by omega)] | rw [if_neg (by omega)])⟩)))
                  · skip
                    refine g_iload_n (M := mX11_taken) (pc := 66) dX11_taken_66 rfl (k := ?_)
                    refine g_bipush (M := mX11_taken) (pc := 67) dX11_taken_67 (k := ?_)
                    refine g_icmp_ne (M := mX11_taken) (pc := 69) (tgt := 76) (by omega) (by omega) dX11_taken_69 (k1 := fun h69 => ?_) (k2 := fun h69 => ?_)
                    · skip
                      refine g_bipush (M := mX11_taken) (pc := 76) dX11_taken_76 (k := ?_)
                      refine g_iret (M := mX11_taken) (pc := 78) rfl dX11_taken_78 rfl ⟨_, _, rfl, rfl, ?_⟩
                      refine ⟨?_, rfl⟩
                      · unfold takenJ; first | exact Or.inl ⟨by first | omega | (refine ⟨by omega, by omega, ?_⟩; unfold undB; simp; omega), by first | rfl | omega, by first | rfl | (rw [show n = 1 by omega]; done) | (rw [show n = 0 by omega]; done) | (rw [show z = 1 by omega]; done) | (rw [show z = 0 by omega]; done) | (unfold zwith; first | rw [if_pos (by omega)] | rw [if_neg (by omega)])⟩ | exact Or.inr (Or.inl ⟨by first | omega | (refine ⟨by omega, by omega, ?_⟩; unfold undB; simp; omega), by first | rfl | omega, by first | rfl | (rw [show n = 1 by omega]; done) | (rw [show n = 0 by omega]; done) | (rw [show z = 1 by omega]; done) | (rw [show z = 0 by omega]; done) | (unfold zwith; first | rw [if_pos (by omega)] | rw [if_neg (by omega)])⟩) | exact Or.inr (Or.inr (Or.inl ⟨by first | omega | (refine ⟨by omega, by omega, ?_⟩; unfold undB; simp; omega), by first | rfl | omega, by first | rfl | (rw [show n = 1 by omega]; done) | (rw [show n = 0 by omega]; done) | (rw [show z = 1 by omega]; done) | (rw [show z = 0 by omega]; done) | (unfold zwith; first | rw [if_pos (by omega)] | rw [if_neg (by omega)])⟩)) | exact Or.inr (Or.inr (Or.inr (⟨by first | omega | (refine ⟨by omega, by omega, ?_⟩; unfold undB; simp; omega), by first | rfl | omega, by first | rfl | (rw [show n = 1 by omega]; done) | (rw [show n = 0 by omega]; done) | (rw [show z = 1 by omega]; done) | (rw [show z = 0 by omega]; done) | (unfold zwith; first | rw [if_pos (by omega)] | rw [if_neg (by omega)])⟩)))
                    · skip
                      refine g_iload_n (M := mX11_taken) (pc := 72) dX11_taken_72 rfl (k := ?_)
                      refine g_goto (M := mX11_taken) (pc := 73) (tgt := 78) dX11_taken_73 (k := ?_)
                      refine g_iret (M := mX11_taken) (pc := 78) rfl dX11_taken_78 rfl ⟨_, _, rfl, rfl, ?_⟩
                      refine ⟨?_, rfl⟩
                      · unfold takenJ; first | exact Or.inl ⟨by first | omega | (refine ⟨by omega, by omega, ?_⟩; unfold undB; simp; omega), by first | rfl | omega, by first | rfl | (rw [show n = 1 by omega]; done) | (rw [show n = 0 by omega]; done) | (rw [show z = 1 by omega]; done) | (rw [show z = 0 by omega]; done) | (unfold zwith; first | rw [if_pos (by omega)] | rw [if_neg (by omega)])⟩ | exact Or.inr (Or.inl ⟨by first | omega | (refine ⟨by omega, by omega, ?_⟩; unfold undB; simp; omega), by first | rfl | omega, by first | rfl | (rw [show n = 1 by omega]; done) | (rw [show n = 0 by omega]; done) | (rw [show z = 1 by omega]; done) | (rw [show z = 0 by omega]; done) | (unfold zwith; first | rw [if_pos (by omega)] | rw [if_neg (by omega)])⟩) | exact Or.inr (Or.inr (Or.inl ⟨by first | omega | (refine ⟨by omega, by omega, ?_⟩; unfold undB; simp; omega), by first | rfl | omega, by first | rfl | (rw [show n = 1 by omega]; done) | (rw [show n = 0 by omega]; done) | (rw [show z = 1 by omega]; done) | (rw [show z = 0 by omega]; done) | (unfold zwith; first | rw [if_pos (by omega)] | rw [if_neg (by omega)])⟩)) | exact Or.inr (Or.inr (Or.inr (⟨by first | omega | (refine ⟨by omega, by omega, ?_⟩; unfold undB; simp; omega), by first | rfl | omega, by first | rfl | (rw [show n = 1 by omega]; done) | (rw [show n = 0 by omega]; done) | (rw [show z = 1 by omega]; done) | (rw [show z = 0 by omega]; done) | (unfold zwith; first | rw [if_pos (by omega)] | rw [if_neg (by omega)])⟩)))
    · skip
      refine g_bipush (M := mX11_taken) (pc := 22) dX11_taken_22 (k := ?_)
      refine g_iret (M := mX11_taken) (pc := 24) rfl dX11_taken_24 rfl ⟨_, _, rfl, rfl, ?_⟩
      refine ⟨?_, rfl⟩
      · unfold takenJ; first | exact Or.inl ⟨by first | omega | (refine ⟨by omega, by omega, ?_⟩; unfold undB; simp; omega), by first | rfl | omega, by first | rfl | (rw [show n = 1 by omega]; done) | (rw [show n = 0 by omega]; done) | (rw [show z = 1 by omega]; done) | (rw [show z = 0 by omega]; done) | (unfold zwith; first | rw [if_pos (by omega)] | rw [if_neg (by omega)])⟩ | exact Or.inr (Or.inl ⟨by first | omega | (refine ⟨by omega, by omega, ?_⟩; unfold undB; simp; omega), by first | rfl | omega, by first | rfl | (rw [show n = 1 by omega]; done) | (rw [show n = 0 by omega]; done) | (rw [show z = 1 by omega]; done) | (rw [show z = 0 by omega]; done) | (unfold zwith; first | rw [if_pos (by omega)] | rw [if_neg (by omega)])⟩) | exact Or.inr (Or.inr (Or.inl ⟨by first | omega | (refine ⟨by omega, by omega, ?_⟩; unfold undB; simp; omega), by first | rfl | omega, by first | rfl | (rw [show n = 1 by omega]; done) | (rw [show n = 0 by omega]; done) | (rw [show z = 1 by omega]; done) | (rw [show z = 0 by omega]; done) | (unfold zwith; first | rw [if_pos (by omega)] | rw [if_neg (by omega)])⟩)) | exact Or.inr (Or.inr (Or.inr (⟨by first | omega | (refine ⟨by omega, by omega, ?_⟩; unfold undB; simp; omega), by first | rfl | omega, by first | rfl | (rw [show n = 1 by omega]; done) | (rw [show n = 0 by omega]; done) | (rw [show z = 1 by omega]; done) | (rw [show z = 0 by omega]; done) | (unfold zwith; first | rw [if_pos (by omega)] | rw [if_neg (by omega)])⟩)))
  · skip
    refine g_bipush (M := mX11_taken) (pc := 11) dX11_taken_11 (k := ?_)
    refine g_iret (M := mX11_taken) (pc := 13) rfl dX11_taken_13 rfl ⟨_, _, rfl, rfl, ?_⟩
    refine ⟨?_, rfl⟩
    · unfold takenJ; first | exact Or.inl ⟨by first | omega | (refine ⟨by omega, by omega, ?_⟩; unfold undB; simp; omega), by first | rfl | omega, by first | rfl | (rw [show n = 1 by omega]; done) | (rw [show n = 0 by omega]; done) | (rw [show z = 1 by omega]; done) | (rw [show z = 0 by omega]; done) | (unfold zwith; first | rw [if_pos (by omega)] | rw [if_neg (by omega)])⟩ | exact Or.inr (Or.inl ⟨by first | omega | (refine ⟨by omega, by omega, ?_⟩; unfold undB; simp; omega), by first | rfl | omega, by first | rfl | (rw [show n = 1 by omega]; done) | (rw [show n = 0 by omega]; done) | (rw [show z = 1 by omega]; done) | (rw [show z = 0 by omega]; done) | (unfold zwith; first | rw [if_pos (by omega)] | rw [if_neg (by omega)])⟩) | exact Or.inr (Or.inr (Or.inl ⟨by first | omega | (refine ⟨by omega, by omega, ?_⟩; unfold undB; simp; omega), by first | rfl | omega, by first | rfl | (rw [show n = 1 by omega]; done) | (rw [show n = 0 by omega]; done) | (rw [show z = 1 by omega]; done) | (rw [show z = 0 by omega]; done) | (unfold zwith; first | rw [if_pos (by omega)] | rw [if_neg (by omega)])⟩)) | exact Or.inr (Or.inr (Or.inr (⟨by first | omega | (refine ⟨by omega, by omega, ?_⟩; unfold undB; simp; omega), by first | rfl | omega, by first | rfl | (rw [show n = 1 by omega]; done) | (rw [show n = 0 by omega]; done) | (rw [show z = 1 by omega]; done) | (rw [show z = 0 by omega]; done) | (unfold zwith; first | rw [if_pos (by omega)] | rw [if_neg (by omega)])⟩)))
set_option maxHeartbeats 4000000 in
set_option maxRecDepth 20000 in
theorem c_X11_count (Γ : KT) (t : Nat) (σ : Nat → Int → Int) (w : Int) (hI : InvJ σ) (hw : R32 w) : Ct Γ mX11_count 1 (0, 0) [vR Γ 69, vI w] (113, ρT t, σ) (pI 113 (ρT t) (fun r σ' => σ' = σ)) := by
  refine Ct.of rfl (Nat.le_of_ble_eq_true rfl) ?_
  show G Γ mX11_count 1 (0, 0) _ (0, 0) 0 [some (vR Γ 69), some (vI w)] [] (113, ρT t, σ)
  refine g_iload_n (M := mX11_count) (pc := 0) dX11_count_0 rfl (k := ?_)
  by_cases hsw1 : w < 0 ∨ 7 < w
  · skip
    refine g_tableOut (M := mX11_count) (pc := 1) (tgt := 88) (by omega) dX11_count_1 (h := hsw1) (k := ?_)
    refine g_bipush (M := mX11_count) (pc := 88) dX11_count_88 (k := ?_)
    refine g_iret (M := mX11_count) (pc := 90) rfl dX11_count_90 rfl ⟨_, _, rfl, rfl, ?_⟩
    rfl
  · obtain hc1 | hc1 | hc1 | hc1 | hc1 | hc1 | hc1 | hc1 : w = 0 ∨ w = 1 ∨ w = 2 ∨ w = 3 ∨ w = 4 ∨ w = 5 ∨ w = 6 ∨ w = 7 := by omega
    · skip
      refine g_tableIn (M := mX11_count) (pc := 1) (tgt := 48) (by omega) dX11_count_1 (0) hc1 (k := ?_)
      refine g_aload_n (M := mX11_count) (pc := 48) dX11_count_48 rfl (k := ?_)
      refine g_get (M := mX11_count) (pc := 49) (ji := 0) (by rfl) fX11_0 kX11_7 dX11_count_49 (kk := fun hr49 => ?_)
      have hb49 := jv69_0 hI 0 (by omega) (by omega)
      refine g_iret (M := mX11_count) (pc := 52) rfl dX11_count_52 rfl ⟨_, _, rfl, rfl, ?_⟩
      rfl
    · skip
      refine g_tableIn (M := mX11_count) (pc := 1) (tgt := 53) (by omega) dX11_count_1 (1) hc1 (k := ?_)
      refine g_aload_n (M := mX11_count) (pc := 53) dX11_count_53 rfl (k := ?_)
      refine g_get (M := mX11_count) (pc := 54) (ji := 1) (by rfl) fX11_1 kX11_13 dX11_count_54 (kk := fun hr54 => ?_)
      have hb54 := jv69_1 hI 1 (by omega) (by omega)
      refine g_iret (M := mX11_count) (pc := 57) rfl dX11_count_57 rfl ⟨_, _, rfl, rfl, ?_⟩
      rfl
    · skip
      refine g_tableIn (M := mX11_count) (pc := 1) (tgt := 58) (by omega) dX11_count_1 (2) hc1 (k := ?_)
      refine g_aload_n (M := mX11_count) (pc := 58) dX11_count_58 rfl (k := ?_)
      refine g_get (M := mX11_count) (pc := 59) (ji := 10) (by rfl) fX11_10 kX11_41 dX11_count_59 (kk := fun hr59 => ?_)
      have hb59 := jv69_10 hI 10 (by omega) (by omega)
      refine g_iret (M := mX11_count) (pc := 62) rfl dX11_count_62 rfl ⟨_, _, rfl, rfl, ?_⟩
      rfl
    · skip
      refine g_tableIn (M := mX11_count) (pc := 1) (tgt := 63) (by omega) dX11_count_1 (3) hc1 (k := ?_)
      refine g_aload_n (M := mX11_count) (pc := 63) dX11_count_63 rfl (k := ?_)
      refine g_get (M := mX11_count) (pc := 64) (ji := 34) (by rfl) fX11_34 kX11_114 dX11_count_64 (kk := fun hr64 => ?_)
      have hb64 := jv69_34 hI 34 (by omega) (by omega)
      refine g_iret (M := mX11_count) (pc := 67) rfl dX11_count_67 rfl ⟨_, _, rfl, rfl, ?_⟩
      rfl
    · skip
      refine g_tableIn (M := mX11_count) (pc := 1) (tgt := 68) (by omega) dX11_count_1 (4) hc1 (k := ?_)
      refine g_aload_n (M := mX11_count) (pc := 68) dX11_count_68 rfl (k := ?_)
      refine g_get (M := mX11_count) (pc := 69) (ji := 38) (by rfl) fX11_38 kX11_126 dX11_count_69 (kk := fun hr69 => ?_)
      have hb69 := jv69_38 hI 38 (by omega) (by omega)
      refine g_iret (M := mX11_count) (pc := 72) rfl dX11_count_72 rfl ⟨_, _, rfl, rfl, ?_⟩
      rfl
    · skip
      refine g_tableIn (M := mX11_count) (pc := 1) (tgt := 73) (by omega) dX11_count_1 (5) hc1 (k := ?_)
      refine g_aload_n (M := mX11_count) (pc := 73) dX11_count_73 rfl (k := ?_)
      refine g_get (M := mX11_count) (pc := 74) (ji := 41) (by rfl) fX11_41 kX11_135 dX11_count_74 (kk := fun hr74 => ?_)
      have hb74 := jv69_41 hI 41 (by omega) (by omega)
      refine g_iret (M := mX11_count) (pc := 77) rfl dX11_count_77 rfl ⟨_, _, rfl, rfl, ?_⟩
      rfl
    · skip
      refine g_tableIn (M := mX11_count) (pc := 1) (tgt := 78) (by omega) dX11_count_1 (6) hc1 (k := ?_)
      refine g_aload_n (M := mX11_count) (pc := 78) dX11_count_78 rfl (k := ?_)
      refine g_get (M := mX11_count) (pc := 79) (ji := 12) (by rfl) fX11_12 kX11_47 dX11_count_79 (kk := fun hr79 => ?_)
      have hb79 := jv69_12 hI 12 (by omega) (by omega)
      refine g_iret (M := mX11_count) (pc := 82) rfl dX11_count_82 rfl ⟨_, _, rfl, rfl, ?_⟩
      rfl
    · skip
      refine g_tableIn (M := mX11_count) (pc := 1) (tgt := 83) (by omega) dX11_count_1 (7) hc1 (k := ?_)
      refine g_aload_n (M := mX11_count) (pc := 83) dX11_count_83 rfl (k := ?_)
      refine g_get (M := mX11_count) (pc := 84) (ji := 64) (by rfl) fX11_64 kX11_205 dX11_count_84 (kk := fun hr84 => ?_)
      have hb84 := jv69_64 hI 64 (by omega) (by omega)
      refine g_iret (M := mX11_count) (pc := 87) rfl dX11_count_87 rfl ⟨_, _, rfl, rfl, ?_⟩
      rfl
set_option maxHeartbeats 4000000 in
set_option maxRecDepth 20000 in
theorem c_X11_tape (Γ : KT) (t : Nat) (σ : Nat → Int → Int) (tp : Int) (s : Int) (n : Int) (hI : InvJ σ) (htp : R32 tp) (hs : R32 s) (hn : R32 n) : Ct Γ mX11_tape 3 (0, 0) [vR Γ 69, vI tp, vI s, vI n] (113, ρT t, σ) (pI 113 (ρT t) (fun r σ' => (r = tapeF tp s n) ∧ ((¬ tapeOK tp s n ∧ σ' = σ) ∨ (tapeOK tp s n ∧ becJ σ tp s (lenF s n) σ')) ∧ (InvJ σ') ∧ (Fr jcTp σ σ'))) := by
  refine Ct.of rfl (Nat.le_of_ble_eq_true rfl) ?_
  show G Γ mX11_tape 3 (0, 0) _ (0, 0) 0 [some (vR Γ 69), some (vI tp), some (vI s), some (vI n), none] [] (113, ρT t, σ)
  refine g_aload_n (M := mX11_tape) (pc := 0) dX11_tape_0 rfl (k := ?_)
  refine g_iload_n (M := mX11_tape) (pc := 1) dX11_tape_1 rfl (k := ?_)
  refine g_cV1I (M := mX11_tape) (pc := 2) (c_X11_isTape Γ t _ _ (by omega)) qX11_isTape vX11_isTape sX11_isTape kX11_370 dX11_tape_2 (kk := ?_)
  rintro _ _ ⟨e1, e⟩; rw [e1, e]; clear e1 e
  refine g_if_neB (M := mX11_tape) (pc := 5) (tgt := 10) dX11_tape_5 (k1 := fun h5 => ?_) (k2 := fun h5 => ?_)
  · skip
    refine g_aload_n (M := mX11_tape) (pc := 10) dX11_tape_10 rfl (k := ?_)
    refine g_iload_n (M := mX11_tape) (pc := 11) dX11_tape_11 rfl (k := ?_)
    refine g_iconst (M := mX11_tape) (pc := 12) dX11_tape_12 (k := ?_)
    refine g_iconst (M := mX11_tape) (pc := 13) dX11_tape_13 (k := ?_)
    refine g_cV3I (M := mX11_tape) (pc := 14) (c_X11_in Γ t _ _ _ _ (by omega) (by omega) (by omega)) qX11_in vX11_in sX11_in kX11_224 dX11_tape_14 (kk := ?_)
    rintro _ _ ⟨e1, e⟩; rw [e1, e]; clear e1 e
    refine g_if_eqB (M := mX11_tape) (pc := 17) (tgt := 30) dX11_tape_17 (k1 := fun h17 => ?_) (k2 := fun h17 => ?_)
    · skip
      refine g_bipush (M := mX11_tape) (pc := 30) dX11_tape_30 (k := ?_)
      refine g_iret (M := mX11_tape) (pc := 32) rfl dX11_tape_32 rfl ⟨_, _, rfl, rfl, ?_⟩
      refine ⟨?_, ?_, ?_, ?_⟩
      · unfold tapeF; repeat (first | rw [if_pos (by omega)] | rw [if_neg (by omega)]); try omega
      · first | exact Or.inl ⟨by unfold tapeOK; omega, rfl⟩ | exact Or.inr ⟨by unfold tapeOK; omega, hx69_0, hx69_1, fun j => by rw [hx69_2 j, show q = 60 by omega]⟩
      · exact hI
      · exact (Fr.rf)
    · skip
      refine g_iload_n (M := mX11_tape) (pc := 20) dX11_tape_20 rfl (k := ?_)
      refine g_if_lt (M := mX11_tape) (pc := 21) (tgt := 33) (by omega) dX11_tape_21 (k1 := fun h21 => ?_) (k2 := fun h21 => ?_)
      · skip
        refine g_iload_n (M := mX11_tape) (pc := 33) dX11_tape_33 rfl (k := ?_)
        refine g_if_lt (M := mX11_tape) (pc := 34) (tgt := 44) (by omega) dX11_tape_34 (k1 := fun h34 => ?_) (k2 := fun h34 => ?_)
        · skip
          refine g_aload_n (M := mX11_tape) (pc := 44) dX11_tape_44 rfl (k := ?_)
          refine g_getr (M := mX11_tape) (pc := 45) (by rfl) fX11_66 kX11_211 dX11_tape_45 (by rfl) (kk := ?_)
          refine g_iload_n (M := mX11_tape) (pc := 48) dX11_tape_48 rfl (k := ?_)
          refine g_iload_n (M := mX11_tape) (pc := 49) dX11_tape_49 rfl (k := ?_)
          refine g_iast (M := mX11_tape) (pc := 50) (by rfl) (by omega) (by omega) (by omega) dX11_tape_50 (kk := ?_)
          refine g_aload_n (M := mX11_tape) (pc := 51) dX11_tape_51 rfl (k := ?_)
          refine g_getr (M := mX11_tape) (pc := 52) (by rfl) fX11_67 kX11_214 dX11_tape_52 (by rfl) (kk := ?_)
          refine g_iload_n (M := mX11_tape) (pc := 55) dX11_tape_55 rfl (k := ?_)
          refine g_iload_n (M := mX11_tape) (pc := 56) dX11_tape_56 rfl (k := ?_)
          refine g_if_ge (M := mX11_tape) (pc := 57) (tgt := 64) (by omega) dX11_tape_57 (k1 := fun h57 => ?_) (k2 := fun h57 => ?_)
          · skip
            refine g_iload_n (M := mX11_tape) (pc := 64) dX11_tape_64 rfl (k := ?_)
            refine g_iast (M := mX11_tape) (pc := 65) (by rfl) (by omega) (by omega) (by omega) dX11_tape_65 (kk := ?_)
            refine g_iconst (M := mX11_tape) (pc := 66) dX11_tape_66 (k := ?_)
            refine g_istore_4 (M := mX11_tape) (pc := 67) dX11_tape_67 (k := ?_)
            have loop69 : ∀ (N : Nat) (τ69 : Nat → Int → Int) (q : Int), ((61 - q).toNat) < N → ((InvJ τ69) ∧ (Fr jcTp σ τ69) ∧ (0 ≤ q ∧ q ≤ 60) ∧ (∀ j, τ69 109 j = if j = tp then s else σ 109 j) ∧ (∀ j, τ69 110 j = if j = tp then lenF s n else σ 110 j) ∧ (∀ j, τ69 111 j = if 60 * tp ≤ j ∧ j < 60 * tp + q then 0 else σ 111 j)) → G Γ mX11_tape 3 (0, 0) (pI 113 (ρT t) (fun r σ' => (r = tapeF tp s n) ∧ ((¬ tapeOK tp s n ∧ σ' = σ) ∨ (tapeOK tp s n ∧ becJ σ tp s (lenF s n) σ')) ∧ (InvJ σ') ∧ (Fr jcTp σ σ'))) (0, 0) 69 [some (vR Γ 69), some (vI tp), some (vI s), some (vI n), some (vI q)] [] (113, ρT t, τ69) := by
              intro N
              induction N with
              | zero => intro τ69 q hmu69 hinv69; exact absurd hmu69 (Nat.not_lt_zero _)
              | succ N ih69 =>
                intro τ69 q hmu69 hinv69
                obtain ⟨hI69, hF69, hb69_q, hx69_0, hx69_1, hx69_2⟩ := hinv69
                refine g_iload (M := mX11_tape) (pc := 69) dX11_tape_69 rfl (k := ?_)
                refine g_bipush (M := mX11_tape) (pc := 71) dX11_tape_71 (k := ?_)
                refine g_icmp_ge (M := mX11_tape) (pc := 73) (tgt := 95) (by omega) (by omega) dX11_tape_73 (k1 := fun h73 => ?_) (k2 := fun h73 => ?_)
                · skip
                  refine g_iconst (M := mX11_tape) (pc := 95) dX11_tape_95 (k := ?_)
                  refine g_iret (M := mX11_tape) (pc := 96) rfl dX11_tape_96 rfl ⟨_, _, rfl, rfl, ?_⟩
                  refine ⟨?_, ?_, ?_, ?_⟩
                  · unfold tapeF; repeat (first | rw [if_pos (by omega)] | rw [if_neg (by omega)]); try omega
                  · first | exact Or.inl ⟨by unfold tapeOK; omega, rfl⟩ | exact Or.inr ⟨by unfold tapeOK; omega, hx69_0, hx69_1, fun j => by rw [hx69_2 j, show q = 60 by omega]⟩
                  · exact hI69
                  · exact hF69
                · skip
                  refine g_aload_n (M := mX11_tape) (pc := 76) dX11_tape_76 rfl (k := ?_)
                  refine g_getr (M := mX11_tape) (pc := 77) (by rfl) fX11_68 kX11_217 dX11_tape_77 (by rfl) (kk := ?_)
                  refine g_bipush (M := mX11_tape) (pc := 80) dX11_tape_80 (k := ?_)
                  refine g_iload_n (M := mX11_tape) (pc := 82) dX11_tape_82 rfl (k := ?_)
                  refine g_imul (M := mX11_tape) (pc := 83) dX11_tape_83 (k := ?_)
                  refine g_iload (M := mX11_tape) (pc := 84) dX11_tape_84 rfl (k := ?_)
                  refine g_iadd (M := mX11_tape) (pc := 86) dX11_tape_86 (k := ?_)
                  refine g_lconst (M := mX11_tape) (pc := 87) (x := 0) dX11_tape_87 (k := ?_)
                  refine g_last (M := mX11_tape) (pc := 88) (by rfl) (by omega) (by omega) (by omega) dX11_tape_88 (kk := ?_)
                  refine g_iinc_4 (M := mX11_tape) (pc := 89) dX11_tape_89 (k := ?_)
                  refine g_goto (M := mX11_tape) (pc := 92) (tgt := 69) dX11_tape_92 (k := ?_)
                  refine ih69 _ _ ?_ ?_
                  · omega
                  · skip
                    refine ⟨?_, ?_, ?_, ?_, ?_, ?_⟩
                    · refine jv_cell ?_ (by rfl); exact hI69
                    · refine Fr.up ?_ (by first | rfl | (unfold jcTp; simp; try omega)); exact hF69
                    · omega
                    · intro j; first | (simp [up]; done) | (rw [up_cell (by decide)]; exact hx69_0 j)
                    · intro j; first | (rw [show lenF s n = 0 from if_pos (by omega)]; simp [up]; done) | (rw [show lenF s n = n from if_neg (by omega)]; simp [up]; done) | (rw [up_cell (by decide)]; exact hx69_1 j)
                    · intro j; first | (rw [if_neg (by omega)]; simp [up]; done) | (by_cases e : j = 60 * tp + q; (rw [e, up_same, if_pos (by omega)]); rw [up_slot e, hx69_2 j]; by_cases c : 60 * tp ≤ j ∧ j < 60 * tp + q; (rw [if_pos c, if_pos (by omega)]); rw [if_neg c, if_neg (by omega)])
            refine loop69 _ _ _ (Nat.lt_succ_self _) ?_
            refine ⟨?_, ?_, ?_, ?_, ?_, ?_⟩
            · refine jvu110 ?_ (by omega) (by omega); refine jvu109 ?_ (by omega) (by omega); exact hI
            · refine Fr.up ?_ (by first | rfl | (unfold jcTp; simp; try omega)); refine Fr.up ?_ (by first | rfl | (unfold jcTp; simp; try omega)); exact (Fr.rf)
            · omega
            · intro j; first | (simp [up]; done) | (rw [up_cell (by decide)]; exact hx69_0 j)
            · intro j; first | (rw [show lenF s n = 0 from if_pos (by omega)]; simp [up]; done) | (rw [show lenF s n = n from if_neg (by omega)]; simp [up]; done) | (rw [up_cell (by decide)]; exact hx69_1 j)
            · intro j; first | (rw [if_neg (by omega)]; simp [up]; done) | (by_cases e : j = 60 * tp + q; (rw [e, up_same, if_pos (by omega)]); rw [up_slot e, hx69_2 j]; by_cases c : 60 * tp ≤ j ∧ j < 60 * tp + q; (rw [if_pos c, if_pos (by omega)]); rw [if_neg c, if_neg (by omega)])
          · skip
            refine g_iconst (M := mX11_tape) (pc := 60) dX11_tape_60 (k := ?_)
            refine g_goto (M := mX11_tape) (pc := 61) (tgt := 65) dX11_tape_61 (k := ?_)
            refine g_iast (M := mX11_tape) (pc := 65) (by rfl) (by omega) (by omega) (by omega) dX11_tape_65 (kk := ?_)
            refine g_iconst (M := mX11_tape) (pc := 66) dX11_tape_66 (k := ?_)
            refine g_istore_4 (M := mX11_tape) (pc := 67) dX11_tape_67 (k := ?_)
            have loop69 : ∀ (N : Nat) (τ69 : Nat → Int → Int) (q : Int), ((61 - q).toNat) < N → ((InvJ τ69) ∧ (Fr jcTp σ τ69) ∧ (0 ≤ q ∧ q ≤ 60) ∧ (∀ j, τ69 109 j = if j = tp then s else σ 109 j) ∧ (∀ j, τ69 110 j = if j = tp then lenF s n else σ 110 j) ∧ (∀ j, τ69 111 j = if 60 * tp ≤ j ∧ j < 60 * tp + q then 0 else σ 111 j)) → G Γ mX11_tape 3 (0, 0) (pI 113 (ρT t) (fun r σ' => (r = tapeF tp s n) ∧ ((¬ tapeOK tp s n ∧ σ' = σ) ∨ (tapeOK tp s n ∧ becJ σ tp s (lenF s n) σ')) ∧ (InvJ σ') ∧ (Fr jcTp σ σ'))) (0, 0) 69 [some (vR Γ 69), some (vI tp), some (vI s), some (vI n), some (vI q)] [] (113, ρT t, τ69) := by
              intro N
              induction N with
              | zero => intro τ69 q hmu69 hinv69; exact absurd hmu69 (Nat.not_lt_zero _)
              | succ N ih69 =>
                intro τ69 q hmu69 hinv69
                obtain ⟨hI69, hF69, hb69_q, hx69_0, hx69_1, hx69_2⟩ := hinv69
                refine g_iload (M := mX11_tape) (pc := 69) dX11_tape_69 rfl (k := ?_)
                refine g_bipush (M := mX11_tape) (pc := 71) dX11_tape_71 (k := ?_)
                refine g_icmp_ge (M := mX11_tape) (pc := 73) (tgt := 95) (by omega) (by omega) dX11_tape_73 (k1 := fun h73 => ?_) (k2 := fun h73 => ?_)
                · skip
                  refine g_iconst (M := mX11_tape) (pc := 95) dX11_tape_95 (k := ?_)
                  refine g_iret (M := mX11_tape) (pc := 96) rfl dX11_tape_96 rfl ⟨_, _, rfl, rfl, ?_⟩
                  refine ⟨?_, ?_, ?_, ?_⟩
                  · unfold tapeF; repeat (first | rw [if_pos (by omega)] | rw [if_neg (by omega)]); try omega
                  · first | exact Or.inl ⟨by unfold tapeOK; omega, rfl⟩ | exact Or.inr ⟨by unfold tapeOK; omega, hx69_0, hx69_1, fun j => by rw [hx69_2 j, show q = 60 by omega]⟩
                  · exact hI69
                  · exact hF69
                · skip
                  refine g_aload_n (M := mX11_tape) (pc := 76) dX11_tape_76 rfl (k := ?_)
                  refine g_getr (M := mX11_tape) (pc := 77) (by rfl) fX11_68 kX11_217 dX11_tape_77 (by rfl) (kk := ?_)
                  refine g_bipush (M := mX11_tape) (pc := 80) dX11_tape_80 (k := ?_)
                  refine g_iload_n (M := mX11_tape) (pc := 82) dX11_tape_82 rfl (k := ?_)
                  refine g_imul (M := mX11_tape) (pc := 83) dX11_tape_83 (k := ?_)
                  refine g_iload (M := mX11_tape) (pc := 84) dX11_tape_84 rfl (k := ?_)
                  refine g_iadd (M := mX11_tape) (pc := 86) dX11_tape_86 (k := ?_)
                  refine g_lconst (M := mX11_tape) (pc := 87) (x := 0) dX11_tape_87 (k := ?_)
                  refine g_last (M := mX11_tape) (pc := 88) (by rfl) (by omega) (by omega) (by omega) dX11_tape_88 (kk := ?_)
                  refine g_iinc_4 (M := mX11_tape) (pc := 89) dX11_tape_89 (k := ?_)
                  refine g_goto (M := mX11_tape) (pc := 92) (tgt := 69) dX11_tape_92 (k := ?_)
                  refine ih69 _ _ ?_ ?_
                  · omega
                  · skip
                    refine ⟨?_, ?_, ?_, ?_, ?_, ?_⟩
                    · refine jv_cell ?_ (by rfl); exact hI69
                    · refine Fr.up ?_ (by first | rfl | (unfold jcTp; simp; try omega)); exact hF69
                    · omega
                    · intro j; first | (simp [up]; done) | (rw [up_cell (by decide)]; exact hx69_0 j)
                    · intro j; first | (rw [show lenF s n = 0 from if_pos (by omega)]; simp [up]; done) | (rw [show lenF s n = n from if_neg (by omega)]; simp [up]; done) | (rw [up_cell (by decide)]; exact hx69_1 j)
                    · intro j; first | (rw [if_neg (by omega)]; simp [up]; done) | (by_cases e : j = 60 * tp + q; (rw [e, up_same, if_pos (by omega)]); rw [up_slot e, hx69_2 j]; by_cases c : 60 * tp ≤ j ∧ j < 60 * tp + q; (rw [if_pos c, if_pos (by omega)]); rw [if_neg c, if_neg (by omega)])
            refine loop69 _ _ _ (Nat.lt_succ_self _) ?_
            refine ⟨?_, ?_, ?_, ?_, ?_, ?_⟩
            · refine jvu110 ?_ (by omega) (by omega); refine jvu109 ?_ (by omega) (by omega); exact hI
            · refine Fr.up ?_ (by first | rfl | (unfold jcTp; simp; try omega)); refine Fr.up ?_ (by first | rfl | (unfold jcTp; simp; try omega)); exact (Fr.rf)
            · omega
            · intro j; first | (simp [up]; done) | (rw [up_cell (by decide)]; exact hx69_0 j)
            · intro j; first | (rw [show lenF s n = 0 from if_pos (by omega)]; simp [up]; done) | (rw [show lenF s n = n from if_neg (by omega)]; simp [up]; done) | (rw [up_cell (by decide)]; exact hx69_1 j)
            · intro j; first | (rw [if_neg (by omega)]; simp [up]; done) | (by_cases e : j = 60 * tp + q; (rw [e, up_same, if_pos (by omega)]); rw [up_slot e, hx69_2 j]; by_cases c : 60 * tp ≤ j ∧ j < 60 * tp + q; (rw [if_pos c, if_pos (by omega)]); rw [if_neg c, if_neg (by omega)])
        · skip
          refine g_iload_n (M := mX11_tape) (pc := 37) dX11_tape_37 rfl (k := ?_)
          refine g_if_ge (M := mX11_tape) (pc := 38) (tgt := 44) (by omega) dX11_tape_38 (k1 := fun h38 => ?_) (k2 := fun h38 => ?_)
          · skip
            refine g_aload_n (M := mX11_tape) (pc := 44) dX11_tape_44 rfl (k := ?_)
            refine g_getr (M := mX11_tape) (pc := 45) (by rfl) fX11_66 kX11_211 dX11_tape_45 (by rfl) (kk := ?_)
            refine g_iload_n (M := mX11_tape) (pc := 48) dX11_tape_48 rfl (k := ?_)
            refine g_iload_n (M := mX11_tape) (pc := 49) dX11_tape_49 rfl (k := ?_)
            refine g_iast (M := mX11_tape) (pc := 50) (by rfl) (by omega) (by omega) (by omega) dX11_tape_50 (kk := ?_)
            refine g_aload_n (M := mX11_tape) (pc := 51) dX11_tape_51 rfl (k := ?_)
            refine g_getr (M := mX11_tape) (pc := 52) (by rfl) fX11_67 kX11_214 dX11_tape_52 (by rfl) (kk := ?_)
            refine g_iload_n (M := mX11_tape) (pc := 55) dX11_tape_55 rfl (k := ?_)
            refine g_iload_n (M := mX11_tape) (pc := 56) dX11_tape_56 rfl (k := ?_)
            refine g_if_ge (M := mX11_tape) (pc := 57) (tgt := 64) (by omega) dX11_tape_57 (k1 := fun h57 => ?_) (k2 := fun h57 => ?_)
            · skip
              refine g_iload_n (M := mX11_tape) (pc := 64) dX11_tape_64 rfl (k := ?_)
              refine g_iast (M := mX11_tape) (pc := 65) (by rfl) (by omega) (by omega) (by omega) dX11_tape_65 (kk := ?_)
              refine g_iconst (M := mX11_tape) (pc := 66) dX11_tape_66 (k := ?_)
              refine g_istore_4 (M := mX11_tape) (pc := 67) dX11_tape_67 (k := ?_)
              have loop69 : ∀ (N : Nat) (τ69 : Nat → Int → Int) (q : Int), ((61 - q).toNat) < N → ((InvJ τ69) ∧ (Fr jcTp σ τ69) ∧ (0 ≤ q ∧ q ≤ 60) ∧ (∀ j, τ69 109 j = if j = tp then s else σ 109 j) ∧ (∀ j, τ69 110 j = if j = tp then lenF s n else σ 110 j) ∧ (∀ j, τ69 111 j = if 60 * tp ≤ j ∧ j < 60 * tp + q then 0 else σ 111 j)) → G Γ mX11_tape 3 (0, 0) (pI 113 (ρT t) (fun r σ' => (r = tapeF tp s n) ∧ ((¬ tapeOK tp s n ∧ σ' = σ) ∨ (tapeOK tp s n ∧ becJ σ tp s (lenF s n) σ')) ∧ (InvJ σ') ∧ (Fr jcTp σ σ'))) (0, 0) 69 [some (vR Γ 69), some (vI tp), some (vI s), some (vI n), some (vI q)] [] (113, ρT t, τ69) := by
                intro N
                induction N with
                | zero => intro τ69 q hmu69 hinv69; exact absurd hmu69 (Nat.not_lt_zero _)
                | succ N ih69 =>
                  intro τ69 q hmu69 hinv69
                  obtain ⟨hI69, hF69, hb69_q, hx69_0, hx69_1, hx69_2⟩ := hinv69
                  refine g_iload (M := mX11_tape) (pc := 69) dX11_tape_69 rfl (k := ?_)
                  refine g_bipush (M := mX11_tape) (pc := 71) dX11_tape_71 (k := ?_)
                  refine g_icmp_ge (M := mX11_tape) (pc := 73) (tgt := 95) (by omega) (by omega) dX11_tape_73 (k1 := fun h73 => ?_) (k2 := fun h73 => ?_)
                  · skip
                    refine g_iconst (M := mX11_tape) (pc := 95) dX11_tape_95 (k := ?_)
                    refine g_iret (M := mX11_tape) (pc := 96) rfl dX11_tape_96 rfl ⟨_, _, rfl, rfl, ?_⟩
                    refine ⟨?_, ?_, ?_, ?_⟩
                    · unfold tapeF; repeat (first | rw [if_pos (by omega)] | rw [if_neg (by omega)]); try omega
                    · first | exact Or.inl ⟨by unfold tapeOK; omega, rfl⟩ | exact Or.inr ⟨by unfold tapeOK; omega, hx69_0, hx69_1, fun j => by rw [hx69_2 j, show q = 60 by omega]⟩
                    · exact hI69
                    · exact hF69
                  · skip
                    refine g_aload_n (M := mX11_tape) (pc := 76) dX11_tape_76 rfl (k := ?_)
                    refine g_getr (M := mX11_tape) (pc := 77) (by rfl) fX11_68 kX11_217 dX11_tape_77 (by rfl) (kk := ?_)
                    refine g_bipush (M := mX11_tape) (pc := 80) dX11_tape_80 (k := ?_)
                    refine g_iload_n (M := mX11_tape) (pc := 82) dX11_tape_82 rfl (k := ?_)
                    refine g_imul (M := mX11_tape) (pc := 83) dX11_tape_83 (k := ?_)
                    refine g_iload (M := mX11_tape) (pc := 84) dX11_tape_84 rfl (k := ?_)
                    refine g_iadd (M := mX11_tape) (pc := 86) dX11_tape_86 (k := ?_)
                    refine g_lconst (M := mX11_tape) (pc := 87) (x := 0) dX11_tape_87 (k := ?_)
                    refine g_last (M := mX11_tape) (pc := 88) (by rfl) (by omega) (by omega) (by omega) dX11_tape_88 (kk := ?_)
                    refine g_iinc_4 (M := mX11_tape) (pc := 89) dX11_tape_89 (k := ?_)
                    refine g_goto (M := mX11_tape) (pc := 92) (tgt := 69) dX11_tape_92 (k := ?_)
                    refine ih69 _ _ ?_ ?_
                    · omega
                    · skip
                      refine ⟨?_, ?_, ?_, ?_, ?_, ?_⟩
                      · refine jv_cell ?_ (by rfl); exact hI69
                      · refine Fr.up ?_ (by first | rfl | (unfold jcTp; simp; try omega)); exact hF69
                      · omega
                      · intro j; first | (simp [up]; done) | (rw [up_cell (by decide)]; exact hx69_0 j)
                      · intro j; first | (rw [show lenF s n = 0 from if_pos (by omega)]; simp [up]; done) | (rw [show lenF s n = n from if_neg (by omega)]; simp [up]; done) | (rw [up_cell (by decide)]; exact hx69_1 j)
                      · intro j; first | (rw [if_neg (by omega)]; simp [up]; done) | (by_cases e : j = 60 * tp + q; (rw [e, up_same, if_pos (by omega)]); rw [up_slot e, hx69_2 j]; by_cases c : 60 * tp ≤ j ∧ j < 60 * tp + q; (rw [if_pos c, if_pos (by omega)]); rw [if_neg c, if_neg (by omega)])
              refine loop69 _ _ _ (Nat.lt_succ_self _) ?_
              refine ⟨?_, ?_, ?_, ?_, ?_, ?_⟩
              · refine jvu110 ?_ (by omega) (by omega); refine jvu109 ?_ (by omega) (by omega); exact hI
              · refine Fr.up ?_ (by first | rfl | (unfold jcTp; simp; try omega)); refine Fr.up ?_ (by first | rfl | (unfold jcTp; simp; try omega)); exact (Fr.rf)
              · omega
              · intro j; first | (simp [up]; done) | (rw [up_cell (by decide)]; exact hx69_0 j)
              · intro j; first | (rw [show lenF s n = 0 from if_pos (by omega)]; simp [up]; done) | (rw [show lenF s n = n from if_neg (by omega)]; simp [up]; done) | (rw [up_cell (by decide)]; exact hx69_1 j)
              · intro j; first | (rw [if_neg (by omega)]; simp [up]; done) | (by_cases e : j = 60 * tp + q; (rw [e, up_same, if_pos (by omega)]); rw [up_slot e, hx69_2 j]; by_cases c : 60 * tp ≤ j ∧ j < 60 * tp + q; (rw [if_pos c, if_pos (by omega)]); rw [if_neg c, if_neg (by omega)])
            · skip
              refine g_iconst (M := mX11_tape) (pc := 60) dX11_tape_60 (k := ?_)
              refine g_goto (M := mX11_tape) (pc := 61) (tgt := 65) dX11_tape_61 (k := ?_)
              refine g_iast (M := mX11_tape) (pc := 65) (by rfl) (by omega) (by omega) (by omega) dX11_tape_65 (kk := ?_)
              refine g_iconst (M := mX11_tape) (pc := 66) dX11_tape_66 (k := ?_)
              refine g_istore_4 (M := mX11_tape) (pc := 67) dX11_tape_67 (k := ?_)
              have loop69 : ∀ (N : Nat) (τ69 : Nat → Int → Int) (q : Int), ((61 - q).toNat) < N → ((InvJ τ69) ∧ (Fr jcTp σ τ69) ∧ (0 ≤ q ∧ q ≤ 60) ∧ (∀ j, τ69 109 j = if j = tp then s else σ 109 j) ∧ (∀ j, τ69 110 j = if j = tp then lenF s n else σ 110 j) ∧ (∀ j, τ69 111 j = if 60 * tp ≤ j ∧ j < 60 * tp + q then 0 else σ 111 j)) → G Γ mX11_tape 3 (0, 0) (pI 113 (ρT t) (fun r σ' => (r = tapeF tp s n) ∧ ((¬ tapeOK tp s n ∧ σ' = σ) ∨ (tapeOK tp s n ∧ becJ σ tp s (lenF s n) σ')) ∧ (InvJ σ') ∧ (Fr jcTp σ σ'))) (0, 0) 69 [some (vR Γ 69), some (vI tp), some (vI s), some (vI n), some (vI q)] [] (113, ρT t, τ69) := by
                intro N
                induction N with
                | zero => intro τ69 q hmu69 hinv69; exact absurd hmu69 (Nat.not_lt_zero _)
                | succ N ih69 =>
                  intro τ69 q hmu69 hinv69
                  obtain ⟨hI69, hF69, hb69_q, hx69_0, hx69_1, hx69_2⟩ := hinv69
                  refine g_iload (M := mX11_tape) (pc := 69) dX11_tape_69 rfl (k := ?_)
                  refine g_bipush (M := mX11_tape) (pc := 71) dX11_tape_71 (k := ?_)
                  refine g_icmp_ge (M := mX11_tape) (pc := 73) (tgt := 95) (by omega) (by omega) dX11_tape_73 (k1 := fun h73 => ?_) (k2 := fun h73 => ?_)
                  · skip
                    refine g_iconst (M := mX11_tape) (pc := 95) dX11_tape_95 (k := ?_)
                    refine g_iret (M := mX11_tape) (pc := 96) rfl dX11_tape_96 rfl ⟨_, _, rfl, rfl, ?_⟩
                    refine ⟨?_, ?_, ?_, ?_⟩
                    · unfold tapeF; repeat (first | rw [if_pos (by omega)] | rw [if_neg (by omega)]); try omega
                    · first | exact Or.inl ⟨by unfold tapeOK; omega, rfl⟩ | exact Or.inr ⟨by unfold tapeOK; omega, hx69_0, hx69_1, fun j => by rw [hx69_2 j, show q = 60 by omega]⟩
                    · exact hI69
                    · exact hF69
                  · skip
                    refine g_aload_n (M := mX11_tape) (pc := 76) dX11_tape_76 rfl (k := ?_)
                    refine g_getr (M := mX11_tape) (pc := 77) (by rfl) fX11_68 kX11_217 dX11_tape_77 (by rfl) (kk := ?_)
                    refine g_bipush (M := mX11_tape) (pc := 80) dX11_tape_80 (k := ?_)
                    refine g_iload_n (M := mX11_tape) (pc := 82) dX11_tape_82 rfl (k := ?_)
                    refine g_imul (M := mX11_tape) (pc := 83) dX11_tape_83 (k := ?_)
                    refine g_iload (M := mX11_tape) (pc := 84) dX11_tape_84 rfl (k := ?_)
                    refine g_iadd (M := mX11_tape) (pc := 86) dX11_tape_86 (k := ?_)
                    refine g_lconst (M := mX11_tape) (pc := 87) (x := 0) dX11_tape_87 (k := ?_)
                    refine g_last (M := mX11_tape) (pc := 88) (by rfl) (by omega) (by omega) (by omega) dX11_tape_88 (kk := ?_)
                    refine g_iinc_4 (M := mX11_tape) (pc := 89) dX11_tape_89 (k := ?_)
                    refine g_goto (M := mX11_tape) (pc := 92) (tgt := 69) dX11_tape_92 (k := ?_)
                    refine ih69 _ _ ?_ ?_
                    · omega
                    · skip
                      refine ⟨?_, ?_, ?_, ?_, ?_, ?_⟩
                      · refine jv_cell ?_ (by rfl); exact hI69
                      · refine Fr.up ?_ (by first | rfl | (unfold jcTp; simp; try omega)); exact hF69
                      · omega
                      · intro j; first | (simp [up]; done) | (rw [up_cell (by decide)]; exact hx69_0 j)
                      · intro j; first | (rw [show lenF s n = 0 from if_pos (by omega)]; simp [up]; done) | (rw [show lenF s n = n from if_neg (by omega)]; simp [up]; done) | (rw [up_cell (by decide)]; exact hx69_1 j)
                      · intro j; first | (rw [if_neg (by omega)]; simp [up]; done) | (by_cases e : j = 60 * tp + q; (rw [e, up_same, if_pos (by omega)]); rw [up_slot e, hx69_2 j]; by_cases c : 60 * tp ≤ j ∧ j < 60 * tp + q; (rw [if_pos c, if_pos (by omega)]); rw [if_neg c, if_neg (by omega)])
              refine loop69 _ _ _ (Nat.lt_succ_self _) ?_
              refine ⟨?_, ?_, ?_, ?_, ?_, ?_⟩
              · refine jvu110 ?_ (by omega) (by omega); refine jvu109 ?_ (by omega) (by omega); exact hI
              · refine Fr.up ?_ (by first | rfl | (unfold jcTp; simp; try omega)); refine Fr.up ?_ (by first | rfl | (unfold jcTp; simp; try omega)); exact (Fr.rf)
              · omega
              · intro j; first | (simp [up]; done) | (rw [up_cell (by decide)]; exact hx69_0 j)
              · intro j; first | (rw [show lenF s n = 0 from if_pos (by omega)]; simp [up]; done) | (rw [show lenF s n = n from if_neg (by omega)]; simp [up]; done) | (rw [up_cell (by decide)]; exact hx69_1 j)
              · intro j; first | (rw [if_neg (by omega)]; simp [up]; done) | (by_cases e : j = 60 * tp + q; (rw [e, up_same, if_pos (by omega)]); rw [up_slot e, hx69_2 j]; by_cases c : 60 * tp ≤ j ∧ j < 60 * tp + q; (rw [if_pos c, if_pos (by omega)]); rw [if_neg c, if_neg (by omega)])
          · skip
            refine g_bipush (M := mX11_tape) (pc := 41) dX11_tape_41 (k := ?_)
            refine g_iret (M := mX11_tape) (pc := 43) rfl dX11_tape_43 rfl ⟨_, _, rfl, rfl, ?_⟩
            refine ⟨?_, ?_, ?_, ?_⟩
            · unfold tapeF; repeat (first | rw [if_pos (by omega)] | rw [if_neg (by omega)]); try omega
            · first | exact Or.inl ⟨by unfold tapeOK; omega, rfl⟩ | exact Or.inr ⟨by unfold tapeOK; omega, hx69_0, hx69_1, fun j => by rw [hx69_2 j, show q = 60 by omega]⟩
            · exact hI
            · exact (Fr.rf)
      · skip
        refine g_iload_n (M := mX11_tape) (pc := 24) dX11_tape_24 rfl (k := ?_)
        refine g_bipush (M := mX11_tape) (pc := 25) dX11_tape_25 (k := ?_)
        refine g_icmp_le (M := mX11_tape) (pc := 27) (tgt := 33) (by omega) (by omega) dX11_tape_27 (k1 := fun h27 => ?_) (k2 := fun h27 => ?_)
        · skip
          refine g_iload_n (M := mX11_tape) (pc := 33) dX11_tape_33 rfl (k := ?_)
          refine g_if_lt (M := mX11_tape) (pc := 34) (tgt := 44) (by omega) dX11_tape_34 (k1 := fun h34 => ?_) (k2 := fun h34 => ?_)
          · skip
            refine g_aload_n (M := mX11_tape) (pc := 44) dX11_tape_44 rfl (k := ?_)
            refine g_getr (M := mX11_tape) (pc := 45) (by rfl) fX11_66 kX11_211 dX11_tape_45 (by rfl) (kk := ?_)
            refine g_iload_n (M := mX11_tape) (pc := 48) dX11_tape_48 rfl (k := ?_)
            refine g_iload_n (M := mX11_tape) (pc := 49) dX11_tape_49 rfl (k := ?_)
            refine g_iast (M := mX11_tape) (pc := 50) (by rfl) (by omega) (by omega) (by omega) dX11_tape_50 (kk := ?_)
            refine g_aload_n (M := mX11_tape) (pc := 51) dX11_tape_51 rfl (k := ?_)
            refine g_getr (M := mX11_tape) (pc := 52) (by rfl) fX11_67 kX11_214 dX11_tape_52 (by rfl) (kk := ?_)
            refine g_iload_n (M := mX11_tape) (pc := 55) dX11_tape_55 rfl (k := ?_)
            refine g_iload_n (M := mX11_tape) (pc := 56) dX11_tape_56 rfl (k := ?_)
            refine g_if_ge (M := mX11_tape) (pc := 57) (tgt := 64) (by omega) dX11_tape_57 (k1 := fun h57 => ?_) (k2 := fun h57 => ?_)
            · skip
              refine g_iload_n (M := mX11_tape) (pc := 64) dX11_tape_64 rfl (k := ?_)
              refine g_iast (M := mX11_tape) (pc := 65) (by rfl) (by omega) (by omega) (by omega) dX11_tape_65 (kk := ?_)
              refine g_iconst (M := mX11_tape) (pc := 66) dX11_tape_66 (k := ?_)
              refine g_istore_4 (M := mX11_tape) (pc := 67) dX11_tape_67 (k := ?_)
              have loop69 : ∀ (N : Nat) (τ69 : Nat → Int → Int) (q : Int), ((61 - q).toNat) < N → ((InvJ τ69) ∧ (Fr jcTp σ τ69) ∧ (0 ≤ q ∧ q ≤ 60) ∧ (∀ j, τ69 109 j = if j = tp then s else σ 109 j) ∧ (∀ j, τ69 110 j = if j = tp then lenF s n else σ 110 j) ∧ (∀ j, τ69 111 j = if 60 * tp ≤ j ∧ j < 60 * tp + q then 0 else σ 111 j)) → G Γ mX11_tape 3 (0, 0) (pI 113 (ρT t) (fun r σ' => (r = tapeF tp s n) ∧ ((¬ tapeOK tp s n ∧ σ' = σ) ∨ (tapeOK tp s n ∧ becJ σ tp s (lenF s n) σ')) ∧ (InvJ σ') ∧ (Fr jcTp σ σ'))) (0, 0) 69 [some (vR Γ 69), some (vI tp), some (vI s), some (vI n), some (vI q)] [] (113, ρT t, τ69) := by
                intro N
                induction N with
                | zero => intro τ69 q hmu69 hinv69; exact absurd hmu69 (Nat.not_lt_zero _)
                | succ N ih69 =>
                  intro τ69 q hmu69 hinv69
                  obtain ⟨hI69, hF69, hb69_q, hx69_0, hx69_1, hx69_2⟩ := hinv69
                  refine g_iload (M := mX11_tape) (pc := 69) dX11_tape_69 rfl (k := ?_)
                  refine g_bipush (M := mX11_tape) (pc := 71) dX11_tape_71 (k := ?_)
                  refine g_icmp_ge (M := mX11_tape) (pc := 73) (tgt := 95) (by omega) (by omega) dX11_tape_73 (k1 := fun h73 => ?_) (k2 := fun h73 => ?_)
                  · skip
                    refine g_iconst (M := mX11_tape) (pc := 95) dX11_tape_95 (k := ?_)
                    refine g_iret (M := mX11_tape) (pc := 96) rfl dX11_tape_96 rfl ⟨_, _, rfl, rfl, ?_⟩
                    refine ⟨?_, ?_, ?_, ?_⟩
                    · unfold tapeF; repeat (first | rw [if_pos (by omega)] | rw [if_neg (by omega)]); try omega
                    · first | exact Or.inl ⟨by unfold tapeOK; omega, rfl⟩ | exact Or.inr ⟨by unfold tapeOK; omega, hx69_0, hx69_1, fun j => by rw [hx69_2 j, show q = 60 by omega]⟩
                    · exact hI69
                    · exact hF69
                  · skip
                    refine g_aload_n (M := mX11_tape) (pc := 76) dX11_tape_76 rfl (k := ?_)
                    refine g_getr (M := mX11_tape) (pc := 77) (by rfl) fX11_68 kX11_217 dX11_tape_77 (by rfl) (kk := ?_)
                    refine g_bipush (M := mX11_tape) (pc := 80) dX11_tape_80 (k := ?_)
                    refine g_iload_n (M := mX11_tape) (pc := 82) dX11_tape_82 rfl (k := ?_)
                    refine g_imul (M := mX11_tape) (pc := 83) dX11_tape_83 (k := ?_)
                    refine g_iload (M := mX11_tape) (pc := 84) dX11_tape_84 rfl (k := ?_)
                    refine g_iadd (M := mX11_tape) (pc := 86) dX11_tape_86 (k := ?_)
                    refine g_lconst (M := mX11_tape) (pc := 87) (x := 0) dX11_tape_87 (k := ?_)
                    refine g_last (M := mX11_tape) (pc := 88) (by rfl) (by omega) (by omega) (by omega) dX11_tape_88 (kk := ?_)
                    refine g_iinc_4 (M := mX11_tape) (pc := 89) dX11_tape_89 (k := ?_)
                    refine g_goto (M := mX11_tape) (pc := 92) (tgt := 69) dX11_tape_92 (k := ?_)
                    refine ih69 _ _ ?_ ?_
                    · omega
                    · skip
                      refine ⟨?_, ?_, ?_, ?_, ?_, ?_⟩
                      · refine jv_cell ?_ (by rfl); exact hI69
                      · refine Fr.up ?_ (by first | rfl | (unfold jcTp; simp; try omega)); exact hF69
                      · omega
                      · intro j; first | (simp [up]; done) | (rw [up_cell (by decide)]; exact hx69_0 j)
                      · intro j; first | (rw [show lenF s n = 0 from if_pos (by omega)]; simp [up]; done) | (rw [show lenF s n = n from if_neg (by omega)]; simp [up]; done) | (rw [up_cell (by decide)]; exact hx69_1 j)
                      · intro j; first | (rw [if_neg (by omega)]; simp [up]; done) | (by_cases e : j = 60 * tp + q; (rw [e, up_same, if_pos (by omega)]); rw [up_slot e, hx69_2 j]; by_cases c : 60 * tp ≤ j ∧ j < 60 * tp + q; (rw [if_pos c, if_pos (by omega)]); rw [if_neg c, if_neg (by omega)])
              refine loop69 _ _ _ (Nat.lt_succ_self _) ?_
              refine ⟨?_, ?_, ?_, ?_, ?_, ?_⟩
              · refine jvu110 ?_ (by omega) (by omega); refine jvu109 ?_ (by omega) (by omega); exact hI
              · refine Fr.up ?_ (by first | rfl | (unfold jcTp; simp; try omega)); refine Fr.up ?_ (by first | rfl | (unfold jcTp; simp; try omega)); exact (Fr.rf)
              · omega
              · intro j; first | (simp [up]; done) | (rw [up_cell (by decide)]; exact hx69_0 j)
              · intro j; first | (rw [show lenF s n = 0 from if_pos (by omega)]; simp [up]; done) | (rw [show lenF s n = n from if_neg (by omega)]; simp [up]; done) | (rw [up_cell (by decide)]; exact hx69_1 j)
              · intro j; first | (rw [if_neg (by omega)]; simp [up]; done) | (by_cases e : j = 60 * tp + q; (rw [e, up_same, if_pos (by omega)]); rw [up_slot e, hx69_2 j]; by_cases c : 60 * tp ≤ j ∧ j < 60 * tp + q; (rw [if_pos c, if_pos (by omega)]); rw [if_neg c, if_neg (by omega)])
            · skip
              refine g_iconst (M := mX11_tape) (pc := 60) dX11_tape_60 (k := ?_)
              refine g_goto (M := mX11_tape) (pc := 61) (tgt := 65) dX11_tape_61 (k := ?_)
              refine g_iast (M := mX11_tape) (pc := 65) (by rfl) (by omega) (by omega) (by omega) dX11_tape_65 (kk := ?_)
              refine g_iconst (M := mX11_tape) (pc := 66) dX11_tape_66 (k := ?_)
              refine g_istore_4 (M := mX11_tape) (pc := 67) dX11_tape_67 (k := ?_)
              have loop69 : ∀ (N : Nat) (τ69 : Nat → Int → Int) (q : Int), ((61 - q).toNat) < N → ((InvJ τ69) ∧ (Fr jcTp σ τ69) ∧ (0 ≤ q ∧ q ≤ 60) ∧ (∀ j, τ69 109 j = if j = tp then s else σ 109 j) ∧ (∀ j, τ69 110 j = if j = tp then lenF s n else σ 110 j) ∧ (∀ j, τ69 111 j = if 60 * tp ≤ j ∧ j < 60 * tp + q then 0 else σ 111 j)) → G Γ mX11_tape 3 (0, 0) (pI 113 (ρT t) (fun r σ' => (r = tapeF tp s n) ∧ ((¬ tapeOK tp s n ∧ σ' = σ) ∨ (tapeOK tp s n ∧ becJ σ tp s (lenF s n) σ')) ∧ (InvJ σ') ∧ (Fr jcTp σ σ'))) (0, 0) 69 [some (vR Γ 69), some (vI tp), some (vI s), some (vI n), some (vI q)] [] (113, ρT t, τ69) := by
                intro N
                induction N with
                | zero => intro τ69 q hmu69 hinv69; exact absurd hmu69 (Nat.not_lt_zero _)
                | succ N ih69 =>
                  intro τ69 q hmu69 hinv69
                  obtain ⟨hI69, hF69, hb69_q, hx69_0, hx69_1, hx69_2⟩ := hinv69
                  refine g_iload (M := mX11_tape) (pc := 69) dX11_tape_69 rfl (k := ?_)
                  refine g_bipush (M := mX11_tape) (pc := 71) dX11_tape_71 (k := ?_)
                  refine g_icmp_ge (M := mX11_tape) (pc := 73) (tgt := 95) (by omega) (by omega) dX11_tape_73 (k1 := fun h73 => ?_) (k2 := fun h73 => ?_)
                  · skip
                    refine g_iconst (M := mX11_tape) (pc := 95) dX11_tape_95 (k := ?_)
                    refine g_iret (M := mX11_tape) (pc := 96) rfl dX11_tape_96 rfl ⟨_, _, rfl, rfl, ?_⟩
                    refine ⟨?_, ?_, ?_, ?_⟩
                    · unfold tapeF; repeat (first | rw [if_pos (by omega)] | rw [if_neg (by omega)]); try omega
                    · first | exact Or.inl ⟨by unfold tapeOK; omega, rfl⟩ | exact Or.inr ⟨by unfold tapeOK; omega, hx69_0, hx69_1, fun j => by rw [hx69_2 j, show q = 60 by omega]⟩
                    · exact hI69
                    · exact hF69
                  · skip
                    refine g_aload_n (M := mX11_tape) (pc := 76) dX11_tape_76 rfl (k := ?_)
                    refine g_getr (M := mX11_tape) (pc := 77) (by rfl) fX11_68 kX11_217 dX11_tape_77 (by rfl) (kk := ?_)
                    refine g_bipush (M := mX11_tape) (pc := 80) dX11_tape_80 (k := ?_)
                    refine g_iload_n (M := mX11_tape) (pc := 82) dX11_tape_82 rfl (k := ?_)
                    refine g_imul (M := mX11_tape) (pc := 83) dX11_tape_83 (k := ?_)
                    refine g_iload (M := mX11_tape) (pc := 84) dX11_tape_84 rfl (k := ?_)
                    refine g_iadd (M := mX11_tape) (pc := 86) dX11_tape_86 (k := ?_)
                    refine g_lconst (M := mX11_tape) (pc := 87) (x := 0) dX11_tape_87 (k := ?_)
                    refine g_last (M := mX11_tape) (pc := 88) (by rfl) (by omega) (by omega) (by omega) dX11_tape_88 (kk := ?_)
                    refine g_iinc_4 (M := mX11_tape) (pc := 89) dX11_tape_89 (k := ?_)
                    refine g_goto (M := mX11_tape) (pc := 92) (tgt := 69) dX11_tape_92 (k := ?_)
                    refine ih69 _ _ ?_ ?_
                    · omega
                    · skip
                      refine ⟨?_, ?_, ?_, ?_, ?_, ?_⟩
                      · refine jv_cell ?_ (by rfl); exact hI69
                      · refine Fr.up ?_ (by first | rfl | (unfold jcTp; simp; try omega)); exact hF69
                      · omega
                      · intro j; first | (simp [up]; done) | (rw [up_cell (by decide)]; exact hx69_0 j)
                      · intro j; first | (rw [show lenF s n = 0 from if_pos (by omega)]; simp [up]; done) | (rw [show lenF s n = n from if_neg (by omega)]; simp [up]; done) | (rw [up_cell (by decide)]; exact hx69_1 j)
                      · intro j; first | (rw [if_neg (by omega)]; simp [up]; done) | (by_cases e : j = 60 * tp + q; (rw [e, up_same, if_pos (by omega)]); rw [up_slot e, hx69_2 j]; by_cases c : 60 * tp ≤ j ∧ j < 60 * tp + q; (rw [if_pos c, if_pos (by omega)]); rw [if_neg c, if_neg (by omega)])
              refine loop69 _ _ _ (Nat.lt_succ_self _) ?_
              refine ⟨?_, ?_, ?_, ?_, ?_, ?_⟩
              · refine jvu110 ?_ (by omega) (by omega); refine jvu109 ?_ (by omega) (by omega); exact hI
              · refine Fr.up ?_ (by first | rfl | (unfold jcTp; simp; try omega)); refine Fr.up ?_ (by first | rfl | (unfold jcTp; simp; try omega)); exact (Fr.rf)
              · omega
              · intro j; first | (simp [up]; done) | (rw [up_cell (by decide)]; exact hx69_0 j)
              · intro j; first | (rw [show lenF s n = 0 from if_pos (by omega)]; simp [up]; done) | (rw [show lenF s n = n from if_neg (by omega)]; simp [up]; done) | (rw [up_cell (by decide)]; exact hx69_1 j)
              · intro j; first | (rw [if_neg (by omega)]; simp [up]; done) | (by_cases e : j = 60 * tp + q; (rw [e, up_same, if_pos (by omega)]); rw [up_slot e, hx69_2 j]; by_cases c : 60 * tp ≤ j ∧ j < 60 * tp + q; (rw [if_pos c, if_pos (by omega)]); rw [if_neg c, if_neg (by omega)])
          · skip
            refine g_iload_n (M := mX11_tape) (pc := 37) dX11_tape_37 rfl (k := ?_)
            refine g_if_ge (M := mX11_tape) (pc := 38) (tgt := 44) (by omega) dX11_tape_38 (k1 := fun h38 => ?_) (k2 := fun h38 => ?_)
            · skip
              refine g_aload_n (M := mX11_tape) (pc := 44) dX11_tape_44 rfl (k := ?_)
              refine g_getr (M := mX11_tape) (pc := 45) (by rfl) fX11_66 kX11_211 dX11_tape_45 (by rfl) (kk := ?_)
              refine g_iload_n (M := mX11_tape) (pc := 48) dX11_tape_48 rfl (k := ?_)
              refine g_iload_n (M := mX11_tape) (pc := 49) dX11_tape_49 rfl (k := ?_)
              refine g_iast (M := mX11_tape) (pc := 50) (by rfl) (by omega) (by omega) (by omega) dX11_tape_50 (kk := ?_)
              refine g_aload_n (M := mX11_tape) (pc := 51) dX11_tape_51 rfl (k := ?_)
              refine g_getr (M := mX11_tape) (pc := 52) (by rfl) fX11_67 kX11_214 dX11_tape_52 (by rfl) (kk := ?_)
              refine g_iload_n (M := mX11_tape) (pc := 55) dX11_tape_55 rfl (k := ?_)
              refine g_iload_n (M := mX11_tape) (pc := 56) dX11_tape_56 rfl (k := ?_)
              refine g_if_ge (M := mX11_tape) (pc := 57) (tgt := 64) (by omega) dX11_tape_57 (k1 := fun h57 => ?_) (k2 := fun h57 => ?_)
              · skip
                refine g_iload_n (M := mX11_tape) (pc := 64) dX11_tape_64 rfl (k := ?_)
                refine g_iast (M := mX11_tape) (pc := 65) (by rfl) (by omega) (by omega) (by omega) dX11_tape_65 (kk := ?_)
                refine g_iconst (M := mX11_tape) (pc := 66) dX11_tape_66 (k := ?_)
                refine g_istore_4 (M := mX11_tape) (pc := 67) dX11_tape_67 (k := ?_)
                have loop69 : ∀ (N : Nat) (τ69 : Nat → Int → Int) (q : Int), ((61 - q).toNat) < N → ((InvJ τ69) ∧ (Fr jcTp σ τ69) ∧ (0 ≤ q ∧ q ≤ 60) ∧ (∀ j, τ69 109 j = if j = tp then s else σ 109 j) ∧ (∀ j, τ69 110 j = if j = tp then lenF s n else σ 110 j) ∧ (∀ j, τ69 111 j = if 60 * tp ≤ j ∧ j < 60 * tp + q then 0 else σ 111 j)) → G Γ mX11_tape 3 (0, 0) (pI 113 (ρT t) (fun r σ' => (r = tapeF tp s n) ∧ ((¬ tapeOK tp s n ∧ σ' = σ) ∨ (tapeOK tp s n ∧ becJ σ tp s (lenF s n) σ')) ∧ (InvJ σ') ∧ (Fr jcTp σ σ'))) (0, 0) 69 [some (vR Γ 69), some (vI tp), some (vI s), some (vI n), some (vI q)] [] (113, ρT t, τ69) := by
                  intro N
                  induction N with
                  | zero => intro τ69 q hmu69 hinv69; exact absurd hmu69 (Nat.not_lt_zero _)
                  | succ N ih69 =>
                    intro τ69 q hmu69 hinv69
                    obtain ⟨hI69, hF69, hb69_q, hx69_0, hx69_1, hx69_2⟩ := hinv69
                    refine g_iload (M := mX11_tape) (pc := 69) dX11_tape_69 rfl (k := ?_)
                    refine g_bipush (M := mX11_tape) (pc := 71) dX11_tape_71 (k := ?_)
                    refine g_icmp_ge (M := mX11_tape) (pc := 73) (tgt := 95) (by omega) (by omega) dX11_tape_73 (k1 := fun h73 => ?_) (k2 := fun h73 => ?_)
                    · skip
                      refine g_iconst (M := mX11_tape) (pc := 95) dX11_tape_95 (k := ?_)
                      refine g_iret (M := mX11_tape) (pc := 96) rfl dX11_tape_96 rfl ⟨_, _, rfl, rfl, ?_⟩
                      refine ⟨?_, ?_, ?_, ?_⟩
                      · unfold tapeF; repeat (first | rw [if_pos (by omega)] | rw [if_neg (by omega)]); try omega
                      · first | exact Or.inl ⟨by unfold tapeOK; omega, rfl⟩ | exact Or.inr ⟨by unfold tapeOK; omega, hx69_0, hx69_1, fun j => by rw [hx69_2 j, show q = 60 by omega]⟩
                      · exact hI69
                      · exact hF69
                    · skip
                      refine g_aload_n (M := mX11_tape) (pc := 76) dX11_tape_76 rfl (k := ?_)
                      refine g_getr (M := mX11_tape) (pc := 77) (by rfl) fX11_68 kX11_217 dX11_tape_77 (by rfl) (kk := ?_)
                      refine g_bipush (M := mX11_tape) (pc := 80) dX11_tape_80 (k := ?_)
                      refine g_iload_n (M := mX11_tape) (pc := 82) dX11_tape_82 rfl (k := ?_)
                      refine g_imul (M := mX11_tape) (pc := 83) dX11_tape_83 (k := ?_)
                      refine g_iload (M := mX11_tape) (pc := 84) dX11_tape_84 rfl (k := ?_)
                      refine g_iadd (M := mX11_tape) (pc := 86) dX11_tape_86 (k := ?_)
                      refine g_lconst (M := mX11_tape) (pc := 87) (x := 0) dX11_tape_87 (k := ?_)
                      refine g_last (M := mX11_tape) (pc := 88) (by rfl) (by omega) (by omega) (by omega) dX11_tape_88 (kk := ?_)
                      refine g_iinc_4 (M := mX11_tape) (pc := 89) dX11_tape_89 (k := ?_)
                      refine g_goto (M := mX11_tape) (pc := 92) (tgt := 69) dX11_tape_92 (k := ?_)
                      refine ih69 _ _ ?_ ?_
                      · omega
                      · skip
                        refine ⟨?_, ?_, ?_, ?_, ?_, ?_⟩
                        · refine jv_cell ?_ (by rfl); exact hI69
                        · refine Fr.up ?_ (by first | rfl | (unfold jcTp; simp; try omega)); exact hF69
                        · omega
                        · intro j; first | (simp [up]; done) | (rw [up_cell (by decide)]; exact hx69_0 j)
                        · intro j; first | (rw [show lenF s n = 0 from if_pos (by omega)]; simp [up]; done) | (rw [show lenF s n = n from if_neg (by omega)]; simp [up]; done) | (rw [up_cell (by decide)]; exact hx69_1 j)
                        · intro j; first | (rw [if_neg (by omega)]; simp [up]; done) | (by_cases e : j = 60 * tp + q; (rw [e, up_same, if_pos (by omega)]); rw [up_slot e, hx69_2 j]; by_cases c : 60 * tp ≤ j ∧ j < 60 * tp + q; (rw [if_pos c, if_pos (by omega)]); rw [if_neg c, if_neg (by omega)])
                refine loop69 _ _ _ (Nat.lt_succ_self _) ?_
                refine ⟨?_, ?_, ?_, ?_, ?_, ?_⟩
                · refine jvu110 ?_ (by omega) (by omega); refine jvu109 ?_ (by omega) (by omega); exact hI
                · refine Fr.up ?_ (by first | rfl | (unfold jcTp; simp; try omega)); refine Fr.up ?_ (by first | rfl | (unfold jcTp; simp; try omega)); exact (Fr.rf)
                · omega
                · intro j; first | (simp [up]; done) | (rw [up_cell (by decide)]; exact hx69_0 j)
                · intro j; first | (rw [show lenF s n = 0 from if_pos (by omega)]; simp [up]; done) | (rw [show lenF s n = n from if_neg (by omega)]; simp [up]; done) | (rw [up_cell (by decide)]; exact hx69_1 j)
                · intro j; first | (rw [if_neg (by omega)]; simp [up]; done) | (by_cases e : j = 60 * tp + q; (rw [e, up_same, if_pos (by omega)]); rw [up_slot e, hx69_2 j]; by_cases c : 60 * tp ≤ j ∧ j < 60 * tp + q; (rw [if_pos c, if_pos (by omega)]); rw [if_neg c, if_neg (by omega)])
              · skip
                refine g_iconst (M := mX11_tape) (pc := 60) dX11_tape_60 (k := ?_)
                refine g_goto (M := mX11_tape) (pc := 61) (tgt := 65) dX11_tape_61 (k := ?_)
                refine g_iast (M := mX11_tape) (pc := 65) (by rfl) (by omega) (by omega) (by omega) dX11_tape_65 (kk := ?_)
                refine g_iconst (M := mX11_tape) (pc := 66) dX11_tape_66 (k := ?_)
                refine g_istore_4 (M := mX11_tape) (pc := 67) dX11_tape_67 (k := ?_)
                have loop69 : ∀ (N : Nat) (τ69 : Nat → Int → Int) (q : Int), ((61 - q).toNat) < N → ((InvJ τ69) ∧ (Fr jcTp σ τ69) ∧ (0 ≤ q ∧ q ≤ 60) ∧ (∀ j, τ69 109 j = if j = tp then s else σ 109 j) ∧ (∀ j, τ69 110 j = if j = tp then lenF s n else σ 110 j) ∧ (∀ j, τ69 111 j = if 60 * tp ≤ j ∧ j < 60 * tp + q then 0 else σ 111 j)) → G Γ mX11_tape 3 (0, 0) (pI 113 (ρT t) (fun r σ' => (r = tapeF tp s n) ∧ ((¬ tapeOK tp s n ∧ σ' = σ) ∨ (tapeOK tp s n ∧ becJ σ tp s (lenF s n) σ')) ∧ (InvJ σ') ∧ (Fr jcTp σ σ'))) (0, 0) 69 [some (vR Γ 69), some (vI tp), some (vI s), some (vI n), some (vI q)] [] (113, ρT t, τ69) := by
                  intro N
                  induction N with
                  | zero => intro τ69 q hmu69 hinv69; exact absurd hmu69 (Nat.not_lt_zero _)
                  | succ N ih69 =>
                    intro τ69 q hmu69 hinv69
                    obtain ⟨hI69, hF69, hb69_q, hx69_0, hx69_1, hx69_2⟩ := hinv69
                    refine g_iload (M := mX11_tape) (pc := 69) dX11_tape_69 rfl (k := ?_)
                    refine g_bipush (M := mX11_tape) (pc := 71) dX11_tape_71 (k := ?_)
                    refine g_icmp_ge (M := mX11_tape) (pc := 73) (tgt := 95) (by omega) (by omega) dX11_tape_73 (k1 := fun h73 => ?_) (k2 := fun h73 => ?_)
                    · skip
                      refine g_iconst (M := mX11_tape) (pc := 95) dX11_tape_95 (k := ?_)
                      refine g_iret (M := mX11_tape) (pc := 96) rfl dX11_tape_96 rfl ⟨_, _, rfl, rfl, ?_⟩
                      refine ⟨?_, ?_, ?_, ?_⟩
                      · unfold tapeF; repeat (first | rw [if_pos (by omega)] | rw [if_neg (by omega)]); try omega
                      · first | exact Or.inl ⟨by unfold tapeOK; omega, rfl⟩ | exact Or.inr ⟨by unfold tapeOK; omega, hx69_0, hx69_1, fun j => by rw [hx69_2 j, show q = 60 by omega]⟩
                      · exact hI69
                      · exact hF69
                    · skip
                      refine g_aload_n (M := mX11_tape) (pc := 76) dX11_tape_76 rfl (k := ?_)
                      refine g_getr (M := mX11_tape) (pc := 77) (by rfl) fX11_68 kX11_217 dX11_tape_77 (by rfl) (kk := ?_)
                      refine g_bipush (M := mX11_tape) (pc := 80) dX11_tape_80 (k := ?_)
                      refine g_iload_n (M := mX11_tape) (pc := 82) dX11_tape_82 rfl (k := ?_)
                      refine g_imul (M := mX11_tape) (pc := 83) dX11_tape_83 (k := ?_)
                      refine g_iload (M := mX11_tape) (pc := 84) dX11_tape_84 rfl (k := ?_)
                      refine g_iadd (M := mX11_tape) (pc := 86) dX11_tape_86 (k := ?_)
                      refine g_lconst (M := mX11_tape) (pc := 87) (x := 0) dX11_tape_87 (k := ?_)
                      refine g_last (M := mX11_tape) (pc := 88) (by rfl) (by omega) (by omega) (by omega) dX11_tape_88 (kk := ?_)
                      refine g_iinc_4 (M := mX11_tape) (pc := 89) dX11_tape_89 (k := ?_)
                      refine g_goto (M := mX11_tape) (pc := 92) (tgt := 69) dX11_tape_92 (k := ?_)
                      refine ih69 _ _ ?_ ?_
                      · omega
                      · skip
                        refine ⟨?_, ?_, ?_, ?_, ?_, ?_⟩
                        · refine jv_cell ?_ (by rfl); exact hI69
                        · refine Fr.up ?_ (by first | rfl | (unfold jcTp; simp; try omega)); exact hF69
                        · omega
                        · intro j; first | (simp [up]; done) | (rw [up_cell (by decide)]; exact hx69_0 j)
                        · intro j; first | (rw [show lenF s n = 0 from if_pos (by omega)]; simp [up]; done) | (rw [show lenF s n = n from if_neg (by omega)]; simp [up]; done) | (rw [up_cell (by decide)]; exact hx69_1 j)
                        · intro j; first | (rw [if_neg (by omega)]; simp [up]; done) | (by_cases e : j = 60 * tp + q; (rw [e, up_same, if_pos (by omega)]); rw [up_slot e, hx69_2 j]; by_cases c : 60 * tp ≤ j ∧ j < 60 * tp + q; (rw [if_pos c, if_pos (by omega)]); rw [if_neg c, if_neg (by omega)])
                refine loop69 _ _ _ (Nat.lt_succ_self _) ?_
                refine ⟨?_, ?_, ?_, ?_, ?_, ?_⟩
                · refine jvu110 ?_ (by omega) (by omega); refine jvu109 ?_ (by omega) (by omega); exact hI
                · refine Fr.up ?_ (by first | rfl | (unfold jcTp; simp; try omega)); refine Fr.up ?_ (by first | rfl | (unfold jcTp; simp; try omega)); exact (Fr.rf)
                · omega
                · intro j; first | (simp [up]; done) | (rw [up_cell (by decide)]; exact hx69_0 j)
                · intro j; first | (rw [show lenF s n = 0 from if_pos (by omega)]; simp [up]; done) | (rw [show lenF s n = n from if_neg (by omega)]; simp [up]; done) | (rw [up_cell (by decide)]; exact hx69_1 j)
                · intro j; first | (rw [if_neg (by omega)]; simp [up]; done) | (by_cases e : j = 60 * tp + q; (rw [e, up_same, if_pos (by omega)]); rw [up_slot e, hx69_2 j]; by_cases c : 60 * tp ≤ j ∧ j < 60 * tp + q; (rw [if_pos c, if_pos (by omega)]); rw [if_neg c, if_neg (by omega)])
            · skip
              refine g_bipush (M := mX11_tape) (pc := 41) dX11_tape_41 (k := ?_)
              refine g_iret (M := mX11_tape) (pc := 43) rfl dX11_tape_43 rfl ⟨_, _, rfl, rfl, ?_⟩
              refine ⟨?_, ?_, ?_, ?_⟩
              · unfold tapeF; repeat (first | rw [if_pos (by omega)] | rw [if_neg (by omega)]); try omega
              · first | exact Or.inl ⟨by unfold tapeOK; omega, rfl⟩ | exact Or.inr ⟨by unfold tapeOK; omega, hx69_0, hx69_1, fun j => by rw [hx69_2 j, show q = 60 by omega]⟩
              · exact hI
              · exact (Fr.rf)
        · skip
          refine g_bipush (M := mX11_tape) (pc := 30) dX11_tape_30 (k := ?_)
          refine g_iret (M := mX11_tape) (pc := 32) rfl dX11_tape_32 rfl ⟨_, _, rfl, rfl, ?_⟩
          refine ⟨?_, ?_, ?_, ?_⟩
          · unfold tapeF; repeat (first | rw [if_pos (by omega)] | rw [if_neg (by omega)]); try omega
          · first | exact Or.inl ⟨by unfold tapeOK; omega, rfl⟩ | exact Or.inr ⟨by unfold tapeOK; omega, hx69_0, hx69_1, fun j => by rw [hx69_2 j, show q = 60 by omega]⟩
          · exact hI
          · exact (Fr.rf)
  · skip
    refine g_iconst (M := mX11_tape) (pc := 8) dX11_tape_8 (k := ?_)
    refine g_iret (M := mX11_tape) (pc := 9) rfl dX11_tape_9 rfl ⟨_, _, rfl, rfl, ?_⟩
    refine ⟨?_, ?_, ?_, ?_⟩
    · unfold tapeF; repeat (first | rw [if_pos (by omega)] | rw [if_neg (by omega)]); try omega
    · first | exact Or.inl ⟨by unfold tapeOK; omega, rfl⟩ | exact Or.inr ⟨by unfold tapeOK; omega, hx69_0, hx69_1, fun j => by rw [hx69_2 j, show q = 60 by omega]⟩
    · exact hI
    · exact (Fr.rf)
set_option maxHeartbeats 4000000 in
set_option maxRecDepth 20000 in
theorem c_X11_narrow (Γ : KT) (t : Nat) (σ : Nat → Int → Int) (s : Int) (v : Int) (hs : R32 s) (hv : R64 v) : Ct Γ mX11_narrow 1 (0, 0) [vR Γ 69, vI s, vL v] (113, ρT t, σ) (pL 113 (ρT t) (fun r σ' => r = cutF s v ∧ σ' = σ)) := by
  refine Ct.of rfl (Nat.le_of_ble_eq_true rfl) ?_
  show G Γ mX11_narrow 1 (0, 0) _ (0, 0) 0 [some (vR Γ 69), some (vI s), some (vL v), none] [] (113, ρT t, σ)
  refine g_iload_n (M := mX11_narrow) (pc := 0) dX11_narrow_0 rfl (k := ?_)
  refine g_if_ne (M := mX11_narrow) (pc := 1) (tgt := 11) (by omega) dX11_narrow_1 (k1 := fun h1 => ?_) (k2 := fun h1 => ?_)
  · skip
    refine g_iload_n (M := mX11_narrow) (pc := 11) dX11_narrow_11 rfl (k := ?_)
    refine g_iconst (M := mX11_narrow) (pc := 12) dX11_narrow_12 (k := ?_)
    refine g_icmp_ne (M := mX11_narrow) (pc := 13) (tgt := 23) (by omega) (by omega) dX11_narrow_13 (k1 := fun h13 => ?_) (k2 := fun h13 => ?_)
    · skip
      refine g_iload_n (M := mX11_narrow) (pc := 23) dX11_narrow_23 rfl (k := ?_)
      refine g_iconst (M := mX11_narrow) (pc := 24) dX11_narrow_24 (k := ?_)
      refine g_icmp_ne (M := mX11_narrow) (pc := 25) (tgt := 34) (by omega) (by omega) dX11_narrow_25 (k1 := fun h25 => ?_) (k2 := fun h25 => ?_)
      · skip
        refine g_iload_n (M := mX11_narrow) (pc := 34) dX11_narrow_34 rfl (k := ?_)
        refine g_iconst (M := mX11_narrow) (pc := 35) dX11_narrow_35 (k := ?_)
        refine g_icmp_ne (M := mX11_narrow) (pc := 36) (tgt := 53) (by omega) (by omega) dX11_narrow_36 (k1 := fun h36 => ?_) (k2 := fun h36 => ?_)
        · skip
          refine g_lload_n (M := mX11_narrow) (pc := 53) dX11_narrow_53 rfl (k := ?_)
          refine g_lret (M := mX11_narrow) (pc := 54) rfl dX11_narrow_54 rfl ⟨_, _, rfl, rfl, ?_⟩
          exact ⟨by unfold cutF; repeat (first | rw [if_pos (by omega)] | rw [if_neg (by omega)]), rfl⟩
        · skip
          refine g_lload_n (M := mX11_narrow) (pc := 39) dX11_narrow_39 rfl (k := ?_)
          refine g_lconst (M := mX11_narrow) (pc := 40) (x := 0) dX11_narrow_40 (k := ?_)
          refine g_lcmp2 (M := mX11_narrow) (pc := 41) (by omega) (by omega) dX11_narrow_41 (k := fun c41 hz41 => ?_)
          refine g_if_eq (M := mX11_narrow) (pc := 42) (tgt := 49) (by omega) dX11_narrow_42 (k1 := fun h42 => ?_) (k2 := fun h42 => ?_)
          · skip
            refine g_lconst (M := mX11_narrow) (pc := 49) (x := 0) dX11_narrow_49 (k := ?_)
            refine g_goto (M := mX11_narrow) (pc := 50) (tgt := 54) dX11_narrow_50 (k := ?_)
            refine g_lret (M := mX11_narrow) (pc := 54) rfl dX11_narrow_54 rfl ⟨_, _, rfl, rfl, ?_⟩
            exact ⟨by unfold cutF; repeat (first | rw [if_pos (by omega)] | rw [if_neg (by omega)]), rfl⟩
          · skip
            refine g_lconst (M := mX11_narrow) (pc := 45) (x := 1) dX11_narrow_45 (k := ?_)
            refine g_goto (M := mX11_narrow) (pc := 46) (tgt := 54) dX11_narrow_46 (k := ?_)
            refine g_lret (M := mX11_narrow) (pc := 54) rfl dX11_narrow_54 rfl ⟨_, _, rfl, rfl, ?_⟩
            exact ⟨by unfold cutF; repeat (first | rw [if_pos (by omega)] | rw [if_neg (by omega)]), rfl⟩
      · skip
        refine g_lload_n (M := mX11_narrow) (pc := 28) dX11_narrow_28 rfl (k := ?_)
        refine g_l2i (M := mX11_narrow) (pc := 29) dX11_narrow_29 (k := ?_)
        have hz29 := zl2iR v
        refine g_i2l (M := mX11_narrow) (pc := 30) (by omega) dX11_narrow_30 (k := ?_)
        refine g_goto (M := mX11_narrow) (pc := 31) (tgt := 54) dX11_narrow_31 (k := ?_)
        refine g_lret (M := mX11_narrow) (pc := 54) rfl dX11_narrow_54 rfl ⟨_, _, rfl, rfl, ?_⟩
        exact ⟨by unfold cutF; repeat (first | rw [if_pos (by omega)] | rw [if_neg (by omega)]), rfl⟩
    · skip
      refine g_lload_n (M := mX11_narrow) (pc := 16) dX11_narrow_16 rfl (k := ?_)
      refine g_l2i (M := mX11_narrow) (pc := 17) dX11_narrow_17 (k := ?_)
      have hz17 := zl2iR v
      refine g_i2s (M := mX11_narrow) (pc := 18) dX11_narrow_18 (k := ?_)
      have hz18 := zi2sR (zl2i v)
      refine g_i2l (M := mX11_narrow) (pc := 19) (by omega) dX11_narrow_19 (k := ?_)
      refine g_goto (M := mX11_narrow) (pc := 20) (tgt := 54) dX11_narrow_20 (k := ?_)
      refine g_lret (M := mX11_narrow) (pc := 54) rfl dX11_narrow_54 rfl ⟨_, _, rfl, rfl, ?_⟩
      exact ⟨by unfold cutF; repeat (first | rw [if_pos (by omega)] | rw [if_neg (by omega)]), rfl⟩
  · skip
    refine g_lload_n (M := mX11_narrow) (pc := 4) dX11_narrow_4 rfl (k := ?_)
    refine g_l2i (M := mX11_narrow) (pc := 5) dX11_narrow_5 (k := ?_)
    have hz5 := zl2iR v
    refine g_i2b (M := mX11_narrow) (pc := 6) dX11_narrow_6 (k := ?_)
    have hz6 := zi2bR (zl2i v)
    refine g_i2l (M := mX11_narrow) (pc := 7) (by omega) dX11_narrow_7 (k := ?_)
    refine g_goto (M := mX11_narrow) (pc := 8) (tgt := 54) dX11_narrow_8 (k := ?_)
    refine g_lret (M := mX11_narrow) (pc := 54) rfl dX11_narrow_54 rfl ⟨_, _, rfl, rfl, ?_⟩
    exact ⟨by unfold cutF; repeat (first | rw [if_pos (by omega)] | rw [if_neg (by omega)]), rfl⟩
set_option maxHeartbeats 4000000 in
set_option maxRecDepth 20000 in
theorem c_X11_item (Γ : KT) (t : Nat) (σ : Nat → Int → Int) (t5 : Int) (i : Int) (v : Int) (hI : InvJ σ) (htp : R32 t5) (hi : R32 i) (hv : R64 v) : Ct Γ mX11_item 3 (0, 0) [vR Γ 69, vI t5, vI i, vL v] (113, ρT t, σ) (pI 113 (ρT t) (fun r σ' => (itemJ σ t5 i v r σ') ∧ (InvJ σ') ∧ (Fr jcTp σ σ'))) := by
  refine Ct.of rfl (Nat.le_of_ble_eq_true rfl) ?_
  show G Γ mX11_item 3 (0, 0) _ (0, 0) 0 [some (vR Γ 69), some (vI t5), some (vI i), some (vL v), none] [] (113, ρT t, σ)
  refine g_aload_n (M := mX11_item) (pc := 0) dX11_item_0 rfl (k := ?_)
  refine g_iload_n (M := mX11_item) (pc := 1) dX11_item_1 rfl (k := ?_)
  refine g_cV1I (M := mX11_item) (pc := 2) (c_X11_isTape Γ t _ _ (by omega)) qX11_isTape vX11_isTape sX11_isTape kX11_370 dX11_item_2 (kk := ?_)
  rintro _ _ ⟨e1, e⟩; rw [e1, e]; clear e1 e
  refine g_if_neB (M := mX11_item) (pc := 5) (tgt := 10) dX11_item_5 (k1 := fun h5 => ?_) (k2 := fun h5 => ?_)
  · skip
    refine g_aload_n (M := mX11_item) (pc := 10) dX11_item_10 rfl (k := ?_)
    refine g_getr (M := mX11_item) (pc := 11) (by rfl) fX11_66 kX11_211 dX11_item_11 (by rfl) (kk := ?_)
    refine g_iload_n (M := mX11_item) (pc := 14) dX11_item_14 rfl (k := ?_)
    refine g_iald (M := mX11_item) (pc := 15) (by rfl) (by omega) (by omega) dX11_item_15 (kk := fun hr15 => ?_)
    have hb15 := jv109_0 hI t5 (by omega) (by omega)
    refine g_if_ge (M := mX11_item) (pc := 16) (tgt := 22) (by omega) dX11_item_16 (k1 := fun h16 => ?_) (k2 := fun h16 => ?_)
    · skip
      refine g_aload_n (M := mX11_item) (pc := 22) dX11_item_22 rfl (k := ?_)
      refine g_iload_n (M := mX11_item) (pc := 23) dX11_item_23 rfl (k := ?_)
      refine g_iconst (M := mX11_item) (pc := 24) dX11_item_24 (k := ?_)
      refine g_aload_n (M := mX11_item) (pc := 25) dX11_item_25 rfl (k := ?_)
      refine g_getr (M := mX11_item) (pc := 26) (by rfl) fX11_67 kX11_214 dX11_item_26 (by rfl) (kk := ?_)
      refine g_iload_n (M := mX11_item) (pc := 29) dX11_item_29 rfl (k := ?_)
      refine g_iald (M := mX11_item) (pc := 30) (by rfl) (by omega) (by omega) dX11_item_30 (kk := fun hr30 => ?_)
      have hb30 := jv110_0 hI t5 (by omega) (by omega)
      refine g_iconst (M := mX11_item) (pc := 31) dX11_item_31 (k := ?_)
      refine g_isub (M := mX11_item) (pc := 32) dX11_item_32 (k := ?_)
      refine g_cV3I (M := mX11_item) (pc := 33) (c_X11_in Γ t _ _ _ _ (by omega) (by omega) (by omega)) qX11_in vX11_in sX11_in kX11_224 dX11_item_33 (kk := ?_)
      rintro _ _ ⟨e1, e⟩; rw [e1, e]; clear e1 e
      refine g_if_neB (M := mX11_item) (pc := 36) (tgt := 42) dX11_item_36 (k1 := fun h36 => ?_) (k2 := fun h36 => ?_)
      · skip
        refine g_aload_n (M := mX11_item) (pc := 42) dX11_item_42 rfl (k := ?_)
        refine g_getr (M := mX11_item) (pc := 43) (by rfl) fX11_68 kX11_217 dX11_item_43 (by rfl) (kk := ?_)
        refine g_bipush (M := mX11_item) (pc := 46) dX11_item_46 (k := ?_)
        refine g_iload_n (M := mX11_item) (pc := 48) dX11_item_48 rfl (k := ?_)
        refine g_imul (M := mX11_item) (pc := 49) dX11_item_49 (k := ?_)
        refine g_iload_n (M := mX11_item) (pc := 50) dX11_item_50 rfl (k := ?_)
        refine g_iadd (M := mX11_item) (pc := 51) dX11_item_51 (k := ?_)
        refine g_aload_n (M := mX11_item) (pc := 52) dX11_item_52 rfl (k := ?_)
        refine g_aload_n (M := mX11_item) (pc := 53) dX11_item_53 rfl (k := ?_)
        refine g_getr (M := mX11_item) (pc := 54) (by rfl) fX11_66 kX11_211 dX11_item_54 (by rfl) (kk := ?_)
        refine g_iload_n (M := mX11_item) (pc := 57) dX11_item_57 rfl (k := ?_)
        refine g_iald (M := mX11_item) (pc := 58) (by rfl) (by omega) (by omega) dX11_item_58 (kk := fun hr58 => ?_)
        refine g_lload_n (M := mX11_item) (pc := 59) dX11_item_59 rfl (k := ?_)
        refine g_cV2L (M := mX11_item) (pc := 60) (c_X11_narrow Γ t _ _ _ (by omega) (by omega)) qX11_narrow vX11_narrow sX11_narrow kX11_397 dX11_item_60 (kk := ?_)
        rintro _ _ ⟨e1, e⟩; rw [e1, e]; clear e1 e
        have hq60_0 := cutFR (s := (σ 109 t5)) (v := v) (by omega)
        refine g_last (M := mX11_item) (pc := 63) (by rfl) (by omega) (by omega) (by omega) dX11_item_63 (kk := ?_)
        refine g_iconst (M := mX11_item) (pc := 64) dX11_item_64 (k := ?_)
        refine g_iret (M := mX11_item) (pc := 65) rfl dX11_item_65 rfl ⟨_, _, rfl, rfl, ?_⟩
        refine ⟨?_, ?_, ?_⟩
        · unfold itemJ; first | exact Or.inl ⟨by first | omega | (refine ⟨by omega, by omega, ?_⟩; assumption), by first | rfl | omega, by first | rfl | (rw [show n = 1 by omega]; done) | (rw [show n = 0 by omega]; done) | (rw [show z = 1 by omega]; done) | (rw [show z = 0 by omega]; done) | (unfold zwith; first | rw [if_pos (by omega)] | rw [if_neg (by omega)])⟩ | exact Or.inr (Or.inl ⟨by first | omega | (refine ⟨by omega, by omega, ?_⟩; assumption), by first | rfl | omega, by first | rfl | (rw [show n = 1 by omega]; done) | (rw [show n = 0 by omega]; done) | (rw [show z = 1 by omega]; done) | (rw [show z = 0 by omega]; done) | (unfold zwith; first | rw [if_pos (by omega)] | rw [if_neg (by omega)])⟩) | exact Or.inr (Or.inr (Or.inl ⟨by first | omega | (refine ⟨by omega, by omega, ?_⟩; assumption), by first | rfl | omega, by first | rfl | (rw [show n = 1 by omega]; done) | (rw [show n = 0 by omega]; done) | (rw [show z = 1 by omega]; done) | (rw [show z = 0 by omega]; done) | (unfold zwith; first | rw [if_pos (by omega)] | rw [if_neg (by omega)])⟩)) | exact Or.inr (Or.inr (Or.inr (⟨by first | omega | (refine ⟨by omega, by omega, ?_⟩; assumption), by first | rfl | omega, by first | rfl | (rw [show n = 1 by omega]; done) | (rw [show n = 0 by omega]; done) | (rw [show z = 1 by omega]; done) | (rw [show z = 0 by omega]; done) | (unfold zwith; first | rw [if_pos (by omega)] | rw [if_neg (by omega)])⟩)))
        · refine jv_cell ?_ (by rfl); exact hI
        · refine Fr.up ?_ (by first | rfl | (unfold jcTp; simp; try omega)); exact (Fr.rf)
      · skip
        refine g_bipush (M := mX11_item) (pc := 39) dX11_item_39 (k := ?_)
        refine g_iret (M := mX11_item) (pc := 41) rfl dX11_item_41 rfl ⟨_, _, rfl, rfl, ?_⟩
        refine ⟨?_, ?_, ?_⟩
        · unfold itemJ; first | exact Or.inl ⟨by first | omega | (refine ⟨by omega, by omega, ?_⟩; assumption), by first | rfl | omega, by first | rfl | (rw [show n = 1 by omega]; done) | (rw [show n = 0 by omega]; done) | (rw [show z = 1 by omega]; done) | (rw [show z = 0 by omega]; done) | (unfold zwith; first | rw [if_pos (by omega)] | rw [if_neg (by omega)])⟩ | exact Or.inr (Or.inl ⟨by first | omega | (refine ⟨by omega, by omega, ?_⟩; assumption), by first | rfl | omega, by first | rfl | (rw [show n = 1 by omega]; done) | (rw [show n = 0 by omega]; done) | (rw [show z = 1 by omega]; done) | (rw [show z = 0 by omega]; done) | (unfold zwith; first | rw [if_pos (by omega)] | rw [if_neg (by omega)])⟩) | exact Or.inr (Or.inr (Or.inl ⟨by first | omega | (refine ⟨by omega, by omega, ?_⟩; assumption), by first | rfl | omega, by first | rfl | (rw [show n = 1 by omega]; done) | (rw [show n = 0 by omega]; done) | (rw [show z = 1 by omega]; done) | (rw [show z = 0 by omega]; done) | (unfold zwith; first | rw [if_pos (by omega)] | rw [if_neg (by omega)])⟩)) | exact Or.inr (Or.inr (Or.inr (⟨by first | omega | (refine ⟨by omega, by omega, ?_⟩; assumption), by first | rfl | omega, by first | rfl | (rw [show n = 1 by omega]; done) | (rw [show n = 0 by omega]; done) | (rw [show z = 1 by omega]; done) | (rw [show z = 0 by omega]; done) | (unfold zwith; first | rw [if_pos (by omega)] | rw [if_neg (by omega)])⟩)))
        · exact hI
        · exact (Fr.rf)
    · skip
      refine g_bipush (M := mX11_item) (pc := 19) dX11_item_19 (k := ?_)
      refine g_iret (M := mX11_item) (pc := 21) rfl dX11_item_21 rfl ⟨_, _, rfl, rfl, ?_⟩
      refine ⟨?_, ?_, ?_⟩
      · unfold itemJ; first | exact Or.inl ⟨by first | omega | (refine ⟨by omega, by omega, ?_⟩; assumption), by first | rfl | omega, by first | rfl | (rw [show n = 1 by omega]; done) | (rw [show n = 0 by omega]; done) | (rw [show z = 1 by omega]; done) | (rw [show z = 0 by omega]; done) | (unfold zwith; first | rw [if_pos (by omega)] | rw [if_neg (by omega)])⟩ | exact Or.inr (Or.inl ⟨by first | omega | (refine ⟨by omega, by omega, ?_⟩; assumption), by first | rfl | omega, by first | rfl | (rw [show n = 1 by omega]; done) | (rw [show n = 0 by omega]; done) | (rw [show z = 1 by omega]; done) | (rw [show z = 0 by omega]; done) | (unfold zwith; first | rw [if_pos (by omega)] | rw [if_neg (by omega)])⟩) | exact Or.inr (Or.inr (Or.inl ⟨by first | omega | (refine ⟨by omega, by omega, ?_⟩; assumption), by first | rfl | omega, by first | rfl | (rw [show n = 1 by omega]; done) | (rw [show n = 0 by omega]; done) | (rw [show z = 1 by omega]; done) | (rw [show z = 0 by omega]; done) | (unfold zwith; first | rw [if_pos (by omega)] | rw [if_neg (by omega)])⟩)) | exact Or.inr (Or.inr (Or.inr (⟨by first | omega | (refine ⟨by omega, by omega, ?_⟩; assumption), by first | rfl | omega, by first | rfl | (rw [show n = 1 by omega]; done) | (rw [show n = 0 by omega]; done) | (rw [show z = 1 by omega]; done) | (rw [show z = 0 by omega]; done) | (unfold zwith; first | rw [if_pos (by omega)] | rw [if_neg (by omega)])⟩)))
      · exact hI
      · exact (Fr.rf)
  · skip
    refine g_iconst (M := mX11_item) (pc := 8) dX11_item_8 (k := ?_)
    refine g_iret (M := mX11_item) (pc := 9) rfl dX11_item_9 rfl ⟨_, _, rfl, rfl, ?_⟩
    refine ⟨?_, ?_, ?_⟩
    · unfold itemJ; first | exact Or.inl ⟨by first | omega | (refine ⟨by omega, by omega, ?_⟩; assumption), by first | rfl | omega, by first | rfl | (rw [show n = 1 by omega]; done) | (rw [show n = 0 by omega]; done) | (rw [show z = 1 by omega]; done) | (rw [show z = 0 by omega]; done) | (unfold zwith; first | rw [if_pos (by omega)] | rw [if_neg (by omega)])⟩ | exact Or.inr (Or.inl ⟨by first | omega | (refine ⟨by omega, by omega, ?_⟩; assumption), by first | rfl | omega, by first | rfl | (rw [show n = 1 by omega]; done) | (rw [show n = 0 by omega]; done) | (rw [show z = 1 by omega]; done) | (rw [show z = 0 by omega]; done) | (unfold zwith; first | rw [if_pos (by omega)] | rw [if_neg (by omega)])⟩) | exact Or.inr (Or.inr (Or.inl ⟨by first | omega | (refine ⟨by omega, by omega, ?_⟩; assumption), by first | rfl | omega, by first | rfl | (rw [show n = 1 by omega]; done) | (rw [show n = 0 by omega]; done) | (rw [show z = 1 by omega]; done) | (rw [show z = 0 by omega]; done) | (unfold zwith; first | rw [if_pos (by omega)] | rw [if_neg (by omega)])⟩)) | exact Or.inr (Or.inr (Or.inr (⟨by first | omega | (refine ⟨by omega, by omega, ?_⟩; assumption), by first | rfl | omega, by first | rfl | (rw [show n = 1 by omega]; done) | (rw [show n = 0 by omega]; done) | (rw [show z = 1 by omega]; done) | (rw [show z = 0 by omega]; done) | (unfold zwith; first | rw [if_pos (by omega)] | rw [if_neg (by omega)])⟩)))
    · exact hI
    · exact (Fr.rf)
set_option maxHeartbeats 4000000 in
set_option maxRecDepth 20000 in
theorem c_X11_read (Γ : KT) (t : Nat) (σ : Nat → Int → Int) (t5 : Int) (i : Int) (hI : InvJ σ) (ht5 : R32 t5) (hi : R32 i) : Ct Γ mX11_read 3 (0, 0) [vR Γ 69, vI t5, vI i] (113, ρT t, σ) (pL 113 (ρT t) (fun r σ' => (R64 r) ∧ (readJ σ t5 i r σ) ∧ σ' = σ)) := by
  refine Ct.of rfl (Nat.le_of_ble_eq_true rfl) ?_
  show G Γ mX11_read 3 (0, 0) _ (0, 0) 0 [some (vR Γ 69), some (vI t5), some (vI i)] [] (113, ρT t, σ)
  refine g_aload_n (M := mX11_read) (pc := 0) dX11_read_0 rfl (k := ?_)
  refine g_iload_n (M := mX11_read) (pc := 1) dX11_read_1 rfl (k := ?_)
  refine g_cV1I (M := mX11_read) (pc := 2) (c_X11_isTape Γ t _ _ (by omega)) qX11_isTape vX11_isTape sX11_isTape kX11_370 dX11_read_2 (kk := ?_)
  rintro _ _ ⟨e1, e⟩; rw [e1, e]; clear e1 e
  refine g_if_eqB (M := mX11_read) (pc := 5) (tgt := 34) dX11_read_5 (k1 := fun h5 => ?_) (k2 := fun h5 => ?_)
  · skip
    refine g_ldc2 (M := mX11_read) (pc := 34) (x := -9223372036854775808) kX11_364 dX11_read_34 (k := ?_)
    refine g_goto (M := mX11_read) (pc := 37) (tgt := 51) dX11_read_37 (k := ?_)
    refine g_lret (M := mX11_read) (pc := 51) rfl dX11_read_51 rfl ⟨_, _, rfl, rfl, ?_⟩
    refine ⟨?_, ?_, rfl⟩
    · omega
    · unfold readJ; first | exact Or.inl ⟨by first | omega | (refine ⟨by omega, by omega, ?_⟩; assumption), by first | rfl | omega, by first | rfl | (rw [show n = 1 by omega]; done) | (rw [show n = 0 by omega]; done) | (rw [show z = 1 by omega]; done) | (rw [show z = 0 by omega]; done) | (unfold zwith; first | rw [if_pos (by omega)] | rw [if_neg (by omega)])⟩ | exact Or.inr (Or.inl ⟨by first | omega | (refine ⟨by omega, by omega, ?_⟩; assumption), by first | rfl | omega, by first | rfl | (rw [show n = 1 by omega]; done) | (rw [show n = 0 by omega]; done) | (rw [show z = 1 by omega]; done) | (rw [show z = 0 by omega]; done) | (unfold zwith; first | rw [if_pos (by omega)] | rw [if_neg (by omega)])⟩) | exact Or.inr (Or.inr (⟨by first | omega | (refine ⟨by omega, by omega, ?_⟩; assumption), by first | rfl | omega, by first | rfl | (rw [show n = 1 by omega]; done) | (rw [show n = 0 by omega]; done) | (rw [show z = 1 by omega]; done) | (rw [show z = 0 by omega]; done) | (unfold zwith; first | rw [if_pos (by omega)] | rw [if_neg (by omega)])⟩))
  · skip
    refine g_aload_n (M := mX11_read) (pc := 8) dX11_read_8 rfl (k := ?_)
    refine g_getr (M := mX11_read) (pc := 9) (by rfl) fX11_66 kX11_211 dX11_read_9 (by rfl) (kk := ?_)
    refine g_iload_n (M := mX11_read) (pc := 12) dX11_read_12 rfl (k := ?_)
    refine g_iald (M := mX11_read) (pc := 13) (by rfl) (by omega) (by omega) dX11_read_13 (kk := fun hr13 => ?_)
    have hb13 := jv109_0 hI t5 (by omega) (by omega)
    refine g_if_lt (M := mX11_read) (pc := 14) (tgt := 34) (by omega) dX11_read_14 (k1 := fun h14 => ?_) (k2 := fun h14 => ?_)
    · skip
      refine g_ldc2 (M := mX11_read) (pc := 34) (x := -9223372036854775808) kX11_364 dX11_read_34 (k := ?_)
      refine g_goto (M := mX11_read) (pc := 37) (tgt := 51) dX11_read_37 (k := ?_)
      refine g_lret (M := mX11_read) (pc := 51) rfl dX11_read_51 rfl ⟨_, _, rfl, rfl, ?_⟩
      refine ⟨?_, ?_, rfl⟩
      · omega
      · unfold readJ; first | exact Or.inl ⟨by first | omega | (refine ⟨by omega, by omega, ?_⟩; assumption), by first | rfl | omega, by first | rfl | (rw [show n = 1 by omega]; done) | (rw [show n = 0 by omega]; done) | (rw [show z = 1 by omega]; done) | (rw [show z = 0 by omega]; done) | (unfold zwith; first | rw [if_pos (by omega)] | rw [if_neg (by omega)])⟩ | exact Or.inr (Or.inl ⟨by first | omega | (refine ⟨by omega, by omega, ?_⟩; assumption), by first | rfl | omega, by first | rfl | (rw [show n = 1 by omega]; done) | (rw [show n = 0 by omega]; done) | (rw [show z = 1 by omega]; done) | (rw [show z = 0 by omega]; done) | (unfold zwith; first | rw [if_pos (by omega)] | rw [if_neg (by omega)])⟩) | exact Or.inr (Or.inr (⟨by first | omega | (refine ⟨by omega, by omega, ?_⟩; assumption), by first | rfl | omega, by first | rfl | (rw [show n = 1 by omega]; done) | (rw [show n = 0 by omega]; done) | (rw [show z = 1 by omega]; done) | (rw [show z = 0 by omega]; done) | (unfold zwith; first | rw [if_pos (by omega)] | rw [if_neg (by omega)])⟩))
    · skip
      refine g_aload_n (M := mX11_read) (pc := 17) dX11_read_17 rfl (k := ?_)
      refine g_iload_n (M := mX11_read) (pc := 18) dX11_read_18 rfl (k := ?_)
      refine g_iconst (M := mX11_read) (pc := 19) dX11_read_19 (k := ?_)
      refine g_aload_n (M := mX11_read) (pc := 20) dX11_read_20 rfl (k := ?_)
      refine g_getr (M := mX11_read) (pc := 21) (by rfl) fX11_67 kX11_214 dX11_read_21 (by rfl) (kk := ?_)
      refine g_iload_n (M := mX11_read) (pc := 24) dX11_read_24 rfl (k := ?_)
      refine g_iald (M := mX11_read) (pc := 25) (by rfl) (by omega) (by omega) dX11_read_25 (kk := fun hr25 => ?_)
      have hb25 := jv110_0 hI t5 (by omega) (by omega)
      refine g_iconst (M := mX11_read) (pc := 26) dX11_read_26 (k := ?_)
      refine g_isub (M := mX11_read) (pc := 27) dX11_read_27 (k := ?_)
      refine g_cV3I (M := mX11_read) (pc := 28) (c_X11_in Γ t _ _ _ _ (by omega) (by omega) (by omega)) qX11_in vX11_in sX11_in kX11_224 dX11_read_28 (kk := ?_)
      rintro _ _ ⟨e1, e⟩; rw [e1, e]; clear e1 e
      refine g_if_neB (M := mX11_read) (pc := 31) (tgt := 40) dX11_read_31 (k1 := fun h31 => ?_) (k2 := fun h31 => ?_)
      · skip
        refine g_aload_n (M := mX11_read) (pc := 40) dX11_read_40 rfl (k := ?_)
        refine g_getr (M := mX11_read) (pc := 41) (by rfl) fX11_68 kX11_217 dX11_read_41 (by rfl) (kk := ?_)
        refine g_bipush (M := mX11_read) (pc := 44) dX11_read_44 (k := ?_)
        refine g_iload_n (M := mX11_read) (pc := 46) dX11_read_46 rfl (k := ?_)
        refine g_imul (M := mX11_read) (pc := 47) dX11_read_47 (k := ?_)
        refine g_iload_n (M := mX11_read) (pc := 48) dX11_read_48 rfl (k := ?_)
        refine g_iadd (M := mX11_read) (pc := 49) dX11_read_49 (k := ?_)
        refine g_lald (M := mX11_read) (pc := 50) (by rfl) (by omega) (by omega) dX11_read_50 (kk := fun hr50 => ?_)
        refine g_lret (M := mX11_read) (pc := 51) rfl dX11_read_51 rfl ⟨_, _, rfl, rfl, ?_⟩
        refine ⟨?_, ?_, rfl⟩
        · omega
        · unfold readJ; first | exact Or.inl ⟨by first | omega | (refine ⟨by omega, by omega, ?_⟩; assumption), by first | rfl | omega, by first | rfl | (rw [show n = 1 by omega]; done) | (rw [show n = 0 by omega]; done) | (rw [show z = 1 by omega]; done) | (rw [show z = 0 by omega]; done) | (unfold zwith; first | rw [if_pos (by omega)] | rw [if_neg (by omega)])⟩ | exact Or.inr (Or.inl ⟨by first | omega | (refine ⟨by omega, by omega, ?_⟩; assumption), by first | rfl | omega, by first | rfl | (rw [show n = 1 by omega]; done) | (rw [show n = 0 by omega]; done) | (rw [show z = 1 by omega]; done) | (rw [show z = 0 by omega]; done) | (unfold zwith; first | rw [if_pos (by omega)] | rw [if_neg (by omega)])⟩) | exact Or.inr (Or.inr (⟨by first | omega | (refine ⟨by omega, by omega, ?_⟩; assumption), by first | rfl | omega, by first | rfl | (rw [show n = 1 by omega]; done) | (rw [show n = 0 by omega]; done) | (rw [show z = 1 by omega]; done) | (rw [show z = 0 by omega]; done) | (unfold zwith; first | rw [if_pos (by omega)] | rw [if_neg (by omega)])⟩))
      · skip
        refine g_ldc2 (M := mX11_read) (pc := 34) (x := -9223372036854775808) kX11_364 dX11_read_34 (k := ?_)
        refine g_goto (M := mX11_read) (pc := 37) (tgt := 51) dX11_read_37 (k := ?_)
        refine g_lret (M := mX11_read) (pc := 51) rfl dX11_read_51 rfl ⟨_, _, rfl, rfl, ?_⟩
        refine ⟨?_, ?_, rfl⟩
        · omega
        · unfold readJ; first | exact Or.inl ⟨by first | omega | (refine ⟨by omega, by omega, ?_⟩; assumption), by first | rfl | omega, by first | rfl | (rw [show n = 1 by omega]; done) | (rw [show n = 0 by omega]; done) | (rw [show z = 1 by omega]; done) | (rw [show z = 0 by omega]; done) | (unfold zwith; first | rw [if_pos (by omega)] | rw [if_neg (by omega)])⟩ | exact Or.inr (Or.inl ⟨by first | omega | (refine ⟨by omega, by omega, ?_⟩; assumption), by first | rfl | omega, by first | rfl | (rw [show n = 1 by omega]; done) | (rw [show n = 0 by omega]; done) | (rw [show z = 1 by omega]; done) | (rw [show z = 0 by omega]; done) | (unfold zwith; first | rw [if_pos (by omega)] | rw [if_neg (by omega)])⟩) | exact Or.inr (Or.inr (⟨by first | omega | (refine ⟨by omega, by omega, ?_⟩; assumption), by first | rfl | omega, by first | rfl | (rw [show n = 1 by omega]; done) | (rw [show n = 0 by omega]; done) | (rw [show z = 1 by omega]; done) | (rw [show z = 0 by omega]; done) | (unfold zwith; first | rw [if_pos (by omega)] | rw [if_neg (by omega)])⟩))
set_option maxHeartbeats 4000000 in
set_option maxRecDepth 20000 in
theorem c_X11_shift (Γ : KT) (t : Nat) (σ : Nat → Int → Int) (tp : Int) (i : Int) (o : Int) (j : Int) (n : Int) (hI : InvJ σ) (htp : R32 tp) (hi : R32 i) (ho : R32 o) (hj : R32 j) (hn : R32 n) : Ct Γ mX11_shift 3 (0, 0) [vR Γ 69, vI tp, vI i, vI o, vI j, vI n] (113, ρT t, σ) (pI 113 (ρT t) (fun r σ' => (shiftJ σ tp i o j n r σ') ∧ (InvJ σ') ∧ (Fr jcSh σ σ'))) := by
  refine Ct.of rfl (Nat.le_of_ble_eq_true rfl) ?_
  show G Γ mX11_shift 3 (0, 0) _ (0, 0) 0 [some (vR Γ 69), some (vI tp), some (vI i), some (vI o), some (vI j), some (vI n), none] [] (113, ρT t, σ)
  refine g_aload_n (M := mX11_shift) (pc := 0) dX11_shift_0 rfl (k := ?_)
  refine g_iload_n (M := mX11_shift) (pc := 1) dX11_shift_1 rfl (k := ?_)
  refine g_cV1I (M := mX11_shift) (pc := 2) (c_X11_isTape Γ t _ _ (by omega)) qX11_isTape vX11_isTape sX11_isTape kX11_370 dX11_shift_2 (kk := ?_)
  rintro _ _ ⟨e1, e⟩; rw [e1, e]; clear e1 e
  refine g_if_eqB (M := mX11_shift) (pc := 5) (tgt := 16) dX11_shift_5 (k1 := fun h5 => ?_) (k2 := fun h5 => ?_)
  · skip
    refine g_iconst (M := mX11_shift) (pc := 16) dX11_shift_16 (k := ?_)
    refine g_iret (M := mX11_shift) (pc := 17) rfl dX11_shift_17 rfl ⟨_, _, rfl, rfl, ?_⟩
    refine ⟨?_, ?_, ?_⟩
    · unfold shiftJ; first | exact Or.inl ⟨by omega, by first | rfl | omega, by first | rfl | (intro x; have e : u = n := (by omega); rw [hx141_0 x, e])⟩ | exact Or.inr (Or.inl ⟨by omega, by first | rfl | omega, by first | rfl | (intro x; have e : u = n := (by omega); rw [hx141_0 x, e])⟩) | exact Or.inr (Or.inr (Or.inl ⟨by omega, by first | rfl | omega, by first | rfl | (intro x; have e : u = n := (by omega); rw [hx141_0 x, e])⟩)) | exact Or.inr (Or.inr (Or.inr (Or.inl ⟨by omega, by first | rfl | omega, by first | rfl | (intro x; have e : u = n := (by omega); rw [hx141_0 x, e])⟩))) | exact Or.inr (Or.inr (Or.inr (Or.inr (⟨by omega, by first | rfl | omega, by first | rfl | (intro x; have e : u = n := (by omega); rw [hx141_0 x, e])⟩))))
    · exact hI
    · exact (Fr.rf)
  · skip
    refine g_aload_n (M := mX11_shift) (pc := 8) dX11_shift_8 rfl (k := ?_)
    refine g_iload_n (M := mX11_shift) (pc := 9) dX11_shift_9 rfl (k := ?_)
    refine g_cV1I (M := mX11_shift) (pc := 10) (c_X11_isTape Γ t _ _ (by omega)) qX11_isTape vX11_isTape sX11_isTape kX11_370 dX11_shift_10 (kk := ?_)
    rintro _ _ ⟨e1, e⟩; rw [e1, e]; clear e1 e
    refine g_if_neB (M := mX11_shift) (pc := 13) (tgt := 18) dX11_shift_13 (k1 := fun h13 => ?_) (k2 := fun h13 => ?_)
    · skip
      refine g_aload_n (M := mX11_shift) (pc := 18) dX11_shift_18 rfl (k := ?_)
      refine g_getr (M := mX11_shift) (pc := 19) (by rfl) fX11_66 kX11_211 dX11_shift_19 (by rfl) (kk := ?_)
      refine g_iload_n (M := mX11_shift) (pc := 22) dX11_shift_22 rfl (k := ?_)
      refine g_iald (M := mX11_shift) (pc := 23) (by rfl) (by omega) (by omega) dX11_shift_23 (kk := fun hr23 => ?_)
      have hb23 := jv109_0 hI tp (by omega) (by omega)
      refine g_if_lt (M := mX11_shift) (pc := 24) (tgt := 36) (by omega) dX11_shift_24 (k1 := fun h24 => ?_) (k2 := fun h24 => ?_)
      · skip
        refine g_bipush (M := mX11_shift) (pc := 36) dX11_shift_36 (k := ?_)
        refine g_iret (M := mX11_shift) (pc := 38) rfl dX11_shift_38 rfl ⟨_, _, rfl, rfl, ?_⟩
        refine ⟨?_, ?_, ?_⟩
        · unfold shiftJ; first | exact Or.inl ⟨by omega, by first | rfl | omega, by first | rfl | (intro x; have e : u = n := (by omega); rw [hx141_0 x, e])⟩ | exact Or.inr (Or.inl ⟨by omega, by first | rfl | omega, by first | rfl | (intro x; have e : u = n := (by omega); rw [hx141_0 x, e])⟩) | exact Or.inr (Or.inr (Or.inl ⟨by omega, by first | rfl | omega, by first | rfl | (intro x; have e : u = n := (by omega); rw [hx141_0 x, e])⟩)) | exact Or.inr (Or.inr (Or.inr (Or.inl ⟨by omega, by first | rfl | omega, by first | rfl | (intro x; have e : u = n := (by omega); rw [hx141_0 x, e])⟩))) | exact Or.inr (Or.inr (Or.inr (Or.inr (⟨by omega, by first | rfl | omega, by first | rfl | (intro x; have e : u = n := (by omega); rw [hx141_0 x, e])⟩))))
        · exact hI
        · exact (Fr.rf)
      · skip
        refine g_aload_n (M := mX11_shift) (pc := 27) dX11_shift_27 rfl (k := ?_)
        refine g_getr (M := mX11_shift) (pc := 28) (by rfl) fX11_66 kX11_211 dX11_shift_28 (by rfl) (kk := ?_)
        refine g_iload_n (M := mX11_shift) (pc := 31) dX11_shift_31 rfl (k := ?_)
        refine g_iald (M := mX11_shift) (pc := 32) (by rfl) (by omega) (by omega) dX11_shift_32 (kk := fun hr32 => ?_)
        have hb32 := jv109_0 hI o (by omega) (by omega)
        refine g_if_ge (M := mX11_shift) (pc := 33) (tgt := 39) (by omega) dX11_shift_33 (k1 := fun h33 => ?_) (k2 := fun h33 => ?_)
        · skip
          refine g_aload_n (M := mX11_shift) (pc := 39) dX11_shift_39 rfl (k := ?_)
          refine g_getr (M := mX11_shift) (pc := 40) (by rfl) fX11_66 kX11_211 dX11_shift_40 (by rfl) (kk := ?_)
          refine g_iload_n (M := mX11_shift) (pc := 43) dX11_shift_43 rfl (k := ?_)
          refine g_iald (M := mX11_shift) (pc := 44) (by rfl) (by omega) (by omega) dX11_shift_44 (kk := fun hr44 => ?_)
          refine g_aload_n (M := mX11_shift) (pc := 45) dX11_shift_45 rfl (k := ?_)
          refine g_getr (M := mX11_shift) (pc := 46) (by rfl) fX11_66 kX11_211 dX11_shift_46 (by rfl) (kk := ?_)
          refine g_iload_n (M := mX11_shift) (pc := 49) dX11_shift_49 rfl (k := ?_)
          refine g_iald (M := mX11_shift) (pc := 50) (by rfl) (by omega) (by omega) dX11_shift_50 (kk := fun hr50 => ?_)
          refine g_icmp_eq (M := mX11_shift) (pc := 51) (tgt := 57) (by omega) (by omega) dX11_shift_51 (k1 := fun h51 => ?_) (k2 := fun h51 => ?_)
          · skip
            refine g_iload (M := mX11_shift) (pc := 57) dX11_shift_57 rfl (k := ?_)
            refine g_if_lt (M := mX11_shift) (pc := 59) (tgt := 98) (by omega) dX11_shift_59 (k1 := fun h59 => ?_) (k2 := fun h59 => ?_)
            · skip
              refine g_bipush (M := mX11_shift) (pc := 98) dX11_shift_98 (k := ?_)
              refine g_iret (M := mX11_shift) (pc := 100) rfl dX11_shift_100 rfl ⟨_, _, rfl, rfl, ?_⟩
              refine ⟨?_, ?_, ?_⟩
              · unfold shiftJ; first | exact Or.inl ⟨by omega, by first | rfl | omega, by first | rfl | (intro x; have e : u = n := (by omega); rw [hx141_0 x, e])⟩ | exact Or.inr (Or.inl ⟨by omega, by first | rfl | omega, by first | rfl | (intro x; have e : u = n := (by omega); rw [hx141_0 x, e])⟩) | exact Or.inr (Or.inr (Or.inl ⟨by omega, by first | rfl | omega, by first | rfl | (intro x; have e : u = n := (by omega); rw [hx141_0 x, e])⟩)) | exact Or.inr (Or.inr (Or.inr (Or.inl ⟨by omega, by first | rfl | omega, by first | rfl | (intro x; have e : u = n := (by omega); rw [hx141_0 x, e])⟩))) | exact Or.inr (Or.inr (Or.inr (Or.inr (⟨by omega, by first | rfl | omega, by first | rfl | (intro x; have e : u = n := (by omega); rw [hx141_0 x, e])⟩))))
              · exact hI
              · exact (Fr.rf)
            · skip
              refine g_iload_n (M := mX11_shift) (pc := 62) dX11_shift_62 rfl (k := ?_)
              refine g_if_lt (M := mX11_shift) (pc := 63) (tgt := 98) (by omega) dX11_shift_63 (k1 := fun h63 => ?_) (k2 := fun h63 => ?_)
              · skip
                refine g_bipush (M := mX11_shift) (pc := 98) dX11_shift_98 (k := ?_)
                refine g_iret (M := mX11_shift) (pc := 100) rfl dX11_shift_100 rfl ⟨_, _, rfl, rfl, ?_⟩
                refine ⟨?_, ?_, ?_⟩
                · unfold shiftJ; first | exact Or.inl ⟨by omega, by first | rfl | omega, by first | rfl | (intro x; have e : u = n := (by omega); rw [hx141_0 x, e])⟩ | exact Or.inr (Or.inl ⟨by omega, by first | rfl | omega, by first | rfl | (intro x; have e : u = n := (by omega); rw [hx141_0 x, e])⟩) | exact Or.inr (Or.inr (Or.inl ⟨by omega, by first | rfl | omega, by first | rfl | (intro x; have e : u = n := (by omega); rw [hx141_0 x, e])⟩)) | exact Or.inr (Or.inr (Or.inr (Or.inl ⟨by omega, by first | rfl | omega, by first | rfl | (intro x; have e : u = n := (by omega); rw [hx141_0 x, e])⟩))) | exact Or.inr (Or.inr (Or.inr (Or.inr (⟨by omega, by first | rfl | omega, by first | rfl | (intro x; have e : u = n := (by omega); rw [hx141_0 x, e])⟩))))
                · exact hI
                · exact (Fr.rf)
              · skip
                refine g_iload (M := mX11_shift) (pc := 66) dX11_shift_66 rfl (k := ?_)
                refine g_if_lt (M := mX11_shift) (pc := 68) (tgt := 98) (by omega) dX11_shift_68 (k1 := fun h68 => ?_) (k2 := fun h68 => ?_)
                · skip
                  refine g_bipush (M := mX11_shift) (pc := 98) dX11_shift_98 (k := ?_)
                  refine g_iret (M := mX11_shift) (pc := 100) rfl dX11_shift_100 rfl ⟨_, _, rfl, rfl, ?_⟩
                  refine ⟨?_, ?_, ?_⟩
                  · unfold shiftJ; first | exact Or.inl ⟨by omega, by first | rfl | omega, by first | rfl | (intro x; have e : u = n := (by omega); rw [hx141_0 x, e])⟩ | exact Or.inr (Or.inl ⟨by omega, by first | rfl | omega, by first | rfl | (intro x; have e : u = n := (by omega); rw [hx141_0 x, e])⟩) | exact Or.inr (Or.inr (Or.inl ⟨by omega, by first | rfl | omega, by first | rfl | (intro x; have e : u = n := (by omega); rw [hx141_0 x, e])⟩)) | exact Or.inr (Or.inr (Or.inr (Or.inl ⟨by omega, by first | rfl | omega, by first | rfl | (intro x; have e : u = n := (by omega); rw [hx141_0 x, e])⟩))) | exact Or.inr (Or.inr (Or.inr (Or.inr (⟨by omega, by first | rfl | omega, by first | rfl | (intro x; have e : u = n := (by omega); rw [hx141_0 x, e])⟩))))
                  · exact hI
                  · exact (Fr.rf)
                · skip
                  refine g_iload_n (M := mX11_shift) (pc := 71) dX11_shift_71 rfl (k := ?_)
                  refine g_aload_n (M := mX11_shift) (pc := 72) dX11_shift_72 rfl (k := ?_)
                  refine g_getr (M := mX11_shift) (pc := 73) (by rfl) fX11_67 kX11_214 dX11_shift_73 (by rfl) (kk := ?_)
                  refine g_iload_n (M := mX11_shift) (pc := 76) dX11_shift_76 rfl (k := ?_)
                  refine g_iald (M := mX11_shift) (pc := 77) (by rfl) (by omega) (by omega) dX11_shift_77 (kk := fun hr77 => ?_)
                  have hb77 := jv110_0 hI tp (by omega) (by omega)
                  refine g_iload (M := mX11_shift) (pc := 78) dX11_shift_78 rfl (k := ?_)
                  refine g_isub (M := mX11_shift) (pc := 80) dX11_shift_80 (k := ?_)
                  refine g_icmp_gt (M := mX11_shift) (pc := 81) (tgt := 98) (by omega) (by omega) dX11_shift_81 (k1 := fun h81 => ?_) (k2 := fun h81 => ?_)
                  · skip
                    refine g_bipush (M := mX11_shift) (pc := 98) dX11_shift_98 (k := ?_)
                    refine g_iret (M := mX11_shift) (pc := 100) rfl dX11_shift_100 rfl ⟨_, _, rfl, rfl, ?_⟩
                    refine ⟨?_, ?_, ?_⟩
                    · unfold shiftJ; first | exact Or.inl ⟨by omega, by first | rfl | omega, by first | rfl | (intro x; have e : u = n := (by omega); rw [hx141_0 x, e])⟩ | exact Or.inr (Or.inl ⟨by omega, by first | rfl | omega, by first | rfl | (intro x; have e : u = n := (by omega); rw [hx141_0 x, e])⟩) | exact Or.inr (Or.inr (Or.inl ⟨by omega, by first | rfl | omega, by first | rfl | (intro x; have e : u = n := (by omega); rw [hx141_0 x, e])⟩)) | exact Or.inr (Or.inr (Or.inr (Or.inl ⟨by omega, by first | rfl | omega, by first | rfl | (intro x; have e : u = n := (by omega); rw [hx141_0 x, e])⟩))) | exact Or.inr (Or.inr (Or.inr (Or.inr (⟨by omega, by first | rfl | omega, by first | rfl | (intro x; have e : u = n := (by omega); rw [hx141_0 x, e])⟩))))
                    · exact hI
                    · exact (Fr.rf)
                  · skip
                    refine g_iload (M := mX11_shift) (pc := 84) dX11_shift_84 rfl (k := ?_)
                    refine g_aload_n (M := mX11_shift) (pc := 86) dX11_shift_86 rfl (k := ?_)
                    refine g_getr (M := mX11_shift) (pc := 87) (by rfl) fX11_67 kX11_214 dX11_shift_87 (by rfl) (kk := ?_)
                    refine g_iload_n (M := mX11_shift) (pc := 90) dX11_shift_90 rfl (k := ?_)
                    refine g_iald (M := mX11_shift) (pc := 91) (by rfl) (by omega) (by omega) dX11_shift_91 (kk := fun hr91 => ?_)
                    have hb91 := jv110_0 hI o (by omega) (by omega)
                    refine g_iload (M := mX11_shift) (pc := 92) dX11_shift_92 rfl (k := ?_)
                    refine g_isub (M := mX11_shift) (pc := 94) dX11_shift_94 (k := ?_)
                    refine g_icmp_le (M := mX11_shift) (pc := 95) (tgt := 101) (by omega) (by omega) dX11_shift_95 (k1 := fun h95 => ?_) (k2 := fun h95 => ?_)
                    · skip
                      refine g_iconst (M := mX11_shift) (pc := 101) dX11_shift_101 (k := ?_)
                      refine g_istore_6 (M := mX11_shift) (pc := 102) dX11_shift_102 (k := ?_)
                      have loop104 : ∀ (N : Nat) (τ104 : Nat → Int → Int) (q : Int), ((n - q).toNat) < N → ((InvJ τ104) ∧ (Fr jcSh σ τ104) ∧ (0 ≤ q ∧ q ≤ n) ∧ (∀ x, 0 ≤ x → x < q → τ104 112 x = σ 111 (60 * tp + i + x)) ∧ (∀ x, τ104 111 x = σ 111 x)) → G Γ mX11_shift 3 (0, 0) (pI 113 (ρT t) (fun r σ' => (shiftJ σ tp i o j n r σ') ∧ (InvJ σ') ∧ (Fr jcSh σ σ'))) (0, 0) 104 [some (vR Γ 69), some (vI tp), some (vI i), some (vI o), some (vI j), some (vI n), some (vI q)] [] (113, ρT t, τ104) := by
                        intro N
                        induction N with
                        | zero => intro τ104 q hmu104 hinv104; exact absurd hmu104 (Nat.not_lt_zero _)
                        | succ N ih104 =>
                          intro τ104 q hmu104 hinv104
                          obtain ⟨hI104, hF104, hb104_q, hx104_0, hx104_1⟩ := hinv104
                          refine g_iload (M := mX11_shift) (pc := 104) dX11_shift_104 rfl (k := ?_)
                          refine g_iload (M := mX11_shift) (pc := 106) dX11_shift_106 rfl (k := ?_)
                          refine g_icmp_ge (M := mX11_shift) (pc := 108) (tgt := 138) (by omega) (by omega) dX11_shift_108 (k1 := fun h108 => ?_) (k2 := fun h108 => ?_)
                          · skip
                            refine g_iconst (M := mX11_shift) (pc := 138) dX11_shift_138 (k := ?_)
                            refine g_istore_6 (M := mX11_shift) (pc := 139) dX11_shift_139 (k := ?_)
                            have loop141 : ∀ (N : Nat) (τ141 : Nat → Int → Int) (u : Int), ((n - u).toNat) < N → ((InvJ τ141) ∧ (Fr jcSh σ τ141) ∧ (0 ≤ u ∧ u ≤ n) ∧ (∀ x, τ141 111 x = if 60 * o + j ≤ x ∧ x < 60 * o + j + u then σ 111 (60 * tp + i + (x - (60 * o + j))) else σ 111 x) ∧ (∀ x, 0 ≤ x → x < n → τ141 112 x = σ 111 (60 * tp + i + x))) → G Γ mX11_shift 3 (0, 0) (pI 113 (ρT t) (fun r σ' => (shiftJ σ tp i o j n r σ') ∧ (InvJ σ') ∧ (Fr jcSh σ σ'))) (0, 0) 141 [some (vR Γ 69), some (vI tp), some (vI i), some (vI o), some (vI j), some (vI n), some (vI u)] [] (113, ρT t, τ141) := by
                              intro N
                              induction N with
                              | zero => intro τ141 u hmu141 hinv141; exact absurd hmu141 (Nat.not_lt_zero _)
                              | succ N ih141 =>
                                intro τ141 u hmu141 hinv141
                                obtain ⟨hI141, hF141, hb141_u, hx141_0, hx141_1⟩ := hinv141
                                refine g_iload (M := mX11_shift) (pc := 141) dX11_shift_141 rfl (k := ?_)
                                refine g_iload (M := mX11_shift) (pc := 143) dX11_shift_143 rfl (k := ?_)
                                refine g_icmp_ge (M := mX11_shift) (pc := 145) (tgt := 176) (by omega) (by omega) dX11_shift_145 (k1 := fun h145 => ?_) (k2 := fun h145 => ?_)
                                · skip
                                  refine g_iload (M := mX11_shift) (pc := 176) dX11_shift_176 rfl (k := ?_)
                                  refine g_iret (M := mX11_shift) (pc := 178) rfl dX11_shift_178 rfl ⟨_, _, rfl, rfl, ?_⟩
                                  refine ⟨?_, ?_, ?_⟩
                                  · unfold shiftJ; first | exact Or.inl ⟨by omega, by first | rfl | omega, by first | rfl | (intro x; have e : u = n := (by omega); rw [hx141_0 x, e])⟩ | exact Or.inr (Or.inl ⟨by omega, by first | rfl | omega, by first | rfl | (intro x; have e : u = n := (by omega); rw [hx141_0 x, e])⟩) | exact Or.inr (Or.inr (Or.inl ⟨by omega, by first | rfl | omega, by first | rfl | (intro x; have e : u = n := (by omega); rw [hx141_0 x, e])⟩)) | exact Or.inr (Or.inr (Or.inr (Or.inl ⟨by omega, by first | rfl | omega, by first | rfl | (intro x; have e : u = n := (by omega); rw [hx141_0 x, e])⟩))) | exact Or.inr (Or.inr (Or.inr (Or.inr (⟨by omega, by first | rfl | omega, by first | rfl | (intro x; have e : u = n := (by omega); rw [hx141_0 x, e])⟩))))
                                  · exact hI141
                                  · exact hF141
                                · skip
                                  refine g_aload_n (M := mX11_shift) (pc := 148) dX11_shift_148 rfl (k := ?_)
                                  refine g_getr (M := mX11_shift) (pc := 149) (by rfl) fX11_68 kX11_217 dX11_shift_149 (by rfl) (kk := ?_)
                                  refine g_bipush (M := mX11_shift) (pc := 152) dX11_shift_152 (k := ?_)
                                  refine g_iload_n (M := mX11_shift) (pc := 154) dX11_shift_154 rfl (k := ?_)
                                  refine g_imul (M := mX11_shift) (pc := 155) dX11_shift_155 (k := ?_)
                                  refine g_iload (M := mX11_shift) (pc := 156) dX11_shift_156 rfl (k := ?_)
                                  refine g_iadd (M := mX11_shift) (pc := 158) dX11_shift_158 (k := ?_)
                                  refine g_iload (M := mX11_shift) (pc := 159) dX11_shift_159 rfl (k := ?_)
                                  refine g_iadd (M := mX11_shift) (pc := 161) dX11_shift_161 (k := ?_)
                                  refine g_aload_n (M := mX11_shift) (pc := 162) dX11_shift_162 rfl (k := ?_)
                                  refine g_getr (M := mX11_shift) (pc := 163) (by rfl) fX11_69 kX11_221 dX11_shift_163 (by rfl) (kk := ?_)
                                  refine g_iload (M := mX11_shift) (pc := 166) dX11_shift_166 rfl (k := ?_)
                                  refine g_lald (M := mX11_shift) (pc := 168) (by rfl) (by omega) (by omega) dX11_shift_168 (kk := fun hr168 => ?_)
                                  refine g_last (M := mX11_shift) (pc := 169) (by rfl) (by omega) (by omega) (by omega) dX11_shift_169 (kk := ?_)
                                  refine g_iinc_6 (M := mX11_shift) (pc := 170) dX11_shift_170 (k := ?_)
                                  refine g_goto (M := mX11_shift) (pc := 173) (tgt := 141) dX11_shift_173 (k := ?_)
                                  refine ih141 _ _ ?_ ?_
                                  · omega
                                  · skip
                                    refine ⟨?_, ?_, ?_, ?_, ?_⟩
                                    · refine jv_cell ?_ (by rfl); exact hI141
                                    · refine Fr.up ?_ (by first | rfl | (unfold jcSh; simp; try omega)); exact hF141
                                    · omega
                                    · intro x; first | (rw [if_neg (by omega)]; exact hx104_1 x) | (by_cases e : x = 60 * o + j + u; (rw [e, up_same, if_pos (by omega), hx141_1 u (by omega) (by omega)]; congr 1; omega); rw [up_slot e, hx141_0 x]; by_cases c : 60 * o + j ≤ x ∧ x < 60 * o + j + u; (rw [if_pos c, if_pos (by omega)]); rw [if_neg c, if_neg (by omega)])
                                    · intro x h0 h1; first | exact hx104_0 x h0 (by omega) | (rw [up_cell (by decide)]; exact hx141_1 x h0 h1)
                            refine loop141 _ _ _ (Nat.lt_succ_self _) ?_
                            refine ⟨?_, ?_, ?_, ?_, ?_⟩
                            · exact hI104
                            · exact hF104
                            · omega
                            · intro x; first | (rw [if_neg (by omega)]; exact hx104_1 x) | (by_cases e : x = 60 * o + j + u; (rw [e, up_same, if_pos (by omega), hx141_1 u (by omega) (by omega)]; congr 1; omega); rw [up_slot e, hx141_0 x]; by_cases c : 60 * o + j ≤ x ∧ x < 60 * o + j + u; (rw [if_pos c, if_pos (by omega)]); rw [if_neg c, if_neg (by omega)])
                            · intro x h0 h1; first | exact hx104_0 x h0 (by omega) | (rw [up_cell (by decide)]; exact hx141_1 x h0 h1)
                          · skip
                            refine g_aload_n (M := mX11_shift) (pc := 111) dX11_shift_111 rfl (k := ?_)
                            refine g_getr (M := mX11_shift) (pc := 112) (by rfl) fX11_69 kX11_221 dX11_shift_112 (by rfl) (kk := ?_)
                            refine g_iload (M := mX11_shift) (pc := 115) dX11_shift_115 rfl (k := ?_)
                            refine g_aload_n (M := mX11_shift) (pc := 117) dX11_shift_117 rfl (k := ?_)
                            refine g_getr (M := mX11_shift) (pc := 118) (by rfl) fX11_68 kX11_217 dX11_shift_118 (by rfl) (kk := ?_)
                            refine g_bipush (M := mX11_shift) (pc := 121) dX11_shift_121 (k := ?_)
                            refine g_iload_n (M := mX11_shift) (pc := 123) dX11_shift_123 rfl (k := ?_)
                            refine g_imul (M := mX11_shift) (pc := 124) dX11_shift_124 (k := ?_)
                            refine g_iload_n (M := mX11_shift) (pc := 125) dX11_shift_125 rfl (k := ?_)
                            refine g_iadd (M := mX11_shift) (pc := 126) dX11_shift_126 (k := ?_)
                            refine g_iload (M := mX11_shift) (pc := 127) dX11_shift_127 rfl (k := ?_)
                            refine g_iadd (M := mX11_shift) (pc := 129) dX11_shift_129 (k := ?_)
                            refine g_lald (M := mX11_shift) (pc := 130) (by rfl) (by omega) (by omega) dX11_shift_130 (kk := fun hr130 => ?_)
                            refine g_last (M := mX11_shift) (pc := 131) (by rfl) (by omega) (by omega) (by omega) dX11_shift_131 (kk := ?_)
                            refine g_iinc_6 (M := mX11_shift) (pc := 132) dX11_shift_132 (k := ?_)
                            refine g_goto (M := mX11_shift) (pc := 135) (tgt := 104) dX11_shift_135 (k := ?_)
                            refine ih104 _ _ ?_ ?_
                            · omega
                            · skip
                              refine ⟨?_, ?_, ?_, ?_, ?_⟩
                              · refine jv_cell ?_ (by rfl); exact hI104
                              · refine Fr.up ?_ (by first | rfl | (unfold jcSh; simp; try omega)); exact hF104
                              · omega
                              · intro x h0 h1; first | (exfalso; omega) | (by_cases e : x = q; (rw [e, up_same]; exact hx104_1 _); rw [up_slot e]; exact hx104_0 x h0 (by omega))
                              · intro x; first | rfl | (rw [up_cell (by decide)]; exact hx104_1 x)
                      refine loop104 _ _ _ (Nat.lt_succ_self _) ?_
                      refine ⟨?_, ?_, ?_, ?_, ?_⟩
                      · exact hI
                      · exact (Fr.rf)
                      · omega
                      · intro x h0 h1; first | (exfalso; omega) | (by_cases e : x = q; (rw [e, up_same]; exact hx104_1 _); rw [up_slot e]; exact hx104_0 x h0 (by omega))
                      · intro x; first | rfl | (rw [up_cell (by decide)]; exact hx104_1 x)
                    · skip
                      refine g_bipush (M := mX11_shift) (pc := 98) dX11_shift_98 (k := ?_)
                      refine g_iret (M := mX11_shift) (pc := 100) rfl dX11_shift_100 rfl ⟨_, _, rfl, rfl, ?_⟩
                      refine ⟨?_, ?_, ?_⟩
                      · unfold shiftJ; first | exact Or.inl ⟨by omega, by first | rfl | omega, by first | rfl | (intro x; have e : u = n := (by omega); rw [hx141_0 x, e])⟩ | exact Or.inr (Or.inl ⟨by omega, by first | rfl | omega, by first | rfl | (intro x; have e : u = n := (by omega); rw [hx141_0 x, e])⟩) | exact Or.inr (Or.inr (Or.inl ⟨by omega, by first | rfl | omega, by first | rfl | (intro x; have e : u = n := (by omega); rw [hx141_0 x, e])⟩)) | exact Or.inr (Or.inr (Or.inr (Or.inl ⟨by omega, by first | rfl | omega, by first | rfl | (intro x; have e : u = n := (by omega); rw [hx141_0 x, e])⟩))) | exact Or.inr (Or.inr (Or.inr (Or.inr (⟨by omega, by first | rfl | omega, by first | rfl | (intro x; have e : u = n := (by omega); rw [hx141_0 x, e])⟩))))
                      · exact hI
                      · exact (Fr.rf)
          · skip
            refine g_bipush (M := mX11_shift) (pc := 54) dX11_shift_54 (k := ?_)
            refine g_iret (M := mX11_shift) (pc := 56) rfl dX11_shift_56 rfl ⟨_, _, rfl, rfl, ?_⟩
            refine ⟨?_, ?_, ?_⟩
            · unfold shiftJ; first | exact Or.inl ⟨by omega, by first | rfl | omega, by first | rfl | (intro x; have e : u = n := (by omega); rw [hx141_0 x, e])⟩ | exact Or.inr (Or.inl ⟨by omega, by first | rfl | omega, by first | rfl | (intro x; have e : u = n := (by omega); rw [hx141_0 x, e])⟩) | exact Or.inr (Or.inr (Or.inl ⟨by omega, by first | rfl | omega, by first | rfl | (intro x; have e : u = n := (by omega); rw [hx141_0 x, e])⟩)) | exact Or.inr (Or.inr (Or.inr (Or.inl ⟨by omega, by first | rfl | omega, by first | rfl | (intro x; have e : u = n := (by omega); rw [hx141_0 x, e])⟩))) | exact Or.inr (Or.inr (Or.inr (Or.inr (⟨by omega, by first | rfl | omega, by first | rfl | (intro x; have e : u = n := (by omega); rw [hx141_0 x, e])⟩))))
            · exact hI
            · exact (Fr.rf)
        · skip
          refine g_bipush (M := mX11_shift) (pc := 36) dX11_shift_36 (k := ?_)
          refine g_iret (M := mX11_shift) (pc := 38) rfl dX11_shift_38 rfl ⟨_, _, rfl, rfl, ?_⟩
          refine ⟨?_, ?_, ?_⟩
          · unfold shiftJ; first | exact Or.inl ⟨by omega, by first | rfl | omega, by first | rfl | (intro x; have e : u = n := (by omega); rw [hx141_0 x, e])⟩ | exact Or.inr (Or.inl ⟨by omega, by first | rfl | omega, by first | rfl | (intro x; have e : u = n := (by omega); rw [hx141_0 x, e])⟩) | exact Or.inr (Or.inr (Or.inl ⟨by omega, by first | rfl | omega, by first | rfl | (intro x; have e : u = n := (by omega); rw [hx141_0 x, e])⟩)) | exact Or.inr (Or.inr (Or.inr (Or.inl ⟨by omega, by first | rfl | omega, by first | rfl | (intro x; have e : u = n := (by omega); rw [hx141_0 x, e])⟩))) | exact Or.inr (Or.inr (Or.inr (Or.inr (⟨by omega, by first | rfl | omega, by first | rfl | (intro x; have e : u = n := (by omega); rw [hx141_0 x, e])⟩))))
          · exact hI
          · exact (Fr.rf)
    · skip
      refine g_iconst (M := mX11_shift) (pc := 16) dX11_shift_16 (k := ?_)
      refine g_iret (M := mX11_shift) (pc := 17) rfl dX11_shift_17 rfl ⟨_, _, rfl, rfl, ?_⟩
      refine ⟨?_, ?_, ?_⟩
      · unfold shiftJ; first | exact Or.inl ⟨by omega, by first | rfl | omega, by first | rfl | (intro x; have e : u = n := (by omega); rw [hx141_0 x, e])⟩ | exact Or.inr (Or.inl ⟨by omega, by first | rfl | omega, by first | rfl | (intro x; have e : u = n := (by omega); rw [hx141_0 x, e])⟩) | exact Or.inr (Or.inr (Or.inl ⟨by omega, by first | rfl | omega, by first | rfl | (intro x; have e : u = n := (by omega); rw [hx141_0 x, e])⟩)) | exact Or.inr (Or.inr (Or.inr (Or.inl ⟨by omega, by first | rfl | omega, by first | rfl | (intro x; have e : u = n := (by omega); rw [hx141_0 x, e])⟩))) | exact Or.inr (Or.inr (Or.inr (Or.inr (⟨by omega, by first | rfl | omega, by first | rfl | (intro x; have e : u = n := (by omega); rw [hx141_0 x, e])⟩))))
      · exact hI
      · exact (Fr.rf)
