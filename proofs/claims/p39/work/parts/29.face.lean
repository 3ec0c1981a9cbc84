set_option maxHeartbeats 4000000 in
set_option maxRecDepth 20000 in
theorem c_X10_house (Γ : KT) (t : Nat) (σ : Nat → Int → Int) (k : Int) (v : Int) (g : Int) (hI : InvX σ) (hk : R32 k) (hv : R32 v) (hg : R32 g) : Ct Γ mX10_house 3 (0, 0) [vR Γ 0, vI k, vI v, vI g] (113, ρT t, σ) (pI 113 (ρT t) (fun r σ' => (R32 r) ∧ (houseX σ k v g r σ') ∧ (InvX σ') ∧ (Fr scCn σ σ'))) := by
  refine Ct.of rfl (Nat.le_of_ble_eq_true rfl) ?_
  show G Γ mX10_house 3 (0, 0) _ (0, 0) 0 [some (vR Γ 0), some (vI k), some (vI v), some (vI g)] [] (113, ρT t, σ)
  refine g_iload_n (M := mX10_house) (pc := 0) dX10_house_0 rfl (k := ?_)
  refine g_bipush (M := mX10_house) (pc := 1) dX10_house_1 (k := ?_)
  refine g_cS2I (M := mX10_house) (pc := 3) (c_X10_isUpTo Γ t _ _ _ (by omega) (by omega)) qX10_isUpTo vX10_isUpTo kX10_58 dX10_house_3 (kk := ?_)
  rintro _ _ ⟨e1, e⟩; rw [e1, e]; clear e1 e
  refine g_if_neB (M := mX10_house) (pc := 6) (tgt := 11) dX10_house_6 (k1 := fun h6 => ?_) (k2 := fun h6 => ?_)
  · skip
    refine g_iload_n (M := mX10_house) (pc := 11) dX10_house_11 rfl (k := ?_)
    refine g_bipush (M := mX10_house) (pc := 12) dX10_house_12 (k := ?_)
    refine g_cS2I (M := mX10_house) (pc := 14) (c_X10_isUpTo Γ t _ _ _ (by omega) (by omega)) qX10_isUpTo vX10_isUpTo kX10_58 dX10_house_14 (kk := ?_)
    rintro _ _ ⟨e1, e⟩; rw [e1, e]; clear e1 e
    refine g_if_eqB (M := mX10_house) (pc := 17) (tgt := 29) dX10_house_17 (k1 := fun h17 => ?_) (k2 := fun h17 => ?_)
    · skip
      refine g_bipush (M := mX10_house) (pc := 29) dX10_house_29 (k := ?_)
      refine g_iret (M := mX10_house) (pc := 31) rfl dX10_house_31 rfl ⟨_, _, rfl, rfl, ?_⟩
      refine ⟨?_, ?_, ?_, ?_⟩
      · omega
      · unfold houseX; first | exact Or.inl ⟨by first | omega | (refine ⟨by omega, by omega, ?_⟩; assumption), by first | rfl | omega, by first | rfl | (rw [show n = 1 by omega]; done) | (rw [show n = 0 by omega]; done) | (rw [show z = 1 by omega]; done) | (rw [show z = 0 by omega]; done) | (unfold zwith; first | rw [if_pos (by omega)] | rw [if_neg (by omega)])⟩ | exact Or.inr (Or.inl ⟨by first | omega | (refine ⟨by omega, by omega, ?_⟩; assumption), by first | rfl | omega, by first | rfl | (rw [show n = 1 by omega]; done) | (rw [show n = 0 by omega]; done) | (rw [show z = 1 by omega]; done) | (rw [show z = 0 by omega]; done) | (unfold zwith; first | rw [if_pos (by omega)] | rw [if_neg (by omega)])⟩) | exact Or.inr (Or.inr (Or.inl ⟨by first | omega | (refine ⟨by omega, by omega, ?_⟩; assumption), by first | rfl | omega, by first | rfl | (rw [show n = 1 by omega]; done) | (rw [show n = 0 by omega]; done) | (rw [show z = 1 by omega]; done) | (rw [show z = 0 by omega]; done) | (unfold zwith; first | rw [if_pos (by omega)] | rw [if_neg (by omega)])⟩)) | exact Or.inr (Or.inr (Or.inr (⟨by first | omega | (refine ⟨by omega, by omega, ?_⟩; assumption), by first | rfl | omega, by first | rfl | (rw [show n = 1 by omega]; done) | (rw [show n = 0 by omega]; done) | (rw [show z = 1 by omega]; done) | (rw [show z = 0 by omega]; done) | (unfold zwith; first | rw [if_pos (by omega)] | rw [if_neg (by omega)])⟩))) | (rcases hx39 with ⟨a, b, e⟩ | ⟨a, b, e⟩ <;> first | exact Or.inl ⟨by omega, by omega, by first | exact e | (rw [show z = 1 by omega]; exact e) | (rw [show z = 0 by omega]; exact e)⟩ | exact Or.inr (Or.inl ⟨by omega, by omega, by first | exact e | (rw [show z = 1 by omega]; exact e) | (rw [show z = 0 by omega]; exact e)⟩) | exact Or.inr (Or.inr (Or.inl ⟨by omega, by omega, by first | exact e | (rw [show z = 1 by omega]; exact e) | (rw [show z = 0 by omega]; exact e)⟩)) | exact Or.inr (Or.inr (Or.inr (⟨by omega, by omega, by first | exact e | (rw [show z = 1 by omega]; exact e) | (rw [show z = 0 by omega]; exact e)⟩))))
      · exact hI
      · exact (Fr.rf)
    · skip
      refine g_iload_n (M := mX10_house) (pc := 20) dX10_house_20 rfl (k := ?_)
      refine g_bipush (M := mX10_house) (pc := 21) dX10_house_21 (k := ?_)
      refine g_cS2I (M := mX10_house) (pc := 23) (c_X10_isUpTo Γ t _ _ _ (by omega) (by omega)) qX10_isUpTo vX10_isUpTo kX10_58 dX10_house_23 (kk := ?_)
      rintro _ _ ⟨e1, e⟩; rw [e1, e]; clear e1 e
      refine g_if_neB (M := mX10_house) (pc := 26) (tgt := 32) dX10_house_26 (k1 := fun h26 => ?_) (k2 := fun h26 => ?_)
      · skip
        refine g_aload_n (M := mX10_house) (pc := 32) dX10_house_32 rfl (k := ?_)
        refine g_getr (M := mX10_house) (pc := 33) (by rfl) fX10_0 kX10_42 dX10_house_33 (by rfl) (kk := ?_)
        refine g_iload_n (M := mX10_house) (pc := 36) dX10_house_36 rfl (k := ?_)
        refine g_iload_n (M := mX10_house) (pc := 37) dX10_house_37 rfl (k := ?_)
        refine g_iload_n (M := mX10_house) (pc := 38) dX10_house_38 rfl (k := ?_)
        refine g_cV3I (M := mX10_house) (pc := 39) (c_X5_build Γ t _ _ _ _ hI (by omega) (by omega) (by omega)) qX5_build vX5_build sX5_build kX10_62 dX10_house_39 (kk := ?_)
        rintro r39 τ39 ⟨hi39, hx39, hI39, hG39⟩
        have hF39 : Fr scCn σ τ39 := by refine Fr.tr ?_ hG39; exact (Fr.rf)
        refine g_iret (M := mX10_house) (pc := 42) rfl dX10_house_42 rfl ⟨_, _, rfl, rfl, ?_⟩
        refine ⟨?_, ?_, ?_, ?_⟩
        · omega
        · unfold houseX; first | exact Or.inl ⟨by first | omega | (refine ⟨by omega, by omega, ?_⟩; assumption), by first | rfl | omega, by first | rfl | (rw [show n = 1 by omega]; done) | (rw [show n = 0 by omega]; done) | (rw [show z = 1 by omega]; done) | (rw [show z = 0 by omega]; done) | (unfold zwith; first | rw [if_pos (by omega)] | rw [if_neg (by omega)])⟩ | exact Or.inr (Or.inl ⟨by first | omega | (refine ⟨by omega, by omega, ?_⟩; assumption), by first | rfl | omega, by first | rfl | (rw [show n = 1 by omega]; done) | (rw [show n = 0 by omega]; done) | (rw [show z = 1 by omega]; done) | (rw [show z = 0 by omega]; done) | (unfold zwith; first | rw [if_pos (by omega)] | rw [if_neg (by omega)])⟩) | exact Or.inr (Or.inr (Or.inl ⟨by first | omega | (refine ⟨by omega, by omega, ?_⟩; assumption), by first | rfl | omega, by first | rfl | (rw [show n = 1 by omega]; done) | (rw [show n = 0 by omega]; done) | (rw [show z = 1 by omega]; done) | (rw [show z = 0 by omega]; done) | (unfold zwith; first | rw [if_pos (by omega)] | rw [if_neg (by omega)])⟩)) | exact Or.inr (Or.inr (Or.inr (⟨by first | omega | (refine ⟨by omega, by omega, ?_⟩; assumption), by first | rfl | omega, by first | rfl | (rw [show n = 1 by omega]; done) | (rw [show n = 0 by omega]; done) | (rw [show z = 1 by omega]; done) | (rw [show z = 0 by omega]; done) | (unfold zwith; first | rw [if_pos (by omega)] | rw [if_neg (by omega)])⟩))) | (rcases hx39 with ⟨a, b, e⟩ | ⟨a, b, e⟩ <;> first | exact Or.inl ⟨by omega, by omega, by first | exact e | (rw [show z = 1 by omega]; exact e) | (rw [show z = 0 by omega]; exact e)⟩ | exact Or.inr (Or.inl ⟨by omega, by omega, by first | exact e | (rw [show z = 1 by omega]; exact e) | (rw [show z = 0 by omega]; exact e)⟩) | exact Or.inr (Or.inr (Or.inl ⟨by omega, by omega, by first | exact e | (rw [show z = 1 by omega]; exact e) | (rw [show z = 0 by omega]; exact e)⟩)) | exact Or.inr (Or.inr (Or.inr (⟨by omega, by omega, by first | exact e | (rw [show z = 1 by omega]; exact e) | (rw [show z = 0 by omega]; exact e)⟩))))
        · exact hI39
        · exact hF39
      · skip
        refine g_bipush (M := mX10_house) (pc := 29) dX10_house_29 (k := ?_)
        refine g_iret (M := mX10_house) (pc := 31) rfl dX10_house_31 rfl ⟨_, _, rfl, rfl, ?_⟩
        refine ⟨?_, ?_, ?_, ?_⟩
        · omega
        · unfold houseX; first | exact Or.inl ⟨by first | omega | (refine ⟨by omega, by omega, ?_⟩; assumption), by first | rfl | omega, by first | rfl | (rw [show n = 1 by omega]; done) | (rw [show n = 0 by omega]; done) | (rw [show z = 1 by omega]; done) | (rw [show z = 0 by omega]; done) | (unfold zwith; first | rw [if_pos (by omega)] | rw [if_neg (by omega)])⟩ | exact Or.inr (Or.inl ⟨by first | omega | (refine ⟨by omega, by omega, ?_⟩; assumption), by first | rfl | omega, by first | rfl | (rw [show n = 1 by omega]; done) | (rw [show n = 0 by omega]; done) | (rw [show z = 1 by omega]; done) | (rw [show z = 0 by omega]; done) | (unfold zwith; first | rw [if_pos (by omega)] | rw [if_neg (by omega)])⟩) | exact Or.inr (Or.inr (Or.inl ⟨by first | omega | (refine ⟨by omega, by omega, ?_⟩; assumption), by first | rfl | omega, by first | rfl | (rw [show n = 1 by omega]; done) | (rw [show n = 0 by omega]; done) | (rw [show z = 1 by omega]; done) | (rw [show z = 0 by omega]; done) | (unfold zwith; first | rw [if_pos (by omega)] | rw [if_neg (by omega)])⟩)) | exact Or.inr (Or.inr (Or.inr (⟨by first | omega | (refine ⟨by omega, by omega, ?_⟩; assumption), by first | rfl | omega, by first | rfl | (rw [show n = 1 by omega]; done) | (rw [show n = 0 by omega]; done) | (rw [show z = 1 by omega]; done) | (rw [show z = 0 by omega]; done) | (unfold zwith; first | rw [if_pos (by omega)] | rw [if_neg (by omega)])⟩))) | (rcases hx39 with ⟨a, b, e⟩ | ⟨a, b, e⟩ <;> first | exact Or.inl ⟨by omega, by omega, by first | exact e | (rw [show z = 1 by omega]; exact e) | (rw [show z = 0 by omega]; exact e)⟩ | exact Or.inr (Or.inl ⟨by omega, by omega, by first | exact e | (rw [show z = 1 by omega]; exact e) | (rw [show z = 0 by omega]; exact e)⟩) | exact Or.inr (Or.inr (Or.inl ⟨by omega, by omega, by first | exact e | (rw [show z = 1 by omega]; exact e) | (rw [show z = 0 by omega]; exact e)⟩)) | exact Or.inr (Or.inr (Or.inr (⟨by omega, by omega, by first | exact e | (rw [show z = 1 by omega]; exact e) | (rw [show z = 0 by omega]; exact e)⟩))))
        · exact hI
        · exact (Fr.rf)
  · skip
    refine g_iconst (M := mX10_house) (pc := 9) dX10_house_9 (k := ?_)
    refine g_iret (M := mX10_house) (pc := 10) rfl dX10_house_10 rfl ⟨_, _, rfl, rfl, ?_⟩
    refine ⟨?_, ?_, ?_, ?_⟩
    · omega
    · unfold houseX; first | exact Or.inl ⟨by first | omega | (refine ⟨by omega, by omega, ?_⟩; assumption), by first | rfl | omega, by first | rfl | (rw [show n = 1 by omega]; done) | (rw [show n = 0 by omega]; done) | (rw [show z = 1 by omega]; done) | (rw [show z = 0 by omega]; done) | (unfold zwith; first | rw [if_pos (by omega)] | rw [if_neg (by omega)])⟩ | exact Or.inr (Or.inl ⟨by first | omega | (refine ⟨by omega, by omega, ?_⟩; assumption), by first | rfl | omega, by first | rfl | (rw [show n = 1 by omega]; done) | (rw [show n = 0 by omega]; done) | (rw [show z = 1 by omega]; done) | (rw [show z = 0 by omega]; done) | (unfold zwith; first | rw [if_pos (by omega)] | rw [if_neg (by omega)])⟩) | exact Or.inr (Or.inr (Or.inl ⟨by first | omega | (refine ⟨by omega, by omega, ?_⟩; assumption), by first | rfl | omega, by first | rfl | (rw [show n = 1 by omega]; done) | (rw [show n = 0 by omega]; done) | (rw [show z = 1 by omega]; done) | (rw [show z = 0 by omega]; done) | (unfold zwith; first | rw [if_pos (by omega)] | rw [if_neg (by omega)])⟩)) | exact Or.inr (Or.inr (Or.inr (⟨by first | omega | (refine ⟨by omega, by omega, ?_⟩; assumption), by first | rfl | omega, by first | rfl | (rw [show n = 1 by omega]; done) | (rw [show n = 0 by omega]; done) | (rw [show z = 1 by omega]; done) | (rw [show z = 0 by omega]; done) | (unfold zwith; first | rw [if_pos (by omega)] | rw [if_neg (by omega)])⟩))) | (rcases hx39 with ⟨a, b, e⟩ | ⟨a, b, e⟩ <;> first | exact Or.inl ⟨by omega, by omega, by first | exact e | (rw [show z = 1 by omega]; exact e) | (rw [show z = 0 by omega]; exact e)⟩ | exact Or.inr (Or.inl ⟨by omega, by omega, by first | exact e | (rw [show z = 1 by omega]; exact e) | (rw [show z = 0 by omega]; exact e)⟩) | exact Or.inr (Or.inr (Or.inl ⟨by omega, by omega, by first | exact e | (rw [show z = 1 by omega]; exact e) | (rw [show z = 0 by omega]; exact e)⟩)) | exact Or.inr (Or.inr (Or.inr (⟨by omega, by omega, by first | exact e | (rw [show z = 1 by omega]; exact e) | (rw [show z = 0 by omega]; exact e)⟩))))
    · exact hI
    · exact (Fr.rf)
set_option maxHeartbeats 4000000 in
set_option maxRecDepth 20000 in
theorem c_X10_folk (Γ : KT) (t : Nat) (σ : Nat → Int → Int) (s : Int) (k : Int) (q : Int) (hI : InvX σ) (hs : R32 s) (hk : R32 k) (hq : R32 q) : Ct Γ mX10_folk 3 (0, 0) [vR Γ 0, vI s, vI k, vI q] (113, ρT t, σ) (pI 113 (ρT t) (fun r σ' => (R32 r) ∧ (folkX σ s k q r σ') ∧ (InvX σ') ∧ (Fr scCn σ σ'))) := by
  refine Ct.of rfl (Nat.le_of_ble_eq_true rfl) ?_
  show G Γ mX10_folk 3 (0, 0) _ (0, 0) 0 [some (vR Γ 0), some (vI s), some (vI k), some (vI q)] [] (113, ρT t, σ)
  refine g_aload_n (M := mX10_folk) (pc := 0) dX10_folk_0 rfl (k := ?_)
  refine g_getr (M := mX10_folk) (pc := 1) (by rfl) fX10_0 kX10_42 dX10_folk_1 (by rfl) (kk := ?_)
  refine g_iload_n (M := mX10_folk) (pc := 4) dX10_folk_4 rfl (k := ?_)
  refine g_cV1I (M := mX10_folk) (pc := 5) (c_X5_hasHouse Γ t _ _ (by omega)) qX5_hasHouse vX5_hasHouse sX5_hasHouse kX10_66 dX10_folk_5 (kk := ?_)
  rintro _ _ ⟨e1, e⟩; rw [e1, e]; clear e1 e
  have hb5_33 := iv33_0 hI 0 (by omega) (by omega)
  refine g_if_neB (M := mX10_folk) (pc := 8) (tgt := 13) dX10_folk_8 (k1 := fun h8 => ?_) (k2 := fun h8 => ?_)
  · skip
    refine g_iload_n (M := mX10_folk) (pc := 13) dX10_folk_13 rfl (k := ?_)
    refine g_bipush (M := mX10_folk) (pc := 14) dX10_folk_14 (k := ?_)
    refine g_cS2I (M := mX10_folk) (pc := 16) (c_X10_isUpTo Γ t _ _ _ (by omega) (by omega)) qX10_isUpTo vX10_isUpTo kX10_58 dX10_folk_16 (kk := ?_)
    rintro _ _ ⟨e1, e⟩; rw [e1, e]; clear e1 e
    refine g_if_eqB (M := mX10_folk) (pc := 19) (tgt := 33) dX10_folk_19 (k1 := fun h19 => ?_) (k2 := fun h19 => ?_)
    · skip
      refine g_bipush (M := mX10_folk) (pc := 33) dX10_folk_33 (k := ?_)
      refine g_iret (M := mX10_folk) (pc := 35) rfl dX10_folk_35 rfl ⟨_, _, rfl, rfl, ?_⟩
      refine ⟨?_, ?_, ?_, ?_⟩
      · omega
      · unfold folkX; first | exact Or.inl ⟨by first | omega | (refine ⟨by omega, by omega, ?_⟩; assumption), by first | rfl | omega, by first | rfl | (rw [show n = 1 by omega]; done) | (rw [show n = 0 by omega]; done) | (rw [show z = 1 by omega]; done) | (rw [show z = 0 by omega]; done) | (unfold zwith; first | rw [if_pos (by omega)] | rw [if_neg (by omega)])⟩ | exact Or.inr (Or.inl ⟨by first | omega | (refine ⟨by omega, by omega, ?_⟩; assumption), by first | rfl | omega, by first | rfl | (rw [show n = 1 by omega]; done) | (rw [show n = 0 by omega]; done) | (rw [show z = 1 by omega]; done) | (rw [show z = 0 by omega]; done) | (unfold zwith; first | rw [if_pos (by omega)] | rw [if_neg (by omega)])⟩) | exact Or.inr (Or.inr (Or.inl ⟨by first | omega | (refine ⟨by omega, by omega, ?_⟩; assumption), by first | rfl | omega, by first | rfl | (rw [show n = 1 by omega]; done) | (rw [show n = 0 by omega]; done) | (rw [show z = 1 by omega]; done) | (rw [show z = 0 by omega]; done) | (unfold zwith; first | rw [if_pos (by omega)] | rw [if_neg (by omega)])⟩)) | exact Or.inr (Or.inr (Or.inr (⟨by first | omega | (refine ⟨by omega, by omega, ?_⟩; assumption), by first | rfl | omega, by first | rfl | (rw [show n = 1 by omega]; done) | (rw [show n = 0 by omega]; done) | (rw [show z = 1 by omega]; done) | (rw [show z = 0 by omega]; done) | (unfold zwith; first | rw [if_pos (by omega)] | rw [if_neg (by omega)])⟩))) | (rcases hx43 with ⟨a, b, e⟩ | ⟨a, b, e⟩ <;> first | exact Or.inl ⟨by omega, by omega, by first | exact e | (rw [show z = 1 by omega]; exact e) | (rw [show z = 0 by omega]; exact e)⟩ | exact Or.inr (Or.inl ⟨by omega, by omega, by first | exact e | (rw [show z = 1 by omega]; exact e) | (rw [show z = 0 by omega]; exact e)⟩) | exact Or.inr (Or.inr (Or.inl ⟨by omega, by omega, by first | exact e | (rw [show z = 1 by omega]; exact e) | (rw [show z = 0 by omega]; exact e)⟩)) | exact Or.inr (Or.inr (Or.inr (⟨by omega, by omega, by first | exact e | (rw [show z = 1 by omega]; exact e) | (rw [show z = 0 by omega]; exact e)⟩))))
      · exact hI
      · exact (Fr.rf)
    · skip
      refine g_iload_n (M := mX10_folk) (pc := 22) dX10_folk_22 rfl (k := ?_)
      refine g_iconst (M := mX10_folk) (pc := 23) dX10_folk_23 (k := ?_)
      refine g_icmp_lt (M := mX10_folk) (pc := 24) (tgt := 33) (by omega) (by omega) dX10_folk_24 (k1 := fun h24 => ?_) (k2 := fun h24 => ?_)
      · skip
        refine g_bipush (M := mX10_folk) (pc := 33) dX10_folk_33 (k := ?_)
        refine g_iret (M := mX10_folk) (pc := 35) rfl dX10_folk_35 rfl ⟨_, _, rfl, rfl, ?_⟩
        refine ⟨?_, ?_, ?_, ?_⟩
        · omega
        · unfold folkX; first | exact Or.inl ⟨by first | omega | (refine ⟨by omega, by omega, ?_⟩; assumption), by first | rfl | omega, by first | rfl | (rw [show n = 1 by omega]; done) | (rw [show n = 0 by omega]; done) | (rw [show z = 1 by omega]; done) | (rw [show z = 0 by omega]; done) | (unfold zwith; first | rw [if_pos (by omega)] | rw [if_neg (by omega)])⟩ | exact Or.inr (Or.inl ⟨by first | omega | (refine ⟨by omega, by omega, ?_⟩; assumption), by first | rfl | omega, by first | rfl | (rw [show n = 1 by omega]; done) | (rw [show n = 0 by omega]; done) | (rw [show z = 1 by omega]; done) | (rw [show z = 0 by omega]; done) | (unfold zwith; first | rw [if_pos (by omega)] | rw [if_neg (by omega)])⟩) | exact Or.inr (Or.inr (Or.inl ⟨by first | omega | (refine ⟨by omega, by omega, ?_⟩; assumption), by first | rfl | omega, by first | rfl | (rw [show n = 1 by omega]; done) | (rw [show n = 0 by omega]; done) | (rw [show z = 1 by omega]; done) | (rw [show z = 0 by omega]; done) | (unfold zwith; first | rw [if_pos (by omega)] | rw [if_neg (by omega)])⟩)) | exact Or.inr (Or.inr (Or.inr (⟨by first | omega | (refine ⟨by omega, by omega, ?_⟩; assumption), by first | rfl | omega, by first | rfl | (rw [show n = 1 by omega]; done) | (rw [show n = 0 by omega]; done) | (rw [show z = 1 by omega]; done) | (rw [show z = 0 by omega]; done) | (unfold zwith; first | rw [if_pos (by omega)] | rw [if_neg (by omega)])⟩))) | (rcases hx43 with ⟨a, b, e⟩ | ⟨a, b, e⟩ <;> first | exact Or.inl ⟨by omega, by omega, by first | exact e | (rw [show z = 1 by omega]; exact e) | (rw [show z = 0 by omega]; exact e)⟩ | exact Or.inr (Or.inl ⟨by omega, by omega, by first | exact e | (rw [show z = 1 by omega]; exact e) | (rw [show z = 0 by omega]; exact e)⟩) | exact Or.inr (Or.inr (Or.inl ⟨by omega, by omega, by first | exact e | (rw [show z = 1 by omega]; exact e) | (rw [show z = 0 by omega]; exact e)⟩)) | exact Or.inr (Or.inr (Or.inr (⟨by omega, by omega, by first | exact e | (rw [show z = 1 by omega]; exact e) | (rw [show z = 0 by omega]; exact e)⟩))))
        · exact hI
        · exact (Fr.rf)
      · skip
        refine g_iload_n (M := mX10_folk) (pc := 27) dX10_folk_27 rfl (k := ?_)
        refine g_bipush (M := mX10_folk) (pc := 28) dX10_folk_28 (k := ?_)
        refine g_icmp_le (M := mX10_folk) (pc := 30) (tgt := 36) (by omega) (by omega) dX10_folk_30 (k1 := fun h30 => ?_) (k2 := fun h30 => ?_)
        · skip
          refine g_aload_n (M := mX10_folk) (pc := 36) dX10_folk_36 rfl (k := ?_)
          refine g_getr (M := mX10_folk) (pc := 37) (by rfl) fX10_0 kX10_42 dX10_folk_37 (by rfl) (kk := ?_)
          refine g_iload_n (M := mX10_folk) (pc := 40) dX10_folk_40 rfl (k := ?_)
          refine g_iload_n (M := mX10_folk) (pc := 41) dX10_folk_41 rfl (k := ?_)
          refine g_iload_n (M := mX10_folk) (pc := 42) dX10_folk_42 rfl (k := ?_)
          refine g_cV3I (M := mX10_folk) (pc := 43) (c_X5_wake Γ t _ _ _ _ hI (by omega) (by omega) (by omega)) qX5_wake vX5_wake sX5_wake kX10_70 dX10_folk_43 (kk := ?_)
          rintro r43 τ43 ⟨hi43, hx43, hI43, hG43⟩
          have hF43 : Fr scCn σ τ43 := by refine Fr.tr ?_ hG43; exact (Fr.rf)
          refine g_iret (M := mX10_folk) (pc := 46) rfl dX10_folk_46 rfl ⟨_, _, rfl, rfl, ?_⟩
          refine ⟨?_, ?_, ?_, ?_⟩
          · omega
          · unfold folkX; first | exact Or.inl ⟨by first | omega | (refine ⟨by omega, by omega, ?_⟩; assumption), by first | rfl | omega, by first | rfl | (rw [show n = 1 by omega]; done) | (rw [show n = 0 by omega]; done) | (rw [show z = 1 by omega]; done) | (rw [show z = 0 by omega]; done) | (unfold zwith; first | rw [if_pos (by omega)] | rw [if_neg (by omega)])⟩ | exact Or.inr (Or.inl ⟨by first | omega | (refine ⟨by omega, by omega, ?_⟩; assumption), by first | rfl | omega, by first | rfl | (rw [show n = 1 by omega]; done) | (rw [show n = 0 by omega]; done) | (rw [show z = 1 by omega]; done) | (rw [show z = 0 by omega]; done) | (unfold zwith; first | rw [if_pos (by omega)] | rw [if_neg (by omega)])⟩) | exact Or.inr (Or.inr (Or.inl ⟨by first | omega | (refine ⟨by omega, by omega, ?_⟩; assumption), by first | rfl | omega, by first | rfl | (rw [show n = 1 by omega]; done) | (rw [show n = 0 by omega]; done) | (rw [show z = 1 by omega]; done) | (rw [show z = 0 by omega]; done) | (unfold zwith; first | rw [if_pos (by omega)] | rw [if_neg (by omega)])⟩)) | exact Or.inr (Or.inr (Or.inr (⟨by first | omega | (refine ⟨by omega, by omega, ?_⟩; assumption), by first | rfl | omega, by first | rfl | (rw [show n = 1 by omega]; done) | (rw [show n = 0 by omega]; done) | (rw [show z = 1 by omega]; done) | (rw [show z = 0 by omega]; done) | (unfold zwith; first | rw [if_pos (by omega)] | rw [if_neg (by omega)])⟩))) | (rcases hx43 with ⟨a, b, e⟩ | ⟨a, b, e⟩ <;> first | exact Or.inl ⟨by omega, by omega, by first | exact e | (rw [show z = 1 by omega]; exact e) | (rw [show z = 0 by omega]; exact e)⟩ | exact Or.inr (Or.inl ⟨by omega, by omega, by first | exact e | (rw [show z = 1 by omega]; exact e) | (rw [show z = 0 by omega]; exact e)⟩) | exact Or.inr (Or.inr (Or.inl ⟨by omega, by omega, by first | exact e | (rw [show z = 1 by omega]; exact e) | (rw [show z = 0 by omega]; exact e)⟩)) | exact Or.inr (Or.inr (Or.inr (⟨by omega, by omega, by first | exact e | (rw [show z = 1 by omega]; exact e) | (rw [show z = 0 by omega]; exact e)⟩))))
          · exact hI43
          · exact hF43
        · skip
          refine g_bipush (M := mX10_folk) (pc := 33) dX10_folk_33 (k := ?_)
          refine g_iret (M := mX10_folk) (pc := 35) rfl dX10_folk_35 rfl ⟨_, _, rfl, rfl, ?_⟩
          refine ⟨?_, ?_, ?_, ?_⟩
          · omega
          · unfold folkX; first | exact Or.inl ⟨by first | omega | (refine ⟨by omega, by omega, ?_⟩; assumption), by first | rfl | omega, by first | rfl | (rw [show n = 1 by omega]; done) | (rw [show n = 0 by omega]; done) | (rw [show z = 1 by omega]; done) | (rw [show z = 0 by omega]; done) | (unfold zwith; first | rw [if_pos (by omega)] | rw [if_neg (by omega)])⟩ | exact Or.inr (Or.inl ⟨by first | omega | (refine ⟨by omega, by omega, ?_⟩; assumption), by first | rfl | omega, by first | rfl | (rw [show n = 1 by omega]; done) | (rw [show n = 0 by omega]; done) | (rw [show z = 1 by omega]; done) | (rw [show z = 0 by omega]; done) | (unfold zwith; first | rw [if_pos (by omega)] | rw [if_neg (by omega)])⟩) | exact Or.inr (Or.inr (Or.inl ⟨by first | omega | (refine ⟨by omega, by omega, ?_⟩; assumption), by first | rfl | omega, by first | rfl | (rw [show n = 1 by omega]; done) | (rw [show n = 0 by omega]; done) | (rw [show z = 1 by omega]; done) | (rw [show z = 0 by omega]; done) | (unfold zwith; first | rw [if_pos (by omega)] | rw [if_neg (by omega)])⟩)) | exact Or.inr (Or.inr (Or.inr (⟨by first | omega | (refine ⟨by omega, by omega, ?_⟩; assumption), by first | rfl | omega, by first | rfl | (rw [show n = 1 by omega]; done) | (rw [show n = 0 by omega]; done) | (rw [show z = 1 by omega]; done) | (rw [show z = 0 by omega]; done) | (unfold zwith; first | rw [if_pos (by omega)] | rw [if_neg (by omega)])⟩))) | (rcases hx43 with ⟨a, b, e⟩ | ⟨a, b, e⟩ <;> first | exact Or.inl ⟨by omega, by omega, by first | exact e | (rw [show z = 1 by omega]; exact e) | (rw [show z = 0 by omega]; exact e)⟩ | exact Or.inr (Or.inl ⟨by omega, by omega, by first | exact e | (rw [show z = 1 by omega]; exact e) | (rw [show z = 0 by omega]; exact e)⟩) | exact Or.inr (Or.inr (Or.inl ⟨by omega, by omega, by first | exact e | (rw [show z = 1 by omega]; exact e) | (rw [show z = 0 by omega]; exact e)⟩)) | exact Or.inr (Or.inr (Or.inr (⟨by omega, by omega, by first | exact e | (rw [show z = 1 by omega]; exact e) | (rw [show z = 0 by omega]; exact e)⟩))))
          · exact hI
          · exact (Fr.rf)
  · skip
    refine g_iconst (M := mX10_folk) (pc := 11) dX10_folk_11 (k := ?_)
    refine g_iret (M := mX10_folk) (pc := 12) rfl dX10_folk_12 rfl ⟨_, _, rfl, rfl, ?_⟩
    refine ⟨?_, ?_, ?_, ?_⟩
    · omega
    · unfold folkX; first | exact Or.inl ⟨by first | omega | (refine ⟨by omega, by omega, ?_⟩; assumption), by first | rfl | omega, by first | rfl | (rw [show n = 1 by omega]; done) | (rw [show n = 0 by omega]; done) | (rw [show z = 1 by omega]; done) | (rw [show z = 0 by omega]; done) | (unfold zwith; first | rw [if_pos (by omega)] | rw [if_neg (by omega)])⟩ | exact Or.inr (Or.inl ⟨by first | omega | (refine ⟨by omega, by omega, ?_⟩; assumption), by first | rfl | omega, by first | rfl | (rw [show n = 1 by omega]; done) | (rw [show n = 0 by omega]; done) | (rw [show z = 1 by omega]; done) | (rw [show z = 0 by omega]; done) | (unfold zwith; first | rw [if_pos (by omega)] | rw [if_neg (by omega)])⟩) | exact Or.inr (Or.inr (Or.inl ⟨by first | omega | (refine ⟨by omega, by omega, ?_⟩; assumption), by first | rfl | omega, by first | rfl | (rw [show n = 1 by omega]; done) | (rw [show n = 0 by omega]; done) | (rw [show z = 1 by omega]; done) | (rw [show z = 0 by omega]; done) | (unfold zwith; first | rw [if_pos (by omega)] | rw [if_neg (by omega)])⟩)) | exact Or.inr (Or.inr (Or.inr (⟨by first | omega | (refine ⟨by omega, by omega, ?_⟩; assumption), by first | rfl | omega, by first | rfl | (rw [show n = 1 by omega]; done) | (rw [show n = 0 by omega]; done) | (rw [show z = 1 by omega]; done) | (rw [show z = 0 by omega]; done) | (unfold zwith; first | rw [if_pos (by omega)] | rw [if_neg (by omega)])⟩))) | (rcases hx43 with ⟨a, b, e⟩ | ⟨a, b, e⟩ <;> first | exact Or.inl ⟨by omega, by omega, by first | exact e | (rw [show z = 1 by omega]; exact e) | (rw [show z = 0 by omega]; exact e)⟩ | exact Or.inr (Or.inl ⟨by omega, by omega, by first | exact e | (rw [show z = 1 by omega]; exact e) | (rw [show z = 0 by omega]; exact e)⟩) | exact Or.inr (Or.inr (Or.inl ⟨by omega, by omega, by first | exact e | (rw [show z = 1 by omega]; exact e) | (rw [show z = 0 by omega]; exact e)⟩)) | exact Or.inr (Or.inr (Or.inr (⟨by omega, by omega, by first | exact e | (rw [show z = 1 by omega]; exact e) | (rw [show z = 0 by omega]; exact e)⟩))))
    · exact hI
    · exact (Fr.rf)
set_option maxHeartbeats 4000000 in
set_option maxRecDepth 20000 in
theorem c_X10_paceAt (Γ : KT) (t : Nat) (σ : Nat → Int → Int) (h : Int) (w : Int) (hI : InvX σ) (hh : R32 h) (hw : R32 w) (hh : 0 ≤ h ∧ h < σ 33 0 ∧ σ 33 0 ≤ 6) : Ct Γ mX10_paceAt 4 (0, 0) [vR Γ 0, vI h, vI w] (113, ρT t, σ) (pI 113 (ρT t) (fun r σ' => (InvX σ') ∧ (Fr scX σ σ'))) := by
  refine Ct.of rfl (Nat.le_of_ble_eq_true rfl) ?_
  show G Γ mX10_paceAt 4 (0, 0) _ (0, 0) 0 [some (vR Γ 0), some (vI h), some (vI w)] [] (113, ρT t, σ)
  refine g_iload_n (M := mX10_paceAt) (pc := 0) dX10_paceAt_0 rfl (k := ?_)
  refine g_bipush (M := mX10_paceAt) (pc := 1) dX10_paceAt_1 (k := ?_)
  refine g_icmp_lt (M := mX10_paceAt) (pc := 3) (tgt := 53) (by omega) (by omega) dX10_paceAt_3 (k1 := fun h3 => ?_) (k2 := fun h3 => ?_)
  · skip
    refine g_iload_n (M := mX10_paceAt) (pc := 53) dX10_paceAt_53 rfl (k := ?_)
    refine g_bipush (M := mX10_paceAt) (pc := 54) dX10_paceAt_54 (k := ?_)
    refine g_icmp_lt (M := mX10_paceAt) (pc := 56) (tgt := 106) (by omega) (by omega) dX10_paceAt_56 (k1 := fun h56 => ?_) (k2 := fun h56 => ?_)
    · skip
      refine g_iconst (M := mX10_paceAt) (pc := 106) dX10_paceAt_106 (k := ?_)
      refine g_iret (M := mX10_paceAt) (pc := 107) rfl dX10_paceAt_107 rfl ⟨_, _, rfl, rfl, ?_⟩
      refine ⟨?_, ?_⟩
      · exact hI
      · exact (Fr.rf)
    · skip
      refine g_aload_n (M := mX10_paceAt) (pc := 59) dX10_paceAt_59 rfl (k := ?_)
      refine g_getr (M := mX10_paceAt) (pc := 60) (by rfl) fX10_0 kX10_42 dX10_paceAt_60 (by rfl) (kk := ?_)
      refine g_iload_n (M := mX10_paceAt) (pc := 63) dX10_paceAt_63 rfl (k := ?_)
      refine g_bipush (M := mX10_paceAt) (pc := 64) dX10_paceAt_64 (k := ?_)
      refine g_isub (M := mX10_paceAt) (pc := 66) dX10_paceAt_66 (k := ?_)
      refine g_cV1I (M := mX10_paceAt) (pc := 67) (c_X5_hasFolk Γ t _ _ (by omega)) qX5_hasFolk vX5_hasFolk sX5_hasFolk kX10_90 dX10_paceAt_67 (kk := ?_)
      rintro _ _ ⟨e1, e⟩; rw [e1, e]; clear e1 e
      have hb67_33 := iv33_6 hI 6 (by omega) (by omega)
      refine g_if_eqB (M := mX10_paceAt) (pc := 70) (tgt := 106) dX10_paceAt_70 (k1 := fun h70 => ?_) (k2 := fun h70 => ?_)
      · skip
        refine g_iconst (M := mX10_paceAt) (pc := 106) dX10_paceAt_106 (k := ?_)
        refine g_iret (M := mX10_paceAt) (pc := 107) rfl dX10_paceAt_107 rfl ⟨_, _, rfl, rfl, ?_⟩
        refine ⟨?_, ?_⟩
        · exact hI
        · exact (Fr.rf)
      · skip
        refine g_aload_n (M := mX10_paceAt) (pc := 73) dX10_paceAt_73 rfl (k := ?_)
        refine g_getr (M := mX10_paceAt) (pc := 74) (by rfl) fX10_4 kX10_45 dX10_paceAt_74 (by rfl) (kk := ?_)
        refine g_aload_n (M := mX10_paceAt) (pc := 77) dX10_paceAt_77 rfl (k := ?_)
        refine g_getr (M := mX10_paceAt) (pc := 78) (by rfl) fX10_0 kX10_42 dX10_paceAt_78 (by rfl) (kk := ?_)
        refine g_iload_n (M := mX10_paceAt) (pc := 81) dX10_paceAt_81 rfl (k := ?_)
        refine g_bipush (M := mX10_paceAt) (pc := 82) dX10_paceAt_82 (k := ?_)
        refine g_isub (M := mX10_paceAt) (pc := 84) dX10_paceAt_84 (k := ?_)
        refine g_iload_n (M := mX10_paceAt) (pc := 85) dX10_paceAt_85 rfl (k := ?_)
        refine g_aload_n (M := mX10_paceAt) (pc := 86) dX10_paceAt_86 rfl (k := ?_)
        refine g_getr (M := mX10_paceAt) (pc := 87) (by rfl) fX10_0 kX10_42 dX10_paceAt_87 (by rfl) (kk := ?_)
        refine g_getr (M := mX10_paceAt) (pc := 90) (by rfl) fX5_3 kX10_80 dX10_paceAt_90 (by rfl) (kk := ?_)
        refine g_iload_n (M := mX10_paceAt) (pc := 93) dX10_paceAt_93 rfl (k := ?_)
        refine g_iald (M := mX10_paceAt) (pc := 94) (by rfl) (by omega) (by omega) dX10_paceAt_94 (kk := fun hr94 => ?_)
        have hb94 := iv36_0 hI h (by omega) (by omega)
        refine g_cV4V (M := mX10_paceAt) (pc := 95) (c_X9_weigh Γ t _ _ _ _ hI (by omega) (by omega) (by omega)) qX9_weigh vX9_weigh sX9_weigh kX10_305 dX10_paceAt_95 (kk := ?_)
        rintro τ95 ⟨hI95, hG95⟩
        have hF95 : Fr scX σ τ95 := by refine Fr.tr ?_ (Fr.mono hG95 sb_scT_scX); exact (Fr.rf)
        refine g_aload_n (M := mX10_paceAt) (pc := 98) dX10_paceAt_98 rfl (k := ?_)
        refine g_getr (M := mX10_paceAt) (pc := 99) (by rfl) fX10_4 kX10_45 dX10_paceAt_99 (by rfl) (kk := ?_)
        refine g_get (M := mX10_paceAt) (pc := 102) (ji := 6) (by rfl) fX9_6 kX10_312 dX10_paceAt_102 (kk := fun hr102 => ?_)
        have hb102 := iv51_6 hI95 6 (by omega) (by omega)
        refine g_iret (M := mX10_paceAt) (pc := 105) rfl dX10_paceAt_105 rfl ⟨_, _, rfl, rfl, ?_⟩
        refine ⟨?_, ?_⟩
        · exact hI95
        · exact hF95
  · skip
    refine g_aload_n (M := mX10_paceAt) (pc := 6) dX10_paceAt_6 rfl (k := ?_)
    refine g_getr (M := mX10_paceAt) (pc := 7) (by rfl) fX10_0 kX10_42 dX10_paceAt_7 (by rfl) (kk := ?_)
    refine g_iload_n (M := mX10_paceAt) (pc := 10) dX10_paceAt_10 rfl (k := ?_)
    refine g_bipush (M := mX10_paceAt) (pc := 11) dX10_paceAt_11 (k := ?_)
    refine g_isub (M := mX10_paceAt) (pc := 13) dX10_paceAt_13 (k := ?_)
    refine g_cV1I (M := mX10_paceAt) (pc := 14) (c_X5_hasFolk Γ t _ _ (by omega)) qX5_hasFolk vX5_hasFolk sX5_hasFolk kX10_90 dX10_paceAt_14 (kk := ?_)
    rintro _ _ ⟨e1, e⟩; rw [e1, e]; clear e1 e
    have hb14_33 := iv33_6 hI 6 (by omega) (by omega)
    refine g_if_eqB (M := mX10_paceAt) (pc := 17) (tgt := 53) dX10_paceAt_17 (k1 := fun h17 => ?_) (k2 := fun h17 => ?_)
    · skip
      refine g_iload_n (M := mX10_paceAt) (pc := 53) dX10_paceAt_53 rfl (k := ?_)
      refine g_bipush (M := mX10_paceAt) (pc := 54) dX10_paceAt_54 (k := ?_)
      refine g_icmp_lt (M := mX10_paceAt) (pc := 56) (tgt := 106) (by omega) (by omega) dX10_paceAt_56 (k1 := fun h56 => ?_) (k2 := fun h56 => ?_)
      · skip
        refine g_iconst (M := mX10_paceAt) (pc := 106) dX10_paceAt_106 (k := ?_)
        refine g_iret (M := mX10_paceAt) (pc := 107) rfl dX10_paceAt_107 rfl ⟨_, _, rfl, rfl, ?_⟩
        refine ⟨?_, ?_⟩
        · exact hI
        · exact (Fr.rf)
      · skip
        refine g_aload_n (M := mX10_paceAt) (pc := 59) dX10_paceAt_59 rfl (k := ?_)
        refine g_getr (M := mX10_paceAt) (pc := 60) (by rfl) fX10_0 kX10_42 dX10_paceAt_60 (by rfl) (kk := ?_)
        refine g_iload_n (M := mX10_paceAt) (pc := 63) dX10_paceAt_63 rfl (k := ?_)
        refine g_bipush (M := mX10_paceAt) (pc := 64) dX10_paceAt_64 (k := ?_)
        refine g_isub (M := mX10_paceAt) (pc := 66) dX10_paceAt_66 (k := ?_)
        refine g_cV1I (M := mX10_paceAt) (pc := 67) (c_X5_hasFolk Γ t _ _ (by omega)) qX5_hasFolk vX5_hasFolk sX5_hasFolk kX10_90 dX10_paceAt_67 (kk := ?_)
        rintro _ _ ⟨e1, e⟩; rw [e1, e]; clear e1 e
        refine g_if_eqB (M := mX10_paceAt) (pc := 70) (tgt := 106) dX10_paceAt_70 (k1 := fun h70 => ?_) (k2 := fun h70 => ?_)
        · skip
          refine g_iconst (M := mX10_paceAt) (pc := 106) dX10_paceAt_106 (k := ?_)
          refine g_iret (M := mX10_paceAt) (pc := 107) rfl dX10_paceAt_107 rfl ⟨_, _, rfl, rfl, ?_⟩
          refine ⟨?_, ?_⟩
          · exact hI
          · exact (Fr.rf)
        · skip
          refine g_aload_n (M := mX10_paceAt) (pc := 73) dX10_paceAt_73 rfl (k := ?_)
          refine g_getr (M := mX10_paceAt) (pc := 74) (by rfl) fX10_4 kX10_45 dX10_paceAt_74 (by rfl) (kk := ?_)
          refine g_aload_n (M := mX10_paceAt) (pc := 77) dX10_paceAt_77 rfl (k := ?_)
          refine g_getr (M := mX10_paceAt) (pc := 78) (by rfl) fX10_0 kX10_42 dX10_paceAt_78 (by rfl) (kk := ?_)
          refine g_iload_n (M := mX10_paceAt) (pc := 81) dX10_paceAt_81 rfl (k := ?_)
          refine g_bipush (M := mX10_paceAt) (pc := 82) dX10_paceAt_82 (k := ?_)
          refine g_isub (M := mX10_paceAt) (pc := 84) dX10_paceAt_84 (k := ?_)
          refine g_iload_n (M := mX10_paceAt) (pc := 85) dX10_paceAt_85 rfl (k := ?_)
          refine g_aload_n (M := mX10_paceAt) (pc := 86) dX10_paceAt_86 rfl (k := ?_)
          refine g_getr (M := mX10_paceAt) (pc := 87) (by rfl) fX10_0 kX10_42 dX10_paceAt_87 (by rfl) (kk := ?_)
          refine g_getr (M := mX10_paceAt) (pc := 90) (by rfl) fX5_3 kX10_80 dX10_paceAt_90 (by rfl) (kk := ?_)
          refine g_iload_n (M := mX10_paceAt) (pc := 93) dX10_paceAt_93 rfl (k := ?_)
          refine g_iald (M := mX10_paceAt) (pc := 94) (by rfl) (by omega) (by omega) dX10_paceAt_94 (kk := fun hr94 => ?_)
          have hb94 := iv36_0 hI h (by omega) (by omega)
          refine g_cV4V (M := mX10_paceAt) (pc := 95) (c_X9_weigh Γ t _ _ _ _ hI (by omega) (by omega) (by omega)) qX9_weigh vX9_weigh sX9_weigh kX10_305 dX10_paceAt_95 (kk := ?_)
          rintro τ95 ⟨hI95, hG95⟩
          have hF95 : Fr scX σ τ95 := by refine Fr.tr ?_ (Fr.mono hG95 sb_scT_scX); exact (Fr.rf)
          refine g_aload_n (M := mX10_paceAt) (pc := 98) dX10_paceAt_98 rfl (k := ?_)
          refine g_getr (M := mX10_paceAt) (pc := 99) (by rfl) fX10_4 kX10_45 dX10_paceAt_99 (by rfl) (kk := ?_)
          refine g_get (M := mX10_paceAt) (pc := 102) (ji := 6) (by rfl) fX9_6 kX10_312 dX10_paceAt_102 (kk := fun hr102 => ?_)
          have hb102 := iv51_6 hI95 6 (by omega) (by omega)
          refine g_iret (M := mX10_paceAt) (pc := 105) rfl dX10_paceAt_105 rfl ⟨_, _, rfl, rfl, ?_⟩
          refine ⟨?_, ?_⟩
          · exact hI95
          · exact hF95
    · skip
      refine g_aload_n (M := mX10_paceAt) (pc := 20) dX10_paceAt_20 rfl (k := ?_)
      refine g_getr (M := mX10_paceAt) (pc := 21) (by rfl) fX10_4 kX10_45 dX10_paceAt_21 (by rfl) (kk := ?_)
      refine g_aload_n (M := mX10_paceAt) (pc := 24) dX10_paceAt_24 rfl (k := ?_)
      refine g_getr (M := mX10_paceAt) (pc := 25) (by rfl) fX10_0 kX10_42 dX10_paceAt_25 (by rfl) (kk := ?_)
      refine g_iload_n (M := mX10_paceAt) (pc := 28) dX10_paceAt_28 rfl (k := ?_)
      refine g_bipush (M := mX10_paceAt) (pc := 29) dX10_paceAt_29 (k := ?_)
      refine g_isub (M := mX10_paceAt) (pc := 31) dX10_paceAt_31 (k := ?_)
      refine g_iload_n (M := mX10_paceAt) (pc := 32) dX10_paceAt_32 rfl (k := ?_)
      refine g_aload_n (M := mX10_paceAt) (pc := 33) dX10_paceAt_33 rfl (k := ?_)
      refine g_getr (M := mX10_paceAt) (pc := 34) (by rfl) fX10_0 kX10_42 dX10_paceAt_34 (by rfl) (kk := ?_)
      refine g_getr (M := mX10_paceAt) (pc := 37) (by rfl) fX5_3 kX10_80 dX10_paceAt_37 (by rfl) (kk := ?_)
      refine g_iload_n (M := mX10_paceAt) (pc := 40) dX10_paceAt_40 rfl (k := ?_)
      refine g_iald (M := mX10_paceAt) (pc := 41) (by rfl) (by omega) (by omega) dX10_paceAt_41 (kk := fun hr41 => ?_)
      have hb41 := iv36_0 hI h (by omega) (by omega)
      refine g_cV4V (M := mX10_paceAt) (pc := 42) (c_X9_weigh Γ t _ _ _ _ hI (by omega) (by omega) (by omega)) qX9_weigh vX9_weigh sX9_weigh kX10_305 dX10_paceAt_42 (kk := ?_)
      rintro τ42 ⟨hI42, hG42⟩
      have hF42 : Fr scX σ τ42 := by refine Fr.tr ?_ (Fr.mono hG42 sb_scT_scX); exact (Fr.rf)
      refine g_aload_n (M := mX10_paceAt) (pc := 45) dX10_paceAt_45 rfl (k := ?_)
      refine g_getr (M := mX10_paceAt) (pc := 46) (by rfl) fX10_4 kX10_45 dX10_paceAt_46 (by rfl) (kk := ?_)
      refine g_get (M := mX10_paceAt) (pc := 49) (ji := 5) (by rfl) fX9_5 kX10_309 dX10_paceAt_49 (kk := fun hr49 => ?_)
      have hb49 := iv51_5 hI42 5 (by omega) (by omega)
      refine g_iret (M := mX10_paceAt) (pc := 52) rfl dX10_paceAt_52 rfl ⟨_, _, rfl, rfl, ?_⟩
      refine ⟨?_, ?_⟩
      · exact hI42
      · exact hF42
set_option maxHeartbeats 4000000 in
set_option maxRecDepth 20000 in
theorem c_X10_of (Γ : KT) (t : Nat) (σ : Nat → Int → Int) (h : Int) (w : Int) (hI : InvX σ) (hh : R32 h) (hw : R32 w) : Ct Γ mX10_of 5 (0, 0) [vR Γ 0, vI h, vI w] (113, ρT t, σ) (pI 113 (ρT t) (fun r σ' => (InvX σ') ∧ (Fr scX σ σ'))) := by
  refine Ct.of rfl (Nat.le_of_ble_eq_true rfl) ?_
  show G Γ mX10_of 5 (0, 0) _ (0, 0) 0 [some (vR Γ 0), some (vI h), some (vI w)] [] (113, ρT t, σ)
  refine g_aload_n (M := mX10_of) (pc := 0) dX10_of_0 rfl (k := ?_)
  refine g_getr (M := mX10_of) (pc := 1) (by rfl) fX10_0 kX10_42 dX10_of_1 (by rfl) (kk := ?_)
  refine g_iload_n (M := mX10_of) (pc := 4) dX10_of_4 rfl (k := ?_)
  refine g_cV1I (M := mX10_of) (pc := 5) (c_X5_hasHouse Γ t _ _ (by omega)) qX5_hasHouse vX5_hasHouse sX5_hasHouse kX10_66 dX10_of_5 (kk := ?_)
  rintro _ _ ⟨e1, e⟩; rw [e1, e]; clear e1 e
  have hb5_33 := iv33_0 hI 0 (by omega) (by omega)
  refine g_if_neB (M := mX10_of) (pc := 8) (tgt := 13) dX10_of_8 (k1 := fun h8 => ?_) (k2 := fun h8 => ?_)
  · skip
    refine g_iload_n (M := mX10_of) (pc := 13) dX10_of_13 rfl (k := ?_)
    by_cases hsw14 : w < 0 ∨ 3 < w
    · skip
      refine g_tableOut (M := mX10_of) (pc := 14) (tgt := 84) (by omega) dX10_of_14 (h := hsw14) (k := ?_)
      refine g_aload_n (M := mX10_of) (pc := 84) dX10_of_84 rfl (k := ?_)
      refine g_iload_n (M := mX10_of) (pc := 85) dX10_of_85 rfl (k := ?_)
      refine g_iload_n (M := mX10_of) (pc := 86) dX10_of_86 rfl (k := ?_)
      refine g_cV2I (M := mX10_of) (pc := 87) (c_X10_paceAt Γ t _ _ _ hI (by omega) (by omega) (by omega)) qX10_paceAt vX10_paceAt sX10_paceAt kX10_86 dX10_of_87 (kk := ?_)
      rintro r87 τ87 ⟨hI87, hG87⟩
      have hF87 : Fr scX σ τ87 := by refine Fr.tr ?_ hG87; exact (Fr.rf)
      refine g_iret (M := mX10_of) (pc := 90) rfl dX10_of_90 rfl ⟨_, _, rfl, rfl, ?_⟩
      refine ⟨?_, ?_⟩
      · exact hI87
      · exact hF87
    · obtain hc14 | hc14 | hc14 | hc14 : w = 0 ∨ w = 1 ∨ w = 2 ∨ w = 3 := by omega
      · skip
        refine g_tableIn (M := mX10_of) (pc := 14) (tgt := 44) (by omega) dX10_of_14 (0) hc14 (k := ?_)
        refine g_aload_n (M := mX10_of) (pc := 44) dX10_of_44 rfl (k := ?_)
        refine g_getr (M := mX10_of) (pc := 45) (by rfl) fX10_0 kX10_42 dX10_of_45 (by rfl) (kk := ?_)
        refine g_getr (M := mX10_of) (pc := 48) (by rfl) fX5_1 kX10_73 dX10_of_48 (by rfl) (kk := ?_)
        refine g_iload_n (M := mX10_of) (pc := 51) dX10_of_51 rfl (k := ?_)
        refine g_iald (M := mX10_of) (pc := 52) (by rfl) (by omega) (by omega) dX10_of_52 (kk := fun hr52 => ?_)
        have hb52 := iv34_0 hI h (by omega) (by omega)
        refine g_iret (M := mX10_of) (pc := 53) rfl dX10_of_53 rfl ⟨_, _, rfl, rfl, ?_⟩
        refine ⟨?_, ?_⟩
        · exact hI
        · exact (Fr.rf)
      · skip
        refine g_tableIn (M := mX10_of) (pc := 14) (tgt := 54) (by omega) dX10_of_14 (1) hc14 (k := ?_)
        refine g_aload_n (M := mX10_of) (pc := 54) dX10_of_54 rfl (k := ?_)
        refine g_getr (M := mX10_of) (pc := 55) (by rfl) fX10_0 kX10_42 dX10_of_55 (by rfl) (kk := ?_)
        refine g_getr (M := mX10_of) (pc := 58) (by rfl) fX5_2 kX10_77 dX10_of_58 (by rfl) (kk := ?_)
        refine g_iload_n (M := mX10_of) (pc := 61) dX10_of_61 rfl (k := ?_)
        refine g_iald (M := mX10_of) (pc := 62) (by rfl) (by omega) (by omega) dX10_of_62 (kk := fun hr62 => ?_)
        have hb62 := iv35_0 hI h (by omega) (by omega)
        refine g_iret (M := mX10_of) (pc := 63) rfl dX10_of_63 rfl ⟨_, _, rfl, rfl, ?_⟩
        refine ⟨?_, ?_⟩
        · exact hI
        · exact (Fr.rf)
      · skip
        refine g_tableIn (M := mX10_of) (pc := 14) (tgt := 64) (by omega) dX10_of_14 (2) hc14 (k := ?_)
        refine g_aload_n (M := mX10_of) (pc := 64) dX10_of_64 rfl (k := ?_)
        refine g_getr (M := mX10_of) (pc := 65) (by rfl) fX10_0 kX10_42 dX10_of_65 (by rfl) (kk := ?_)
        refine g_getr (M := mX10_of) (pc := 68) (by rfl) fX5_3 kX10_80 dX10_of_68 (by rfl) (kk := ?_)
        refine g_iload_n (M := mX10_of) (pc := 71) dX10_of_71 rfl (k := ?_)
        refine g_iald (M := mX10_of) (pc := 72) (by rfl) (by omega) (by omega) dX10_of_72 (kk := fun hr72 => ?_)
        have hb72 := iv36_0 hI h (by omega) (by omega)
        refine g_iret (M := mX10_of) (pc := 73) rfl dX10_of_73 rfl ⟨_, _, rfl, rfl, ?_⟩
        refine ⟨?_, ?_⟩
        · exact hI
        · exact (Fr.rf)
      · skip
        refine g_tableIn (M := mX10_of) (pc := 14) (tgt := 74) (by omega) dX10_of_14 (3) hc14 (k := ?_)
        refine g_aload_n (M := mX10_of) (pc := 74) dX10_of_74 rfl (k := ?_)
        refine g_getr (M := mX10_of) (pc := 75) (by rfl) fX10_0 kX10_42 dX10_of_75 (by rfl) (kk := ?_)
        refine g_getr (M := mX10_of) (pc := 78) (by rfl) fX5_4 kX10_83 dX10_of_78 (by rfl) (kk := ?_)
        refine g_iload_n (M := mX10_of) (pc := 81) dX10_of_81 rfl (k := ?_)
        refine g_iald (M := mX10_of) (pc := 82) (by rfl) (by omega) (by omega) dX10_of_82 (kk := fun hr82 => ?_)
        refine g_iret (M := mX10_of) (pc := 83) rfl dX10_of_83 rfl ⟨_, _, rfl, rfl, ?_⟩
        refine ⟨?_, ?_⟩
        · exact hI
        · exact (Fr.rf)
  · skip
    refine g_iconst (M := mX10_of) (pc := 11) dX10_of_11 (k := ?_)
    refine g_iret (M := mX10_of) (pc := 12) rfl dX10_of_12 rfl ⟨_, _, rfl, rfl, ?_⟩
    refine ⟨?_, ?_⟩
    · exact hI
    · exact (Fr.rf)
set_option maxHeartbeats 4000000 in
set_option maxRecDepth 20000 in
theorem c_X10_who (Γ : KT) (t : Nat) (σ : Nat → Int → Int) (f : Int) (w : Int) (hI : InvX σ) (hf : R32 f) (hw : R32 w) : Ct Γ mX10_who 2 (0, 0) [vR Γ 0, vI f, vI w] (113, ρT t, σ) (pI 113 (ρT t) (fun r σ' => (R32 r) ∧ (whoX σ f w r σ') ∧ (InvX σ') ∧ (Fr scX σ σ'))) := by
  refine Ct.of rfl (Nat.le_of_ble_eq_true rfl) ?_
  show G Γ mX10_who 2 (0, 0) _ (0, 0) 0 [some (vR Γ 0), some (vI f), some (vI w)] [] (113, ρT t, σ)
  refine g_aload_n (M := mX10_who) (pc := 0) dX10_who_0 rfl (k := ?_)
  refine g_getr (M := mX10_who) (pc := 1) (by rfl) fX10_0 kX10_42 dX10_who_1 (by rfl) (kk := ?_)
  refine g_iload_n (M := mX10_who) (pc := 4) dX10_who_4 rfl (k := ?_)
  refine g_cV1I (M := mX10_who) (pc := 5) (c_X5_hasFolk Γ t _ _ (by omega)) qX5_hasFolk vX5_hasFolk sX5_hasFolk kX10_90 dX10_who_5 (kk := ?_)
  rintro _ _ ⟨e1, e⟩; rw [e1, e]; clear e1 e
  have hb5_33 := iv33_6 hI 6 (by omega) (by omega)
  refine g_if_neB (M := mX10_who) (pc := 8) (tgt := 13) dX10_who_8 (k1 := fun h8 => ?_) (k2 := fun h8 => ?_)
  · skip
    refine g_iload_n (M := mX10_who) (pc := 13) dX10_who_13 rfl (k := ?_)
    by_cases hsw14 : w < 0 ∨ 2 < w
    · skip
      refine g_tableOut (M := mX10_who) (pc := 14) (tgt := 70) (by omega) dX10_who_14 (h := hsw14) (k := ?_)
      refine g_iconst (M := mX10_who) (pc := 70) dX10_who_70 (k := ?_)
      refine g_iret (M := mX10_who) (pc := 71) rfl dX10_who_71 rfl ⟨_, _, rfl, rfl, ?_⟩
      refine ⟨?_, ?_, ?_, ?_⟩
      · omega
      · unfold whoX; first | exact Or.inl ⟨by first | omega | (refine ⟨by omega, by omega, ?_⟩; assumption), by first | rfl | omega, by first | rfl | (rw [show n = 1 by omega]; done) | (rw [show n = 0 by omega]; done) | (rw [show z = 1 by omega]; done) | (rw [show z = 0 by omega]; done) | (unfold zwith; first | rw [if_pos (by omega)] | rw [if_neg (by omega)])⟩ | exact Or.inr (Or.inl ⟨by first | omega | (refine ⟨by omega, by omega, ?_⟩; assumption), by first | rfl | omega, by first | rfl | (rw [show n = 1 by omega]; done) | (rw [show n = 0 by omega]; done) | (rw [show z = 1 by omega]; done) | (rw [show z = 0 by omega]; done) | (unfold zwith; first | rw [if_pos (by omega)] | rw [if_neg (by omega)])⟩) | exact Or.inr (Or.inr (Or.inl ⟨by first | omega | (refine ⟨by omega, by omega, ?_⟩; assumption), by first | rfl | omega, by first | rfl | (rw [show n = 1 by omega]; done) | (rw [show n = 0 by omega]; done) | (rw [show z = 1 by omega]; done) | (rw [show z = 0 by omega]; done) | (unfold zwith; first | rw [if_pos (by omega)] | rw [if_neg (by omega)])⟩)) | exact Or.inr (Or.inr (Or.inr (Or.inl ⟨by first | omega | (refine ⟨by omega, by omega, ?_⟩; assumption), by first | rfl | omega, by first | rfl | (rw [show n = 1 by omega]; done) | (rw [show n = 0 by omega]; done) | (rw [show z = 1 by omega]; done) | (rw [show z = 0 by omega]; done) | (unfold zwith; first | rw [if_pos (by omega)] | rw [if_neg (by omega)])⟩))) | exact Or.inr (Or.inr (Or.inr (Or.inr (⟨by first | omega | (refine ⟨by omega, by omega, ?_⟩; assumption), by first | rfl | omega, by first | rfl | (rw [show n = 1 by omega]; done) | (rw [show n = 0 by omega]; done) | (rw [show z = 1 by omega]; done) | (rw [show z = 0 by omega]; done) | (unfold zwith; first | rw [if_pos (by omega)] | rw [if_neg (by omega)])⟩))))
      · exact hI
      · exact (Fr.rf)
    · obtain hc14 | hc14 | hc14 : w = 0 ∨ w = 1 ∨ w = 2 := by omega
      · skip
        refine g_tableIn (M := mX10_who) (pc := 14) (tgt := 40) (by omega) dX10_who_14 (0) hc14 (k := ?_)
        refine g_aload_n (M := mX10_who) (pc := 40) dX10_who_40 rfl (k := ?_)
        refine g_getr (M := mX10_who) (pc := 41) (by rfl) fX10_0 kX10_42 dX10_who_41 (by rfl) (kk := ?_)
        refine g_getr (M := mX10_who) (pc := 44) (by rfl) fX5_7 kX10_93 dX10_who_44 (by rfl) (kk := ?_)
        refine g_iload_n (M := mX10_who) (pc := 47) dX10_who_47 rfl (k := ?_)
        refine g_iald (M := mX10_who) (pc := 48) (by rfl) (by omega) (by omega) dX10_who_48 (kk := fun hr48 => ?_)
        have hb48 := iv39_0 hI f (by omega) (by omega)
        refine g_iret (M := mX10_who) (pc := 49) rfl dX10_who_49 rfl ⟨_, _, rfl, rfl, ?_⟩
        refine ⟨?_, ?_, ?_, ?_⟩
        · omega
        · unfold whoX; first | exact Or.inl ⟨by first | omega | (refine ⟨by omega, by omega, ?_⟩; assumption), by first | rfl | omega, by first | rfl | (rw [show n = 1 by omega]; done) | (rw [show n = 0 by omega]; done) | (rw [show z = 1 by omega]; done) | (rw [show z = 0 by omega]; done) | (unfold zwith; first | rw [if_pos (by omega)] | rw [if_neg (by omega)])⟩ | exact Or.inr (Or.inl ⟨by first | omega | (refine ⟨by omega, by omega, ?_⟩; assumption), by first | rfl | omega, by first | rfl | (rw [show n = 1 by omega]; done) | (rw [show n = 0 by omega]; done) | (rw [show z = 1 by omega]; done) | (rw [show z = 0 by omega]; done) | (unfold zwith; first | rw [if_pos (by omega)] | rw [if_neg (by omega)])⟩) | exact Or.inr (Or.inr (Or.inl ⟨by first | omega | (refine ⟨by omega, by omega, ?_⟩; assumption), by first | rfl | omega, by first | rfl | (rw [show n = 1 by omega]; done) | (rw [show n = 0 by omega]; done) | (rw [show z = 1 by omega]; done) | (rw [show z = 0 by omega]; done) | (unfold zwith; first | rw [if_pos (by omega)] | rw [if_neg (by omega)])⟩)) | exact Or.inr (Or.inr (Or.inr (Or.inl ⟨by first | omega | (refine ⟨by omega, by omega, ?_⟩; assumption), by first | rfl | omega, by first | rfl | (rw [show n = 1 by omega]; done) | (rw [show n = 0 by omega]; done) | (rw [show z = 1 by omega]; done) | (rw [show z = 0 by omega]; done) | (unfold zwith; first | rw [if_pos (by omega)] | rw [if_neg (by omega)])⟩))) | exact Or.inr (Or.inr (Or.inr (Or.inr (⟨by first | omega | (refine ⟨by omega, by omega, ?_⟩; assumption), by first | rfl | omega, by first | rfl | (rw [show n = 1 by omega]; done) | (rw [show n = 0 by omega]; done) | (rw [show z = 1 by omega]; done) | (rw [show z = 0 by omega]; done) | (unfold zwith; first | rw [if_pos (by omega)] | rw [if_neg (by omega)])⟩))))
        · exact hI
        · exact (Fr.rf)
      · skip
        refine g_tableIn (M := mX10_who) (pc := 14) (tgt := 50) (by omega) dX10_who_14 (1) hc14 (k := ?_)
        refine g_aload_n (M := mX10_who) (pc := 50) dX10_who_50 rfl (k := ?_)
        refine g_getr (M := mX10_who) (pc := 51) (by rfl) fX10_0 kX10_42 dX10_who_51 (by rfl) (kk := ?_)
        refine g_getr (M := mX10_who) (pc := 54) (by rfl) fX5_8 kX10_96 dX10_who_54 (by rfl) (kk := ?_)
        refine g_iload_n (M := mX10_who) (pc := 57) dX10_who_57 rfl (k := ?_)
        refine g_iald (M := mX10_who) (pc := 58) (by rfl) (by omega) (by omega) dX10_who_58 (kk := fun hr58 => ?_)
        have hb58 := iv40_0 hI f (by omega) (by omega)
        refine g_iret (M := mX10_who) (pc := 59) rfl dX10_who_59 rfl ⟨_, _, rfl, rfl, ?_⟩
        refine ⟨?_, ?_, ?_, ?_⟩
        · omega
        · unfold whoX; first | exact Or.inl ⟨by first | omega | (refine ⟨by omega, by omega, ?_⟩; assumption), by first | rfl | omega, by first | rfl | (rw [show n = 1 by omega]; done) | (rw [show n = 0 by omega]; done) | (rw [show z = 1 by omega]; done) | (rw [show z = 0 by omega]; done) | (unfold zwith; first | rw [if_pos (by omega)] | rw [if_neg (by omega)])⟩ | exact Or.inr (Or.inl ⟨by first | omega | (refine ⟨by omega, by omega, ?_⟩; assumption), by first | rfl | omega, by first | rfl | (rw [show n = 1 by omega]; done) | (rw [show n = 0 by omega]; done) | (rw [show z = 1 by omega]; done) | (rw [show z = 0 by omega]; done) | (unfold zwith; first | rw [if_pos (by omega)] | rw [if_neg (by omega)])⟩) | exact Or.inr (Or.inr (Or.inl ⟨by first | omega | (refine ⟨by omega, by omega, ?_⟩; assumption), by first | rfl | omega, by first | rfl | (rw [show n = 1 by omega]; done) | (rw [show n = 0 by omega]; done) | (rw [show z = 1 by omega]; done) | (rw [show z = 0 by omega]; done) | (unfold zwith; first | rw [if_pos (by omega)] | rw [if_neg (by omega)])⟩)) | exact Or.inr (Or.inr (Or.inr (Or.inl ⟨by first | omega | (refine ⟨by omega, by omega, ?_⟩; assumption), by first | rfl | omega, by first | rfl | (rw [show n = 1 by omega]; done) | (rw [show n = 0 by omega]; done) | (rw [show z = 1 by omega]; done) | (rw [show z = 0 by omega]; done) | (unfold zwith; first | rw [if_pos (by omega)] | rw [if_neg (by omega)])⟩))) | exact Or.inr (Or.inr (Or.inr (Or.inr (⟨by first | omega | (refine ⟨by omega, by omega, ?_⟩; assumption), by first | rfl | omega, by first | rfl | (rw [show n = 1 by omega]; done) | (rw [show n = 0 by omega]; done) | (rw [show z = 1 by omega]; done) | (rw [show z = 0 by omega]; done) | (unfold zwith; first | rw [if_pos (by omega)] | rw [if_neg (by omega)])⟩))))
        · exact hI
        · exact (Fr.rf)
      · skip
        refine g_tableIn (M := mX10_who) (pc := 14) (tgt := 60) (by omega) dX10_who_14 (2) hc14 (k := ?_)
        refine g_aload_n (M := mX10_who) (pc := 60) dX10_who_60 rfl (k := ?_)
        refine g_getr (M := mX10_who) (pc := 61) (by rfl) fX10_0 kX10_42 dX10_who_61 (by rfl) (kk := ?_)
        refine g_getr (M := mX10_who) (pc := 64) (by rfl) fX5_9 kX10_99 dX10_who_64 (by rfl) (kk := ?_)
        refine g_iload_n (M := mX10_who) (pc := 67) dX10_who_67 rfl (k := ?_)
        refine g_iald (M := mX10_who) (pc := 68) (by rfl) (by omega) (by omega) dX10_who_68 (kk := fun hr68 => ?_)
        have hb68 := iv41_0 hI f (by omega) (by omega)
        refine g_iret (M := mX10_who) (pc := 69) rfl dX10_who_69 rfl ⟨_, _, rfl, rfl, ?_⟩
        refine ⟨?_, ?_, ?_, ?_⟩
        · omega
        · unfold whoX; first | exact Or.inl ⟨by first | omega | (refine ⟨by omega, by omega, ?_⟩; assumption), by first | rfl | omega, by first | rfl | (rw [show n = 1 by omega]; done) | (rw [show n = 0 by omega]; done) | (rw [show z = 1 by omega]; done) | (rw [show z = 0 by omega]; done) | (unfold zwith; first | rw [if_pos (by omega)] | rw [if_neg (by omega)])⟩ | exact Or.inr (Or.inl ⟨by first | omega | (refine ⟨by omega, by omega, ?_⟩; assumption), by first | rfl | omega, by first | rfl | (rw [show n = 1 by omega]; done) | (rw [show n = 0 by omega]; done) | (rw [show z = 1 by omega]; done) | (rw [show z = 0 by omega]; done) | (unfold zwith; first | rw [if_pos (by omega)] | rw [if_neg (by omega)])⟩) | exact Or.inr (Or.inr (Or.inl ⟨by first | omega | (refine ⟨by omega, by omega, ?_⟩; assumption), by first | rfl | omega, by first | rfl | (rw [show n = 1 by omega]; done) | (rw [show n = 0 by omega]; done) | (rw [show z = 1 by omega]; done) | (rw [show z = 0 by omega]; done) | (unfold zwith; first | rw [if_pos (by omega)] | rw [if_neg (by omega)])⟩)) | exact Or.inr (Or.inr (Or.inr (Or.inl ⟨by first | omega | (refine ⟨by omega, by omega, ?_⟩; assumption), by first | rfl | omega, by first | rfl | (rw [show n = 1 by omega]; done) | (rw [show n = 0 by omega]; done) | (rw [show z = 1 by omega]; done) | (rw [show z = 0 by omega]; done) | (unfold zwith; first | rw [if_pos (by omega)] | rw [if_neg (by omega)])⟩))) | exact Or.inr (Or.inr (Or.inr (Or.inr (⟨by first | omega | (refine ⟨by omega, by omega, ?_⟩; assumption), by first | rfl | omega, by first | rfl | (rw [show n = 1 by omega]; done) | (rw [show n = 0 by omega]; done) | (rw [show z = 1 by omega]; done) | (rw [show z = 0 by omega]; done) | (unfold zwith; first | rw [if_pos (by omega)] | rw [if_neg (by omega)])⟩))))
        · exact hI
        · exact (Fr.rf)
  · skip
    refine g_iconst (M := mX10_who) (pc := 11) dX10_who_11 (k := ?_)
    refine g_iret (M := mX10_who) (pc := 12) rfl dX10_who_12 rfl ⟨_, _, rfl, rfl, ?_⟩
    refine ⟨?_, ?_, ?_, ?_⟩
    · omega
    · unfold whoX; first | exact Or.inl ⟨by first | omega | (refine ⟨by omega, by omega, ?_⟩; assumption), by first | rfl | omega, by first | rfl | (rw [show n = 1 by omega]; done) | (rw [show n = 0 by omega]; done) | (rw [show z = 1 by omega]; done) | (rw [show z = 0 by omega]; done) | (unfold zwith; first | rw [if_pos (by omega)] | rw [if_neg (by omega)])⟩ | exact Or.inr (Or.inl ⟨by first | omega | (refine ⟨by omega, by omega, ?_⟩; assumption), by first | rfl | omega, by first | rfl | (rw [show n = 1 by omega]; done) | (rw [show n = 0 by omega]; done) | (rw [show z = 1 by omega]; done) | (rw [show z = 0 by omega]; done) | (unfold zwith; first | rw [if_pos (by omega)] | rw [if_neg (by omega)])⟩) | exact Or.inr (Or.inr (Or.inl ⟨by first | omega | (refine ⟨by omega, by omega, ?_⟩; assumption), by first | rfl | omega, by first | rfl | (rw [show n = 1 by omega]; done) | (rw [show n = 0 by omega]; done) | (rw [show z = 1 by omega]; done) | (rw [show z = 0 by omega]; done) | (unfold zwith; first | rw [if_pos (by omega)] | rw [if_neg (by omega)])⟩)) | exact Or.inr (Or.inr (Or.inr (Or.inl ⟨by first | omega | (refine ⟨by omega, by omega, ?_⟩; assumption), by first | rfl | omega, by first | rfl | (rw [show n = 1 by omega]; done) | (rw [show n = 0 by omega]; done) | (rw [show z = 1 by omega]; done) | (rw [show z = 0 by omega]; done) | (unfold zwith; first | rw [if_pos (by omega)] | rw [if_neg (by omega)])⟩))) | exact Or.inr (Or.inr (Or.inr (Or.inr (⟨by first | omega | (refine ⟨by omega, by omega, ?_⟩; assumption), by first | rfl | omega, by first | rfl | (rw [show n = 1 by omega]; done) | (rw [show n = 0 by omega]; done) | (rw [show z = 1 by omega]; done) | (rw [show z = 0 by omega]; done) | (unfold zwith; first | rw [if_pos (by omega)] | rw [if_neg (by omega)])⟩))))
    · exact hI
    · exact (Fr.rf)
set_option maxHeartbeats 4000000 in
set_option maxRecDepth 20000 in
theorem c_X10_strew (Γ : KT) (t : Nat) (σ : Nat → Int → Int) (h : Int) (n : Int) (hI : InvX σ) (hh : R32 h) (hn : R32 n) : Ct Γ mX10_strew 2 (0, 0) [vR Γ 0, vI h, vI n] (113, ρT t, σ) (pI 113 (ρT t) (fun r σ' => (R32 r) ∧ (strewX σ h n r σ') ∧ (InvX σ') ∧ (Fr scCn σ σ'))) := by
  refine Ct.of rfl (Nat.le_of_ble_eq_true rfl) ?_
  show G Γ mX10_strew 2 (0, 0) _ (0, 0) 0 [some (vR Γ 0), some (vI h), some (vI n), none] [] (113, ρT t, σ)
  refine g_aload_n (M := mX10_strew) (pc := 0) dX10_strew_0 rfl (k := ?_)
  refine g_getr (M := mX10_strew) (pc := 1) (by rfl) fX10_0 kX10_42 dX10_strew_1 (by rfl) (kk := ?_)
  refine g_iload_n (M := mX10_strew) (pc := 4) dX10_strew_4 rfl (k := ?_)
  refine g_cV1I (M := mX10_strew) (pc := 5) (c_X5_hasHouse Γ t _ _ (by omega)) qX5_hasHouse vX5_hasHouse sX5_hasHouse kX10_66 dX10_strew_5 (kk := ?_)
  rintro _ _ ⟨e1, e⟩; rw [e1, e]; clear e1 e
  have hb5_33 := iv33_0 hI 0 (by omega) (by omega)
  refine g_if_neB (M := mX10_strew) (pc := 8) (tgt := 13) dX10_strew_8 (k1 := fun h8 => ?_) (k2 := fun h8 => ?_)
  · skip
    refine g_iload_n (M := mX10_strew) (pc := 13) dX10_strew_13 rfl (k := ?_)
    refine g_bipush (M := mX10_strew) (pc := 14) dX10_strew_14 (k := ?_)
    refine g_cS2I (M := mX10_strew) (pc := 16) (c_X10_isUpTo Γ t _ _ _ (by omega) (by omega)) qX10_isUpTo vX10_isUpTo kX10_58 dX10_strew_16 (kk := ?_)
    rintro _ _ ⟨e1, e⟩; rw [e1, e]; clear e1 e
    refine g_if_neB (M := mX10_strew) (pc := 19) (tgt := 25) dX10_strew_19 (k1 := fun h19 => ?_) (k2 := fun h19 => ?_)
    · skip
      refine g_aload_n (M := mX10_strew) (pc := 25) dX10_strew_25 rfl (k := ?_)
      refine g_getr (M := mX10_strew) (pc := 26) (by rfl) fX10_0 kX10_42 dX10_strew_26 (by rfl) (kk := ?_)
      refine g_getr (M := mX10_strew) (pc := 29) (by rfl) fX5_3 kX10_80 dX10_strew_29 (by rfl) (kk := ?_)
      refine g_iload_n (M := mX10_strew) (pc := 32) dX10_strew_32 rfl (k := ?_)
      refine g_iald (M := mX10_strew) (pc := 33) (by rfl) (by omega) (by omega) dX10_strew_33 (kk := fun hr33 => ?_)
      have hb33 := iv36_0 hI h (by omega) (by omega)
      refine g_istore_3 (M := mX10_strew) (pc := 34) dX10_strew_34 (k := ?_)
      refine g_aload_n (M := mX10_strew) (pc := 35) dX10_strew_35 rfl (k := ?_)
      refine g_getr (M := mX10_strew) (pc := 36) (by rfl) fX10_0 kX10_42 dX10_strew_36 (by rfl) (kk := ?_)
      refine g_getr (M := mX10_strew) (pc := 39) (by rfl) fX5_3 kX10_80 dX10_strew_39 (by rfl) (kk := ?_)
      refine g_iload_n (M := mX10_strew) (pc := 42) dX10_strew_42 rfl (k := ?_)
      refine g_iload_n (M := mX10_strew) (pc := 43) dX10_strew_43 rfl (k := ?_)
      refine g_iast (M := mX10_strew) (pc := 44) (by rfl) (by omega) (by omega) (by omega) dX10_strew_44 (kk := ?_)
      refine g_iload_n (M := mX10_strew) (pc := 45) dX10_strew_45 rfl (k := ?_)
      refine g_iret (M := mX10_strew) (pc := 46) rfl dX10_strew_46 rfl ⟨_, _, rfl, rfl, ?_⟩
      refine ⟨?_, ?_, ?_, ?_⟩
      · omega
      · unfold strewX; first | exact Or.inl ⟨by first | omega | (refine ⟨by omega, by omega, ?_⟩; assumption), by first | rfl | omega, by first | rfl | (rw [show n = 1 by omega]; done) | (rw [show n = 0 by omega]; done) | (rw [show z = 1 by omega]; done) | (rw [show z = 0 by omega]; done) | (unfold zwith; first | rw [if_pos (by omega)] | rw [if_neg (by omega)])⟩ | exact Or.inr (Or.inl ⟨by first | omega | (refine ⟨by omega, by omega, ?_⟩; assumption), by first | rfl | omega, by first | rfl | (rw [show n = 1 by omega]; done) | (rw [show n = 0 by omega]; done) | (rw [show z = 1 by omega]; done) | (rw [show z = 0 by omega]; done) | (unfold zwith; first | rw [if_pos (by omega)] | rw [if_neg (by omega)])⟩) | exact Or.inr (Or.inr (⟨by first | omega | (refine ⟨by omega, by omega, ?_⟩; assumption), by first | rfl | omega, by first | rfl | (rw [show n = 1 by omega]; done) | (rw [show n = 0 by omega]; done) | (rw [show z = 1 by omega]; done) | (rw [show z = 0 by omega]; done) | (unfold zwith; first | rw [if_pos (by omega)] | rw [if_neg (by omega)])⟩))
      · refine ivu36 ?_ (by omega) (by omega); exact hI
      · refine Fr.up ?_ (by first | rfl | (unfold scCn; simp; try omega)); exact (Fr.rf)
    · skip
      refine g_bipush (M := mX10_strew) (pc := 22) dX10_strew_22 (k := ?_)
      refine g_iret (M := mX10_strew) (pc := 24) rfl dX10_strew_24 rfl ⟨_, _, rfl, rfl, ?_⟩
      refine ⟨?_, ?_, ?_, ?_⟩
      · omega
      · unfold strewX; first | exact Or.inl ⟨by first | omega | (refine ⟨by omega, by omega, ?_⟩; assumption), by first | rfl | omega, by first | rfl | (rw [show n = 1 by omega]; done) | (rw [show n = 0 by omega]; done) | (rw [show z = 1 by omega]; done) | (rw [show z = 0 by omega]; done) | (unfold zwith; first | rw [if_pos (by omega)] | rw [if_neg (by omega)])⟩ | exact Or.inr (Or.inl ⟨by first | omega | (refine ⟨by omega, by omega, ?_⟩; assumption), by first | rfl | omega, by first | rfl | (rw [show n = 1 by omega]; done) | (rw [show n = 0 by omega]; done) | (rw [show z = 1 by omega]; done) | (rw [show z = 0 by omega]; done) | (unfold zwith; first | rw [if_pos (by omega)] | rw [if_neg (by omega)])⟩) | exact Or.inr (Or.inr (⟨by first | omega | (refine ⟨by omega, by omega, ?_⟩; assumption), by first | rfl | omega, by first | rfl | (rw [show n = 1 by omega]; done) | (rw [show n = 0 by omega]; done) | (rw [show z = 1 by omega]; done) | (rw [show z = 0 by omega]; done) | (unfold zwith; first | rw [if_pos (by omega)] | rw [if_neg (by omega)])⟩))
      · exact hI
      · exact (Fr.rf)
  · skip
    refine g_iconst (M := mX10_strew) (pc := 11) dX10_strew_11 (k := ?_)
    refine g_iret (M := mX10_strew) (pc := 12) rfl dX10_strew_12 rfl ⟨_, _, rfl, rfl, ?_⟩
    refine ⟨?_, ?_, ?_, ?_⟩
    · omega
    · unfold strewX; first | exact Or.inl ⟨by first | omega | (refine ⟨by omega, by omega, ?_⟩; assumption), by first | rfl | omega, by first | rfl | (rw [show n = 1 by omega]; done) | (rw [show n = 0 by omega]; done) | (rw [show z = 1 by omega]; done) | (rw [show z = 0 by omega]; done) | (unfold zwith; first | rw [if_pos (by omega)] | rw [if_neg (by omega)])⟩ | exact Or.inr (Or.inl ⟨by first | omega | (refine ⟨by omega, by omega, ?_⟩; assumption), by first | rfl | omega, by first | rfl | (rw [show n = 1 by omega]; done) | (rw [show n = 0 by omega]; done) | (rw [show z = 1 by omega]; done) | (rw [show z = 0 by omega]; done) | (unfold zwith; first | rw [if_pos (by omega)] | rw [if_neg (by omega)])⟩) | exact Or.inr (Or.inr (⟨by first | omega | (refine ⟨by omega, by omega, ?_⟩; assumption), by first | rfl | omega, by first | rfl | (rw [show n = 1 by omega]; done) | (rw [show n = 0 by omega]; done) | (rw [show z = 1 by omega]; done) | (rw [show z = 0 by omega]; done) | (unfold zwith; first | rw [if_pos (by omega)] | rw [if_neg (by omega)])⟩))
    · exact hI
    · exact (Fr.rf)
set_option maxHeartbeats 4000000 in
set_option maxRecDepth 20000 in
theorem c_X10_ask (Γ : KT) (t : Nat) (σ : Nat → Int → Int) (h : Int) (f : Int) (z : Int) (hI : InvX σ) (hh : R32 h) (hf : R32 f) (hz : R32 z) : Ct Γ mX10_ask 2 (0, 0) [vR Γ 0, vI h, vI f, vI z] (113, ρT t, σ) (pI 113 (ρT t) (fun r σ' => (R32 r) ∧ (askX σ h f z r σ') ∧ (InvX σ') ∧ (Fr scCn σ σ'))) := by
  refine Ct.of rfl (Nat.le_of_ble_eq_true rfl) ?_
  show G Γ mX10_ask 2 (0, 0) _ (0, 0) 0 [some (vR Γ 0), some (vI h), some (vI f), some (vI z), none] [] (113, ρT t, σ)
  refine g_aload_n (M := mX10_ask) (pc := 0) dX10_ask_0 rfl (k := ?_)
  refine g_getr (M := mX10_ask) (pc := 1) (by rfl) fX10_0 kX10_42 dX10_ask_1 (by rfl) (kk := ?_)
  refine g_iload_n (M := mX10_ask) (pc := 4) dX10_ask_4 rfl (k := ?_)
  refine g_cV1I (M := mX10_ask) (pc := 5) (c_X5_hasHouse Γ t _ _ (by omega)) qX5_hasHouse vX5_hasHouse sX5_hasHouse kX10_66 dX10_ask_5 (kk := ?_)
  rintro _ _ ⟨e1, e⟩; rw [e1, e]; clear e1 e
  have hb5_33 := iv33_0 hI 0 (by omega) (by omega)
  refine g_if_eqB (M := mX10_ask) (pc := 8) (tgt := 22) dX10_ask_8 (k1 := fun h8 => ?_) (k2 := fun h8 => ?_)
  · skip
    refine g_iconst (M := mX10_ask) (pc := 22) dX10_ask_22 (k := ?_)
    refine g_iret (M := mX10_ask) (pc := 23) rfl dX10_ask_23 rfl ⟨_, _, rfl, rfl, ?_⟩
    refine ⟨?_, ?_, ?_, ?_⟩
    · omega
    · unfold askX; first | exact Or.inl ⟨by first | omega | (refine ⟨by omega, by omega, ?_⟩; assumption), by first | rfl | omega, by first | rfl | (rw [show n = 1 by omega]; done) | (rw [show n = 0 by omega]; done) | (rw [show z = 1 by omega]; done) | (rw [show z = 0 by omega]; done) | (unfold zwith; first | rw [if_pos (by omega)] | rw [if_neg (by omega)])⟩ | exact Or.inr (⟨by first | omega | (refine ⟨by omega, by omega, ?_⟩; assumption), by first | rfl | omega, by first | rfl | (rw [show n = 1 by omega]; done) | (rw [show n = 0 by omega]; done) | (rw [show z = 1 by omega]; done) | (rw [show z = 0 by omega]; done) | (unfold zwith; first | rw [if_pos (by omega)] | rw [if_neg (by omega)])⟩)
    · exact hI
    · exact (Fr.rf)
  · skip
    refine g_aload_n (M := mX10_ask) (pc := 11) dX10_ask_11 rfl (k := ?_)
    refine g_getr (M := mX10_ask) (pc := 12) (by rfl) fX10_0 kX10_42 dX10_ask_12 (by rfl) (kk := ?_)
    refine g_iload_n (M := mX10_ask) (pc := 15) dX10_ask_15 rfl (k := ?_)
    refine g_cV1I (M := mX10_ask) (pc := 16) (c_X5_hasFolk Γ t _ _ (by omega)) qX5_hasFolk vX5_hasFolk sX5_hasFolk kX10_90 dX10_ask_16 (kk := ?_)
    rintro _ _ ⟨e1, e⟩; rw [e1, e]; clear e1 e
    have hb16_33 := iv33_6 hI 6 (by omega) (by omega)
    refine g_if_neB (M := mX10_ask) (pc := 19) (tgt := 24) dX10_ask_19 (k1 := fun h19 => ?_) (k2 := fun h19 => ?_)
    · skip
      refine g_aload_n (M := mX10_ask) (pc := 24) dX10_ask_24 rfl (k := ?_)
      refine g_getr (M := mX10_ask) (pc := 25) (by rfl) fX10_0 kX10_42 dX10_ask_25 (by rfl) (kk := ?_)
      refine g_getr (M := mX10_ask) (pc := 28) (by rfl) fX5_4 kX10_83 dX10_ask_28 (by rfl) (kk := ?_)
      refine g_iload_n (M := mX10_ask) (pc := 31) dX10_ask_31 rfl (k := ?_)
      refine g_iald (M := mX10_ask) (pc := 32) (by rfl) (by omega) (by omega) dX10_ask_32 (kk := fun hr32 => ?_)
      refine g_iload_n (M := mX10_ask) (pc := 33) dX10_ask_33 rfl (k := ?_)
      refine g_cS2I (M := mX10_ask) (pc := 34) (c_X10_bit Γ t _ _ _) qX10_bit vX10_bit kX10_102 dX10_ask_34 (kk := ?_)
      rintro _ _ ⟨e1, e⟩; rw [e1, e]; clear e1 e
      have hq34_0 := zbitR (σ 37 h) f
      refine g_istore_4 (M := mX10_ask) (pc := 37) dX10_ask_37 (k := ?_)
      refine g_aload_n (M := mX10_ask) (pc := 39) dX10_ask_39 rfl (k := ?_)
      refine g_getr (M := mX10_ask) (pc := 40) (by rfl) fX10_0 kX10_42 dX10_ask_40 (by rfl) (kk := ?_)
      refine g_getr (M := mX10_ask) (pc := 43) (by rfl) fX5_4 kX10_83 dX10_ask_43 (by rfl) (kk := ?_)
      refine g_iload_n (M := mX10_ask) (pc := 46) dX10_ask_46 rfl (k := ?_)
      refine g_aload_n (M := mX10_ask) (pc := 47) dX10_ask_47 rfl (k := ?_)
      refine g_getr (M := mX10_ask) (pc := 48) (by rfl) fX10_0 kX10_42 dX10_ask_48 (by rfl) (kk := ?_)
      refine g_getr (M := mX10_ask) (pc := 51) (by rfl) fX5_4 kX10_83 dX10_ask_51 (by rfl) (kk := ?_)
      refine g_iload_n (M := mX10_ask) (pc := 54) dX10_ask_54 rfl (k := ?_)
      refine g_iald (M := mX10_ask) (pc := 55) (by rfl) (by omega) (by omega) dX10_ask_55 (kk := fun hr55 => ?_)
      refine g_iload_n (M := mX10_ask) (pc := 56) dX10_ask_56 rfl (k := ?_)
      refine g_iload_n (M := mX10_ask) (pc := 57) dX10_ask_57 rfl (k := ?_)
      refine g_cS3I (M := mX10_ask) (pc := 58) (c_X10_withBit Γ t _ _ _ _ (by omega)) qX10_withBit vX10_withBit kX10_105 dX10_ask_58 (kk := ?_)
      rintro _ _ ⟨e1, e⟩; rw [e1, e]; clear e1 e
      have hq58_0 := zwithR (σ 37 h) f z
      refine g_iast (M := mX10_ask) (pc := 61) (by rfl) (by omega) (by omega) (by omega) dX10_ask_61 (kk := ?_)
      refine g_iload (M := mX10_ask) (pc := 62) dX10_ask_62 rfl (k := ?_)
      refine g_iret (M := mX10_ask) (pc := 64) rfl dX10_ask_64 rfl ⟨_, _, rfl, rfl, ?_⟩
      refine ⟨?_, ?_, ?_, ?_⟩
      · omega
      · unfold askX; first | exact Or.inl ⟨by first | omega | (refine ⟨by omega, by omega, ?_⟩; assumption), by first | rfl | omega, by first | rfl | (rw [show n = 1 by omega]; done) | (rw [show n = 0 by omega]; done) | (rw [show z = 1 by omega]; done) | (rw [show z = 0 by omega]; done) | (unfold zwith; first | rw [if_pos (by omega)] | rw [if_neg (by omega)])⟩ | exact Or.inr (⟨by first | omega | (refine ⟨by omega, by omega, ?_⟩; assumption), by first | rfl | omega, by first | rfl | (rw [show n = 1 by omega]; done) | (rw [show n = 0 by omega]; done) | (rw [show z = 1 by omega]; done) | (rw [show z = 0 by omega]; done) | (unfold zwith; first | rw [if_pos (by omega)] | rw [if_neg (by omega)])⟩)
      · refine iv_cell ?_ (by rfl); exact hI
      · refine Fr.up ?_ (by first | rfl | (unfold scCn; simp; try omega)); exact (Fr.rf)
    · skip
      refine g_iconst (M := mX10_ask) (pc := 22) dX10_ask_22 (k := ?_)
      refine g_iret (M := mX10_ask) (pc := 23) rfl dX10_ask_23 rfl ⟨_, _, rfl, rfl, ?_⟩
      refine ⟨?_, ?_, ?_, ?_⟩
      · omega
      · unfold askX; first | exact Or.inl ⟨by first | omega | (refine ⟨by omega, by omega, ?_⟩; assumption), by first | rfl | omega, by first | rfl | (rw [show n = 1 by omega]; done) | (rw [show n = 0 by omega]; done) | (rw [show z = 1 by omega]; done) | (rw [show z = 0 by omega]; done) | (unfold zwith; first | rw [if_pos (by omega)] | rw [if_neg (by omega)])⟩ | exact Or.inr (⟨by first | omega | (refine ⟨by omega, by omega, ?_⟩; assumption), by first | rfl | omega, by first | rfl | (rw [show n = 1 by omega]; done) | (rw [show n = 0 by omega]; done) | (rw [show z = 1 by omega]; done) | (rw [show z = 0 by omega]; done) | (unfold zwith; first | rw [if_pos (by omega)] | rw [if_neg (by omega)])⟩)
      · exact hI
      · exact (Fr.rf)
set_option maxHeartbeats 4000000 in
set_option maxRecDepth 20000 in
theorem c_X10_sack (Γ : KT) (t : Nat) (σ : Nat → Int → Int) (f : Int) (h : Int) (hI : InvX σ) (hf : R32 f) (hh : R32 h) : Ct Γ mX10_sack 2 (0, 0) [vR Γ 0, vI f, vI h] (113, ρT t, σ) (pI 113 (ρT t) (fun r σ' => (R32 r) ∧ (sackX σ f h r σ') ∧ (InvX σ') ∧ (Fr scCn σ σ'))) := by
  refine Ct.of rfl (Nat.le_of_ble_eq_true rfl) ?_
  show G Γ mX10_sack 2 (0, 0) _ (0, 0) 0 [some (vR Γ 0), some (vI f), some (vI h), none] [] (113, ρT t, σ)
  refine g_aload_n (M := mX10_sack) (pc := 0) dX10_sack_0 rfl (k := ?_)
  refine g_getr (M := mX10_sack) (pc := 1) (by rfl) fX10_0 kX10_42 dX10_sack_1 (by rfl) (kk := ?_)
  refine g_iload_n (M := mX10_sack) (pc := 4) dX10_sack_4 rfl (k := ?_)
  refine g_cV1I (M := mX10_sack) (pc := 5) (c_X5_hasFolk Γ t _ _ (by omega)) qX5_hasFolk vX5_hasFolk sX5_hasFolk kX10_90 dX10_sack_5 (kk := ?_)
  rintro _ _ ⟨e1, e⟩; rw [e1, e]; clear e1 e
  have hb5_33 := iv33_6 hI 6 (by omega) (by omega)
  refine g_if_eqB (M := mX10_sack) (pc := 8) (tgt := 22) dX10_sack_8 (k1 := fun h8 => ?_) (k2 := fun h8 => ?_)
  · skip
    refine g_iconst (M := mX10_sack) (pc := 22) dX10_sack_22 (k := ?_)
    refine g_iret (M := mX10_sack) (pc := 23) rfl dX10_sack_23 rfl ⟨_, _, rfl, rfl, ?_⟩
    refine ⟨?_, ?_, ?_, ?_⟩
    · omega
    · unfold sackX; first | exact Or.inl ⟨by first | omega | (refine ⟨by omega, by omega, ?_⟩; assumption), by first | rfl | omega, by first | rfl | (rw [show n = 1 by omega]; done) | (rw [show n = 0 by omega]; done) | (rw [show z = 1 by omega]; done) | (rw [show z = 0 by omega]; done) | (unfold zwith; first | rw [if_pos (by omega)] | rw [if_neg (by omega)])⟩ | exact Or.inr (⟨by first | omega | (refine ⟨by omega, by omega, ?_⟩; assumption), by first | rfl | omega, by first | rfl | (rw [show n = 1 by omega]; done) | (rw [show n = 0 by omega]; done) | (rw [show z = 1 by omega]; done) | (rw [show z = 0 by omega]; done) | (unfold zwith; first | rw [if_pos (by omega)] | rw [if_neg (by omega)])⟩)
    · exact hI
    · exact (Fr.rf)
  · skip
    refine g_aload_n (M := mX10_sack) (pc := 11) dX10_sack_11 rfl (k := ?_)
    refine g_getr (M := mX10_sack) (pc := 12) (by rfl) fX10_0 kX10_42 dX10_sack_12 (by rfl) (kk := ?_)
    refine g_iload_n (M := mX10_sack) (pc := 15) dX10_sack_15 rfl (k := ?_)
    refine g_cV1I (M := mX10_sack) (pc := 16) (c_X5_hasHouse Γ t _ _ (by omega)) qX5_hasHouse vX5_hasHouse sX5_hasHouse kX10_66 dX10_sack_16 (kk := ?_)
    rintro _ _ ⟨e1, e⟩; rw [e1, e]; clear e1 e
    have hb16_33 := iv33_0 hI 0 (by omega) (by omega)
    refine g_if_neB (M := mX10_sack) (pc := 19) (tgt := 24) dX10_sack_19 (k1 := fun h19 => ?_) (k2 := fun h19 => ?_)
    · skip
      refine g_aload_n (M := mX10_sack) (pc := 24) dX10_sack_24 rfl (k := ?_)
      refine g_getr (M := mX10_sack) (pc := 25) (by rfl) fX10_0 kX10_42 dX10_sack_25 (by rfl) (kk := ?_)
      refine g_getr (M := mX10_sack) (pc := 28) (by rfl) fX5_7 kX10_93 dX10_sack_28 (by rfl) (kk := ?_)
      refine g_iload_n (M := mX10_sack) (pc := 31) dX10_sack_31 rfl (k := ?_)
      refine g_iald (M := mX10_sack) (pc := 32) (by rfl) (by omega) (by omega) dX10_sack_32 (kk := fun hr32 => ?_)
      have hb32 := iv39_0 hI f (by omega) (by omega)
      refine g_istore_3 (M := mX10_sack) (pc := 33) dX10_sack_33 (k := ?_)
      refine g_aload_n (M := mX10_sack) (pc := 34) dX10_sack_34 rfl (k := ?_)
      refine g_getr (M := mX10_sack) (pc := 35) (by rfl) fX10_0 kX10_42 dX10_sack_35 (by rfl) (kk := ?_)
      refine g_getr (M := mX10_sack) (pc := 38) (by rfl) fX5_7 kX10_93 dX10_sack_38 (by rfl) (kk := ?_)
      refine g_iload_n (M := mX10_sack) (pc := 41) dX10_sack_41 rfl (k := ?_)
      refine g_iload_n (M := mX10_sack) (pc := 42) dX10_sack_42 rfl (k := ?_)
      refine g_iast (M := mX10_sack) (pc := 43) (by rfl) (by omega) (by omega) (by omega) dX10_sack_43 (kk := ?_)
      refine g_iload_n (M := mX10_sack) (pc := 44) dX10_sack_44 rfl (k := ?_)
      refine g_iret (M := mX10_sack) (pc := 45) rfl dX10_sack_45 rfl ⟨_, _, rfl, rfl, ?_⟩
      refine ⟨?_, ?_, ?_, ?_⟩
      · omega
      · unfold sackX; first | exact Or.inl ⟨by first | omega | (refine ⟨by omega, by omega, ?_⟩; assumption), by first | rfl | omega, by first | rfl | (rw [show n = 1 by omega]; done) | (rw [show n = 0 by omega]; done) | (rw [show z = 1 by omega]; done) | (rw [show z = 0 by omega]; done) | (unfold zwith; first | rw [if_pos (by omega)] | rw [if_neg (by omega)])⟩ | exact Or.inr (⟨by first | omega | (refine ⟨by omega, by omega, ?_⟩; assumption), by first | rfl | omega, by first | rfl | (rw [show n = 1 by omega]; done) | (rw [show n = 0 by omega]; done) | (rw [show z = 1 by omega]; done) | (rw [show z = 0 by omega]; done) | (unfold zwith; first | rw [if_pos (by omega)] | rw [if_neg (by omega)])⟩)
      · refine ivu39 ?_ (by omega) (by omega); exact hI
      · refine Fr.up ?_ (by first | rfl | (unfold scCn; simp; try omega)); exact (Fr.rf)
    · skip
      refine g_iconst (M := mX10_sack) (pc := 22) dX10_sack_22 (k := ?_)
      refine g_iret (M := mX10_sack) (pc := 23) rfl dX10_sack_23 rfl ⟨_, _, rfl, rfl, ?_⟩
      refine ⟨?_, ?_, ?_, ?_⟩
      · omega
      · unfold sackX; first | exact Or.inl ⟨by first | omega | (refine ⟨by omega, by omega, ?_⟩; assumption), by first | rfl | omega, by first | rfl | (rw [show n = 1 by omega]; done) | (rw [show n = 0 by omega]; done) | (rw [show z = 1 by omega]; done) | (rw [show z = 0 by omega]; done) | (unfold zwith; first | rw [if_pos (by omega)] | rw [if_neg (by omega)])⟩ | exact Or.inr (⟨by first | omega | (refine ⟨by omega, by omega, ?_⟩; assumption), by first | rfl | omega, by first | rfl | (rw [show n = 1 by omega]; done) | (rw [show n = 0 by omega]; done) | (rw [show z = 1 by omega]; done) | (rw [show z = 0 by omega]; done) | (unfold zwith; first | rw [if_pos (by omega)] | rw [if_neg (by omega)])⟩)
      · exact hI
      · exact (Fr.rf)
set_option maxHeartbeats 4000000 in
set_option maxRecDepth 20000 in
theorem c_X10_sell (Γ : KT) (t : Nat) (σ : Nat → Int → Int) (h : Int) (k : Int) (n : Int) (hI : InvX σ) (hh : R32 h) (hk : R32 k) (hn : R32 n) : Ct Γ mX10_sell 2 (0, 0) [vR Γ 0, vI h, vI k, vI n] (113, ρT t, σ) (pI 113 (ρT t) (fun r σ' => (R32 r) ∧ (sellX σ h k n r σ') ∧ (InvX σ') ∧ (Fr scCn σ σ'))) := by
  refine Ct.of rfl (Nat.le_of_ble_eq_true rfl) ?_
  show G Γ mX10_sell 2 (0, 0) _ (0, 0) 0 [some (vR Γ 0), some (vI h), some (vI k), some (vI n), none] [] (113, ρT t, σ)
  refine g_aload_n (M := mX10_sell) (pc := 0) dX10_sell_0 rfl (k := ?_)
  refine g_getr (M := mX10_sell) (pc := 1) (by rfl) fX10_0 kX10_42 dX10_sell_1 (by rfl) (kk := ?_)
  refine g_iload_n (M := mX10_sell) (pc := 4) dX10_sell_4 rfl (k := ?_)
  refine g_cV1I (M := mX10_sell) (pc := 5) (c_X5_hasHouse Γ t _ _ (by omega)) qX5_hasHouse vX5_hasHouse sX5_hasHouse kX10_66 dX10_sell_5 (kk := ?_)
  rintro _ _ ⟨e1, e⟩; rw [e1, e]; clear e1 e
  have hb5_33 := iv33_0 hI 0 (by omega) (by omega)
  refine g_if_eqB (M := mX10_sell) (pc := 8) (tgt := 20) dX10_sell_8 (k1 := fun h8 => ?_) (k2 := fun h8 => ?_)
  · skip
    refine g_iconst (M := mX10_sell) (pc := 20) dX10_sell_20 (k := ?_)
    refine g_iret (M := mX10_sell) (pc := 21) rfl dX10_sell_21 rfl ⟨_, _, rfl, rfl, ?_⟩
    refine ⟨?_, ?_, ?_, ?_⟩
    · omega
    · unfold sellX; first | exact Or.inl ⟨by first | omega | (refine ⟨by omega, by omega, ?_⟩; assumption), by first | rfl | omega, by first | rfl | (rw [show n = 1 by omega]; done) | (rw [show n = 0 by omega]; done) | (rw [show z = 1 by omega]; done) | (rw [show z = 0 by omega]; done) | (unfold zwith; first | rw [if_pos (by omega)] | rw [if_neg (by omega)])⟩ | exact Or.inr (Or.inl ⟨by first | omega | (refine ⟨by omega, by omega, ?_⟩; assumption), by first | rfl | omega, by first | rfl | (rw [show n = 1 by omega]; done) | (rw [show n = 0 by omega]; done) | (rw [show z = 1 by omega]; done) | (rw [show z = 0 by omega]; done) | (unfold zwith; first | rw [if_pos (by omega)] | rw [if_neg (by omega)])⟩) | exact Or.inr (Or.inr (⟨by first | omega | (refine ⟨by omega, by omega, ?_⟩; assumption), by first | rfl | omega, by first | rfl | (rw [show n = 1 by omega]; done) | (rw [show n = 0 by omega]; done) | (rw [show z = 1 by omega]; done) | (rw [show z = 0 by omega]; done) | (unfold zwith; first | rw [if_pos (by omega)] | rw [if_neg (by omega)])⟩))
    · exact hI
    · exact (Fr.rf)
  · skip
    refine g_iload_n (M := mX10_sell) (pc := 11) dX10_sell_11 rfl (k := ?_)
    refine g_bipush (M := mX10_sell) (pc := 12) dX10_sell_12 (k := ?_)
    refine g_cS2I (M := mX10_sell) (pc := 14) (c_X10_isUpTo Γ t _ _ _ (by omega) (by omega)) qX10_isUpTo vX10_isUpTo kX10_58 dX10_sell_14 (kk := ?_)
    rintro _ _ ⟨e1, e⟩; rw [e1, e]; clear e1 e
    refine g_if_neB (M := mX10_sell) (pc := 17) (tgt := 22) dX10_sell_17 (k1 := fun h17 => ?_) (k2 := fun h17 => ?_)
    · skip
      refine g_iload_n (M := mX10_sell) (pc := 22) dX10_sell_22 rfl (k := ?_)
      refine g_bipush (M := mX10_sell) (pc := 23) dX10_sell_23 (k := ?_)
      refine g_cS2I (M := mX10_sell) (pc := 25) (c_X10_isUpTo Γ t _ _ _ (by omega) (by omega)) qX10_isUpTo vX10_isUpTo kX10_58 dX10_sell_25 (kk := ?_)
      rintro _ _ ⟨e1, e⟩; rw [e1, e]; clear e1 e
      refine g_if_neB (M := mX10_sell) (pc := 28) (tgt := 34) dX10_sell_28 (k1 := fun h28 => ?_) (k2 := fun h28 => ?_)
      · skip
        refine g_aload_n (M := mX10_sell) (pc := 34) dX10_sell_34 rfl (k := ?_)
        refine g_getr (M := mX10_sell) (pc := 35) (by rfl) fX10_0 kX10_42 dX10_sell_35 (by rfl) (kk := ?_)
        refine g_getr (M := mX10_sell) (pc := 38) (by rfl) fX5_1 kX10_73 dX10_sell_38 (by rfl) (kk := ?_)
        refine g_iload_n (M := mX10_sell) (pc := 41) dX10_sell_41 rfl (k := ?_)
        refine g_iald (M := mX10_sell) (pc := 42) (by rfl) (by omega) (by omega) dX10_sell_42 (kk := fun hr42 => ?_)
        have hb42 := iv34_0 hI h (by omega) (by omega)
        refine g_istore_4 (M := mX10_sell) (pc := 43) dX10_sell_43 (k := ?_)
        refine g_aload_n (M := mX10_sell) (pc := 45) dX10_sell_45 rfl (k := ?_)
        refine g_getr (M := mX10_sell) (pc := 46) (by rfl) fX10_0 kX10_42 dX10_sell_46 (by rfl) (kk := ?_)
        refine g_iload_n (M := mX10_sell) (pc := 49) dX10_sell_49 rfl (k := ?_)
        refine g_iload_n (M := mX10_sell) (pc := 50) dX10_sell_50 rfl (k := ?_)
        refine g_iload_n (M := mX10_sell) (pc := 51) dX10_sell_51 rfl (k := ?_)
        refine g_cV3V (M := mX10_sell) (pc := 52) (c_X5_settle Γ t _ _ _ _ (by omega) (by omega) (by omega)) qX5_settle vX5_settle sX5_settle kX10_109 dX10_sell_52 (kk := ?_)
        rintro _ e; rw [e]; clear e
        refine g_iload (M := mX10_sell) (pc := 55) dX10_sell_55 rfl (k := ?_)
        refine g_iret (M := mX10_sell) (pc := 57) rfl dX10_sell_57 rfl ⟨_, _, rfl, rfl, ?_⟩
        refine ⟨?_, ?_, ?_, ?_⟩
        · omega
        · unfold sellX; first | exact Or.inl ⟨by first | omega | (refine ⟨by omega, by omega, ?_⟩; assumption), by first | rfl | omega, by first | rfl | (rw [show n = 1 by omega]; done) | (rw [show n = 0 by omega]; done) | (rw [show z = 1 by omega]; done) | (rw [show z = 0 by omega]; done) | (unfold zwith; first | rw [if_pos (by omega)] | rw [if_neg (by omega)])⟩ | exact Or.inr (Or.inl ⟨by first | omega | (refine ⟨by omega, by omega, ?_⟩; assumption), by first | rfl | omega, by first | rfl | (rw [show n = 1 by omega]; done) | (rw [show n = 0 by omega]; done) | (rw [show z = 1 by omega]; done) | (rw [show z = 0 by omega]; done) | (unfold zwith; first | rw [if_pos (by omega)] | rw [if_neg (by omega)])⟩) | exact Or.inr (Or.inr (⟨by first | omega | (refine ⟨by omega, by omega, ?_⟩; assumption), by first | rfl | omega, by first | rfl | (rw [show n = 1 by omega]; done) | (rw [show n = 0 by omega]; done) | (rw [show z = 1 by omega]; done) | (rw [show z = 0 by omega]; done) | (unfold zwith; first | rw [if_pos (by omega)] | rw [if_neg (by omega)])⟩))
        · refine iv_cell ?_ (by rfl); refine ivu35 ?_ (by omega) (by omega); refine ivu34 ?_ (by omega) (by omega); exact hI
        · refine Fr.up ?_ (by first | rfl | (unfold scCn; simp; try omega)); refine Fr.up ?_ (by first | rfl | (unfold scCn; simp; try omega)); refine Fr.up ?_ (by first | rfl | (unfold scCn; simp; try omega)); exact (Fr.rf)
      · skip
        refine g_bipush (M := mX10_sell) (pc := 31) dX10_sell_31 (k := ?_)
        refine g_iret (M := mX10_sell) (pc := 33) rfl dX10_sell_33 rfl ⟨_, _, rfl, rfl, ?_⟩
        refine ⟨?_, ?_, ?_, ?_⟩
        · omega
        · unfold sellX; first | exact Or.inl ⟨by first | omega | (refine ⟨by omega, by omega, ?_⟩; assumption), by first | rfl | omega, by first | rfl | (rw [show n = 1 by omega]; done) | (rw [show n = 0 by omega]; done) | (rw [show z = 1 by omega]; done) | (rw [show z = 0 by omega]; done) | (unfold zwith; first | rw [if_pos (by omega)] | rw [if_neg (by omega)])⟩ | exact Or.inr (Or.inl ⟨by first | omega | (refine ⟨by omega, by omega, ?_⟩; assumption), by first | rfl | omega, by first | rfl | (rw [show n = 1 by omega]; done) | (rw [show n = 0 by omega]; done) | (rw [show z = 1 by omega]; done) | (rw [show z = 0 by omega]; done) | (unfold zwith; first | rw [if_pos (by omega)] | rw [if_neg (by omega)])⟩) | exact Or.inr (Or.inr (⟨by first | omega | (refine ⟨by omega, by omega, ?_⟩; assumption), by first | rfl | omega, by first | rfl | (rw [show n = 1 by omega]; done) | (rw [show n = 0 by omega]; done) | (rw [show z = 1 by omega]; done) | (rw [show z = 0 by omega]; done) | (unfold zwith; first | rw [if_pos (by omega)] | rw [if_neg (by omega)])⟩))
        · exact hI
        · exact (Fr.rf)
    · skip
      refine g_iconst (M := mX10_sell) (pc := 20) dX10_sell_20 (k := ?_)
      refine g_iret (M := mX10_sell) (pc := 21) rfl dX10_sell_21 rfl ⟨_, _, rfl, rfl, ?_⟩
      refine ⟨?_, ?_, ?_, ?_⟩
      · omega
      · unfold sellX; first | exact Or.inl ⟨by first | omega | (refine ⟨by omega, by omega, ?_⟩; assumption), by first | rfl | omega, by first | rfl | (rw [show n = 1 by omega]; done) | (rw [show n = 0 by omega]; done) | (rw [show z = 1 by omega]; done) | (rw [show z = 0 by omega]; done) | (unfold zwith; first | rw [if_pos (by omega)] | rw [if_neg (by omega)])⟩ | exact Or.inr (Or.inl ⟨by first | omega | (refine ⟨by omega, by omega, ?_⟩; assumption), by first | rfl | omega, by first | rfl | (rw [show n = 1 by omega]; done) | (rw [show n = 0 by omega]; done) | (rw [show z = 1 by omega]; done) | (rw [show z = 0 by omega]; done) | (unfold zwith; first | rw [if_pos (by omega)] | rw [if_neg (by omega)])⟩) | exact Or.inr (Or.inr (⟨by first | omega | (refine ⟨by omega, by omega, ?_⟩; assumption), by first | rfl | omega, by first | rfl | (rw [show n = 1 by omega]; done) | (rw [show n = 0 by omega]; done) | (rw [show z = 1 by omega]; done) | (rw [show z = 0 by omega]; done) | (unfold zwith; first | rw [if_pos (by omega)] | rw [if_neg (by omega)])⟩))
      · exact hI
      · exact (Fr.rf)
set_option maxHeartbeats 4000000 in
set_option maxRecDepth 20000 in
theorem c_X10_row (Γ : KT) (t : Nat) (σ : Nat → Int → Int) (h : Int) (q : Int) (n : Int) (hI : InvX σ) (hh : R32 h) (hq : R32 q) (hn : R32 n) : Ct Γ mX10_row 2 (0, 0) [vR Γ 0, vI h, vI q, vI n] (113, ρT t, σ) (pI 113 (ρT t) (fun r σ' => (R32 r) ∧ (rowX σ h q n r σ') ∧ (InvX σ') ∧ (Fr scCn σ σ'))) := by
  refine Ct.of rfl (Nat.le_of_ble_eq_true rfl) ?_
  show G Γ mX10_row 2 (0, 0) _ (0, 0) 0 [some (vR Γ 0), some (vI h), some (vI q), some (vI n), none] [] (113, ρT t, σ)
  refine g_aload_n (M := mX10_row) (pc := 0) dX10_row_0 rfl (k := ?_)
  refine g_getr (M := mX10_row) (pc := 1) (by rfl) fX10_0 kX10_42 dX10_row_1 (by rfl) (kk := ?_)
  refine g_iload_n (M := mX10_row) (pc := 4) dX10_row_4 rfl (k := ?_)
  refine g_cV1I (M := mX10_row) (pc := 5) (c_X5_hasHouse Γ t _ _ (by omega)) qX5_hasHouse vX5_hasHouse sX5_hasHouse kX10_66 dX10_row_5 (kk := ?_)
  rintro _ _ ⟨e1, e⟩; rw [e1, e]; clear e1 e
  have hb5_33 := iv33_0 hI 0 (by omega) (by omega)
  refine g_if_eqB (M := mX10_row) (pc := 8) (tgt := 19) dX10_row_8 (k1 := fun h8 => ?_) (k2 := fun h8 => ?_)
  · skip
    refine g_iconst (M := mX10_row) (pc := 19) dX10_row_19 (k := ?_)
    refine g_iret (M := mX10_row) (pc := 20) rfl dX10_row_20 rfl ⟨_, _, rfl, rfl, ?_⟩
    refine ⟨?_, ?_, ?_, ?_⟩
    · omega
    · unfold rowX; first | exact Or.inl ⟨by first | omega | (refine ⟨by omega, by omega, ?_⟩; assumption), by first | rfl | omega, by first | rfl | (rw [show n = 1 by omega]; done) | (rw [show n = 0 by omega]; done) | (rw [show z = 1 by omega]; done) | (rw [show z = 0 by omega]; done) | (unfold zwith; first | rw [if_pos (by omega)] | rw [if_neg (by omega)])⟩ | exact Or.inr (Or.inl ⟨by first | omega | (refine ⟨by omega, by omega, ?_⟩; assumption), by first | rfl | omega, by first | rfl | (rw [show n = 1 by omega]; done) | (rw [show n = 0 by omega]; done) | (rw [show z = 1 by omega]; done) | (rw [show z = 0 by omega]; done) | (unfold zwith; first | rw [if_pos (by omega)] | rw [if_neg (by omega)])⟩) | exact Or.inr (Or.inr (Or.inl ⟨by first | omega | (refine ⟨by omega, by omega, ?_⟩; assumption), by first | rfl | omega, by first | rfl | (rw [show n = 1 by omega]; done) | (rw [show n = 0 by omega]; done) | (rw [show z = 1 by omega]; done) | (rw [show z = 0 by omega]; done) | (unfold zwith; first | rw [if_pos (by omega)] | rw [if_neg (by omega)])⟩)) | exact Or.inr (Or.inr (Or.inr (⟨by first | omega | (refine ⟨by omega, by omega, ?_⟩; assumption), by first | rfl | omega, by first | rfl | (rw [show n = 1 by omega]; done) | (rw [show n = 0 by omega]; done) | (rw [show z = 1 by omega]; done) | (rw [show z = 0 by omega]; done) | (unfold zwith; first | rw [if_pos (by omega)] | rw [if_neg (by omega)])⟩)))
    · exact hI
    · exact (Fr.rf)
  · skip
    refine g_iload_n (M := mX10_row) (pc := 11) dX10_row_11 rfl (k := ?_)
    refine g_iconst (M := mX10_row) (pc := 12) dX10_row_12 (k := ?_)
    refine g_cS2I (M := mX10_row) (pc := 13) (c_X10_isUpTo Γ t _ _ _ (by omega) (by omega)) qX10_isUpTo vX10_isUpTo kX10_58 dX10_row_13 (kk := ?_)
    rintro _ _ ⟨e1, e⟩; rw [e1, e]; clear e1 e
    refine g_if_neB (M := mX10_row) (pc := 16) (tgt := 21) dX10_row_16 (k1 := fun h16 => ?_) (k2 := fun h16 => ?_)
    · skip
      refine g_iload_n (M := mX10_row) (pc := 21) dX10_row_21 rfl (k := ?_)
      refine g_iconst (M := mX10_row) (pc := 22) dX10_row_22 (k := ?_)
      refine g_cS2I (M := mX10_row) (pc := 23) (c_X10_isUpTo Γ t _ _ _ (by omega) (by omega)) qX10_isUpTo vX10_isUpTo kX10_58 dX10_row_23 (kk := ?_)
      rintro _ _ ⟨e1, e⟩; rw [e1, e]; clear e1 e
      refine g_if_neB (M := mX10_row) (pc := 26) (tgt := 32) dX10_row_26 (k1 := fun h26 => ?_) (k2 := fun h26 => ?_)
      · skip
        refine g_aload_n (M := mX10_row) (pc := 32) dX10_row_32 rfl (k := ?_)
        refine g_getr (M := mX10_row) (pc := 33) (by rfl) fX10_0 kX10_42 dX10_row_33 (by rfl) (kk := ?_)
        refine g_getr (M := mX10_row) (pc := 36) (by rfl) fX5_1 kX10_73 dX10_row_36 (by rfl) (kk := ?_)
        refine g_iload_n (M := mX10_row) (pc := 39) dX10_row_39 rfl (k := ?_)
        refine g_iald (M := mX10_row) (pc := 40) (by rfl) (by omega) (by omega) dX10_row_40 (kk := fun hr40 => ?_)
        have hb40 := iv34_0 hI h (by omega) (by omega)
        refine g_bipush (M := mX10_row) (pc := 41) dX10_row_41 (k := ?_)
        refine g_icmp_eq (M := mX10_row) (pc := 43) (tgt := 49) (by omega) (by omega) dX10_row_43 (k1 := fun h43 => ?_) (k2 := fun h43 => ?_)
        · skip
          refine g_aload_n (M := mX10_row) (pc := 49) dX10_row_49 rfl (k := ?_)
          refine g_getr (M := mX10_row) (pc := 50) (by rfl) fX10_0 kX10_42 dX10_row_50 (by rfl) (kk := ?_)
          refine g_getr (M := mX10_row) (pc := 53) (by rfl) fX5_5 kX10_113 dX10_row_53 (by rfl) (kk := ?_)
          refine g_iload_n (M := mX10_row) (pc := 56) dX10_row_56 rfl (k := ?_)
          refine g_iald (M := mX10_row) (pc := 57) (by rfl) (by omega) (by omega) dX10_row_57 (kk := fun hr57 => ?_)
          refine g_iload_n (M := mX10_row) (pc := 58) dX10_row_58 rfl (k := ?_)
          refine g_cS2I (M := mX10_row) (pc := 59) (c_X10_bit Γ t _ _ _) qX10_bit vX10_bit kX10_102 dX10_row_59 (kk := ?_)
          rintro _ _ ⟨e1, e⟩; rw [e1, e]; clear e1 e
          have hq59_0 := zbitR (σ 38 h) q
          refine g_istore_4 (M := mX10_row) (pc := 62) dX10_row_62 (k := ?_)
          refine g_aload_n (M := mX10_row) (pc := 64) dX10_row_64 rfl (k := ?_)
          refine g_getr (M := mX10_row) (pc := 65) (by rfl) fX10_0 kX10_42 dX10_row_65 (by rfl) (kk := ?_)
          refine g_getr (M := mX10_row) (pc := 68) (by rfl) fX5_5 kX10_113 dX10_row_68 (by rfl) (kk := ?_)
          refine g_iload_n (M := mX10_row) (pc := 71) dX10_row_71 rfl (k := ?_)
          refine g_aload_n (M := mX10_row) (pc := 72) dX10_row_72 rfl (k := ?_)
          refine g_getr (M := mX10_row) (pc := 73) (by rfl) fX10_0 kX10_42 dX10_row_73 (by rfl) (kk := ?_)
          refine g_getr (M := mX10_row) (pc := 76) (by rfl) fX5_5 kX10_113 dX10_row_76 (by rfl) (kk := ?_)
          refine g_iload_n (M := mX10_row) (pc := 79) dX10_row_79 rfl (k := ?_)
          refine g_iald (M := mX10_row) (pc := 80) (by rfl) (by omega) (by omega) dX10_row_80 (kk := fun hr80 => ?_)
          refine g_iload_n (M := mX10_row) (pc := 81) dX10_row_81 rfl (k := ?_)
          refine g_iload_n (M := mX10_row) (pc := 82) dX10_row_82 rfl (k := ?_)
          refine g_iconst (M := mX10_row) (pc := 83) dX10_row_83 (k := ?_)
          refine g_icmp_ne (M := mX10_row) (pc := 84) (tgt := 91) (by omega) (by omega) dX10_row_84 (k1 := fun h84 => ?_) (k2 := fun h84 => ?_)
          · skip
            refine g_iconst (M := mX10_row) (pc := 91) dX10_row_91 (k := ?_)
            refine g_cS3I (M := mX10_row) (pc := 92) (c_X10_withBit Γ t _ _ _ _ (by omega)) qX10_withBit vX10_withBit kX10_105 dX10_row_92 (kk := ?_)
            rintro _ _ ⟨e1, e⟩; rw [e1, e]; clear e1 e
            have hq92_0 := zwithR (σ 38 h) q 0
            refine g_iast (M := mX10_row) (pc := 95) (by rfl) (by omega) (by omega) (by omega) dX10_row_95 (kk := ?_)
            refine g_iload (M := mX10_row) (pc := 96) dX10_row_96 rfl (k := ?_)
            refine g_iret (M := mX10_row) (pc := 98) rfl dX10_row_98 rfl ⟨_, _, rfl, rfl, ?_⟩
            refine ⟨?_, ?_, ?_, ?_⟩
            · omega
            · unfold rowX; first | exact Or.inl ⟨by first | omega | (refine ⟨by omega, by omega, ?_⟩; assumption), by first | rfl | omega, by first | rfl | (rw [show n = 1 by omega]; done) | (rw [show n = 0 by omega]; done) | (rw [show z = 1 by omega]; done) | (rw [show z = 0 by omega]; done) | (unfold zwith; first | rw [if_pos (by omega)] | rw [if_neg (by omega)])⟩ | exact Or.inr (Or.inl ⟨by first | omega | (refine ⟨by omega, by omega, ?_⟩; assumption), by first | rfl | omega, by first | rfl | (rw [show n = 1 by omega]; done) | (rw [show n = 0 by omega]; done) | (rw [show z = 1 by omega]; done) | (rw [show z = 0 by omega]; done) | (unfold zwith; first | rw [if_pos (by omega)] | rw [if_neg (by omega)])⟩) | exact Or.inr (Or.inr (Or.inl ⟨by first | omega | (refine ⟨by omega, by omega, ?_⟩; assumption), by first | rfl | omega, by first | rfl | (rw [show n = 1 by omega]; done) | (rw [show n = 0 by omega]; done) | (rw [show z = 1 by omega]; done) | (rw [show z = 0 by omega]; done) | (unfold zwith; first | rw [if_pos (by omega)] | rw [if_neg (by omega)])⟩)) | exact Or.inr (Or.inr (Or.inr (⟨by first | omega | (refine ⟨by omega, by omega, ?_⟩; assumption), by first | rfl | omega, by first | rfl | (rw [show n = 1 by omega]; done) | (rw [show n = 0 by omega]; done) | (rw [show z = 1 by omega]; done) | (rw [show z = 0 by omega]; done) | (unfold zwith; first | rw [if_pos (by omega)] | rw [if_neg (by omega)])⟩)))
            · refine iv_cell ?_ (by rfl); exact hI
            · refine Fr.up ?_ (by first | rfl | (unfold scCn; simp; try omega)); exact (Fr.rf)
          · skip
            refine g_iconst (M := mX10_row) (pc := 87) dX10_row_87 (k := ?_)
            refine g_goto (M := mX10_row) (pc := 88) (tgt := 92) dX10_row_88 (k := ?_)
            refine g_cS3I (M := mX10_row) (pc := 92) (c_X10_withBit Γ t _ _ _ _ (by omega)) qX10_withBit vX10_withBit kX10_105 dX10_row_92 (kk := ?_)
            rintro _ _ ⟨e1, e⟩; rw [e1, e]; clear e1 e
            have hq92_0 := zwithR (σ 38 h) q 1
            refine g_iast (M := mX10_row) (pc := 95) (by rfl) (by omega) (by omega) (by omega) dX10_row_95 (kk := ?_)
            refine g_iload (M := mX10_row) (pc := 96) dX10_row_96 rfl (k := ?_)
            refine g_iret (M := mX10_row) (pc := 98) rfl dX10_row_98 rfl ⟨_, _, rfl, rfl, ?_⟩
            refine ⟨?_, ?_, ?_, ?_⟩
            · omega
            · unfold rowX; first | exact Or.inl ⟨by first | omega | (refine ⟨by omega, by omega, ?_⟩; assumption), by first | rfl | omega, by first | rfl | (rw [show n = 1 by omega]; done) | (rw [show n = 0 by omega]; done) | (rw [show z = 1 by omega]; done) | (rw [show z = 0 by omega]; done) | (unfold zwith; first | rw [if_pos (by omega)] | rw [if_neg (by omega)])⟩ | exact Or.inr (Or.inl ⟨by first | omega | (refine ⟨by omega, by omega, ?_⟩; assumption), by first | rfl | omega, by first | rfl | (rw [show n = 1 by omega]; done) | (rw [show n = 0 by omega]; done) | (rw [show z = 1 by omega]; done) | (rw [show z = 0 by omega]; done) | (unfold zwith; first | rw [if_pos (by omega)] | rw [if_neg (by omega)])⟩) | exact Or.inr (Or.inr (Or.inl ⟨by first | omega | (refine ⟨by omega, by omega, ?_⟩; assumption), by first | rfl | omega, by first | rfl | (rw [show n = 1 by omega]; done) | (rw [show n = 0 by omega]; done) | (rw [show z = 1 by omega]; done) | (rw [show z = 0 by omega]; done) | (unfold zwith; first | rw [if_pos (by omega)] | rw [if_neg (by omega)])⟩)) | exact Or.inr (Or.inr (Or.inr (⟨by first | omega | (refine ⟨by omega, by omega, ?_⟩; assumption), by first | rfl | omega, by first | rfl | (rw [show n = 1 by omega]; done) | (rw [show n = 0 by omega]; done) | (rw [show z = 1 by omega]; done) | (rw [show z = 0 by omega]; done) | (unfold zwith; first | rw [if_pos (by omega)] | rw [if_neg (by omega)])⟩)))
            · refine iv_cell ?_ (by rfl); exact hI
            · refine Fr.up ?_ (by first | rfl | (unfold scCn; simp; try omega)); exact (Fr.rf)
        · skip
          refine g_bipush (M := mX10_row) (pc := 46) dX10_row_46 (k := ?_)
          refine g_iret (M := mX10_row) (pc := 48) rfl dX10_row_48 rfl ⟨_, _, rfl, rfl, ?_⟩
          refine ⟨?_, ?_, ?_, ?_⟩
          · omega
          · unfold rowX; first | exact Or.inl ⟨by first | omega | (refine ⟨by omega, by omega, ?_⟩; assumption), by first | rfl | omega, by first | rfl | (rw [show n = 1 by omega]; done) | (rw [show n = 0 by omega]; done) | (rw [show z = 1 by omega]; done) | (rw [show z = 0 by omega]; done) | (unfold zwith; first | rw [if_pos (by omega)] | rw [if_neg (by omega)])⟩ | exact Or.inr (Or.inl ⟨by first | omega | (refine ⟨by omega, by omega, ?_⟩; assumption), by first | rfl | omega, by first | rfl | (rw [show n = 1 by omega]; done) | (rw [show n = 0 by omega]; done) | (rw [show z = 1 by omega]; done) | (rw [show z = 0 by omega]; done) | (unfold zwith; first | rw [if_pos (by omega)] | rw [if_neg (by omega)])⟩) | exact Or.inr (Or.inr (Or.inl ⟨by first | omega | (refine ⟨by omega, by omega, ?_⟩; assumption), by first | rfl | omega, by first | rfl | (rw [show n = 1 by omega]; done) | (rw [show n = 0 by omega]; done) | (rw [show z = 1 by omega]; done) | (rw [show z = 0 by omega]; done) | (unfold zwith; first | rw [if_pos (by omega)] | rw [if_neg (by omega)])⟩)) | exact Or.inr (Or.inr (Or.inr (⟨by first | omega | (refine ⟨by omega, by omega, ?_⟩; assumption), by first | rfl | omega, by first | rfl | (rw [show n = 1 by omega]; done) | (rw [show n = 0 by omega]; done) | (rw [show z = 1 by omega]; done) | (rw [show z = 0 by omega]; done) | (unfold zwith; first | rw [if_pos (by omega)] | rw [if_neg (by omega)])⟩)))
          · exact hI
          · exact (Fr.rf)
      · skip
        refine g_bipush (M := mX10_row) (pc := 29) dX10_row_29 (k := ?_)
        refine g_iret (M := mX10_row) (pc := 31) rfl dX10_row_31 rfl ⟨_, _, rfl, rfl, ?_⟩
        refine ⟨?_, ?_, ?_, ?_⟩
        · omega
        · unfold rowX; first | exact Or.inl ⟨by first | omega | (refine ⟨by omega, by omega, ?_⟩; assumption), by first | rfl | omega, by first | rfl | (rw [show n = 1 by omega]; done) | (rw [show n = 0 by omega]; done) | (rw [show z = 1 by omega]; done) | (rw [show z = 0 by omega]; done) | (unfold zwith; first | rw [if_pos (by omega)] | rw [if_neg (by omega)])⟩ | exact Or.inr (Or.inl ⟨by first | omega | (refine ⟨by omega, by omega, ?_⟩; assumption), by first | rfl | omega, by first | rfl | (rw [show n = 1 by omega]; done) | (rw [show n = 0 by omega]; done) | (rw [show z = 1 by omega]; done) | (rw [show z = 0 by omega]; done) | (unfold zwith; first | rw [if_pos (by omega)] | rw [if_neg (by omega)])⟩) | exact Or.inr (Or.inr (Or.inl ⟨by first | omega | (refine ⟨by omega, by omega, ?_⟩; assumption), by first | rfl | omega, by first | rfl | (rw [show n = 1 by omega]; done) | (rw [show n = 0 by omega]; done) | (rw [show z = 1 by omega]; done) | (rw [show z = 0 by omega]; done) | (unfold zwith; first | rw [if_pos (by omega)] | rw [if_neg (by omega)])⟩)) | exact Or.inr (Or.inr (Or.inr (⟨by first | omega | (refine ⟨by omega, by omega, ?_⟩; assumption), by first | rfl | omega, by first | rfl | (rw [show n = 1 by omega]; done) | (rw [show n = 0 by omega]; done) | (rw [show z = 1 by omega]; done) | (rw [show z = 0 by omega]; done) | (unfold zwith; first | rw [if_pos (by omega)] | rw [if_neg (by omega)])⟩)))
        · exact hI
        · exact (Fr.rf)
    · skip
      refine g_iconst (M := mX10_row) (pc := 19) dX10_row_19 (k := ?_)
      refine g_iret (M := mX10_row) (pc := 20) rfl dX10_row_20 rfl ⟨_, _, rfl, rfl, ?_⟩
      refine ⟨?_, ?_, ?_, ?_⟩
      · omega
      · unfold rowX; first | exact Or.inl ⟨by first | omega | (refine ⟨by omega, by omega, ?_⟩; assumption), by first | rfl | omega, by first | rfl | (rw [show n = 1 by omega]; done) | (rw [show n = 0 by omega]; done) | (rw [show z = 1 by omega]; done) | (rw [show z = 0 by omega]; done) | (unfold zwith; first | rw [if_pos (by omega)] | rw [if_neg (by omega)])⟩ | exact Or.inr (Or.inl ⟨by first | omega | (refine ⟨by omega, by omega, ?_⟩; assumption), by first | rfl | omega, by first | rfl | (rw [show n = 1 by omega]; done) | (rw [show n = 0 by omega]; done) | (rw [show z = 1 by omega]; done) | (rw [show z = 0 by omega]; done) | (unfold zwith; first | rw [if_pos (by omega)] | rw [if_neg (by omega)])⟩) | exact Or.inr (Or.inr (Or.inl ⟨by first | omega | (refine ⟨by omega, by omega, ?_⟩; assumption), by first | rfl | omega, by first | rfl | (rw [show n = 1 by omega]; done) | (rw [show n = 0 by omega]; done) | (rw [show z = 1 by omega]; done) | (rw [show z = 0 by omega]; done) | (unfold zwith; first | rw [if_pos (by omega)] | rw [if_neg (by omega)])⟩)) | exact Or.inr (Or.inr (Or.inr (⟨by first | omega | (refine ⟨by omega, by omega, ?_⟩; assumption), by first | rfl | omega, by first | rfl | (rw [show n = 1 by omega]; done) | (rw [show n = 0 by omega]; done) | (rw [show z = 1 by omega]; done) | (rw [show z = 0 by omega]; done) | (unfold zwith; first | rw [if_pos (by omega)] | rw [if_neg (by omega)])⟩)))
      · exact hI
      · exact (Fr.rf)
set_option maxHeartbeats 4000000 in
set_option maxRecDepth 20000 in
theorem c_X10_feed (Γ : KT) (t : Nat) (σ : Nat → Int → Int) (s : Int) (hI : InvX σ) (hs : R32 s) : Ct Γ mX10_feed 2 (0, 0) [vR Γ 0, vI s] (113, ρT t, σ) (pI 113 (ρT t) (fun r σ' => (InvX σ') ∧ (Fr scFd σ σ'))) := by
  refine Ct.of rfl (Nat.le_of_ble_eq_true rfl) ?_
  show G Γ mX10_feed 2 (0, 0) _ (0, 0) 0 [some (vR Γ 0), some (vI s)] [] (113, ρT t, σ)
  refine g_iload_n (M := mX10_feed) (pc := 0) dX10_feed_0 rfl (k := ?_)
  refine g_bipush (M := mX10_feed) (pc := 1) dX10_feed_1 (k := ?_)
  refine g_cS2I (M := mX10_feed) (pc := 3) (c_X10_isUpTo Γ t _ _ _ (by omega) (by omega)) qX10_isUpTo vX10_isUpTo kX10_58 dX10_feed_3 (kk := ?_)
  rintro _ _ ⟨e1, e⟩; rw [e1, e]; clear e1 e
  refine g_if_neB (M := mX10_feed) (pc := 6) (tgt := 12) dX10_feed_6 (k1 := fun h6 => ?_) (k2 := fun h6 => ?_)
  · skip
    refine g_aload_n (M := mX10_feed) (pc := 12) dX10_feed_12 rfl (k := ?_)
    refine g_getr (M := mX10_feed) (pc := 13) (by rfl) fX10_3 kX10_21 dX10_feed_13 (by rfl) (kk := ?_)
    refine g_iload_n (M := mX10_feed) (pc := 16) dX10_feed_16 rfl (k := ?_)
    refine g_cV1I (M := mX10_feed) (pc := 17) (c_X7_add Γ t _ _ hI (by omega)) qX7_add vX7_add sX7_add kX10_116 dX10_feed_17 (kk := ?_)
    rintro r17 τ17 ⟨hi17, hI17, hG17⟩
    have hF17 : Fr scFd σ τ17 := by refine Fr.tr ?_ hG17; exact (Fr.rf)
    refine g_iret (M := mX10_feed) (pc := 20) rfl dX10_feed_20 rfl ⟨_, _, rfl, rfl, ?_⟩
    refine ⟨?_, ?_⟩
    · exact hI17
    · exact hF17
  · skip
    refine g_bipush (M := mX10_feed) (pc := 9) dX10_feed_9 (k := ?_)
    refine g_iret (M := mX10_feed) (pc := 11) rfl dX10_feed_11 rfl ⟨_, _, rfl, rfl, ?_⟩
    refine ⟨?_, ?_⟩
    · exact hI
    · exact (Fr.rf)
set_option maxHeartbeats 4000000 in
set_option maxRecDepth 20000 in
theorem c_X10_town (Γ : KT) (t : Nat) (σ : Nat → Int → Int)  (hI : InvX σ) : Ct Γ mX10_town 21 (0, 0) [vR Γ 0] (113, ρT t, σ) (pIT (fun r t' σ' => (InvX σ') ∧ (Fr scTw σ σ'))) := by
  refine Ct.of rfl (Nat.le_of_ble_eq_true rfl) ?_
  show G Γ mX10_town 21 (0, 0) _ (0, 0) 0 [some (vR Γ 0)] [] (113, ρT t, σ)
  refine g_aload_n (M := mX10_town) (pc := 0) dX10_town_0 rfl (k := ?_)
  refine g_getr (M := mX10_town) (pc := 1) (by rfl) fX10_4 kX10_45 dX10_town_1 (by rfl) (kk := ?_)
  refine g_get (M := mX10_town) (pc := 4) (ji := 3) (by rfl) fX9_3 kX10_120 dX10_town_4 (kk := fun hr4 => ?_)
  have hb4 := iv51_3 hI 3 (by omega) (by omega)
  refine g_bipush (M := mX10_town) (pc := 7) dX10_town_7 (k := ?_)
  refine g_icmp_lt (M := mX10_town) (pc := 9) (tgt := 15) (by omega) (by omega) dX10_town_9 (k1 := fun h9 => ?_) (k2 := fun h9 => ?_)
  · skip
    refine g_aload_n (M := mX10_town) (pc := 15) dX10_town_15 rfl (k := ?_)
    refine g_getr (M := mX10_town) (pc := 16) (by rfl) fX10_3 kX10_21 dX10_town_16 (by rfl) (kk := ?_)
    refine g_aload_n (M := mX10_town) (pc := 19) dX10_town_19 rfl (k := ?_)
    refine g_getr (M := mX10_town) (pc := 20) (by rfl) fX10_4 kX10_45 dX10_town_20 (by rfl) (kk := ?_)
    refine g_getr (M := mX10_town) (pc := 23) (by rfl) fX9_0 kX10_124 dX10_town_23 (by rfl) (kk := ?_)
    refine g_aload_n (M := mX10_town) (pc := 26) dX10_town_26 rfl (k := ?_)
    refine g_getr (M := mX10_town) (pc := 27) (by rfl) fX10_4 kX10_45 dX10_town_27 (by rfl) (kk := ?_)
    refine g_get (M := mX10_town) (pc := 30) (ji := 3) (by rfl) fX9_3 kX10_120 dX10_town_30 (kk := fun hr30 => ?_)
    refine g_aald (M := mX10_town) (pc := 33) (by rfl) (by decide) (by omega) (by omega) (toks_ref (by omega) (by omega)) dX10_town_33 (kk := ?_)
    refine g_cV1T (M := mX10_town) (pc := 34) (c_X7_compile Γ t _ _ hI (by omega)) qX7_compile vX7_compile sX7_compile kX10_128 dX10_town_34 (kk := ?_)
    rintro t34 τ34 ⟨hI34, hG34⟩
    have hF34 : Fr scTw σ τ34 := by refine Fr.tr ?_ (Fr.mono hG34 sb_scP_scTw); exact (Fr.rf)
    refine g_aload_n (M := mX10_town) (pc := 37) dX10_town_37 rfl (k := ?_)
    refine g_getr (M := mX10_town) (pc := 38) (by rfl) fX10_3 kX10_21 dX10_town_38 (by rfl) (kk := ?_)
    refine g_iconst (M := mX10_town) (pc := 41) dX10_town_41 (k := ?_)
    refine g_put (M := mX10_town) (pc := 42) (ji := 1) (by rfl) fX7_1 kX10_132 dX10_town_42 (by omega) (kk := ?_)
    refine g_aload_n (M := mX10_town) (pc := 45) dX10_town_45 rfl (k := ?_)
    refine g_getr (M := mX10_town) (pc := 46) (by rfl) fX10_3 kX10_21 dX10_town_46 (by rfl) (kk := ?_)
    refine g_get (M := mX10_town) (pc := 49) (ji := 3) (by rfl) fX7_3 kX10_135 dX10_town_49 (kk := fun hr49 => ?_)
    simp only [up_same, up_cell, up_slot, ne_eq, not_false_eq_true, Nat.reduceEqDiff, Int.reduceEq, reduceCtorEq, Nat.reduceAdd, Int.reduceAdd, Int.reduceSub] at hr49 ⊢
    refine g_iconst (M := mX10_town) (pc := 52) dX10_town_52 (k := ?_)
    refine g_icmp_eq (M := mX10_town) (pc := 53) (tgt := 67) (by omega) (by omega) dX10_town_53 (k1 := fun h53 => ?_) (k2 := fun h53 => ?_)
    · skip
      refine g_aload_n (M := mX10_town) (pc := 67) dX10_town_67 rfl (k := ?_)
      refine g_getr (M := mX10_town) (pc := 68) (by rfl) fX10_0 kX10_42 dX10_town_68 (by rfl) (kk := ?_)
      refine g_aload_n (M := mX10_town) (pc := 71) dX10_town_71 rfl (k := ?_)
      refine g_getr (M := mX10_town) (pc := 72) (by rfl) fX10_4 kX10_45 dX10_town_72 (by rfl) (kk := ?_)
      refine g_aload_n (M := mX10_town) (pc := 75) dX10_town_75 rfl (k := ?_)
      refine g_getr (M := mX10_town) (pc := 76) (by rfl) fX10_3 kX10_21 dX10_town_76 (by rfl) (kk := ?_)
      refine g_get (M := mX10_town) (pc := 79) (ji := 5) (by rfl) fX7_5 kX10_138 dX10_town_79 (kk := fun hr79 => ?_)
      simp only [up_same, up_cell, up_slot, ne_eq, not_false_eq_true, Nat.reduceEqDiff, Int.reduceEq, reduceCtorEq, Nat.reduceAdd, Int.reduceAdd, Int.reduceSub] at hr79 ⊢
      have hb79 := iv19_5 hI34 5 (by omega) (by omega)
      refine g_aload_n (M := mX10_town) (pc := 82) dX10_town_82 rfl (k := ?_)
      refine g_getr (M := mX10_town) (pc := 83) (by rfl) fX10_3 kX10_21 dX10_town_83 (by rfl) (kk := ?_)
      refine g_get (M := mX10_town) (pc := 86) (ji := 6) (by rfl) fX7_6 kX10_141 dX10_town_86 (kk := fun hr86 => ?_)
      simp only [up_same, up_cell, up_slot, ne_eq, not_false_eq_true, Nat.reduceEqDiff, Int.reduceEq, reduceCtorEq, Nat.reduceAdd, Int.reduceAdd, Int.reduceSub] at hr86 ⊢
      have hb86 := iv19_6 hI34 6 (by omega) (by omega)
      refine g_cV2I (M := mX10_town) (pc := 89) (c_X9_add Γ t34 _ _ _ (by refine ivu19_1 ?_ (by omega) (by omega); exact hI34) (by first | omega | (simp only [up_same, up_cell, up_slot, ne_eq, not_false_eq_true, Nat.reduceEqDiff, Int.reduceEq, reduceCtorEq, Nat.reduceAdd, Int.reduceAdd, Int.reduceSub]; done) | (simp only [up_same, up_cell, up_slot, ne_eq, not_false_eq_true, Nat.reduceEqDiff, Int.reduceEq, reduceCtorEq, Nat.reduceAdd, Int.reduceAdd, Int.reduceSub]; omega)) (by first | omega | (simp only [up_same, up_cell, up_slot, ne_eq, not_false_eq_true, Nat.reduceEqDiff, Int.reduceEq, reduceCtorEq, Nat.reduceAdd, Int.reduceAdd, Int.reduceSub]; done) | (simp only [up_same, up_cell, up_slot, ne_eq, not_false_eq_true, Nat.reduceEqDiff, Int.reduceEq, reduceCtorEq, Nat.reduceAdd, Int.reduceAdd, Int.reduceSub]; omega))) qX9_add vX9_add sX9_add kX10_144 dX10_town_89 (kk := ?_)
      rintro r89 τ89 ⟨hi89, hI89, hG89⟩
      try simp only [up_same, up_cell, up_slot, ne_eq, not_false_eq_true, Nat.reduceEqDiff, Int.reduceEq, reduceCtorEq, Nat.reduceAdd, Int.reduceAdd, Int.reduceSub] at hi89
      have hF89 : Fr scTw σ τ89 := by refine Fr.tr ?_ (Fr.mono hG89 sb_scTa_scTw); refine Fr.up ?_ (by first | rfl | (unfold scTw; simp; try omega)); exact hF34
      refine g_put (M := mX10_town) (pc := 92) (ji := 13) (by rfl) fX5_13 kX10_146 dX10_town_92 (by omega) (kk := ?_)
      refine g_aload_n (M := mX10_town) (pc := 95) dX10_town_95 rfl (k := ?_)
      refine g_getr (M := mX10_town) (pc := 96) (by rfl) fX10_0 kX10_42 dX10_town_96 (by rfl) (kk := ?_)
      refine g_get (M := mX10_town) (pc := 99) (ji := 13) (by rfl) fX5_13 kX10_146 dX10_town_99 (kk := fun hr99 => ?_)
      simp only [up_same, up_cell, up_slot, ne_eq, not_false_eq_true, Nat.reduceEqDiff, Int.reduceEq, reduceCtorEq, Nat.reduceAdd, Int.reduceAdd, Int.reduceSub] at hr99 ⊢
      refine g_iret (M := mX10_town) (pc := 102) rfl dX10_town_102 rfl ⟨_, _, _, rfl, rfl, ?_⟩
      refine ⟨?_, ?_⟩
      · refine iv_free ?_ (by rfl); exact hI89
      · refine Fr.up ?_ (by first | rfl | (unfold scTw; simp; try omega)); exact hF89
    · skip
      refine g_bipush (M := mX10_town) (pc := 56) dX10_town_56 (k := ?_)
      refine g_aload_n (M := mX10_town) (pc := 58) dX10_town_58 rfl (k := ?_)
      refine g_getr (M := mX10_town) (pc := 59) (by rfl) fX10_3 kX10_21 dX10_town_59 (by rfl) (kk := ?_)
      refine g_get (M := mX10_town) (pc := 62) (ji := 3) (by rfl) fX7_3 kX10_135 dX10_town_62 (kk := fun hr62 => ?_)
      simp only [up_same, up_cell, up_slot, ne_eq, not_false_eq_true, Nat.reduceEqDiff, Int.reduceEq, reduceCtorEq, Nat.reduceAdd, Int.reduceAdd, Int.reduceSub] at hr62 ⊢
      refine g_isub (M := mX10_town) (pc := 65) dX10_town_65 (k := ?_)
      refine g_iret (M := mX10_town) (pc := 66) rfl dX10_town_66 rfl ⟨_, _, _, rfl, rfl, ?_⟩
      refine ⟨?_, ?_⟩
      · refine ivu19_1 ?_ (by omega) (by omega); exact hI34
      · refine Fr.up ?_ (by first | rfl | (unfold scTw; simp; try omega)); exact hF34
  · skip
    refine g_bipush (M := mX10_town) (pc := 12) dX10_town_12 (k := ?_)
    refine g_iret (M := mX10_town) (pc := 14) rfl dX10_town_14 rfl ⟨_, _, _, rfl, rfl, ?_⟩
    refine ⟨?_, ?_⟩
    · exact hI
    · exact (Fr.rf)
set_option maxHeartbeats 4000000 in
set_option maxRecDepth 20000 in
theorem c_X10_dawn (Γ : KT) (t : Nat) (σ : Nat → Int → Int)  (hI : InvX σ) : Ct Γ mX10_dawn 3 (0, 0) [vR Γ 0] (113, ρT t, σ) (pI 113 (ρT t) (fun r σ' => (InvX σ') ∧ (Fr scX σ σ'))) := by
  refine Ct.of rfl (Nat.le_of_ble_eq_true rfl) ?_
  show G Γ mX10_dawn 3 (0, 0) _ (0, 0) 0 [some (vR Γ 0)] [] (113, ρT t, σ)
  refine g_aload_n (M := mX10_dawn) (pc := 0) dX10_dawn_0 rfl (k := ?_)
  refine g_getr (M := mX10_dawn) (pc := 1) (by rfl) fX10_4 kX10_45 dX10_dawn_1 (by rfl) (kk := ?_)
  refine g_aload_n (M := mX10_dawn) (pc := 4) dX10_dawn_4 rfl (k := ?_)
  refine g_getr (M := mX10_dawn) (pc := 5) (by rfl) fX10_0 kX10_42 dX10_dawn_5 (by rfl) (kk := ?_)
  refine g_get (M := mX10_dawn) (pc := 8) (ji := 13) (by rfl) fX5_13 kX10_146 dX10_dawn_8 (kk := fun hr8 => ?_)
  refine g_cV1I (M := mX10_dawn) (pc := 11) (c_X9_dawnOf Γ t _ _ hI (by omega)) qX9_dawnOf vX9_dawnOf sX9_dawnOf kX10_149 dX10_dawn_11 (kk := ?_)
  rintro r11 _ ⟨hi11, e⟩; rw [e]; clear e
  refine g_iret (M := mX10_dawn) (pc := 14) rfl dX10_dawn_14 rfl ⟨_, _, rfl, rfl, ?_⟩
  refine ⟨?_, ?_⟩
  · exact hI
  · exact (Fr.rf)
set_option maxHeartbeats 4000000 in
set_option maxRecDepth 20000 in
theorem c_X10_visit (Γ : KT) (t : Nat) (σ : Nat → Int → Int) (f : Int) (h : Int) (w : Int) (hI : InvX σ) (hf : R32 f) (hh : R32 h) (hw : R32 w) : Ct Γ mX10_visit 7 (0, 0) [vR Γ 0, vI f, vI h, vI w] (113, ρT t, σ) (pI 113 (ρT t) (fun r σ' => (InvX σ') ∧ (Fr scX σ σ'))) := by
  refine Ct.of rfl (Nat.le_of_ble_eq_true rfl) ?_
  show G Γ mX10_visit 7 (0, 0) _ (0, 0) 0 [some (vR Γ 0), some (vI f), some (vI h), some (vI w), none] [] (113, ρT t, σ)
  refine g_aload_n (M := mX10_visit) (pc := 0) dX10_visit_0 rfl (k := ?_)
  refine g_getr (M := mX10_visit) (pc := 1) (by rfl) fX10_0 kX10_42 dX10_visit_1 (by rfl) (kk := ?_)
  refine g_iload_n (M := mX10_visit) (pc := 4) dX10_visit_4 rfl (k := ?_)
  refine g_cV1I (M := mX10_visit) (pc := 5) (c_X5_hasFolk Γ t _ _ (by omega)) qX5_hasFolk vX5_hasFolk sX5_hasFolk kX10_90 dX10_visit_5 (kk := ?_)
  rintro _ _ ⟨e1, e⟩; rw [e1, e]; clear e1 e
  have hb5_33 := iv33_6 hI 6 (by omega) (by omega)
  refine g_if_eqB (M := mX10_visit) (pc := 8) (tgt := 22) dX10_visit_8 (k1 := fun h8 => ?_) (k2 := fun h8 => ?_)
  · skip
    refine g_iconst (M := mX10_visit) (pc := 22) dX10_visit_22 (k := ?_)
    refine g_iret (M := mX10_visit) (pc := 23) rfl dX10_visit_23 rfl ⟨_, _, rfl, rfl, ?_⟩
    refine ⟨?_, ?_⟩
    · exact hI
    · exact (Fr.rf)
  · skip
    refine g_aload_n (M := mX10_visit) (pc := 11) dX10_visit_11 rfl (k := ?_)
    refine g_getr (M := mX10_visit) (pc := 12) (by rfl) fX10_0 kX10_42 dX10_visit_12 (by rfl) (kk := ?_)
    refine g_iload_n (M := mX10_visit) (pc := 15) dX10_visit_15 rfl (k := ?_)
    refine g_cV1I (M := mX10_visit) (pc := 16) (c_X5_hasHouse Γ t _ _ (by omega)) qX5_hasHouse vX5_hasHouse sX5_hasHouse kX10_66 dX10_visit_16 (kk := ?_)
    rintro _ _ ⟨e1, e⟩; rw [e1, e]; clear e1 e
    have hb16_33 := iv33_0 hI 0 (by omega) (by omega)
    refine g_if_neB (M := mX10_visit) (pc := 19) (tgt := 24) dX10_visit_19 (k1 := fun h19 => ?_) (k2 := fun h19 => ?_)
    · skip
      refine g_aload_n (M := mX10_visit) (pc := 24) dX10_visit_24 rfl (k := ?_)
      refine g_getr (M := mX10_visit) (pc := 25) (by rfl) fX10_5 kX10_54 dX10_visit_25 (by rfl) (kk := ?_)
      refine g_iload_n (M := mX10_visit) (pc := 28) dX10_visit_28 rfl (k := ?_)
      refine g_iload_n (M := mX10_visit) (pc := 29) dX10_visit_29 rfl (k := ?_)
      refine g_aload_n (M := mX10_visit) (pc := 30) dX10_visit_30 rfl (k := ?_)
      refine g_getr (M := mX10_visit) (pc := 31) (by rfl) fX10_0 kX10_42 dX10_visit_31 (by rfl) (kk := ?_)
      refine g_getr (M := mX10_visit) (pc := 34) (by rfl) fX5_3 kX10_80 dX10_visit_34 (by rfl) (kk := ?_)
      refine g_iload_n (M := mX10_visit) (pc := 37) dX10_visit_37 rfl (k := ?_)
      refine g_iald (M := mX10_visit) (pc := 38) (by rfl) (by omega) (by omega) dX10_visit_38 (kk := fun hr38 => ?_)
      have hb38 := iv36_0 hI h (by omega) (by omega)
      refine g_cV3I (M := mX10_visit) (pc := 39) (c_X2_comesIn Γ t _ _ _ _ hI (by omega) (by omega) (by omega)) qX2_comesIn vX2_comesIn sX2_comesIn kX10_152 dX10_visit_39 (kk := ?_)
      rintro r39 τ39 ⟨hi39, hm39, hI39, hG39⟩
      have hF39 : Fr scX σ τ39 := by refine Fr.tr ?_ hG39; exact (Fr.rf)
      refine g_istore_4 (M := mX10_visit) (pc := 42) dX10_visit_42 (k := ?_)
      refine g_iload_n (M := mX10_visit) (pc := 44) dX10_visit_44 rfl (k := ?_)
      by_cases hsw45 : w < 0 ∨ 2 < w
      · skip
        refine g_tableOut (M := mX10_visit) (pc := 45) (tgt := 105) (by omega) dX10_visit_45 (h := hsw45) (k := ?_)
        refine g_iconst (M := mX10_visit) (pc := 105) dX10_visit_105 (k := ?_)
        refine g_iret (M := mX10_visit) (pc := 106) rfl dX10_visit_106 rfl ⟨_, _, rfl, rfl, ?_⟩
        refine ⟨?_, ?_⟩
        · exact hI39
        · exact hF39
      · obtain hc45 | hc45 | hc45 : w = 0 ∨ w = 1 ∨ w = 2 := by omega
        · skip
          refine g_tableIn (M := mX10_visit) (pc := 45) (tgt := 72) (by omega) dX10_visit_45 (0) hc45 (k := ?_)
          refine g_aload_n (M := mX10_visit) (pc := 72) dX10_visit_72 rfl (k := ?_)
          refine g_getr (M := mX10_visit) (pc := 73) (by rfl) fX10_5 kX10_54 dX10_visit_73 (by rfl) (kk := ?_)
          refine g_getr (M := mX10_visit) (pc := 76) (by rfl) fX2_2 kX10_156 dX10_visit_76 (by rfl) (kk := ?_)
          refine g_get (M := mX10_visit) (pc := 79) (ji := 7) (by rfl) fX1_7 kX10_160 dX10_visit_79 (kk := fun hr79 => ?_)
          refine g_iret (M := mX10_visit) (pc := 82) rfl dX10_visit_82 rfl ⟨_, _, rfl, rfl, ?_⟩
          refine ⟨?_, ?_⟩
          · exact hI39
          · exact hF39
        · skip
          refine g_tableIn (M := mX10_visit) (pc := 45) (tgt := 83) (by omega) dX10_visit_45 (1) hc45 (k := ?_)
          refine g_iload (M := mX10_visit) (pc := 83) dX10_visit_83 rfl (k := ?_)
          refine g_if_eq (M := mX10_visit) (pc := 85) (tgt := 92) (by omega) dX10_visit_85 (k1 := fun h85 => ?_) (k2 := fun h85 => ?_)
          · skip
            refine g_iconst (M := mX10_visit) (pc := 92) dX10_visit_92 (k := ?_)
            refine g_iret (M := mX10_visit) (pc := 93) rfl dX10_visit_93 rfl ⟨_, _, rfl, rfl, ?_⟩
            refine ⟨?_, ?_⟩
            · exact hI39
            · exact hF39
          · skip
            refine g_iconst (M := mX10_visit) (pc := 88) dX10_visit_88 (k := ?_)
            refine g_goto (M := mX10_visit) (pc := 89) (tgt := 93) dX10_visit_89 (k := ?_)
            refine g_iret (M := mX10_visit) (pc := 93) rfl dX10_visit_93 rfl ⟨_, _, rfl, rfl, ?_⟩
            refine ⟨?_, ?_⟩
            · exact hI39
            · exact hF39
        · skip
          refine g_tableIn (M := mX10_visit) (pc := 45) (tgt := 94) (by omega) dX10_visit_45 (2) hc45 (k := ?_)
          refine g_aload_n (M := mX10_visit) (pc := 94) dX10_visit_94 rfl (k := ?_)
          refine g_getr (M := mX10_visit) (pc := 95) (by rfl) fX10_5 kX10_54 dX10_visit_95 (by rfl) (kk := ?_)
          refine g_getr (M := mX10_visit) (pc := 98) (by rfl) fX2_2 kX10_156 dX10_visit_98 (by rfl) (kk := ?_)
          refine g_get (M := mX10_visit) (pc := 101) (ji := 8) (by rfl) fX1_8 kX10_165 dX10_visit_101 (kk := fun hr101 => ?_)
          have hb101 := iv66_8 hI39 8 (by omega) (by omega)
          refine g_iret (M := mX10_visit) (pc := 104) rfl dX10_visit_104 rfl ⟨_, _, rfl, rfl, ?_⟩
          refine ⟨?_, ?_⟩
          · exact hI39
          · exact hF39
    · skip
      refine g_iconst (M := mX10_visit) (pc := 22) dX10_visit_22 (k := ?_)
      refine g_iret (M := mX10_visit) (pc := 23) rfl dX10_visit_23 rfl ⟨_, _, rfl, rfl, ?_⟩
      refine ⟨?_, ?_⟩
      · exact hI
      · exact (Fr.rf)
set_option maxHeartbeats 4000000 in
set_option maxRecDepth 20000 in
theorem c_X10_way (Γ : KT) (t : Nat) (σ : Nat → Int → Int) (h : Int) (hI : InvX σ) (hh : R32 h) : Ct Γ mX10_way 2 (0, 0) [vR Γ 0, vI h] (113, ρT t, σ) (pI 113 (ρT t) (fun r σ' => (R32 r) ∧ (wayX σ h r σ') ∧ (InvX σ') ∧ (Fr scCn σ σ'))) := by
  refine Ct.of rfl (Nat.le_of_ble_eq_true rfl) ?_
  show G Γ mX10_way 2 (0, 0) _ (0, 0) 0 [some (vR Γ 0), some (vI h)] [] (113, ρT t, σ)
  refine g_iload_n (M := mX10_way) (pc := 0) dX10_way_0 rfl (k := ?_)
  refine g_iconst (M := mX10_way) (pc := 1) dX10_way_1 (k := ?_)
  refine g_icmp_ne (M := mX10_way) (pc := 2) (tgt := 16) (by omega) (by omega) dX10_way_2 (k1 := fun h2 => ?_) (k2 := fun h2 => ?_)
  · skip
    refine g_aload_n (M := mX10_way) (pc := 16) dX10_way_16 rfl (k := ?_)
    refine g_getr (M := mX10_way) (pc := 17) (by rfl) fX10_0 kX10_42 dX10_way_17 (by rfl) (kk := ?_)
    refine g_iload_n (M := mX10_way) (pc := 20) dX10_way_20 rfl (k := ?_)
    refine g_cV1I (M := mX10_way) (pc := 21) (c_X5_hasHouse Γ t _ _ (by omega)) qX5_hasHouse vX5_hasHouse sX5_hasHouse kX10_66 dX10_way_21 (kk := ?_)
    rintro _ _ ⟨e1, e⟩; rw [e1, e]; clear e1 e
    have hb21_33 := iv33_0 hI 0 (by omega) (by omega)
    refine g_if_neB (M := mX10_way) (pc := 24) (tgt := 29) dX10_way_24 (k1 := fun h24 => ?_) (k2 := fun h24 => ?_)
    · skip
      refine g_aload_n (M := mX10_way) (pc := 29) dX10_way_29 rfl (k := ?_)
      refine g_getr (M := mX10_way) (pc := 30) (by rfl) fX10_0 kX10_42 dX10_way_30 (by rfl) (kk := ?_)
      refine g_getr (M := mX10_way) (pc := 33) (by rfl) fX5_10 kX10_168 dX10_way_33 (by rfl) (kk := ?_)
      refine g_iload_n (M := mX10_way) (pc := 36) dX10_way_36 rfl (k := ?_)
      refine g_iconst (M := mX10_way) (pc := 37) dX10_way_37 (k := ?_)
      refine g_cV2I (M := mX10_way) (pc := 38) (c_X4_add_42 Γ t _ _ _ hI (by omega) (by omega)) qX4_add vX4_add sX4_add kX10_178 dX10_way_38 (kk := ?_)
      rintro r38 τ38 ⟨hi38, hx38, hI38, hG38⟩
      have hF38 : Fr scCn σ τ38 := by refine Fr.tr ?_ (Fr.mono hG38 sb_scC42_scCn); exact (Fr.rf)
      refine g_iret (M := mX10_way) (pc := 41) rfl dX10_way_41 rfl ⟨_, _, rfl, rfl, ?_⟩
      refine ⟨?_, ?_, ?_, ?_⟩
      · omega
      · unfold wayX; first | exact Or.inl ⟨by first | omega | (refine ⟨by omega, by omega, ?_⟩; assumption), by first | rfl | omega, by first | rfl | (rw [show n = 1 by omega]; done) | (rw [show n = 0 by omega]; done) | (rw [show z = 1 by omega]; done) | (rw [show z = 0 by omega]; done) | (unfold zwith; first | rw [if_pos (by omega)] | rw [if_neg (by omega)])⟩ | exact Or.inr (Or.inl ⟨by first | omega | (refine ⟨by omega, by omega, ?_⟩; assumption), by first | rfl | omega, by first | rfl | (rw [show n = 1 by omega]; done) | (rw [show n = 0 by omega]; done) | (rw [show z = 1 by omega]; done) | (rw [show z = 0 by omega]; done) | (unfold zwith; first | rw [if_pos (by omega)] | rw [if_neg (by omega)])⟩) | exact Or.inr (Or.inr (Or.inl ⟨by first | omega | (refine ⟨by omega, by omega, ?_⟩; assumption), by first | rfl | omega, by first | rfl | (rw [show n = 1 by omega]; done) | (rw [show n = 0 by omega]; done) | (rw [show z = 1 by omega]; done) | (rw [show z = 0 by omega]; done) | (unfold zwith; first | rw [if_pos (by omega)] | rw [if_neg (by omega)])⟩)) | exact Or.inr (Or.inr (Or.inr (⟨by first | omega | (refine ⟨by omega, by omega, ?_⟩; assumption), by first | rfl | omega, by first | rfl | (rw [show n = 1 by omega]; done) | (rw [show n = 0 by omega]; done) | (rw [show z = 1 by omega]; done) | (rw [show z = 0 by omega]; done) | (unfold zwith; first | rw [if_pos (by omega)] | rw [if_neg (by omega)])⟩))) | (rcases hx38 with ⟨a, b, e⟩ | ⟨a, b, e⟩ <;> first | exact Or.inl ⟨by omega, by omega, by first | exact e | (rw [show z = 1 by omega]; exact e) | (rw [show z = 0 by omega]; exact e)⟩ | exact Or.inr (Or.inl ⟨by omega, by omega, by first | exact e | (rw [show z = 1 by omega]; exact e) | (rw [show z = 0 by omega]; exact e)⟩) | exact Or.inr (Or.inr (Or.inl ⟨by omega, by omega, by first | exact e | (rw [show z = 1 by omega]; exact e) | (rw [show z = 0 by omega]; exact e)⟩)) | exact Or.inr (Or.inr (Or.inr (⟨by omega, by omega, by first | exact e | (rw [show z = 1 by omega]; exact e) | (rw [show z = 0 by omega]; exact e)⟩))))
      · exact hI38
      · exact hF38
    · skip
      refine g_iconst (M := mX10_way) (pc := 27) dX10_way_27 (k := ?_)
      refine g_iret (M := mX10_way) (pc := 28) rfl dX10_way_28 rfl ⟨_, _, rfl, rfl, ?_⟩
      refine ⟨?_, ?_, ?_, ?_⟩
      · omega
      · unfold wayX; first | exact Or.inl ⟨by first | omega | (refine ⟨by omega, by omega, ?_⟩; assumption), by first | rfl | omega, by first | rfl | (rw [show n = 1 by omega]; done) | (rw [show n = 0 by omega]; done) | (rw [show z = 1 by omega]; done) | (rw [show z = 0 by omega]; done) | (unfold zwith; first | rw [if_pos (by omega)] | rw [if_neg (by omega)])⟩ | exact Or.inr (Or.inl ⟨by first | omega | (refine ⟨by omega, by omega, ?_⟩; assumption), by first | rfl | omega, by first | rfl | (rw [show n = 1 by omega]; done) | (rw [show n = 0 by omega]; done) | (rw [show z = 1 by omega]; done) | (rw [show z = 0 by omega]; done) | (unfold zwith; first | rw [if_pos (by omega)] | rw [if_neg (by omega)])⟩) | exact Or.inr (Or.inr (Or.inl ⟨by first | omega | (refine ⟨by omega, by omega, ?_⟩; assumption), by first | rfl | omega, by first | rfl | (rw [show n = 1 by omega]; done) | (rw [show n = 0 by omega]; done) | (rw [show z = 1 by omega]; done) | (rw [show z = 0 by omega]; done) | (unfold zwith; first | rw [if_pos (by omega)] | rw [if_neg (by omega)])⟩)) | exact Or.inr (Or.inr (Or.inr (⟨by first | omega | (refine ⟨by omega, by omega, ?_⟩; assumption), by first | rfl | omega, by first | rfl | (rw [show n = 1 by omega]; done) | (rw [show n = 0 by omega]; done) | (rw [show z = 1 by omega]; done) | (rw [show z = 0 by omega]; done) | (unfold zwith; first | rw [if_pos (by omega)] | rw [if_neg (by omega)])⟩))) | (rcases hx38 with ⟨a, b, e⟩ | ⟨a, b, e⟩ <;> first | exact Or.inl ⟨by omega, by omega, by first | exact e | (rw [show z = 1 by omega]; exact e) | (rw [show z = 0 by omega]; exact e)⟩ | exact Or.inr (Or.inl ⟨by omega, by omega, by first | exact e | (rw [show z = 1 by omega]; exact e) | (rw [show z = 0 by omega]; exact e)⟩) | exact Or.inr (Or.inr (Or.inl ⟨by omega, by omega, by first | exact e | (rw [show z = 1 by omega]; exact e) | (rw [show z = 0 by omega]; exact e)⟩)) | exact Or.inr (Or.inr (Or.inr (⟨by omega, by omega, by first | exact e | (rw [show z = 1 by omega]; exact e) | (rw [show z = 0 by omega]; exact e)⟩))))
      · exact hI
      · exact (Fr.rf)
  · skip
    refine g_aload_n (M := mX10_way) (pc := 5) dX10_way_5 rfl (k := ?_)
    refine g_getr (M := mX10_way) (pc := 6) (by rfl) fX10_0 kX10_42 dX10_way_6 (by rfl) (kk := ?_)
    refine g_getr (M := mX10_way) (pc := 9) (by rfl) fX5_10 kX10_168 dX10_way_9 (by rfl) (kk := ?_)
    refine g_cV0I (M := mX10_way) (pc := 12) (c_X4_empty_42 Γ t _) qX4_empty vX4_empty sX4_empty kX10_172 dX10_way_12 (kk := ?_)
    rintro _ _ ⟨e1, e⟩; rw [e1, e]; clear e1 e
    refine g_iret (M := mX10_way) (pc := 15) rfl dX10_way_15 rfl ⟨_, _, rfl, rfl, ?_⟩
    refine ⟨?_, ?_, ?_, ?_⟩
    · omega
    · unfold wayX; first | exact Or.inl ⟨by first | omega | (refine ⟨by omega, by omega, ?_⟩; assumption), by first | rfl | omega, by first | rfl | (rw [show n = 1 by omega]; done) | (rw [show n = 0 by omega]; done) | (rw [show z = 1 by omega]; done) | (rw [show z = 0 by omega]; done) | (unfold zwith; first | rw [if_pos (by omega)] | rw [if_neg (by omega)])⟩ | exact Or.inr (Or.inl ⟨by first | omega | (refine ⟨by omega, by omega, ?_⟩; assumption), by first | rfl | omega, by first | rfl | (rw [show n = 1 by omega]; done) | (rw [show n = 0 by omega]; done) | (rw [show z = 1 by omega]; done) | (rw [show z = 0 by omega]; done) | (unfold zwith; first | rw [if_pos (by omega)] | rw [if_neg (by omega)])⟩) | exact Or.inr (Or.inr (Or.inl ⟨by first | omega | (refine ⟨by omega, by omega, ?_⟩; assumption), by first | rfl | omega, by first | rfl | (rw [show n = 1 by omega]; done) | (rw [show n = 0 by omega]; done) | (rw [show z = 1 by omega]; done) | (rw [show z = 0 by omega]; done) | (unfold zwith; first | rw [if_pos (by omega)] | rw [if_neg (by omega)])⟩)) | exact Or.inr (Or.inr (Or.inr (⟨by first | omega | (refine ⟨by omega, by omega, ?_⟩; assumption), by first | rfl | omega, by first | rfl | (rw [show n = 1 by omega]; done) | (rw [show n = 0 by omega]; done) | (rw [show z = 1 by omega]; done) | (rw [show z = 0 by omega]; done) | (unfold zwith; first | rw [if_pos (by omega)] | rw [if_neg (by omega)])⟩))) | (rcases hx38 with ⟨a, b, e⟩ | ⟨a, b, e⟩ <;> first | exact Or.inl ⟨by omega, by omega, by first | exact e | (rw [show z = 1 by omega]; exact e) | (rw [show z = 0 by omega]; exact e)⟩ | exact Or.inr (Or.inl ⟨by omega, by omega, by first | exact e | (rw [show z = 1 by omega]; exact e) | (rw [show z = 0 by omega]; exact e)⟩) | exact Or.inr (Or.inr (Or.inl ⟨by omega, by omega, by first | exact e | (rw [show z = 1 by omega]; exact e) | (rw [show z = 0 by omega]; exact e)⟩)) | exact Or.inr (Or.inr (Or.inr (⟨by omega, by omega, by first | exact e | (rw [show z = 1 by omega]; exact e) | (rw [show z = 0 by omega]; exact e)⟩))))
    · refine ivu42 ?_ (by omega) (by omega); exact hI
    · refine Fr.up ?_ (by first | rfl | (unfold scCn; simp; try omega)); exact (Fr.rf)
set_option maxHeartbeats 4000000 in
set_option maxRecDepth 20000 in
theorem c_X10_goes (Γ : KT) (t : Nat) (σ : Nat → Int → Int) (f : Int) (w : Int) (hI : InvX σ) (hf : R32 f) (hw : R32 w) : Ct Γ mX10_goes 7 (0, 0) [vR Γ 0, vI f, vI w] (113, ρT t, σ) (pI 113 (ρT t) (fun r σ' => (InvX σ') ∧ (Fr scX σ σ'))) := by
  refine Ct.of rfl (Nat.le_of_ble_eq_true rfl) ?_
  show G Γ mX10_goes 7 (0, 0) _ (0, 0) 0 [some (vR Γ 0), some (vI f), some (vI w), none] [] (113, ρT t, σ)
  refine g_aload_n (M := mX10_goes) (pc := 0) dX10_goes_0 rfl (k := ?_)
  refine g_getr (M := mX10_goes) (pc := 1) (by rfl) fX10_0 kX10_42 dX10_goes_1 (by rfl) (kk := ?_)
  refine g_iload_n (M := mX10_goes) (pc := 4) dX10_goes_4 rfl (k := ?_)
  refine g_cV1I (M := mX10_goes) (pc := 5) (c_X5_hasFolk Γ t _ _ (by omega)) qX5_hasFolk vX5_hasFolk sX5_hasFolk kX10_90 dX10_goes_5 (kk := ?_)
  rintro _ _ ⟨e1, e⟩; rw [e1, e]; clear e1 e
  have hb5_33 := iv33_6 hI 6 (by omega) (by omega)
  refine g_if_neB (M := mX10_goes) (pc := 8) (tgt := 13) dX10_goes_8 (k1 := fun h8 => ?_) (k2 := fun h8 => ?_)
  · skip
    refine g_aload_n (M := mX10_goes) (pc := 13) dX10_goes_13 rfl (k := ?_)
    refine g_getr (M := mX10_goes) (pc := 14) (by rfl) fX10_5 kX10_54 dX10_goes_14 (by rfl) (kk := ?_)
    refine g_iload_n (M := mX10_goes) (pc := 17) dX10_goes_17 rfl (k := ?_)
    refine g_cV1I (M := mX10_goes) (pc := 18) (c_X2_followPlan Γ t _ _ hI (by omega)) qX2_followPlan vX2_followPlan sX2_followPlan kX10_179 dX10_goes_18 (kk := ?_)
    rintro r18 τ18 ⟨hi18, hI18, hG18⟩
    have hF18 : Fr scX σ τ18 := by refine Fr.tr ?_ hG18; exact (Fr.rf)
    refine g_istore_3 (M := mX10_goes) (pc := 21) dX10_goes_21 (k := ?_)
    refine g_iload_n (M := mX10_goes) (pc := 22) dX10_goes_22 rfl (k := ?_)
    by_cases hsw23 : w < 0 ∨ 3 < w
    · skip
      refine g_tableOut (M := mX10_goes) (pc := 23) (tgt := 87) (by omega) dX10_goes_23 (h := hsw23) (k := ?_)
      refine g_iconst (M := mX10_goes) (pc := 87) dX10_goes_87 (k := ?_)
      refine g_iret (M := mX10_goes) (pc := 88) rfl dX10_goes_88 rfl ⟨_, _, rfl, rfl, ?_⟩
      refine ⟨?_, ?_⟩
      · exact hI18
      · exact hF18
    · obtain hc23 | hc23 | hc23 | hc23 : w = 0 ∨ w = 1 ∨ w = 2 ∨ w = 3 := by omega
      · skip
        refine g_tableIn (M := mX10_goes) (pc := 23) (tgt := 52) (by omega) dX10_goes_23 (0) hc23 (k := ?_)
        refine g_aload_n (M := mX10_goes) (pc := 52) dX10_goes_52 rfl (k := ?_)
        refine g_getr (M := mX10_goes) (pc := 53) (by rfl) fX10_5 kX10_54 dX10_goes_53 (by rfl) (kk := ?_)
        refine g_getr (M := mX10_goes) (pc := 56) (by rfl) fX2_2 kX10_156 dX10_goes_56 (by rfl) (kk := ?_)
        refine g_get (M := mX10_goes) (pc := 59) (ji := 7) (by rfl) fX1_7 kX10_160 dX10_goes_59 (kk := fun hr59 => ?_)
        refine g_iret (M := mX10_goes) (pc := 62) rfl dX10_goes_62 rfl ⟨_, _, rfl, rfl, ?_⟩
        refine ⟨?_, ?_⟩
        · exact hI18
        · exact hF18
      · skip
        refine g_tableIn (M := mX10_goes) (pc := 23) (tgt := 63) (by omega) dX10_goes_23 (1) hc23 (k := ?_)
        refine g_aload_n (M := mX10_goes) (pc := 63) dX10_goes_63 rfl (k := ?_)
        refine g_getr (M := mX10_goes) (pc := 64) (by rfl) fX10_5 kX10_54 dX10_goes_64 (by rfl) (kk := ?_)
        refine g_getr (M := mX10_goes) (pc := 67) (by rfl) fX2_2 kX10_156 dX10_goes_67 (by rfl) (kk := ?_)
        refine g_get (M := mX10_goes) (pc := 70) (ji := 8) (by rfl) fX1_8 kX10_165 dX10_goes_70 (kk := fun hr70 => ?_)
        have hb70 := iv66_8 hI18 8 (by omega) (by omega)
        refine g_iret (M := mX10_goes) (pc := 73) rfl dX10_goes_73 rfl ⟨_, _, rfl, rfl, ?_⟩
        refine ⟨?_, ?_⟩
        · exact hI18
        · exact hF18
      · skip
        refine g_tableIn (M := mX10_goes) (pc := 23) (tgt := 74) (by omega) dX10_goes_23 (2) hc23 (k := ?_)
        refine g_aload_n (M := mX10_goes) (pc := 74) dX10_goes_74 rfl (k := ?_)
        refine g_getr (M := mX10_goes) (pc := 75) (by rfl) fX10_5 kX10_54 dX10_goes_75 (by rfl) (kk := ?_)
        refine g_getr (M := mX10_goes) (pc := 78) (by rfl) fX2_2 kX10_156 dX10_goes_78 (by rfl) (kk := ?_)
        refine g_get (M := mX10_goes) (pc := 81) (ji := 9) (by rfl) fX1_9 kX10_182 dX10_goes_81 (kk := fun hr81 => ?_)
        refine g_iret (M := mX10_goes) (pc := 84) rfl dX10_goes_84 rfl ⟨_, _, rfl, rfl, ?_⟩
        refine ⟨?_, ?_⟩
        · exact hI18
        · exact hF18
      · skip
        refine g_tableIn (M := mX10_goes) (pc := 23) (tgt := 85) (by omega) dX10_goes_23 (3) hc23 (k := ?_)
        refine g_iload_n (M := mX10_goes) (pc := 85) dX10_goes_85 rfl (k := ?_)
        refine g_iret (M := mX10_goes) (pc := 86) rfl dX10_goes_86 rfl ⟨_, _, rfl, rfl, ?_⟩
        refine ⟨?_, ?_⟩
        · exact hI18
        · exact hF18
  · skip
    refine g_iconst (M := mX10_goes) (pc := 11) dX10_goes_11 (k := ?_)
    refine g_iret (M := mX10_goes) (pc := 12) rfl dX10_goes_12 rfl ⟨_, _, rfl, rfl, ?_⟩
    refine ⟨?_, ?_⟩
    · exact hI
    · exact (Fr.rf)
set_option maxHeartbeats 4000000 in
set_option maxRecDepth 20000 in
theorem c_X10_round (Γ : KT) (t : Nat) (σ : Nat → Int → Int) (f : Int) (s : Int) (w : Int) (hI : InvX σ) (hf : R32 f) (hs : R32 s) (hw : R32 w) : Ct Γ mX10_round 7 (0, 0) [vR Γ 0, vI f, vI s, vI w] (113, ρT t, σ) (pI 113 (ρT t) (fun r σ' => (InvX σ') ∧ (Fr scX σ σ'))) := by
  refine Ct.of rfl (Nat.le_of_ble_eq_true rfl) ?_
  show G Γ mX10_round 7 (0, 0) _ (0, 0) 0 [some (vR Γ 0), some (vI f), some (vI s), some (vI w), none, none, none] [] (113, ρT t, σ)
  refine g_iload_n (M := mX10_round) (pc := 0) dX10_round_0 rfl (k := ?_)
  refine g_bipush (M := mX10_round) (pc := 1) dX10_round_1 (k := ?_)
  refine g_isub (M := mX10_round) (pc := 3) dX10_round_3 (k := ?_)
  refine g_wrap (k := fun c3 hz3 hw3 => ?_)
  refine g_istore_4 (M := mX10_round) (pc := 4) dX10_round_4 (k := ?_)
  refine g_iload (M := mX10_round) (pc := 6) dX10_round_6 rfl (k := ?_)
  refine g_iconst (M := mX10_round) (pc := 8) dX10_round_8 (k := ?_)
  refine g_cS2I (M := mX10_round) (pc := 9) (c_X10_isUpTo Γ t _ _ _ (by omega) (by omega)) qX10_isUpTo vX10_isUpTo kX10_58 dX10_round_9 (kk := ?_)
  rintro _ _ ⟨e1, e⟩; rw [e1, e]; clear e1 e
  refine g_istore_5 (M := mX10_round) (pc := 12) dX10_round_12 (k := ?_)
  refine g_aload_n (M := mX10_round) (pc := 14) dX10_round_14 rfl (k := ?_)
  refine g_getr (M := mX10_round) (pc := 15) (by rfl) fX10_0 kX10_42 dX10_round_15 (by rfl) (kk := ?_)
  refine g_iload_n (M := mX10_round) (pc := 18) dX10_round_18 rfl (k := ?_)
  refine g_cV1I (M := mX10_round) (pc := 19) (c_X5_hasFolk Γ t _ _ (by omega)) qX5_hasFolk vX5_hasFolk sX5_hasFolk kX10_90 dX10_round_19 (kk := ?_)
  rintro _ _ ⟨e1, e⟩; rw [e1, e]; clear e1 e
  have hb19_33 := iv33_6 hI 6 (by omega) (by omega)
  refine g_if_eqB (M := mX10_round) (pc := 22) (tgt := 38) dX10_round_22 (k1 := fun h22 => ?_) (k2 := fun h22 => ?_)
  · skip
    refine g_iconst (M := mX10_round) (pc := 38) dX10_round_38 (k := ?_)
    refine g_iret (M := mX10_round) (pc := 39) rfl dX10_round_39 rfl ⟨_, _, rfl, rfl, ?_⟩
    refine ⟨?_, ?_⟩
    · exact hI
    · exact (Fr.rf)
  · skip
    refine g_iload_n (M := mX10_round) (pc := 25) dX10_round_25 rfl (k := ?_)
    refine g_iconst (M := mX10_round) (pc := 26) dX10_round_26 (k := ?_)
    refine g_cS2I (M := mX10_round) (pc := 27) (c_X10_isUpTo Γ t _ _ _ (by omega) (by omega)) qX10_isUpTo vX10_isUpTo kX10_58 dX10_round_27 (kk := ?_)
    rintro _ _ ⟨e1, e⟩; rw [e1, e]; clear e1 e
    refine g_if_neB (M := mX10_round) (pc := 30) (tgt := 40) dX10_round_30 (k1 := fun h30 => ?_) (k2 := fun h30 => ?_)
    · skip
      refine g_iload_n (M := mX10_round) (pc := 40) dX10_round_40 rfl (k := ?_)
      refine g_iconst (M := mX10_round) (pc := 41) dX10_round_41 (k := ?_)
      refine g_aload_n (M := mX10_round) (pc := 42) dX10_round_42 rfl (k := ?_)
      refine g_getr (M := mX10_round) (pc := 43) (by rfl) fX10_0 kX10_42 dX10_round_43 (by rfl) (kk := ?_)
      refine g_get (M := mX10_round) (pc := 46) (ji := 0) (by rfl) fX5_0 kX10_185 dX10_round_46 (kk := fun hr46 => ?_)
      have hb46 := iv33_0 hI 0 (by omega) (by omega)
      refine g_ishl (M := mX10_round) (pc := 49) dX10_round_49 (k := ?_)
      have hz49 := zshlR 1 (σ 33 0)
      have hzz := zshl1 (h := σ 33 0) (by omega)
      refine g_iconst (M := mX10_round) (pc := 50) dX10_round_50 (k := ?_)
      refine g_isub (M := mX10_round) (pc := 51) dX10_round_51 (k := ?_)
      refine g_cS2I (M := mX10_round) (pc := 52) (c_X10_isUpTo Γ t _ _ _ (by omega) (by omega)) qX10_isUpTo vX10_isUpTo kX10_58 dX10_round_52 (kk := ?_)
      rintro _ _ ⟨e1, e⟩; rw [e1, e]; clear e1 e
      refine g_if_eqB (M := mX10_round) (pc := 55) (tgt := 66) dX10_round_55 (k1 := fun h55 => ?_) (k2 := fun h55 => ?_)
      · skip
        refine g_bipush (M := mX10_round) (pc := 66) dX10_round_66 (k := ?_)
        refine g_iret (M := mX10_round) (pc := 68) rfl dX10_round_68 rfl ⟨_, _, rfl, rfl, ?_⟩
        refine ⟨?_, ?_⟩
        · exact hI
        · exact (Fr.rf)
      · skip
        refine g_iload_n (M := mX10_round) (pc := 58) dX10_round_58 rfl (k := ?_)
        refine g_cS1I (M := mX10_round) (pc := 59) (c_J6_bitCount_0f7a4 Γ t _ _) qJ6_bitCount_0f7a4 vJ6_bitCount_0f7a4 kX10_188 dX10_round_59 (kk := ?_)
        rintro r59 _ ⟨hf59, e⟩; rw [e]; clear e
        refine g_iconst (M := mX10_round) (pc := 62) dX10_round_62 (k := ?_)
        refine g_icmp_le (M := mX10_round) (pc := 63) (tgt := 69) (by omega) (by omega) dX10_round_63 (k1 := fun h63 => ?_) (k2 := fun h63 => ?_)
        · skip
          refine g_aload_n (M := mX10_round) (pc := 69) dX10_round_69 rfl (k := ?_)
          refine g_getr (M := mX10_round) (pc := 70) (by rfl) fX10_5 kX10_54 dX10_round_70 (by rfl) (kk := ?_)
          refine g_iload_n (M := mX10_round) (pc := 73) dX10_round_73 rfl (k := ?_)
          refine g_iload_n (M := mX10_round) (pc := 74) dX10_round_74 rfl (k := ?_)
          refine g_cV2A (M := mX10_round) (pc := 75) (c_X2_bestRound Γ t _ _ _ hI (by omega)) qX2_bestRound vX2_bestRound sX2_bestRound kX10_193 dX10_round_75 (kk := ?_)
          rintro r75 τ75 ⟨hi75, hI75, hG75⟩
          have hF75 : Fr scX σ τ75 := by refine Fr.tr ?_ hG75; exact (Fr.rf)
          subst hi75
          refine g_astore_6 (M := mX10_round) (pc := 78) dX10_round_78 (k := ?_)
          refine g_iload (M := mX10_round) (pc := 80) dX10_round_80 rfl (k := ?_)
          refine g_if_eqB (M := mX10_round) (pc := 82) (tgt := 109) dX10_round_82 (k1 := fun h82 => ?_) (k2 := fun h82 => ?_)
          · skip
            refine g_iload_n (M := mX10_round) (pc := 109) dX10_round_109 rfl (k := ?_)
            refine g_if_ne (M := mX10_round) (pc := 110) (tgt := 121) (by omega) dX10_round_110 (k1 := fun h110 => ?_) (k2 := fun h110 => ?_)
            · skip
              refine g_aload (M := mX10_round) (pc := 121) dX10_round_121 rfl (k := ?_)
              refine g_get (M := mX10_round) (pc := 123) (ji := 4) (by rfl) fX3_4 kX10_206 dX10_round_123 (kk := fun hr123 => ?_)
              refine g_iret (M := mX10_round) (pc := 126) rfl dX10_round_126 rfl ⟨_, _, rfl, rfl, ?_⟩
              refine ⟨?_, ?_⟩
              · exact hI75
              · exact hF75
            · skip
              refine g_aload (M := mX10_round) (pc := 113) dX10_round_113 rfl (k := ?_)
              refine g_get (M := mX10_round) (pc := 115) (ji := 3) (by rfl) fX3_3 kX10_203 dX10_round_115 (kk := fun hr115 => ?_)
              refine g_goto (M := mX10_round) (pc := 118) (tgt := 126) dX10_round_118 (k := ?_)
              refine g_iret (M := mX10_round) (pc := 126) rfl dX10_round_126 rfl ⟨_, _, rfl, rfl, ?_⟩
              refine ⟨?_, ?_⟩
              · exact hI75
              · exact hF75
          · skip
            refine g_iload (M := mX10_round) (pc := 85) dX10_round_85 rfl (k := ?_)
            refine g_aload (M := mX10_round) (pc := 87) dX10_round_87 rfl (k := ?_)
            refine g_get (M := mX10_round) (pc := 89) (ji := 2) (by rfl) fX3_2 kX10_197 dX10_round_89 (kk := fun hr89 => ?_)
            have hb89 := iv63_2 hI75 2 (by omega) (by omega)
            refine g_icmp_ge (M := mX10_round) (pc := 92) (tgt := 106) (by omega) (by omega) dX10_round_92 (k1 := fun h92 => ?_) (k2 := fun h92 => ?_)
            · skip
              refine g_bipush (M := mX10_round) (pc := 106) dX10_round_106 (k := ?_)
              refine g_iret (M := mX10_round) (pc := 108) rfl dX10_round_108 rfl ⟨_, _, rfl, rfl, ?_⟩
              refine ⟨?_, ?_⟩
              · exact hI75
              · exact hF75
            · skip
              refine g_aload (M := mX10_round) (pc := 95) dX10_round_95 rfl (k := ?_)
              refine g_getr (M := mX10_round) (pc := 97) (by rfl) fX3_0 kX10_200 dX10_round_97 (by rfl) (kk := ?_)
              refine g_iload (M := mX10_round) (pc := 100) dX10_round_100 rfl (k := ?_)
              refine g_iald (M := mX10_round) (pc := 102) (by rfl) (by omega) (by omega) dX10_round_102 (kk := fun hr102 => ?_)
              refine g_goto (M := mX10_round) (pc := 103) (tgt := 108) dX10_round_103 (k := ?_)
              refine g_iret (M := mX10_round) (pc := 108) rfl dX10_round_108 rfl ⟨_, _, rfl, rfl, ?_⟩
              refine ⟨?_, ?_⟩
              · exact hI75
              · exact hF75
        · skip
          refine g_bipush (M := mX10_round) (pc := 66) dX10_round_66 (k := ?_)
          refine g_iret (M := mX10_round) (pc := 68) rfl dX10_round_68 rfl ⟨_, _, rfl, rfl, ?_⟩
          refine ⟨?_, ?_⟩
          · exact hI
          · exact (Fr.rf)
    · skip
      refine g_iload (M := mX10_round) (pc := 33) dX10_round_33 rfl (k := ?_)
      refine g_if_neB (M := mX10_round) (pc := 35) (tgt := 40) dX10_round_35 (k1 := fun h35 => ?_) (k2 := fun h35 => ?_)
      · skip
        refine g_iload_n (M := mX10_round) (pc := 40) dX10_round_40 rfl (k := ?_)
        refine g_iconst (M := mX10_round) (pc := 41) dX10_round_41 (k := ?_)
        refine g_aload_n (M := mX10_round) (pc := 42) dX10_round_42 rfl (k := ?_)
        refine g_getr (M := mX10_round) (pc := 43) (by rfl) fX10_0 kX10_42 dX10_round_43 (by rfl) (kk := ?_)
        refine g_get (M := mX10_round) (pc := 46) (ji := 0) (by rfl) fX5_0 kX10_185 dX10_round_46 (kk := fun hr46 => ?_)
        have hb46 := iv33_0 hI 0 (by omega) (by omega)
        refine g_ishl (M := mX10_round) (pc := 49) dX10_round_49 (k := ?_)
        have hz49 := zshlR 1 (σ 33 0)
        have hzz := zshl1 (h := σ 33 0) (by omega)
        refine g_iconst (M := mX10_round) (pc := 50) dX10_round_50 (k := ?_)
        refine g_isub (M := mX10_round) (pc := 51) dX10_round_51 (k := ?_)
        refine g_cS2I (M := mX10_round) (pc := 52) (c_X10_isUpTo Γ t _ _ _ (by omega) (by omega)) qX10_isUpTo vX10_isUpTo kX10_58 dX10_round_52 (kk := ?_)
        rintro _ _ ⟨e1, e⟩; rw [e1, e]; clear e1 e
        refine g_if_eqB (M := mX10_round) (pc := 55) (tgt := 66) dX10_round_55 (k1 := fun h55 => ?_) (k2 := fun h55 => ?_)
        · skip
          refine g_bipush (M := mX10_round) (pc := 66) dX10_round_66 (k := ?_)
          refine g_iret (M := mX10_round) (pc := 68) rfl dX10_round_68 rfl ⟨_, _, rfl, rfl, ?_⟩
          refine ⟨?_, ?_⟩
          · exact hI
          · exact (Fr.rf)
        · skip
          refine g_iload_n (M := mX10_round) (pc := 58) dX10_round_58 rfl (k := ?_)
          refine g_cS1I (M := mX10_round) (pc := 59) (c_J6_bitCount_0f7a4 Γ t _ _) qJ6_bitCount_0f7a4 vJ6_bitCount_0f7a4 kX10_188 dX10_round_59 (kk := ?_)
          rintro r59 _ ⟨hf59, e⟩; rw [e]; clear e
          refine g_iconst (M := mX10_round) (pc := 62) dX10_round_62 (k := ?_)
          refine g_icmp_le (M := mX10_round) (pc := 63) (tgt := 69) (by omega) (by omega) dX10_round_63 (k1 := fun h63 => ?_) (k2 := fun h63 => ?_)
          · skip
            refine g_aload_n (M := mX10_round) (pc := 69) dX10_round_69 rfl (k := ?_)
            refine g_getr (M := mX10_round) (pc := 70) (by rfl) fX10_5 kX10_54 dX10_round_70 (by rfl) (kk := ?_)
            refine g_iload_n (M := mX10_round) (pc := 73) dX10_round_73 rfl (k := ?_)
            refine g_iload_n (M := mX10_round) (pc := 74) dX10_round_74 rfl (k := ?_)
            refine g_cV2A (M := mX10_round) (pc := 75) (c_X2_bestRound Γ t _ _ _ hI (by omega)) qX2_bestRound vX2_bestRound sX2_bestRound kX10_193 dX10_round_75 (kk := ?_)
            rintro r75 τ75 ⟨hi75, hI75, hG75⟩
            have hF75 : Fr scX σ τ75 := by refine Fr.tr ?_ hG75; exact (Fr.rf)
            subst hi75
            refine g_astore_6 (M := mX10_round) (pc := 78) dX10_round_78 (k := ?_)
            refine g_iload (M := mX10_round) (pc := 80) dX10_round_80 rfl (k := ?_)
            refine g_if_eqB (M := mX10_round) (pc := 82) (tgt := 109) dX10_round_82 (k1 := fun h82 => ?_) (k2 := fun h82 => ?_)
            · skip
              refine g_iload_n (M := mX10_round) (pc := 109) dX10_round_109 rfl (k := ?_)
              refine g_if_ne (M := mX10_round) (pc := 110) (tgt := 121) (by omega) dX10_round_110 (k1 := fun h110 => ?_) (k2 := fun h110 => ?_)
              · skip
                refine g_aload (M := mX10_round) (pc := 121) dX10_round_121 rfl (k := ?_)
                refine g_get (M := mX10_round) (pc := 123) (ji := 4) (by rfl) fX3_4 kX10_206 dX10_round_123 (kk := fun hr123 => ?_)
                refine g_iret (M := mX10_round) (pc := 126) rfl dX10_round_126 rfl ⟨_, _, rfl, rfl, ?_⟩
                refine ⟨?_, ?_⟩
                · exact hI75
                · exact hF75
              · skip
                refine g_aload (M := mX10_round) (pc := 113) dX10_round_113 rfl (k := ?_)
                refine g_get (M := mX10_round) (pc := 115) (ji := 3) (by rfl) fX3_3 kX10_203 dX10_round_115 (kk := fun hr115 => ?_)
                refine g_goto (M := mX10_round) (pc := 118) (tgt := 126) dX10_round_118 (k := ?_)
                refine g_iret (M := mX10_round) (pc := 126) rfl dX10_round_126 rfl ⟨_, _, rfl, rfl, ?_⟩
                refine ⟨?_, ?_⟩
                · exact hI75
                · exact hF75
            · skip
              refine g_iload (M := mX10_round) (pc := 85) dX10_round_85 rfl (k := ?_)
              refine g_aload (M := mX10_round) (pc := 87) dX10_round_87 rfl (k := ?_)
              refine g_get (M := mX10_round) (pc := 89) (ji := 2) (by rfl) fX3_2 kX10_197 dX10_round_89 (kk := fun hr89 => ?_)
              have hb89 := iv63_2 hI75 2 (by omega) (by omega)
              refine g_icmp_ge (M := mX10_round) (pc := 92) (tgt := 106) (by omega) (by omega) dX10_round_92 (k1 := fun h92 => ?_) (k2 := fun h92 => ?_)
              · skip
                refine g_bipush (M := mX10_round) (pc := 106) dX10_round_106 (k := ?_)
                refine g_iret (M := mX10_round) (pc := 108) rfl dX10_round_108 rfl ⟨_, _, rfl, rfl, ?_⟩
                refine ⟨?_, ?_⟩
                · exact hI75
                · exact hF75
              · skip
                refine g_aload (M := mX10_round) (pc := 95) dX10_round_95 rfl (k := ?_)
                refine g_getr (M := mX10_round) (pc := 97) (by rfl) fX3_0 kX10_200 dX10_round_97 (by rfl) (kk := ?_)
                refine g_iload (M := mX10_round) (pc := 100) dX10_round_100 rfl (k := ?_)
                refine g_iald (M := mX10_round) (pc := 102) (by rfl) (by omega) (by omega) dX10_round_102 (kk := fun hr102 => ?_)
                refine g_goto (M := mX10_round) (pc := 103) (tgt := 108) dX10_round_103 (k := ?_)
                refine g_iret (M := mX10_round) (pc := 108) rfl dX10_round_108 rfl ⟨_, _, rfl, rfl, ?_⟩
                refine ⟨?_, ?_⟩
                · exact hI75
                · exact hF75
          · skip
            refine g_bipush (M := mX10_round) (pc := 66) dX10_round_66 (k := ?_)
            refine g_iret (M := mX10_round) (pc := 68) rfl dX10_round_68 rfl ⟨_, _, rfl, rfl, ?_⟩
            refine ⟨?_, ?_⟩
            · exact hI
            · exact (Fr.rf)
      · skip
        refine g_iconst (M := mX10_round) (pc := 38) dX10_round_38 (k := ?_)
        refine g_iret (M := mX10_round) (pc := 39) rfl dX10_round_39 rfl ⟨_, _, rfl, rfl, ?_⟩
        refine ⟨?_, ?_⟩
        · exact hI
        · exact (Fr.rf)
set_option maxHeartbeats 4000000 in
set_option maxRecDepth 20000 in
theorem c_X10_keep (Γ : KT) (t : Nat) (σ : Nat → Int → Int) (h : Int) (f : Int) (hI : InvX σ) (hh : R32 h) (hf : R32 f) : Ct Γ mX10_keep 8 (0, 0) [vR Γ 0, vI h, vI f] (113, ρT t, σ) (pI 113 (ρT t) (fun r σ' => (InvX σ') ∧ (Fr scX σ σ'))) := by
  refine Ct.of rfl (Nat.le_of_ble_eq_true rfl) ?_
  show G Γ mX10_keep 8 (0, 0) _ (0, 0) 0 [some (vR Γ 0), some (vI h), some (vI f)] [] (113, ρT t, σ)
  refine g_aload_n (M := mX10_keep) (pc := 0) dX10_keep_0 rfl (k := ?_)
  refine g_getr (M := mX10_keep) (pc := 1) (by rfl) fX10_0 kX10_42 dX10_keep_1 (by rfl) (kk := ?_)
  refine g_iload_n (M := mX10_keep) (pc := 4) dX10_keep_4 rfl (k := ?_)
  refine g_cV1I (M := mX10_keep) (pc := 5) (c_X5_hasHouse Γ t _ _ (by omega)) qX5_hasHouse vX5_hasHouse sX5_hasHouse kX10_66 dX10_keep_5 (kk := ?_)
  rintro _ _ ⟨e1, e⟩; rw [e1, e]; clear e1 e
  have hb5_33 := iv33_0 hI 0 (by omega) (by omega)
  refine g_if_eqB (M := mX10_keep) (pc := 8) (tgt := 22) dX10_keep_8 (k1 := fun h8 => ?_) (k2 := fun h8 => ?_)
  · skip
    refine g_iconst (M := mX10_keep) (pc := 22) dX10_keep_22 (k := ?_)
    refine g_iret (M := mX10_keep) (pc := 23) rfl dX10_keep_23 rfl ⟨_, _, rfl, rfl, ?_⟩
    refine ⟨?_, ?_⟩
    · exact hI
    · exact (Fr.rf)
  · skip
    refine g_aload_n (M := mX10_keep) (pc := 11) dX10_keep_11 rfl (k := ?_)
    refine g_getr (M := mX10_keep) (pc := 12) (by rfl) fX10_0 kX10_42 dX10_keep_12 (by rfl) (kk := ?_)
    refine g_iload_n (M := mX10_keep) (pc := 15) dX10_keep_15 rfl (k := ?_)
    refine g_cV1I (M := mX10_keep) (pc := 16) (c_X5_hasFolk Γ t _ _ (by omega)) qX5_hasFolk vX5_hasFolk sX5_hasFolk kX10_90 dX10_keep_16 (kk := ?_)
    rintro _ _ ⟨e1, e⟩; rw [e1, e]; clear e1 e
    have hb16_33 := iv33_6 hI 6 (by omega) (by omega)
    refine g_if_neB (M := mX10_keep) (pc := 19) (tgt := 24) dX10_keep_19 (k1 := fun h19 => ?_) (k2 := fun h19 => ?_)
    · skip
      refine g_aload_n (M := mX10_keep) (pc := 24) dX10_keep_24 rfl (k := ?_)
      refine g_getr (M := mX10_keep) (pc := 25) (by rfl) fX10_5 kX10_54 dX10_keep_25 (by rfl) (kk := ?_)
      refine g_iload_n (M := mX10_keep) (pc := 28) dX10_keep_28 rfl (k := ?_)
      refine g_iload_n (M := mX10_keep) (pc := 29) dX10_keep_29 rfl (k := ?_)
      refine g_cV2I (M := mX10_keep) (pc := 30) (c_X2_leastGrain Γ t _ _ _ hI (by omega) (by omega)) qX2_leastGrain vX2_leastGrain sX2_leastGrain kX10_207 dX10_keep_30 (kk := ?_)
      rintro r30 τ30 ⟨hi30, hI30, hG30⟩
      have hF30 : Fr scX σ τ30 := by refine Fr.tr ?_ hG30; exact (Fr.rf)
      refine g_iret (M := mX10_keep) (pc := 33) rfl dX10_keep_33 rfl ⟨_, _, rfl, rfl, ?_⟩
      refine ⟨?_, ?_⟩
      · exact hI30
      · exact hF30
    · skip
      refine g_iconst (M := mX10_keep) (pc := 22) dX10_keep_22 (k := ?_)
      refine g_iret (M := mX10_keep) (pc := 23) rfl dX10_keep_23 rfl ⟨_, _, rfl, rfl, ?_⟩
      refine ⟨?_, ?_⟩
      · exact hI
      · exact (Fr.rf)
set_option maxHeartbeats 4000000 in
set_option maxRecDepth 20000 in
theorem c_X10_more (Γ : KT) (t : Nat) (σ : Nat → Int → Int) (n : Int) (w : Int) (hI : InvX σ) (hn : R32 n) (hw : R32 w) : Ct Γ mX10_more 9 (0, 0) [vR Γ 0, vI n, vI w] (113, ρT t, σ) (pI 113 (ρT t) (fun r σ' => (InvX σ') ∧ (Fr scX σ σ'))) := by
  refine Ct.of rfl (Nat.le_of_ble_eq_true rfl) ?_
  show G Γ mX10_more 9 (0, 0) _ (0, 0) 0 [some (vR Γ 0), some (vI n), some (vI w), none] [] (113, ρT t, σ)
  refine g_iload_n (M := mX10_more) (pc := 0) dX10_more_0 rfl (k := ?_)
  refine g_iconst (M := mX10_more) (pc := 1) dX10_more_1 (k := ?_)
  refine g_cS2I (M := mX10_more) (pc := 2) (c_X10_isUpTo Γ t _ _ _ (by omega) (by omega)) qX10_isUpTo vX10_isUpTo kX10_58 dX10_more_2 (kk := ?_)
  rintro _ _ ⟨e1, e⟩; rw [e1, e]; clear e1 e
  refine g_if_neB (M := mX10_more) (pc := 5) (tgt := 10) dX10_more_5 (k1 := fun h5 => ?_) (k2 := fun h5 => ?_)
  · skip
    refine g_iload_n (M := mX10_more) (pc := 10) dX10_more_10 rfl (k := ?_)
    refine g_bipush (M := mX10_more) (pc := 11) dX10_more_11 (k := ?_)
    refine g_cS2I (M := mX10_more) (pc := 13) (c_X10_isUpTo Γ t _ _ _ (by omega) (by omega)) qX10_isUpTo vX10_isUpTo kX10_58 dX10_more_13 (kk := ?_)
    rintro _ _ ⟨e1, e⟩; rw [e1, e]; clear e1 e
    refine g_if_neB (M := mX10_more) (pc := 16) (tgt := 22) dX10_more_16 (k1 := fun h16 => ?_) (k2 := fun h16 => ?_)
    · skip
      refine g_aload_n (M := mX10_more) (pc := 22) dX10_more_22 rfl (k := ?_)
      refine g_getr (M := mX10_more) (pc := 23) (by rfl) fX10_5 kX10_54 dX10_more_23 (by rfl) (kk := ?_)
      refine g_iload_n (M := mX10_more) (pc := 26) dX10_more_26 rfl (k := ?_)
      refine g_cV1I (M := mX10_more) (pc := 27) (c_X2_houseToStrew Γ t _ _ hI (by omega)) qX2_houseToStrew vX2_houseToStrew sX2_houseToStrew kX10_210 dX10_more_27 (kk := ?_)
      rintro r27 τ27 ⟨hi27, hI27, hG27⟩
      have hF27 : Fr scX σ τ27 := by refine Fr.tr ?_ hG27; exact (Fr.rf)
      refine g_istore_3 (M := mX10_more) (pc := 30) dX10_more_30 (k := ?_)
      refine g_iload_n (M := mX10_more) (pc := 31) dX10_more_31 rfl (k := ?_)
      refine g_bipush (M := mX10_more) (pc := 32) dX10_more_32 (k := ?_)
      refine g_icmp_eq (M := mX10_more) (pc := 34) (tgt := 41) (by omega) (by omega) dX10_more_34 (k1 := fun h34 => ?_) (k2 := fun h34 => ?_)
      · skip
        refine g_iload_n (M := mX10_more) (pc := 41) dX10_more_41 rfl (k := ?_)
        refine g_iret (M := mX10_more) (pc := 42) rfl dX10_more_42 rfl ⟨_, _, rfl, rfl, ?_⟩
        refine ⟨?_, ?_⟩
        · exact hI27
        · exact hF27
      · skip
        refine g_iload_n (M := mX10_more) (pc := 37) dX10_more_37 rfl (k := ?_)
        refine g_if_ne (M := mX10_more) (pc := 38) (tgt := 43) (by omega) dX10_more_38 (k1 := fun h38 => ?_) (k2 := fun h38 => ?_)
        · skip
          refine g_aload_n (M := mX10_more) (pc := 43) dX10_more_43 rfl (k := ?_)
          refine g_getr (M := mX10_more) (pc := 44) (by rfl) fX10_5 kX10_54 dX10_more_44 (by rfl) (kk := ?_)
          refine g_iload_n (M := mX10_more) (pc := 47) dX10_more_47 rfl (k := ?_)
          refine g_iload_n (M := mX10_more) (pc := 48) dX10_more_48 rfl (k := ?_)
          refine g_cV2I (M := mX10_more) (pc := 49) (c_X2_pairsAfter Γ t _ _ _ hI27 (by omega) (by omega)) qX2_pairsAfter vX2_pairsAfter sX2_pairsAfter kX10_213 dX10_more_49 (kk := ?_)
          rintro r49 τ49 ⟨hi49, hI49, hG49⟩
          have hF49 : Fr scX σ τ49 := by refine Fr.tr ?_ hG49; exact hF27
          refine g_iret (M := mX10_more) (pc := 52) rfl dX10_more_52 rfl ⟨_, _, rfl, rfl, ?_⟩
          refine ⟨?_, ?_⟩
          · exact hI49
          · exact hF49
        · skip
          refine g_iload_n (M := mX10_more) (pc := 41) dX10_more_41 rfl (k := ?_)
          refine g_iret (M := mX10_more) (pc := 42) rfl dX10_more_42 rfl ⟨_, _, rfl, rfl, ?_⟩
          refine ⟨?_, ?_⟩
          · exact hI27
          · exact hF27
    · skip
      refine g_bipush (M := mX10_more) (pc := 19) dX10_more_19 (k := ?_)
      refine g_iret (M := mX10_more) (pc := 21) rfl dX10_more_21 rfl ⟨_, _, rfl, rfl, ?_⟩
      refine ⟨?_, ?_⟩
      · exact hI
      · exact (Fr.rf)
  · skip
    refine g_iconst (M := mX10_more) (pc := 8) dX10_more_8 (k := ?_)
    refine g_iret (M := mX10_more) (pc := 9) rfl dX10_more_9 rfl ⟨_, _, rfl, rfl, ?_⟩
    refine ⟨?_, ?_⟩
    · exact hI
    · exact (Fr.rf)
set_option maxHeartbeats 4000000 in
set_option maxRecDepth 20000 in
theorem c_X10_share (Γ : KT) (t : Nat) (σ : Nat → Int → Int) (a : Int) (b : Int) (h : Int) (w : Int) (hI : InvX σ) (ha : R32 a) (hb : R32 b) (hh : R32 h) (hw : R32 w) : Ct Γ mX10_share 6 (0, 0) [vR Γ 0, vI a, vI b, vI h, vI w] (113, ρT t, σ) (pI 113 (ρT t) (fun r σ' => (InvX σ') ∧ (Fr scX σ σ'))) := by
  refine Ct.of rfl (Nat.le_of_ble_eq_true rfl) ?_
  show G Γ mX10_share 6 (0, 0) _ (0, 0) 0 [some (vR Γ 0), some (vI a), some (vI b), some (vI h), some (vI w), none, none, none] [] (113, ρT t, σ)
  refine g_aload_n (M := mX10_share) (pc := 0) dX10_share_0 rfl (k := ?_)
  refine g_getr (M := mX10_share) (pc := 1) (by rfl) fX10_0 kX10_42 dX10_share_1 (by rfl) (kk := ?_)
  refine g_iload_n (M := mX10_share) (pc := 4) dX10_share_4 rfl (k := ?_)
  refine g_cV1I (M := mX10_share) (pc := 5) (c_X5_hasFolk Γ t _ _ (by omega)) qX5_hasFolk vX5_hasFolk sX5_hasFolk kX10_90 dX10_share_5 (kk := ?_)
  rintro _ _ ⟨e1, e⟩; rw [e1, e]; clear e1 e
  have hb5_33 := iv33_6 hI 6 (by omega) (by omega)
  refine g_if_eqB (M := mX10_share) (pc := 8) (tgt := 42) dX10_share_8 (k1 := fun h8 => ?_) (k2 := fun h8 => ?_)
  · skip
    refine g_iconst (M := mX10_share) (pc := 42) dX10_share_42 (k := ?_)
    refine g_iret (M := mX10_share) (pc := 43) rfl dX10_share_43 rfl ⟨_, _, rfl, rfl, ?_⟩
    refine ⟨?_, ?_⟩
    · exact hI
    · exact (Fr.rf)
  · skip
    refine g_aload_n (M := mX10_share) (pc := 11) dX10_share_11 rfl (k := ?_)
    refine g_getr (M := mX10_share) (pc := 12) (by rfl) fX10_0 kX10_42 dX10_share_12 (by rfl) (kk := ?_)
    refine g_iload_n (M := mX10_share) (pc := 15) dX10_share_15 rfl (k := ?_)
    refine g_cV1I (M := mX10_share) (pc := 16) (c_X5_hasFolk Γ t _ _ (by omega)) qX5_hasFolk vX5_hasFolk sX5_hasFolk kX10_90 dX10_share_16 (kk := ?_)
    rintro _ _ ⟨e1, e⟩; rw [e1, e]; clear e1 e
    refine g_if_eqB (M := mX10_share) (pc := 19) (tgt := 42) dX10_share_19 (k1 := fun h19 => ?_) (k2 := fun h19 => ?_)
    · skip
      refine g_iconst (M := mX10_share) (pc := 42) dX10_share_42 (k := ?_)
      refine g_iret (M := mX10_share) (pc := 43) rfl dX10_share_43 rfl ⟨_, _, rfl, rfl, ?_⟩
      refine ⟨?_, ?_⟩
      · exact hI
      · exact (Fr.rf)
    · skip
      refine g_aload_n (M := mX10_share) (pc := 22) dX10_share_22 rfl (k := ?_)
      refine g_getr (M := mX10_share) (pc := 23) (by rfl) fX10_0 kX10_42 dX10_share_23 (by rfl) (kk := ?_)
      refine g_iload_n (M := mX10_share) (pc := 26) dX10_share_26 rfl (k := ?_)
      refine g_cV1I (M := mX10_share) (pc := 27) (c_X5_hasHouse Γ t _ _ (by omega)) qX5_hasHouse vX5_hasHouse sX5_hasHouse kX10_66 dX10_share_27 (kk := ?_)
      rintro _ _ ⟨e1, e⟩; rw [e1, e]; clear e1 e
      have hb27_33 := iv33_0 hI 0 (by omega) (by omega)
      refine g_if_eqB (M := mX10_share) (pc := 30) (tgt := 42) dX10_share_30 (k1 := fun h30 => ?_) (k2 := fun h30 => ?_)
      · skip
        refine g_iconst (M := mX10_share) (pc := 42) dX10_share_42 (k := ?_)
        refine g_iret (M := mX10_share) (pc := 43) rfl dX10_share_43 rfl ⟨_, _, rfl, rfl, ?_⟩
        refine ⟨?_, ?_⟩
        · exact hI
        · exact (Fr.rf)
      · skip
        refine g_iload (M := mX10_share) (pc := 33) dX10_share_33 rfl (k := ?_)
        refine g_iconst (M := mX10_share) (pc := 35) dX10_share_35 (k := ?_)
        refine g_cS2I (M := mX10_share) (pc := 36) (c_X10_isUpTo Γ t _ _ _ (by omega) (by omega)) qX10_isUpTo vX10_isUpTo kX10_58 dX10_share_36 (kk := ?_)
        rintro _ _ ⟨e1, e⟩; rw [e1, e]; clear e1 e
        refine g_if_neB (M := mX10_share) (pc := 39) (tgt := 44) dX10_share_39 (k1 := fun h39 => ?_) (k2 := fun h39 => ?_)
        · skip
          refine g_iload_n (M := mX10_share) (pc := 44) dX10_share_44 rfl (k := ?_)
          refine g_iload_n (M := mX10_share) (pc := 45) dX10_share_45 rfl (k := ?_)
          refine g_icmp_ne (M := mX10_share) (pc := 46) (tgt := 52) (by omega) (by omega) dX10_share_46 (k1 := fun h46 => ?_) (k2 := fun h46 => ?_)
          · skip
            refine g_aload_n (M := mX10_share) (pc := 52) dX10_share_52 rfl (k := ?_)
            refine g_getr (M := mX10_share) (pc := 53) (by rfl) fX10_5 kX10_54 dX10_share_53 (by rfl) (kk := ?_)
            refine g_iload_n (M := mX10_share) (pc := 56) dX10_share_56 rfl (k := ?_)
            refine g_iload_n (M := mX10_share) (pc := 57) dX10_share_57 rfl (k := ?_)
            refine g_iload_n (M := mX10_share) (pc := 58) dX10_share_58 rfl (k := ?_)
            refine g_cV3I (M := mX10_share) (pc := 59) (c_X2_doneTogether Γ t _ _ _ _ hI (by omega) (by omega) (by omega)) qX2_doneTogether vX2_doneTogether sX2_doneTogether kX10_216 dX10_share_59 (kk := ?_)
            rintro r59 τ59 ⟨hi59, hI59, hG59⟩
            have hF59 : Fr scX σ τ59 := by refine Fr.tr ?_ (Fr.mono hG59 sb_scT_scX); exact (Fr.rf)
            refine g_istore_5 (M := mX10_share) (pc := 62) dX10_share_62 (k := ?_)
            refine g_iload (M := mX10_share) (pc := 64) dX10_share_64 rfl (k := ?_)
            refine g_if_ne (M := mX10_share) (pc := 66) (tgt := 72) (by omega) dX10_share_66 (k1 := fun h66 => ?_) (k2 := fun h66 => ?_)
            · skip
              refine g_aload_n (M := mX10_share) (pc := 72) dX10_share_72 rfl (k := ?_)
              refine g_getr (M := mX10_share) (pc := 73) (by rfl) fX10_5 kX10_54 dX10_share_73 (by rfl) (kk := ?_)
              refine g_getr (M := mX10_share) (pc := 76) (by rfl) fX2_2 kX10_156 dX10_share_76 (by rfl) (kk := ?_)
              refine g_iload_n (M := mX10_share) (pc := 79) dX10_share_79 rfl (k := ?_)
              refine g_iload_n (M := mX10_share) (pc := 80) dX10_share_80 rfl (k := ?_)
              refine g_iload (M := mX10_share) (pc := 81) dX10_share_81 rfl (k := ?_)
              refine g_cV3I (M := mX10_share) (pc := 83) (c_X1_isLetIn Γ t _ _ _ _ hI59 (by omega) (by omega) (by omega)) qX1_isLetIn vX1_isLetIn sX1_isLetIn kX10_219 dX10_share_83 (kk := ?_)
              rintro r83 τ83 ⟨hi83, hI83, hG83⟩
              have hF83 : Fr scX σ τ83 := by refine Fr.tr ?_ hG83; exact hF59
              refine g_istore_6 (M := mX10_share) (pc := 86) dX10_share_86 (k := ?_)
              refine g_aload_n (M := mX10_share) (pc := 88) dX10_share_88 rfl (k := ?_)
              refine g_getr (M := mX10_share) (pc := 89) (by rfl) fX10_5 kX10_54 dX10_share_89 (by rfl) (kk := ?_)
              refine g_getr (M := mX10_share) (pc := 92) (by rfl) fX2_2 kX10_156 dX10_share_92 (by rfl) (kk := ?_)
              refine g_iload_n (M := mX10_share) (pc := 95) dX10_share_95 rfl (k := ?_)
              refine g_iload_n (M := mX10_share) (pc := 96) dX10_share_96 rfl (k := ?_)
              refine g_iload (M := mX10_share) (pc := 97) dX10_share_97 rfl (k := ?_)
              refine g_cV3I (M := mX10_share) (pc := 99) (c_X1_isLetIn Γ t _ _ _ _ hI83 (by omega) (by omega) (by omega)) qX1_isLetIn vX1_isLetIn sX1_isLetIn kX10_219 dX10_share_99 (kk := ?_)
              rintro r99 τ99 ⟨hi99, hI99, hG99⟩
              have hF99 : Fr scX σ τ99 := by refine Fr.tr ?_ hG99; exact hF83
              refine g_istore_7 (M := mX10_share) (pc := 102) dX10_share_102 (k := ?_)
              refine g_iload (M := mX10_share) (pc := 104) dX10_share_104 rfl (k := ?_)
              refine g_if_eq (M := mX10_share) (pc := 106) (tgt := 113) (by omega) dX10_share_106 (k1 := fun h106 => ?_) (k2 := fun h106 => ?_)
              · skip
                refine g_iconst (M := mX10_share) (pc := 113) dX10_share_113 (k := ?_)
                refine g_iload (M := mX10_share) (pc := 114) dX10_share_114 rfl (k := ?_)
                refine g_if_eq (M := mX10_share) (pc := 116) (tgt := 123) (by omega) dX10_share_116 (k1 := fun h116 => ?_) (k2 := fun h116 => ?_)
                · skip
                  refine g_iconst (M := mX10_share) (pc := 123) dX10_share_123 (k := ?_)
                  refine g_iadd (M := mX10_share) (pc := 124) dX10_share_124 (k := ?_)
                  refine g_iret (M := mX10_share) (pc := 125) rfl dX10_share_125 rfl ⟨_, _, rfl, rfl, ?_⟩
                  refine ⟨?_, ?_⟩
                  · exact hI99
                  · exact hF99
                · skip
                  refine g_iconst (M := mX10_share) (pc := 119) dX10_share_119 (k := ?_)
                  refine g_goto (M := mX10_share) (pc := 120) (tgt := 124) dX10_share_120 (k := ?_)
                  refine g_iadd (M := mX10_share) (pc := 124) dX10_share_124 (k := ?_)
                  refine g_iret (M := mX10_share) (pc := 125) rfl dX10_share_125 rfl ⟨_, _, rfl, rfl, ?_⟩
                  refine ⟨?_, ?_⟩
                  · exact hI99
                  · exact hF99
              · skip
                refine g_iconst (M := mX10_share) (pc := 109) dX10_share_109 (k := ?_)
                refine g_goto (M := mX10_share) (pc := 110) (tgt := 114) dX10_share_110 (k := ?_)
                refine g_iload (M := mX10_share) (pc := 114) dX10_share_114 rfl (k := ?_)
                refine g_if_eq (M := mX10_share) (pc := 116) (tgt := 123) (by omega) dX10_share_116 (k1 := fun h116 => ?_) (k2 := fun h116 => ?_)
                · skip
                  refine g_iconst (M := mX10_share) (pc := 123) dX10_share_123 (k := ?_)
                  refine g_iadd (M := mX10_share) (pc := 124) dX10_share_124 (k := ?_)
                  refine g_iret (M := mX10_share) (pc := 125) rfl dX10_share_125 rfl ⟨_, _, rfl, rfl, ?_⟩
                  refine ⟨?_, ?_⟩
                  · exact hI99
                  · exact hF99
                · skip
                  refine g_iconst (M := mX10_share) (pc := 119) dX10_share_119 (k := ?_)
                  refine g_goto (M := mX10_share) (pc := 120) (tgt := 124) dX10_share_120 (k := ?_)
                  refine g_iadd (M := mX10_share) (pc := 124) dX10_share_124 (k := ?_)
                  refine g_iret (M := mX10_share) (pc := 125) rfl dX10_share_125 rfl ⟨_, _, rfl, rfl, ?_⟩
                  refine ⟨?_, ?_⟩
                  · exact hI99
                  · exact hF99
            · skip
              refine g_iload (M := mX10_share) (pc := 69) dX10_share_69 rfl (k := ?_)
              refine g_iret (M := mX10_share) (pc := 71) rfl dX10_share_71 rfl ⟨_, _, rfl, rfl, ?_⟩
              refine ⟨?_, ?_⟩
              · exact hI59
              · exact hF59
          · skip
            refine g_bipush (M := mX10_share) (pc := 49) dX10_share_49 (k := ?_)
            refine g_iret (M := mX10_share) (pc := 51) rfl dX10_share_51 rfl ⟨_, _, rfl, rfl, ?_⟩
            refine ⟨?_, ?_⟩
            · exact hI
            · exact (Fr.rf)
        · skip
          refine g_iconst (M := mX10_share) (pc := 42) dX10_share_42 (k := ?_)
          refine g_iret (M := mX10_share) (pc := 43) rfl dX10_share_43 rfl ⟨_, _, rfl, rfl, ?_⟩
          refine ⟨?_, ?_⟩
          · exact hI
          · exact (Fr.rf)
set_option maxHeartbeats 4000000 in
set_option maxRecDepth 20000 in
theorem c_X10_watch (Γ : KT) (t : Nat) (σ : Nat → Int → Int) (h : Int) (z : Int) (hI : InvX σ) (hh : R32 h) (hz : R32 z) (hz01 : 0 ≤ z ∧ z ≤ 1) : Ct Γ mX10_watch 2 (0, 0) [vR Γ 0, vI h, vI z] (113, ρT t, σ) (pI 113 (ρT t) (fun r σ' => (R32 r) ∧ (watchX σ h z r σ') ∧ (InvX σ') ∧ (Fr scCn σ σ'))) := by
  refine Ct.of rfl (Nat.le_of_ble_eq_true rfl) ?_
  show G Γ mX10_watch 2 (0, 0) _ (0, 0) 0 [some (vR Γ 0), some (vI h), some (vI z)] [] (113, ρT t, σ)
  refine g_iload_n (M := mX10_watch) (pc := 0) dX10_watch_0 rfl (k := ?_)
  refine g_iconst (M := mX10_watch) (pc := 1) dX10_watch_1 (k := ?_)
  refine g_icmp_ne (M := mX10_watch) (pc := 2) (tgt := 16) (by omega) (by omega) dX10_watch_2 (k1 := fun h2 => ?_) (k2 := fun h2 => ?_)
  · skip
    refine g_aload_n (M := mX10_watch) (pc := 16) dX10_watch_16 rfl (k := ?_)
    refine g_getr (M := mX10_watch) (pc := 17) (by rfl) fX10_0 kX10_42 dX10_watch_17 (by rfl) (kk := ?_)
    refine g_iload_n (M := mX10_watch) (pc := 20) dX10_watch_20 rfl (k := ?_)
    refine g_cV1I (M := mX10_watch) (pc := 21) (c_X5_hasHouse Γ t _ _ (by omega)) qX5_hasHouse vX5_hasHouse sX5_hasHouse kX10_66 dX10_watch_21 (kk := ?_)
    rintro _ _ ⟨e1, e⟩; rw [e1, e]; clear e1 e
    have hb21_33 := iv33_0 hI 0 (by omega) (by omega)
    refine g_if_neB (M := mX10_watch) (pc := 24) (tgt := 29) dX10_watch_24 (k1 := fun h24 => ?_) (k2 := fun h24 => ?_)
    · skip
      refine g_aload_n (M := mX10_watch) (pc := 29) dX10_watch_29 rfl (k := ?_)
      refine g_getr (M := mX10_watch) (pc := 30) (by rfl) fX10_0 kX10_42 dX10_watch_30 (by rfl) (kk := ?_)
      refine g_getr (M := mX10_watch) (pc := 33) (by rfl) fX5_11 kX10_222 dX10_watch_33 (by rfl) (kk := ?_)
      refine g_iload_n (M := mX10_watch) (pc := 36) dX10_watch_36 rfl (k := ?_)
      refine g_iload_n (M := mX10_watch) (pc := 37) dX10_watch_37 rfl (k := ?_)
      refine g_if_eq (M := mX10_watch) (pc := 38) (tgt := 45) (by omega) dX10_watch_38 (k1 := fun h38 => ?_) (k2 := fun h38 => ?_)
      · skip
        refine g_iconst (M := mX10_watch) (pc := 45) dX10_watch_45 (k := ?_)
        refine g_cV2I (M := mX10_watch) (pc := 46) (c_X4_add_45 Γ t _ _ _ hI (by omega) (by omega)) qX4_add vX4_add sX4_add kX10_178 dX10_watch_46 (kk := ?_)
        rintro r46 τ46 ⟨hi46, hx46, hI46, hG46⟩
        have hF46 : Fr scCn σ τ46 := by refine Fr.tr ?_ (Fr.mono hG46 sb_scC45_scCn); exact (Fr.rf)
        refine g_iret (M := mX10_watch) (pc := 49) rfl dX10_watch_49 rfl ⟨_, _, rfl, rfl, ?_⟩
        refine ⟨?_, ?_, ?_, ?_⟩
        · omega
        · unfold watchX; first | exact Or.inl ⟨by first | omega | (refine ⟨by omega, by omega, ?_⟩; assumption), by first | rfl | omega, by first | rfl | (rw [show n = 1 by omega]; done) | (rw [show n = 0 by omega]; done) | (rw [show z = 1 by omega]; done) | (rw [show z = 0 by omega]; done) | (unfold zwith; first | rw [if_pos (by omega)] | rw [if_neg (by omega)])⟩ | exact Or.inr (Or.inl ⟨by first | omega | (refine ⟨by omega, by omega, ?_⟩; assumption), by first | rfl | omega, by first | rfl | (rw [show n = 1 by omega]; done) | (rw [show n = 0 by omega]; done) | (rw [show z = 1 by omega]; done) | (rw [show z = 0 by omega]; done) | (unfold zwith; first | rw [if_pos (by omega)] | rw [if_neg (by omega)])⟩) | exact Or.inr (Or.inr (Or.inl ⟨by first | omega | (refine ⟨by omega, by omega, ?_⟩; assumption), by first | rfl | omega, by first | rfl | (rw [show n = 1 by omega]; done) | (rw [show n = 0 by omega]; done) | (rw [show z = 1 by omega]; done) | (rw [show z = 0 by omega]; done) | (unfold zwith; first | rw [if_pos (by omega)] | rw [if_neg (by omega)])⟩)) | exact Or.inr (Or.inr (Or.inr (⟨by first | omega | (refine ⟨by omega, by omega, ?_⟩; assumption), by first | rfl | omega, by first | rfl | (rw [show n = 1 by omega]; done) | (rw [show n = 0 by omega]; done) | (rw [show z = 1 by omega]; done) | (rw [show z = 0 by omega]; done) | (unfold zwith; first | rw [if_pos (by omega)] | rw [if_neg (by omega)])⟩))) | (rcases hx46 with ⟨a, b, e⟩ | ⟨a, b, e⟩ <;> first | exact Or.inl ⟨by omega, by omega, by first | exact e | (rw [show z = 1 by omega]; exact e) | (rw [show z = 0 by omega]; exact e)⟩ | exact Or.inr (Or.inl ⟨by omega, by omega, by first | exact e | (rw [show z = 1 by omega]; exact e) | (rw [show z = 0 by omega]; exact e)⟩) | exact Or.inr (Or.inr (Or.inl ⟨by omega, by omega, by first | exact e | (rw [show z = 1 by omega]; exact e) | (rw [show z = 0 by omega]; exact e)⟩)) | exact Or.inr (Or.inr (Or.inr (⟨by omega, by omega, by first | exact e | (rw [show z = 1 by omega]; exact e) | (rw [show z = 0 by omega]; exact e)⟩))))
        · exact hI46
        · exact hF46
      · skip
        refine g_iconst (M := mX10_watch) (pc := 41) dX10_watch_41 (k := ?_)
        refine g_goto (M := mX10_watch) (pc := 42) (tgt := 46) dX10_watch_42 (k := ?_)
        refine g_cV2I (M := mX10_watch) (pc := 46) (c_X4_add_45 Γ t _ _ _ hI (by omega) (by omega)) qX4_add vX4_add sX4_add kX10_178 dX10_watch_46 (kk := ?_)
        rintro r46 τ46 ⟨hi46, hx46, hI46, hG46⟩
        have hF46 : Fr scCn σ τ46 := by refine Fr.tr ?_ (Fr.mono hG46 sb_scC45_scCn); exact (Fr.rf)
        refine g_iret (M := mX10_watch) (pc := 49) rfl dX10_watch_49 rfl ⟨_, _, rfl, rfl, ?_⟩
        refine ⟨?_, ?_, ?_, ?_⟩
        · omega
        · unfold watchX; first | exact Or.inl ⟨by first | omega | (refine ⟨by omega, by omega, ?_⟩; assumption), by first | rfl | omega, by first | rfl | (rw [show n = 1 by omega]; done) | (rw [show n = 0 by omega]; done) | (rw [show z = 1 by omega]; done) | (rw [show z = 0 by omega]; done) | (unfold zwith; first | rw [if_pos (by omega)] | rw [if_neg (by omega)])⟩ | exact Or.inr (Or.inl ⟨by first | omega | (refine ⟨by omega, by omega, ?_⟩; assumption), by first | rfl | omega, by first | rfl | (rw [show n = 1 by omega]; done) | (rw [show n = 0 by omega]; done) | (rw [show z = 1 by omega]; done) | (rw [show z = 0 by omega]; done) | (unfold zwith; first | rw [if_pos (by omega)] | rw [if_neg (by omega)])⟩) | exact Or.inr (Or.inr (Or.inl ⟨by first | omega | (refine ⟨by omega, by omega, ?_⟩; assumption), by first | rfl | omega, by first | rfl | (rw [show n = 1 by omega]; done) | (rw [show n = 0 by omega]; done) | (rw [show z = 1 by omega]; done) | (rw [show z = 0 by omega]; done) | (unfold zwith; first | rw [if_pos (by omega)] | rw [if_neg (by omega)])⟩)) | exact Or.inr (Or.inr (Or.inr (⟨by first | omega | (refine ⟨by omega, by omega, ?_⟩; assumption), by first | rfl | omega, by first | rfl | (rw [show n = 1 by omega]; done) | (rw [show n = 0 by omega]; done) | (rw [show z = 1 by omega]; done) | (rw [show z = 0 by omega]; done) | (unfold zwith; first | rw [if_pos (by omega)] | rw [if_neg (by omega)])⟩))) | (rcases hx46 with ⟨a, b, e⟩ | ⟨a, b, e⟩ <;> first | exact Or.inl ⟨by omega, by omega, by first | exact e | (rw [show z = 1 by omega]; exact e) | (rw [show z = 0 by omega]; exact e)⟩ | exact Or.inr (Or.inl ⟨by omega, by omega, by first | exact e | (rw [show z = 1 by omega]; exact e) | (rw [show z = 0 by omega]; exact e)⟩) | exact Or.inr (Or.inr (Or.inl ⟨by omega, by omega, by first | exact e | (rw [show z = 1 by omega]; exact e) | (rw [show z = 0 by omega]; exact e)⟩)) | exact Or.inr (Or.inr (Or.inr (⟨by omega, by omega, by first | exact e | (rw [show z = 1 by omega]; exact e) | (rw [show z = 0 by omega]; exact e)⟩))))
        · exact hI46
        · exact hF46
    · skip
      refine g_iconst (M := mX10_watch) (pc := 27) dX10_watch_27 (k := ?_)
      refine g_iret (M := mX10_watch) (pc := 28) rfl dX10_watch_28 rfl ⟨_, _, rfl, rfl, ?_⟩
      refine ⟨?_, ?_, ?_, ?_⟩
      · omega
      · unfold watchX; first | exact Or.inl ⟨by first | omega | (refine ⟨by omega, by omega, ?_⟩; assumption), by first | rfl | omega, by first | rfl | (rw [show n = 1 by omega]; done) | (rw [show n = 0 by omega]; done) | (rw [show z = 1 by omega]; done) | (rw [show z = 0 by omega]; done) | (unfold zwith; first | rw [if_pos (by omega)] | rw [if_neg (by omega)])⟩ | exact Or.inr (Or.inl ⟨by first | omega | (refine ⟨by omega, by omega, ?_⟩; assumption), by first | rfl | omega, by first | rfl | (rw [show n = 1 by omega]; done) | (rw [show n = 0 by omega]; done) | (rw [show z = 1 by omega]; done) | (rw [show z = 0 by omega]; done) | (unfold zwith; first | rw [if_pos (by omega)] | rw [if_neg (by omega)])⟩) | exact Or.inr (Or.inr (Or.inl ⟨by first | omega | (refine ⟨by omega, by omega, ?_⟩; assumption), by first | rfl | omega, by first | rfl | (rw [show n = 1 by omega]; done) | (rw [show n = 0 by omega]; done) | (rw [show z = 1 by omega]; done) | (rw [show z = 0 by omega]; done) | (unfold zwith; first | rw [if_pos (by omega)] | rw [if_neg (by omega)])⟩)) | exact Or.inr (Or.inr (Or.inr (⟨by first | omega | (refine ⟨by omega, by omega, ?_⟩; assumption), by first | rfl | omega, by first | rfl | (rw [show n = 1 by omega]; done) | (rw [show n = 0 by omega]; done) | (rw [show z = 1 by omega]; done) | (rw [show z = 0 by omega]; done) | (unfold zwith; first | rw [if_pos (by omega)] | rw [if_neg (by omega)])⟩))) | (rcases hx46 with ⟨a, b, e⟩ | ⟨a, b, e⟩ <;> first | exact Or.inl ⟨by omega, by omega, by first | exact e | (rw [show z = 1 by omega]; exact e) | (rw [show z = 0 by omega]; exact e)⟩ | exact Or.inr (Or.inl ⟨by omega, by omega, by first | exact e | (rw [show z = 1 by omega]; exact e) | (rw [show z = 0 by omega]; exact e)⟩) | exact Or.inr (Or.inr (Or.inl ⟨by omega, by omega, by first | exact e | (rw [show z = 1 by omega]; exact e) | (rw [show z = 0 by omega]; exact e)⟩)) | exact Or.inr (Or.inr (Or.inr (⟨by omega, by omega, by first | exact e | (rw [show z = 1 by omega]; exact e) | (rw [show z = 0 by omega]; exact e)⟩))))
      · exact hI
      · exact (Fr.rf)
  · skip
    refine g_aload_n (M := mX10_watch) (pc := 5) dX10_watch_5 rfl (k := ?_)
    refine g_getr (M := mX10_watch) (pc := 6) (by rfl) fX10_0 kX10_42 dX10_watch_6 (by rfl) (kk := ?_)
    refine g_getr (M := mX10_watch) (pc := 9) (by rfl) fX5_11 kX10_222 dX10_watch_9 (by rfl) (kk := ?_)
    refine g_cV0I (M := mX10_watch) (pc := 12) (c_X4_empty_45 Γ t _) qX4_empty vX4_empty sX4_empty kX10_172 dX10_watch_12 (kk := ?_)
    rintro _ _ ⟨e1, e⟩; rw [e1, e]; clear e1 e
    refine g_iret (M := mX10_watch) (pc := 15) rfl dX10_watch_15 rfl ⟨_, _, rfl, rfl, ?_⟩
    refine ⟨?_, ?_, ?_, ?_⟩
    · omega
    · unfold watchX; first | exact Or.inl ⟨by first | omega | (refine ⟨by omega, by omega, ?_⟩; assumption), by first | rfl | omega, by first | rfl | (rw [show n = 1 by omega]; done) | (rw [show n = 0 by omega]; done) | (rw [show z = 1 by omega]; done) | (rw [show z = 0 by omega]; done) | (unfold zwith; first | rw [if_pos (by omega)] | rw [if_neg (by omega)])⟩ | exact Or.inr (Or.inl ⟨by first | omega | (refine ⟨by omega, by omega, ?_⟩; assumption), by first | rfl | omega, by first | rfl | (rw [show n = 1 by omega]; done) | (rw [show n = 0 by omega]; done) | (rw [show z = 1 by omega]; done) | (rw [show z = 0 by omega]; done) | (unfold zwith; first | rw [if_pos (by omega)] | rw [if_neg (by omega)])⟩) | exact Or.inr (Or.inr (Or.inl ⟨by first | omega | (refine ⟨by omega, by omega, ?_⟩; assumption), by first | rfl | omega, by first | rfl | (rw [show n = 1 by omega]; done) | (rw [show n = 0 by omega]; done) | (rw [show z = 1 by omega]; done) | (rw [show z = 0 by omega]; done) | (unfold zwith; first | rw [if_pos (by omega)] | rw [if_neg (by omega)])⟩)) | exact Or.inr (Or.inr (Or.inr (⟨by first | omega | (refine ⟨by omega, by omega, ?_⟩; assumption), by first | rfl | omega, by first | rfl | (rw [show n = 1 by omega]; done) | (rw [show n = 0 by omega]; done) | (rw [show z = 1 by omega]; done) | (rw [show z = 0 by omega]; done) | (unfold zwith; first | rw [if_pos (by omega)] | rw [if_neg (by omega)])⟩))) | (rcases hx46 with ⟨a, b, e⟩ | ⟨a, b, e⟩ <;> first | exact Or.inl ⟨by omega, by omega, by first | exact e | (rw [show z = 1 by omega]; exact e) | (rw [show z = 0 by omega]; exact e)⟩ | exact Or.inr (Or.inl ⟨by omega, by omega, by first | exact e | (rw [show z = 1 by omega]; exact e) | (rw [show z = 0 by omega]; exact e)⟩) | exact Or.inr (Or.inr (Or.inl ⟨by omega, by omega, by first | exact e | (rw [show z = 1 by omega]; exact e) | (rw [show z = 0 by omega]; exact e)⟩)) | exact Or.inr (Or.inr (Or.inr (⟨by omega, by omega, by first | exact e | (rw [show z = 1 by omega]; exact e) | (rw [show z = 0 by omega]; exact e)⟩))))
    · refine ivu45 ?_ (by omega) (by omega); exact hI
    · refine Fr.up ?_ (by first | rfl | (unfold scCn; simp; try omega)); exact (Fr.rf)
set_option maxHeartbeats 4000000 in
set_option maxRecDepth 20000 in
theorem c_X10_suspects (Γ : KT) (t : Nat) (σ : Nat → Int → Int)  (hI : InvX σ) : Ct Γ mX10_suspects 8 (0, 0) [vR Γ 0] (113, ρT t, σ) (pI 113 (ρT t) (fun r σ' => (InvX σ') ∧ (Fr scX σ σ'))) := by
  refine Ct.of rfl (Nat.le_of_ble_eq_true rfl) ?_
  show G Γ mX10_suspects 8 (0, 0) _ (0, 0) 0 [some (vR Γ 0)] [] (113, ρT t, σ)
  refine g_aload_n (M := mX10_suspects) (pc := 0) dX10_suspects_0 rfl (k := ?_)
  refine g_getr (M := mX10_suspects) (pc := 1) (by rfl) fX10_5 kX10_54 dX10_suspects_1 (by rfl) (kk := ?_)
  refine g_cV0I (M := mX10_suspects) (pc := 4) (c_X2_whoBits Γ t _ hI) qX2_whoBits vX2_whoBits sX2_whoBits kX10_225 dX10_suspects_4 (kk := ?_)
  rintro r4 τ4 ⟨hi4, hI4, hG4⟩
  have hF4 : Fr scX σ τ4 := by refine Fr.tr ?_ hG4; exact (Fr.rf)
  refine g_iret (M := mX10_suspects) (pc := 7) rfl dX10_suspects_7 rfl ⟨_, _, rfl, rfl, ?_⟩
  refine ⟨?_, ?_⟩
  · exact hI4
  · exact hF4
set_option maxHeartbeats 4000000 in
set_option maxRecDepth 20000 in
theorem c_X10_next (Γ : KT) (t : Nat) (σ : Nat → Int → Int)  (hI : InvX σ) : Ct Γ mX10_next 9 (0, 0) [vR Γ 0] (113, ρT t, σ) (pI 113 (ρT t) (fun r σ' => (InvX σ') ∧ (Fr scX σ σ'))) := by
  refine Ct.of rfl (Nat.le_of_ble_eq_true rfl) ?_
  show G Γ mX10_next 9 (0, 0) _ (0, 0) 0 [some (vR Γ 0)] [] (113, ρT t, σ)
  refine g_aload_n (M := mX10_next) (pc := 0) dX10_next_0 rfl (k := ?_)
  refine g_getr (M := mX10_next) (pc := 1) (by rfl) fX10_5 kX10_54 dX10_next_1 (by rfl) (kk := ?_)
  refine g_cV0I (M := mX10_next) (pc := 4) (c_X2_houseToWatch Γ t _ hI) qX2_houseToWatch vX2_houseToWatch sX2_houseToWatch kX10_228 dX10_next_4 (kk := ?_)
  rintro r4 τ4 ⟨hi4, hI4, hG4⟩
  have hF4 : Fr scX σ τ4 := by refine Fr.tr ?_ hG4; exact (Fr.rf)
  refine g_iret (M := mX10_next) (pc := 7) rfl dX10_next_7 rfl ⟨_, _, rfl, rfl, ?_⟩
  refine ⟨?_, ?_⟩
  · exact hI4
  · exact hF4
set_option maxHeartbeats 4000000 in
set_option maxRecDepth 20000 in
theorem c_X10_when (Γ : KT) (t : Nat) (σ : Nat → Int → Int) (f : Int) (h : Int) (hI : InvX σ) (hf : R32 f) (hh : R32 h) : Ct Γ mX10_when 7 (0, 0) [vR Γ 0, vI f, vI h] (113, ρT t, σ) (pI 113 (ρT t) (fun r σ' => (InvX σ') ∧ (Fr scX σ σ'))) := by
  refine Ct.of rfl (Nat.le_of_ble_eq_true rfl) ?_
  show G Γ mX10_when 7 (0, 0) _ (0, 0) 0 [some (vR Γ 0), some (vI f), some (vI h)] [] (113, ρT t, σ)
  refine g_aload_n (M := mX10_when) (pc := 0) dX10_when_0 rfl (k := ?_)
  refine g_getr (M := mX10_when) (pc := 1) (by rfl) fX10_0 kX10_42 dX10_when_1 (by rfl) (kk := ?_)
  refine g_iload_n (M := mX10_when) (pc := 4) dX10_when_4 rfl (k := ?_)
  refine g_cV1I (M := mX10_when) (pc := 5) (c_X5_hasFolk Γ t _ _ (by omega)) qX5_hasFolk vX5_hasFolk sX5_hasFolk kX10_90 dX10_when_5 (kk := ?_)
  rintro _ _ ⟨e1, e⟩; rw [e1, e]; clear e1 e
  have hb5_33 := iv33_6 hI 6 (by omega) (by omega)
  refine g_if_eqB (M := mX10_when) (pc := 8) (tgt := 22) dX10_when_8 (k1 := fun h8 => ?_) (k2 := fun h8 => ?_)
  · skip
    refine g_iconst (M := mX10_when) (pc := 22) dX10_when_22 (k := ?_)
    refine g_iret (M := mX10_when) (pc := 23) rfl dX10_when_23 rfl ⟨_, _, rfl, rfl, ?_⟩
    refine ⟨?_, ?_⟩
    · exact hI
    · exact (Fr.rf)
  · skip
    refine g_aload_n (M := mX10_when) (pc := 11) dX10_when_11 rfl (k := ?_)
    refine g_getr (M := mX10_when) (pc := 12) (by rfl) fX10_0 kX10_42 dX10_when_12 (by rfl) (kk := ?_)
    refine g_iload_n (M := mX10_when) (pc := 15) dX10_when_15 rfl (k := ?_)
    refine g_cV1I (M := mX10_when) (pc := 16) (c_X5_hasHouse Γ t _ _ (by omega)) qX5_hasHouse vX5_hasHouse sX5_hasHouse kX10_66 dX10_when_16 (kk := ?_)
    rintro _ _ ⟨e1, e⟩; rw [e1, e]; clear e1 e
    have hb16_33 := iv33_0 hI 0 (by omega) (by omega)
    refine g_if_neB (M := mX10_when) (pc := 19) (tgt := 24) dX10_when_19 (k1 := fun h19 => ?_) (k2 := fun h19 => ?_)
    · skip
      refine g_aload_n (M := mX10_when) (pc := 24) dX10_when_24 rfl (k := ?_)
      refine g_getr (M := mX10_when) (pc := 25) (by rfl) fX10_5 kX10_54 dX10_when_25 (by rfl) (kk := ?_)
      refine g_iload_n (M := mX10_when) (pc := 28) dX10_when_28 rfl (k := ?_)
      refine g_iload_n (M := mX10_when) (pc := 29) dX10_when_29 rfl (k := ?_)
      refine g_cV2I (M := mX10_when) (pc := 30) (c_X2_leastStart Γ t _ _ _ hI (by omega) (by omega)) qX2_leastStart vX2_leastStart sX2_leastStart kX10_231 dX10_when_30 (kk := ?_)
      rintro r30 τ30 ⟨hi30, hI30, hG30⟩
      have hF30 : Fr scX σ τ30 := by refine Fr.tr ?_ hG30; exact (Fr.rf)
      refine g_iret (M := mX10_when) (pc := 33) rfl dX10_when_33 rfl ⟨_, _, rfl, rfl, ?_⟩
      refine ⟨?_, ?_⟩
      · exact hI30
      · exact hF30
    · skip
      refine g_iconst (M := mX10_when) (pc := 22) dX10_when_22 (k := ?_)
      refine g_iret (M := mX10_when) (pc := 23) rfl dX10_when_23 rfl ⟨_, _, rfl, rfl, ?_⟩
      refine ⟨?_, ?_⟩
      · exact hI
      · exact (Fr.rf)
set_option maxHeartbeats 4000000 in
set_option maxRecDepth 20000 in
theorem c_X10_odds (Γ : KT) (t : Nat) (σ : Nat → Int → Int) (f : Int) (h : Int) (p : Int) (hI : InvX σ) (hf : R32 f) (hh : R32 h) (hp : R32 p) : Ct Γ mX10_odds 7 (0, 0) [vR Γ 0, vI f, vI h, vI p] (113, ρT t, σ) (pL 113 (ρT t) (fun r σ' => (R64 r) ∧ (InvX σ') ∧ (Fr scX σ σ'))) := by
  refine Ct.of rfl (Nat.le_of_ble_eq_true rfl) ?_
  show G Γ mX10_odds 7 (0, 0) _ (0, 0) 0 [some (vR Γ 0), some (vI f), some (vI h), some (vI p)] [] (113, ρT t, σ)
  refine g_aload_n (M := mX10_odds) (pc := 0) dX10_odds_0 rfl (k := ?_)
  refine g_getr (M := mX10_odds) (pc := 1) (by rfl) fX10_0 kX10_42 dX10_odds_1 (by rfl) (kk := ?_)
  refine g_iload_n (M := mX10_odds) (pc := 4) dX10_odds_4 rfl (k := ?_)
  refine g_cV1I (M := mX10_odds) (pc := 5) (c_X5_hasFolk Γ t _ _ (by omega)) qX5_hasFolk vX5_hasFolk sX5_hasFolk kX10_90 dX10_odds_5 (kk := ?_)
  rintro _ _ ⟨e1, e⟩; rw [e1, e]; clear e1 e
  have hb5_33 := iv33_6 hI 6 (by omega) (by omega)
  refine g_if_eqB (M := mX10_odds) (pc := 8) (tgt := 30) dX10_odds_8 (k1 := fun h8 => ?_) (k2 := fun h8 => ?_)
  · skip
    refine g_ldc2 (M := mX10_odds) (pc := 30) (x := -9223372036854775808) kX10_234 dX10_odds_30 (k := ?_)
    refine g_lret (M := mX10_odds) (pc := 33) rfl dX10_odds_33 rfl ⟨_, _, rfl, rfl, ?_⟩
    refine ⟨?_, ?_, ?_⟩
    · omega
    · exact hI
    · exact (Fr.rf)
  · skip
    refine g_aload_n (M := mX10_odds) (pc := 11) dX10_odds_11 rfl (k := ?_)
    refine g_getr (M := mX10_odds) (pc := 12) (by rfl) fX10_0 kX10_42 dX10_odds_12 (by rfl) (kk := ?_)
    refine g_iload_n (M := mX10_odds) (pc := 15) dX10_odds_15 rfl (k := ?_)
    refine g_cV1I (M := mX10_odds) (pc := 16) (c_X5_hasHouse Γ t _ _ (by omega)) qX5_hasHouse vX5_hasHouse sX5_hasHouse kX10_66 dX10_odds_16 (kk := ?_)
    rintro _ _ ⟨e1, e⟩; rw [e1, e]; clear e1 e
    have hb16_33 := iv33_0 hI 0 (by omega) (by omega)
    refine g_if_eqB (M := mX10_odds) (pc := 19) (tgt := 30) dX10_odds_19 (k1 := fun h19 => ?_) (k2 := fun h19 => ?_)
    · skip
      refine g_ldc2 (M := mX10_odds) (pc := 30) (x := -9223372036854775808) kX10_234 dX10_odds_30 (k := ?_)
      refine g_lret (M := mX10_odds) (pc := 33) rfl dX10_odds_33 rfl ⟨_, _, rfl, rfl, ?_⟩
      refine ⟨?_, ?_, ?_⟩
      · omega
      · exact hI
      · exact (Fr.rf)
    · skip
      refine g_iload_n (M := mX10_odds) (pc := 22) dX10_odds_22 rfl (k := ?_)
      refine g_iconst (M := mX10_odds) (pc := 23) dX10_odds_23 (k := ?_)
      refine g_cS2I (M := mX10_odds) (pc := 24) (c_X10_isUpTo Γ t _ _ _ (by omega) (by omega)) qX10_isUpTo vX10_isUpTo kX10_58 dX10_odds_24 (kk := ?_)
      rintro _ _ ⟨e1, e⟩; rw [e1, e]; clear e1 e
      refine g_if_neB (M := mX10_odds) (pc := 27) (tgt := 34) dX10_odds_27 (k1 := fun h27 => ?_) (k2 := fun h27 => ?_)
      · skip
        refine g_aload_n (M := mX10_odds) (pc := 34) dX10_odds_34 rfl (k := ?_)
        refine g_getr (M := mX10_odds) (pc := 35) (by rfl) fX10_5 kX10_54 dX10_odds_35 (by rfl) (kk := ?_)
        refine g_iload_n (M := mX10_odds) (pc := 38) dX10_odds_38 rfl (k := ?_)
        refine g_iload_n (M := mX10_odds) (pc := 39) dX10_odds_39 rfl (k := ?_)
        refine g_cV2I (M := mX10_odds) (pc := 40) (c_X2_goodStarts Γ t _ _ _ hI (by omega) (by omega)) qX2_goodStarts vX2_goodStarts sX2_goodStarts kX10_236 dX10_odds_40 (kk := ?_)
        rintro r40 τ40 ⟨hi40, hI40, hG40⟩
        have hF40 : Fr scX σ τ40 := by refine Fr.tr ?_ hG40; exact (Fr.rf)
        refine g_i2l (M := mX10_odds) (pc := 43) (by omega) dX10_odds_43 (k := ?_)
        refine g_ldc2 (M := mX10_odds) (pc := 44) (x := 60) kX10_239 dX10_odds_44 (k := ?_)
        refine g_iload_n (M := mX10_odds) (pc := 47) dX10_odds_47 rfl (k := ?_)
        refine g_cS3L (M := mX10_odds) (pc := 48) (c_X10_sideOfFraction Γ t _ _ _ _ (by omega) (by omega) (by omega)) qX10_sideOfFraction vX10_sideOfFraction kX10_241 dX10_odds_48 (kk := ?_)
        rintro r48 _ ⟨hi48, e⟩; rw [e]; clear e
        refine g_lret (M := mX10_odds) (pc := 51) rfl dX10_odds_51 rfl ⟨_, _, rfl, rfl, ?_⟩
        refine ⟨?_, ?_, ?_⟩
        · omega
        · exact hI40
        · exact hF40
      · skip
        refine g_ldc2 (M := mX10_odds) (pc := 30) (x := -9223372036854775808) kX10_234 dX10_odds_30 (k := ?_)
        refine g_lret (M := mX10_odds) (pc := 33) rfl dX10_odds_33 rfl ⟨_, _, rfl, rfl, ?_⟩
        refine ⟨?_, ?_, ?_⟩
        · omega
        · exact hI
        · exact (Fr.rf)
set_option maxHeartbeats 4000000 in
set_option maxRecDepth 20000 in
theorem c_X10_mean (Γ : KT) (t : Nat) (σ : Nat → Int → Int) (h : Int) (p : Int) (hI : InvX σ) (hh : R32 h) (hp : R32 p) : Ct Γ mX10_mean 8 (0, 0) [vR Γ 0, vI h, vI p] (113, ρT t, σ) (pL 113 (ρT t) (fun r σ' => (R64 r) ∧ (InvX σ') ∧ (Fr scX σ σ'))) := by
  refine Ct.of rfl (Nat.le_of_ble_eq_true rfl) ?_
  show G Γ mX10_mean 8 (0, 0) _ (0, 0) 0 [some (vR Γ 0), some (vI h), some (vI p)] [] (113, ρT t, σ)
  refine g_aload_n (M := mX10_mean) (pc := 0) dX10_mean_0 rfl (k := ?_)
  refine g_getr (M := mX10_mean) (pc := 1) (by rfl) fX10_0 kX10_42 dX10_mean_1 (by rfl) (kk := ?_)
  refine g_iload_n (M := mX10_mean) (pc := 4) dX10_mean_4 rfl (k := ?_)
  refine g_cV1I (M := mX10_mean) (pc := 5) (c_X5_hasHouse Γ t _ _ (by omega)) qX5_hasHouse vX5_hasHouse sX5_hasHouse kX10_66 dX10_mean_5 (kk := ?_)
  rintro _ _ ⟨e1, e⟩; rw [e1, e]; clear e1 e
  have hb5_33 := iv33_0 hI 0 (by omega) (by omega)
  refine g_if_eqB (M := mX10_mean) (pc := 8) (tgt := 29) dX10_mean_8 (k1 := fun h8 => ?_) (k2 := fun h8 => ?_)
  · skip
    refine g_ldc2 (M := mX10_mean) (pc := 29) (x := -9223372036854775808) kX10_234 dX10_mean_29 (k := ?_)
    refine g_lret (M := mX10_mean) (pc := 32) rfl dX10_mean_32 rfl ⟨_, _, rfl, rfl, ?_⟩
    refine ⟨?_, ?_, ?_⟩
    · omega
    · exact hI
    · exact (Fr.rf)
  · skip
    refine g_iload_n (M := mX10_mean) (pc := 11) dX10_mean_11 rfl (k := ?_)
    refine g_iconst (M := mX10_mean) (pc := 12) dX10_mean_12 (k := ?_)
    refine g_cS2I (M := mX10_mean) (pc := 13) (c_X10_isUpTo Γ t _ _ _ (by omega) (by omega)) qX10_isUpTo vX10_isUpTo kX10_58 dX10_mean_13 (kk := ?_)
    rintro _ _ ⟨e1, e⟩; rw [e1, e]; clear e1 e
    refine g_if_eqB (M := mX10_mean) (pc := 16) (tgt := 29) dX10_mean_16 (k1 := fun h16 => ?_) (k2 := fun h16 => ?_)
    · skip
      refine g_ldc2 (M := mX10_mean) (pc := 29) (x := -9223372036854775808) kX10_234 dX10_mean_29 (k := ?_)
      refine g_lret (M := mX10_mean) (pc := 32) rfl dX10_mean_32 rfl ⟨_, _, rfl, rfl, ?_⟩
      refine ⟨?_, ?_, ?_⟩
      · omega
      · exact hI
      · exact (Fr.rf)
    · skip
      refine g_aload_n (M := mX10_mean) (pc := 19) dX10_mean_19 rfl (k := ?_)
      refine g_getr (M := mX10_mean) (pc := 20) (by rfl) fX10_0 kX10_42 dX10_mean_20 (by rfl) (kk := ?_)
      refine g_get (M := mX10_mean) (pc := 23) (ji := 6) (by rfl) fX5_6 kX10_245 dX10_mean_23 (kk := fun hr23 => ?_)
      have hb23 := iv33_6 hI 6 (by omega) (by omega)
      refine g_if_ne (M := mX10_mean) (pc := 26) (tgt := 33) (by omega) dX10_mean_26 (k1 := fun h26 => ?_) (k2 := fun h26 => ?_)
      · skip
        refine g_aload_n (M := mX10_mean) (pc := 33) dX10_mean_33 rfl (k := ?_)
        refine g_getr (M := mX10_mean) (pc := 34) (by rfl) fX10_5 kX10_54 dX10_mean_34 (by rfl) (kk := ?_)
        refine g_iload_n (M := mX10_mean) (pc := 37) dX10_mean_37 rfl (k := ?_)
        refine g_cV1I (M := mX10_mean) (pc := 38) (c_X2_minutesOfAll Γ t _ _ hI (by omega)) qX2_minutesOfAll vX2_minutesOfAll sX2_minutesOfAll kX10_248 dX10_mean_38 (kk := ?_)
        rintro r38 τ38 ⟨hi38, hI38, hG38⟩
        have hF38 : Fr scX σ τ38 := by refine Fr.tr ?_ hG38; exact (Fr.rf)
        refine g_i2l (M := mX10_mean) (pc := 41) (by omega) dX10_mean_41 (k := ?_)
        refine g_aload_n (M := mX10_mean) (pc := 42) dX10_mean_42 rfl (k := ?_)
        refine g_getr (M := mX10_mean) (pc := 43) (by rfl) fX10_0 kX10_42 dX10_mean_43 (by rfl) (kk := ?_)
        refine g_get (M := mX10_mean) (pc := 46) (ji := 6) (by rfl) fX5_6 kX10_245 dX10_mean_46 (kk := fun hr46 => ?_)
        have hb46 := iv33_6 hI38 6 (by omega) (by omega)
        refine g_i2l (M := mX10_mean) (pc := 49) (by omega) dX10_mean_49 (k := ?_)
        refine g_iload_n (M := mX10_mean) (pc := 50) dX10_mean_50 rfl (k := ?_)
        refine g_cS3L (M := mX10_mean) (pc := 51) (c_X10_sideOfFraction Γ t _ _ _ _ (by omega) (by omega) (by omega)) qX10_sideOfFraction vX10_sideOfFraction kX10_241 dX10_mean_51 (kk := ?_)
        rintro r51 _ ⟨hi51, e⟩; rw [e]; clear e
        refine g_lret (M := mX10_mean) (pc := 54) rfl dX10_mean_54 rfl ⟨_, _, rfl, rfl, ?_⟩
        refine ⟨?_, ?_, ?_⟩
        · omega
        · exact hI38
        · exact hF38
      · skip
        refine g_ldc2 (M := mX10_mean) (pc := 29) (x := -9223372036854775808) kX10_234 dX10_mean_29 (k := ?_)
        refine g_lret (M := mX10_mean) (pc := 32) rfl dX10_mean_32 rfl ⟨_, _, rfl, rfl, ?_⟩
        refine ⟨?_, ?_, ?_⟩
        · omega
        · exact hI
        · exact (Fr.rf)
set_option maxHeartbeats 4000000 in
set_option maxRecDepth 20000 in
theorem c_X10_book (Γ : KT) (t : Nat) (σ : Nat → Int → Int) (f : Int) (h : Int) (hI : InvX σ) (hf : R32 f) (hh : R32 h) : Ct Γ mX10_book 2 (0, 0) [vR Γ 0, vI f, vI h] (113, ρT t, σ) (pI 113 (ρT t) (fun r σ' => (R32 r) ∧ (bookX σ f h r σ') ∧ (InvX σ') ∧ (Fr scCn σ σ'))) := by
  refine Ct.of rfl (Nat.le_of_ble_eq_true rfl) ?_
  show G Γ mX10_book 2 (0, 0) _ (0, 0) 0 [some (vR Γ 0), some (vI f), some (vI h)] [] (113, ρT t, σ)
  refine g_iload_n (M := mX10_book) (pc := 0) dX10_book_0 rfl (k := ?_)
  refine g_iconst (M := mX10_book) (pc := 1) dX10_book_1 (k := ?_)
  refine g_icmp_ne (M := mX10_book) (pc := 2) (tgt := 16) (by omega) (by omega) dX10_book_2 (k1 := fun h2 => ?_) (k2 := fun h2 => ?_)
  · skip
    refine g_aload_n (M := mX10_book) (pc := 16) dX10_book_16 rfl (k := ?_)
    refine g_getr (M := mX10_book) (pc := 17) (by rfl) fX10_0 kX10_42 dX10_book_17 (by rfl) (kk := ?_)
    refine g_iload_n (M := mX10_book) (pc := 20) dX10_book_20 rfl (k := ?_)
    refine g_cV1I (M := mX10_book) (pc := 21) (c_X5_hasFolk Γ t _ _ (by omega)) qX5_hasFolk vX5_hasFolk sX5_hasFolk kX10_90 dX10_book_21 (kk := ?_)
    rintro _ _ ⟨e1, e⟩; rw [e1, e]; clear e1 e
    have hb21_33 := iv33_6 hI 6 (by omega) (by omega)
    refine g_if_eqB (M := mX10_book) (pc := 24) (tgt := 38) dX10_book_24 (k1 := fun h24 => ?_) (k2 := fun h24 => ?_)
    · skip
      refine g_iconst (M := mX10_book) (pc := 38) dX10_book_38 (k := ?_)
      refine g_iret (M := mX10_book) (pc := 39) rfl dX10_book_39 rfl ⟨_, _, rfl, rfl, ?_⟩
      refine ⟨?_, ?_, ?_, ?_⟩
      · omega
      · unfold bookX; first | exact Or.inl ⟨by first | omega | (refine ⟨by omega, by omega, ?_⟩; assumption), by first | rfl | omega, by first | rfl | (rw [show n = 1 by omega]; done) | (rw [show n = 0 by omega]; done) | (rw [show z = 1 by omega]; done) | (rw [show z = 0 by omega]; done) | (unfold zwith; first | rw [if_pos (by omega)] | rw [if_neg (by omega)])⟩ | exact Or.inr (Or.inl ⟨by first | omega | (refine ⟨by omega, by omega, ?_⟩; assumption), by first | rfl | omega, by first | rfl | (rw [show n = 1 by omega]; done) | (rw [show n = 0 by omega]; done) | (rw [show z = 1 by omega]; done) | (rw [show z = 0 by omega]; done) | (unfold zwith; first | rw [if_pos (by omega)] | rw [if_neg (by omega)])⟩) | exact Or.inr (Or.inr (Or.inl ⟨by first | omega | (refine ⟨by omega, by omega, ?_⟩; assumption), by first | rfl | omega, by first | rfl | (rw [show n = 1 by omega]; done) | (rw [show n = 0 by omega]; done) | (rw [show z = 1 by omega]; done) | (rw [show z = 0 by omega]; done) | (unfold zwith; first | rw [if_pos (by omega)] | rw [if_neg (by omega)])⟩)) | exact Or.inr (Or.inr (Or.inr (⟨by first | omega | (refine ⟨by omega, by omega, ?_⟩; assumption), by first | rfl | omega, by first | rfl | (rw [show n = 1 by omega]; done) | (rw [show n = 0 by omega]; done) | (rw [show z = 1 by omega]; done) | (rw [show z = 0 by omega]; done) | (unfold zwith; first | rw [if_pos (by omega)] | rw [if_neg (by omega)])⟩))) | (rcases hx49 with ⟨a, b, e⟩ | ⟨a, b, e⟩ <;> first | exact Or.inl ⟨by omega, by omega, by first | exact e | (rw [show z = 1 by omega]; exact e) | (rw [show z = 0 by omega]; exact e)⟩ | exact Or.inr (Or.inl ⟨by omega, by omega, by first | exact e | (rw [show z = 1 by omega]; exact e) | (rw [show z = 0 by omega]; exact e)⟩) | exact Or.inr (Or.inr (Or.inl ⟨by omega, by omega, by first | exact e | (rw [show z = 1 by omega]; exact e) | (rw [show z = 0 by omega]; exact e)⟩)) | exact Or.inr (Or.inr (Or.inr (⟨by omega, by omega, by first | exact e | (rw [show z = 1 by omega]; exact e) | (rw [show z = 0 by omega]; exact e)⟩))))
      · exact hI
      · exact (Fr.rf)
    · skip
      refine g_aload_n (M := mX10_book) (pc := 27) dX10_book_27 rfl (k := ?_)
      refine g_getr (M := mX10_book) (pc := 28) (by rfl) fX10_0 kX10_42 dX10_book_28 (by rfl) (kk := ?_)
      refine g_iload_n (M := mX10_book) (pc := 31) dX10_book_31 rfl (k := ?_)
      refine g_cV1I (M := mX10_book) (pc := 32) (c_X5_hasHouse Γ t _ _ (by omega)) qX5_hasHouse vX5_hasHouse sX5_hasHouse kX10_66 dX10_book_32 (kk := ?_)
      rintro _ _ ⟨e1, e⟩; rw [e1, e]; clear e1 e
      have hb32_33 := iv33_0 hI 0 (by omega) (by omega)
      refine g_if_neB (M := mX10_book) (pc := 35) (tgt := 40) dX10_book_35 (k1 := fun h35 => ?_) (k2 := fun h35 => ?_)
      · skip
        refine g_aload_n (M := mX10_book) (pc := 40) dX10_book_40 rfl (k := ?_)
        refine g_getr (M := mX10_book) (pc := 41) (by rfl) fX10_0 kX10_42 dX10_book_41 (by rfl) (kk := ?_)
        refine g_getr (M := mX10_book) (pc := 44) (by rfl) fX5_12 kX10_251 dX10_book_44 (by rfl) (kk := ?_)
        refine g_iload_n (M := mX10_book) (pc := 47) dX10_book_47 rfl (k := ?_)
        refine g_iload_n (M := mX10_book) (pc := 48) dX10_book_48 rfl (k := ?_)
        refine g_cV2I (M := mX10_book) (pc := 49) (c_X4_add_48 Γ t _ _ _ hI (by omega) (by omega)) qX4_add vX4_add sX4_add kX10_178 dX10_book_49 (kk := ?_)
        rintro r49 τ49 ⟨hi49, hx49, hI49, hG49⟩
        have hF49 : Fr scCn σ τ49 := by refine Fr.tr ?_ (Fr.mono hG49 sb_scC48_scCn); exact (Fr.rf)
        refine g_iret (M := mX10_book) (pc := 52) rfl dX10_book_52 rfl ⟨_, _, rfl, rfl, ?_⟩
        refine ⟨?_, ?_, ?_, ?_⟩
        · omega
        · unfold bookX; first | exact Or.inl ⟨by first | omega | (refine ⟨by omega, by omega, ?_⟩; assumption), by first | rfl | omega, by first | rfl | (rw [show n = 1 by omega]; done) | (rw [show n = 0 by omega]; done) | (rw [show z = 1 by omega]; done) | (rw [show z = 0 by omega]; done) | (unfold zwith; first | rw [if_pos (by omega)] | rw [if_neg (by omega)])⟩ | exact Or.inr (Or.inl ⟨by first | omega | (refine ⟨by omega, by omega, ?_⟩; assumption), by first | rfl | omega, by first | rfl | (rw [show n = 1 by omega]; done) | (rw [show n = 0 by omega]; done) | (rw [show z = 1 by omega]; done) | (rw [show z = 0 by omega]; done) | (unfold zwith; first | rw [if_pos (by omega)] | rw [if_neg (by omega)])⟩) | exact Or.inr (Or.inr (Or.inl ⟨by first | omega | (refine ⟨by omega, by omega, ?_⟩; assumption), by first | rfl | omega, by first | rfl | (rw [show n = 1 by omega]; done) | (rw [show n = 0 by omega]; done) | (rw [show z = 1 by omega]; done) | (rw [show z = 0 by omega]; done) | (unfold zwith; first | rw [if_pos (by omega)] | rw [if_neg (by omega)])⟩)) | exact Or.inr (Or.inr (Or.inr (⟨by first | omega | (refine ⟨by omega, by omega, ?_⟩; assumption), by first | rfl | omega, by first | rfl | (rw [show n = 1 by omega]; done) | (rw [show n = 0 by omega]; done) | (rw [show z = 1 by omega]; done) | (rw [show z = 0 by omega]; done) | (unfold zwith; first | rw [if_pos (by omega)] | rw [if_neg (by omega)])⟩))) | (rcases hx49 with ⟨a, b, e⟩ | ⟨a, b, e⟩ <;> first | exact Or.inl ⟨by omega, by omega, by first | exact e | (rw [show z = 1 by omega]; exact e) | (rw [show z = 0 by omega]; exact e)⟩ | exact Or.inr (Or.inl ⟨by omega, by omega, by first | exact e | (rw [show z = 1 by omega]; exact e) | (rw [show z = 0 by omega]; exact e)⟩) | exact Or.inr (Or.inr (Or.inl ⟨by omega, by omega, by first | exact e | (rw [show z = 1 by omega]; exact e) | (rw [show z = 0 by omega]; exact e)⟩)) | exact Or.inr (Or.inr (Or.inr (⟨by omega, by omega, by first | exact e | (rw [show z = 1 by omega]; exact e) | (rw [show z = 0 by omega]; exact e)⟩))))
        · exact hI49
        · exact hF49
      · skip
        refine g_iconst (M := mX10_book) (pc := 38) dX10_book_38 (k := ?_)
        refine g_iret (M := mX10_book) (pc := 39) rfl dX10_book_39 rfl ⟨_, _, rfl, rfl, ?_⟩
        refine ⟨?_, ?_, ?_, ?_⟩
        · omega
        · unfold bookX; first | exact Or.inl ⟨by first | omega | (refine ⟨by omega, by omega, ?_⟩; assumption), by first | rfl | omega, by first | rfl | (rw [show n = 1 by omega]; done) | (rw [show n = 0 by omega]; done) | (rw [show z = 1 by omega]; done) | (rw [show z = 0 by omega]; done) | (unfold zwith; first | rw [if_pos (by omega)] | rw [if_neg (by omega)])⟩ | exact Or.inr (Or.inl ⟨by first | omega | (refine ⟨by omega, by omega, ?_⟩; assumption), by first | rfl | omega, by first | rfl | (rw [show n = 1 by omega]; done) | (rw [show n = 0 by omega]; done) | (rw [show z = 1 by omega]; done) | (rw [show z = 0 by omega]; done) | (unfold zwith; first | rw [if_pos (by omega)] | rw [if_neg (by omega)])⟩) | exact Or.inr (Or.inr (Or.inl ⟨by first | omega | (refine ⟨by omega, by omega, ?_⟩; assumption), by first | rfl | omega, by first | rfl | (rw [show n = 1 by omega]; done) | (rw [show n = 0 by omega]; done) | (rw [show z = 1 by omega]; done) | (rw [show z = 0 by omega]; done) | (unfold zwith; first | rw [if_pos (by omega)] | rw [if_neg (by omega)])⟩)) | exact Or.inr (Or.inr (Or.inr (⟨by first | omega | (refine ⟨by omega, by omega, ?_⟩; assumption), by first | rfl | omega, by first | rfl | (rw [show n = 1 by omega]; done) | (rw [show n = 0 by omega]; done) | (rw [show z = 1 by omega]; done) | (rw [show z = 0 by omega]; done) | (unfold zwith; first | rw [if_pos (by omega)] | rw [if_neg (by omega)])⟩))) | (rcases hx49 with ⟨a, b, e⟩ | ⟨a, b, e⟩ <;> first | exact Or.inl ⟨by omega, by omega, by first | exact e | (rw [show z = 1 by omega]; exact e) | (rw [show z = 0 by omega]; exact e)⟩ | exact Or.inr (Or.inl ⟨by omega, by omega, by first | exact e | (rw [show z = 1 by omega]; exact e) | (rw [show z = 0 by omega]; exact e)⟩) | exact Or.inr (Or.inr (Or.inl ⟨by omega, by omega, by first | exact e | (rw [show z = 1 by omega]; exact e) | (rw [show z = 0 by omega]; exact e)⟩)) | exact Or.inr (Or.inr (Or.inr (⟨by omega, by omega, by first | exact e | (rw [show z = 1 by omega]; exact e) | (rw [show z = 0 by omega]; exact e)⟩))))
        · exact hI
        · exact (Fr.rf)
  · skip
    refine g_aload_n (M := mX10_book) (pc := 5) dX10_book_5 rfl (k := ?_)
    refine g_getr (M := mX10_book) (pc := 6) (by rfl) fX10_0 kX10_42 dX10_book_6 (by rfl) (kk := ?_)
    refine g_getr (M := mX10_book) (pc := 9) (by rfl) fX5_12 kX10_251 dX10_book_9 (by rfl) (kk := ?_)
    refine g_cV0I (M := mX10_book) (pc := 12) (c_X4_empty_48 Γ t _) qX4_empty vX4_empty sX4_empty kX10_172 dX10_book_12 (kk := ?_)
    rintro _ _ ⟨e1, e⟩; rw [e1, e]; clear e1 e
    refine g_iret (M := mX10_book) (pc := 15) rfl dX10_book_15 rfl ⟨_, _, rfl, rfl, ?_⟩
    refine ⟨?_, ?_, ?_, ?_⟩
    · omega
    · unfold bookX; first | exact Or.inl ⟨by first | omega | (refine ⟨by omega, by omega, ?_⟩; assumption), by first | rfl | omega, by first | rfl | (rw [show n = 1 by omega]; done) | (rw [show n = 0 by omega]; done) | (rw [show z = 1 by omega]; done) | (rw [show z = 0 by omega]; done) | (unfold zwith; first | rw [if_pos (by omega)] | rw [if_neg (by omega)])⟩ | exact Or.inr (Or.inl ⟨by first | omega | (refine ⟨by omega, by omega, ?_⟩; assumption), by first | rfl | omega, by first | rfl | (rw [show n = 1 by omega]; done) | (rw [show n = 0 by omega]; done) | (rw [show z = 1 by omega]; done) | (rw [show z = 0 by omega]; done) | (unfold zwith; first | rw [if_pos (by omega)] | rw [if_neg (by omega)])⟩) | exact Or.inr (Or.inr (Or.inl ⟨by first | omega | (refine ⟨by omega, by omega, ?_⟩; assumption), by first | rfl | omega, by first | rfl | (rw [show n = 1 by omega]; done) | (rw [show n = 0 by omega]; done) | (rw [show z = 1 by omega]; done) | (rw [show z = 0 by omega]; done) | (unfold zwith; first | rw [if_pos (by omega)] | rw [if_neg (by omega)])⟩)) | exact Or.inr (Or.inr (Or.inr (⟨by first | omega | (refine ⟨by omega, by omega, ?_⟩; assumption), by first | rfl | omega, by first | rfl | (rw [show n = 1 by omega]; done) | (rw [show n = 0 by omega]; done) | (rw [show z = 1 by omega]; done) | (rw [show z = 0 by omega]; done) | (unfold zwith; first | rw [if_pos (by omega)] | rw [if_neg (by omega)])⟩))) | (rcases hx49 with ⟨a, b, e⟩ | ⟨a, b, e⟩ <;> first | exact Or.inl ⟨by omega, by omega, by first | exact e | (rw [show z = 1 by omega]; exact e) | (rw [show z = 0 by omega]; exact e)⟩ | exact Or.inr (Or.inl ⟨by omega, by omega, by first | exact e | (rw [show z = 1 by omega]; exact e) | (rw [show z = 0 by omega]; exact e)⟩) | exact Or.inr (Or.inr (Or.inl ⟨by omega, by omega, by first | exact e | (rw [show z = 1 by omega]; exact e) | (rw [show z = 0 by omega]; exact e)⟩)) | exact Or.inr (Or.inr (Or.inr (⟨by omega, by omega, by first | exact e | (rw [show z = 1 by omega]; exact e) | (rw [show z = 0 by omega]; exact e)⟩))))
    · refine ivu48 ?_ (by omega) (by omega); exact hI
    · refine Fr.up ?_ (by first | rfl | (unfold scCn; simp; try omega)); exact (Fr.rf)
set_option maxHeartbeats 4000000 in
set_option maxRecDepth 20000 in
theorem c_X10_looked (Γ : KT) (t : Nat) (σ : Nat → Int → Int)  (hI : InvX σ) : Ct Γ mX10_looked 8 (0, 0) [vR Γ 0] (113, ρT t, σ) (pI 113 (ρT t) (fun r σ' => (InvX σ') ∧ (Fr scX σ σ'))) := by
  refine Ct.of rfl (Nat.le_of_ble_eq_true rfl) ?_
  show G Γ mX10_looked 8 (0, 0) _ (0, 0) 0 [some (vR Γ 0)] [] (113, ρT t, σ)
  refine g_aload_n (M := mX10_looked) (pc := 0) dX10_looked_0 rfl (k := ?_)
  refine g_getr (M := mX10_looked) (pc := 1) (by rfl) fX10_5 kX10_54 dX10_looked_1 (by rfl) (kk := ?_)
  refine g_cV0I (M := mX10_looked) (pc := 4) (c_X2_firstKeptOut Γ t _ hI) qX2_firstKeptOut vX2_firstKeptOut sX2_firstKeptOut kX10_254 dX10_looked_4 (kk := ?_)
  rintro r4 τ4 ⟨hi4, hI4, hG4⟩
  have hF4 : Fr scX σ τ4 := by refine Fr.tr ?_ hG4; exact (Fr.rf)
  refine g_iret (M := mX10_looked) (pc := 7) rfl dX10_looked_7 rfl ⟨_, _, rfl, rfl, ?_⟩
  refine ⟨?_, ?_⟩
  · exact hI4
  · exact hF4
set_option maxHeartbeats 4000000 in
set_option maxRecDepth 20000 in
theorem c_X10_judge (Γ : KT) (t : Nat) (σ : Nat → Int → Int) (tp : Int) (i : Int) (hI : InvX σ) (htp : R32 tp) (hi : R32 i) : Ct Γ mX10_judge 2 (0, 0) [vR Γ 0, vI tp, vI i] (113, ρT t, σ) (pI 113 (ρT t) (fun r σ' => (R32 r) ∧ (judX σ tp i r) ∧ (InvX σ') ∧ (Fr scX σ σ'))) := by
  refine Ct.of rfl (Nat.le_of_ble_eq_true rfl) ?_
  show G Γ mX10_judge 2 (0, 0) _ (0, 0) 0 [some (vR Γ 0), some (vI tp), some (vI i), none] [] (113, ρT t, σ)
  refine g_iload_n (M := mX10_judge) (pc := 0) dX10_judge_0 rfl (k := ?_)
  refine g_iconst (M := mX10_judge) (pc := 1) dX10_judge_1 (k := ?_)
  refine g_cS2I (M := mX10_judge) (pc := 2) (c_X10_isUpTo Γ t _ _ _ (by omega) (by omega)) qX10_isUpTo vX10_isUpTo kX10_58 dX10_judge_2 (kk := ?_)
  rintro _ _ ⟨e1, e⟩; rw [e1, e]; clear e1 e
  refine g_if_neB (M := mX10_judge) (pc := 5) (tgt := 10) dX10_judge_5 (k1 := fun h5 => ?_) (k2 := fun h5 => ?_)
  · skip
    refine g_aload_n (M := mX10_judge) (pc := 10) dX10_judge_10 rfl (k := ?_)
    refine g_getr (M := mX10_judge) (pc := 11) (by rfl) fX10_7 kX10_35 dX10_judge_11 (by rfl) (kk := ?_)
    refine g_getr (M := mX10_judge) (pc := 14) (by rfl) fX6_2 kX10_257 dX10_judge_14 (by rfl) (kk := ?_)
    refine g_iload_n (M := mX10_judge) (pc := 17) dX10_judge_17 rfl (k := ?_)
    refine g_iald (M := mX10_judge) (pc := 18) (by rfl) (by omega) (by omega) dX10_judge_18 (kk := fun hr18 => ?_)
    have hb18 := iv32_0 hI tp (by omega) (by omega)
    refine g_iconst (M := mX10_judge) (pc := 19) dX10_judge_19 (k := ?_)
    refine g_icmp_eq (M := mX10_judge) (pc := 20) (tgt := 38) (by omega) (by omega) dX10_judge_20 (k1 := fun h20 => ?_) (k2 := fun h20 => ?_)
    · skip
      refine g_aload_n (M := mX10_judge) (pc := 38) dX10_judge_38 rfl (k := ?_)
      refine g_getr (M := mX10_judge) (pc := 39) (by rfl) fX10_0 kX10_42 dX10_judge_39 (by rfl) (kk := ?_)
      refine g_get (M := mX10_judge) (pc := 42) (ji := 0) (by rfl) fX5_0 kX10_185 dX10_judge_42 (kk := fun hr42 => ?_)
      have hb42 := iv33_0 hI 0 (by omega) (by omega)
      refine g_if_ne (M := mX10_judge) (pc := 45) (tgt := 51) (by omega) dX10_judge_45 (k1 := fun h45 => ?_) (k2 := fun h45 => ?_)
      · skip
        refine g_iload_n (M := mX10_judge) (pc := 51) dX10_judge_51 rfl (k := ?_)
        refine g_if_ge (M := mX10_judge) (pc := 52) (tgt := 58) (by omega) dX10_judge_52 (k1 := fun h52 => ?_) (k2 := fun h52 => ?_)
        · skip
          refine g_iconst (M := mX10_judge) (pc := 58) dX10_judge_58 (k := ?_)
          refine g_istore_3 (M := mX10_judge) (pc := 59) dX10_judge_59 (k := ?_)
          have loop60 : ∀ (N : Nat) (q : Int), ((7 - q).toNat) < N → ((0 ≤ q ∧ q ≤ 6) ∧ (jdF (Int.toNat (σ 33 0 - q)) q (fitX σ tp i) = jdF (Int.toNat (σ 33 0)) 0 (fitX σ tp i))) → G Γ mX10_judge 2 (0, 0) (pI 113 (ρT t) (fun r σ' => (R32 r) ∧ (judX σ tp i r) ∧ (InvX σ') ∧ (Fr scX σ σ'))) (0, 0) 60 [some (vR Γ 0), some (vI tp), some (vI i), some (vI q)] [] (113, ρT t, σ) := by
            intro N
            induction N with
            | zero => intro q hmu60 hinv60; exact absurd hmu60 (Nat.not_lt_zero _)
            | succ N ih60 =>
              intro q hmu60 hinv60
              obtain ⟨hb60_q, hx60_0⟩ := hinv60
              refine g_iload_n (M := mX10_judge) (pc := 60) dX10_judge_60 rfl (k := ?_)
              refine g_aload_n (M := mX10_judge) (pc := 61) dX10_judge_61 rfl (k := ?_)
              refine g_getr (M := mX10_judge) (pc := 62) (by rfl) fX10_0 kX10_42 dX10_judge_62 (by rfl) (kk := ?_)
              refine g_get (M := mX10_judge) (pc := 65) (ji := 0) (by rfl) fX5_0 kX10_185 dX10_judge_65 (kk := fun hr65 => ?_)
              refine g_icmp_ge (M := mX10_judge) (pc := 68) (tgt := 126) (by omega) (by omega) dX10_judge_68 (k1 := fun h68 => ?_) (k2 := fun h68 => ?_)
              · skip
                refine g_bipush (M := mX10_judge) (pc := 126) dX10_judge_126 (k := ?_)
                refine g_iret (M := mX10_judge) (pc := 128) rfl dX10_judge_128 rfl ⟨_, _, rfl, rfl, ?_⟩
                refine ⟨?_, ?_, ?_, ?_⟩
                · omega
                · unfold judX; first | exact Or.inl ⟨by omega, rfl⟩ | exact Or.inr (Or.inl ⟨by omega, by omega, rfl⟩) | exact Or.inr (Or.inr ⟨by omega, by omega, by first | (rw [show Int.toNat (σ 33 0) = 0 by omega]; rfl) | (rw [jd_first (by omega) (by unfold fitX; rw [if_pos (by omega)]; omega)]; unfold fitX; rw [if_pos (by omega)]; rfl) | (rw [← hx60_0, jd_end (by omega)]) | (rw [← hx60_0, jd_here (by omega) (by unfold fitX; rw [if_pos (by omega)]; omega)]; unfold fitX; rw [if_pos (by omega)]) | (rw [← hx60_0, jd_here (by omega) (by unfold fitX; rw [if_neg (by omega), if_neg (by omega)]; omega)]; unfold fitX; rw [if_neg (by omega), if_neg (by omega)])⟩)
                · exact hI
                · exact (Fr.rf)
              · skip
                refine g_iload_n (M := mX10_judge) (pc := 71) dX10_judge_71 rfl (k := ?_)
                refine g_aload_n (M := mX10_judge) (pc := 72) dX10_judge_72 rfl (k := ?_)
                refine g_getr (M := mX10_judge) (pc := 73) (by rfl) fX10_7 kX10_35 dX10_judge_73 (by rfl) (kk := ?_)
                refine g_getr (M := mX10_judge) (pc := 76) (by rfl) fX6_1 kX10_260 dX10_judge_76 (by rfl) (kk := ?_)
                refine g_iload_n (M := mX10_judge) (pc := 79) dX10_judge_79 rfl (k := ?_)
                refine g_iald (M := mX10_judge) (pc := 80) (by rfl) (by omega) (by omega) dX10_judge_80 (kk := fun hr80 => ?_)
                have hb80 := iv31_0 hI tp (by omega) (by omega)
                refine g_iload_n (M := mX10_judge) (pc := 81) dX10_judge_81 rfl (k := ?_)
                refine g_isub (M := mX10_judge) (pc := 82) dX10_judge_82 (k := ?_)
                refine g_icmp_lt (M := mX10_judge) (pc := 83) (tgt := 91) (by omega) (by omega) dX10_judge_83 (k1 := fun h83 => ?_) (k2 := fun h83 => ?_)
                · skip
                  refine g_aload_n (M := mX10_judge) (pc := 91) dX10_judge_91 rfl (k := ?_)
                  refine g_getr (M := mX10_judge) (pc := 92) (by rfl) fX10_7 kX10_35 dX10_judge_92 (by rfl) (kk := ?_)
                  refine g_getr (M := mX10_judge) (pc := 95) (by rfl) fX6_0 kX10_263 dX10_judge_95 (by rfl) (kk := ?_)
                  refine g_iload_n (M := mX10_judge) (pc := 98) dX10_judge_98 rfl (k := ?_)
                  refine g_aald (M := mX10_judge) (pc := 99) (by rfl) (by decide) (by omega) (by omega) (items_ref (by omega) (by omega)) dX10_judge_99 (kk := ?_)
                  refine g_iload_n (M := mX10_judge) (pc := 100) dX10_judge_100 rfl (k := ?_)
                  refine g_iload_n (M := mX10_judge) (pc := 101) dX10_judge_101 rfl (k := ?_)
                  refine g_iadd (M := mX10_judge) (pc := 102) dX10_judge_102 (k := ?_)
                  refine g_lald (M := mX10_judge) (pc := 103) (shp_item (by omega) (by omega)) (by omega) (by omega) dX10_judge_103 (hk := by omega) (kk := fun hr103 => ?_)
                  refine g_aload_n (M := mX10_judge) (pc := 104) dX10_judge_104 rfl (k := ?_)
                  refine g_getr (M := mX10_judge) (pc := 105) (by rfl) fX10_0 kX10_42 dX10_judge_105 (by rfl) (kk := ?_)
                  refine g_getr (M := mX10_judge) (pc := 108) (by rfl) fX5_3 kX10_80 dX10_judge_108 (by rfl) (kk := ?_)
                  refine g_iload_n (M := mX10_judge) (pc := 111) dX10_judge_111 rfl (k := ?_)
                  refine g_iald (M := mX10_judge) (pc := 112) (by rfl) (by omega) (by omega) dX10_judge_112 (kk := fun hr112 => ?_)
                  have hb112 := iv36_0 hI q (by omega) (by omega)
                  refine g_i2l (M := mX10_judge) (pc := 113) (by omega) dX10_judge_113 (k := ?_)
                  refine g_lcmp2 (M := mX10_judge) (pc := 114) (by omega) (by omega) dX10_judge_114 (k := fun c114 hz114 => ?_)
                  refine g_if_eq (M := mX10_judge) (pc := 115) (tgt := 120) (by omega) dX10_judge_115 (k1 := fun h115 => ?_) (k2 := fun h115 => ?_)
                  · skip
                    refine g_iinc_3 (M := mX10_judge) (pc := 120) dX10_judge_120 (k := ?_)
                    refine g_goto (M := mX10_judge) (pc := 123) (tgt := 60) dX10_judge_123 (k := ?_)
                    refine ih60 _ ?_ ?_
                    · omega
                    · skip
                      refine ⟨?_, ?_⟩
                      · omega
                      · first | (rw [Int.sub_zero]; done) | exact (jd_step (by omega) (by unfold fitX; rw [if_neg (by omega), if_pos (by omega)])).symm.trans hx60_0
                  · skip
                    refine g_iload_n (M := mX10_judge) (pc := 118) dX10_judge_118 rfl (k := ?_)
                    refine g_iret (M := mX10_judge) (pc := 119) rfl dX10_judge_119 rfl ⟨_, _, rfl, rfl, ?_⟩
                    refine ⟨?_, ?_, ?_, ?_⟩
                    · omega
                    · unfold judX; first | exact Or.inl ⟨by omega, rfl⟩ | exact Or.inr (Or.inl ⟨by omega, by omega, rfl⟩) | exact Or.inr (Or.inr ⟨by omega, by omega, by first | (rw [show Int.toNat (σ 33 0) = 0 by omega]; rfl) | (rw [jd_first (by omega) (by unfold fitX; rw [if_pos (by omega)]; omega)]; unfold fitX; rw [if_pos (by omega)]; rfl) | (rw [← hx60_0, jd_end (by omega)]) | (rw [← hx60_0, jd_here (by omega) (by unfold fitX; rw [if_pos (by omega)]; omega)]; unfold fitX; rw [if_pos (by omega)]) | (rw [← hx60_0, jd_here (by omega) (by unfold fitX; rw [if_neg (by omega), if_neg (by omega)]; omega)]; unfold fitX; rw [if_neg (by omega), if_neg (by omega)])⟩)
                    · exact hI
                    · exact (Fr.rf)
                · skip
                  refine g_bipush (M := mX10_judge) (pc := 86) dX10_judge_86 (k := ?_)
                  refine g_iload_n (M := mX10_judge) (pc := 88) dX10_judge_88 rfl (k := ?_)
                  refine g_iadd (M := mX10_judge) (pc := 89) dX10_judge_89 (k := ?_)
                  refine g_iret (M := mX10_judge) (pc := 90) rfl dX10_judge_90 rfl ⟨_, _, rfl, rfl, ?_⟩
                  refine ⟨?_, ?_, ?_, ?_⟩
                  · omega
                  · unfold judX; first | exact Or.inl ⟨by omega, rfl⟩ | exact Or.inr (Or.inl ⟨by omega, by omega, rfl⟩) | exact Or.inr (Or.inr ⟨by omega, by omega, by first | (rw [show Int.toNat (σ 33 0) = 0 by omega]; rfl) | (rw [jd_first (by omega) (by unfold fitX; rw [if_pos (by omega)]; omega)]; unfold fitX; rw [if_pos (by omega)]; rfl) | (rw [← hx60_0, jd_end (by omega)]) | (rw [← hx60_0, jd_here (by omega) (by unfold fitX; rw [if_pos (by omega)]; omega)]; unfold fitX; rw [if_pos (by omega)]) | (rw [← hx60_0, jd_here (by omega) (by unfold fitX; rw [if_neg (by omega), if_neg (by omega)]; omega)]; unfold fitX; rw [if_neg (by omega), if_neg (by omega)])⟩)
                  · exact hI
                  · exact (Fr.rf)
          refine loop60 _ _ (Nat.lt_succ_self _) ?_
          refine ⟨?_, ?_⟩
          · omega
          · first | (rw [Int.sub_zero]; done) | exact (jd_step (by omega) (by unfold fitX; rw [if_neg (by omega), if_pos (by omega)])).symm.trans hx60_0
        · skip
          refine g_bipush (M := mX10_judge) (pc := 55) dX10_judge_55 (k := ?_)
          refine g_iret (M := mX10_judge) (pc := 57) rfl dX10_judge_57 rfl ⟨_, _, rfl, rfl, ?_⟩
          refine ⟨?_, ?_, ?_, ?_⟩
          · omega
          · unfold judX; first | exact Or.inl ⟨by omega, rfl⟩ | exact Or.inr (Or.inl ⟨by omega, by omega, rfl⟩) | exact Or.inr (Or.inr ⟨by omega, by omega, by first | (rw [show Int.toNat (σ 33 0) = 0 by omega]; rfl) | (rw [jd_first (by omega) (by unfold fitX; rw [if_pos (by omega)]; omega)]; unfold fitX; rw [if_pos (by omega)]; rfl) | (rw [← hx60_0, jd_end (by omega)]) | (rw [← hx60_0, jd_here (by omega) (by unfold fitX; rw [if_pos (by omega)]; omega)]; unfold fitX; rw [if_pos (by omega)]) | (rw [← hx60_0, jd_here (by omega) (by unfold fitX; rw [if_neg (by omega), if_neg (by omega)]; omega)]; unfold fitX; rw [if_neg (by omega), if_neg (by omega)])⟩)
          · exact hI
          · exact (Fr.rf)
      · skip
        refine g_bipush (M := mX10_judge) (pc := 48) dX10_judge_48 (k := ?_)
        refine g_iret (M := mX10_judge) (pc := 50) rfl dX10_judge_50 rfl ⟨_, _, rfl, rfl, ?_⟩
        refine ⟨?_, ?_, ?_, ?_⟩
        · omega
        · unfold judX; first | exact Or.inl ⟨by omega, rfl⟩ | exact Or.inr (Or.inl ⟨by omega, by omega, rfl⟩) | exact Or.inr (Or.inr ⟨by omega, by omega, by first | (rw [show Int.toNat (σ 33 0) = 0 by omega]; rfl) | (rw [jd_first (by omega) (by unfold fitX; rw [if_pos (by omega)]; omega)]; unfold fitX; rw [if_pos (by omega)]; rfl) | (rw [← hx60_0, jd_end (by omega)]) | (rw [← hx60_0, jd_here (by omega) (by unfold fitX; rw [if_pos (by omega)]; omega)]; unfold fitX; rw [if_pos (by omega)]) | (rw [← hx60_0, jd_here (by omega) (by unfold fitX; rw [if_neg (by omega), if_neg (by omega)]; omega)]; unfold fitX; rw [if_neg (by omega), if_neg (by omega)])⟩)
        · exact hI
        · exact (Fr.rf)
    · skip
      refine g_aload_n (M := mX10_judge) (pc := 23) dX10_judge_23 rfl (k := ?_)
      refine g_getr (M := mX10_judge) (pc := 24) (by rfl) fX10_7 kX10_35 dX10_judge_24 (by rfl) (kk := ?_)
      refine g_getr (M := mX10_judge) (pc := 27) (by rfl) fX6_2 kX10_257 dX10_judge_27 (by rfl) (kk := ?_)
      refine g_iload_n (M := mX10_judge) (pc := 30) dX10_judge_30 rfl (k := ?_)
      refine g_iald (M := mX10_judge) (pc := 31) (by rfl) (by omega) (by omega) dX10_judge_31 (kk := fun hr31 => ?_)
      refine g_if_eq (M := mX10_judge) (pc := 32) (tgt := 38) (by omega) dX10_judge_32 (k1 := fun h32 => ?_) (k2 := fun h32 => ?_)
      · skip
        refine g_aload_n (M := mX10_judge) (pc := 38) dX10_judge_38 rfl (k := ?_)
        refine g_getr (M := mX10_judge) (pc := 39) (by rfl) fX10_0 kX10_42 dX10_judge_39 (by rfl) (kk := ?_)
        refine g_get (M := mX10_judge) (pc := 42) (ji := 0) (by rfl) fX5_0 kX10_185 dX10_judge_42 (kk := fun hr42 => ?_)
        have hb42 := iv33_0 hI 0 (by omega) (by omega)
        refine g_if_ne (M := mX10_judge) (pc := 45) (tgt := 51) (by omega) dX10_judge_45 (k1 := fun h45 => ?_) (k2 := fun h45 => ?_)
        · skip
          refine g_iload_n (M := mX10_judge) (pc := 51) dX10_judge_51 rfl (k := ?_)
          refine g_if_ge (M := mX10_judge) (pc := 52) (tgt := 58) (by omega) dX10_judge_52 (k1 := fun h52 => ?_) (k2 := fun h52 => ?_)
          · skip
            refine g_iconst (M := mX10_judge) (pc := 58) dX10_judge_58 (k := ?_)
            refine g_istore_3 (M := mX10_judge) (pc := 59) dX10_judge_59 (k := ?_)
            have loop60 : ∀ (N : Nat) (q : Int), ((7 - q).toNat) < N → ((0 ≤ q ∧ q ≤ 6) ∧ (jdF (Int.toNat (σ 33 0 - q)) q (fitX σ tp i) = jdF (Int.toNat (σ 33 0)) 0 (fitX σ tp i))) → G Γ mX10_judge 2 (0, 0) (pI 113 (ρT t) (fun r σ' => (R32 r) ∧ (judX σ tp i r) ∧ (InvX σ') ∧ (Fr scX σ σ'))) (0, 0) 60 [some (vR Γ 0), some (vI tp), some (vI i), some (vI q)] [] (113, ρT t, σ) := by
              intro N
              induction N with
              | zero => intro q hmu60 hinv60; exact absurd hmu60 (Nat.not_lt_zero _)
              | succ N ih60 =>
                intro q hmu60 hinv60
                obtain ⟨hb60_q, hx60_0⟩ := hinv60
                refine g_iload_n (M := mX10_judge) (pc := 60) dX10_judge_60 rfl (k := ?_)
                refine g_aload_n (M := mX10_judge) (pc := 61) dX10_judge_61 rfl (k := ?_)
                refine g_getr (M := mX10_judge) (pc := 62) (by rfl) fX10_0 kX10_42 dX10_judge_62 (by rfl) (kk := ?_)
                refine g_get (M := mX10_judge) (pc := 65) (ji := 0) (by rfl) fX5_0 kX10_185 dX10_judge_65 (kk := fun hr65 => ?_)
                refine g_icmp_ge (M := mX10_judge) (pc := 68) (tgt := 126) (by omega) (by omega) dX10_judge_68 (k1 := fun h68 => ?_) (k2 := fun h68 => ?_)
                · skip
                  refine g_bipush (M := mX10_judge) (pc := 126) dX10_judge_126 (k := ?_)
                  refine g_iret (M := mX10_judge) (pc := 128) rfl dX10_judge_128 rfl ⟨_, _, rfl, rfl, ?_⟩
                  refine ⟨?_, ?_, ?_, ?_⟩
                  · omega
                  · unfold judX; first | exact Or.inl ⟨by omega, rfl⟩ | exact Or.inr (Or.inl ⟨by omega, by omega, rfl⟩) | exact Or.inr (Or.inr ⟨by omega, by omega, by first | (rw [show Int.toNat (σ 33 0) = 0 by omega]; rfl) | (rw [jd_first (by omega) (by unfold fitX; rw [if_pos (by omega)]; omega)]; unfold fitX; rw [if_pos (by omega)]; rfl) | (rw [← hx60_0, jd_end (by omega)]) | (rw [← hx60_0, jd_here (by omega) (by unfold fitX; rw [if_pos (by omega)]; omega)]; unfold fitX; rw [if_pos (by omega)]) | (rw [← hx60_0, jd_here (by omega) (by unfold fitX; rw [if_neg (by omega), if_neg (by omega)]; omega)]; unfold fitX; rw [if_neg (by omega), if_neg (by omega)])⟩)
                  · exact hI
                  · exact (Fr.rf)
                · skip
                  refine g_iload_n (M := mX10_judge) (pc := 71) dX10_judge_71 rfl (k := ?_)
                  refine g_aload_n (M := mX10_judge) (pc := 72) dX10_judge_72 rfl (k := ?_)
                  refine g_getr (M := mX10_judge) (pc := 73) (by rfl) fX10_7 kX10_35 dX10_judge_73 (by rfl) (kk := ?_)
                  refine g_getr (M := mX10_judge) (pc := 76) (by rfl) fX6_1 kX10_260 dX10_judge_76 (by rfl) (kk := ?_)
                  refine g_iload_n (M := mX10_judge) (pc := 79) dX10_judge_79 rfl (k := ?_)
                  refine g_iald (M := mX10_judge) (pc := 80) (by rfl) (by omega) (by omega) dX10_judge_80 (kk := fun hr80 => ?_)
                  have hb80 := iv31_0 hI tp (by omega) (by omega)
                  refine g_iload_n (M := mX10_judge) (pc := 81) dX10_judge_81 rfl (k := ?_)
                  refine g_isub (M := mX10_judge) (pc := 82) dX10_judge_82 (k := ?_)
                  refine g_icmp_lt (M := mX10_judge) (pc := 83) (tgt := 91) (by omega) (by omega) dX10_judge_83 (k1 := fun h83 => ?_) (k2 := fun h83 => ?_)
                  · skip
                    refine g_aload_n (M := mX10_judge) (pc := 91) dX10_judge_91 rfl (k := ?_)
                    refine g_getr (M := mX10_judge) (pc := 92) (by rfl) fX10_7 kX10_35 dX10_judge_92 (by rfl) (kk := ?_)
                    refine g_getr (M := mX10_judge) (pc := 95) (by rfl) fX6_0 kX10_263 dX10_judge_95 (by rfl) (kk := ?_)
                    refine g_iload_n (M := mX10_judge) (pc := 98) dX10_judge_98 rfl (k := ?_)
                    refine g_aald (M := mX10_judge) (pc := 99) (by rfl) (by decide) (by omega) (by omega) (items_ref (by omega) (by omega)) dX10_judge_99 (kk := ?_)
                    refine g_iload_n (M := mX10_judge) (pc := 100) dX10_judge_100 rfl (k := ?_)
                    refine g_iload_n (M := mX10_judge) (pc := 101) dX10_judge_101 rfl (k := ?_)
                    refine g_iadd (M := mX10_judge) (pc := 102) dX10_judge_102 (k := ?_)
                    refine g_lald (M := mX10_judge) (pc := 103) (shp_item (by omega) (by omega)) (by omega) (by omega) dX10_judge_103 (hk := by omega) (kk := fun hr103 => ?_)
                    refine g_aload_n (M := mX10_judge) (pc := 104) dX10_judge_104 rfl (k := ?_)
                    refine g_getr (M := mX10_judge) (pc := 105) (by rfl) fX10_0 kX10_42 dX10_judge_105 (by rfl) (kk := ?_)
                    refine g_getr (M := mX10_judge) (pc := 108) (by rfl) fX5_3 kX10_80 dX10_judge_108 (by rfl) (kk := ?_)
                    refine g_iload_n (M := mX10_judge) (pc := 111) dX10_judge_111 rfl (k := ?_)
                    refine g_iald (M := mX10_judge) (pc := 112) (by rfl) (by omega) (by omega) dX10_judge_112 (kk := fun hr112 => ?_)
                    have hb112 := iv36_0 hI q (by omega) (by omega)
                    refine g_i2l (M := mX10_judge) (pc := 113) (by omega) dX10_judge_113 (k := ?_)
                    refine g_lcmp2 (M := mX10_judge) (pc := 114) (by omega) (by omega) dX10_judge_114 (k := fun c114 hz114 => ?_)
                    refine g_if_eq (M := mX10_judge) (pc := 115) (tgt := 120) (by omega) dX10_judge_115 (k1 := fun h115 => ?_) (k2 := fun h115 => ?_)
                    · skip
                      refine g_iinc_3 (M := mX10_judge) (pc := 120) dX10_judge_120 (k := ?_)
                      refine g_goto (M := mX10_judge) (pc := 123) (tgt := 60) dX10_judge_123 (k := ?_)
                      refine ih60 _ ?_ ?_
                      · omega
                      · skip
                        refine ⟨?_, ?_⟩
                        · omega
                        · first | (rw [Int.sub_zero]; done) | exact (jd_step (by omega) (by unfold fitX; rw [if_neg (by omega), if_pos (by omega)])).symm.trans hx60_0
                    · skip
                      refine g_iload_n (M := mX10_judge) (pc := 118) dX10_judge_118 rfl (k := ?_)
                      refine g_iret (M := mX10_judge) (pc := 119) rfl dX10_judge_119 rfl ⟨_, _, rfl, rfl, ?_⟩
                      refine ⟨?_, ?_, ?_, ?_⟩
                      · omega
                      · unfold judX; first | exact Or.inl ⟨by omega, rfl⟩ | exact Or.inr (Or.inl ⟨by omega, by omega, rfl⟩) | exact Or.inr (Or.inr ⟨by omega, by omega, by first | (rw [show Int.toNat (σ 33 0) = 0 by omega]; rfl) | (rw [jd_first (by omega) (by unfold fitX; rw [if_pos (by omega)]; omega)]; unfold fitX; rw [if_pos (by omega)]; rfl) | (rw [← hx60_0, jd_end (by omega)]) | (rw [← hx60_0, jd_here (by omega) (by unfold fitX; rw [if_pos (by omega)]; omega)]; unfold fitX; rw [if_pos (by omega)]) | (rw [← hx60_0, jd_here (by omega) (by unfold fitX; rw [if_neg (by omega), if_neg (by omega)]; omega)]; unfold fitX; rw [if_neg (by omega), if_neg (by omega)])⟩)
                      · exact hI
                      · exact (Fr.rf)
                  · skip
                    refine g_bipush (M := mX10_judge) (pc := 86) dX10_judge_86 (k := ?_)
                    refine g_iload_n (M := mX10_judge) (pc := 88) dX10_judge_88 rfl (k := ?_)
                    refine g_iadd (M := mX10_judge) (pc := 89) dX10_judge_89 (k := ?_)
                    refine g_iret (M := mX10_judge) (pc := 90) rfl dX10_judge_90 rfl ⟨_, _, rfl, rfl, ?_⟩
                    refine ⟨?_, ?_, ?_, ?_⟩
                    · omega
                    · unfold judX; first | exact Or.inl ⟨by omega, rfl⟩ | exact Or.inr (Or.inl ⟨by omega, by omega, rfl⟩) | exact Or.inr (Or.inr ⟨by omega, by omega, by first | (rw [show Int.toNat (σ 33 0) = 0 by omega]; rfl) | (rw [jd_first (by omega) (by unfold fitX; rw [if_pos (by omega)]; omega)]; unfold fitX; rw [if_pos (by omega)]; rfl) | (rw [← hx60_0, jd_end (by omega)]) | (rw [← hx60_0, jd_here (by omega) (by unfold fitX; rw [if_pos (by omega)]; omega)]; unfold fitX; rw [if_pos (by omega)]) | (rw [← hx60_0, jd_here (by omega) (by unfold fitX; rw [if_neg (by omega), if_neg (by omega)]; omega)]; unfold fitX; rw [if_neg (by omega), if_neg (by omega)])⟩)
                    · exact hI
                    · exact (Fr.rf)
            refine loop60 _ _ (Nat.lt_succ_self _) ?_
            refine ⟨?_, ?_⟩
            · omega
            · first | (rw [Int.sub_zero]; done) | exact (jd_step (by omega) (by unfold fitX; rw [if_neg (by omega), if_pos (by omega)])).symm.trans hx60_0
          · skip
            refine g_bipush (M := mX10_judge) (pc := 55) dX10_judge_55 (k := ?_)
            refine g_iret (M := mX10_judge) (pc := 57) rfl dX10_judge_57 rfl ⟨_, _, rfl, rfl, ?_⟩
            refine ⟨?_, ?_, ?_, ?_⟩
            · omega
            · unfold judX; first | exact Or.inl ⟨by omega, rfl⟩ | exact Or.inr (Or.inl ⟨by omega, by omega, rfl⟩) | exact Or.inr (Or.inr ⟨by omega, by omega, by first | (rw [show Int.toNat (σ 33 0) = 0 by omega]; rfl) | (rw [jd_first (by omega) (by unfold fitX; rw [if_pos (by omega)]; omega)]; unfold fitX; rw [if_pos (by omega)]; rfl) | (rw [← hx60_0, jd_end (by omega)]) | (rw [← hx60_0, jd_here (by omega) (by unfold fitX; rw [if_pos (by omega)]; omega)]; unfold fitX; rw [if_pos (by omega)]) | (rw [← hx60_0, jd_here (by omega) (by unfold fitX; rw [if_neg (by omega), if_neg (by omega)]; omega)]; unfold fitX; rw [if_neg (by omega), if_neg (by omega)])⟩)
            · exact hI
            · exact (Fr.rf)
        · skip
          refine g_bipush (M := mX10_judge) (pc := 48) dX10_judge_48 (k := ?_)
          refine g_iret (M := mX10_judge) (pc := 50) rfl dX10_judge_50 rfl ⟨_, _, rfl, rfl, ?_⟩
          refine ⟨?_, ?_, ?_, ?_⟩
          · omega
          · unfold judX; first | exact Or.inl ⟨by omega, rfl⟩ | exact Or.inr (Or.inl ⟨by omega, by omega, rfl⟩) | exact Or.inr (Or.inr ⟨by omega, by omega, by first | (rw [show Int.toNat (σ 33 0) = 0 by omega]; rfl) | (rw [jd_first (by omega) (by unfold fitX; rw [if_pos (by omega)]; omega)]; unfold fitX; rw [if_pos (by omega)]; rfl) | (rw [← hx60_0, jd_end (by omega)]) | (rw [← hx60_0, jd_here (by omega) (by unfold fitX; rw [if_pos (by omega)]; omega)]; unfold fitX; rw [if_pos (by omega)]) | (rw [← hx60_0, jd_here (by omega) (by unfold fitX; rw [if_neg (by omega), if_neg (by omega)]; omega)]; unfold fitX; rw [if_neg (by omega), if_neg (by omega)])⟩)
          · exact hI
          · exact (Fr.rf)
      · skip
        refine g_bipush (M := mX10_judge) (pc := 35) dX10_judge_35 (k := ?_)
        refine g_iret (M := mX10_judge) (pc := 37) rfl dX10_judge_37 rfl ⟨_, _, rfl, rfl, ?_⟩
        refine ⟨?_, ?_, ?_, ?_⟩
        · omega
        · unfold judX; first | exact Or.inl ⟨by omega, rfl⟩ | exact Or.inr (Or.inl ⟨by omega, by omega, rfl⟩) | exact Or.inr (Or.inr ⟨by omega, by omega, by first | (rw [show Int.toNat (σ 33 0) = 0 by omega]; rfl) | (rw [jd_first (by omega) (by unfold fitX; rw [if_pos (by omega)]; omega)]; unfold fitX; rw [if_pos (by omega)]; rfl) | (rw [← hx60_0, jd_end (by omega)]) | (rw [← hx60_0, jd_here (by omega) (by unfold fitX; rw [if_pos (by omega)]; omega)]; unfold fitX; rw [if_pos (by omega)]) | (rw [← hx60_0, jd_here (by omega) (by unfold fitX; rw [if_neg (by omega), if_neg (by omega)]; omega)]; unfold fitX; rw [if_neg (by omega), if_neg (by omega)])⟩)
        · exact hI
        · exact (Fr.rf)
  · skip
    refine g_iconst (M := mX10_judge) (pc := 8) dX10_judge_8 (k := ?_)
    refine g_iret (M := mX10_judge) (pc := 9) rfl dX10_judge_9 rfl ⟨_, _, rfl, rfl, ?_⟩
    refine ⟨?_, ?_, ?_, ?_⟩
    · omega
    · unfold judX; first | exact Or.inl ⟨by omega, rfl⟩ | exact Or.inr (Or.inl ⟨by omega, by omega, rfl⟩) | exact Or.inr (Or.inr ⟨by omega, by omega, by first | (rw [show Int.toNat (σ 33 0) = 0 by omega]; rfl) | (rw [jd_first (by omega) (by unfold fitX; rw [if_pos (by omega)]; omega)]; unfold fitX; rw [if_pos (by omega)]; rfl) | (rw [← hx60_0, jd_end (by omega)]) | (rw [← hx60_0, jd_here (by omega) (by unfold fitX; rw [if_pos (by omega)]; omega)]; unfold fitX; rw [if_pos (by omega)]) | (rw [← hx60_0, jd_here (by omega) (by unfold fitX; rw [if_neg (by omega), if_neg (by omega)]; omega)]; unfold fitX; rw [if_neg (by omega), if_neg (by omega)])⟩)
    · exact hI
    · exact (Fr.rf)
set_option maxHeartbeats 4000000 in
set_option maxRecDepth 20000 in
theorem c_X10_image (Γ : KT) (t : Nat) (σ : Nat → Int → Int)  (hI : InvX σ) : Ct Γ mX10_image 3 (0, 0) [vR Γ 0] (113, ρT t, σ) (pI 113 (ρT t) (fun r σ' => (r = σ 33 0 ∧ σ' 0 2 = 1 ∧ cpP 1 33 σ σ') ∧ (InvX σ') ∧ (Fr scCk σ σ'))) := by
  refine Ct.of rfl (Nat.le_of_ble_eq_true rfl) ?_
  show G Γ mX10_image 3 (0, 0) _ (0, 0) 0 [some (vR Γ 0)] [] (113, ρT t, σ)
  refine g_aload_n (M := mX10_image) (pc := 0) dX10_image_0 rfl (k := ?_)
  refine g_getr (M := mX10_image) (pc := 1) (by rfl) fX10_1 kX10_12 dX10_image_1 (by rfl) (kk := ?_)
  refine g_aload_n (M := mX10_image) (pc := 4) dX10_image_4 rfl (k := ?_)
  refine g_getr (M := mX10_image) (pc := 5) (by rfl) fX10_0 kX10_42 dX10_image_5 (by rfl) (kk := ?_)
  refine g_cV1V (M := mX10_image) (pc := 8) (c_X5_copy_1 Γ t _ hI) qX5_copy vX5_copy sX5_copy kX10_267 dX10_image_8 (kk := ?_)
  rintro τ8 ⟨hx8, hI8, hG8⟩
  have hF8 : Fr scCk σ τ8 := by refine Fr.tr ?_ hG8; exact (Fr.rf)
  refine g_aload_n (M := mX10_image) (pc := 11) dX10_image_11 rfl (k := ?_)
  refine g_iconst (M := mX10_image) (pc := 12) dX10_image_12 (k := ?_)
  refine g_putz (M := mX10_image) (pc := 13) (ji := 2) (by rfl) fX10_2 kX10_271 dX10_image_13 (by omega) (kk := ?_)
  refine g_aload_n (M := mX10_image) (pc := 16) dX10_image_16 rfl (k := ?_)
  refine g_getr (M := mX10_image) (pc := 17) (by rfl) fX10_0 kX10_42 dX10_image_17 (by rfl) (kk := ?_)
  refine g_get (M := mX10_image) (pc := 20) (ji := 0) (by rfl) fX5_0 kX10_185 dX10_image_20 (kk := fun hr20 => ?_)
  simp only [up_same, up_cell, up_slot, ne_eq, not_false_eq_true, Nat.reduceEqDiff, Int.reduceEq, reduceCtorEq, Nat.reduceAdd, Int.reduceAdd, Int.reduceSub] at hr20 ⊢
  have hb20 := iv33_0 hI8 0 (by omega) (by omega)
  refine g_iret (M := mX10_image) (pc := 23) rfl dX10_image_23 rfl ⟨_, _, rfl, rfl, ?_⟩
  refine ⟨?_, ?_, ?_⟩
  · refine ⟨hF8 33 0 rfl, up_same, ?_⟩; unfold cpP at hx8 ⊢; simpa [up] using hx8
  · refine iv_cell ?_ (by rfl); exact hI8
  · refine Fr.up ?_ (by first | rfl | (unfold scCk; simp; try omega)); exact hF8
set_option maxHeartbeats 4000000 in
set_option maxRecDepth 20000 in
theorem c_X10_undo (Γ : KT) (t : Nat) (σ : Nat → Int → Int)  (hI : InvX σ) : Ct Γ mX10_undo 3 (0, 0) [vR Γ 0] (113, ρT t, σ) (pI 113 (ρT t) (fun r σ' => ((σ 0 2 = 0 ∧ r = -3 ∧ σ' = σ) ∨ (σ 0 2 ≠ 0 ∧ r = σ 1 0 ∧ cpP 33 1 σ σ')) ∧ (InvX σ') ∧ (Fr scCn σ σ'))) := by
  refine Ct.of rfl (Nat.le_of_ble_eq_true rfl) ?_
  show G Γ mX10_undo 3 (0, 0) _ (0, 0) 0 [some (vR Γ 0)] [] (113, ρT t, σ)
  refine g_aload_n (M := mX10_undo) (pc := 0) dX10_undo_0 rfl (k := ?_)
  refine g_getz (M := mX10_undo) (pc := 1) (ji := 2) (by rfl) fX10_2 kX10_271 dX10_undo_1 (kk := fun hr1 => ?_)
  refine g_if_ne (M := mX10_undo) (pc := 4) (tgt := 10) (by omega) dX10_undo_4 (k1 := fun h4 => ?_) (k2 := fun h4 => ?_)
  · skip
    refine g_aload_n (M := mX10_undo) (pc := 10) dX10_undo_10 rfl (k := ?_)
    refine g_getr (M := mX10_undo) (pc := 11) (by rfl) fX10_0 kX10_42 dX10_undo_11 (by rfl) (kk := ?_)
    refine g_aload_n (M := mX10_undo) (pc := 14) dX10_undo_14 rfl (k := ?_)
    refine g_getr (M := mX10_undo) (pc := 15) (by rfl) fX10_1 kX10_12 dX10_undo_15 (by rfl) (kk := ?_)
    refine g_cV1V (M := mX10_undo) (pc := 18) (c_X5_copy_33 Γ t _ hI) qX5_copy vX5_copy sX5_copy kX10_267 dX10_undo_18 (kk := ?_)
    rintro τ18 ⟨hx18, hI18, hG18⟩
    have hF18 : Fr scCn σ τ18 := by refine Fr.tr ?_ hG18; exact (Fr.rf)
    refine g_aload_n (M := mX10_undo) (pc := 21) dX10_undo_21 rfl (k := ?_)
    refine g_getr (M := mX10_undo) (pc := 22) (by rfl) fX10_0 kX10_42 dX10_undo_22 (by rfl) (kk := ?_)
    refine g_get (M := mX10_undo) (pc := 25) (ji := 0) (by rfl) fX5_0 kX10_185 dX10_undo_25 (kk := fun hr25 => ?_)
    have hb25 := iv33_0 hI18 0 (by omega) (by omega)
    refine g_iret (M := mX10_undo) (pc := 28) rfl dX10_undo_28 rfl ⟨_, _, rfl, rfl, ?_⟩
    refine ⟨?_, ?_, ?_⟩
    · first | exact Or.inl ⟨by omega, by first | rfl | omega, rfl⟩ | exact Or.inr ⟨by omega, hx18.1, hx18⟩
    · exact hI18
    · exact hF18
  · skip
    refine g_bipush (M := mX10_undo) (pc := 7) dX10_undo_7 (k := ?_)
    refine g_iret (M := mX10_undo) (pc := 9) rfl dX10_undo_9 rfl ⟨_, _, rfl, rfl, ?_⟩
    refine ⟨?_, ?_, ?_⟩
    · first | exact Or.inl ⟨by omega, by first | rfl | omega, rfl⟩ | exact Or.inr ⟨by omega, hx18.1, hx18⟩
    · exact hI
    · exact (Fr.rf)
set_option maxHeartbeats 4000000 in
set_option maxRecDepth 20000 in
theorem c_X10_act (Γ : KT) (t : Nat) (σ : Nat → Int → Int) (h : Int) (a : Int) (x : Int) (hI : InvX σ) (hh : R32 h) (ha : R32 a) (hx : R32 x) : Ct Γ mX10_act 45 (0, 0) [vR Γ 0, vI h, vI a, vI x] (113, ρT t, σ) (pI 113 (ρT t) (fun r σ' => (R32 r) ∧ (actX σ h a x r σ') ∧ (InvX σ') ∧ (Fr scAc σ σ'))) := by
  refine Ct.of rfl (Nat.le_of_ble_eq_true rfl) ?_
  show G Γ mX10_act 45 (0, 0) _ (0, 0) 0 [some (vR Γ 0), some (vI h), some (vI a), some (vI x)] [] (113, ρT t, σ)
  refine g_aload_n (M := mX10_act) (pc := 0) dX10_act_0 rfl (k := ?_)
  refine g_getr (M := mX10_act) (pc := 1) (by rfl) fX10_6 kX10_28 dX10_act_1 (by rfl) (kk := ?_)
  refine g_cV0V (M := mX10_act) (pc := 4) (c_X0_forget Γ t _) qX0_forget vX0_forget sX0_forget kX10_275 dX10_act_4 (kk := ?_)
  rintro _ e; rw [e]; clear e
  refine g_aload_n (M := mX10_act) (pc := 7) dX10_act_7 rfl (k := ?_)
  refine g_getr (M := mX10_act) (pc := 8) (by rfl) fX10_0 kX10_42 dX10_act_8 (by rfl) (kk := ?_)
  refine g_iload_n (M := mX10_act) (pc := 11) dX10_act_11 rfl (k := ?_)
  refine g_cV1I (M := mX10_act) (pc := 12) (c_X5_hasHouse Γ t _ _ (by first | omega | (simp only [up_same, up_cell, up_slot, ne_eq, not_false_eq_true, Nat.reduceEqDiff, Int.reduceEq, reduceCtorEq, Nat.reduceAdd, Int.reduceAdd, Int.reduceSub]; done) | (simp only [up_same, up_cell, up_slot, ne_eq, not_false_eq_true, Nat.reduceEqDiff, Int.reduceEq, reduceCtorEq, Nat.reduceAdd, Int.reduceAdd, Int.reduceSub]; omega))) qX5_hasHouse vX5_hasHouse sX5_hasHouse kX10_66 dX10_act_12 (kk := ?_)
  rintro _ _ ⟨e1, e⟩; rw [e1, e]; clear e1 e
  try simp only [up_same, up_cell, up_slot, ne_eq, not_false_eq_true, Nat.reduceEqDiff, Int.reduceEq, reduceCtorEq, Nat.reduceAdd, Int.reduceAdd, Int.reduceSub]
  have hb12_33 := iv33_0 hI 0 (by omega) (by omega)
  refine g_if_eqB (M := mX10_act) (pc := 15) (tgt := 26) dX10_act_15 (k1 := fun h15 => ?_) (k2 := fun h15 => ?_)
  · skip
    refine g_iconst (M := mX10_act) (pc := 26) dX10_act_26 (k := ?_)
    refine g_iret (M := mX10_act) (pc := 27) rfl dX10_act_27 rfl ⟨_, _, rfl, rfl, ?_⟩
    refine ⟨?_, ?_, ?_, ?_⟩
    · omega
    · unfold actX; first | exact Or.inl ⟨by omega, rfl, rfl, rfl⟩ | exact Or.inr ⟨by omega, congrArg (fun p => w32 p.1) hx39, congrArg (fun p => p.2) hx39⟩
    · refine ivu21 ?_ (by omega) (by omega); exact hI
    · refine Fr.up ?_ (by first | rfl | (unfold scAc; simp; try omega)); exact (Fr.rf)
  · skip
    refine g_iload_n (M := mX10_act) (pc := 18) dX10_act_18 rfl (k := ?_)
    refine g_iconst (M := mX10_act) (pc := 19) dX10_act_19 (k := ?_)
    refine g_cS2I (M := mX10_act) (pc := 20) (c_X10_isUpTo Γ t _ _ _ (by first | omega | (simp only [up_same, up_cell, up_slot, ne_eq, not_false_eq_true, Nat.reduceEqDiff, Int.reduceEq, reduceCtorEq, Nat.reduceAdd, Int.reduceAdd, Int.reduceSub]; done) | (simp only [up_same, up_cell, up_slot, ne_eq, not_false_eq_true, Nat.reduceEqDiff, Int.reduceEq, reduceCtorEq, Nat.reduceAdd, Int.reduceAdd, Int.reduceSub]; omega)) (by first | omega | (simp only [up_same, up_cell, up_slot, ne_eq, not_false_eq_true, Nat.reduceEqDiff, Int.reduceEq, reduceCtorEq, Nat.reduceAdd, Int.reduceAdd, Int.reduceSub]; done) | (simp only [up_same, up_cell, up_slot, ne_eq, not_false_eq_true, Nat.reduceEqDiff, Int.reduceEq, reduceCtorEq, Nat.reduceAdd, Int.reduceAdd, Int.reduceSub]; omega))) qX10_isUpTo vX10_isUpTo kX10_58 dX10_act_20 (kk := ?_)
    rintro _ _ ⟨e1, e⟩; rw [e1, e]; clear e1 e
    refine g_if_neB (M := mX10_act) (pc := 23) (tgt := 28) dX10_act_23 (k1 := fun h23 => ?_) (k2 := fun h23 => ?_)
    · skip
      refine g_aload_n (M := mX10_act) (pc := 28) dX10_act_28 rfl (k := ?_)
      refine g_getr (M := mX10_act) (pc := 29) (by rfl) fX10_6 kX10_28 dX10_act_29 (by rfl) (kk := ?_)
      refine g_aload_n (M := mX10_act) (pc := 32) dX10_act_32 rfl (k := ?_)
      refine g_getr (M := mX10_act) (pc := 33) (by rfl) fX10_0 kX10_42 dX10_act_33 (by rfl) (kk := ?_)
      refine g_iload_n (M := mX10_act) (pc := 36) dX10_act_36 rfl (k := ?_)
      refine g_iload_n (M := mX10_act) (pc := 37) dX10_act_37 rfl (k := ?_)
      refine g_iload_n (M := mX10_act) (pc := 38) dX10_act_38 rfl (k := ?_)
      refine g_cV4I (M := mX10_act) (pc := 39) (c_X0_start Γ t _ _ _ _ (by refine ivu21 ?_ (by omega) (by omega); exact hI) (by first | omega | (simp only [up_same, up_cell, up_slot, ne_eq, not_false_eq_true, Nat.reduceEqDiff, Int.reduceEq, reduceCtorEq, Nat.reduceAdd, Int.reduceAdd, Int.reduceSub]; done) | (simp only [up_same, up_cell, up_slot, ne_eq, not_false_eq_true, Nat.reduceEqDiff, Int.reduceEq, reduceCtorEq, Nat.reduceAdd, Int.reduceAdd, Int.reduceSub]; omega)) (by first | omega | (simp only [up_same, up_cell, up_slot, ne_eq, not_false_eq_true, Nat.reduceEqDiff, Int.reduceEq, reduceCtorEq, Nat.reduceAdd, Int.reduceAdd, Int.reduceSub]; done) | (simp only [up_same, up_cell, up_slot, ne_eq, not_false_eq_true, Nat.reduceEqDiff, Int.reduceEq, reduceCtorEq, Nat.reduceAdd, Int.reduceAdd, Int.reduceSub]; omega)) (by first | omega | (simp only [up_same, up_cell, up_slot, ne_eq, not_false_eq_true, Nat.reduceEqDiff, Int.reduceEq, reduceCtorEq, Nat.reduceAdd, Int.reduceAdd, Int.reduceSub]; done) | (simp only [up_same, up_cell, up_slot, ne_eq, not_false_eq_true, Nat.reduceEqDiff, Int.reduceEq, reduceCtorEq, Nat.reduceAdd, Int.reduceAdd, Int.reduceSub]; omega))) qX0_start vX0_start sX0_start kX10_278 dX10_act_39 (kk := ?_)
      rintro r39 τ39 ⟨hx39, hI39, hG39⟩
      try simp only [up_same, up_cell, up_slot, ne_eq, not_false_eq_true, Nat.reduceEqDiff, Int.reduceEq, reduceCtorEq, Nat.reduceAdd, Int.reduceAdd, Int.reduceSub] at hx39
      have hF39 : Fr scAc σ τ39 := by refine Fr.tr ?_ hG39; refine Fr.up ?_ (by first | rfl | (unfold scAc; simp; try omega)); exact (Fr.rf)
      refine g_wrapE (k := ?_)
      have hz39 := w32R (r39)
      refine g_iret (M := mX10_act) (pc := 42) rfl dX10_act_42 rfl ⟨_, _, rfl, rfl, ?_⟩
      refine ⟨?_, ?_, ?_, ?_⟩
      · omega
      · unfold actX; first | exact Or.inl ⟨by omega, rfl, rfl, rfl⟩ | exact Or.inr ⟨by omega, congrArg (fun p => w32 p.1) hx39, congrArg (fun p => p.2) hx39⟩
      · exact hI39
      · exact hF39
    · skip
      refine g_iconst (M := mX10_act) (pc := 26) dX10_act_26 (k := ?_)
      refine g_iret (M := mX10_act) (pc := 27) rfl dX10_act_27 rfl ⟨_, _, rfl, rfl, ?_⟩
      refine ⟨?_, ?_, ?_, ?_⟩
      · omega
      · unfold actX; first | exact Or.inl ⟨by omega, rfl, rfl, rfl⟩ | exact Or.inr ⟨by omega, congrArg (fun p => w32 p.1) hx39, congrArg (fun p => p.2) hx39⟩
      · refine ivu21 ?_ (by omega) (by omega); exact hI
      · refine Fr.up ?_ (by first | rfl | (unfold scAc; simp; try omega)); exact (Fr.rf)
set_option maxHeartbeats 4000000 in
set_option maxRecDepth 20000 in
theorem c_X10_trace (Γ : KT) (t : Nat) (σ : Nat → Int → Int) (i : Int) (hI : InvX σ) (hi : R32 i) : Ct Γ mX10_trace 3 (0, 0) [vR Γ 0, vI i] (113, ρT t, σ) (pI 113 (ρT t) (fun r σ' => (R32 r) ∧ ((0 ≤ i ∧ i < σ 21 1 ∧ i < 20 ∧ r = σ 22 i) ∨ (¬ (0 ≤ i ∧ i < σ 21 1 ∧ i < 20) ∧ r = -1)) ∧ (InvX σ') ∧ (Fr scX σ σ'))) := by
  refine Ct.of rfl (Nat.le_of_ble_eq_true rfl) ?_
  show G Γ mX10_trace 3 (0, 0) _ (0, 0) 0 [some (vR Γ 0), some (vI i)] [] (113, ρT t, σ)
  refine g_aload_n (M := mX10_trace) (pc := 0) dX10_trace_0 rfl (k := ?_)
  refine g_getr (M := mX10_trace) (pc := 1) (by rfl) fX10_6 kX10_28 dX10_trace_1 (by rfl) (kk := ?_)
  refine g_iload_n (M := mX10_trace) (pc := 4) dX10_trace_4 rfl (k := ?_)
  refine g_cV1I (M := mX10_trace) (pc := 5) (c_X0_begun Γ t _ _ hI (by omega)) qX0_begun vX0_begun sX0_begun kX10_282 dX10_trace_5 (kk := ?_)
  rintro r5 _ ⟨hi5, hx5, e⟩; rw [e]; clear e
  refine g_iret (M := mX10_trace) (pc := 8) rfl dX10_trace_8 rfl ⟨_, _, rfl, rfl, ?_⟩
  refine ⟨?_, ?_, ?_, ?_⟩
  · omega
  · omega
  · exact hI
  · exact (Fr.rf)
set_option maxHeartbeats 4000000 in
set_option maxRecDepth 20000 in
theorem c_X10_taken (Γ : KT) (t : Nat) (σ : Nat → Int → Int) (h : Int) (k : Int) (hI : InvX σ) (hh : R32 h) (hk : R32 k) : Ct Γ mX10_taken 3 (0, 0) [vR Γ 0, vI h, vI k] (113, ρT t, σ) (pI 113 (ρT t) (fun r σ' => (R32 r) ∧ (takenX σ h k r σ') ∧ (InvX σ') ∧ (Fr scX σ σ'))) := by
  refine Ct.of rfl (Nat.le_of_ble_eq_true rfl) ?_
  show G Γ mX10_taken 3 (0, 0) _ (0, 0) 0 [some (vR Γ 0), some (vI h), some (vI k), none] [] (113, ρT t, σ)
  refine g_iload_n (M := mX10_taken) (pc := 0) dX10_taken_0 rfl (k := ?_)
  refine g_bipush (M := mX10_taken) (pc := 1) dX10_taken_1 (k := ?_)
  refine g_cS2I (M := mX10_taken) (pc := 3) (c_X10_isUpTo Γ t _ _ _ (by omega) (by omega)) qX10_isUpTo vX10_isUpTo kX10_58 dX10_taken_3 (kk := ?_)
  rintro _ _ ⟨e1, e⟩; rw [e1, e]; clear e1 e
  refine g_if_neB (M := mX10_taken) (pc := 6) (tgt := 12) dX10_taken_6 (k1 := fun h6 => ?_) (k2 := fun h6 => ?_)
  · skip
    refine g_aload_n (M := mX10_taken) (pc := 12) dX10_taken_12 rfl (k := ?_)
    refine g_getr (M := mX10_taken) (pc := 13) (by rfl) fX10_0 kX10_42 dX10_taken_13 (by rfl) (kk := ?_)
    refine g_iload_n (M := mX10_taken) (pc := 16) dX10_taken_16 rfl (k := ?_)
    refine g_cV1I (M := mX10_taken) (pc := 17) (c_X5_hasHouse Γ t _ _ (by omega)) qX5_hasHouse vX5_hasHouse sX5_hasHouse kX10_66 dX10_taken_17 (kk := ?_)
    rintro _ _ ⟨e1, e⟩; rw [e1, e]; clear e1 e
    have hb17_33 := iv33_0 hI 0 (by omega) (by omega)
    refine g_if_neB (M := mX10_taken) (pc := 20) (tgt := 26) dX10_taken_20 (k1 := fun h20 => ?_) (k2 := fun h20 => ?_)
    · skip
      refine g_aload_n (M := mX10_taken) (pc := 26) dX10_taken_26 rfl (k := ?_)
      refine g_getr (M := mX10_taken) (pc := 27) (by rfl) fX10_0 kX10_42 dX10_taken_27 (by rfl) (kk := ?_)
      refine g_getr (M := mX10_taken) (pc := 30) (by rfl) fX5_1 kX10_73 dX10_taken_30 (by rfl) (kk := ?_)
      refine g_iload_n (M := mX10_taken) (pc := 33) dX10_taken_33 rfl (k := ?_)
      refine g_iald (M := mX10_taken) (pc := 34) (by rfl) (by omega) (by omega) dX10_taken_34 (kk := fun hr34 => ?_)
      have hb34 := iv34_0 hI h (by omega) (by omega)
      refine g_istore_3 (M := mX10_taken) (pc := 35) dX10_taken_35 (k := ?_)
      refine g_iload_n (M := mX10_taken) (pc := 36) dX10_taken_36 rfl (k := ?_)
      refine g_iload_n (M := mX10_taken) (pc := 37) dX10_taken_37 rfl (k := ?_)
      refine g_cS2I (M := mX10_taken) (pc := 38) (c_X10_isUnder Γ t _ _ _ (by omega) (by omega)) qX10_isUnder vX10_isUnder kX10_285 dX10_taken_38 (kk := ?_)
      rintro r38 _ ⟨hu38, e⟩; rw [e]; clear e
      have hut : r38 = 0 ∨ undB (σ 34 h) k = true := hu38.elim (fun e => Or.inr e.2) (fun e => Or.inl e.1)
      have huf : r38 ≠ 0 ∨ undB (σ 34 h) k = false := hu38.elim (fun e => Or.inl (by omega)) (fun e => Or.inr e.2)
      refine g_if_eq (M := mX10_taken) (pc := 41) (tgt := 48) (by omega) dX10_taken_41 (k1 := fun h41 => ?_) (k2 := fun h41 => ?_)
      · skip
        have huk := huf.resolve_left (by omega)
        refine g_bipush (M := mX10_taken) (pc := 48) dX10_taken_48 (k := ?_)
        refine g_iret (M := mX10_taken) (pc := 50) rfl dX10_taken_50 rfl ⟨_, _, rfl, rfl, ?_⟩
        refine ⟨?_, ?_, ?_, ?_⟩
        · omega
        · unfold takenX; first | exact Or.inl ⟨by first | omega | (refine ⟨by omega, by omega, ?_⟩; assumption), by first | rfl | omega, by first | rfl | (rw [show n = 1 by omega]; done) | (rw [show n = 0 by omega]; done) | (rw [show z = 1 by omega]; done) | (rw [show z = 0 by omega]; done) | (unfold zwith; first | rw [if_pos (by omega)] | rw [if_neg (by omega)])⟩ | exact Or.inr (Or.inl ⟨by first | omega | (refine ⟨by omega, by omega, ?_⟩; assumption), by first | rfl | omega, by first | rfl | (rw [show n = 1 by omega]; done) | (rw [show n = 0 by omega]; done) | (rw [show z = 1 by omega]; done) | (rw [show z = 0 by omega]; done) | (unfold zwith; first | rw [if_pos (by omega)] | rw [if_neg (by omega)])⟩) | exact Or.inr (Or.inr (Or.inl ⟨by first | omega | (refine ⟨by omega, by omega, ?_⟩; assumption), by first | rfl | omega, by first | rfl | (rw [show n = 1 by omega]; done) | (rw [show n = 0 by omega]; done) | (rw [show z = 1 by omega]; done) | (rw [show z = 0 by omega]; done) | (unfold zwith; first | rw [if_pos (by omega)] | rw [if_neg (by omega)])⟩)) | exact Or.inr (Or.inr (Or.inr (⟨by first | omega | (refine ⟨by omega, by omega, ?_⟩; assumption), by first | rfl | omega, by first | rfl | (rw [show n = 1 by omega]; done) | (rw [show n = 0 by omega]; done) | (rw [show z = 1 by omega]; done) | (rw [show z = 0 by omega]; done) | (unfold zwith; first | rw [if_pos (by omega)] | rw [if_neg (by omega)])⟩)))
        · exact hI
        · exact (Fr.rf)
      · skip
        have huk := hut.resolve_left (by omega)
        refine g_iload_n (M := mX10_taken) (pc := 44) dX10_taken_44 rfl (k := ?_)
        refine g_goto (M := mX10_taken) (pc := 45) (tgt := 50) dX10_taken_45 (k := ?_)
        refine g_iret (M := mX10_taken) (pc := 50) rfl dX10_taken_50 rfl ⟨_, _, rfl, rfl, ?_⟩
        refine ⟨?_, ?_, ?_, ?_⟩
        · omega
        · unfold takenX; first | exact Or.inl ⟨by first | omega | (refine ⟨by omega, by omega, ?_⟩; assumption), by first | rfl | omega, by first | rfl | (rw [show n = 1 by omega]; done) | (rw [show n = 0 by omega]; done) | (rw [show z = 1 by omega]; done) | (rw [show z = 0 by omega]; done) | (unfold zwith; first | rw [if_pos (by omega)] | rw [if_neg (by omega)])⟩ | exact Or.inr (Or.inl ⟨by first | omega | (refine ⟨by omega, by omega, ?_⟩; assumption), by first | rfl | omega, by first | rfl | (rw [show n = 1 by omega]; done) | (rw [show n = 0 by omega]; done) | (rw [show z = 1 by omega]; done) | (rw [show z = 0 by omega]; done) | (unfold zwith; first | rw [if_pos (by omega)] | rw [if_neg (by omega)])⟩) | exact Or.inr (Or.inr (Or.inl ⟨by first | omega | (refine ⟨by omega, by omega, ?_⟩; assumption), by first | rfl | omega, by first | rfl | (rw [show n = 1 by omega]; done) | (rw [show n = 0 by omega]; done) | (rw [show z = 1 by omega]; done) | (rw [show z = 0 by omega]; done) | (unfold zwith; first | rw [if_pos (by omega)] | rw [if_neg (by omega)])⟩)) | exact Or.inr (Or.inr (Or.inr (⟨by first | omega | (refine ⟨by omega, by omega, ?_⟩; assumption), by first | rfl | omega, by first | rfl | (rw [show n = 1 by omega]; done) | (rw [show n = 0 by omega]; done) | (rw [show z = 1 by omega]; done) | (rw [show z = 0 by omega]; done) | (unfold zwith; first | rw [if_pos (by omega)] | rw [if_neg (by omega)])⟩)))
        · exact hI
        · exact (Fr.rf)
    · skip
      refine g_bipush (M := mX10_taken) (pc := 23) dX10_taken_23 (k := ?_)
      refine g_iret (M := mX10_taken) (pc := 25) rfl dX10_taken_25 rfl ⟨_, _, rfl, rfl, ?_⟩
      refine ⟨?_, ?_, ?_, ?_⟩
      · omega
      · unfold takenX; first | exact Or.inl ⟨by first | omega | (refine ⟨by omega, by omega, ?_⟩; assumption), by first | rfl | omega, by first | rfl | (rw [show n = 1 by omega]; done) | (rw [show n = 0 by omega]; done) | (rw [show z = 1 by omega]; done) | (rw [show z = 0 by omega]; done) | (unfold zwith; first | rw [if_pos (by omega)] | rw [if_neg (by omega)])⟩ | exact Or.inr (Or.inl ⟨by first | omega | (refine ⟨by omega, by omega, ?_⟩; assumption), by first | rfl | omega, by first | rfl | (rw [show n = 1 by omega]; done) | (rw [show n = 0 by omega]; done) | (rw [show z = 1 by omega]; done) | (rw [show z = 0 by omega]; done) | (unfold zwith; first | rw [if_pos (by omega)] | rw [if_neg (by omega)])⟩) | exact Or.inr (Or.inr (Or.inl ⟨by first | omega | (refine ⟨by omega, by omega, ?_⟩; assumption), by first | rfl | omega, by first | rfl | (rw [show n = 1 by omega]; done) | (rw [show n = 0 by omega]; done) | (rw [show z = 1 by omega]; done) | (rw [show z = 0 by omega]; done) | (unfold zwith; first | rw [if_pos (by omega)] | rw [if_neg (by omega)])⟩)) | exact Or.inr (Or.inr (Or.inr (⟨by first | omega | (refine ⟨by omega, by omega, ?_⟩; assumption), by first | rfl | omega, by first | rfl | (rw [show n = 1 by omega]; done) | (rw [show n = 0 by omega]; done) | (rw [show z = 1 by omega]; done) | (rw [show z = 0 by omega]; done) | (unfold zwith; first | rw [if_pos (by omega)] | rw [if_neg (by omega)])⟩)))
      · exact hI
      · exact (Fr.rf)
  · skip
    refine g_bipush (M := mX10_taken) (pc := 9) dX10_taken_9 (k := ?_)
    refine g_iret (M := mX10_taken) (pc := 11) rfl dX10_taken_11 rfl ⟨_, _, rfl, rfl, ?_⟩
    refine ⟨?_, ?_, ?_, ?_⟩
    · omega
    · unfold takenX; first | exact Or.inl ⟨by first | omega | (refine ⟨by omega, by omega, ?_⟩; assumption), by first | rfl | omega, by first | rfl | (rw [show n = 1 by omega]; done) | (rw [show n = 0 by omega]; done) | (rw [show z = 1 by omega]; done) | (rw [show z = 0 by omega]; done) | (unfold zwith; first | rw [if_pos (by omega)] | rw [if_neg (by omega)])⟩ | exact Or.inr (Or.inl ⟨by first | omega | (refine ⟨by omega, by omega, ?_⟩; assumption), by first | rfl | omega, by first | rfl | (rw [show n = 1 by omega]; done) | (rw [show n = 0 by omega]; done) | (rw [show z = 1 by omega]; done) | (rw [show z = 0 by omega]; done) | (unfold zwith; first | rw [if_pos (by omega)] | rw [if_neg (by omega)])⟩) | exact Or.inr (Or.inr (Or.inl ⟨by first | omega | (refine ⟨by omega, by omega, ?_⟩; assumption), by first | rfl | omega, by first | rfl | (rw [show n = 1 by omega]; done) | (rw [show n = 0 by omega]; done) | (rw [show z = 1 by omega]; done) | (rw [show z = 0 by omega]; done) | (unfold zwith; first | rw [if_pos (by omega)] | rw [if_neg (by omega)])⟩)) | exact Or.inr (Or.inr (Or.inr (⟨by first | omega | (refine ⟨by omega, by omega, ?_⟩; assumption), by first | rfl | omega, by first | rfl | (rw [show n = 1 by omega]; done) | (rw [show n = 0 by omega]; done) | (rw [show z = 1 by omega]; done) | (rw [show z = 0 by omega]; done) | (unfold zwith; first | rw [if_pos (by omega)] | rw [if_neg (by omega)])⟩)))
    · exact hI
    · exact (Fr.rf)
set_option maxHeartbeats 4000000 in
set_option maxRecDepth 20000 in
theorem c_X10_count (Γ : KT) (t : Nat) (σ : Nat → Int → Int) (w : Int) (hI : InvX σ) (hw : R32 w) : Ct Γ mX10_count 1 (0, 0) [vR Γ 0, vI w] (113, ρT t, σ) (pI 113 (ρT t) (fun r σ' => (InvX σ') ∧ (Fr scX σ σ'))) := by
  refine Ct.of rfl (Nat.le_of_ble_eq_true rfl) ?_
  show G Γ mX10_count 1 (0, 0) _ (0, 0) 0 [some (vR Γ 0), some (vI w)] [] (113, ρT t, σ)
  refine g_iload_n (M := mX10_count) (pc := 0) dX10_count_0 rfl (k := ?_)
  by_cases hsw1 : w < 0 ∨ 7 < w
  · skip
    refine g_tableOut (M := mX10_count) (pc := 1) (tgt := 121) (by omega) dX10_count_1 (h := hsw1) (k := ?_)
    refine g_bipush (M := mX10_count) (pc := 121) dX10_count_121 (k := ?_)
    refine g_iret (M := mX10_count) (pc := 123) rfl dX10_count_123 rfl ⟨_, _, rfl, rfl, ?_⟩
    refine ⟨?_, ?_⟩
    · exact hI
    · exact (Fr.rf)
  · obtain hc1 | hc1 | hc1 | hc1 | hc1 | hc1 | hc1 | hc1 : w = 0 ∨ w = 1 ∨ w = 2 ∨ w = 3 ∨ w = 4 ∨ w = 5 ∨ w = 6 ∨ w = 7 := by omega
    · skip
      refine g_tableIn (M := mX10_count) (pc := 1) (tgt := 48) (by omega) dX10_count_1 (0) hc1 (k := ?_)
      refine g_aload_n (M := mX10_count) (pc := 48) dX10_count_48 rfl (k := ?_)
      refine g_getr (M := mX10_count) (pc := 49) (by rfl) fX10_0 kX10_42 dX10_count_49 (by rfl) (kk := ?_)
      refine g_get (M := mX10_count) (pc := 52) (ji := 0) (by rfl) fX5_0 kX10_185 dX10_count_52 (kk := fun hr52 => ?_)
      have hb52 := iv33_0 hI 0 (by omega) (by omega)
      refine g_iret (M := mX10_count) (pc := 55) rfl dX10_count_55 rfl ⟨_, _, rfl, rfl, ?_⟩
      refine ⟨?_, ?_⟩
      · exact hI
      · exact (Fr.rf)
    · skip
      refine g_tableIn (M := mX10_count) (pc := 1) (tgt := 56) (by omega) dX10_count_1 (1) hc1 (k := ?_)
      refine g_aload_n (M := mX10_count) (pc := 56) dX10_count_56 rfl (k := ?_)
      refine g_getr (M := mX10_count) (pc := 57) (by rfl) fX10_0 kX10_42 dX10_count_57 (by rfl) (kk := ?_)
      refine g_get (M := mX10_count) (pc := 60) (ji := 6) (by rfl) fX5_6 kX10_245 dX10_count_60 (kk := fun hr60 => ?_)
      have hb60 := iv33_6 hI 6 (by omega) (by omega)
      refine g_iret (M := mX10_count) (pc := 63) rfl dX10_count_63 rfl ⟨_, _, rfl, rfl, ?_⟩
      refine ⟨?_, ?_⟩
      · exact hI
      · exact (Fr.rf)
    · skip
      refine g_tableIn (M := mX10_count) (pc := 1) (tgt := 64) (by omega) dX10_count_1 (2) hc1 (k := ?_)
      refine g_aload_n (M := mX10_count) (pc := 64) dX10_count_64 rfl (k := ?_)
      refine g_getr (M := mX10_count) (pc := 65) (by rfl) fX10_4 kX10_45 dX10_count_65 (by rfl) (kk := ?_)
      refine g_get (M := mX10_count) (pc := 68) (ji := 3) (by rfl) fX9_3 kX10_120 dX10_count_68 (kk := fun hr68 => ?_)
      have hb68 := iv51_3 hI 3 (by omega) (by omega)
      refine g_iret (M := mX10_count) (pc := 71) rfl dX10_count_71 rfl ⟨_, _, rfl, rfl, ?_⟩
      refine ⟨?_, ?_⟩
      · exact hI
      · exact (Fr.rf)
    · skip
      refine g_tableIn (M := mX10_count) (pc := 1) (tgt := 72) (by omega) dX10_count_1 (3) hc1 (k := ?_)
      refine g_aload_n (M := mX10_count) (pc := 72) dX10_count_72 rfl (k := ?_)
      refine g_getr (M := mX10_count) (pc := 73) (by rfl) fX10_0 kX10_42 dX10_count_73 (by rfl) (kk := ?_)
      refine g_getr (M := mX10_count) (pc := 76) (by rfl) fX5_10 kX10_168 dX10_count_76 (by rfl) (kk := ?_)
      refine g_get (M := mX10_count) (pc := 79) (ji := 2) (by rfl) fX4_2 kX10_288 dX10_count_79 (kk := fun hr79 => ?_)
      have hb79 := iv42_2 hI 2 (by omega) (by omega)
      refine g_iret (M := mX10_count) (pc := 82) rfl dX10_count_82 rfl ⟨_, _, rfl, rfl, ?_⟩
      refine ⟨?_, ?_⟩
      · exact hI
      · exact (Fr.rf)
    · skip
      refine g_tableIn (M := mX10_count) (pc := 1) (tgt := 83) (by omega) dX10_count_1 (4) hc1 (k := ?_)
      refine g_aload_n (M := mX10_count) (pc := 83) dX10_count_83 rfl (k := ?_)
      refine g_getr (M := mX10_count) (pc := 84) (by rfl) fX10_0 kX10_42 dX10_count_84 (by rfl) (kk := ?_)
      refine g_getr (M := mX10_count) (pc := 87) (by rfl) fX5_11 kX10_222 dX10_count_87 (by rfl) (kk := ?_)
      refine g_get (M := mX10_count) (pc := 90) (ji := 2) (by rfl) fX4_2 kX10_288 dX10_count_90 (kk := fun hr90 => ?_)
      have hb90 := iv45_2 hI 2 (by omega) (by omega)
      refine g_iret (M := mX10_count) (pc := 93) rfl dX10_count_93 rfl ⟨_, _, rfl, rfl, ?_⟩
      refine ⟨?_, ?_⟩
      · exact hI
      · exact (Fr.rf)
    · skip
      refine g_tableIn (M := mX10_count) (pc := 1) (tgt := 94) (by omega) dX10_count_1 (5) hc1 (k := ?_)
      refine g_aload_n (M := mX10_count) (pc := 94) dX10_count_94 rfl (k := ?_)
      refine g_getr (M := mX10_count) (pc := 95) (by rfl) fX10_0 kX10_42 dX10_count_95 (by rfl) (kk := ?_)
      refine g_getr (M := mX10_count) (pc := 98) (by rfl) fX5_12 kX10_251 dX10_count_98 (by rfl) (kk := ?_)
      refine g_get (M := mX10_count) (pc := 101) (ji := 2) (by rfl) fX4_2 kX10_288 dX10_count_101 (kk := fun hr101 => ?_)
      have hb101 := iv48_2 hI 2 (by omega) (by omega)
      refine g_iret (M := mX10_count) (pc := 104) rfl dX10_count_104 rfl ⟨_, _, rfl, rfl, ?_⟩
      refine ⟨?_, ?_⟩
      · exact hI
      · exact (Fr.rf)
    · skip
      refine g_tableIn (M := mX10_count) (pc := 1) (tgt := 105) (by omega) dX10_count_1 (6) hc1 (k := ?_)
      refine g_aload_n (M := mX10_count) (pc := 105) dX10_count_105 rfl (k := ?_)
      refine g_getr (M := mX10_count) (pc := 106) (by rfl) fX10_3 kX10_21 dX10_count_106 (by rfl) (kk := ?_)
      refine g_get (M := mX10_count) (pc := 109) (ji := 1) (by rfl) fX7_1 kX10_132 dX10_count_109 (kk := fun hr109 => ?_)
      have hb109 := iv19_1 hI 1 (by omega) (by omega)
      refine g_iret (M := mX10_count) (pc := 112) rfl dX10_count_112 rfl ⟨_, _, rfl, rfl, ?_⟩
      refine ⟨?_, ?_⟩
      · exact hI
      · exact (Fr.rf)
    · skip
      refine g_tableIn (M := mX10_count) (pc := 1) (tgt := 113) (by omega) dX10_count_1 (7) hc1 (k := ?_)
      refine g_aload_n (M := mX10_count) (pc := 113) dX10_count_113 rfl (k := ?_)
      refine g_getr (M := mX10_count) (pc := 114) (by rfl) fX10_6 kX10_28 dX10_count_114 (by rfl) (kk := ?_)
      refine g_get (M := mX10_count) (pc := 117) (ji := 1) (by rfl) fX0_1 kX10_289 dX10_count_117 (kk := fun hr117 => ?_)
      have hb117 := iv21_1 hI 1 (by omega) (by omega)
      refine g_iret (M := mX10_count) (pc := 120) rfl dX10_count_120 rfl ⟨_, _, rfl, rfl, ?_⟩
      refine ⟨?_, ?_⟩
      · exact hI
      · exact (Fr.rf)
set_option maxHeartbeats 4000000 in
set_option maxRecDepth 20000 in
theorem c_X10_tape (Γ : KT) (t : Nat) (σ : Nat → Int → Int) (tp : Int) (s : Int) (n : Int) (hI : InvX σ) (htp : R32 tp) (hs : R32 s) (hn : R32 n) : Ct Γ mX10_tape 3 (0, 0) [vR Γ 0, vI tp, vI s, vI n] (113, ρT t, σ) (pI 113 (ρT t) (fun r σ' => (r = tapeF tp s n) ∧ ((¬ tapeOK tp s n ∧ σ' = σ) ∨ (tapeOK tp s n ∧ becX σ tp s (lenF s n) σ')) ∧ (InvX σ') ∧ (Fr scTp σ σ'))) := by
  refine Ct.of rfl (Nat.le_of_ble_eq_true rfl) ?_
  show G Γ mX10_tape 3 (0, 0) _ (0, 0) 0 [some (vR Γ 0), some (vI tp), some (vI s), some (vI n)] [] (113, ρT t, σ)
  refine g_iload_n (M := mX10_tape) (pc := 0) dX10_tape_0 rfl (k := ?_)
  refine g_iconst (M := mX10_tape) (pc := 1) dX10_tape_1 (k := ?_)
  refine g_cS2I (M := mX10_tape) (pc := 2) (c_X10_isUpTo Γ t _ _ _ (by omega) (by omega)) qX10_isUpTo vX10_isUpTo kX10_58 dX10_tape_2 (kk := ?_)
  rintro _ _ ⟨e1, e⟩; rw [e1, e]; clear e1 e
  refine g_if_neB (M := mX10_tape) (pc := 5) (tgt := 10) dX10_tape_5 (k1 := fun h5 => ?_) (k2 := fun h5 => ?_)
  · skip
    refine g_iload_n (M := mX10_tape) (pc := 10) dX10_tape_10 rfl (k := ?_)
    refine g_iconst (M := mX10_tape) (pc := 11) dX10_tape_11 (k := ?_)
    refine g_icmp_ne (M := mX10_tape) (pc := 12) (tgt := 26) (by omega) (by omega) dX10_tape_12 (k1 := fun h12 => ?_) (k2 := fun h12 => ?_)
    · skip
      refine g_iload_n (M := mX10_tape) (pc := 26) dX10_tape_26 rfl (k := ?_)
      refine g_iconst (M := mX10_tape) (pc := 27) dX10_tape_27 (k := ?_)
      refine g_cS2I (M := mX10_tape) (pc := 28) (c_X10_isUpTo Γ t _ _ _ (by omega) (by omega)) qX10_isUpTo vX10_isUpTo kX10_58 dX10_tape_28 (kk := ?_)
      rintro _ _ ⟨e1, e⟩; rw [e1, e]; clear e1 e
      refine g_if_eqB (M := mX10_tape) (pc := 31) (tgt := 40) dX10_tape_31 (k1 := fun h31 => ?_) (k2 := fun h31 => ?_)
      · skip
        refine g_bipush (M := mX10_tape) (pc := 40) dX10_tape_40 (k := ?_)
        refine g_iret (M := mX10_tape) (pc := 42) rfl dX10_tape_42 rfl ⟨_, _, rfl, rfl, ?_⟩
        refine ⟨?_, ?_, ?_, ?_⟩
        · unfold tapeF; repeat (first | rw [if_pos (by omega)] | rw [if_neg (by omega)]); try omega
        · first | exact Or.inl ⟨by unfold tapeOK; omega, rfl⟩ | exact Or.inr ⟨by unfold tapeOK; omega, by rw [show lenF s n = 0 from if_pos (by omega), show s = -1 by omega]; exact hx22⟩ | exact Or.inr ⟨by unfold tapeOK; omega, by rw [show lenF s n = n from if_neg (by omega)]; exact hx57⟩
        · exact hI
        · exact (Fr.rf)
      · skip
        refine g_iload_n (M := mX10_tape) (pc := 34) dX10_tape_34 rfl (k := ?_)
        refine g_bipush (M := mX10_tape) (pc := 35) dX10_tape_35 (k := ?_)
        refine g_icmp_le (M := mX10_tape) (pc := 37) (tgt := 43) (by omega) (by omega) dX10_tape_37 (k1 := fun h37 => ?_) (k2 := fun h37 => ?_)
        · skip
          refine g_iload_n (M := mX10_tape) (pc := 43) dX10_tape_43 rfl (k := ?_)
          refine g_if_ge (M := mX10_tape) (pc := 44) (tgt := 50) (by omega) dX10_tape_44 (k1 := fun h44 => ?_) (k2 := fun h44 => ?_)
          · skip
            refine g_aload_n (M := mX10_tape) (pc := 50) dX10_tape_50 rfl (k := ?_)
            refine g_getr (M := mX10_tape) (pc := 51) (by rfl) fX10_7 kX10_35 dX10_tape_51 (by rfl) (kk := ?_)
            refine g_iload_n (M := mX10_tape) (pc := 54) dX10_tape_54 rfl (k := ?_)
            refine g_iload_n (M := mX10_tape) (pc := 55) dX10_tape_55 rfl (k := ?_)
            refine g_iload_n (M := mX10_tape) (pc := 56) dX10_tape_56 rfl (k := ?_)
            refine g_cV3I (M := mX10_tape) (pc := 57) (c_X6_become Γ t _ _ _ _ hI (by omega) (by omega) (by omega)) qX6_become vX6_become sX6_become kX10_292 dX10_tape_57 (kk := ?_)
            rintro r57 τ57 ⟨hi57, hx57, hI57, hG57⟩
            have hF57 : Fr scTp σ τ57 := by refine Fr.tr ?_ hG57; exact (Fr.rf)
            refine g_iret (M := mX10_tape) (pc := 60) rfl dX10_tape_60 rfl ⟨_, _, rfl, rfl, ?_⟩
            refine ⟨?_, ?_, ?_, ?_⟩
            · unfold tapeF; repeat (first | rw [if_pos (by omega)] | rw [if_neg (by omega)]); try omega
            · first | exact Or.inl ⟨by unfold tapeOK; omega, rfl⟩ | exact Or.inr ⟨by unfold tapeOK; omega, by rw [show lenF s n = 0 from if_pos (by omega), show s = -1 by omega]; exact hx22⟩ | exact Or.inr ⟨by unfold tapeOK; omega, by rw [show lenF s n = n from if_neg (by omega)]; exact hx57⟩
            · exact hI57
            · exact hF57
          · skip
            refine g_bipush (M := mX10_tape) (pc := 47) dX10_tape_47 (k := ?_)
            refine g_iret (M := mX10_tape) (pc := 49) rfl dX10_tape_49 rfl ⟨_, _, rfl, rfl, ?_⟩
            refine ⟨?_, ?_, ?_, ?_⟩
            · unfold tapeF; repeat (first | rw [if_pos (by omega)] | rw [if_neg (by omega)]); try omega
            · first | exact Or.inl ⟨by unfold tapeOK; omega, rfl⟩ | exact Or.inr ⟨by unfold tapeOK; omega, by rw [show lenF s n = 0 from if_pos (by omega), show s = -1 by omega]; exact hx22⟩ | exact Or.inr ⟨by unfold tapeOK; omega, by rw [show lenF s n = n from if_neg (by omega)]; exact hx57⟩
            · exact hI
            · exact (Fr.rf)
        · skip
          refine g_bipush (M := mX10_tape) (pc := 40) dX10_tape_40 (k := ?_)
          refine g_iret (M := mX10_tape) (pc := 42) rfl dX10_tape_42 rfl ⟨_, _, rfl, rfl, ?_⟩
          refine ⟨?_, ?_, ?_, ?_⟩
          · unfold tapeF; repeat (first | rw [if_pos (by omega)] | rw [if_neg (by omega)]); try omega
          · first | exact Or.inl ⟨by unfold tapeOK; omega, rfl⟩ | exact Or.inr ⟨by unfold tapeOK; omega, by rw [show lenF s n = 0 from if_pos (by omega), show s = -1 by omega]; exact hx22⟩ | exact Or.inr ⟨by unfold tapeOK; omega, by rw [show lenF s n = n from if_neg (by omega)]; exact hx57⟩
          · exact hI
          · exact (Fr.rf)
    · skip
      refine g_aload_n (M := mX10_tape) (pc := 15) dX10_tape_15 rfl (k := ?_)
      refine g_getr (M := mX10_tape) (pc := 16) (by rfl) fX10_7 kX10_35 dX10_tape_16 (by rfl) (kk := ?_)
      refine g_iload_n (M := mX10_tape) (pc := 19) dX10_tape_19 rfl (k := ?_)
      refine g_iconst (M := mX10_tape) (pc := 20) dX10_tape_20 (k := ?_)
      refine g_iconst (M := mX10_tape) (pc := 21) dX10_tape_21 (k := ?_)
      refine g_cV3I (M := mX10_tape) (pc := 22) (c_X6_become Γ t _ _ _ _ hI (by omega) (by omega) (by omega)) qX6_become vX6_become sX6_become kX10_292 dX10_tape_22 (kk := ?_)
      rintro r22 τ22 ⟨hi22, hx22, hI22, hG22⟩
      have hF22 : Fr scTp σ τ22 := by refine Fr.tr ?_ hG22; exact (Fr.rf)
      refine g_iret (M := mX10_tape) (pc := 25) rfl dX10_tape_25 rfl ⟨_, _, rfl, rfl, ?_⟩
      refine ⟨?_, ?_, ?_, ?_⟩
      · unfold tapeF; repeat (first | rw [if_pos (by omega)] | rw [if_neg (by omega)]); try omega
      · first | exact Or.inl ⟨by unfold tapeOK; omega, rfl⟩ | exact Or.inr ⟨by unfold tapeOK; omega, by rw [show lenF s n = 0 from if_pos (by omega), show s = -1 by omega]; exact hx22⟩ | exact Or.inr ⟨by unfold tapeOK; omega, by rw [show lenF s n = n from if_neg (by omega)]; exact hx57⟩
      · exact hI22
      · exact hF22
  · skip
    refine g_iconst (M := mX10_tape) (pc := 8) dX10_tape_8 (k := ?_)
    refine g_iret (M := mX10_tape) (pc := 9) rfl dX10_tape_9 rfl ⟨_, _, rfl, rfl, ?_⟩
    refine ⟨?_, ?_, ?_, ?_⟩
    · unfold tapeF; repeat (first | rw [if_pos (by omega)] | rw [if_neg (by omega)]); try omega
    · first | exact Or.inl ⟨by unfold tapeOK; omega, rfl⟩ | exact Or.inr ⟨by unfold tapeOK; omega, by rw [show lenF s n = 0 from if_pos (by omega), show s = -1 by omega]; exact hx22⟩ | exact Or.inr ⟨by unfold tapeOK; omega, by rw [show lenF s n = n from if_neg (by omega)]; exact hx57⟩
    · exact hI
    · exact (Fr.rf)
set_option maxHeartbeats 4000000 in
set_option maxRecDepth 20000 in
theorem c_X10_item (Γ : KT) (t : Nat) (σ : Nat → Int → Int) (t5 : Int) (i : Int) (v : Int) (hI : InvX σ) (htp : R32 t5) (hi : R32 i) (hv : R64 v) : Ct Γ mX10_item 2 (0, 0) [vR Γ 0, vI t5, vI i, vL v] (113, ρT t, σ) (pI 113 (ρT t) (fun r σ' => (R32 r) ∧ (itemX σ t5 i v r σ') ∧ (InvX σ') ∧ (Fr scTp σ σ'))) := by
  refine Ct.of rfl (Nat.le_of_ble_eq_true rfl) ?_
  show G Γ mX10_item 2 (0, 0) _ (0, 0) 0 [some (vR Γ 0), some (vI t5), some (vI i), some (vL v), none] [] (113, ρT t, σ)
  refine g_iload_n (M := mX10_item) (pc := 0) dX10_item_0 rfl (k := ?_)
  refine g_iconst (M := mX10_item) (pc := 1) dX10_item_1 (k := ?_)
  refine g_cS2I (M := mX10_item) (pc := 2) (c_X10_isUpTo Γ t _ _ _ (by omega) (by omega)) qX10_isUpTo vX10_isUpTo kX10_58 dX10_item_2 (kk := ?_)
  rintro _ _ ⟨e1, e⟩; rw [e1, e]; clear e1 e
  refine g_if_neB (M := mX10_item) (pc := 5) (tgt := 10) dX10_item_5 (k1 := fun h5 => ?_) (k2 := fun h5 => ?_)
  · skip
    refine g_aload_n (M := mX10_item) (pc := 10) dX10_item_10 rfl (k := ?_)
    refine g_getr (M := mX10_item) (pc := 11) (by rfl) fX10_7 kX10_35 dX10_item_11 (by rfl) (kk := ?_)
    refine g_getr (M := mX10_item) (pc := 14) (by rfl) fX6_2 kX10_257 dX10_item_14 (by rfl) (kk := ?_)
    refine g_iload_n (M := mX10_item) (pc := 17) dX10_item_17 rfl (k := ?_)
    refine g_iald (M := mX10_item) (pc := 18) (by rfl) (by omega) (by omega) dX10_item_18 (kk := fun hr18 => ?_)
    have hb18 := iv32_0 hI t5 (by omega) (by omega)
    refine g_iconst (M := mX10_item) (pc := 19) dX10_item_19 (k := ?_)
    refine g_icmp_ne (M := mX10_item) (pc := 20) (tgt := 26) (by omega) (by omega) dX10_item_20 (k1 := fun h20 => ?_) (k2 := fun h20 => ?_)
    · skip
      refine g_iload_n (M := mX10_item) (pc := 26) dX10_item_26 rfl (k := ?_)
      refine g_aload_n (M := mX10_item) (pc := 27) dX10_item_27 rfl (k := ?_)
      refine g_getr (M := mX10_item) (pc := 28) (by rfl) fX10_7 kX10_35 dX10_item_28 (by rfl) (kk := ?_)
      refine g_getr (M := mX10_item) (pc := 31) (by rfl) fX6_1 kX10_260 dX10_item_31 (by rfl) (kk := ?_)
      refine g_iload_n (M := mX10_item) (pc := 34) dX10_item_34 rfl (k := ?_)
      refine g_iald (M := mX10_item) (pc := 35) (by rfl) (by omega) (by omega) dX10_item_35 (kk := fun hr35 => ?_)
      have hb35 := iv31_0 hI t5 (by omega) (by omega)
      refine g_iconst (M := mX10_item) (pc := 36) dX10_item_36 (k := ?_)
      refine g_isub (M := mX10_item) (pc := 37) dX10_item_37 (k := ?_)
      refine g_cS2I (M := mX10_item) (pc := 38) (c_X10_isUpTo Γ t _ _ _ (by omega) (by omega)) qX10_isUpTo vX10_isUpTo kX10_58 dX10_item_38 (kk := ?_)
      rintro _ _ ⟨e1, e⟩; rw [e1, e]; clear e1 e
      refine g_if_neB (M := mX10_item) (pc := 41) (tgt := 47) dX10_item_41 (k1 := fun h41 => ?_) (k2 := fun h41 => ?_)
      · skip
        refine g_aload_n (M := mX10_item) (pc := 47) dX10_item_47 rfl (k := ?_)
        refine g_getr (M := mX10_item) (pc := 48) (by rfl) fX10_7 kX10_35 dX10_item_48 (by rfl) (kk := ?_)
        refine g_getr (M := mX10_item) (pc := 51) (by rfl) fX6_0 kX10_263 dX10_item_51 (by rfl) (kk := ?_)
        refine g_iload_n (M := mX10_item) (pc := 54) dX10_item_54 rfl (k := ?_)
        refine g_aald (M := mX10_item) (pc := 55) (by rfl) (by decide) (by omega) (by omega) (items_ref (by omega) (by omega)) dX10_item_55 (kk := ?_)
        refine g_iload_n (M := mX10_item) (pc := 56) dX10_item_56 rfl (k := ?_)
        refine g_aload_n (M := mX10_item) (pc := 57) dX10_item_57 rfl (k := ?_)
        refine g_getr (M := mX10_item) (pc := 58) (by rfl) fX10_7 kX10_35 dX10_item_58 (by rfl) (kk := ?_)
        refine g_getr (M := mX10_item) (pc := 61) (by rfl) fX6_2 kX10_257 dX10_item_61 (by rfl) (kk := ?_)
        refine g_iload_n (M := mX10_item) (pc := 64) dX10_item_64 rfl (k := ?_)
        refine g_iald (M := mX10_item) (pc := 65) (by rfl) (by omega) (by omega) dX10_item_65 (kk := fun hr65 => ?_)
        refine g_lload_n (M := mX10_item) (pc := 66) dX10_item_66 rfl (k := ?_)
        refine g_cS2L (M := mX10_item) (pc := 67) (c_X6_cut Γ t _ _ _ (by omega) (by omega)) qX6_cut vX6_cut kX10_295 dX10_item_67 (kk := ?_)
        rintro _ _ ⟨e1, e⟩; rw [e1, e]; clear e1 e
        have hq67_0 := cutFR (s := (σ 32 t5)) (v := v) (by omega)
        refine g_last (M := mX10_item) (pc := 70) (shp_item (by omega) (by omega)) (by omega) (by omega) (by omega) dX10_item_70 (hk := by omega) (kk := ?_)
        refine g_iconst (M := mX10_item) (pc := 71) dX10_item_71 (k := ?_)
        refine g_iret (M := mX10_item) (pc := 72) rfl dX10_item_72 rfl ⟨_, _, rfl, rfl, ?_⟩
        refine ⟨?_, ?_, ?_, ?_⟩
        · omega
        · unfold itemX; first | exact Or.inl ⟨by first | omega | (refine ⟨by omega, by omega, ?_⟩; assumption), by first | rfl | omega, by first | rfl | (rw [show n = 1 by omega]; done) | (rw [show n = 0 by omega]; done) | (rw [show z = 1 by omega]; done) | (rw [show z = 0 by omega]; done) | (unfold zwith; first | rw [if_pos (by omega)] | rw [if_neg (by omega)])⟩ | exact Or.inr (Or.inl ⟨by first | omega | (refine ⟨by omega, by omega, ?_⟩; assumption), by first | rfl | omega, by first | rfl | (rw [show n = 1 by omega]; done) | (rw [show n = 0 by omega]; done) | (rw [show z = 1 by omega]; done) | (rw [show z = 0 by omega]; done) | (unfold zwith; first | rw [if_pos (by omega)] | rw [if_neg (by omega)])⟩) | exact Or.inr (Or.inr (Or.inl ⟨by first | omega | (refine ⟨by omega, by omega, ?_⟩; assumption), by first | rfl | omega, by first | rfl | (rw [show n = 1 by omega]; done) | (rw [show n = 0 by omega]; done) | (rw [show z = 1 by omega]; done) | (rw [show z = 0 by omega]; done) | (unfold zwith; first | rw [if_pos (by omega)] | rw [if_neg (by omega)])⟩)) | exact Or.inr (Or.inr (Or.inr (⟨by first | omega | (refine ⟨by omega, by omega, ?_⟩; assumption), by first | rfl | omega, by first | rfl | (rw [show n = 1 by omega]; done) | (rw [show n = 0 by omega]; done) | (rw [show z = 1 by omega]; done) | (rw [show z = 0 by omega]; done) | (unfold zwith; first | rw [if_pos (by omega)] | rw [if_neg (by omega)])⟩)))
        · refine iv_cellV ?_ (by first | omega | decide); exact hI
        · refine Fr.up ?_ (by first | rfl | (unfold scTp; simp; try omega)); exact (Fr.rf)
      · skip
        refine g_bipush (M := mX10_item) (pc := 44) dX10_item_44 (k := ?_)
        refine g_iret (M := mX10_item) (pc := 46) rfl dX10_item_46 rfl ⟨_, _, rfl, rfl, ?_⟩
        refine ⟨?_, ?_, ?_, ?_⟩
        · omega
        · unfold itemX; first | exact Or.inl ⟨by first | omega | (refine ⟨by omega, by omega, ?_⟩; assumption), by first | rfl | omega, by first | rfl | (rw [show n = 1 by omega]; done) | (rw [show n = 0 by omega]; done) | (rw [show z = 1 by omega]; done) | (rw [show z = 0 by omega]; done) | (unfold zwith; first | rw [if_pos (by omega)] | rw [if_neg (by omega)])⟩ | exact Or.inr (Or.inl ⟨by first | omega | (refine ⟨by omega, by omega, ?_⟩; assumption), by first | rfl | omega, by first | rfl | (rw [show n = 1 by omega]; done) | (rw [show n = 0 by omega]; done) | (rw [show z = 1 by omega]; done) | (rw [show z = 0 by omega]; done) | (unfold zwith; first | rw [if_pos (by omega)] | rw [if_neg (by omega)])⟩) | exact Or.inr (Or.inr (Or.inl ⟨by first | omega | (refine ⟨by omega, by omega, ?_⟩; assumption), by first | rfl | omega, by first | rfl | (rw [show n = 1 by omega]; done) | (rw [show n = 0 by omega]; done) | (rw [show z = 1 by omega]; done) | (rw [show z = 0 by omega]; done) | (unfold zwith; first | rw [if_pos (by omega)] | rw [if_neg (by omega)])⟩)) | exact Or.inr (Or.inr (Or.inr (⟨by first | omega | (refine ⟨by omega, by omega, ?_⟩; assumption), by first | rfl | omega, by first | rfl | (rw [show n = 1 by omega]; done) | (rw [show n = 0 by omega]; done) | (rw [show z = 1 by omega]; done) | (rw [show z = 0 by omega]; done) | (unfold zwith; first | rw [if_pos (by omega)] | rw [if_neg (by omega)])⟩)))
        · exact hI
        · exact (Fr.rf)
    · skip
      refine g_bipush (M := mX10_item) (pc := 23) dX10_item_23 (k := ?_)
      refine g_iret (M := mX10_item) (pc := 25) rfl dX10_item_25 rfl ⟨_, _, rfl, rfl, ?_⟩
      refine ⟨?_, ?_, ?_, ?_⟩
      · omega
      · unfold itemX; first | exact Or.inl ⟨by first | omega | (refine ⟨by omega, by omega, ?_⟩; assumption), by first | rfl | omega, by first | rfl | (rw [show n = 1 by omega]; done) | (rw [show n = 0 by omega]; done) | (rw [show z = 1 by omega]; done) | (rw [show z = 0 by omega]; done) | (unfold zwith; first | rw [if_pos (by omega)] | rw [if_neg (by omega)])⟩ | exact Or.inr (Or.inl ⟨by first | omega | (refine ⟨by omega, by omega, ?_⟩; assumption), by first | rfl | omega, by first | rfl | (rw [show n = 1 by omega]; done) | (rw [show n = 0 by omega]; done) | (rw [show z = 1 by omega]; done) | (rw [show z = 0 by omega]; done) | (unfold zwith; first | rw [if_pos (by omega)] | rw [if_neg (by omega)])⟩) | exact Or.inr (Or.inr (Or.inl ⟨by first | omega | (refine ⟨by omega, by omega, ?_⟩; assumption), by first | rfl | omega, by first | rfl | (rw [show n = 1 by omega]; done) | (rw [show n = 0 by omega]; done) | (rw [show z = 1 by omega]; done) | (rw [show z = 0 by omega]; done) | (unfold zwith; first | rw [if_pos (by omega)] | rw [if_neg (by omega)])⟩)) | exact Or.inr (Or.inr (Or.inr (⟨by first | omega | (refine ⟨by omega, by omega, ?_⟩; assumption), by first | rfl | omega, by first | rfl | (rw [show n = 1 by omega]; done) | (rw [show n = 0 by omega]; done) | (rw [show z = 1 by omega]; done) | (rw [show z = 0 by omega]; done) | (unfold zwith; first | rw [if_pos (by omega)] | rw [if_neg (by omega)])⟩)))
      · exact hI
      · exact (Fr.rf)
  · skip
    refine g_iconst (M := mX10_item) (pc := 8) dX10_item_8 (k := ?_)
    refine g_iret (M := mX10_item) (pc := 9) rfl dX10_item_9 rfl ⟨_, _, rfl, rfl, ?_⟩
    refine ⟨?_, ?_, ?_, ?_⟩
    · omega
    · unfold itemX; first | exact Or.inl ⟨by first | omega | (refine ⟨by omega, by omega, ?_⟩; assumption), by first | rfl | omega, by first | rfl | (rw [show n = 1 by omega]; done) | (rw [show n = 0 by omega]; done) | (rw [show z = 1 by omega]; done) | (rw [show z = 0 by omega]; done) | (unfold zwith; first | rw [if_pos (by omega)] | rw [if_neg (by omega)])⟩ | exact Or.inr (Or.inl ⟨by first | omega | (refine ⟨by omega, by omega, ?_⟩; assumption), by first | rfl | omega, by first | rfl | (rw [show n = 1 by omega]; done) | (rw [show n = 0 by omega]; done) | (rw [show z = 1 by omega]; done) | (rw [show z = 0 by omega]; done) | (unfold zwith; first | rw [if_pos (by omega)] | rw [if_neg (by omega)])⟩) | exact Or.inr (Or.inr (Or.inl ⟨by first | omega | (refine ⟨by omega, by omega, ?_⟩; assumption), by first | rfl | omega, by first | rfl | (rw [show n = 1 by omega]; done) | (rw [show n = 0 by omega]; done) | (rw [show z = 1 by omega]; done) | (rw [show z = 0 by omega]; done) | (unfold zwith; first | rw [if_pos (by omega)] | rw [if_neg (by omega)])⟩)) | exact Or.inr (Or.inr (Or.inr (⟨by first | omega | (refine ⟨by omega, by omega, ?_⟩; assumption), by first | rfl | omega, by first | rfl | (rw [show n = 1 by omega]; done) | (rw [show n = 0 by omega]; done) | (rw [show z = 1 by omega]; done) | (rw [show z = 0 by omega]; done) | (unfold zwith; first | rw [if_pos (by omega)] | rw [if_neg (by omega)])⟩)))
    · exact hI
    · exact (Fr.rf)
set_option maxHeartbeats 4000000 in
set_option maxRecDepth 20000 in
theorem c_X10_read (Γ : KT) (t : Nat) (σ : Nat → Int → Int) (t5 : Int) (i : Int) (hI : InvX σ) (ht5 : R32 t5) (hi : R32 i) : Ct Γ mX10_read 2 (0, 0) [vR Γ 0, vI t5, vI i] (113, ρT t, σ) (pL 113 (ρT t) (fun r σ' => (R64 r) ∧ (readX σ t5 i r σ') ∧ (InvX σ') ∧ (Fr scX σ σ'))) := by
  refine Ct.of rfl (Nat.le_of_ble_eq_true rfl) ?_
  show G Γ mX10_read 2 (0, 0) _ (0, 0) 0 [some (vR Γ 0), some (vI t5), some (vI i)] [] (113, ρT t, σ)
  refine g_iload_n (M := mX10_read) (pc := 0) dX10_read_0 rfl (k := ?_)
  refine g_iconst (M := mX10_read) (pc := 1) dX10_read_1 (k := ?_)
  refine g_cS2I (M := mX10_read) (pc := 2) (c_X10_isUpTo Γ t _ _ _ (by omega) (by omega)) qX10_isUpTo vX10_isUpTo kX10_58 dX10_read_2 (kk := ?_)
  rintro _ _ ⟨e1, e⟩; rw [e1, e]; clear e1 e
  refine g_if_eqB (M := mX10_read) (pc := 5) (tgt := 26) dX10_read_5 (k1 := fun h5 => ?_) (k2 := fun h5 => ?_)
  · skip
    refine g_ldc2 (M := mX10_read) (pc := 26) (x := -9223372036854775808) kX10_234 dX10_read_26 (k := ?_)
    refine g_lret (M := mX10_read) (pc := 29) rfl dX10_read_29 rfl ⟨_, _, rfl, rfl, ?_⟩
    refine ⟨?_, ?_, ?_, ?_⟩
    · omega
    · unfold readX; first | exact Or.inl ⟨by first | omega | (refine ⟨by omega, by omega, ?_⟩; assumption), by first | rfl | omega, by first | rfl | (rw [show n = 1 by omega]; done) | (rw [show n = 0 by omega]; done) | (rw [show z = 1 by omega]; done) | (rw [show z = 0 by omega]; done) | (unfold zwith; first | rw [if_pos (by omega)] | rw [if_neg (by omega)])⟩ | exact Or.inr (Or.inl ⟨by first | omega | (refine ⟨by omega, by omega, ?_⟩; assumption), by first | rfl | omega, by first | rfl | (rw [show n = 1 by omega]; done) | (rw [show n = 0 by omega]; done) | (rw [show z = 1 by omega]; done) | (rw [show z = 0 by omega]; done) | (unfold zwith; first | rw [if_pos (by omega)] | rw [if_neg (by omega)])⟩) | exact Or.inr (Or.inr (⟨by first | omega | (refine ⟨by omega, by omega, ?_⟩; assumption), by first | rfl | omega, by first | rfl | (rw [show n = 1 by omega]; done) | (rw [show n = 0 by omega]; done) | (rw [show z = 1 by omega]; done) | (rw [show z = 0 by omega]; done) | (unfold zwith; first | rw [if_pos (by omega)] | rw [if_neg (by omega)])⟩))
    · exact hI
    · exact (Fr.rf)
  · skip
    refine g_iload_n (M := mX10_read) (pc := 8) dX10_read_8 rfl (k := ?_)
    refine g_aload_n (M := mX10_read) (pc := 9) dX10_read_9 rfl (k := ?_)
    refine g_getr (M := mX10_read) (pc := 10) (by rfl) fX10_7 kX10_35 dX10_read_10 (by rfl) (kk := ?_)
    refine g_getr (M := mX10_read) (pc := 13) (by rfl) fX6_1 kX10_260 dX10_read_13 (by rfl) (kk := ?_)
    refine g_iload_n (M := mX10_read) (pc := 16) dX10_read_16 rfl (k := ?_)
    refine g_iald (M := mX10_read) (pc := 17) (by rfl) (by omega) (by omega) dX10_read_17 (kk := fun hr17 => ?_)
    have hb17 := iv31_0 hI t5 (by omega) (by omega)
    refine g_iconst (M := mX10_read) (pc := 18) dX10_read_18 (k := ?_)
    refine g_isub (M := mX10_read) (pc := 19) dX10_read_19 (k := ?_)
    refine g_cS2I (M := mX10_read) (pc := 20) (c_X10_isUpTo Γ t _ _ _ (by omega) (by omega)) qX10_isUpTo vX10_isUpTo kX10_58 dX10_read_20 (kk := ?_)
    rintro _ _ ⟨e1, e⟩; rw [e1, e]; clear e1 e
    refine g_if_neB (M := mX10_read) (pc := 23) (tgt := 30) dX10_read_23 (k1 := fun h23 => ?_) (k2 := fun h23 => ?_)
    · skip
      refine g_aload_n (M := mX10_read) (pc := 30) dX10_read_30 rfl (k := ?_)
      refine g_getr (M := mX10_read) (pc := 31) (by rfl) fX10_7 kX10_35 dX10_read_31 (by rfl) (kk := ?_)
      refine g_getr (M := mX10_read) (pc := 34) (by rfl) fX6_0 kX10_263 dX10_read_34 (by rfl) (kk := ?_)
      refine g_iload_n (M := mX10_read) (pc := 37) dX10_read_37 rfl (k := ?_)
      refine g_aald (M := mX10_read) (pc := 38) (by rfl) (by decide) (by omega) (by omega) (items_ref (by omega) (by omega)) dX10_read_38 (kk := ?_)
      refine g_iload_n (M := mX10_read) (pc := 39) dX10_read_39 rfl (k := ?_)
      refine g_lald (M := mX10_read) (pc := 40) (shp_item (by omega) (by omega)) (by omega) (by omega) dX10_read_40 (hk := by omega) (kk := fun hr40 => ?_)
      refine g_lret (M := mX10_read) (pc := 41) rfl dX10_read_41 rfl ⟨_, _, rfl, rfl, ?_⟩
      refine ⟨?_, ?_, ?_, ?_⟩
      · omega
      · unfold readX; first | exact Or.inl ⟨by first | omega | (refine ⟨by omega, by omega, ?_⟩; assumption), by first | rfl | omega, by first | rfl | (rw [show n = 1 by omega]; done) | (rw [show n = 0 by omega]; done) | (rw [show z = 1 by omega]; done) | (rw [show z = 0 by omega]; done) | (unfold zwith; first | rw [if_pos (by omega)] | rw [if_neg (by omega)])⟩ | exact Or.inr (Or.inl ⟨by first | omega | (refine ⟨by omega, by omega, ?_⟩; assumption), by first | rfl | omega, by first | rfl | (rw [show n = 1 by omega]; done) | (rw [show n = 0 by omega]; done) | (rw [show z = 1 by omega]; done) | (rw [show z = 0 by omega]; done) | (unfold zwith; first | rw [if_pos (by omega)] | rw [if_neg (by omega)])⟩) | exact Or.inr (Or.inr (⟨by first | omega | (refine ⟨by omega, by omega, ?_⟩; assumption), by first | rfl | omega, by first | rfl | (rw [show n = 1 by omega]; done) | (rw [show n = 0 by omega]; done) | (rw [show z = 1 by omega]; done) | (rw [show z = 0 by omega]; done) | (unfold zwith; first | rw [if_pos (by omega)] | rw [if_neg (by omega)])⟩))
      · exact hI
      · exact (Fr.rf)
    · skip
      refine g_ldc2 (M := mX10_read) (pc := 26) (x := -9223372036854775808) kX10_234 dX10_read_26 (k := ?_)
      refine g_lret (M := mX10_read) (pc := 29) rfl dX10_read_29 rfl ⟨_, _, rfl, rfl, ?_⟩
      refine ⟨?_, ?_, ?_, ?_⟩
      · omega
      · unfold readX; first | exact Or.inl ⟨by first | omega | (refine ⟨by omega, by omega, ?_⟩; assumption), by first | rfl | omega, by first | rfl | (rw [show n = 1 by omega]; done) | (rw [show n = 0 by omega]; done) | (rw [show z = 1 by omega]; done) | (rw [show z = 0 by omega]; done) | (unfold zwith; first | rw [if_pos (by omega)] | rw [if_neg (by omega)])⟩ | exact Or.inr (Or.inl ⟨by first | omega | (refine ⟨by omega, by omega, ?_⟩; assumption), by first | rfl | omega, by first | rfl | (rw [show n = 1 by omega]; done) | (rw [show n = 0 by omega]; done) | (rw [show z = 1 by omega]; done) | (rw [show z = 0 by omega]; done) | (unfold zwith; first | rw [if_pos (by omega)] | rw [if_neg (by omega)])⟩) | exact Or.inr (Or.inr (⟨by first | omega | (refine ⟨by omega, by omega, ?_⟩; assumption), by first | rfl | omega, by first | rfl | (rw [show n = 1 by omega]; done) | (rw [show n = 0 by omega]; done) | (rw [show z = 1 by omega]; done) | (rw [show z = 0 by omega]; done) | (unfold zwith; first | rw [if_pos (by omega)] | rw [if_neg (by omega)])⟩))
      · exact hI
      · exact (Fr.rf)
set_option maxHeartbeats 4000000 in
set_option maxRecDepth 20000 in
theorem c_X10_shift (Γ : KT) (t : Nat) (σ : Nat → Int → Int) (tp : Int) (i : Int) (o : Int) (j : Int) (n : Int) (hI : InvX σ) (htp : R32 tp) (hi : R32 i) (ho : R32 o) (hj : R32 j) (hn : R32 n) : Ct Γ mX10_shift 2 (0, 0) [vR Γ 0, vI tp, vI i, vI o, vI j, vI n] (113, ρT t, σ) (pI 113 (ρT t) (fun r σ' => (R32 r) ∧ (shiftX σ tp i o j n r σ') ∧ (InvX σ') ∧ (Fr scTp σ σ'))) := by
  refine Ct.of rfl (Nat.le_of_ble_eq_true rfl) ?_
  show G Γ mX10_shift 2 (0, 0) _ (0, 0) 0 [some (vR Γ 0), some (vI tp), some (vI i), some (vI o), some (vI j), some (vI n)] [] (113, ρT t, σ)
  refine g_iload_n (M := mX10_shift) (pc := 0) dX10_shift_0 rfl (k := ?_)
  refine g_iconst (M := mX10_shift) (pc := 1) dX10_shift_1 (k := ?_)
  refine g_cS2I (M := mX10_shift) (pc := 2) (c_X10_isUpTo Γ t _ _ _ (by omega) (by omega)) qX10_isUpTo vX10_isUpTo kX10_58 dX10_shift_2 (kk := ?_)
  rintro _ _ ⟨e1, e⟩; rw [e1, e]; clear e1 e
  refine g_if_eqB (M := mX10_shift) (pc := 5) (tgt := 16) dX10_shift_5 (k1 := fun h5 => ?_) (k2 := fun h5 => ?_)
  · skip
    refine g_iconst (M := mX10_shift) (pc := 16) dX10_shift_16 (k := ?_)
    refine g_iret (M := mX10_shift) (pc := 17) rfl dX10_shift_17 rfl ⟨_, _, rfl, rfl, ?_⟩
    refine ⟨?_, ?_, ?_, ?_⟩
    · omega
    · unfold shiftX; first | exact Or.inl ⟨by first | omega | (refine ⟨by omega, by omega, ?_⟩; assumption), by first | rfl | omega, by first | rfl | exact hcp141.symm⟩ | exact Or.inr (Or.inl ⟨by first | omega | (refine ⟨by omega, by omega, ?_⟩; assumption), by first | rfl | omega, by first | rfl | exact hcp141.symm⟩) | exact Or.inr (Or.inr (Or.inl ⟨by first | omega | (refine ⟨by omega, by omega, ?_⟩; assumption), by first | rfl | omega, by first | rfl | exact hcp141.symm⟩)) | exact Or.inr (Or.inr (Or.inr (Or.inl ⟨by first | omega | (refine ⟨by omega, by omega, ?_⟩; assumption), by first | rfl | omega, by first | rfl | exact hcp141.symm⟩))) | exact Or.inr (Or.inr (Or.inr (Or.inr (⟨by first | omega | (refine ⟨by omega, by omega, ?_⟩; assumption), by first | rfl | omega, by first | rfl | exact hcp141.symm⟩))))
    · exact hI
    · exact (Fr.rf)
  · skip
    refine g_iload_n (M := mX10_shift) (pc := 8) dX10_shift_8 rfl (k := ?_)
    refine g_iconst (M := mX10_shift) (pc := 9) dX10_shift_9 (k := ?_)
    refine g_cS2I (M := mX10_shift) (pc := 10) (c_X10_isUpTo Γ t _ _ _ (by omega) (by omega)) qX10_isUpTo vX10_isUpTo kX10_58 dX10_shift_10 (kk := ?_)
    rintro _ _ ⟨e1, e⟩; rw [e1, e]; clear e1 e
    refine g_if_neB (M := mX10_shift) (pc := 13) (tgt := 18) dX10_shift_13 (k1 := fun h13 => ?_) (k2 := fun h13 => ?_)
    · skip
      refine g_aload_n (M := mX10_shift) (pc := 18) dX10_shift_18 rfl (k := ?_)
      refine g_getr (M := mX10_shift) (pc := 19) (by rfl) fX10_7 kX10_35 dX10_shift_19 (by rfl) (kk := ?_)
      refine g_getr (M := mX10_shift) (pc := 22) (by rfl) fX6_2 kX10_257 dX10_shift_22 (by rfl) (kk := ?_)
      refine g_iload_n (M := mX10_shift) (pc := 25) dX10_shift_25 rfl (k := ?_)
      refine g_iald (M := mX10_shift) (pc := 26) (by rfl) (by omega) (by omega) dX10_shift_26 (kk := fun hr26 => ?_)
      have hb26 := iv32_0 hI tp (by omega) (by omega)
      refine g_iconst (M := mX10_shift) (pc := 27) dX10_shift_27 (k := ?_)
      refine g_icmp_eq (M := mX10_shift) (pc := 28) (tgt := 44) (by omega) (by omega) dX10_shift_28 (k1 := fun h28 => ?_) (k2 := fun h28 => ?_)
      · skip
        refine g_bipush (M := mX10_shift) (pc := 44) dX10_shift_44 (k := ?_)
        refine g_iret (M := mX10_shift) (pc := 46) rfl dX10_shift_46 rfl ⟨_, _, rfl, rfl, ?_⟩
        refine ⟨?_, ?_, ?_, ?_⟩
        · omega
        · unfold shiftX; first | exact Or.inl ⟨by first | omega | (refine ⟨by omega, by omega, ?_⟩; assumption), by first | rfl | omega, by first | rfl | exact hcp141.symm⟩ | exact Or.inr (Or.inl ⟨by first | omega | (refine ⟨by omega, by omega, ?_⟩; assumption), by first | rfl | omega, by first | rfl | exact hcp141.symm⟩) | exact Or.inr (Or.inr (Or.inl ⟨by first | omega | (refine ⟨by omega, by omega, ?_⟩; assumption), by first | rfl | omega, by first | rfl | exact hcp141.symm⟩)) | exact Or.inr (Or.inr (Or.inr (Or.inl ⟨by first | omega | (refine ⟨by omega, by omega, ?_⟩; assumption), by first | rfl | omega, by first | rfl | exact hcp141.symm⟩))) | exact Or.inr (Or.inr (Or.inr (Or.inr (⟨by first | omega | (refine ⟨by omega, by omega, ?_⟩; assumption), by first | rfl | omega, by first | rfl | exact hcp141.symm⟩))))
        · exact hI
        · exact (Fr.rf)
      · skip
        refine g_aload_n (M := mX10_shift) (pc := 31) dX10_shift_31 rfl (k := ?_)
        refine g_getr (M := mX10_shift) (pc := 32) (by rfl) fX10_7 kX10_35 dX10_shift_32 (by rfl) (kk := ?_)
        refine g_getr (M := mX10_shift) (pc := 35) (by rfl) fX6_2 kX10_257 dX10_shift_35 (by rfl) (kk := ?_)
        refine g_iload_n (M := mX10_shift) (pc := 38) dX10_shift_38 rfl (k := ?_)
        refine g_iald (M := mX10_shift) (pc := 39) (by rfl) (by omega) (by omega) dX10_shift_39 (kk := fun hr39 => ?_)
        have hb39 := iv32_0 hI o (by omega) (by omega)
        refine g_iconst (M := mX10_shift) (pc := 40) dX10_shift_40 (k := ?_)
        refine g_icmp_ne (M := mX10_shift) (pc := 41) (tgt := 47) (by omega) (by omega) dX10_shift_41 (k1 := fun h41 => ?_) (k2 := fun h41 => ?_)
        · skip
          refine g_aload_n (M := mX10_shift) (pc := 47) dX10_shift_47 rfl (k := ?_)
          refine g_getr (M := mX10_shift) (pc := 48) (by rfl) fX10_7 kX10_35 dX10_shift_48 (by rfl) (kk := ?_)
          refine g_getr (M := mX10_shift) (pc := 51) (by rfl) fX6_2 kX10_257 dX10_shift_51 (by rfl) (kk := ?_)
          refine g_iload_n (M := mX10_shift) (pc := 54) dX10_shift_54 rfl (k := ?_)
          refine g_iald (M := mX10_shift) (pc := 55) (by rfl) (by omega) (by omega) dX10_shift_55 (kk := fun hr55 => ?_)
          refine g_aload_n (M := mX10_shift) (pc := 56) dX10_shift_56 rfl (k := ?_)
          refine g_getr (M := mX10_shift) (pc := 57) (by rfl) fX10_7 kX10_35 dX10_shift_57 (by rfl) (kk := ?_)
          refine g_getr (M := mX10_shift) (pc := 60) (by rfl) fX6_2 kX10_257 dX10_shift_60 (by rfl) (kk := ?_)
          refine g_iload_n (M := mX10_shift) (pc := 63) dX10_shift_63 rfl (k := ?_)
          refine g_iald (M := mX10_shift) (pc := 64) (by rfl) (by omega) (by omega) dX10_shift_64 (kk := fun hr64 => ?_)
          refine g_icmp_eq (M := mX10_shift) (pc := 65) (tgt := 71) (by omega) (by omega) dX10_shift_65 (k1 := fun h65 => ?_) (k2 := fun h65 => ?_)
          · skip
            refine g_iload (M := mX10_shift) (pc := 71) dX10_shift_71 rfl (k := ?_)
            refine g_if_lt (M := mX10_shift) (pc := 73) (tgt := 115) (by omega) dX10_shift_73 (k1 := fun h73 => ?_) (k2 := fun h73 => ?_)
            · skip
              refine g_bipush (M := mX10_shift) (pc := 115) dX10_shift_115 (k := ?_)
              refine g_iret (M := mX10_shift) (pc := 117) rfl dX10_shift_117 rfl ⟨_, _, rfl, rfl, ?_⟩
              refine ⟨?_, ?_, ?_, ?_⟩
              · omega
              · unfold shiftX; first | exact Or.inl ⟨by first | omega | (refine ⟨by omega, by omega, ?_⟩; assumption), by first | rfl | omega, by first | rfl | exact hcp141.symm⟩ | exact Or.inr (Or.inl ⟨by first | omega | (refine ⟨by omega, by omega, ?_⟩; assumption), by first | rfl | omega, by first | rfl | exact hcp141.symm⟩) | exact Or.inr (Or.inr (Or.inl ⟨by first | omega | (refine ⟨by omega, by omega, ?_⟩; assumption), by first | rfl | omega, by first | rfl | exact hcp141.symm⟩)) | exact Or.inr (Or.inr (Or.inr (Or.inl ⟨by first | omega | (refine ⟨by omega, by omega, ?_⟩; assumption), by first | rfl | omega, by first | rfl | exact hcp141.symm⟩))) | exact Or.inr (Or.inr (Or.inr (Or.inr (⟨by first | omega | (refine ⟨by omega, by omega, ?_⟩; assumption), by first | rfl | omega, by first | rfl | exact hcp141.symm⟩))))
              · exact hI
              · exact (Fr.rf)
            · skip
              refine g_iload_n (M := mX10_shift) (pc := 76) dX10_shift_76 rfl (k := ?_)
              refine g_aload_n (M := mX10_shift) (pc := 77) dX10_shift_77 rfl (k := ?_)
              refine g_getr (M := mX10_shift) (pc := 78) (by rfl) fX10_7 kX10_35 dX10_shift_78 (by rfl) (kk := ?_)
              refine g_getr (M := mX10_shift) (pc := 81) (by rfl) fX6_1 kX10_260 dX10_shift_81 (by rfl) (kk := ?_)
              refine g_iload_n (M := mX10_shift) (pc := 84) dX10_shift_84 rfl (k := ?_)
              refine g_iald (M := mX10_shift) (pc := 85) (by rfl) (by omega) (by omega) dX10_shift_85 (kk := fun hr85 => ?_)
              have hb85 := iv31_0 hI tp (by omega) (by omega)
              refine g_iload (M := mX10_shift) (pc := 86) dX10_shift_86 rfl (k := ?_)
              refine g_isub (M := mX10_shift) (pc := 88) dX10_shift_88 (k := ?_)
              refine g_cS2I (M := mX10_shift) (pc := 89) (c_X10_isUpTo Γ t _ _ _ (by omega) (by omega)) qX10_isUpTo vX10_isUpTo kX10_58 dX10_shift_89 (kk := ?_)
              rintro _ _ ⟨e1, e⟩; rw [e1, e]; clear e1 e
              refine g_if_eqB (M := mX10_shift) (pc := 92) (tgt := 115) dX10_shift_92 (k1 := fun h92 => ?_) (k2 := fun h92 => ?_)
              · skip
                refine g_bipush (M := mX10_shift) (pc := 115) dX10_shift_115 (k := ?_)
                refine g_iret (M := mX10_shift) (pc := 117) rfl dX10_shift_117 rfl ⟨_, _, rfl, rfl, ?_⟩
                refine ⟨?_, ?_, ?_, ?_⟩
                · omega
                · unfold shiftX; first | exact Or.inl ⟨by first | omega | (refine ⟨by omega, by omega, ?_⟩; assumption), by first | rfl | omega, by first | rfl | exact hcp141.symm⟩ | exact Or.inr (Or.inl ⟨by first | omega | (refine ⟨by omega, by omega, ?_⟩; assumption), by first | rfl | omega, by first | rfl | exact hcp141.symm⟩) | exact Or.inr (Or.inr (Or.inl ⟨by first | omega | (refine ⟨by omega, by omega, ?_⟩; assumption), by first | rfl | omega, by first | rfl | exact hcp141.symm⟩)) | exact Or.inr (Or.inr (Or.inr (Or.inl ⟨by first | omega | (refine ⟨by omega, by omega, ?_⟩; assumption), by first | rfl | omega, by first | rfl | exact hcp141.symm⟩))) | exact Or.inr (Or.inr (Or.inr (Or.inr (⟨by first | omega | (refine ⟨by omega, by omega, ?_⟩; assumption), by first | rfl | omega, by first | rfl | exact hcp141.symm⟩))))
                · exact hI
                · exact (Fr.rf)
              · skip
                refine g_iload (M := mX10_shift) (pc := 95) dX10_shift_95 rfl (k := ?_)
                refine g_aload_n (M := mX10_shift) (pc := 97) dX10_shift_97 rfl (k := ?_)
                refine g_getr (M := mX10_shift) (pc := 98) (by rfl) fX10_7 kX10_35 dX10_shift_98 (by rfl) (kk := ?_)
                refine g_getr (M := mX10_shift) (pc := 101) (by rfl) fX6_1 kX10_260 dX10_shift_101 (by rfl) (kk := ?_)
                refine g_iload_n (M := mX10_shift) (pc := 104) dX10_shift_104 rfl (k := ?_)
                refine g_iald (M := mX10_shift) (pc := 105) (by rfl) (by omega) (by omega) dX10_shift_105 (kk := fun hr105 => ?_)
                have hb105 := iv31_0 hI o (by omega) (by omega)
                refine g_iload (M := mX10_shift) (pc := 106) dX10_shift_106 rfl (k := ?_)
                refine g_isub (M := mX10_shift) (pc := 108) dX10_shift_108 (k := ?_)
                refine g_cS2I (M := mX10_shift) (pc := 109) (c_X10_isUpTo Γ t _ _ _ (by omega) (by omega)) qX10_isUpTo vX10_isUpTo kX10_58 dX10_shift_109 (kk := ?_)
                rintro _ _ ⟨e1, e⟩; rw [e1, e]; clear e1 e
                refine g_if_neB (M := mX10_shift) (pc := 112) (tgt := 118) dX10_shift_112 (k1 := fun h112 => ?_) (k2 := fun h112 => ?_)
                · skip
                  refine g_aload_n (M := mX10_shift) (pc := 118) dX10_shift_118 rfl (k := ?_)
                  refine g_getr (M := mX10_shift) (pc := 119) (by rfl) fX10_7 kX10_35 dX10_shift_119 (by rfl) (kk := ?_)
                  refine g_getr (M := mX10_shift) (pc := 122) (by rfl) fX6_0 kX10_263 dX10_shift_122 (by rfl) (kk := ?_)
                  refine g_iload_n (M := mX10_shift) (pc := 125) dX10_shift_125 rfl (k := ?_)
                  refine g_aald (M := mX10_shift) (pc := 126) (by rfl) (by decide) (by omega) (by omega) (items_ref (by omega) (by omega)) dX10_shift_126 (kk := ?_)
                  refine g_iload_n (M := mX10_shift) (pc := 127) dX10_shift_127 rfl (k := ?_)
                  refine g_aload_n (M := mX10_shift) (pc := 128) dX10_shift_128 rfl (k := ?_)
                  refine g_getr (M := mX10_shift) (pc := 129) (by rfl) fX10_7 kX10_35 dX10_shift_129 (by rfl) (kk := ?_)
                  refine g_getr (M := mX10_shift) (pc := 132) (by rfl) fX6_0 kX10_263 dX10_shift_132 (by rfl) (kk := ?_)
                  refine g_iload_n (M := mX10_shift) (pc := 135) dX10_shift_135 rfl (k := ?_)
                  refine g_aald (M := mX10_shift) (pc := 136) (by rfl) (by decide) (by omega) (by omega) (items_ref (by omega) (by omega)) dX10_shift_136 (kk := ?_)
                  refine g_iload (M := mX10_shift) (pc := 137) dX10_shift_137 rfl (k := ?_)
                  refine g_iload (M := mX10_shift) (pc := 139) dX10_shift_139 rfl (k := ?_)
                  refine g_copy (M := mX10_shift) (pc := 141) cpX10_299 (shp_item (by omega) (by omega)) (shp_item (by omega) (by omega)) (by decide) (by omega) (by omega) (by omega) (by omega) (by omega) dX10_shift_141 (by omega) (hk0 := by omega) (hk1 := by omega) (kk := ?_)
                  have hI141 := iv_cpyV (σ := σ) (k0 := 25 + Int.toNat tp) (k1 := 25 + Int.toNat o) (sp := i) (dp := j) (len := n) (by exact hI) (by omega)
                  have hF141 : Fr scTp σ (cpy σ (25 + Int.toNat tp) (25 + Int.toNat o) i j n) := by refine Fr.cpy ?_ (by intro j; first | rfl | (unfold scTp; simp; try omega)); exact (Fr.rf)
                  generalize hcp141 : cpy σ (25 + Int.toNat tp) (25 + Int.toNat o) i j n = τ141 at hI141 hF141 ⊢
                  refine g_iload (M := mX10_shift) (pc := 144) dX10_shift_144 rfl (k := ?_)
                  refine g_iret (M := mX10_shift) (pc := 146) rfl dX10_shift_146 rfl ⟨_, _, rfl, rfl, ?_⟩
                  refine ⟨?_, ?_, ?_, ?_⟩
                  · omega
                  · unfold shiftX; first | exact Or.inl ⟨by first | omega | (refine ⟨by omega, by omega, ?_⟩; assumption), by first | rfl | omega, by first | rfl | exact hcp141.symm⟩ | exact Or.inr (Or.inl ⟨by first | omega | (refine ⟨by omega, by omega, ?_⟩; assumption), by first | rfl | omega, by first | rfl | exact hcp141.symm⟩) | exact Or.inr (Or.inr (Or.inl ⟨by first | omega | (refine ⟨by omega, by omega, ?_⟩; assumption), by first | rfl | omega, by first | rfl | exact hcp141.symm⟩)) | exact Or.inr (Or.inr (Or.inr (Or.inl ⟨by first | omega | (refine ⟨by omega, by omega, ?_⟩; assumption), by first | rfl | omega, by first | rfl | exact hcp141.symm⟩))) | exact Or.inr (Or.inr (Or.inr (Or.inr (⟨by first | omega | (refine ⟨by omega, by omega, ?_⟩; assumption), by first | rfl | omega, by first | rfl | exact hcp141.symm⟩))))
                  · exact hI141
                  · exact hF141
                · skip
                  refine g_bipush (M := mX10_shift) (pc := 115) dX10_shift_115 (k := ?_)
                  refine g_iret (M := mX10_shift) (pc := 117) rfl dX10_shift_117 rfl ⟨_, _, rfl, rfl, ?_⟩
                  refine ⟨?_, ?_, ?_, ?_⟩
                  · omega
                  · unfold shiftX; first | exact Or.inl ⟨by first | omega | (refine ⟨by omega, by omega, ?_⟩; assumption), by first | rfl | omega, by first | rfl | exact hcp141.symm⟩ | exact Or.inr (Or.inl ⟨by first | omega | (refine ⟨by omega, by omega, ?_⟩; assumption), by first | rfl | omega, by first | rfl | exact hcp141.symm⟩) | exact Or.inr (Or.inr (Or.inl ⟨by first | omega | (refine ⟨by omega, by omega, ?_⟩; assumption), by first | rfl | omega, by first | rfl | exact hcp141.symm⟩)) | exact Or.inr (Or.inr (Or.inr (Or.inl ⟨by first | omega | (refine ⟨by omega, by omega, ?_⟩; assumption), by first | rfl | omega, by first | rfl | exact hcp141.symm⟩))) | exact Or.inr (Or.inr (Or.inr (Or.inr (⟨by first | omega | (refine ⟨by omega, by omega, ?_⟩; assumption), by first | rfl | omega, by first | rfl | exact hcp141.symm⟩))))
                  · exact hI
                  · exact (Fr.rf)
          · skip
            refine g_bipush (M := mX10_shift) (pc := 68) dX10_shift_68 (k := ?_)
            refine g_iret (M := mX10_shift) (pc := 70) rfl dX10_shift_70 rfl ⟨_, _, rfl, rfl, ?_⟩
            refine ⟨?_, ?_, ?_, ?_⟩
            · omega
            · unfold shiftX; first | exact Or.inl ⟨by first | omega | (refine ⟨by omega, by omega, ?_⟩; assumption), by first | rfl | omega, by first | rfl | exact hcp141.symm⟩ | exact Or.inr (Or.inl ⟨by first | omega | (refine ⟨by omega, by omega, ?_⟩; assumption), by first | rfl | omega, by first | rfl | exact hcp141.symm⟩) | exact Or.inr (Or.inr (Or.inl ⟨by first | omega | (refine ⟨by omega, by omega, ?_⟩; assumption), by first | rfl | omega, by first | rfl | exact hcp141.symm⟩)) | exact Or.inr (Or.inr (Or.inr (Or.inl ⟨by first | omega | (refine ⟨by omega, by omega, ?_⟩; assumption), by first | rfl | omega, by first | rfl | exact hcp141.symm⟩))) | exact Or.inr (Or.inr (Or.inr (Or.inr (⟨by first | omega | (refine ⟨by omega, by omega, ?_⟩; assumption), by first | rfl | omega, by first | rfl | exact hcp141.symm⟩))))
            · exact hI
            · exact (Fr.rf)
        · skip
          refine g_bipush (M := mX10_shift) (pc := 44) dX10_shift_44 (k := ?_)
          refine g_iret (M := mX10_shift) (pc := 46) rfl dX10_shift_46 rfl ⟨_, _, rfl, rfl, ?_⟩
          refine ⟨?_, ?_, ?_, ?_⟩
          · omega
          · unfold shiftX; first | exact Or.inl ⟨by first | omega | (refine ⟨by omega, by omega, ?_⟩; assumption), by first | rfl | omega, by first | rfl | exact hcp141.symm⟩ | exact Or.inr (Or.inl ⟨by first | omega | (refine ⟨by omega, by omega, ?_⟩; assumption), by first | rfl | omega, by first | rfl | exact hcp141.symm⟩) | exact Or.inr (Or.inr (Or.inl ⟨by first | omega | (refine ⟨by omega, by omega, ?_⟩; assumption), by first | rfl | omega, by first | rfl | exact hcp141.symm⟩)) | exact Or.inr (Or.inr (Or.inr (Or.inl ⟨by first | omega | (refine ⟨by omega, by omega, ?_⟩; assumption), by first | rfl | omega, by first | rfl | exact hcp141.symm⟩))) | exact Or.inr (Or.inr (Or.inr (Or.inr (⟨by first | omega | (refine ⟨by omega, by omega, ?_⟩; assumption), by first | rfl | omega, by first | rfl | exact hcp141.symm⟩))))
          · exact hI
          · exact (Fr.rf)
    · skip
      refine g_iconst (M := mX10_shift) (pc := 16) dX10_shift_16 (k := ?_)
      refine g_iret (M := mX10_shift) (pc := 17) rfl dX10_shift_17 rfl ⟨_, _, rfl, rfl, ?_⟩
      refine ⟨?_, ?_, ?_, ?_⟩
      · omega
      · unfold shiftX; first | exact Or.inl ⟨by first | omega | (refine ⟨by omega, by omega, ?_⟩; assumption), by first | rfl | omega, by first | rfl | exact hcp141.symm⟩ | exact Or.inr (Or.inl ⟨by first | omega | (refine ⟨by omega, by omega, ?_⟩; assumption), by first | rfl | omega, by first | rfl | exact hcp141.symm⟩) | exact Or.inr (Or.inr (Or.inl ⟨by first | omega | (refine ⟨by omega, by omega, ?_⟩; assumption), by first | rfl | omega, by first | rfl | exact hcp141.symm⟩)) | exact Or.inr (Or.inr (Or.inr (Or.inl ⟨by first | omega | (refine ⟨by omega, by omega, ?_⟩; assumption), by first | rfl | omega, by first | rfl | exact hcp141.symm⟩))) | exact Or.inr (Or.inr (Or.inr (Or.inr (⟨by first | omega | (refine ⟨by omega, by omega, ?_⟩; assumption), by first | rfl | omega, by first | rfl | exact hcp141.symm⟩))))
      · exact hI
      · exact (Fr.rf)
